abbrev Q9 (τ : Nat → Option Nat) (ρ : Nat → Nat → Nat) (h : pv_H) (a0 : Nat) (x1 : Int) : Option Value → pv_H → Prop := fun r h' => pv_Ty τ ρ h' ∧ pv_Fr τ [64, 1983] h h' ∧ r = none
set_option maxHeartbeats 4000000 in
set_option maxRecDepth 20000 in
/-- AngleNet$Tape.append(I)V -/
theorem c9 {τ : Nat → Option Nat} {ρ : Nat → Nat → Nat} {K : Nat → Nat} {h : pv_H} {a0 : Nat} {x1 : Int} (hT : pv_Ty τ ρ h) (hA0 : τ a0 = some 1) (hX1 : (-2147483648) ≤ x1 ∧ x1 ≤ 2147483647) : pv_C K 9 [.ref a0, .int (pv_I x1)] h (Q9 τ ρ h a0 x1) := by
  refine pw_entry 1 ?_
  show pv_T K 9 0 (pv_fl [some (.ref a0), some (.int (pv_I x1)), none]) [] h (Q9 τ ρ h a0 x1)
  have hF0 : pv_Fr τ [64, 1983] h h := pv_Fr.rf
  have L3 : ∀ (nn : Nat) (h_3 : pv_H) (xL2_3 : Int), (pv_Ty τ ρ h_3) → (pv_Fr τ [64, 1983] h h_3) → ((-2147483648) ≤ x1 ∧ x1 ≤ 2147483647) → ((-9) ≤ xL2_3 ∧ xL2_3 ≤ 24) → xL2_3 - (-9) < nn → pv_T K 9 3 (pv_fl [some (.ref a0), some (.int (pv_I x1)), some (.int (pv_I xL2_3))]) [] h_3 (Q9 τ ρ h a0 x1) := by
    intro nn
    induction nn with
    | zero => intro h_3 xL2_3 hT_3 hF_3 rL1_3 rL2_3 hm; exfalso; omega
    | succ nn ih3 =>
      intro h_3 xL2_3 hT_3 hF_3 rL1_3 rL2_3 hm3
      refine pw_iload_n d9_3 rfl ?_
      refine pw_if_lt d9_4 rfl (by omega) (fun c4982 => ?_) (fun c4982 => ?_)
      · exact pw_return d9_46 t9 ⟨hT_3, hF_3, rfl⟩
      · refine pw_aload_n d9_7 rfl ?_
        refine pw_getI d9_8 g9_26 hT_3 hA0 rfl rfl (fun u4983 vu4983 => ?_)
        refine pw_sipush d9_11 (by decide) ?_
        refine pw_icmp_ge d9_14 rfl (by omega) (by omega) (fun c4984 => ?_) (fun c4984 => ?_)
        · exact pw_return d9_46 t9 ⟨hT_3, hF_3, rfl⟩
        · refine pw_aload_n d9_17 rfl ?_
          refine pw_getR d9_18 g9_22 hT_3 hA0 rfl rfl (fun t4985 => ?_)
          have t4985 : τ (ρ a0 4) = some 30 := t4985
          refine pw_aload_n d9_21 rfl ?_
          refine pw_getI d9_22 g9_26 hT_3 hA0 rfl rfl (fun u4986 vu4986 => ?_)
          refine pw_iload_n d9_25 rfl ?_
          refine pw_iload_n d9_26 rfl ?_
          refine pw_ishr d9_27 (fun z4987 hz4987 ez4987 => ?_)
          refine pw_i2b d9_28 (fun z4988 hz4988 gz4988 ez4988 => ?_)
          refine pw_bastB d9_29 hT_3 t4985 rfl rfl rfl (by omega) (by omega) (fun h4989 T4990 F4991 E4992 => ?_)
          have f4993 := hF_3.tr (F4991.up (by decide))
          have q4994 := ((F4991 a0 1 hA0).1 0 (by decide)).1
          refine pw_aload_n d9_30 rfl ?_
          refine pw_dup d9_31 rfl ?_
          refine pw_getI d9_32 g9_26 T4990 hA0 rfl rfl (fun u4995 vu4995 => ?_)
          refine pw_iconst d9_35 ?_
          refine pw_iadd d9_36 ?_
          refine pw_putI d9_37 g9_26 w1_0 T4990 hA0 rfl rfl rfl (by omega) (by omega) (fun h4996 T4997 F4998 E4999 => ?_)
          have f5000 := f4993.tr (F4998.up (by decide))
          refine pw_iinc d9_40 m9 rfl rfl rfl ?_
          refine pw_goto d9_43 rfl ?_
          exact ih3 h4996 ((xL2_3 + (-8))) T4997 f5000 (by omega) (by omega) (by omega)
  refine pw_bipush d9_0 (by decide) ?_
  refine pw_istore_n d9_2 m9 rfl rfl ?_
  exact L3 _ h (24) hT hF0 (by omega) (by omega) (pv_mu _)

abbrev Q34 (τ : Nat → Option Nat) (ρ : Nat → Nat → Nat) (h : pv_H) (a0 : Nat) (x1 : Int) (x2 : Int) : Option Value → pv_H → Prop := fun r h' => pv_Ty τ ρ h' ∧ pv_Fr τ [65, 66] h h' ∧ ∃ z : Int, r = some (.int (pv_I z)) ∧ 0 ≤ z ∧ z ≤ 0 ∧ (z = 0)
set_option maxHeartbeats 4000000 in
set_option maxRecDepth 20000 in
/-- AngleNet$Tape.fail(II)Z -/
theorem c34 {τ : Nat → Option Nat} {ρ : Nat → Nat → Nat} {K : Nat → Nat} {h : pv_H} {a0 : Nat} {x1 : Int} {x2 : Int} (hT : pv_Ty τ ρ h) (hA0 : τ a0 = some 1) (hX1 : 0 ≤ x1 ∧ x1 ≤ 3) (hX2 : (-1) ≤ x2 ∧ x2 ≤ 1600) : pv_C K 34 [.ref a0, .int (pv_I x1), .int (pv_I x2)] h (Q34 τ ρ h a0 x1 x2) := by
  refine pw_entry 0 ?_
  show pv_T K 34 0 (pv_fl [some (.ref a0), some (.int (pv_I x1)), some (.int (pv_I x2))]) [] h (Q34 τ ρ h a0 x1 x2)
  have hF0 : pv_Fr τ [65, 66] h h := pv_Fr.rf
  refine pw_aload_n d34_0 rfl ?_
  refine pw_iload_n d34_1 rfl ?_
  refine pw_putI d34_2 g34_32 w1_1 hT hA0 rfl rfl rfl (by omega) (by omega) (fun h5023 T5024 F5025 E5026 => ?_)
  have f5027 := hF0.tr (F5025.up (by decide))
  refine pw_aload_n d34_5 rfl ?_
  refine pw_iload_n d34_6 rfl ?_
  refine pw_putI d34_7 g34_9 w1_2 T5024 hA0 rfl rfl rfl (by omega) (by omega) (fun h5028 T5029 F5030 E5031 => ?_)
  have f5032 := f5027.tr (F5030.up (by decide))
  have q5033 := ((F5030 a0 1 hA0).1 1 (by decide)).1
  refine pw_iconst d34_10 ?_
  exact pw_zreturn d34_11 t34 (by omega) ⟨T5029, f5032, 0, rfl, (by omega), (by omega), (by omega)⟩

abbrev Q17 (τ : Nat → Option Nat) (ρ : Nat → Nat → Nat) (h : pv_H) (x0 : Int) : Option Value → pv_H → Prop := fun r h' => h = h' ∧ ∃ z : Int, r = some (.int (pv_I z)) ∧ 0 ≤ z ∧ z ≤ 1
set_option maxHeartbeats 4000000 in
set_option maxRecDepth 20000 in
/-- AngleNet$Tape.isBlank(B)Z -/
theorem c17 {τ : Nat → Option Nat} {ρ : Nat → Nat → Nat} {K : Nat → Nat} {h : pv_H} {x0 : Int} (hX0 : (-128) ≤ x0 ∧ x0 ≤ 127) : pv_C K 17 [.int (pv_I x0)] h (Q17 τ ρ h x0) := by
  refine pw_entry 0 ?_
  show pv_T K 17 0 (pv_fl [some (.int (pv_I x0))]) [] h (Q17 τ ρ h x0)
  refine pw_iload_n d17_0 rfl ?_
  refine pw_bipush d17_1 (by decide) ?_
  refine pw_icmp_eq d17_3 rfl (by omega) (by omega) (fun c5038 => ?_) (fun c5038 => ?_)
  · refine pw_iconst d17_12 ?_
    refine pw_goto d17_13 rfl ?_
    exact pw_zreturn d17_17 t17 (by omega) ⟨rfl, 1, rfl, (by omega), (by omega)⟩
  · refine pw_iload_n d17_6 rfl ?_
    refine pw_bipush d17_7 (by decide) ?_
    refine pw_icmp_ne d17_9 rfl (by omega) (by omega) (fun c5039 => ?_) (fun c5039 => ?_)
    · refine pw_iconst d17_16 ?_
      exact pw_zreturn d17_17 t17 (by omega) ⟨rfl, 0, rfl, (by omega), (by omega)⟩
    · refine pw_iconst d17_12 ?_
      refine pw_goto d17_13 rfl ?_
      exact pw_zreturn d17_17 t17 (by omega) ⟨rfl, 1, rfl, (by omega), (by omega)⟩

abbrev Q18 (τ : Nat → Option Nat) (ρ : Nat → Nat → Nat) (h : pv_H) (x0 : Int) : Option Value → pv_H → Prop := fun r h' => h = h' ∧ ∃ z : Int, r = some (.int (pv_I z)) ∧ 1 ≤ z ∧ z ≤ 4
set_option maxHeartbeats 4000000 in
set_option maxRecDepth 20000 in
/-- AngleNet$Tape.kindOf(B)I -/
theorem c18 {τ : Nat → Option Nat} {ρ : Nat → Nat → Nat} {K : Nat → Nat} {h : pv_H} {x0 : Int} (hX0 : (-128) ≤ x0 ∧ x0 ≤ 127) : pv_C K 18 [.int (pv_I x0)] h (Q18 τ ρ h x0) := by
  refine pw_entry 0 ?_
  show pv_T K 18 0 (pv_fl [some (.int (pv_I x0))]) [] h (Q18 τ ρ h x0)
  have J28 : ∀ (_ : Unit), ((-128) ≤ x0 ∧ x0 ≤ 127) → pv_T K 18 28 (pv_fl [some (.int (pv_I x0))]) [] h (Q18 τ ρ h x0) := by
    intro _ rL0_28
    refine pw_iload_n d18_28 rfl ?_
    refine pw_bipush d18_29 (by decide) ?_
    refine pw_icmp_ne d18_31 rfl (by omega) (by omega) (fun c5050 => ?_) (fun c5050 => ?_)
    · refine pw_iconst d18_38 ?_
      exact pw_ireturn d18_39 t18 ⟨rfl, 4, rfl, (by omega), (by omega)⟩
    · refine pw_iconst d18_34 ?_
      refine pw_goto d18_35 rfl ?_
      exact pw_ireturn d18_39 t18 ⟨rfl, 3, rfl, (by omega), (by omega)⟩
  have J14 : ∀ (_ : Unit), ((-128) ≤ x0 ∧ x0 ≤ 127) → pv_T K 18 14 (pv_fl [some (.int (pv_I x0))]) [] h (Q18 τ ρ h x0) := by
    intro _ rL0_14
    refine pw_iload_n d18_14 rfl ?_
    refine pw_bipush d18_15 (by decide) ?_
    refine pw_icmp_lt d18_17 rfl (by omega) (by omega) (fun c5051 => ?_) (fun c5051 => ?_)
    · exact J28 () (by omega)
    · refine pw_iload_n d18_20 rfl ?_
      refine pw_bipush d18_21 (by decide) ?_
      refine pw_icmp_gt d18_23 rfl (by omega) (by omega) (fun c5052 => ?_) (fun c5052 => ?_)
      · exact J28 () (by omega)
      · refine pw_iconst d18_26 ?_
        exact pw_ireturn d18_27 t18 ⟨rfl, 2, rfl, (by omega), (by omega)⟩
  refine pw_iload_n d18_0 rfl ?_
  refine pw_bipush d18_1 (by decide) ?_
  refine pw_icmp_lt d18_3 rfl (by omega) (by omega) (fun c5053 => ?_) (fun c5053 => ?_)
  · exact J14 () (by omega)
  · refine pw_iload_n d18_6 rfl ?_
    refine pw_bipush d18_7 (by decide) ?_
    refine pw_icmp_gt d18_9 rfl (by omega) (by omega) (fun c5054 => ?_) (fun c5054 => ?_)
    · exact J14 () (by omega)
    · refine pw_iconst d18_12 ?_
      exact pw_ireturn d18_13 t18 ⟨rfl, 1, rfl, (by omega), (by omega)⟩

abbrev Q16 (τ : Nat → Option Nat) (ρ : Nat → Nat → Nat) (h : pv_H) (a0 : Nat) : Option Value → pv_H → Prop := fun r h' => pv_Ty τ ρ h' ∧ pv_Fr τ [69, 70, 71] h h' ∧ r = none
set_option maxHeartbeats 4000000 in
set_option maxRecDepth 20000 in
/-- AngleNet$Tape.advance()V -/
theorem c16 {τ : Nat → Option Nat} {ρ : Nat → Nat → Nat} {K : Nat → Nat} {h : pv_H} {a0 : Nat} (hT : pv_Ty τ ρ h) (hA0 : τ a0 = some 1) : pv_C K 16 [.ref a0] h (Q16 τ ρ h a0) := by
  refine pw_entry 0 ?_
  show pv_T K 16 0 (pv_fl [some (.ref a0)]) [] h (Q16 τ ρ h a0)
  have hF0 : pv_Fr τ [69, 70, 71] h h := pv_Fr.rf
  have L98 : ∀ (nn : Nat) (h_98 : pv_H), (pv_Ty τ ρ h_98) → (pv_Fr τ [69, 70, 71] h h_98) → (0 ≤ pv_fI h_98 a0 6 ∧ pv_fI h_98 a0 6 ≤ 1600) → 1600 - pv_fI h_98 a0 6 < nn → pv_T K 16 98 (pv_fl [some (.ref a0)]) [] h_98 (Q16 τ ρ h a0) := by
    intro nn
    induction nn with
    | zero => intro h_98 hT_98 hF_98 i0_98 hm; exfalso; omega
    | succ nn ih98 =>
      intro h_98 hT_98 hF_98 i0_98 hm98
      have J125 : ∀ (_ : Unit), (0 ≤ pv_fI h_98 a0 6 ∧ pv_fI h_98 a0 6 ≤ 1599) → pv_T K 16 125 (pv_fl [some (.ref a0)]) [] h_98 (Q16 τ ρ h a0) := by
        intro _ i0_125
        refine pw_aload_n d16_125 rfl ?_
        refine pw_getR d16_126 g16_22 hT_98 hA0 rfl rfl (fun t5247 => ?_)
        have t5247 : τ (ρ a0 4) = some 30 := t5247
        refine pw_aload_n d16_129 rfl ?_
        refine pw_getI d16_130 g16_35 hT_98 hA0 rfl rfl (fun u5248 vu5248 => ?_)
        refine pw_bald d16_133 hT_98 t5247 rfl (by decide) rfl (by omega) (by omega) (fun u5249 vu5249 => ?_)
        refine pw_callS1 d16_134 k16_66 rfl rfl (c18 (τ := τ) (ρ := ρ) (by omega)) (fun r5250 h5251 q5252 => ?_)
        obtain ⟨eh5251, z5255, ez5255, lz5255, uz5255⟩ := q5252
        subst eh5251
        subst ez5255
        refine pw_aload_n d16_137 rfl ?_
        refine pw_getI d16_138 g16_45 hT_98 hA0 rfl rfl (fun u5256 vu5256 => ?_)
        refine pw_icmp_ne d16_141 rfl (by omega) (by omega) (fun c5257 => ?_) (fun c5257 => ?_)
        · exact pw_return d16_157 t16 ⟨hT_98, hF_98, rfl⟩
        · refine pw_aload_n d16_144 rfl ?_
          refine pw_dup d16_145 rfl ?_
          refine pw_getI d16_146 g16_35 hT_98 hA0 rfl rfl (fun u5258 vu5258 => ?_)
          refine pw_iconst d16_149 ?_
          refine pw_iadd d16_150 ?_
          refine pw_putI d16_151 g16_35 w1_6 hT_98 hA0 rfl rfl rfl (by omega) (by omega) (fun h5259 T5260 F5261 E5262 => ?_)
          have f5263 := hF_98.tr (F5261.up (by decide))
          have q5264 := ((F5261 a0 1 hA0).1 7 (by decide)).1
          refine pw_goto d16_154 rfl ?_
          exact ih98 h5259 T5260 f5263 (by omega) (by omega)
      refine pw_aload_n d16_98 rfl ?_
      refine pw_getI d16_99 g16_35 hT_98 hA0 rfl rfl (fun u5265 vu5265 => ?_)
      refine pw_aload_n d16_102 rfl ?_
      refine pw_getI d16_103 g16_26 hT_98 hA0 rfl rfl (fun u5266 vu5266 => ?_)
      refine pw_icmp_ge d16_106 rfl (by omega) (by omega) (fun c5267 => ?_) (fun c5267 => ?_)
      · exact pw_return d16_157 t16 ⟨hT_98, hF_98, rfl⟩
      · refine pw_aload_n d16_109 rfl ?_
        refine pw_getI d16_110 g16_45 hT_98 hA0 rfl rfl (fun u5268 vu5268 => ?_)
        refine pw_iconst d16_113 ?_
        refine pw_icmp_eq d16_114 rfl (by omega) (by omega) (fun c5269 => ?_) (fun c5269 => ?_)
        · exact J125 () (by omega)
        · refine pw_aload_n d16_117 rfl ?_
          refine pw_getI d16_118 g16_45 hT_98 hA0 rfl rfl (fun u5270 vu5270 => ?_)
          refine pw_iconst d16_121 ?_
          refine pw_icmp_ne d16_122 rfl (by omega) (by omega) (fun c5271 => ?_) (fun c5271 => ?_)
          · exact pw_return d16_157 t16 ⟨hT_98, hF_98, rfl⟩
          · exact J125 () (by omega)
  have J47 : ∀ (h_47 : pv_H), (pv_Ty τ ρ h_47) → (pv_Fr τ [69, 70, 71] h h_47) → pv_T K 16 47 (pv_fl [some (.ref a0)]) [] h_47 (Q16 τ ρ h a0) := by
    intro h_47 hT_47 hF_47
    refine pw_aload_n d16_47 rfl ?_
    refine pw_getI d16_48 g16_52 hT_47 hA0 rfl rfl (fun u5272 vu5272 => ?_)
    refine pw_aload_n d16_51 rfl ?_
    refine pw_getI d16_52 g16_26 hT_47 hA0 rfl rfl (fun u5273 vu5273 => ?_)
    refine pw_icmp_lt d16_55 rfl (by omega) (by omega) (fun c5274 => ?_) (fun c5274 => ?_)
    · refine pw_aload_n d16_72 rfl ?_
      refine pw_aload_n d16_73 rfl ?_
      refine pw_getR d16_74 g16_22 hT_47 hA0 rfl rfl (fun t5275 => ?_)
      have t5275 : τ (ρ a0 4) = some 30 := t5275
      refine pw_aload_n d16_77 rfl ?_
      refine pw_getI d16_78 g16_52 hT_47 hA0 rfl rfl (fun u5276 vu5276 => ?_)
      refine pw_bald d16_81 hT_47 t5275 rfl (by decide) rfl (by omega) (by omega) (fun u5277 vu5277 => ?_)
      refine pw_callS1 d16_82 k16_66 rfl rfl (c18 (τ := τ) (ρ := ρ) (by omega)) (fun r5278 h5279 q5280 => ?_)
      obtain ⟨eh5279, z5283, ez5283, lz5283, uz5283⟩ := q5280
      subst eh5279
      subst ez5283
      refine pw_putI d16_85 g16_45 w1_7 hT_47 hA0 rfl rfl rfl (by omega) (by omega) (fun h5284 T5285 F5286 E5287 => ?_)
      have f5288 := hF_47.tr (F5286.up (by decide))
      have q5289 := ((F5286 a0 1 hA0).1 0 (by decide)).1
      have q5290 := ((F5286 a0 1 hA0).1 5 (by decide)).1
      refine pw_aload_n d16_88 rfl ?_
      refine pw_aload_n d16_89 rfl ?_
      refine pw_getI d16_90 g16_52 T5285 hA0 rfl rfl (fun u5291 vu5291 => ?_)
      refine pw_iconst d16_93 ?_
      refine pw_iadd d16_94 ?_
      refine pw_putI d16_95 g16_35 w1_6 T5285 hA0 rfl rfl rfl (by omega) (by omega) (fun h5292 T5293 F5294 E5295 => ?_)
      have f5296 := f5288.tr (F5294.up (by decide))
      have q5297 := ((F5294 a0 1 hA0).1 0 (by decide)).1
      have q5298 := ((F5294 a0 1 hA0).1 5 (by decide)).1
      have q5299 := ((F5294 a0 1 hA0).1 7 (by decide)).1
      exact L98 _ h5292 T5293 f5296 (by omega) (pv_mu _)
    · refine pw_aload_n d16_58 rfl ?_
      refine pw_iconst d16_59 ?_
      refine pw_putI d16_60 g16_45 w1_7 hT_47 hA0 rfl rfl rfl (by omega) (by omega) (fun h5300 T5301 F5302 E5303 => ?_)
      have f5304 := hF_47.tr (F5302.up (by decide))
      have q5305 := ((F5302 a0 1 hA0).1 0 (by decide)).1
      have q5306 := ((F5302 a0 1 hA0).1 5 (by decide)).1
      refine pw_aload_n d16_63 rfl ?_
      refine pw_aload_n d16_64 rfl ?_
      refine pw_getI d16_65 g16_52 T5301 hA0 rfl rfl (fun u5307 vu5307 => ?_)
      refine pw_putI d16_68 g16_35 w1_6 T5301 hA0 rfl rfl rfl (by omega) (by omega) (fun h5308 T5309 F5310 E5311 => ?_)
      have f5312 := f5304.tr (F5310.up (by decide))
      have q5313 := ((F5310 a0 1 hA0).1 0 (by decide)).1
      have q5314 := ((F5310 a0 1 hA0).1 5 (by decide)).1
      have q5315 := ((F5310 a0 1 hA0).1 7 (by decide)).1
      exact pw_return d16_71 t16 ⟨T5309, f5312, rfl⟩
  have L8 : ∀ (nn : Nat) (h_8 : pv_H), (pv_Ty τ ρ h_8) → (pv_Fr τ [69, 70, 71] h h_8) → (0 ≤ pv_fI h_8 a0 5 ∧ pv_fI h_8 a0 5 ≤ 1600) → 1600 - pv_fI h_8 a0 5 < nn → pv_T K 16 8 (pv_fl [some (.ref a0)]) [] h_8 (Q16 τ ρ h a0) := by
    intro nn
    induction nn with
    | zero => intro h_8 hT_8 hF_8 i0_8 hm; exfalso; omega
    | succ nn ih8 =>
      intro h_8 hT_8 hF_8 i0_8 hm8
      refine pw_aload_n d16_8 rfl ?_
      refine pw_getI d16_9 g16_52 hT_8 hA0 rfl rfl (fun u5316 vu5316 => ?_)
      refine pw_aload_n d16_12 rfl ?_
      refine pw_getI d16_13 g16_26 hT_8 hA0 rfl rfl (fun u5317 vu5317 => ?_)
      refine pw_icmp_ge d16_16 rfl (by omega) (by omega) (fun c5318 => ?_) (fun c5318 => ?_)
      · exact J47 h_8 hT_8 hF_8
      · refine pw_aload_n d16_19 rfl ?_
        refine pw_getR d16_20 g16_22 hT_8 hA0 rfl rfl (fun t5319 => ?_)
        have t5319 : τ (ρ a0 4) = some 30 := t5319
        refine pw_aload_n d16_23 rfl ?_
        refine pw_getI d16_24 g16_52 hT_8 hA0 rfl rfl (fun u5320 vu5320 => ?_)
        refine pw_bald d16_27 hT_8 t5319 rfl (by decide) rfl (by omega) (by omega) (fun u5321 vu5321 => ?_)
        refine pw_callS1 d16_28 k16_62 rfl rfl (c17 (τ := τ) (ρ := ρ) (by omega)) (fun r5322 h5323 q5324 => ?_)
        obtain ⟨eh5323, z5327, ez5327, lz5327, uz5327⟩ := q5324
        subst eh5323
        subst ez5327
        refine pw_if_eq d16_31 rfl (by omega) (fun c5328 => ?_) (fun c5328 => ?_)
        · exact J47 h_8 hT_8 hF_8
        · refine pw_aload_n d16_34 rfl ?_
          refine pw_dup d16_35 rfl ?_
          refine pw_getI d16_36 g16_52 hT_8 hA0 rfl rfl (fun u5329 vu5329 => ?_)
          refine pw_iconst d16_39 ?_
          refine pw_iadd d16_40 ?_
          refine pw_putI d16_41 g16_52 w1_5 hT_8 hA0 rfl rfl rfl (by omega) (by omega) (fun h5330 T5331 F5332 E5333 => ?_)
          have f5334 := hF_8.tr (F5332.up (by decide))
          have q5335 := ((F5332 a0 1 hA0).1 0 (by decide)).1
          refine pw_goto d16_44 rfl ?_
          exact ih8 h5330 T5331 f5334 (by omega) (by omega)
  refine pw_aload_n d16_0 rfl ?_
  refine pw_aload_n d16_1 rfl ?_
  refine pw_getI d16_2 g16_35 hT hA0 rfl rfl (fun u5336 vu5336 => ?_)
  refine pw_putI d16_5 g16_52 w1_5 hT hA0 rfl rfl rfl (by omega) (by omega) (fun h5337 T5338 F5339 E5340 => ?_)
  have f5341 := hF0.tr (F5339.up (by decide))
  have q5342 := ((F5339 a0 1 hA0).1 6 (by decide)).1
  exact L8 _ h5337 T5338 f5341 (by omega) (pv_mu _)

abbrev Q35 (τ : Nat → Option Nat) (ρ : Nat → Nat → Nat) (h : pv_H) (a0 : Nat) : Option Value → pv_H → Prop := fun r h' => h = h' ∧ ∃ z : Int, r = some (.int (pv_I z)) ∧ (-2147483648) ≤ z ∧ z ≤ 2147483647
set_option maxHeartbeats 4000000 in
set_option maxRecDepth 20000 in
/-- AngleNet$Tape.valueOfToken()I -/
theorem c35 {τ : Nat → Option Nat} {ρ : Nat → Nat → Nat} {K : Nat → Nat} {h : pv_H} {a0 : Nat} (hT : pv_Ty τ ρ h) (hA0 : τ a0 = some 1) : pv_C K 35 [.ref a0] h (Q35 τ ρ h a0) := by
  refine pw_entry 2 ?_
  show pv_T K 35 0 (pv_fl [some (.ref a0), none, none]) [] h (Q35 τ ρ h a0)
  have L7 : ∀ (nn : Nat) (xL1_7 xL2_7 : Int), ((-2147483648) ≤ xL1_7 ∧ xL1_7 ≤ 2147483647) → (0 ≤ xL2_7 ∧ xL2_7 ≤ 1600) → 1600 - xL2_7 < nn → pv_T K 35 7 (pv_fl [some (.ref a0), some (.int (pv_I xL1_7)), some (.int (pv_I xL2_7))]) [] h (Q35 τ ρ h a0) := by
    intro nn
    induction nn with
    | zero => intro xL1_7 xL2_7 rL1_7 rL2_7 hm; exfalso; omega
    | succ nn ih7 =>
      intro xL1_7 xL2_7 rL1_7 rL2_7 hm7
      have J40 : ∀ (xS0_40 : Int) (o1_40 : Option Value), (0 ≤ xL2_7 ∧ xL2_7 ≤ 1599) → ((-21474836656) ≤ xS0_40 ∧ xS0_40 ≤ 2147483646) → pv_T K 35 40 (pv_fl [some (.ref a0), o1_40, some (.int (pv_I xL2_7))]) [.int (pv_I xS0_40)] h (Q35 τ ρ h a0) := by
        intro xS0_40 o1_40 rL2_40 rS0_40
        refine pw_any (fun z5382 hz5382 ez5382 => ?_)
        refine pw_istore_n d35_40 m35 rfl rfl ?_
        refine pw_iinc d35_41 m35 rfl rfl rfl ?_
        refine pw_goto d35_44 rfl ?_
        exact ih7 (z5382) ((xL2_7 + 1)) (by omega) (by omega) (by omega)
      refine pw_iload_n d35_7 rfl ?_
      refine pw_aload_n d35_8 rfl ?_
      refine pw_getI d35_9 g35_35 hT hA0 rfl rfl (fun u5383 vu5383 => ?_)
      refine pw_icmp_ge d35_12 rfl (by omega) (by omega) (fun c5384 => ?_) (fun c5384 => ?_)
      · refine pw_iload_n d35_47 rfl ?_
        exact pw_ireturn d35_48 t35 ⟨rfl, xL1_7, rfl, (by omega), (by omega)⟩
      · refine pw_iload_n d35_15 rfl ?_
        refine pw_ldc (v := pv_I 1000000) d35_16 n35_16 ?_
        refine pw_icmp_ge d35_18 rfl (by omega) (by omega) (fun c5385 => ?_) (fun c5385 => ?_)
        · refine pw_ldc (v := pv_I 1000000) d35_38 n35_38 ?_
          exact J40 (1000000) _ (by omega) (by omega)
        · refine pw_bipush d35_21 (by decide) ?_
          refine pw_iload_n d35_23 rfl ?_
          refine pw_imul d35_24 ?_
          refine pw_aload_n d35_25 rfl ?_
          refine pw_getR d35_26 g35_22 hT hA0 rfl rfl (fun t5386 => ?_)
          have t5386 : τ (ρ a0 4) = some 30 := t5386
          refine pw_iload_n d35_29 rfl ?_
          refine pw_bald d35_30 hT t5386 rfl (by decide) rfl (by omega) (by omega) (fun u5387 vu5387 => ?_)
          refine pw_iadd d35_31 ?_
          refine pw_bipush d35_32 (by decide) ?_
          refine pw_isub d35_34 ?_
          refine pw_goto d35_35 rfl ?_
          exact J40 ((((10 * xL1_7) + (pv_aI h (ρ a0 4) (xL2_7).toNat)) - 48)) _ (by omega) (by omega)
  refine pw_iconst d35_0 ?_
  refine pw_istore_n d35_1 m35 rfl rfl ?_
  refine pw_aload_n d35_2 rfl ?_
  refine pw_getI d35_3 g35_52 hT hA0 rfl rfl (fun u5388 vu5388 => ?_)
  refine pw_istore_n d35_6 m35 rfl rfl ?_
  exact L7 _ (0) ((pv_fI h a0 5)) (by omega) (by omega) (pv_mu _)

abbrev Q20 (τ : Nat → Option Nat) (ρ : Nat → Nat → Nat) (h : pv_H) (a0 : Nat) (s1 : Nat) : Option Value → pv_H → Prop := fun r h' => pv_Ty τ ρ h' ∧ pv_Fr τ [69, 70, 71] h h' ∧ ∃ z : Int, r = some (.int (pv_I z)) ∧ 0 ≤ z ∧ z ≤ 1
set_option maxHeartbeats 4000000 in
set_option maxRecDepth 20000 in
/-- AngleNet$Tape.takeWord(Ljava/lang/String;)Z -/
theorem c20 {τ : Nat → Option Nat} {ρ : Nat → Nat → Nat} {K : Nat → Nat} {h : pv_H} {a0 : Nat} {s1 : Nat} (hK : pv_Kok K) (hT : pv_Ty τ ρ h) (hA0 : τ a0 = some 1) (hS1 : s1 < 9) : pv_C K 20 [.ref a0, .ref (K s1)] h (Q20 τ ρ h a0 s1) := by
  refine pw_entry 1 ?_
  show pv_T K 20 0 (pv_fl [some (.ref a0), some (.ref (K s1)), none]) [] h (Q20 τ ρ h a0 s1)
  have hF0 : pv_Fr τ [69, 70, 71] h h := pv_Fr.rf
  have L28 : ∀ (nn : Nat) (xL2_28 : Int), (0 ≤ xL2_28 ∧ xL2_28 ≤ 6) → (pv_fI h a0 6 - pv_fI h a0 5 = (pv_len.getD s1 0 : Int)) → (pv_fI h a0 6 ≤ 1600) → 6 - xL2_28 < nn → pv_T K 20 28 (pv_fl [some (.ref a0), some (.ref (K s1)), some (.int (pv_I xL2_28))]) [] h (Q20 τ ρ h a0 s1) := by
    intro nn
    induction nn with
    | zero => intro xL2_28 rL2_28 i0_28 i1_28 hm; exfalso; omega
    | succ nn ih28 =>
      intro xL2_28 rL2_28 i0_28 i1_28 hm28
      refine pw_iload_n d20_28 rfl ?_
      refine pw_aload_n d20_29 rfl ?_
      refine pw_slen d20_30 k20_71 hK hS1 rfl (fun u5499 vu5499 => ?_)
      refine pw_icmp_ge d20_33 rfl (by omega) (by omega) (fun c5500 => ?_) (fun c5500 => ?_)
      · refine pw_aload_n d20_63 rfl ?_
        refine pw_callV0 d20_64 k20_42 hT hA0 rfl rfl rfl (c16 (τ := τ) (ρ := ρ) hT hA0) (fun r5501 h5502 q5503 => ?_)
        obtain ⟨T5504, F5505, ez5506⟩ := q5503
        subst ez5506
        have f5507 := hF0.tr (F5505.up (by decide))
        refine pw_iconst d20_67 ?_
        exact pw_zreturn d20_68 t20 (by omega) ⟨T5504, f5507, 1, rfl, (by omega), (by omega)⟩
      · refine pw_aload_n d20_36 rfl ?_
        refine pw_getR d20_37 g20_22 hT hA0 rfl rfl (fun t5508 => ?_)
        have t5508 : τ (ρ a0 4) = some 30 := t5508
        refine pw_aload_n d20_40 rfl ?_
        refine pw_getI d20_41 g20_52 hT hA0 rfl rfl (fun u5509 vu5509 => ?_)
        refine pw_iload_n d20_44 rfl ?_
        refine pw_iadd d20_45 ?_
        refine pw_bald d20_46 hT t5508 rfl (by decide) rfl (by omega) (by omega) (fun u5510 vu5510 => ?_)
        refine pw_aload_n d20_47 rfl ?_
        refine pw_iload_n d20_48 rfl ?_
        refine pw_scha d20_49 k20_76 hK hS1 rfl (by omega) (by omega) (fun z5511 hz5511 ez5511 => ?_)
        refine pw_icmp_eq d20_52 rfl (by omega) (by omega) (fun c5512 => ?_) (fun c5512 => ?_)
        · refine pw_iinc d20_57 m20 rfl rfl rfl ?_
          refine pw_goto d20_60 rfl ?_
          exact ih28 ((xL2_28 + 1)) (by omega) (by omega) (by omega) (by omega)
        · refine pw_iconst d20_55 ?_
          exact pw_zreturn d20_56 t20 (by omega) ⟨hT, hF0, 0, rfl, (by omega), (by omega)⟩
  refine pw_aload_n d20_0 rfl ?_
  refine pw_getI d20_1 g20_45 hT hA0 rfl rfl (fun u5513 vu5513 => ?_)
  refine pw_iconst d20_4 ?_
  refine pw_icmp_ne d20_5 rfl (by omega) (by omega) (fun c5514 => ?_) (fun c5514 => ?_)
  · refine pw_iconst d20_24 ?_
    exact pw_zreturn d20_25 t20 (by omega) ⟨hT, hF0, 0, rfl, (by omega), (by omega)⟩
  · refine pw_aload_n d20_8 rfl ?_
    refine pw_getI d20_9 g20_35 hT hA0 rfl rfl (fun u5515 vu5515 => ?_)
    refine pw_aload_n d20_12 rfl ?_
    refine pw_getI d20_13 g20_52 hT hA0 rfl rfl (fun u5516 vu5516 => ?_)
    refine pw_isub d20_16 ?_
    refine pw_aload_n d20_17 rfl ?_
    refine pw_slen d20_18 k20_71 hK hS1 rfl (fun u5517 vu5517 => ?_)
    refine pw_icmp_eq d20_21 rfl (by omega) (by omega) (fun c5518 => ?_) (fun c5518 => ?_)
    · refine pw_iconst d20_26 ?_
      refine pw_istore_n d20_27 m20 rfl rfl ?_
      exact L28 _ (0) (by omega) (by omega) (by omega) (pv_mu _)
    · refine pw_iconst d20_24 ?_
      exact pw_zreturn d20_25 t20 (by omega) ⟨hT, hF0, 0, rfl, (by omega), (by omega)⟩

abbrev Q33 (τ : Nat → Option Nat) (ρ : Nat → Nat → Nat) (h : pv_H) (a0 : Nat) (x1 : Int) (x2 : Int) : Option Value → pv_H → Prop := fun r h' => pv_Ty τ ρ h' ∧ pv_Fr τ [65, 66, 69, 70, 71, 72, 73] h h' ∧ ∃ z : Int, r = some (.int (pv_I z)) ∧ 0 ≤ z ∧ z ≤ 1 ∧ (z = 1 → x1 ≤ pv_fI h' a0 8 ∧ pv_fI h' a0 8 ≤ x2)
set_option maxHeartbeats 4000000 in
set_option maxRecDepth 20000 in
/-- AngleNet$Tape.takeNumber(II)Z -/
theorem c33 {τ : Nat → Option Nat} {ρ : Nat → Nat → Nat} {K : Nat → Nat} {h : pv_H} {a0 : Nat} {x1 : Int} {x2 : Int} (hT : pv_Ty τ ρ h) (hA0 : τ a0 = some 1) (hX1 : (-2147483648) ≤ x1 ∧ x1 ≤ 2147483647) (hX2 : (-2147483648) ≤ x2 ∧ x2 ≤ 2147483647) : pv_C K 33 [.ref a0, .int (pv_I x1), .int (pv_I x2)] h (Q33 τ ρ h a0 x1 x2) := by
  refine pw_entry 0 ?_
  show pv_T K 33 0 (pv_fl [some (.ref a0), some (.int (pv_I x1)), some (.int (pv_I x2))]) [] h (Q33 τ ρ h a0 x1 x2)
  have hF0 : pv_Fr τ [65, 66, 69, 70, 71, 72, 73] h h := pv_Fr.rf
  have J50 : ∀ (h_50 : pv_H) (o1_50 o2_50 : Option Value), (pv_Ty τ ρ h_50) → (pv_Fr τ [65, 66, 69, 70, 71, 72, 73] h h_50) → pv_T K 33 50 (pv_fl [some (.ref a0), o1_50, o2_50]) [] h_50 (Q33 τ ρ h a0 x1 x2) := by
    intro h_50 o1_50 o2_50 hT_50 hF_50
    refine pw_aload_n d33_50 rfl ?_
    refine pw_iconst d33_51 ?_
    refine pw_aload_n d33_52 rfl ?_
    refine pw_getI d33_53 g33_86 hT_50 hA0 rfl rfl (fun u5629 vu5629 => ?_)
    refine pw_callV2 d33_56 k33_55 hT_50 hA0 rfl rfl rfl (c34 (τ := τ) (ρ := ρ) hT_50 hA0 (by omega) (by omega)) (fun r5630 h5631 q5632 => ?_)
    obtain ⟨T5633, F5634, z5635, ez5635, lz5635, uz5635, pz5635_0⟩ := q5632
    subst ez5635
    have f5636 := hF_50.tr (F5634.up (by decide))
    have q5637 := ((F5634 a0 1 hA0).1 9 (by decide)).1
    exact pw_zreturn d33_59 t33 (by omega) ⟨T5633, f5636, z5635, rfl, (by omega), (by omega), (by omega)⟩
  refine pw_aload_n d33_0 rfl ?_
  refine pw_getI d33_1 g33_45 hT hA0 rfl rfl (fun u5638 vu5638 => ?_)
  refine pw_iconst d33_4 ?_
  refine pw_icmp_eq d33_5 rfl (by omega) (by omega) (fun c5639 => ?_) (fun c5639 => ?_)
  · refine pw_aload_n d33_18 rfl ?_
    refine pw_aload_n d33_19 rfl ?_
    refine pw_callV0 d33_20 k33_80 hT hA0 rfl rfl rfl (c35 (τ := τ) (ρ := ρ) hT hA0) (fun r5640 h5641 q5642 => ?_)
    obtain ⟨eh5641, z5645, ez5645, lz5645, uz5645⟩ := q5642
    subst eh5641
    subst ez5645
    refine pw_putI d33_23 g33_83 w1_8 hT hA0 rfl rfl rfl (by omega) (by omega) (fun h5646 T5647 F5648 E5649 => ?_)
    have f5650 := hF0.tr (F5648.up (by decide))
    have q5651 := ((F5648 a0 1 hA0).1 7 (by decide)).1
    refine pw_aload_n d33_26 rfl ?_
    refine pw_aload_n d33_27 rfl ?_
    refine pw_getI d33_28 g33_52 T5647 hA0 rfl rfl (fun u5652 vu5652 => ?_)
    refine pw_putI d33_31 g33_86 w1_9 T5647 hA0 rfl rfl rfl (by omega) (by omega) (fun h5653 T5654 F5655 E5656 => ?_)
    have f5657 := f5650.tr (F5655.up (by decide))
    have q5658 := ((F5655 a0 1 hA0).1 5 (by decide)).1
    have q5659 := ((F5655 a0 1 hA0).1 7 (by decide)).1
    have q5660 := ((F5655 a0 1 hA0).1 8 (by decide)).1
    refine pw_aload_n d33_34 rfl ?_
    refine pw_getI d33_35 g33_83 T5654 hA0 rfl rfl (fun u5661 vu5661 => ?_)
    refine pw_iload_n d33_38 rfl ?_
    refine pw_icmp_lt d33_39 rfl (by omega) (by omega) (fun c5662 => ?_) (fun c5662 => ?_)
    · exact J50 h5653 _ _ T5654 f5657
    · refine pw_aload_n d33_42 rfl ?_
      refine pw_getI d33_43 g33_83 T5654 hA0 rfl rfl (fun u5663 vu5663 => ?_)
      refine pw_iload_n d33_46 rfl ?_
      refine pw_icmp_le d33_47 rfl (by omega) (by omega) (fun c5664 => ?_) (fun c5664 => ?_)
      · refine pw_aload_n d33_60 rfl ?_
        refine pw_callV0 d33_61 k33_42 T5654 hA0 rfl rfl rfl (c16 (τ := τ) (ρ := ρ) T5654 hA0) (fun r5665 h5666 q5667 => ?_)
        obtain ⟨T5668, F5669, ez5670⟩ := q5667
        subst ez5670
        have f5671 := f5657.tr (F5669.up (by decide))
        have q5672 := ((F5669 a0 1 hA0).1 8 (by decide)).1
        have q5673 := ((F5669 a0 1 hA0).1 9 (by decide)).1
        refine pw_iconst d33_64 ?_
        exact pw_zreturn d33_65 t33 (by omega) ⟨T5668, f5671, 1, rfl, (by omega), (by omega), (by omega)⟩
      · exact J50 h5653 _ _ T5654 f5657
  · refine pw_aload_n d33_8 rfl ?_
    refine pw_iconst d33_9 ?_
    refine pw_aload_n d33_10 rfl ?_
    refine pw_getI d33_11 g33_52 hT hA0 rfl rfl (fun u5674 vu5674 => ?_)
    refine pw_callV2 d33_14 k33_55 hT hA0 rfl rfl rfl (c34 (τ := τ) (ρ := ρ) hT hA0 (by omega) (by omega)) (fun r5675 h5676 q5677 => ?_)
    obtain ⟨T5678, F5679, z5680, ez5680, lz5680, uz5680, pz5680_0⟩ := q5677
    subst ez5680
    have f5681 := hF0.tr (F5679.up (by decide))
    have q5682 := ((F5679 a0 1 hA0).1 5 (by decide)).1
    have q5683 := ((F5679 a0 1 hA0).1 7 (by decide)).1
    exact pw_zreturn d33_17 t33 (by omega) ⟨T5678, f5681, z5680, rfl, (by omega), (by omega), (by omega)⟩

abbrev Q38 (τ : Nat → Option Nat) (ρ : Nat → Nat → Nat) (h : pv_H) (a0 : Nat) : Option Value → pv_H → Prop := fun r h' => pv_Ty τ ρ h' ∧ pv_Fr τ [65, 66, 69, 70, 71, 72, 73] h h' ∧ ∃ z : Int, r = some (.int (pv_I z)) ∧ 0 ≤ z ∧ z ≤ 1 ∧ (z = 1 → 0 ≤ pv_fI h' a0 8 ∧ pv_fI h' a0 8 ≤ 9)
set_option maxHeartbeats 4000000 in
set_option maxRecDepth 20000 in
/-- AngleNet$Tape.takePost()Z -/
theorem c38 {τ : Nat → Option Nat} {ρ : Nat → Nat → Nat} {K : Nat → Nat} {h : pv_H} {a0 : Nat} (hT : pv_Ty τ ρ h) (hA0 : τ a0 = some 1) : pv_C K 38 [.ref a0] h (Q38 τ ρ h a0) := by
  refine pw_entry 0 ?_
  show pv_T K 38 0 (pv_fl [some (.ref a0)]) [] h (Q38 τ ρ h a0)
  have hF0 : pv_Fr τ [65, 66, 69, 70, 71, 72, 73] h h := pv_Fr.rf
  refine pw_aload_n d38_0 rfl ?_
  refine pw_iconst d38_1 ?_
  refine pw_aload_n d38_2 rfl ?_
  refine pw_getR d38_3 g38_18 hT hA0 rfl rfl (fun t5704 => ?_)
  have t5704 : τ (ρ a0 3) = some 2 := t5704
  refine pw_getI d38_6 g38_89 hT t5704 rfl rfl (fun u5705 vu5705 => ?_)
  refine pw_iconst d38_9 ?_
  refine pw_isub d38_10 ?_
  refine pw_callV2 d38_11 k38_92 hT hA0 rfl rfl rfl (c33 (τ := τ) (ρ := ρ) hT hA0 (by omega) (by omega)) (fun r5706 h5707 q5708 => ?_)
  obtain ⟨T5709, F5710, z5711, ez5711, lz5711, uz5711, pz5711_0⟩ := q5708
  subst ez5711
  have f5712 := hF0.tr (F5710.up (by decide))
  have q5713 := ((F5710 (ρ a0 3) 2 t5704).1 0 (by decide)).1
  exact pw_zreturn d38_14 t38 (by omega) ⟨T5709, f5712, z5711, rfl, (by omega), (by omega), (by omega)⟩

abbrev Q32 (τ : Nat → Option Nat) (ρ : Nat → Nat → Nat) (h : pv_H) (a0 : Nat) : Option Value → pv_H → Prop := fun r h' => pv_Ty τ ρ h' ∧ pv_Fr τ [65, 66, 69, 70, 71, 72, 73, 128, 131, 132] h h' ∧ ∃ z : Int, r = some (.int (pv_I z)) ∧ 0 ≤ z ∧ z ≤ 1
set_option maxHeartbeats 4000000 in
set_option maxRecDepth 20000 in
/-- AngleNet$Tape.readPosts()Z -/
theorem c32 {τ : Nat → Option Nat} {ρ : Nat → Nat → Nat} {K : Nat → Nat} {h : pv_H} {a0 : Nat} (hT : pv_Ty τ ρ h) (hA0 : τ a0 = some 1) : pv_C K 32 [.ref a0] h (Q32 τ ρ h a0) := by
  refine pw_entry 0 ?_
  show pv_T K 32 0 (pv_fl [some (.ref a0)]) [] h (Q32 τ ρ h a0)
  have hF0 : pv_Fr τ [65, 66, 69, 70, 71, 72, 73, 128, 131, 132] h h := pv_Fr.rf
  refine pw_aload_n d32_0 rfl ?_
  refine pw_iconst d32_1 ?_
  refine pw_bipush d32_2 (by decide) ?_
  refine pw_callV2 d32_4 k32_92 hT hA0 rfl rfl rfl (c33 (τ := τ) (ρ := ρ) hT hA0 (by omega) (by omega)) (fun r5750 h5751 q5752 => ?_)
  obtain ⟨T5753, F5754, z5755, ez5755, lz5755, uz5755, pz5755_0⟩ := q5752
  subst ez5755
  have f5756 := hF0.tr (F5754.up (by decide))
  refine pw_if_ne d32_7 rfl (by omega) (fun c5757 => ?_) (fun c5757 => ?_)
  · refine pw_aload_n d32_12 rfl ?_
    refine pw_getR d32_13 g32_18 T5753 hA0 rfl rfl (fun t5758 => ?_)
    have t5758 : τ (ρ a0 3) = some 2 := t5758
    refine pw_aload_n d32_16 rfl ?_
    refine pw_getI d32_17 g32_83 T5753 hA0 rfl rfl (fun u5759 vu5759 => ?_)
    refine pw_callV1 d32_20 k32_135 T5753 t5758 rfl rfl rfl (c36 (τ := τ) (ρ := ρ) T5753 t5758 (by omega)) (fun r5760 h5761 q5762 => ?_)
    obtain ⟨T5763, F5764, ez5765⟩ := q5762
    subst ez5765
    have f5766 := f5756.tr (F5764.up (by decide))
    have q5767 := ((F5764 a0 1 hA0).1 8 (by decide)).1
    refine pw_iconst d32_23 ?_
    exact pw_zreturn d32_24 t32 (by omega) ⟨T5763, f5766, 1, rfl, (by omega), (by omega)⟩
  · refine pw_iconst d32_10 ?_
    exact pw_zreturn d32_11 t32 (by omega) ⟨T5753, f5756, 0, rfl, (by omega), (by omega)⟩

abbrev Q41 (τ : Nat → Option Nat) (ρ : Nat → Nat → Nat) (h : pv_H) (a0 : Nat) (x1 : Int) (x2 : Int) (x3 : Int) : Option Value → pv_H → Prop := fun r h' => pv_Ty τ ρ h' ∧ pv_Fr τ [65, 66, 69, 70, 71, 72, 73, 129, 1343, 1407, 1791] h h' ∧ ∃ z : Int, r = some (.int (pv_I z)) ∧ 0 ≤ z ∧ z ≤ 1
set_option maxHeartbeats 4000000 in
set_option maxRecDepth 20000 in
/-- AngleNet$Tape.readSum(III)Z -/
theorem c41 {τ : Nat → Option Nat} {ρ : Nat → Nat → Nat} {K : Nat → Nat} {h : pv_H} {a0 : Nat} {x1 : Int} {x2 : Int} {x3 : Int} (hK : pv_Kok K) (hT : pv_Ty τ ρ h) (hA0 : τ a0 = some 1) (hX1 : 0 ≤ x1 ∧ x1 ≤ 9) (hX2 : 0 ≤ x2 ∧ x2 ≤ 9) (hX3 : 0 ≤ x3 ∧ x3 ≤ 9) (hP0 : pv_fI h (ρ a0 3) 1 ≤ 17) : pv_C K 41 [.ref a0, .int (pv_I x1), .int (pv_I x2), .int (pv_I x3)] h (Q41 τ ρ h a0 x1 x2 x3) := by
  refine pw_entry 1 ?_
  show pv_T K 41 0 (pv_fl [some (.ref a0), some (.int (pv_I x1)), some (.int (pv_I x2)), some (.int (pv_I x3)), none]) [] h (Q41 τ ρ h a0 x1 x2 x3)
  have hR0_3 : τ (ρ a0 3) = some 2 := hT.rf (t' := 2) hA0 rfl rfl
  have hF0 : pv_Fr τ [65, 66, 69, 70, 71, 72, 73, 129, 1343, 1407, 1791] h h := pv_Fr.rf
  have J33 : ∀ (h_33 : pv_H) (xL4_33 : Int), (pv_Ty τ ρ h_33) → (pv_Fr τ [65, 66, 69, 70, 71, 72, 73, 129, 1343, 1407, 1791] h h_33) → (0 ≤ x1 ∧ x1 ≤ 9) → (0 ≤ x2 ∧ x2 ≤ 9) → (0 ≤ x3 ∧ x3 ≤ 9) → (3 ≤ xL4_33 ∧ xL4_33 ≤ 540) → (pv_fI h_33 (ρ a0 3) 1 ≤ 17) → pv_T K 41 33 (pv_fl [some (.ref a0), some (.int (pv_I x1)), some (.int (pv_I x2)), some (.int (pv_I x3)), some (.int (pv_I xL4_33))]) [] h_33 (Q41 τ ρ h a0 x1 x2 x3) := by
    intro h_33 xL4_33 hT_33 hF_33 rL1_33 rL2_33 rL3_33 rL4_33 i0_33
    refine pw_aload_n d41_33 rfl ?_
    refine pw_getR d41_34 g41_18 hT_33 hA0 rfl rfl (fun t5842 => ?_)
    have t5842 : τ (ρ a0 3) = some 2 := t5842
    refine pw_aload_n d41_37 rfl ?_
    refine pw_getR d41_38 g41_18 hT_33 hA0 rfl rfl (fun t5843 => ?_)
    have t5843 : τ (ρ a0 3) = some 2 := t5843
    refine pw_getI d41_41 g41_105 hT_33 t5843 rfl rfl (fun u5844 vu5844 => ?_)
    refine pw_iload_n d41_44 rfl ?_
    refine pw_iload_n d41_45 rfl ?_
    refine pw_iload_n d41_46 rfl ?_
    refine pw_iload d41_47 rfl ?_
    refine pw_callV5 d41_49 k41_151 hT_33 t5843 rfl rfl rfl (c42 (τ := τ) (ρ := ρ) hT_33 t5843 (by omega) (by omega) (by omega) (by omega) (by omega)) (fun r5845 h5846 q5847 => ?_)
    obtain ⟨T5848, F5849, ez5850⟩ := q5847
    subst ez5850
    have f5851 := hF_33.tr (F5849.up (by decide))
    have q5852 := ((F5849 (ρ a0 3) 2 t5843).1 1 (by decide)).1
    refine pw_aload_n d41_52 rfl ?_
    refine pw_getR d41_53 g41_18 T5848 hA0 rfl rfl (fun t5853 => ?_)
    have t5853 : τ (ρ a0 3) = some 2 := t5853
    refine pw_dup d41_56 rfl ?_
    refine pw_getI d41_57 g41_105 T5848 t5853 rfl rfl (fun u5854 vu5854 => ?_)
    refine pw_iconst d41_60 ?_
    refine pw_iadd d41_61 ?_
    refine pw_putI d41_62 g41_105 w2_1 T5848 t5853 rfl rfl rfl (by omega) (by omega) (fun h5855 T5856 F5857 E5858 => ?_)
    have f5859 := f5851.tr (F5857.up (by decide))
    refine pw_iconst d41_65 ?_
    exact pw_zreturn d41_66 t41 (by omega) ⟨T5856, f5859, 1, rfl, (by omega), (by omega)⟩
  refine pw_sipush d41_0 (by decide) ?_
  refine pw_istore d41_3 m41 rfl rfl ?_
  refine pw_aload_n d41_5 rfl ?_
  refine pw_ldcS d41_6 n41_6.1 n41_6.2 ?_
  refine pw_callV1 d41_8 k41_96 hT hA0 rfl rfl rfl (c20 (τ := τ) (ρ := ρ) hK hT hA0 (by decide)) (fun r5860 h5861 q5862 => ?_)
  obtain ⟨T5863, F5864, z5865, ez5865, lz5865, uz5865⟩ := q5862
  subst ez5865
  have f5866 := hF0.tr (F5864.up (by decide))
  have q5867 := ((F5864 (ρ a0 3) 2 hR0_3).1 1 (by decide)).1
  refine pw_if_eq d41_11 rfl (by omega) (fun c5868 => ?_) (fun c5868 => ?_)
  · exact J33 h5861 (180) T5863 f5866 (by omega) (by omega) (by omega) (by omega) (by omega)
  · refine pw_aload_n d41_14 rfl ?_
    refine pw_iconst d41_15 ?_
    refine pw_sipush d41_16 (by decide) ?_
    refine pw_callV2 d41_19 k41_92 T5863 hA0 rfl rfl rfl (c33 (τ := τ) (ρ := ρ) T5863 hA0 (by omega) (by omega)) (fun r5869 h5870 q5871 => ?_)
    obtain ⟨T5872, F5873, z5874, ez5874, lz5874, uz5874, pz5874_0⟩ := q5871
    subst ez5874
    have f5875 := f5866.tr (F5873.up (by decide))
    have q5876 := ((F5873 (ρ a0 3) 2 hR0_3).1 1 (by decide)).1
    refine pw_if_ne d41_22 rfl (by omega) (fun c5877 => ?_) (fun c5877 => ?_)
    · refine pw_aload_n d41_27 rfl ?_
      refine pw_getI d41_28 g41_83 T5872 hA0 rfl rfl (fun u5878 vu5878 => ?_)
      refine pw_istore d41_31 m41 rfl rfl ?_
      exact J33 h5870 ((pv_fI h5870 a0 8)) T5872 f5875 (by omega) (by omega) (by omega) (by omega) (by omega)
    · refine pw_iconst d41_25 ?_
      exact pw_zreturn d41_26 t41 (by omega) ⟨T5872, f5875, 0, rfl, (by omega), (by omega)⟩

abbrev Q37 (τ : Nat → Option Nat) (ρ : Nat → Nat → Nat) (h : pv_H) (a0 : Nat) : Option Value → pv_H → Prop := fun r h' => pv_Ty τ ρ h' ∧ pv_Fr τ [65, 66, 69, 70, 71, 72, 73, 129, 1343, 1407, 1791] h h' ∧ ∃ z : Int, r = some (.int (pv_I z)) ∧ 0 ≤ z ∧ z ≤ 1
set_option maxHeartbeats 4000000 in
set_option maxRecDepth 20000 in
/-- AngleNet$Tape.readThird()Z -/
theorem c37 {τ : Nat → Option Nat} {ρ : Nat → Nat → Nat} {K : Nat → Nat} {h : pv_H} {a0 : Nat} (hK : pv_Kok K) (hT : pv_Ty τ ρ h) (hA0 : τ a0 = some 1) (hP0 : pv_fI h (ρ a0 3) 1 ≤ 17) : pv_C K 37 [.ref a0] h (Q37 τ ρ h a0) := by
  refine pw_entry 3 ?_
  show pv_T K 37 0 (pv_fl [some (.ref a0), none, none, none]) [] h (Q37 τ ρ h a0)
  have hR0_3 : τ (ρ a0 3) = some 2 := hT.rf (t' := 2) hA0 rfl rfl
  have hF0 : pv_Fr τ [65, 66, 69, 70, 71, 72, 73, 129, 1343, 1407, 1791] h h := pv_Fr.rf
  have J80 : ∀ (h_80 : pv_H) (o1_80 o2_80 o3_80 : Option Value), (pv_Ty τ ρ h_80) → (pv_Fr τ [65, 66, 69, 70, 71, 72, 73, 129, 1343, 1407, 1791] h h_80) → pv_T K 37 80 (pv_fl [some (.ref a0), o1_80, o2_80, o3_80]) [] h_80 (Q37 τ ρ h a0) := by
    intro h_80 o1_80 o2_80 o3_80 hT_80 hF_80
    refine pw_aload_n d37_80 rfl ?_
    refine pw_iconst d37_81 ?_
    refine pw_aload_n d37_82 rfl ?_
    refine pw_getI d37_83 g37_86 hT_80 hA0 rfl rfl (fun u6017 vu6017 => ?_)
    refine pw_callV2 d37_86 k37_55 hT_80 hA0 rfl rfl rfl (c34 (τ := τ) (ρ := ρ) hT_80 hA0 (by omega) (by omega)) (fun r6018 h6019 q6020 => ?_)
    obtain ⟨T6021, F6022, z6023, ez6023, lz6023, uz6023, pz6023_0⟩ := q6020
    subst ez6023
    have f6024 := hF_80.tr (F6022.up (by decide))
    have q6025 := ((F6022 (ρ a0 3) 2 hR0_3).1 1 (by decide)).1
    have q6026 := ((F6022 a0 1 hA0).1 9 (by decide)).1
    exact pw_zreturn d37_89 t37 (by omega) ⟨T6021, f6024, z6023, rfl, (by omega), (by omega)⟩
  refine pw_aload_n d37_0 rfl ?_
  refine pw_callV0 d37_1 k37_139 hT hA0 rfl rfl rfl (c38 (τ := τ) (ρ := ρ) hT hA0) (fun r6027 h6028 q6029 => ?_)
  obtain ⟨T6030, F6031, z6032, ez6032, lz6032, uz6032, pz6032_0⟩ := q6029
  subst ez6032
  have f6033 := hF0.tr (F6031.up (by decide))
  have q6034 := ((F6031 (ρ a0 3) 2 hR0_3).1 1 (by decide)).1
  refine pw_if_ne d37_4 rfl (by omega) (fun c6035 => ?_) (fun c6035 => ?_)
  · refine pw_aload_n d37_9 rfl ?_
    refine pw_getI d37_10 g37_83 T6030 hA0 rfl rfl (fun u6036 vu6036 => ?_)
    refine pw_istore_n d37_13 m37 rfl rfl ?_
    refine pw_aload_n d37_14 rfl ?_
    refine pw_callV0 d37_15 k37_139 T6030 hA0 rfl rfl rfl (c38 (τ := τ) (ρ := ρ) T6030 hA0) (fun r6037 h6038 q6039 => ?_)
    obtain ⟨T6040, F6041, z6042, ez6042, lz6042, uz6042, pz6042_0⟩ := q6039
    subst ez6042
    have f6043 := f6033.tr (F6041.up (by decide))
    have q6044 := ((F6041 (ρ a0 3) 2 hR0_3).1 1 (by decide)).1
    refine pw_if_ne d37_18 rfl (by omega) (fun c6045 => ?_) (fun c6045 => ?_)
    · refine pw_aload_n d37_23 rfl ?_
      refine pw_getI d37_24 g37_83 T6040 hA0 rfl rfl (fun u6046 vu6046 => ?_)
      refine pw_istore_n d37_27 m37 rfl rfl ?_
      refine pw_iload_n d37_28 rfl ?_
      refine pw_iload_n d37_29 rfl ?_
      refine pw_icmp_ne d37_30 rfl (by omega) (by omega) (fun c6047 => ?_) (fun c6047 => ?_)
      · refine pw_aload_n d37_43 rfl ?_
        refine pw_callV0 d37_44 k37_139 T6040 hA0 rfl rfl rfl (c38 (τ := τ) (ρ := ρ) T6040 hA0) (fun r6048 h6049 q6050 => ?_)
        obtain ⟨T6051, F6052, z6053, ez6053, lz6053, uz6053, pz6053_0⟩ := q6050
        subst ez6053
        have f6054 := f6043.tr (F6052.up (by decide))
        have q6055 := ((F6052 (ρ a0 3) 2 hR0_3).1 1 (by decide)).1
        refine pw_if_ne d37_47 rfl (by omega) (fun c6056 => ?_) (fun c6056 => ?_)
        · refine pw_aload_n d37_52 rfl ?_
          refine pw_getI d37_53 g37_83 T6051 hA0 rfl rfl (fun u6057 vu6057 => ?_)
          refine pw_istore_n d37_56 m37 rfl rfl ?_
          refine pw_iload_n d37_57 rfl ?_
          refine pw_iload_n d37_58 rfl ?_
          refine pw_icmp_eq d37_59 rfl (by omega) (by omega) (fun c6058 => ?_) (fun c6058 => ?_)
          · exact J80 h6049 _ _ _ T6051 f6054
          · refine pw_iload_n d37_62 rfl ?_
            refine pw_iload_n d37_63 rfl ?_
            refine pw_icmp_eq d37_64 rfl (by omega) (by omega) (fun c6059 => ?_) (fun c6059 => ?_)
            · exact J80 h6049 _ _ _ T6051 f6054
            · refine pw_aload_n d37_67 rfl ?_
              refine pw_getR d37_68 g37_18 T6051 hA0 rfl rfl (fun t6060 => ?_)
              have t6060 : τ (ρ a0 3) = some 2 := t6060
              refine pw_iload_n d37_71 rfl ?_
              refine pw_iload_n d37_72 rfl ?_
              refine pw_iload_n d37_73 rfl ?_
              refine pw_callV3 d37_74 k37_142 T6051 t6060 rfl rfl rfl (c39 (τ := τ) (ρ := ρ) T6051 t6060 (by omega) (by omega) (by omega)) (fun r6061 h6062 q6063 => ?_)
              obtain ⟨eh6062, z6066, ez6066, lz6066, uz6066⟩ := q6063
              subst eh6062
              subst ez6066
              refine pw_if_ne d37_77 rfl (by omega) (fun c6067 => ?_) (fun c6067 => ?_)
              · refine pw_aload_n d37_90 rfl ?_
                refine pw_iload_n d37_91 rfl ?_
                refine pw_iload_n d37_92 rfl ?_
                refine pw_iload_n d37_93 rfl ?_
                refine pw_callV3 d37_94 k37_146 T6051 hA0 rfl rfl rfl (c41 (τ := τ) (ρ := ρ) hK T6051 hA0 (by omega) (by omega) (by omega) (by omega)) (fun r6068 h6069 q6070 => ?_)
                obtain ⟨T6071, F6072, z6073, ez6073, lz6073, uz6073⟩ := q6070
                subst ez6073
                have f6074 := f6054.tr (F6072.up (by decide))
                exact pw_zreturn d37_97 t37 (by omega) ⟨T6071, f6074, z6073, rfl, (by omega), (by omega)⟩
              · exact J80 h6049 _ _ _ T6051 f6054
        · refine pw_iconst d37_50 ?_
          exact pw_zreturn d37_51 t37 (by omega) ⟨T6051, f6054, 0, rfl, (by omega), (by omega)⟩
      · refine pw_aload_n d37_33 rfl ?_
        refine pw_iconst d37_34 ?_
        refine pw_aload_n d37_35 rfl ?_
        refine pw_getI d37_36 g37_86 T6040 hA0 rfl rfl (fun u6075 vu6075 => ?_)
        refine pw_callV2 d37_39 k37_55 T6040 hA0 rfl rfl rfl (c34 (τ := τ) (ρ := ρ) T6040 hA0 (by omega) (by omega)) (fun r6076 h6077 q6078 => ?_)
        obtain ⟨T6079, F6080, z6081, ez6081, lz6081, uz6081, pz6081_0⟩ := q6078
        subst ez6081
        have f6082 := f6043.tr (F6080.up (by decide))
        have q6083 := ((F6080 (ρ a0 3) 2 hR0_3).1 1 (by decide)).1
        have q6084 := ((F6080 a0 1 hA0).1 8 (by decide)).1
        have q6085 := ((F6080 a0 1 hA0).1 9 (by decide)).1
        exact pw_zreturn d37_42 t37 (by omega) ⟨T6079, f6082, z6081, rfl, (by omega), (by omega)⟩
    · refine pw_iconst d37_21 ?_
      exact pw_zreturn d37_22 t37 (by omega) ⟨T6040, f6043, 0, rfl, (by omega), (by omega)⟩
  · refine pw_iconst d37_7 ?_
    exact pw_zreturn d37_8 t37 (by omega) ⟨T6030, f6033, 0, rfl, (by omega), (by omega)⟩

abbrev Q44 (τ : Nat → Option Nat) (ρ : Nat → Nat → Nat) (h : pv_H) (a0 : Nat) : Option Value → pv_H → Prop := fun r h' => pv_Ty τ ρ h' ∧ pv_Fr τ [65, 66, 69, 70, 71, 72, 73, 1471] h h' ∧ ∃ z : Int, r = some (.int (pv_I z)) ∧ 0 ≤ z ∧ z ≤ 1
set_option maxHeartbeats 4000000 in
set_option maxRecDepth 20000 in
/-- AngleNet$Tape.readAngle()Z -/
theorem c44 {τ : Nat → Option Nat} {ρ : Nat → Nat → Nat} {K : Nat → Nat} {h : pv_H} {a0 : Nat} (hT : pv_Ty τ ρ h) (hA0 : τ a0 = some 1) : pv_C K 44 [.ref a0] h (Q44 τ ρ h a0) := by
  refine pw_entry 1 ?_
  show pv_T K 44 0 (pv_fl [some (.ref a0), none]) [] h (Q44 τ ρ h a0)
  have hF0 : pv_Fr τ [65, 66, 69, 70, 71, 72, 73, 1471] h h := pv_Fr.rf
  refine pw_aload_n d44_0 rfl ?_
  refine pw_callV0 d44_1 k44_139 hT hA0 rfl rfl rfl (c38 (τ := τ) (ρ := ρ) hT hA0) (fun r6138 h6139 q6140 => ?_)
  obtain ⟨T6141, F6142, z6143, ez6143, lz6143, uz6143, pz6143_0⟩ := q6140
  subst ez6143
  have f6144 := hF0.tr (F6142.up (by decide))
  refine pw_if_ne d44_4 rfl (by omega) (fun c6145 => ?_) (fun c6145 => ?_)
  · refine pw_aload_n d44_9 rfl ?_
    refine pw_getI d44_10 g44_83 T6141 hA0 rfl rfl (fun u6146 vu6146 => ?_)
    refine pw_istore_n d44_13 m44 rfl rfl ?_
    refine pw_aload_n d44_14 rfl ?_
    refine pw_iconst d44_15 ?_
    refine pw_sipush d44_16 (by decide) ?_
    refine pw_callV2 d44_19 k44_92 T6141 hA0 rfl rfl rfl (c33 (τ := τ) (ρ := ρ) T6141 hA0 (by omega) (by omega)) (fun r6147 h6148 q6149 => ?_)
    obtain ⟨T6150, F6151, z6152, ez6152, lz6152, uz6152, pz6152_0⟩ := q6149
    subst ez6152
    have f6153 := f6144.tr (F6151.up (by decide))
    refine pw_if_ne d44_22 rfl (by omega) (fun c6154 => ?_) (fun c6154 => ?_)
    · refine pw_aload_n d44_27 rfl ?_
      refine pw_getR d44_28 g44_18 T6150 hA0 rfl rfl (fun t6155 => ?_)
      have t6155 : τ (ρ a0 3) = some 2 := t6155
      refine pw_getR d44_31 g44_155 T6150 t6155 rfl rfl (fun t6156 => ?_)
      have t6156 : τ (ρ (ρ a0 3) 7) = some 22 := t6156
      refine pw_iload_n d44_34 rfl ?_
      refine pw_aload_n d44_35 rfl ?_
      refine pw_getI d44_36 g44_83 T6150 hA0 rfl rfl (fun u6157 vu6157 => ?_)
      refine pw_iast d44_39 T6150 t6156 rfl rfl rfl (by omega) (by omega) (by omega) (by omega) (fun h6158 T6159 F6160 E6161 => ?_)
      have f6162 := f6153.tr (F6160.up (by decide))
      have q6163 := ((F6160 a0 1 hA0).1 8 (by decide)).1
      refine pw_iconst d44_40 ?_
      exact pw_zreturn d44_41 t44 (by omega) ⟨T6159, f6162, 1, rfl, (by omega), (by omega)⟩
    · refine pw_iconst d44_25 ?_
      exact pw_zreturn d44_26 t44 (by omega) ⟨T6150, f6153, 0, rfl, (by omega), (by omega)⟩
  · refine pw_iconst d44_7 ?_
    exact pw_zreturn d44_8 t44 (by omega) ⟨T6141, f6144, 0, rfl, (by omega), (by omega)⟩

abbrev Q45 (τ : Nat → Option Nat) (ρ : Nat → Nat → Nat) (h : pv_H) (a0 : Nat) : Option Value → pv_H → Prop := fun r h' => pv_Ty τ ρ h' ∧ pv_Fr τ [65, 66, 69, 70, 71, 72, 73, 74, 131, 132] h h' ∧ ∃ z : Int, r = some (.int (pv_I z)) ∧ 0 ≤ z ∧ z ≤ 1
set_option maxHeartbeats 4000000 in
set_option maxRecDepth 20000 in
/-- AngleNet$Tape.readCorner()Z -/
theorem c45 {τ : Nat → Option Nat} {ρ : Nat → Nat → Nat} {K : Nat → Nat} {h : pv_H} {a0 : Nat} (hK : pv_Kok K) (hT : pv_Ty τ ρ h) (hA0 : τ a0 = some 1) : pv_C K 45 [.ref a0] h (Q45 τ ρ h a0) := by
  refine pw_entry 1 ?_
  show pv_T K 45 0 (pv_fl [some (.ref a0), none]) [] h (Q45 τ ρ h a0)
  have hF0 : pv_Fr τ [65, 66, 69, 70, 71, 72, 73, 74, 131, 132] h h := pv_Fr.rf
  refine pw_aload_n d45_0 rfl ?_
  refine pw_iconst d45_1 ?_
  refine pw_putZ d45_2 g45_38 w1_10 hT hA0 rfl rfl rfl (by omega) (by omega) (fun h6290 T6291 F6292 E6293 => ?_)
  have f6294 := hF0.tr (F6292.up (by decide))
  refine pw_aload_n d45_5 rfl ?_
  refine pw_iconst d45_6 ?_
  refine pw_sipush d45_7 (by decide) ?_
  refine pw_callV2 d45_10 k45_92 T6291 hA0 rfl rfl rfl (c33 (τ := τ) (ρ := ρ) T6291 hA0 (by omega) (by omega)) (fun r6295 h6296 q6297 => ?_)
  obtain ⟨T6298, F6299, z6300, ez6300, lz6300, uz6300, pz6300_0⟩ := q6297
  subst ez6300
  have f6301 := f6294.tr (F6299.up (by decide))
  have q6302 := ((F6299 a0 1 hA0).1 10 (by decide)).1
  refine pw_if_ne d45_13 rfl (by omega) (fun c6303 => ?_) (fun c6303 => ?_)
  · refine pw_aload_n d45_18 rfl ?_
    refine pw_getI d45_19 g45_83 T6298 hA0 rfl rfl (fun u6304 vu6304 => ?_)
    refine pw_istore_n d45_22 m45 rfl rfl ?_
    refine pw_aload_n d45_23 rfl ?_
    refine pw_ldcS d45_24 n45_24.1 n45_24.2 ?_
    refine pw_callV1 d45_26 k45_96 T6298 hA0 rfl rfl rfl (c20 (τ := τ) (ρ := ρ) hK T6298 hA0 (by decide)) (fun r6305 h6306 q6307 => ?_)
    obtain ⟨T6308, F6309, z6310, ez6310, lz6310, uz6310⟩ := q6307
    subst ez6310
    have f6311 := f6301.tr (F6309.up (by decide))
    have q6312 := ((F6309 a0 1 hA0).1 8 (by decide)).1
    have q6313 := ((F6309 a0 1 hA0).1 10 (by decide)).1
    refine pw_if_ne d45_29 rfl (by omega) (fun c6314 => ?_) (fun c6314 => ?_)
    · refine pw_aload_n d45_42 rfl ?_
      refine pw_iload_n d45_43 rfl ?_
      refine pw_sipush d45_44 (by decide) ?_
      refine pw_callV2 d45_47 k45_92 T6308 hA0 rfl rfl rfl (c33 (τ := τ) (ρ := ρ) T6308 hA0 (by omega) (by omega)) (fun r6315 h6316 q6317 => ?_)
      obtain ⟨T6318, F6319, z6320, ez6320, lz6320, uz6320, pz6320_0⟩ := q6317
      subst ez6320
      have f6321 := f6311.tr (F6319.up (by decide))
      have q6322 := ((F6319 a0 1 hA0).1 10 (by decide)).1
      refine pw_if_ne d45_50 rfl (by omega) (fun c6323 => ?_) (fun c6323 => ?_)
      · refine pw_aload_n d45_55 rfl ?_
        refine pw_getR d45_56 g45_18 T6318 hA0 rfl rfl (fun t6324 => ?_)
        have t6324 : τ (ρ a0 3) = some 2 := t6324
        refine pw_iload_n d45_59 rfl ?_
        refine pw_putI d45_60 g45_161 w2_3 T6318 t6324 rfl rfl rfl (by omega) (by omega) (fun h6325 T6326 F6327 E6328 => ?_)
        have f6329 := f6321.tr (F6327.up (by decide))
        have q6330 := ((F6327 a0 1 hA0).1 8 (by decide)).1
        have q6331 := ((F6327 a0 1 hA0).1 10 (by decide)).1
        refine pw_aload_n d45_63 rfl ?_
        refine pw_getR d45_64 g45_18 T6326 hA0 rfl rfl (fun t6332 => ?_)
        have t6332 : τ (ρ a0 3) = some 2 := t6332
        refine pw_aload_n d45_67 rfl ?_
        refine pw_getI d45_68 g45_83 T6326 hA0 rfl rfl (fun u6333 vu6333 => ?_)
        refine pw_putI d45_71 g45_164 w2_4 T6326 t6332 rfl rfl rfl (by omega) (by omega) (fun h6334 T6335 F6336 E6337 => ?_)
        have f6338 := f6329.tr (F6336.up (by decide))
        have q6339 := ((F6336 (ρ a0 3) 2 t6332).1 3 (by decide)).1
        have q6340 := ((F6336 a0 1 hA0).1 8 (by decide)).1
        have q6341 := ((F6336 a0 1 hA0).1 10 (by decide)).1
        refine pw_iconst d45_74 ?_
        exact pw_zreturn d45_75 t45 (by omega) ⟨T6335, f6338, 1, rfl, (by omega), (by omega)⟩
      · refine pw_iconst d45_53 ?_
        exact pw_zreturn d45_54 t45 (by omega) ⟨T6318, f6321, 0, rfl, (by omega), (by omega)⟩
    · refine pw_aload_n d45_32 rfl ?_
      refine pw_iconst d45_33 ?_
      refine pw_aload_n d45_34 rfl ?_
      refine pw_getI d45_35 g45_52 T6308 hA0 rfl rfl (fun u6342 vu6342 => ?_)
      refine pw_callV2 d45_38 k45_55 T6308 hA0 rfl rfl rfl (c34 (τ := τ) (ρ := ρ) T6308 hA0 (by omega) (by omega)) (fun r6343 h6344 q6345 => ?_)
      obtain ⟨T6346, F6347, z6348, ez6348, lz6348, uz6348, pz6348_0⟩ := q6345
      subst ez6348
      have f6349 := f6311.tr (F6347.up (by decide))
      have q6350 := ((F6347 a0 1 hA0).1 5 (by decide)).1
      have q6351 := ((F6347 a0 1 hA0).1 8 (by decide)).1
      have q6352 := ((F6347 a0 1 hA0).1 10 (by decide)).1
      exact pw_zreturn d45_41 t45 (by omega) ⟨T6346, f6349, z6348, rfl, (by omega), (by omega)⟩
  · refine pw_iconst d45_16 ?_
    exact pw_zreturn d45_17 t45 (by omega) ⟨T6298, f6301, 0, rfl, (by omega), (by omega)⟩

abbrev Q46 (τ : Nat → Option Nat) (ρ : Nat → Nat → Nat) (h : pv_H) (a0 : Nat) : Option Value → pv_H → Prop := fun r h' => pv_Ty τ ρ h' ∧ pv_Fr τ [65, 66, 69, 70, 71, 72, 73, 1727] h h' ∧ ∃ z : Int, r = some (.int (pv_I z)) ∧ 0 ≤ z ∧ z ≤ 1
set_option maxHeartbeats 4000000 in
set_option maxRecDepth 20000 in
/-- AngleNet$Tape.readWeight()Z -/
theorem c46 {τ : Nat → Option Nat} {ρ : Nat → Nat → Nat} {K : Nat → Nat} {h : pv_H} {a0 : Nat} (hT : pv_Ty τ ρ h) (hA0 : τ a0 = some 1) : pv_C K 46 [.ref a0] h (Q46 τ ρ h a0) := by
  refine pw_entry 2 ?_
  show pv_T K 46 0 (pv_fl [some (.ref a0), none, none]) [] h (Q46 τ ρ h a0)
  have hF0 : pv_Fr τ [65, 66, 69, 70, 71, 72, 73, 1727] h h := pv_Fr.rf
  refine pw_aload_n d46_0 rfl ?_
  refine pw_callV0 d46_1 k46_139 hT hA0 rfl rfl rfl (c38 (τ := τ) (ρ := ρ) hT hA0) (fun r6461 h6462 q6463 => ?_)
  obtain ⟨T6464, F6465, z6466, ez6466, lz6466, uz6466, pz6466_0⟩ := q6463
  subst ez6466
  have f6467 := hF0.tr (F6465.up (by decide))
  refine pw_if_ne d46_4 rfl (by omega) (fun c6468 => ?_) (fun c6468 => ?_)
  · refine pw_aload_n d46_9 rfl ?_
    refine pw_getI d46_10 g46_83 T6464 hA0 rfl rfl (fun u6469 vu6469 => ?_)
    refine pw_istore_n d46_13 m46 rfl rfl ?_
    refine pw_aload_n d46_14 rfl ?_
    refine pw_callV0 d46_15 k46_139 T6464 hA0 rfl rfl rfl (c38 (τ := τ) (ρ := ρ) T6464 hA0) (fun r6470 h6471 q6472 => ?_)
    obtain ⟨T6473, F6474, z6475, ez6475, lz6475, uz6475, pz6475_0⟩ := q6472
    subst ez6475
    have f6476 := f6467.tr (F6474.up (by decide))
    refine pw_if_ne d46_18 rfl (by omega) (fun c6477 => ?_) (fun c6477 => ?_)
    · refine pw_aload_n d46_23 rfl ?_
      refine pw_getI d46_24 g46_83 T6473 hA0 rfl rfl (fun u6478 vu6478 => ?_)
      refine pw_istore_n d46_27 m46 rfl rfl ?_
      refine pw_aload_n d46_28 rfl ?_
      refine pw_getR d46_29 g46_18 T6473 hA0 rfl rfl (fun t6479 => ?_)
      have t6479 : τ (ρ a0 3) = some 2 := t6479
      refine pw_iload_n d46_32 rfl ?_
      refine pw_iload_n d46_33 rfl ?_
      refine pw_callV2 d46_34 k46_167 T6473 t6479 rfl rfl rfl (c47 (τ := τ) (ρ := ρ) T6473 t6479 (by omega) (by omega)) (fun r6480 h6481 q6482 => ?_)
      obtain ⟨eh6481, z6485, ez6485, lz6485, uz6485, pz6485_0⟩ := q6482
      subst eh6481
      subst ez6485
      refine pw_if_ne d46_37 rfl (by omega) (fun c6486 => ?_) (fun c6486 => ?_)
      · refine pw_aload_n d46_50 rfl ?_
        refine pw_iconst d46_51 ?_
        refine pw_sipush d46_52 (by decide) ?_
        refine pw_callV2 d46_55 k46_92 T6473 hA0 rfl rfl rfl (c33 (τ := τ) (ρ := ρ) T6473 hA0 (by omega) (by omega)) (fun r6487 h6488 q6489 => ?_)
        obtain ⟨T6490, F6491, z6492, ez6492, lz6492, uz6492, pz6492_0⟩ := q6489
        subst ez6492
        have f6493 := f6476.tr (F6491.up (by decide))
        refine pw_if_ne d46_58 rfl (by omega) (fun c6494 => ?_) (fun c6494 => ?_)
        · refine pw_aload_n d46_63 rfl ?_
          refine pw_getR d46_64 g46_18 T6490 hA0 rfl rfl (fun t6495 => ?_)
          have t6495 : τ (ρ a0 3) = some 2 := t6495
          refine pw_iload_n d46_67 rfl ?_
          refine pw_iload_n d46_68 rfl ?_
          refine pw_aload_n d46_69 rfl ?_
          refine pw_getI d46_70 g46_83 T6490 hA0 rfl rfl (fun u6496 vu6496 => ?_)
          refine pw_callV3 d46_73 k46_170 T6490 t6495 rfl rfl rfl (c49 (τ := τ) (ρ := ρ) T6490 t6495 (by omega) (by omega) (by omega)) (fun r6497 h6498 q6499 => ?_)
          obtain ⟨T6500, F6501, ez6502⟩ := q6499
          subst ez6502
          have f6503 := f6493.tr (F6501.up (by decide))
          have q6504 := ((F6501 a0 1 hA0).1 8 (by decide)).1
          refine pw_iconst d46_76 ?_
          exact pw_zreturn d46_77 t46 (by omega) ⟨T6500, f6503, 1, rfl, (by omega), (by omega)⟩
        · refine pw_iconst d46_61 ?_
          exact pw_zreturn d46_62 t46 (by omega) ⟨T6490, f6493, 0, rfl, (by omega), (by omega)⟩
      · refine pw_aload_n d46_40 rfl ?_
        refine pw_iconst d46_41 ?_
        refine pw_aload_n d46_42 rfl ?_
        refine pw_getI d46_43 g46_86 T6473 hA0 rfl rfl (fun u6505 vu6505 => ?_)
        refine pw_callV2 d46_46 k46_55 T6473 hA0 rfl rfl rfl (c34 (τ := τ) (ρ := ρ) T6473 hA0 (by omega) (by omega)) (fun r6506 h6507 q6508 => ?_)
        obtain ⟨T6509, F6510, z6511, ez6511, lz6511, uz6511, pz6511_0⟩ := q6508
        subst ez6511
        have f6512 := f6476.tr (F6510.up (by decide))
        have q6513 := ((F6510 a0 1 hA0).1 8 (by decide)).1
        have q6514 := ((F6510 a0 1 hA0).1 9 (by decide)).1
        exact pw_zreturn d46_49 t46 (by omega) ⟨T6509, f6512, z6511, rfl, (by omega), (by omega)⟩
    · refine pw_iconst d46_21 ?_
      exact pw_zreturn d46_22 t46 (by omega) ⟨T6473, f6476, 0, rfl, (by omega), (by omega)⟩
  · refine pw_iconst d46_7 ?_
    exact pw_zreturn d46_8 t46 (by omega) ⟨T6464, f6467, 0, rfl, (by omega), (by omega)⟩

abbrev Q50 (τ : Nat → Option Nat) (ρ : Nat → Nat → Nat) (h : pv_H) (a0 : Nat) : Option Value → pv_H → Prop := fun r h' => pv_Ty τ ρ h' ∧ pv_Fr τ [65, 66, 69, 70, 71, 72, 73, 1535, 1599] h h' ∧ ∃ z : Int, r = some (.int (pv_I z)) ∧ 0 ≤ z ∧ z ≤ 1
set_option maxHeartbeats 4000000 in
set_option maxRecDepth 20000 in
/-- AngleNet$Tape.readPlace()Z -/
theorem c50 {τ : Nat → Option Nat} {ρ : Nat → Nat → Nat} {K : Nat → Nat} {h : pv_H} {a0 : Nat} (hT : pv_Ty τ ρ h) (hA0 : τ a0 = some 1) : pv_C K 50 [.ref a0] h (Q50 τ ρ h a0) := by
  refine pw_entry 2 ?_
  show pv_T K 50 0 (pv_fl [some (.ref a0), none, none]) [] h (Q50 τ ρ h a0)
  have hF0 : pv_Fr τ [65, 66, 69, 70, 71, 72, 73, 1535, 1599] h h := pv_Fr.rf
  refine pw_aload_n d50_0 rfl ?_
  refine pw_callV0 d50_1 k50_139 hT hA0 rfl rfl rfl (c38 (τ := τ) (ρ := ρ) hT hA0) (fun r6601 h6602 q6603 => ?_)
  obtain ⟨T6604, F6605, z6606, ez6606, lz6606, uz6606, pz6606_0⟩ := q6603
  subst ez6606
  have f6607 := hF0.tr (F6605.up (by decide))
  refine pw_if_ne d50_4 rfl (by omega) (fun c6608 => ?_) (fun c6608 => ?_)
  · refine pw_aload_n d50_9 rfl ?_
    refine pw_getI d50_10 g50_83 T6604 hA0 rfl rfl (fun u6609 vu6609 => ?_)
    refine pw_istore_n d50_13 m50 rfl rfl ?_
    refine pw_aload_n d50_14 rfl ?_
    refine pw_iconst d50_15 ?_
    refine pw_bipush d50_16 (by decide) ?_
    refine pw_callV2 d50_18 k50_92 T6604 hA0 rfl rfl rfl (c33 (τ := τ) (ρ := ρ) T6604 hA0 (by omega) (by omega)) (fun r6610 h6611 q6612 => ?_)
    obtain ⟨T6613, F6614, z6615, ez6615, lz6615, uz6615, pz6615_0⟩ := q6612
    subst ez6615
    have f6616 := f6607.tr (F6614.up (by decide))
    refine pw_if_ne d50_21 rfl (by omega) (fun c6617 => ?_) (fun c6617 => ?_)
    · refine pw_aload_n d50_26 rfl ?_
      refine pw_getI d50_27 g50_83 T6613 hA0 rfl rfl (fun u6618 vu6618 => ?_)
      refine pw_istore_n d50_30 m50 rfl rfl ?_
      refine pw_aload_n d50_31 rfl ?_
      refine pw_iconst d50_32 ?_
      refine pw_bipush d50_33 (by decide) ?_
      refine pw_callV2 d50_35 k50_92 T6613 hA0 rfl rfl rfl (c33 (τ := τ) (ρ := ρ) T6613 hA0 (by omega) (by omega)) (fun r6619 h6620 q6621 => ?_)
      obtain ⟨T6622, F6623, z6624, ez6624, lz6624, uz6624, pz6624_0⟩ := q6621
      subst ez6624
      have f6625 := f6616.tr (F6623.up (by decide))
      refine pw_if_ne d50_38 rfl (by omega) (fun c6626 => ?_) (fun c6626 => ?_)
      · refine pw_aload_n d50_43 rfl ?_
        refine pw_getR d50_44 g50_18 T6622 hA0 rfl rfl (fun t6627 => ?_)
        have t6627 : τ (ρ a0 3) = some 2 := t6627
        refine pw_getR d50_47 g50_174 T6622 t6627 rfl rfl (fun t6628 => ?_)
        have t6628 : τ (ρ (ρ a0 3) 8) = some 23 := t6628
        refine pw_iload_n d50_50 rfl ?_
        refine pw_iload_n d50_51 rfl ?_
        refine pw_iast d50_52 T6622 t6628 rfl rfl rfl (by omega) (by omega) (by omega) (by omega) (fun h6629 T6630 F6631 E6632 => ?_)
        have f6633 := f6625.tr (F6631.up (by decide))
        have q6634 := ((F6631 a0 1 hA0).1 8 (by decide)).1
        refine pw_aload_n d50_53 rfl ?_
        refine pw_getR d50_54 g50_18 T6630 hA0 rfl rfl (fun t6635 => ?_)
        have t6635 : τ (ρ a0 3) = some 2 := t6635
        refine pw_getR d50_57 g50_177 T6630 t6635 rfl rfl (fun t6636 => ?_)
        have t6636 : τ (ρ (ρ a0 3) 9) = some 24 := t6636
        refine pw_iload_n d50_60 rfl ?_
        refine pw_aload_n d50_61 rfl ?_
        refine pw_getI d50_62 g50_83 T6630 hA0 rfl rfl (fun u6637 vu6637 => ?_)
        refine pw_iast d50_65 T6630 t6636 rfl rfl rfl (by omega) (by omega) (by omega) (by omega) (fun h6638 T6639 F6640 E6641 => ?_)
        have f6642 := f6633.tr (F6640.up (by decide))
        have q6643 := ((F6640 a0 1 hA0).1 8 (by decide)).1
        refine pw_iconst d50_66 ?_
        exact pw_zreturn d50_67 t50 (by omega) ⟨T6639, f6642, 1, rfl, (by omega), (by omega)⟩
      · refine pw_iconst d50_41 ?_
        exact pw_zreturn d50_42 t50 (by omega) ⟨T6622, f6625, 0, rfl, (by omega), (by omega)⟩
    · refine pw_iconst d50_24 ?_
      exact pw_zreturn d50_25 t50 (by omega) ⟨T6613, f6616, 0, rfl, (by omega), (by omega)⟩
  · refine pw_iconst d50_7 ?_
    exact pw_zreturn d50_8 t50 (by omega) ⟨T6604, f6607, 0, rfl, (by omega), (by omega)⟩

abbrev Q51 (τ : Nat → Option Nat) (ρ : Nat → Nat → Nat) (h : pv_H) (a0 : Nat) : Option Value → pv_H → Prop := fun r h' => pv_Ty τ ρ h' ∧ pv_Fr τ [65, 66, 69, 70, 71, 72, 73, 1663] h h' ∧ ∃ z : Int, r = some (.int (pv_I z)) ∧ 0 ≤ z ∧ z ≤ 1
set_option maxHeartbeats 4000000 in
set_option maxRecDepth 20000 in
/-- AngleNet$Tape.readCircle()Z -/
theorem c51 {τ : Nat → Option Nat} {ρ : Nat → Nat → Nat} {K : Nat → Nat} {h : pv_H} {a0 : Nat} (hT : pv_Ty τ ρ h) (hA0 : τ a0 = some 1) : pv_C K 51 [.ref a0] h (Q51 τ ρ h a0) := by
  refine pw_entry 1 ?_
  show pv_T K 51 0 (pv_fl [some (.ref a0), none]) [] h (Q51 τ ρ h a0)
  have hF0 : pv_Fr τ [65, 66, 69, 70, 71, 72, 73, 1663] h h := pv_Fr.rf
  refine pw_aload_n d51_0 rfl ?_
  refine pw_callV0 d51_1 k51_139 hT hA0 rfl rfl rfl (c38 (τ := τ) (ρ := ρ) hT hA0) (fun r6696 h6697 q6698 => ?_)
  obtain ⟨T6699, F6700, z6701, ez6701, lz6701, uz6701, pz6701_0⟩ := q6698
  subst ez6701
  have f6702 := hF0.tr (F6700.up (by decide))
  refine pw_if_ne d51_4 rfl (by omega) (fun c6703 => ?_) (fun c6703 => ?_)
  · refine pw_aload_n d51_9 rfl ?_
    refine pw_getI d51_10 g51_83 T6699 hA0 rfl rfl (fun u6704 vu6704 => ?_)
    refine pw_istore_n d51_13 m51 rfl rfl ?_
    refine pw_aload_n d51_14 rfl ?_
    refine pw_iconst d51_15 ?_
    refine pw_sipush d51_16 (by decide) ?_
    refine pw_callV2 d51_19 k51_92 T6699 hA0 rfl rfl rfl (c33 (τ := τ) (ρ := ρ) T6699 hA0 (by omega) (by omega)) (fun r6705 h6706 q6707 => ?_)
    obtain ⟨T6708, F6709, z6710, ez6710, lz6710, uz6710, pz6710_0⟩ := q6707
    subst ez6710
    have f6711 := f6702.tr (F6709.up (by decide))
    refine pw_if_ne d51_22 rfl (by omega) (fun c6712 => ?_) (fun c6712 => ?_)
    · refine pw_aload_n d51_27 rfl ?_
      refine pw_getR d51_28 g51_18 T6708 hA0 rfl rfl (fun t6713 => ?_)
      have t6713 : τ (ρ a0 3) = some 2 := t6713
      refine pw_getR d51_31 g51_180 T6708 t6713 rfl rfl (fun t6714 => ?_)
      have t6714 : τ (ρ (ρ a0 3) 10) = some 25 := t6714
      refine pw_iload_n d51_34 rfl ?_
      refine pw_aload_n d51_35 rfl ?_
      refine pw_getI d51_36 g51_83 T6708 hA0 rfl rfl (fun u6715 vu6715 => ?_)
      refine pw_iast d51_39 T6708 t6714 rfl rfl rfl (by omega) (by omega) (by omega) (by omega) (fun h6716 T6717 F6718 E6719 => ?_)
      have f6720 := f6711.tr (F6718.up (by decide))
      have q6721 := ((F6718 a0 1 hA0).1 8 (by decide)).1
      refine pw_iconst d51_40 ?_
      exact pw_zreturn d51_41 t51 (by omega) ⟨T6717, f6720, 1, rfl, (by omega), (by omega)⟩
    · refine pw_iconst d51_25 ?_
      exact pw_zreturn d51_26 t51 (by omega) ⟨T6708, f6711, 0, rfl, (by omega), (by omega)⟩
  · refine pw_iconst d51_7 ?_
    exact pw_zreturn d51_8 t51 (by omega) ⟨T6699, f6702, 0, rfl, (by omega), (by omega)⟩

abbrev Q19 (τ : Nat → Option Nat) (ρ : Nat → Nat → Nat) (h : pv_H) (a0 : Nat) : Option Value → pv_H → Prop := fun r h' => pv_Ty τ ρ h' ∧ pv_Fr τ [65, 66, 69, 70, 71, 72, 73, 74, 128, 129, 131, 132, 1343, 1407, 1471, 1535, 1599, 1663, 1727, 1791] h h' ∧ ∃ z : Int, r = some (.int (pv_I z)) ∧ 0 ≤ z ∧ z ≤ 1
set_option maxHeartbeats 4000000 in
set_option maxRecDepth 20000 in
/-- AngleNet$Tape.readLine()Z -/
theorem c19 {τ : Nat → Option Nat} {ρ : Nat → Nat → Nat} {K : Nat → Nat} {h : pv_H} {a0 : Nat} (hK : pv_Kok K) (hT : pv_Ty τ ρ h) (hA0 : τ a0 = some 1) : pv_C K 19 [.ref a0] h (Q19 τ ρ h a0) := by
  refine pw_entry 1 ?_
  show pv_T K 19 0 (pv_fl [some (.ref a0), none]) [] h (Q19 τ ρ h a0)
  have hF0 : pv_Fr τ [65, 66, 69, 70, 71, 72, 73, 74, 128, 129, 131, 132, 1343, 1407, 1471, 1535, 1599, 1663, 1727, 1791] h h := pv_Fr.rf
  refine pw_aload_n d19_0 rfl ?_
  refine pw_getI d19_1 g19_52 hT hA0 rfl rfl (fun u7054 vu7054 => ?_)
  refine pw_istore_n d19_4 m19 rfl rfl ?_
  refine pw_aload_n d19_5 rfl ?_
  refine pw_getR d19_6 g19_18 hT hA0 rfl rfl (fun t7055 => ?_)
  have t7055 : τ (ρ a0 3) = some 2 := t7055
  refine pw_getI d19_9 g19_59 hT t7055 rfl rfl (fun u7056 vu7056 => ?_)
  refine pw_if_ne d19_12 rfl (by omega) (fun c7057 => ?_) (fun c7057 => ?_)
  · refine pw_aload_n d19_38 rfl ?_
    refine pw_ldcS d19_39 n19_39.1 n19_39.2 ?_
    refine pw_callV1 d19_41 k19_96 hT hA0 rfl rfl rfl (c20 (τ := τ) (ρ := ρ) hK hT hA0 (by decide)) (fun r7058 h7059 q7060 => ?_)
    obtain ⟨T7061, F7062, z7063, ez7063, lz7063, uz7063⟩ := q7060
    subst ez7063
    have f7064 := hF0.tr (F7062.up (by decide))
    have q7065 := ((F7062 (ρ a0 3) 2 t7055).1 2 (by decide)).1
    refine pw_if_eq d19_44 rfl (by omega) (fun c7066 => ?_) (fun c7066 => ?_)
    · refine pw_aload_n d19_73 rfl ?_
      refine pw_ldcS d19_74 n19_74.1 n19_74.2 ?_
      refine pw_callV1 d19_76 k19_96 T7061 hA0 rfl rfl rfl (c20 (τ := τ) (ρ := ρ) hK T7061 hA0 (by decide)) (fun r7067 h7068 q7069 => ?_)
      obtain ⟨T7070, F7071, z7072, ez7072, lz7072, uz7072⟩ := q7069
      subst ez7072
      have f7073 := f7064.tr (F7071.up (by decide))
      have q7074 := ((F7071 (ρ a0 3) 2 t7055).1 2 (by decide)).1
      refine pw_if_eq d19_79 rfl (by omega) (fun c7075 => ?_) (fun c7075 => ?_)
      · refine pw_aload_n d19_87 rfl ?_
        refine pw_ldcS d19_88 n19_88.1 n19_88.2 ?_
        refine pw_callV1 d19_90 k19_96 T7070 hA0 rfl rfl rfl (c20 (τ := τ) (ρ := ρ) hK T7070 hA0 (by decide)) (fun r7076 h7077 q7078 => ?_)
        obtain ⟨T7079, F7080, z7081, ez7081, lz7081, uz7081⟩ := q7078
        subst ez7081
        have f7082 := f7073.tr (F7080.up (by decide))
        have q7083 := ((F7080 (ρ a0 3) 2 t7055).1 2 (by decide)).1
        refine pw_if_eq d19_93 rfl (by omega) (fun c7084 => ?_) (fun c7084 => ?_)
        · refine pw_aload_n d19_117 rfl ?_
          refine pw_ldcS d19_118 n19_118.1 n19_118.2 ?_
          refine pw_callV1 d19_120 k19_96 T7079 hA0 rfl rfl rfl (c20 (τ := τ) (ρ := ρ) hK T7079 hA0 (by decide)) (fun r7085 h7086 q7087 => ?_)
          obtain ⟨T7088, F7089, z7090, ez7090, lz7090, uz7090⟩ := q7087
          subst ez7090
          have f7091 := f7082.tr (F7089.up (by decide))
          have q7092 := ((F7089 (ρ a0 3) 2 t7055).1 2 (by decide)).1
          refine pw_if_eq d19_123 rfl (by omega) (fun c7093 => ?_) (fun c7093 => ?_)
          · refine pw_aload_n d19_131 rfl ?_
            refine pw_ldcS d19_132 n19_132.1 n19_132.2 ?_
            refine pw_callV1 d19_134 k19_96 T7088 hA0 rfl rfl rfl (c20 (τ := τ) (ρ := ρ) hK T7088 hA0 (by decide)) (fun r7094 h7095 q7096 => ?_)
            obtain ⟨T7097, F7098, z7099, ez7099, lz7099, uz7099⟩ := q7096
            subst ez7099
            have f7100 := f7091.tr (F7098.up (by decide))
            have q7101 := ((F7098 (ρ a0 3) 2 t7055).1 2 (by decide)).1
            refine pw_if_eq d19_137 rfl (by omega) (fun c7102 => ?_) (fun c7102 => ?_)
            · refine pw_aload_n d19_145 rfl ?_
              refine pw_ldcS d19_146 n19_146.1 n19_146.2 ?_
              refine pw_callV1 d19_148 k19_96 T7097 hA0 rfl rfl rfl (c20 (τ := τ) (ρ := ρ) hK T7097 hA0 (by decide)) (fun r7103 h7104 q7105 => ?_)
              obtain ⟨T7106, F7107, z7108, ez7108, lz7108, uz7108⟩ := q7105
              subst ez7108
              have f7109 := f7100.tr (F7107.up (by decide))
              have q7110 := ((F7107 (ρ a0 3) 2 t7055).1 2 (by decide)).1
              refine pw_if_eq d19_151 rfl (by omega) (fun c7111 => ?_) (fun c7111 => ?_)
              · refine pw_aload_n d19_161 rfl ?_
                refine pw_iconst d19_162 ?_
                refine pw_iload_n d19_163 rfl ?_
                refine pw_callV2 d19_164 k19_55 T7106 hA0 rfl rfl rfl (c34 (τ := τ) (ρ := ρ) T7106 hA0 (by omega) (by omega)) (fun r7112 h7113 q7114 => ?_)
                obtain ⟨T7115, F7116, z7117, ez7117, lz7117, uz7117, pz7117_0⟩ := q7114
                subst ez7117
                have f7118 := f7109.tr (F7116.up (by decide))
                have q7119 := ((F7116 (ρ a0 3) 2 t7055).1 2 (by decide)).1
                have q7120 := ((F7116 a0 1 hA0).1 5 (by decide)).1
                exact pw_zreturn d19_167 t19 (by omega) ⟨T7115, f7118, z7117, rfl, (by omega), (by omega)⟩
              · refine pw_aload_n d19_154 rfl ?_
                refine pw_callV0 d19_155 k19_132 T7106 hA0 rfl rfl rfl (c51 (τ := τ) (ρ := ρ) T7106 hA0) (fun r7121 h7122 q7123 => ?_)
                obtain ⟨T7124, F7125, z7126, ez7126, lz7126, uz7126⟩ := q7123
                subst ez7126
                have f7127 := f7109.tr (F7125.up (by decide))
                have q7128 := ((F7125 (ρ a0 3) 2 t7055).1 2 (by decide)).1
                refine pw_goto d19_158 rfl ?_
                exact pw_zreturn d19_167 t19 (by omega) ⟨T7124, f7127, z7126, rfl, (by omega), (by omega)⟩
            · refine pw_aload_n d19_140 rfl ?_
              refine pw_callV0 d19_141 k19_127 T7097 hA0 rfl rfl rfl (c50 (τ := τ) (ρ := ρ) T7097 hA0) (fun r7129 h7130 q7131 => ?_)
              obtain ⟨T7132, F7133, z7134, ez7134, lz7134, uz7134⟩ := q7131
              subst ez7134
              have f7135 := f7100.tr (F7133.up (by decide))
              have q7136 := ((F7133 (ρ a0 3) 2 t7055).1 2 (by decide)).1
              exact pw_zreturn d19_144 t19 (by omega) ⟨T7132, f7135, z7134, rfl, (by omega), (by omega)⟩
          · refine pw_aload_n d19_126 rfl ?_
            refine pw_callV0 d19_127 k19_123 T7088 hA0 rfl rfl rfl (c46 (τ := τ) (ρ := ρ) T7088 hA0) (fun r7137 h7138 q7139 => ?_)
            obtain ⟨T7140, F7141, z7142, ez7142, lz7142, uz7142⟩ := q7139
            subst ez7142
            have f7143 := f7091.tr (F7141.up (by decide))
            have q7144 := ((F7141 (ρ a0 3) 2 t7055).1 2 (by decide)).1
            exact pw_zreturn d19_130 t19 (by omega) ⟨T7140, f7143, z7142, rfl, (by omega), (by omega)⟩
        · refine pw_aload_n d19_96 rfl ?_
          refine pw_getI d19_97 g19_38 T7079 hA0 rfl rfl (fun u7145 vu7145 => ?_)
          refine pw_if_eq d19_100 rfl (by omega) (fun c7146 => ?_) (fun c7146 => ?_)
          · refine pw_aload_n d19_112 rfl ?_
            refine pw_callV0 d19_113 k19_118 T7079 hA0 rfl rfl rfl (c45 (τ := τ) (ρ := ρ) hK T7079 hA0) (fun r7147 h7148 q7149 => ?_)
            obtain ⟨T7150, F7151, z7152, ez7152, lz7152, uz7152⟩ := q7149
            subst ez7152
            have f7153 := f7082.tr (F7151.up (by decide))
            have q7154 := ((F7151 (ρ a0 3) 2 t7055).1 2 (by decide)).1
            exact pw_zreturn d19_116 t19 (by omega) ⟨T7150, f7153, z7152, rfl, (by omega), (by omega)⟩
          · refine pw_aload_n d19_103 rfl ?_
            refine pw_iconst d19_104 ?_
            refine pw_iload_n d19_105 rfl ?_
            refine pw_callV2 d19_106 k19_55 T7079 hA0 rfl rfl rfl (c34 (τ := τ) (ρ := ρ) T7079 hA0 (by omega) (by omega)) (fun r7155 h7156 q7157 => ?_)
            obtain ⟨T7158, F7159, z7160, ez7160, lz7160, uz7160, pz7160_0⟩ := q7157
            subst ez7160
            have f7161 := f7082.tr (F7159.up (by decide))
            have q7162 := ((F7159 (ρ a0 3) 2 t7055).1 2 (by decide)).1
            have q7163 := ((F7159 a0 1 hA0).1 5 (by decide)).1
            have q7164 := ((F7159 a0 1 hA0).1 10 (by decide)).1
            refine pw_goto d19_109 rfl ?_
            exact pw_zreturn d19_116 t19 (by omega) ⟨T7158, f7161, z7160, rfl, (by omega), (by omega)⟩
      · refine pw_aload_n d19_82 rfl ?_
        refine pw_callV0 d19_83 k19_113 T7070 hA0 rfl rfl rfl (c44 (τ := τ) (ρ := ρ) T7070 hA0) (fun r7165 h7166 q7167 => ?_)
        obtain ⟨T7168, F7169, z7170, ez7170, lz7170, uz7170⟩ := q7167
        subst ez7170
        have f7171 := f7073.tr (F7169.up (by decide))
        have q7172 := ((F7169 (ρ a0 3) 2 t7055).1 2 (by decide)).1
        exact pw_zreturn d19_86 t19 (by omega) ⟨T7168, f7171, z7170, rfl, (by omega), (by omega)⟩
    · refine pw_aload_n d19_47 rfl ?_
      refine pw_getR d19_48 g19_18 T7061 hA0 rfl rfl (fun t7173 => ?_)
      have t7173 : τ (ρ a0 3) = some 2 := t7173
      refine pw_getI d19_51 g19_105 T7061 t7173 rfl rfl (fun u7174 vu7174 => ?_)
      refine pw_bipush d19_54 (by decide) ?_
      refine pw_icmp_ge d19_56 rfl (by omega) (by omega) (fun c7175 => ?_) (fun c7175 => ?_)
      · refine pw_aload_n d19_66 rfl ?_
        refine pw_iconst d19_67 ?_
        refine pw_iload_n d19_68 rfl ?_
        refine pw_callV2 d19_69 k19_55 T7061 hA0 rfl rfl rfl (c34 (τ := τ) (ρ := ρ) T7061 hA0 (by omega) (by omega)) (fun r7176 h7177 q7178 => ?_)
        obtain ⟨T7179, F7180, z7181, ez7181, lz7181, uz7181, pz7181_0⟩ := q7178
        subst ez7181
        have f7182 := f7064.tr (F7180.up (by decide))
        have q7183 := ((F7180 (ρ a0 3) 2 t7173).1 1 (by decide)).1
        have q7184 := ((F7180 (ρ a0 3) 2 t7173).1 2 (by decide)).1
        have q7185 := ((F7180 a0 1 hA0).1 5 (by decide)).1
        exact pw_zreturn d19_72 t19 (by omega) ⟨T7179, f7182, z7181, rfl, (by omega), (by omega)⟩
      · refine pw_aload_n d19_59 rfl ?_
        refine pw_callV0 d19_60 k19_108 T7061 hA0 rfl rfl rfl (c37 (τ := τ) (ρ := ρ) hK T7061 hA0 (by omega)) (fun r7186 h7187 q7188 => ?_)
        obtain ⟨T7189, F7190, z7191, ez7191, lz7191, uz7191⟩ := q7188
        subst ez7191
        have f7192 := f7064.tr (F7190.up (by decide))
        have q7193 := ((F7190 (ρ a0 3) 2 t7173).1 2 (by decide)).1
        refine pw_goto d19_63 rfl ?_
        exact pw_zreturn d19_72 t19 (by omega) ⟨T7189, f7192, z7191, rfl, (by omega), (by omega)⟩
  · refine pw_aload_n d19_15 rfl ?_
    refine pw_ldcS d19_16 n19_16.1 n19_16.2 ?_
    refine pw_callV1 d19_18 k19_96 hT hA0 rfl rfl rfl (c20 (τ := τ) (ρ := ρ) hK hT hA0 (by decide)) (fun r7194 h7195 q7196 => ?_)
    obtain ⟨T7197, F7198, z7199, ez7199, lz7199, uz7199⟩ := q7196
    subst ez7199
    have f7200 := hF0.tr (F7198.up (by decide))
    have q7201 := ((F7198 (ρ a0 3) 2 t7055).1 2 (by decide)).1
    refine pw_if_eq d19_21 rfl (by omega) (fun c7202 => ?_) (fun c7202 => ?_)
    · refine pw_aload_n d19_31 rfl ?_
      refine pw_iconst d19_32 ?_
      refine pw_iload_n d19_33 rfl ?_
      refine pw_callV2 d19_34 k19_55 T7197 hA0 rfl rfl rfl (c34 (τ := τ) (ρ := ρ) T7197 hA0 (by omega) (by omega)) (fun r7203 h7204 q7205 => ?_)
      obtain ⟨T7206, F7207, z7208, ez7208, lz7208, uz7208, pz7208_0⟩ := q7205
      subst ez7208
      have f7209 := f7200.tr (F7207.up (by decide))
      have q7210 := ((F7207 (ρ a0 3) 2 t7055).1 2 (by decide)).1
      have q7211 := ((F7207 a0 1 hA0).1 5 (by decide)).1
      exact pw_zreturn d19_37 t19 (by omega) ⟨T7206, f7209, z7208, rfl, (by omega), (by omega)⟩
    · refine pw_aload_n d19_24 rfl ?_
      refine pw_callV0 d19_25 k19_100 T7197 hA0 rfl rfl rfl (c32 (τ := τ) (ρ := ρ) T7197 hA0) (fun r7212 h7213 q7214 => ?_)
      obtain ⟨T7215, F7216, z7217, ez7217, lz7217, uz7217⟩ := q7214
      subst ez7217
      have f7218 := f7200.tr (F7216.up (by decide))
      have q7219 := ((F7216 (ρ a0 3) 2 t7055).1 2 (by decide)).1
      refine pw_goto d19_28 rfl ?_
      exact pw_zreturn d19_37 t19 (by omega) ⟨T7215, f7218, z7217, rfl, (by omega), (by omega)⟩

abbrev Q12 (τ : Nat → Option Nat) (ρ : Nat → Nat → Nat) (h : pv_H) (a0 : Nat) : Option Value → pv_H → Prop := fun r h' => pv_Ty τ ρ h' ∧ pv_Fr τ [65, 66, 69, 70, 71, 72, 73, 74, 128, 129, 130, 131, 132, 142, 143, 1343, 1407, 1471, 1535, 1599, 1663, 1727, 1791] h h' ∧ ∃ z : Int, r = some (.int (pv_I z)) ∧ 0 ≤ z ∧ z ≤ 1
set_option maxHeartbeats 4000000 in
set_option maxRecDepth 20000 in
/-- AngleNet$Tape.readAll()Z -/
theorem c12 {τ : Nat → Option Nat} {ρ : Nat → Nat → Nat} {K : Nat → Nat} {h : pv_H} {a0 : Nat} (hK : pv_Kok K) (hT : pv_Ty τ ρ h) (hA0 : τ a0 = some 1) : pv_C K 12 [.ref a0] h (Q12 τ ρ h a0) := by
  refine pw_entry 1 ?_
  show pv_T K 12 0 (pv_fl [some (.ref a0), none]) [] h (Q12 τ ρ h a0)
  have hF0 : pv_Fr τ [65, 66, 69, 70, 71, 72, 73, 74, 128, 129, 130, 131, 132, 142, 143, 1343, 1407, 1471, 1535, 1599, 1663, 1727, 1791] h h := pv_Fr.rf
  have L33 : ∀ (nn : Nat) (h_33 : pv_H) (xL1_33 : Int), (pv_Ty τ ρ h_33) → (pv_Fr τ [65, 66, 69, 70, 71, 72, 73, 74, 128, 129, 130, 131, 132, 142, 143, 1343, 1407, 1471, 1535, 1599, 1663, 1727, 1791] h h_33) → (0 ≤ xL1_33 ∧ xL1_33 ≤ 1600) → 1600 - xL1_33 < nn → pv_T K 12 33 (pv_fl [some (.ref a0), some (.int (pv_I xL1_33))]) [] h_33 (Q12 τ ρ h a0) := by
    intro nn
    induction nn with
    | zero => intro h_33 xL1_33 hT_33 hF_33 rL1_33 hm; exfalso; omega
    | succ nn ih33 =>
      intro h_33 xL1_33 hT_33 hF_33 rL1_33 hm33
      refine pw_iload_n d12_33 rfl ?_
      refine pw_sipush d12_34 (by decide) ?_
      refine pw_icmp_ge d12_37 rfl (by omega) (by omega) (fun c8790 => ?_) (fun c8790 => ?_)
      · refine pw_iconst d12_97 ?_
        exact pw_zreturn d12_98 t12 (by omega) ⟨hT_33, hF_33, 1, rfl, (by omega), (by omega)⟩
      · refine pw_aload_n d12_40 rfl ?_
        refine pw_getI d12_41 g12_45 hT_33 hA0 rfl rfl (fun u8791 vu8791 => ?_)
        refine pw_if_eq d12_44 rfl (by omega) (fun c8792 => ?_) (fun c8792 => ?_)
        · refine pw_iconst d12_97 ?_
          exact pw_zreturn d12_98 t12 (by omega) ⟨hT_33, hF_33, 1, rfl, (by omega), (by omega)⟩
        · refine pw_aload_n d12_47 rfl ?_
          refine pw_callV0 d12_48 k12_48 hT_33 hA0 rfl rfl rfl (c19 (τ := τ) (ρ := ρ) hK hT_33 hA0) (fun r8793 h8794 q8795 => ?_)
          obtain ⟨T8796, F8797, z8798, ez8798, lz8798, uz8798⟩ := q8795
          subst ez8798
          have f8799 := hF_33.tr (F8797.up (by decide))
          refine pw_if_ne d12_51 rfl (by omega) (fun c8800 => ?_) (fun c8800 => ?_)
          · refine pw_aload_n d12_56 rfl ?_
            refine pw_getI d12_57 g12_45 T8796 hA0 rfl rfl (fun u8801 vu8801 => ?_)
            refine pw_iconst d12_60 ?_
            refine pw_icmp_eq d12_61 rfl (by omega) (by omega) (fun c8802 => ?_) (fun c8802 => ?_)
            · refine pw_aload_n d12_74 rfl ?_
              refine pw_callV0 d12_75 k12_42 T8796 hA0 rfl rfl rfl (c16 (τ := τ) (ρ := ρ) T8796 hA0) (fun r8803 h8804 q8805 => ?_)
              obtain ⟨T8806, F8807, ez8808⟩ := q8805
              subst ez8808
              have f8809 := f8799.tr (F8807.up (by decide))
              refine pw_aload_n d12_78 rfl ?_
              refine pw_getR d12_79 g12_18 T8806 hA0 rfl rfl (fun t8810 => ?_)
              have t8810 : τ (ρ a0 3) = some 2 := t8810
              refine pw_dup d12_82 rfl ?_
              refine pw_getI d12_83 g12_59 T8806 t8810 rfl rfl (fun u8811 vu8811 => ?_)
              refine pw_iconst d12_86 ?_
              refine pw_iadd d12_87 ?_
              refine pw_any (fun z8812 hz8812 ez8812 => ?_)
              refine pw_putI d12_88 g12_59 w2_2 T8806 t8810 rfl rfl rfl (by omega) (by omega) (fun h8813 T8814 F8815 E8816 => ?_)
              have f8817 := f8809.tr (F8815.up (by decide))
              have q8818 := ((F8815 a0 1 hA0).1 7 (by decide)).1
              refine pw_iinc d12_91 m12 rfl rfl rfl ?_
              refine pw_goto d12_94 rfl ?_
              exact ih33 h8813 ((xL1_33 + 1)) T8814 f8817 (by omega) (by omega)
            · refine pw_aload_n d12_64 rfl ?_
              refine pw_iconst d12_65 ?_
              refine pw_aload_n d12_66 rfl ?_
              refine pw_getI d12_67 g12_52 T8796 hA0 rfl rfl (fun u8819 vu8819 => ?_)
              refine pw_callV2 d12_70 k12_55 T8796 hA0 rfl rfl rfl (c34 (τ := τ) (ρ := ρ) T8796 hA0 (by omega) (by omega)) (fun r8820 h8821 q8822 => ?_)
              obtain ⟨T8823, F8824, z8825, ez8825, lz8825, uz8825, pz8825_0⟩ := q8822
              subst ez8825
              have f8826 := f8799.tr (F8824.up (by decide))
              have q8827 := ((F8824 a0 1 hA0).1 5 (by decide)).1
              have q8828 := ((F8824 a0 1 hA0).1 7 (by decide)).1
              exact pw_zreturn d12_73 t12 (by omega) ⟨T8823, f8826, z8825, rfl, (by omega), (by omega)⟩
          · refine pw_iconst d12_54 ?_
            exact pw_zreturn d12_55 t12 (by omega) ⟨T8796, f8799, 0, rfl, (by omega), (by omega)⟩
  refine pw_aload_n d12_0 rfl ?_
  refine pw_getR d12_1 g12_18 hT hA0 rfl rfl (fun t8829 => ?_)
  have t8829 : τ (ρ a0 3) = some 2 := t8829
  refine pw_callV0 d12_4 k12_29 hT t8829 rfl rfl rfl (c13 (τ := τ) (ρ := ρ) hT t8829) (fun r8830 h8831 q8832 => ?_)
  obtain ⟨T8833, F8834, ez8835⟩ := q8832
  subst ez8835
  have f8836 := hF0.tr (F8834.up (by decide))
  refine pw_aload_n d12_7 rfl ?_
  refine pw_iconst d12_8 ?_
  refine pw_putI d12_9 g12_32 w1_1 T8833 hA0 rfl rfl rfl (by omega) (by omega) (fun h8837 T8838 F8839 E8840 => ?_)
  have f8841 := f8836.tr (F8839.up (by decide))
  refine pw_aload_n d12_12 rfl ?_
  refine pw_iconst d12_13 ?_
  refine pw_putI d12_14 g12_9 w1_2 T8838 hA0 rfl rfl rfl (by omega) (by omega) (fun h8842 T8843 F8844 E8845 => ?_)
  have f8846 := f8841.tr (F8844.up (by decide))
  have q8847 := ((F8844 a0 1 hA0).1 1 (by decide)).1
  refine pw_aload_n d12_17 rfl ?_
  refine pw_iconst d12_18 ?_
  refine pw_putI d12_19 g12_35 w1_6 T8843 hA0 rfl rfl rfl (by omega) (by omega) (fun h8848 T8849 F8850 E8851 => ?_)
  have f8852 := f8846.tr (F8850.up (by decide))
  have q8853 := ((F8850 a0 1 hA0).1 1 (by decide)).1
  have q8854 := ((F8850 a0 1 hA0).1 2 (by decide)).1
  refine pw_aload_n d12_22 rfl ?_
  refine pw_iconst d12_23 ?_
  refine pw_putZ d12_24 g12_38 w1_10 T8849 hA0 rfl rfl rfl (by omega) (by omega) (fun h8855 T8856 F8857 E8858 => ?_)
  have f8859 := f8852.tr (F8857.up (by decide))
  have q8860 := ((F8857 a0 1 hA0).1 1 (by decide)).1
  have q8861 := ((F8857 a0 1 hA0).1 2 (by decide)).1
  have q8862 := ((F8857 a0 1 hA0).1 6 (by decide)).1
  refine pw_aload_n d12_27 rfl ?_
  refine pw_callV0 d12_28 k12_42 T8856 hA0 rfl rfl rfl (c16 (τ := τ) (ρ := ρ) T8856 hA0) (fun r8863 h8864 q8865 => ?_)
  obtain ⟨T8866, F8867, ez8868⟩ := q8865
  subst ez8868
  have f8869 := f8859.tr (F8867.up (by decide))
  have q8870 := ((F8867 a0 1 hA0).1 1 (by decide)).1
  have q8871 := ((F8867 a0 1 hA0).1 2 (by decide)).1
  have q8872 := ((F8867 a0 1 hA0).1 10 (by decide)).1
  refine pw_iconst d12_31 ?_
  refine pw_istore_n d12_32 m12 rfl rfl ?_
  exact L33 _ h8864 (0) T8866 f8869 (by omega) (pv_mu _)
