abbrev Q9 (τ : Nat → Option Nat) (ρ : Nat → Nat → Nat) (h : pv_H) (a0 : Nat) (x1 : Int) : Option Value → pv_H → Prop := fun r h' => pv_Ty τ ρ h' ∧ pv_Fr τ [64, 1983] h h' ∧ r = none
set_option maxHeartbeats 4000000 in
set_option maxRecDepth 20000 in
/-- AngleNet$Tape.append(I)V -/
theorem ct9 {τ : Nat → Option Nat} {ρ : Nat → Nat → Nat} {K : Nat → Nat} {h : pv_H} {a0 : Nat} {x1 : Int} (hT : pv_Ty τ ρ h) (hA0 : τ a0 = some 1) (hX1 : (-2147483648) ≤ x1 ∧ x1 ≤ 2147483647) : pv_C K 9 [.ref a0, .int (pv_I x1)] h (Q9 τ ρ h a0 x1) := by
  refine pw_entry 1 ?_
  show pv_T K 9 0 (pv_fl [some (.ref a0), some (.int (pv_I x1)), none]) [] h (Q9 τ ρ h a0 x1)
  have hF0 : pv_Fr τ [64, 1983] h h := pv_Fr.rf
  have L3 : ∀ (nn : Nat) (h_3 : pv_H) (xL2_3 : Int), (pv_Ty τ ρ h_3) → (pv_Fr τ [64, 1983] h h_3) → ((-2147483648) ≤ x1 ∧ x1 ≤ 2147483647) → ((-9) ≤ xL2_3 ∧ xL2_3 ≤ 24) → xL2_3 - (-9) < nn → pv_T K 9 3 (pv_fl [some (.ref a0), some (.int (pv_I x1)), some (.int (pv_I xL2_3))]) [] h_3 (Q9 τ ρ h a0 x1) := by
    intro nn
    induction nn with
    | zero => intro h_3 xL2_3 hT_3 hF_3 rL1_3 rL2_3 hm; exfalso; omega
    | succ nn ih3 =>
      intro h_3 xL2_3 hT_3 hF_3 rL1_3 rL2_3 hm3
      refine pw_iload_n d9_3 rfl ?_
      refine pw_if_lt d9_4 rfl (by omega) (fun c4 => ?_) (fun c4 => ?_)
      · exact pw_return d9_46 tt9 ⟨hT_3, hF_3, rfl⟩
      · refine pw_aload_n d9_7 rfl ?_
        refine pw_getI d9_8 g9_26 hT_3 hA0 rfl rfl (fun u8 vu8 => ?_)
        refine pw_sipush d9_11 (by decide) ?_
        refine pw_icmp_ge d9_14 rfl (by omega) (by omega) (fun c14 => ?_) (fun c14 => ?_)
        · exact pw_return d9_46 tt9 ⟨hT_3, hF_3, rfl⟩
        · refine pw_aload_n d9_17 rfl ?_
          refine pw_getR d9_18 g9_22 hT_3 hA0 rfl rfl (fun t18 => ?_)
          have t18 : τ (ρ a0 4) = some 30 := t18
          refine pw_aload_n d9_21 rfl ?_
          refine pw_getI d9_22 g9_26 hT_3 hA0 rfl rfl (fun u22 vu22 => ?_)
          refine pw_iload_n d9_25 rfl ?_
          refine pw_iload_n d9_26 rfl ?_
          refine pw_ishr d9_27 (fun z27 hz27 ez27 => ?_)
          refine pw_i2b d9_28 (fun z28 hz28 gz28 ez28 => ?_)
          refine pw_bastB d9_29 hT_3 t18 rfl rfl rfl (by omega) (by omega) (fun h29 T29 F29 E29 => ?_)
          have f29 := hF_3.tr (F29.up (by decide))
          have q29 := ((F29 a0 1 hA0).1 0 (by decide)).1
          refine pw_aload_n d9_30 rfl ?_
          refine pw_dup d9_31 rfl ?_
          refine pw_getI d9_32 g9_26 T29 hA0 rfl rfl (fun u32 vu32 => ?_)
          refine pw_iconst d9_35 ?_
          refine pw_iadd d9_36 ?_
          refine pw_putI d9_37 g9_26 w1_0 T29 hA0 rfl rfl rfl (by omega) (by omega) (fun h37 T37 F37 E37 => ?_)
          have f37 := f29.tr (F37.up (by decide))
          refine pw_iinc d9_40 m9 rfl rfl rfl ?_
          refine pw_goto d9_43 rfl ?_
          exact ih3 h37 ((xL2_3 + (-8))) T37 f37 (by omega) (by omega) (by omega)
  refine pw_bipush d9_0 (by decide) ?_
  refine pw_istore_n d9_2 m9 rfl rfl ?_
  exact L3 _ h (24) hT hF0 (by omega) (by omega) (pv_mu _)

abbrev Q34 (τ : Nat → Option Nat) (ρ : Nat → Nat → Nat) (h : pv_H) (a0 : Nat) (x1 : Int) (x2 : Int) : Option Value → pv_H → Prop := fun r h' => pv_Ty τ ρ h' ∧ pv_Fr τ [65, 66] h h' ∧ ∃ z : Int, r = some (.int (pv_I z)) ∧ 0 ≤ z ∧ z ≤ 0 ∧ (z = 0)
set_option maxHeartbeats 4000000 in
set_option maxRecDepth 20000 in
/-- AngleNet$Tape.fail(II)Z -/
theorem ct34 {τ : Nat → Option Nat} {ρ : Nat → Nat → Nat} {K : Nat → Nat} {h : pv_H} {a0 : Nat} {x1 : Int} {x2 : Int} (hT : pv_Ty τ ρ h) (hA0 : τ a0 = some 1) (hX1 : 0 ≤ x1 ∧ x1 ≤ 3) (hX2 : (-1) ≤ x2 ∧ x2 ≤ 1600) : pv_C K 34 [.ref a0, .int (pv_I x1), .int (pv_I x2)] h (Q34 τ ρ h a0 x1 x2) := by
  refine pw_entry 0 ?_
  show pv_T K 34 0 (pv_fl [some (.ref a0), some (.int (pv_I x1)), some (.int (pv_I x2))]) [] h (Q34 τ ρ h a0 x1 x2)
  have hF0 : pv_Fr τ [65, 66] h h := pv_Fr.rf
  refine pw_aload_n d34_0 rfl ?_
  refine pw_iload_n d34_1 rfl ?_
  refine pw_putI d34_2 g34_32 w1_1 hT hA0 rfl rfl rfl (by omega) (by omega) (fun h2 T2 F2 E2 => ?_)
  have f2 := hF0.tr (F2.up (by decide))
  refine pw_aload_n d34_5 rfl ?_
  refine pw_iload_n d34_6 rfl ?_
  refine pw_putI d34_7 g34_9 w1_2 T2 hA0 rfl rfl rfl (by omega) (by omega) (fun h7 T7 F7 E7 => ?_)
  have f7 := f2.tr (F7.up (by decide))
  have q7 := ((F7 a0 1 hA0).1 1 (by decide)).1
  refine pw_iconst d34_10 ?_
  exact pw_zreturn d34_11 tt34 (by omega) ⟨T7, f7, 0, rfl, (by omega), (by omega), (by omega)⟩

abbrev Q17 (τ : Nat → Option Nat) (ρ : Nat → Nat → Nat) (h : pv_H) (x0 : Int) : Option Value → pv_H → Prop := fun r h' => h = h' ∧ ∃ z : Int, r = some (.int (pv_I z)) ∧ 0 ≤ z ∧ z ≤ 1
set_option maxHeartbeats 4000000 in
set_option maxRecDepth 20000 in
/-- AngleNet$Tape.isBlank(B)Z -/
theorem ct17 {τ : Nat → Option Nat} {ρ : Nat → Nat → Nat} {K : Nat → Nat} {h : pv_H} {x0 : Int} (hX0 : (-128) ≤ x0 ∧ x0 ≤ 127) : pv_C K 17 [.int (pv_I x0)] h (Q17 τ ρ h x0) := by
  refine pw_entry 0 ?_
  show pv_T K 17 0 (pv_fl [some (.int (pv_I x0))]) [] h (Q17 τ ρ h x0)
  refine pw_iload_n d17_0 rfl ?_
  refine pw_bipush d17_1 (by decide) ?_
  refine pw_icmp_eq d17_3 rfl (by omega) (by omega) (fun c3 => ?_) (fun c3 => ?_)
  · refine pw_iconst d17_12 ?_
    refine pw_goto d17_13 rfl ?_
    exact pw_zreturn d17_17 tt17 (by omega) ⟨rfl, 1, rfl, (by omega), (by omega)⟩
  · refine pw_iload_n d17_6 rfl ?_
    refine pw_bipush d17_7 (by decide) ?_
    refine pw_icmp_ne d17_9 rfl (by omega) (by omega) (fun c9 => ?_) (fun c9 => ?_)
    · refine pw_iconst d17_16 ?_
      exact pw_zreturn d17_17 tt17 (by omega) ⟨rfl, 0, rfl, (by omega), (by omega)⟩
    · refine pw_iconst d17_12 ?_
      refine pw_goto d17_13 rfl ?_
      exact pw_zreturn d17_17 tt17 (by omega) ⟨rfl, 1, rfl, (by omega), (by omega)⟩

abbrev Q18 (τ : Nat → Option Nat) (ρ : Nat → Nat → Nat) (h : pv_H) (x0 : Int) : Option Value → pv_H → Prop := fun r h' => h = h' ∧ ∃ z : Int, r = some (.int (pv_I z)) ∧ 1 ≤ z ∧ z ≤ 4
set_option maxHeartbeats 4000000 in
set_option maxRecDepth 20000 in
/-- AngleNet$Tape.kindOf(B)I -/
theorem ct18 {τ : Nat → Option Nat} {ρ : Nat → Nat → Nat} {K : Nat → Nat} {h : pv_H} {x0 : Int} (hX0 : (-128) ≤ x0 ∧ x0 ≤ 127) : pv_C K 18 [.int (pv_I x0)] h (Q18 τ ρ h x0) := by
  refine pw_entry 0 ?_
  show pv_T K 18 0 (pv_fl [some (.int (pv_I x0))]) [] h (Q18 τ ρ h x0)
  have J28 : ∀ (_ : Unit), ((-128) ≤ x0 ∧ x0 ≤ 127) → pv_T K 18 28 (pv_fl [some (.int (pv_I x0))]) [] h (Q18 τ ρ h x0) := by
    intro _ rL0_28
    refine pw_iload_n d18_28 rfl ?_
    refine pw_bipush d18_29 (by decide) ?_
    refine pw_icmp_ne d18_31 rfl (by omega) (by omega) (fun c31 => ?_) (fun c31 => ?_)
    · refine pw_iconst d18_38 ?_
      exact pw_ireturn d18_39 tt18 ⟨rfl, 4, rfl, (by omega), (by omega)⟩
    · refine pw_iconst d18_34 ?_
      refine pw_goto d18_35 rfl ?_
      exact pw_ireturn d18_39 tt18 ⟨rfl, 3, rfl, (by omega), (by omega)⟩
  have J14 : ∀ (_ : Unit), ((-128) ≤ x0 ∧ x0 ≤ 127) → pv_T K 18 14 (pv_fl [some (.int (pv_I x0))]) [] h (Q18 τ ρ h x0) := by
    intro _ rL0_14
    refine pw_iload_n d18_14 rfl ?_
    refine pw_bipush d18_15 (by decide) ?_
    refine pw_icmp_lt d18_17 rfl (by omega) (by omega) (fun c17 => ?_) (fun c17 => ?_)
    · exact J28 () (by omega)
    · refine pw_iload_n d18_20 rfl ?_
      refine pw_bipush d18_21 (by decide) ?_
      refine pw_icmp_gt d18_23 rfl (by omega) (by omega) (fun c23 => ?_) (fun c23 => ?_)
      · exact J28 () (by omega)
      · refine pw_iconst d18_26 ?_
        exact pw_ireturn d18_27 tt18 ⟨rfl, 2, rfl, (by omega), (by omega)⟩
  refine pw_iload_n d18_0 rfl ?_
  refine pw_bipush d18_1 (by decide) ?_
  refine pw_icmp_lt d18_3 rfl (by omega) (by omega) (fun c3 => ?_) (fun c3 => ?_)
  · exact J14 () (by omega)
  · refine pw_iload_n d18_6 rfl ?_
    refine pw_bipush d18_7 (by decide) ?_
    refine pw_icmp_gt d18_9 rfl (by omega) (by omega) (fun c9 => ?_) (fun c9 => ?_)
    · exact J14 () (by omega)
    · refine pw_iconst d18_12 ?_
      exact pw_ireturn d18_13 tt18 ⟨rfl, 1, rfl, (by omega), (by omega)⟩

abbrev Q16 (τ : Nat → Option Nat) (ρ : Nat → Nat → Nat) (h : pv_H) (a0 : Nat) : Option Value → pv_H → Prop := fun r h' => pv_Ty τ ρ h' ∧ pv_Fr τ [69, 70, 71] h h' ∧ r = none
set_option maxHeartbeats 4000000 in
set_option maxRecDepth 20000 in
/-- AngleNet$Tape.advance()V -/
theorem ct16 {τ : Nat → Option Nat} {ρ : Nat → Nat → Nat} {K : Nat → Nat} {h : pv_H} {a0 : Nat} (hT : pv_Ty τ ρ h) (hA0 : τ a0 = some 1) : pv_C K 16 [.ref a0] h (Q16 τ ρ h a0) := by
  refine pw_entry 0 ?_
  show pv_T K 16 0 (pv_fl [some (.ref a0)]) [] h (Q16 τ ρ h a0)
  have hF0 : pv_Fr τ [69, 70, 71] h h := pv_Fr.rf
  have L98 : ∀ (nn : Nat) (h_98 : pv_H), (pv_Ty τ ρ h_98) → (pv_Fr τ [69, 70, 71] h h_98) → (0 ≤ pv_fI h_98 a0 6 ∧ pv_fI h_98 a0 6 ≤ 1600) → 1600 - pv_fI h_98 a0 6 < nn → pv_T K 16 98 (pv_fl [some (.ref a0)]) [] h_98 (Q16 τ ρ h a0) := by
    intro nn
    induction nn with
    | zero => intro h_98 hT_98 hF_98 i0_98 hm; exfalso; omega
    | succ nn ih98 =>
      intro h_98 hT_98 hF_98 i0_98 hm98
      have J125 : ∀ (_ : Unit), (0 ≤ pv_fI h_98 a0 6 ∧ pv_fI h_98 a0 6 ≤ 1599) → pv_T K 16 125 (pv_fl [some (.ref a0)]) [] h_98 (Q16 τ ρ h a0) := by
        intro _ i0_125
        refine pw_aload_n d16_125 rfl ?_
        refine pw_getR d16_126 g16_22 hT_98 hA0 rfl rfl (fun t126 => ?_)
        have t126 : τ (ρ a0 4) = some 30 := t126
        refine pw_aload_n d16_129 rfl ?_
        refine pw_getI d16_130 g16_35 hT_98 hA0 rfl rfl (fun u130 vu130 => ?_)
        refine pw_bald d16_133 hT_98 t126 rfl (by decide) rfl (by omega) (by omega) (fun u133 vu133 => ?_)
        refine pw_callS1 d16_134 k16_66 rfl rfl (ct18 (τ := τ) (ρ := ρ) (by omega)) (fun r134 h134 q134 => ?_)
        obtain ⟨eh134, z134, ez134, lz134, uz134⟩ := q134
        subst eh134
        subst ez134
        refine pw_aload_n d16_137 rfl ?_
        refine pw_getI d16_138 g16_45 hT_98 hA0 rfl rfl (fun u138 vu138 => ?_)
        refine pw_icmp_ne d16_141 rfl (by omega) (by omega) (fun c141 => ?_) (fun c141 => ?_)
        · exact pw_return d16_157 tt16 ⟨hT_98, hF_98, rfl⟩
        · refine pw_aload_n d16_144 rfl ?_
          refine pw_dup d16_145 rfl ?_
          refine pw_getI d16_146 g16_35 hT_98 hA0 rfl rfl (fun u146 vu146 => ?_)
          refine pw_iconst d16_149 ?_
          refine pw_iadd d16_150 ?_
          refine pw_putI d16_151 g16_35 w1_6 hT_98 hA0 rfl rfl rfl (by omega) (by omega) (fun h151 T151 F151 E151 => ?_)
          have f151 := hF_98.tr (F151.up (by decide))
          have q151 := ((F151 a0 1 hA0).1 7 (by decide)).1
          refine pw_goto d16_154 rfl ?_
          exact ih98 h151 T151 f151 (by omega) (by omega)
      refine pw_aload_n d16_98 rfl ?_
      refine pw_getI d16_99 g16_35 hT_98 hA0 rfl rfl (fun u99 vu99 => ?_)
      refine pw_aload_n d16_102 rfl ?_
      refine pw_getI d16_103 g16_26 hT_98 hA0 rfl rfl (fun u103 vu103 => ?_)
      refine pw_icmp_ge d16_106 rfl (by omega) (by omega) (fun c106 => ?_) (fun c106 => ?_)
      · exact pw_return d16_157 tt16 ⟨hT_98, hF_98, rfl⟩
      · refine pw_aload_n d16_109 rfl ?_
        refine pw_getI d16_110 g16_45 hT_98 hA0 rfl rfl (fun u110 vu110 => ?_)
        refine pw_iconst d16_113 ?_
        refine pw_icmp_eq d16_114 rfl (by omega) (by omega) (fun c114 => ?_) (fun c114 => ?_)
        · exact J125 () (by omega)
        · refine pw_aload_n d16_117 rfl ?_
          refine pw_getI d16_118 g16_45 hT_98 hA0 rfl rfl (fun u118 vu118 => ?_)
          refine pw_iconst d16_121 ?_
          refine pw_icmp_ne d16_122 rfl (by omega) (by omega) (fun c122 => ?_) (fun c122 => ?_)
          · exact pw_return d16_157 tt16 ⟨hT_98, hF_98, rfl⟩
          · exact J125 () (by omega)
  have J47 : ∀ (h_47 : pv_H), (pv_Ty τ ρ h_47) → (pv_Fr τ [69, 70, 71] h h_47) → pv_T K 16 47 (pv_fl [some (.ref a0)]) [] h_47 (Q16 τ ρ h a0) := by
    intro h_47 hT_47 hF_47
    refine pw_aload_n d16_47 rfl ?_
    refine pw_getI d16_48 g16_52 hT_47 hA0 rfl rfl (fun u48 vu48 => ?_)
    refine pw_aload_n d16_51 rfl ?_
    refine pw_getI d16_52 g16_26 hT_47 hA0 rfl rfl (fun u52 vu52 => ?_)
    refine pw_icmp_lt d16_55 rfl (by omega) (by omega) (fun c55 => ?_) (fun c55 => ?_)
    · refine pw_aload_n d16_72 rfl ?_
      refine pw_aload_n d16_73 rfl ?_
      refine pw_getR d16_74 g16_22 hT_47 hA0 rfl rfl (fun t74 => ?_)
      have t74 : τ (ρ a0 4) = some 30 := t74
      refine pw_aload_n d16_77 rfl ?_
      refine pw_getI d16_78 g16_52 hT_47 hA0 rfl rfl (fun u78 vu78 => ?_)
      refine pw_bald d16_81 hT_47 t74 rfl (by decide) rfl (by omega) (by omega) (fun u81 vu81 => ?_)
      refine pw_callS1 d16_82 k16_66 rfl rfl (ct18 (τ := τ) (ρ := ρ) (by omega)) (fun r82 h82 q82 => ?_)
      obtain ⟨eh82, z82, ez82, lz82, uz82⟩ := q82
      subst eh82
      subst ez82
      refine pw_putI d16_85 g16_45 w1_7 hT_47 hA0 rfl rfl rfl (by omega) (by omega) (fun h85 T85 F85 E85 => ?_)
      have f85 := hF_47.tr (F85.up (by decide))
      have q85 := ((F85 a0 1 hA0).1 0 (by decide)).1
      have q85b := ((F85 a0 1 hA0).1 5 (by decide)).1
      refine pw_aload_n d16_88 rfl ?_
      refine pw_aload_n d16_89 rfl ?_
      refine pw_getI d16_90 g16_52 T85 hA0 rfl rfl (fun u90 vu90 => ?_)
      refine pw_iconst d16_93 ?_
      refine pw_iadd d16_94 ?_
      refine pw_putI d16_95 g16_35 w1_6 T85 hA0 rfl rfl rfl (by omega) (by omega) (fun h95 T95 F95 E95 => ?_)
      have f95 := f85.tr (F95.up (by decide))
      have q95 := ((F95 a0 1 hA0).1 0 (by decide)).1
      have q95b := ((F95 a0 1 hA0).1 5 (by decide)).1
      have q95c := ((F95 a0 1 hA0).1 7 (by decide)).1
      exact L98 _ h95 T95 f95 (by omega) (pv_mu _)
    · refine pw_aload_n d16_58 rfl ?_
      refine pw_iconst d16_59 ?_
      refine pw_putI d16_60 g16_45 w1_7 hT_47 hA0 rfl rfl rfl (by omega) (by omega) (fun h60 T60 F60 E60 => ?_)
      have f60 := hF_47.tr (F60.up (by decide))
      have q60 := ((F60 a0 1 hA0).1 0 (by decide)).1
      have q60b := ((F60 a0 1 hA0).1 5 (by decide)).1
      refine pw_aload_n d16_63 rfl ?_
      refine pw_aload_n d16_64 rfl ?_
      refine pw_getI d16_65 g16_52 T60 hA0 rfl rfl (fun u65 vu65 => ?_)
      refine pw_putI d16_68 g16_35 w1_6 T60 hA0 rfl rfl rfl (by omega) (by omega) (fun h68 T68 F68 E68 => ?_)
      have f68 := f60.tr (F68.up (by decide))
      have q68 := ((F68 a0 1 hA0).1 0 (by decide)).1
      have q68b := ((F68 a0 1 hA0).1 5 (by decide)).1
      have q68c := ((F68 a0 1 hA0).1 7 (by decide)).1
      exact pw_return d16_71 tt16 ⟨T68, f68, rfl⟩
  have L8 : ∀ (nn : Nat) (h_8 : pv_H), (pv_Ty τ ρ h_8) → (pv_Fr τ [69, 70, 71] h h_8) → (0 ≤ pv_fI h_8 a0 5 ∧ pv_fI h_8 a0 5 ≤ 1600) → 1600 - pv_fI h_8 a0 5 < nn → pv_T K 16 8 (pv_fl [some (.ref a0)]) [] h_8 (Q16 τ ρ h a0) := by
    intro nn
    induction nn with
    | zero => intro h_8 hT_8 hF_8 i0_8 hm; exfalso; omega
    | succ nn ih8 =>
      intro h_8 hT_8 hF_8 i0_8 hm8
      refine pw_aload_n d16_8 rfl ?_
      refine pw_getI d16_9 g16_52 hT_8 hA0 rfl rfl (fun u9 vu9 => ?_)
      refine pw_aload_n d16_12 rfl ?_
      refine pw_getI d16_13 g16_26 hT_8 hA0 rfl rfl (fun u13 vu13 => ?_)
      refine pw_icmp_ge d16_16 rfl (by omega) (by omega) (fun c16 => ?_) (fun c16 => ?_)
      · exact J47 h_8 hT_8 hF_8
      · refine pw_aload_n d16_19 rfl ?_
        refine pw_getR d16_20 g16_22 hT_8 hA0 rfl rfl (fun t20 => ?_)
        have t20 : τ (ρ a0 4) = some 30 := t20
        refine pw_aload_n d16_23 rfl ?_
        refine pw_getI d16_24 g16_52 hT_8 hA0 rfl rfl (fun u24 vu24 => ?_)
        refine pw_bald d16_27 hT_8 t20 rfl (by decide) rfl (by omega) (by omega) (fun u27 vu27 => ?_)
        refine pw_callS1 d16_28 k16_62 rfl rfl (ct17 (τ := τ) (ρ := ρ) (by omega)) (fun r28 h28 q28 => ?_)
        obtain ⟨eh28, z28, ez28, lz28, uz28⟩ := q28
        subst eh28
        subst ez28
        refine pw_if_eq d16_31 rfl (by omega) (fun c31 => ?_) (fun c31 => ?_)
        · exact J47 h_8 hT_8 hF_8
        · refine pw_aload_n d16_34 rfl ?_
          refine pw_dup d16_35 rfl ?_
          refine pw_getI d16_36 g16_52 hT_8 hA0 rfl rfl (fun u36 vu36 => ?_)
          refine pw_iconst d16_39 ?_
          refine pw_iadd d16_40 ?_
          refine pw_putI d16_41 g16_52 w1_5 hT_8 hA0 rfl rfl rfl (by omega) (by omega) (fun h41 T41 F41 E41 => ?_)
          have f41 := hF_8.tr (F41.up (by decide))
          have q41 := ((F41 a0 1 hA0).1 0 (by decide)).1
          refine pw_goto d16_44 rfl ?_
          exact ih8 h41 T41 f41 (by omega) (by omega)
  refine pw_aload_n d16_0 rfl ?_
  refine pw_aload_n d16_1 rfl ?_
  refine pw_getI d16_2 g16_35 hT hA0 rfl rfl (fun u2 vu2 => ?_)
  refine pw_putI d16_5 g16_52 w1_5 hT hA0 rfl rfl rfl (by omega) (by omega) (fun h5 T5 F5 E5 => ?_)
  have f5 := hF0.tr (F5.up (by decide))
  have q5 := ((F5 a0 1 hA0).1 6 (by decide)).1
  exact L8 _ h5 T5 f5 (by omega) (pv_mu _)

abbrev Q35 (τ : Nat → Option Nat) (ρ : Nat → Nat → Nat) (h : pv_H) (a0 : Nat) : Option Value → pv_H → Prop := fun r h' => h = h' ∧ ∃ z : Int, r = some (.int (pv_I z)) ∧ (-2147483648) ≤ z ∧ z ≤ 2147483647
set_option maxHeartbeats 4000000 in
set_option maxRecDepth 20000 in
/-- AngleNet$Tape.valueOfToken()I -/
theorem ct35 {τ : Nat → Option Nat} {ρ : Nat → Nat → Nat} {K : Nat → Nat} {h : pv_H} {a0 : Nat} (hT : pv_Ty τ ρ h) (hA0 : τ a0 = some 1) : pv_C K 35 [.ref a0] h (Q35 τ ρ h a0) := by
  refine pw_entry 2 ?_
  show pv_T K 35 0 (pv_fl [some (.ref a0), none, none]) [] h (Q35 τ ρ h a0)
  have L7 : ∀ (nn : Nat) (xL1_7 xL2_7 : Int), ((-2147483648) ≤ xL1_7 ∧ xL1_7 ≤ 2147483647) → (0 ≤ xL2_7 ∧ xL2_7 ≤ 1600) → 1600 - xL2_7 < nn → pv_T K 35 7 (pv_fl [some (.ref a0), some (.int (pv_I xL1_7)), some (.int (pv_I xL2_7))]) [] h (Q35 τ ρ h a0) := by
    intro nn
    induction nn with
    | zero => intro xL1_7 xL2_7 rL1_7 rL2_7 hm; exfalso; omega
    | succ nn ih7 =>
      intro xL1_7 xL2_7 rL1_7 rL2_7 hm7
      have J40 : ∀ (xS0_40 : Int) (o1_40 : Option Value), (0 ≤ xL2_7 ∧ xL2_7 ≤ 1599) → ((-9223372036854775808) ≤ xS0_40 ∧ xS0_40 ≤ 2147483646) → pv_T K 35 40 (pv_fl [some (.ref a0), o1_40, some (.int (pv_I xL2_7))]) [.int (pv_I xS0_40)] h (Q35 τ ρ h a0) := by
        intro xS0_40 o1_40 rL2_40 rS0_40
        refine pw_any (fun z40 hz40 ez40 => ?_)
        refine pw_istore_n d35_40 m35 rfl rfl ?_
        refine pw_iinc d35_41 m35 rfl rfl rfl ?_
        refine pw_goto d35_44 rfl ?_
        exact ih7 (z40) ((xL2_7 + 1)) (by omega) (by omega) (by omega)
      refine pw_iload_n d35_7 rfl ?_
      refine pw_aload_n d35_8 rfl ?_
      refine pw_getI d35_9 g35_35 hT hA0 rfl rfl (fun u9 vu9 => ?_)
      refine pw_icmp_ge d35_12 rfl (by omega) (by omega) (fun c12 => ?_) (fun c12 => ?_)
      · refine pw_iload_n d35_47 rfl ?_
        exact pw_ireturn d35_48 tt35 ⟨rfl, xL1_7, rfl, (by omega), (by omega)⟩
      · refine pw_iload_n d35_15 rfl ?_
        refine pw_ldc (v := pv_I 1000000) d35_16 n35_16 ?_
        refine pw_icmp_ge d35_18 rfl (by omega) (by omega) (fun c18 => ?_) (fun c18 => ?_)
        · refine pw_ldc (v := pv_I 1000000) d35_38 n35_38 ?_
          exact J40 (1000000) _ (by omega) (by omega)
        · refine pw_bipush d35_21 (by decide) ?_
          refine pw_iload_n d35_23 rfl ?_
          refine pw_imul d35_24 ?_
          refine pw_aload_n d35_25 rfl ?_
          refine pw_getR d35_26 g35_22 hT hA0 rfl rfl (fun t26 => ?_)
          have t26 : τ (ρ a0 4) = some 30 := t26
          refine pw_iload_n d35_29 rfl ?_
          refine pw_bald d35_30 hT t26 rfl (by decide) rfl (by omega) (by omega) (fun u30 vu30 => ?_)
          refine pw_iadd d35_31 ?_
          refine pw_bipush d35_32 (by decide) ?_
          refine pw_isub d35_34 ?_
          refine pw_goto d35_35 rfl ?_
          exact J40 ((((10 * xL1_7) + (pv_aI h (ρ a0 4) (xL2_7).toNat)) - 48)) _ (by omega) (by omega)
  refine pw_iconst d35_0 ?_
  refine pw_istore_n d35_1 m35 rfl rfl ?_
  refine pw_aload_n d35_2 rfl ?_
  refine pw_getI d35_3 g35_52 hT hA0 rfl rfl (fun u3 vu3 => ?_)
  refine pw_istore_n d35_6 m35 rfl rfl ?_
  exact L7 _ (0) ((pv_fI h a0 5)) (by omega) (by omega) (pv_mu _)

abbrev Q20 (τ : Nat → Option Nat) (ρ : Nat → Nat → Nat) (h : pv_H) (a0 : Nat) (s1 : Nat) : Option Value → pv_H → Prop := fun r h' => pv_Ty τ ρ h' ∧ pv_Fr τ [69, 70, 71] h h' ∧ ∃ z : Int, r = some (.int (pv_I z)) ∧ 0 ≤ z ∧ z ≤ 1
set_option maxHeartbeats 4000000 in
set_option maxRecDepth 20000 in
/-- AngleNet$Tape.takeWord(Ljava/lang/String;)Z -/
theorem ct20 {τ : Nat → Option Nat} {ρ : Nat → Nat → Nat} {K : Nat → Nat} {h : pv_H} {a0 : Nat} {s1 : Nat} (hK : pv_Kok K) (hT : pv_Ty τ ρ h) (hA0 : τ a0 = some 1) (hS1 : s1 < 9) : pv_C K 20 [.ref a0, .ref (K s1)] h (Q20 τ ρ h a0 s1) := by
  refine pw_entry 1 ?_
  show pv_T K 20 0 (pv_fl [some (.ref a0), some (.ref (K s1)), none]) [] h (Q20 τ ρ h a0 s1)
  have hF0 : pv_Fr τ [69, 70, 71] h h := pv_Fr.rf
  have L28 : ∀ (nn : Nat) (xL2_28 : Int), (0 ≤ xL2_28 ∧ xL2_28 ≤ 6) → (pv_fI h a0 6 - pv_fI h a0 5 = (pv_len.getD s1 0 : Int)) → (pv_fI h a0 6 ≤ 1600) → 6 - xL2_28 < nn → pv_T K 20 28 (pv_fl [some (.ref a0), some (.ref (K s1)), some (.int (pv_I xL2_28))]) [] h (Q20 τ ρ h a0 s1) := by
    intro nn
    induction nn with
    | zero => intro xL2_28 rL2_28 i0_28 i1_28 hm; exfalso; omega
    | succ nn ih28 =>
      intro xL2_28 rL2_28 i0_28 i1_28 hm28
      refine pw_iload_n d20_28 rfl ?_
      refine pw_aload_n d20_29 rfl ?_
      refine pw_slen d20_30 k20_71 hK hS1 rfl (fun u30 vu30 => ?_)
      refine pw_icmp_ge d20_33 rfl (by omega) (by omega) (fun c33 => ?_) (fun c33 => ?_)
      · refine pw_aload_n d20_63 rfl ?_
        refine pw_callV0 d20_64 k20_42 hT hA0 rfl rfl rfl (ct16 (τ := τ) (ρ := ρ) hT hA0) (fun r64 h64 q64 => ?_)
        obtain ⟨T64, F64, ez64⟩ := q64
        subst ez64
        have f64 := hF0.tr (F64.up (by decide))
        refine pw_iconst d20_67 ?_
        exact pw_zreturn d20_68 tt20 (by omega) ⟨T64, f64, 1, rfl, (by omega), (by omega)⟩
      · refine pw_aload_n d20_36 rfl ?_
        refine pw_getR d20_37 g20_22 hT hA0 rfl rfl (fun t37 => ?_)
        have t37 : τ (ρ a0 4) = some 30 := t37
        refine pw_aload_n d20_40 rfl ?_
        refine pw_getI d20_41 g20_52 hT hA0 rfl rfl (fun u41 vu41 => ?_)
        refine pw_iload_n d20_44 rfl ?_
        refine pw_iadd d20_45 ?_
        refine pw_bald d20_46 hT t37 rfl (by decide) rfl (by omega) (by omega) (fun u46 vu46 => ?_)
        refine pw_aload_n d20_47 rfl ?_
        refine pw_iload_n d20_48 rfl ?_
        refine pw_scha d20_49 k20_76 hK hS1 rfl (by omega) (by omega) (fun z49 hz49 ez49 => ?_)
        refine pw_icmp_eq d20_52 rfl (by omega) (by omega) (fun c52 => ?_) (fun c52 => ?_)
        · refine pw_iinc d20_57 m20 rfl rfl rfl ?_
          refine pw_goto d20_60 rfl ?_
          exact ih28 ((xL2_28 + 1)) (by omega) (by omega) (by omega) (by omega)
        · refine pw_iconst d20_55 ?_
          exact pw_zreturn d20_56 tt20 (by omega) ⟨hT, hF0, 0, rfl, (by omega), (by omega)⟩
  refine pw_aload_n d20_0 rfl ?_
  refine pw_getI d20_1 g20_45 hT hA0 rfl rfl (fun u1 vu1 => ?_)
  refine pw_iconst d20_4 ?_
  refine pw_icmp_ne d20_5 rfl (by omega) (by omega) (fun c5 => ?_) (fun c5 => ?_)
  · refine pw_iconst d20_24 ?_
    exact pw_zreturn d20_25 tt20 (by omega) ⟨hT, hF0, 0, rfl, (by omega), (by omega)⟩
  · refine pw_aload_n d20_8 rfl ?_
    refine pw_getI d20_9 g20_35 hT hA0 rfl rfl (fun u9 vu9 => ?_)
    refine pw_aload_n d20_12 rfl ?_
    refine pw_getI d20_13 g20_52 hT hA0 rfl rfl (fun u13 vu13 => ?_)
    refine pw_isub d20_16 ?_
    refine pw_aload_n d20_17 rfl ?_
    refine pw_slen d20_18 k20_71 hK hS1 rfl (fun u18 vu18 => ?_)
    refine pw_icmp_eq d20_21 rfl (by omega) (by omega) (fun c21 => ?_) (fun c21 => ?_)
    · refine pw_iconst d20_26 ?_
      refine pw_istore_n d20_27 m20 rfl rfl ?_
      exact L28 _ (0) (by omega) (by omega) (by omega) (pv_mu _)
    · refine pw_iconst d20_24 ?_
      exact pw_zreturn d20_25 tt20 (by omega) ⟨hT, hF0, 0, rfl, (by omega), (by omega)⟩

abbrev Q33 (τ : Nat → Option Nat) (ρ : Nat → Nat → Nat) (h : pv_H) (a0 : Nat) (x1 : Int) (x2 : Int) : Option Value → pv_H → Prop := fun r h' => pv_Ty τ ρ h' ∧ pv_Fr τ [65, 66, 69, 70, 71, 72, 73] h h' ∧ ∃ z : Int, r = some (.int (pv_I z)) ∧ 0 ≤ z ∧ z ≤ 1 ∧ (z = 1 → x1 ≤ pv_fI h' a0 8 ∧ pv_fI h' a0 8 ≤ x2)
set_option maxHeartbeats 4000000 in
set_option maxRecDepth 20000 in
/-- AngleNet$Tape.takeNumber(II)Z -/
theorem ct33 {τ : Nat → Option Nat} {ρ : Nat → Nat → Nat} {K : Nat → Nat} {h : pv_H} {a0 : Nat} {x1 : Int} {x2 : Int} (hT : pv_Ty τ ρ h) (hA0 : τ a0 = some 1) (hX1 : (-2147483648) ≤ x1 ∧ x1 ≤ 2147483647) (hX2 : (-2147483648) ≤ x2 ∧ x2 ≤ 2147483647) : pv_C K 33 [.ref a0, .int (pv_I x1), .int (pv_I x2)] h (Q33 τ ρ h a0 x1 x2) := by
  refine pw_entry 0 ?_
  show pv_T K 33 0 (pv_fl [some (.ref a0), some (.int (pv_I x1)), some (.int (pv_I x2))]) [] h (Q33 τ ρ h a0 x1 x2)
  have hF0 : pv_Fr τ [65, 66, 69, 70, 71, 72, 73] h h := pv_Fr.rf
  have J50 : ∀ (h_50 : pv_H) (o1_50 o2_50 : Option Value), (pv_Ty τ ρ h_50) → (pv_Fr τ [65, 66, 69, 70, 71, 72, 73] h h_50) → pv_T K 33 50 (pv_fl [some (.ref a0), o1_50, o2_50]) [] h_50 (Q33 τ ρ h a0 x1 x2) := by
    intro h_50 o1_50 o2_50 hT_50 hF_50
    refine pw_aload_n d33_50 rfl ?_
    refine pw_iconst d33_51 ?_
    refine pw_aload_n d33_52 rfl ?_
    refine pw_getI d33_53 g33_86 hT_50 hA0 rfl rfl (fun u53 vu53 => ?_)
    refine pw_callV2 d33_56 k33_55 hT_50 hA0 rfl rfl rfl (ct34 (τ := τ) (ρ := ρ) hT_50 hA0 (by omega) (by omega)) (fun r56 h56 q56 => ?_)
    obtain ⟨T56, F56, z56, ez56, lz56, uz56, pz56_0⟩ := q56
    subst ez56
    have f56 := hF_50.tr (F56.up (by decide))
    have q56b := ((F56 a0 1 hA0).1 9 (by decide)).1
    exact pw_zreturn d33_59 tt33 (by omega) ⟨T56, f56, z56, rfl, (by omega), (by omega), (by omega)⟩
  refine pw_aload_n d33_0 rfl ?_
  refine pw_getI d33_1 g33_45 hT hA0 rfl rfl (fun u1 vu1 => ?_)
  refine pw_iconst d33_4 ?_
  refine pw_icmp_eq d33_5 rfl (by omega) (by omega) (fun c5 => ?_) (fun c5 => ?_)
  · refine pw_aload_n d33_18 rfl ?_
    refine pw_aload_n d33_19 rfl ?_
    refine pw_callV0 d33_20 k33_80 hT hA0 rfl rfl rfl (ct35 (τ := τ) (ρ := ρ) hT hA0) (fun r20 h20 q20 => ?_)
    obtain ⟨eh20, z20, ez20, lz20, uz20⟩ := q20
    subst eh20
    subst ez20
    refine pw_putI d33_23 g33_83 w1_8 hT hA0 rfl rfl rfl (by omega) (by omega) (fun h23 T23 F23 E23 => ?_)
    have f23 := hF0.tr (F23.up (by decide))
    have q23 := ((F23 a0 1 hA0).1 7 (by decide)).1
    refine pw_aload_n d33_26 rfl ?_
    refine pw_aload_n d33_27 rfl ?_
    refine pw_getI d33_28 g33_52 T23 hA0 rfl rfl (fun u28 vu28 => ?_)
    refine pw_putI d33_31 g33_86 w1_9 T23 hA0 rfl rfl rfl (by omega) (by omega) (fun h31 T31 F31 E31 => ?_)
    have f31 := f23.tr (F31.up (by decide))
    have q31 := ((F31 a0 1 hA0).1 5 (by decide)).1
    have q31b := ((F31 a0 1 hA0).1 7 (by decide)).1
    have q31c := ((F31 a0 1 hA0).1 8 (by decide)).1
    refine pw_aload_n d33_34 rfl ?_
    refine pw_getI d33_35 g33_83 T31 hA0 rfl rfl (fun u35 vu35 => ?_)
    refine pw_iload_n d33_38 rfl ?_
    refine pw_icmp_lt d33_39 rfl (by omega) (by omega) (fun c39 => ?_) (fun c39 => ?_)
    · exact J50 h31 _ _ T31 f31
    · refine pw_aload_n d33_42 rfl ?_
      refine pw_getI d33_43 g33_83 T31 hA0 rfl rfl (fun u43 vu43 => ?_)
      refine pw_iload_n d33_46 rfl ?_
      refine pw_icmp_le d33_47 rfl (by omega) (by omega) (fun c47 => ?_) (fun c47 => ?_)
      · refine pw_aload_n d33_60 rfl ?_
        refine pw_callV0 d33_61 k33_42 T31 hA0 rfl rfl rfl (ct16 (τ := τ) (ρ := ρ) T31 hA0) (fun r61 h61 q61 => ?_)
        obtain ⟨T61, F61, ez61⟩ := q61
        subst ez61
        have f61 := f31.tr (F61.up (by decide))
        have q61b := ((F61 a0 1 hA0).1 8 (by decide)).1
        have q61c := ((F61 a0 1 hA0).1 9 (by decide)).1
        refine pw_iconst d33_64 ?_
        exact pw_zreturn d33_65 tt33 (by omega) ⟨T61, f61, 1, rfl, (by omega), (by omega), (by omega)⟩
      · exact J50 h31 _ _ T31 f31
  · refine pw_aload_n d33_8 rfl ?_
    refine pw_iconst d33_9 ?_
    refine pw_aload_n d33_10 rfl ?_
    refine pw_getI d33_11 g33_52 hT hA0 rfl rfl (fun u11 vu11 => ?_)
    refine pw_callV2 d33_14 k33_55 hT hA0 rfl rfl rfl (ct34 (τ := τ) (ρ := ρ) hT hA0 (by omega) (by omega)) (fun r14 h14 q14 => ?_)
    obtain ⟨T14, F14, z14, ez14, lz14, uz14, pz14_0⟩ := q14
    subst ez14
    have f14 := hF0.tr (F14.up (by decide))
    have q14b := ((F14 a0 1 hA0).1 5 (by decide)).1
    have q14c := ((F14 a0 1 hA0).1 7 (by decide)).1
    exact pw_zreturn d33_17 tt33 (by omega) ⟨T14, f14, z14, rfl, (by omega), (by omega), (by omega)⟩

abbrev Q38 (τ : Nat → Option Nat) (ρ : Nat → Nat → Nat) (h : pv_H) (a0 : Nat) : Option Value → pv_H → Prop := fun r h' => pv_Ty τ ρ h' ∧ pv_Fr τ [65, 66, 69, 70, 71, 72, 73] h h' ∧ ∃ z : Int, r = some (.int (pv_I z)) ∧ 0 ≤ z ∧ z ≤ 1 ∧ (z = 1 → 0 ≤ pv_fI h' a0 8 ∧ pv_fI h' a0 8 ≤ 9)
set_option maxHeartbeats 4000000 in
set_option maxRecDepth 20000 in
/-- AngleNet$Tape.takePost()Z -/
theorem ct38 {τ : Nat → Option Nat} {ρ : Nat → Nat → Nat} {K : Nat → Nat} {h : pv_H} {a0 : Nat} (hT : pv_Ty τ ρ h) (hA0 : τ a0 = some 1) : pv_C K 38 [.ref a0] h (Q38 τ ρ h a0) := by
  refine pw_entry 0 ?_
  show pv_T K 38 0 (pv_fl [some (.ref a0)]) [] h (Q38 τ ρ h a0)
  have hF0 : pv_Fr τ [65, 66, 69, 70, 71, 72, 73] h h := pv_Fr.rf
  refine pw_aload_n d38_0 rfl ?_
  refine pw_iconst d38_1 ?_
  refine pw_aload_n d38_2 rfl ?_
  refine pw_getR d38_3 g38_18 hT hA0 rfl rfl (fun t3 => ?_)
  have t3 : τ (ρ a0 3) = some 2 := t3
  refine pw_getI d38_6 g38_89 hT t3 rfl rfl (fun u6 vu6 => ?_)
  refine pw_iconst d38_9 ?_
  refine pw_isub d38_10 ?_
  refine pw_callV2 d38_11 k38_92 hT hA0 rfl rfl rfl (ct33 (τ := τ) (ρ := ρ) hT hA0 (by omega) (by omega)) (fun r11 h11 q11 => ?_)
  obtain ⟨T11, F11, z11, ez11, lz11, uz11, pz11_0⟩ := q11
  subst ez11
  have f11 := hF0.tr (F11.up (by decide))
  have q11b := ((F11 (ρ a0 3) 2 t3).1 0 (by decide)).1
  exact pw_zreturn d38_14 tt38 (by omega) ⟨T11, f11, z11, rfl, (by omega), (by omega), (by omega)⟩

abbrev Q32 (τ : Nat → Option Nat) (ρ : Nat → Nat → Nat) (h : pv_H) (a0 : Nat) : Option Value → pv_H → Prop := fun r h' => pv_Ty τ ρ h' ∧ pv_Fr τ [65, 66, 69, 70, 71, 72, 73, 128, 131, 132] h h' ∧ ∃ z : Int, r = some (.int (pv_I z)) ∧ 0 ≤ z ∧ z ≤ 1
set_option maxHeartbeats 4000000 in
set_option maxRecDepth 20000 in
/-- AngleNet$Tape.readPosts()Z -/
theorem ct32 {τ : Nat → Option Nat} {ρ : Nat → Nat → Nat} {K : Nat → Nat} {h : pv_H} {a0 : Nat} (hT : pv_Ty τ ρ h) (hA0 : τ a0 = some 1) : pv_C K 32 [.ref a0] h (Q32 τ ρ h a0) := by
  refine pw_entry 0 ?_
  show pv_T K 32 0 (pv_fl [some (.ref a0)]) [] h (Q32 τ ρ h a0)
  have hF0 : pv_Fr τ [65, 66, 69, 70, 71, 72, 73, 128, 131, 132] h h := pv_Fr.rf
  refine pw_aload_n d32_0 rfl ?_
  refine pw_iconst d32_1 ?_
  refine pw_bipush d32_2 (by decide) ?_
  refine pw_callV2 d32_4 k32_92 hT hA0 rfl rfl rfl (ct33 (τ := τ) (ρ := ρ) hT hA0 (by omega) (by omega)) (fun r4 h4 q4 => ?_)
  obtain ⟨T4, F4, z4, ez4, lz4, uz4, pz4_0⟩ := q4
  subst ez4
  have f4 := hF0.tr (F4.up (by decide))
  refine pw_if_ne d32_7 rfl (by omega) (fun c7 => ?_) (fun c7 => ?_)
  · refine pw_aload_n d32_12 rfl ?_
    refine pw_getR d32_13 g32_18 T4 hA0 rfl rfl (fun t13 => ?_)
    have t13 : τ (ρ a0 3) = some 2 := t13
    refine pw_aload_n d32_16 rfl ?_
    refine pw_getI d32_17 g32_83 T4 hA0 rfl rfl (fun u17 vu17 => ?_)
    refine pw_callV1 d32_20 k32_135 T4 t13 rfl rfl rfl (ct36 (τ := τ) (ρ := ρ) T4 t13 (by omega)) (fun r20 h20 q20 => ?_)
    obtain ⟨T20, F20, ez20⟩ := q20
    subst ez20
    have f20 := f4.tr (F20.up (by decide))
    have q20b := ((F20 a0 1 hA0).1 8 (by decide)).1
    refine pw_iconst d32_23 ?_
    exact pw_zreturn d32_24 tt32 (by omega) ⟨T20, f20, 1, rfl, (by omega), (by omega)⟩
  · refine pw_iconst d32_10 ?_
    exact pw_zreturn d32_11 tt32 (by omega) ⟨T4, f4, 0, rfl, (by omega), (by omega)⟩

abbrev Q41 (τ : Nat → Option Nat) (ρ : Nat → Nat → Nat) (h : pv_H) (a0 : Nat) (x1 : Int) (x2 : Int) (x3 : Int) : Option Value → pv_H → Prop := fun r h' => pv_Ty τ ρ h' ∧ pv_Fr τ [65, 66, 69, 70, 71, 72, 73, 129, 1343, 1407, 1791] h h' ∧ ∃ z : Int, r = some (.int (pv_I z)) ∧ 0 ≤ z ∧ z ≤ 1
set_option maxHeartbeats 4000000 in
set_option maxRecDepth 20000 in
/-- AngleNet$Tape.readSum(III)Z -/
theorem ct41 {τ : Nat → Option Nat} {ρ : Nat → Nat → Nat} {K : Nat → Nat} {h : pv_H} {a0 : Nat} {x1 : Int} {x2 : Int} {x3 : Int} (hK : pv_Kok K) (hT : pv_Ty τ ρ h) (hA0 : τ a0 = some 1) (hX1 : 0 ≤ x1 ∧ x1 ≤ 9) (hX2 : 0 ≤ x2 ∧ x2 ≤ 9) (hX3 : 0 ≤ x3 ∧ x3 ≤ 9) (hP0 : pv_fI h (ρ a0 3) 1 ≤ 17) : pv_C K 41 [.ref a0, .int (pv_I x1), .int (pv_I x2), .int (pv_I x3)] h (Q41 τ ρ h a0 x1 x2 x3) := by
  refine pw_entry 1 ?_
  show pv_T K 41 0 (pv_fl [some (.ref a0), some (.int (pv_I x1)), some (.int (pv_I x2)), some (.int (pv_I x3)), none]) [] h (Q41 τ ρ h a0 x1 x2 x3)
  have hR0_3 : τ (ρ a0 3) = some 2 := hT.rf (t' := 2) hA0 rfl rfl
  have hF0 : pv_Fr τ [65, 66, 69, 70, 71, 72, 73, 129, 1343, 1407, 1791] h h := pv_Fr.rf
  have J33 : ∀ (h_33 : pv_H) (xL4_33 : Int), (pv_Ty τ ρ h_33) → (pv_Fr τ [65, 66, 69, 70, 71, 72, 73, 129, 1343, 1407, 1791] h h_33) → (0 ≤ x1 ∧ x1 ≤ 9) → (0 ≤ x2 ∧ x2 ≤ 9) → (0 ≤ x3 ∧ x3 ≤ 9) → (3 ≤ xL4_33 ∧ xL4_33 ≤ 540) → (pv_fI h_33 (ρ a0 3) 1 ≤ 17) → pv_T K 41 33 (pv_fl [some (.ref a0), some (.int (pv_I x1)), some (.int (pv_I x2)), some (.int (pv_I x3)), some (.int (pv_I xL4_33))]) [] h_33 (Q41 τ ρ h a0 x1 x2 x3) := by
    intro h_33 xL4_33 hT_33 hF_33 rL1_33 rL2_33 rL3_33 rL4_33 i0_33
    refine pw_aload_n d41_33 rfl ?_
    refine pw_getR d41_34 g41_18 hT_33 hA0 rfl rfl (fun t34 => ?_)
    have t34 : τ (ρ a0 3) = some 2 := t34
    refine pw_aload_n d41_37 rfl ?_
    refine pw_getR d41_38 g41_18 hT_33 hA0 rfl rfl (fun t38 => ?_)
    have t38 : τ (ρ a0 3) = some 2 := t38
    refine pw_getI d41_41 g41_105 hT_33 t38 rfl rfl (fun u41 vu41 => ?_)
    refine pw_iload_n d41_44 rfl ?_
    refine pw_iload_n d41_45 rfl ?_
    refine pw_iload_n d41_46 rfl ?_
    refine pw_iload d41_47 rfl ?_
    refine pw_callV5 d41_49 k41_151 hT_33 t38 rfl rfl rfl (ct42 (τ := τ) (ρ := ρ) hT_33 t38 (by omega) (by omega) (by omega) (by omega) (by omega)) (fun r49 h49 q49 => ?_)
    obtain ⟨T49, F49, ez49⟩ := q49
    subst ez49
    have f49 := hF_33.tr (F49.up (by decide))
    have q49b := ((F49 (ρ a0 3) 2 t38).1 1 (by decide)).1
    refine pw_aload_n d41_52 rfl ?_
    refine pw_getR d41_53 g41_18 T49 hA0 rfl rfl (fun t53 => ?_)
    have t53 : τ (ρ a0 3) = some 2 := t53
    refine pw_dup d41_56 rfl ?_
    refine pw_getI d41_57 g41_105 T49 t53 rfl rfl (fun u57 vu57 => ?_)
    refine pw_iconst d41_60 ?_
    refine pw_iadd d41_61 ?_
    refine pw_putI d41_62 g41_105 w2_1 T49 t53 rfl rfl rfl (by omega) (by omega) (fun h62 T62 F62 E62 => ?_)
    have f62 := f49.tr (F62.up (by decide))
    refine pw_iconst d41_65 ?_
    exact pw_zreturn d41_66 tt41 (by omega) ⟨T62, f62, 1, rfl, (by omega), (by omega)⟩
  refine pw_sipush d41_0 (by decide) ?_
  refine pw_istore d41_3 m41 rfl rfl ?_
  refine pw_aload_n d41_5 rfl ?_
  refine pw_ldcS d41_6 n41_6.1 n41_6.2 ?_
  refine pw_callV1 d41_8 k41_96 hT hA0 rfl rfl rfl (ct20 (τ := τ) (ρ := ρ) hK hT hA0 (by decide)) (fun r8 h8 q8 => ?_)
  obtain ⟨T8, F8, z8, ez8, lz8, uz8⟩ := q8
  subst ez8
  have f8 := hF0.tr (F8.up (by decide))
  have q8b := ((F8 (ρ a0 3) 2 hR0_3).1 1 (by decide)).1
  refine pw_if_eq d41_11 rfl (by omega) (fun c11 => ?_) (fun c11 => ?_)
  · exact J33 h8 (180) T8 f8 (by omega) (by omega) (by omega) (by omega) (by omega)
  · refine pw_aload_n d41_14 rfl ?_
    refine pw_iconst d41_15 ?_
    refine pw_sipush d41_16 (by decide) ?_
    refine pw_callV2 d41_19 k41_92 T8 hA0 rfl rfl rfl (ct33 (τ := τ) (ρ := ρ) T8 hA0 (by omega) (by omega)) (fun r19 h19 q19 => ?_)
    obtain ⟨T19, F19, z19, ez19, lz19, uz19, pz19_0⟩ := q19
    subst ez19
    have f19 := f8.tr (F19.up (by decide))
    have q19b := ((F19 (ρ a0 3) 2 hR0_3).1 1 (by decide)).1
    refine pw_if_ne d41_22 rfl (by omega) (fun c22 => ?_) (fun c22 => ?_)
    · refine pw_aload_n d41_27 rfl ?_
      refine pw_getI d41_28 g41_83 T19 hA0 rfl rfl (fun u28 vu28 => ?_)
      refine pw_istore d41_31 m41 rfl rfl ?_
      exact J33 h19 ((pv_fI h19 a0 8)) T19 f19 (by omega) (by omega) (by omega) (by omega) (by omega)
    · refine pw_iconst d41_25 ?_
      exact pw_zreturn d41_26 tt41 (by omega) ⟨T19, f19, 0, rfl, (by omega), (by omega)⟩

abbrev Q37 (τ : Nat → Option Nat) (ρ : Nat → Nat → Nat) (h : pv_H) (a0 : Nat) : Option Value → pv_H → Prop := fun r h' => pv_Ty τ ρ h' ∧ pv_Fr τ [65, 66, 69, 70, 71, 72, 73, 129, 1343, 1407, 1791] h h' ∧ ∃ z : Int, r = some (.int (pv_I z)) ∧ 0 ≤ z ∧ z ≤ 1
set_option maxHeartbeats 4000000 in
set_option maxRecDepth 20000 in
/-- AngleNet$Tape.readThird()Z -/
theorem ct37 {τ : Nat → Option Nat} {ρ : Nat → Nat → Nat} {K : Nat → Nat} {h : pv_H} {a0 : Nat} (hK : pv_Kok K) (hT : pv_Ty τ ρ h) (hA0 : τ a0 = some 1) (hP0 : pv_fI h (ρ a0 3) 1 ≤ 17) : pv_C K 37 [.ref a0] h (Q37 τ ρ h a0) := by
  refine pw_entry 3 ?_
  show pv_T K 37 0 (pv_fl [some (.ref a0), none, none, none]) [] h (Q37 τ ρ h a0)
  have hR0_3 : τ (ρ a0 3) = some 2 := hT.rf (t' := 2) hA0 rfl rfl
  have hF0 : pv_Fr τ [65, 66, 69, 70, 71, 72, 73, 129, 1343, 1407, 1791] h h := pv_Fr.rf
  have J80 : ∀ (h_80 : pv_H) (o1_80 o2_80 o3_80 : Option Value), (pv_Ty τ ρ h_80) → (pv_Fr τ [65, 66, 69, 70, 71, 72, 73, 129, 1343, 1407, 1791] h h_80) → pv_T K 37 80 (pv_fl [some (.ref a0), o1_80, o2_80, o3_80]) [] h_80 (Q37 τ ρ h a0) := by
    intro h_80 o1_80 o2_80 o3_80 hT_80 hF_80
    refine pw_aload_n d37_80 rfl ?_
    refine pw_iconst d37_81 ?_
    refine pw_aload_n d37_82 rfl ?_
    refine pw_getI d37_83 g37_86 hT_80 hA0 rfl rfl (fun u83 vu83 => ?_)
    refine pw_callV2 d37_86 k37_55 hT_80 hA0 rfl rfl rfl (ct34 (τ := τ) (ρ := ρ) hT_80 hA0 (by omega) (by omega)) (fun r86 h86 q86 => ?_)
    obtain ⟨T86, F86, z86, ez86, lz86, uz86, pz86_0⟩ := q86
    subst ez86
    have f86 := hF_80.tr (F86.up (by decide))
    have q86b := ((F86 (ρ a0 3) 2 hR0_3).1 1 (by decide)).1
    have q86c := ((F86 a0 1 hA0).1 9 (by decide)).1
    exact pw_zreturn d37_89 tt37 (by omega) ⟨T86, f86, z86, rfl, (by omega), (by omega)⟩
  refine pw_aload_n d37_0 rfl ?_
  refine pw_callV0 d37_1 k37_139 hT hA0 rfl rfl rfl (ct38 (τ := τ) (ρ := ρ) hT hA0) (fun r1 h1 q1 => ?_)
  obtain ⟨T1, F1, z1, ez1, lz1, uz1, pz1_0⟩ := q1
  subst ez1
  have f1 := hF0.tr (F1.up (by decide))
  have q1b := ((F1 (ρ a0 3) 2 hR0_3).1 1 (by decide)).1
  refine pw_if_ne d37_4 rfl (by omega) (fun c4 => ?_) (fun c4 => ?_)
  · refine pw_aload_n d37_9 rfl ?_
    refine pw_getI d37_10 g37_83 T1 hA0 rfl rfl (fun u10 vu10 => ?_)
    refine pw_istore_n d37_13 m37 rfl rfl ?_
    refine pw_aload_n d37_14 rfl ?_
    refine pw_callV0 d37_15 k37_139 T1 hA0 rfl rfl rfl (ct38 (τ := τ) (ρ := ρ) T1 hA0) (fun r15 h15 q15 => ?_)
    obtain ⟨T15, F15, z15, ez15, lz15, uz15, pz15_0⟩ := q15
    subst ez15
    have f15 := f1.tr (F15.up (by decide))
    have q15b := ((F15 (ρ a0 3) 2 hR0_3).1 1 (by decide)).1
    refine pw_if_ne d37_18 rfl (by omega) (fun c18 => ?_) (fun c18 => ?_)
    · refine pw_aload_n d37_23 rfl ?_
      refine pw_getI d37_24 g37_83 T15 hA0 rfl rfl (fun u24 vu24 => ?_)
      refine pw_istore_n d37_27 m37 rfl rfl ?_
      refine pw_iload_n d37_28 rfl ?_
      refine pw_iload_n d37_29 rfl ?_
      refine pw_icmp_ne d37_30 rfl (by omega) (by omega) (fun c30 => ?_) (fun c30 => ?_)
      · refine pw_aload_n d37_43 rfl ?_
        refine pw_callV0 d37_44 k37_139 T15 hA0 rfl rfl rfl (ct38 (τ := τ) (ρ := ρ) T15 hA0) (fun r44 h44 q44 => ?_)
        obtain ⟨T44, F44, z44, ez44, lz44, uz44, pz44_0⟩ := q44
        subst ez44
        have f44 := f15.tr (F44.up (by decide))
        have q44b := ((F44 (ρ a0 3) 2 hR0_3).1 1 (by decide)).1
        refine pw_if_ne d37_47 rfl (by omega) (fun c47 => ?_) (fun c47 => ?_)
        · refine pw_aload_n d37_52 rfl ?_
          refine pw_getI d37_53 g37_83 T44 hA0 rfl rfl (fun u53 vu53 => ?_)
          refine pw_istore_n d37_56 m37 rfl rfl ?_
          refine pw_iload_n d37_57 rfl ?_
          refine pw_iload_n d37_58 rfl ?_
          refine pw_icmp_eq d37_59 rfl (by omega) (by omega) (fun c59 => ?_) (fun c59 => ?_)
          · exact J80 h44 _ _ _ T44 f44
          · refine pw_iload_n d37_62 rfl ?_
            refine pw_iload_n d37_63 rfl ?_
            refine pw_icmp_eq d37_64 rfl (by omega) (by omega) (fun c64 => ?_) (fun c64 => ?_)
            · exact J80 h44 _ _ _ T44 f44
            · refine pw_aload_n d37_67 rfl ?_
              refine pw_getR d37_68 g37_18 T44 hA0 rfl rfl (fun t68 => ?_)
              have t68 : τ (ρ a0 3) = some 2 := t68
              refine pw_iload_n d37_71 rfl ?_
              refine pw_iload_n d37_72 rfl ?_
              refine pw_iload_n d37_73 rfl ?_
              refine pw_callV3 d37_74 k37_142 T44 t68 rfl rfl rfl (ct39 (τ := τ) (ρ := ρ) T44 t68 (by omega) (by omega) (by omega)) (fun r74 h74 q74 => ?_)
              obtain ⟨eh74, z74, ez74, lz74, uz74⟩ := q74
              subst eh74
              subst ez74
              refine pw_if_ne d37_77 rfl (by omega) (fun c77 => ?_) (fun c77 => ?_)
              · refine pw_aload_n d37_90 rfl ?_
                refine pw_iload_n d37_91 rfl ?_
                refine pw_iload_n d37_92 rfl ?_
                refine pw_iload_n d37_93 rfl ?_
                refine pw_callV3 d37_94 k37_146 T44 hA0 rfl rfl rfl (ct41 (τ := τ) (ρ := ρ) hK T44 hA0 (by omega) (by omega) (by omega) (by omega)) (fun r94 h94 q94 => ?_)
                obtain ⟨T94, F94, z94, ez94, lz94, uz94⟩ := q94
                subst ez94
                have f94 := f44.tr (F94.up (by decide))
                exact pw_zreturn d37_97 tt37 (by omega) ⟨T94, f94, z94, rfl, (by omega), (by omega)⟩
              · exact J80 h44 _ _ _ T44 f44
        · refine pw_iconst d37_50 ?_
          exact pw_zreturn d37_51 tt37 (by omega) ⟨T44, f44, 0, rfl, (by omega), (by omega)⟩
      · refine pw_aload_n d37_33 rfl ?_
        refine pw_iconst d37_34 ?_
        refine pw_aload_n d37_35 rfl ?_
        refine pw_getI d37_36 g37_86 T15 hA0 rfl rfl (fun u36 vu36 => ?_)
        refine pw_callV2 d37_39 k37_55 T15 hA0 rfl rfl rfl (ct34 (τ := τ) (ρ := ρ) T15 hA0 (by omega) (by omega)) (fun r39 h39 q39 => ?_)
        obtain ⟨T39, F39, z39, ez39, lz39, uz39, pz39_0⟩ := q39
        subst ez39
        have f39 := f15.tr (F39.up (by decide))
        have q39b := ((F39 (ρ a0 3) 2 hR0_3).1 1 (by decide)).1
        have q39c := ((F39 a0 1 hA0).1 8 (by decide)).1
        have q39d := ((F39 a0 1 hA0).1 9 (by decide)).1
        exact pw_zreturn d37_42 tt37 (by omega) ⟨T39, f39, z39, rfl, (by omega), (by omega)⟩
    · refine pw_iconst d37_21 ?_
      exact pw_zreturn d37_22 tt37 (by omega) ⟨T15, f15, 0, rfl, (by omega), (by omega)⟩
  · refine pw_iconst d37_7 ?_
    exact pw_zreturn d37_8 tt37 (by omega) ⟨T1, f1, 0, rfl, (by omega), (by omega)⟩

abbrev Q44 (τ : Nat → Option Nat) (ρ : Nat → Nat → Nat) (h : pv_H) (a0 : Nat) : Option Value → pv_H → Prop := fun r h' => pv_Ty τ ρ h' ∧ pv_Fr τ [65, 66, 69, 70, 71, 72, 73, 1471] h h' ∧ ∃ z : Int, r = some (.int (pv_I z)) ∧ 0 ≤ z ∧ z ≤ 1
set_option maxHeartbeats 4000000 in
set_option maxRecDepth 20000 in
/-- AngleNet$Tape.readAngle()Z -/
theorem ct44 {τ : Nat → Option Nat} {ρ : Nat → Nat → Nat} {K : Nat → Nat} {h : pv_H} {a0 : Nat} (hT : pv_Ty τ ρ h) (hA0 : τ a0 = some 1) : pv_C K 44 [.ref a0] h (Q44 τ ρ h a0) := by
  refine pw_entry 1 ?_
  show pv_T K 44 0 (pv_fl [some (.ref a0), none]) [] h (Q44 τ ρ h a0)
  have hF0 : pv_Fr τ [65, 66, 69, 70, 71, 72, 73, 1471] h h := pv_Fr.rf
  refine pw_aload_n d44_0 rfl ?_
  refine pw_callV0 d44_1 k44_139 hT hA0 rfl rfl rfl (ct38 (τ := τ) (ρ := ρ) hT hA0) (fun r1 h1 q1 => ?_)
  obtain ⟨T1, F1, z1, ez1, lz1, uz1, pz1_0⟩ := q1
  subst ez1
  have f1 := hF0.tr (F1.up (by decide))
  refine pw_if_ne d44_4 rfl (by omega) (fun c4 => ?_) (fun c4 => ?_)
  · refine pw_aload_n d44_9 rfl ?_
    refine pw_getI d44_10 g44_83 T1 hA0 rfl rfl (fun u10 vu10 => ?_)
    refine pw_istore_n d44_13 m44 rfl rfl ?_
    refine pw_aload_n d44_14 rfl ?_
    refine pw_iconst d44_15 ?_
    refine pw_sipush d44_16 (by decide) ?_
    refine pw_callV2 d44_19 k44_92 T1 hA0 rfl rfl rfl (ct33 (τ := τ) (ρ := ρ) T1 hA0 (by omega) (by omega)) (fun r19 h19 q19 => ?_)
    obtain ⟨T19, F19, z19, ez19, lz19, uz19, pz19_0⟩ := q19
    subst ez19
    have f19 := f1.tr (F19.up (by decide))
    refine pw_if_ne d44_22 rfl (by omega) (fun c22 => ?_) (fun c22 => ?_)
    · refine pw_aload_n d44_27 rfl ?_
      refine pw_getR d44_28 g44_18 T19 hA0 rfl rfl (fun t28 => ?_)
      have t28 : τ (ρ a0 3) = some 2 := t28
      refine pw_getR d44_31 g44_155 T19 t28 rfl rfl (fun t31 => ?_)
      have t31 : τ (ρ (ρ a0 3) 7) = some 22 := t31
      refine pw_iload_n d44_34 rfl ?_
      refine pw_aload_n d44_35 rfl ?_
      refine pw_getI d44_36 g44_83 T19 hA0 rfl rfl (fun u36 vu36 => ?_)
      refine pw_iast d44_39 T19 t31 rfl rfl rfl (by omega) (by omega) (by omega) (by omega) (fun h39 T39 F39 E39 => ?_)
      have f39 := f19.tr (F39.up (by decide))
      have q39 := ((F39 a0 1 hA0).1 8 (by decide)).1
      refine pw_iconst d44_40 ?_
      exact pw_zreturn d44_41 tt44 (by omega) ⟨T39, f39, 1, rfl, (by omega), (by omega)⟩
    · refine pw_iconst d44_25 ?_
      exact pw_zreturn d44_26 tt44 (by omega) ⟨T19, f19, 0, rfl, (by omega), (by omega)⟩
  · refine pw_iconst d44_7 ?_
    exact pw_zreturn d44_8 tt44 (by omega) ⟨T1, f1, 0, rfl, (by omega), (by omega)⟩

abbrev Q45 (τ : Nat → Option Nat) (ρ : Nat → Nat → Nat) (h : pv_H) (a0 : Nat) : Option Value → pv_H → Prop := fun r h' => pv_Ty τ ρ h' ∧ pv_Fr τ [65, 66, 69, 70, 71, 72, 73, 74, 131, 132] h h' ∧ ∃ z : Int, r = some (.int (pv_I z)) ∧ 0 ≤ z ∧ z ≤ 1
set_option maxHeartbeats 4000000 in
set_option maxRecDepth 20000 in
/-- AngleNet$Tape.readCorner()Z -/
theorem ct45 {τ : Nat → Option Nat} {ρ : Nat → Nat → Nat} {K : Nat → Nat} {h : pv_H} {a0 : Nat} (hK : pv_Kok K) (hT : pv_Ty τ ρ h) (hA0 : τ a0 = some 1) : pv_C K 45 [.ref a0] h (Q45 τ ρ h a0) := by
  refine pw_entry 1 ?_
  show pv_T K 45 0 (pv_fl [some (.ref a0), none]) [] h (Q45 τ ρ h a0)
  have hF0 : pv_Fr τ [65, 66, 69, 70, 71, 72, 73, 74, 131, 132] h h := pv_Fr.rf
  refine pw_aload_n d45_0 rfl ?_
  refine pw_iconst d45_1 ?_
  refine pw_putZ d45_2 g45_38 w1_10 hT hA0 rfl rfl rfl (by omega) (by omega) (fun h2 T2 F2 E2 => ?_)
  have f2 := hF0.tr (F2.up (by decide))
  refine pw_aload_n d45_5 rfl ?_
  refine pw_iconst d45_6 ?_
  refine pw_sipush d45_7 (by decide) ?_
  refine pw_callV2 d45_10 k45_92 T2 hA0 rfl rfl rfl (ct33 (τ := τ) (ρ := ρ) T2 hA0 (by omega) (by omega)) (fun r10 h10 q10 => ?_)
  obtain ⟨T10, F10, z10, ez10, lz10, uz10, pz10_0⟩ := q10
  subst ez10
  have f10 := f2.tr (F10.up (by decide))
  have q10b := ((F10 a0 1 hA0).1 10 (by decide)).1
  refine pw_if_ne d45_13 rfl (by omega) (fun c13 => ?_) (fun c13 => ?_)
  · refine pw_aload_n d45_18 rfl ?_
    refine pw_getI d45_19 g45_83 T10 hA0 rfl rfl (fun u19 vu19 => ?_)
    refine pw_istore_n d45_22 m45 rfl rfl ?_
    refine pw_aload_n d45_23 rfl ?_
    refine pw_ldcS d45_24 n45_24.1 n45_24.2 ?_
    refine pw_callV1 d45_26 k45_96 T10 hA0 rfl rfl rfl (ct20 (τ := τ) (ρ := ρ) hK T10 hA0 (by decide)) (fun r26 h26 q26 => ?_)
    obtain ⟨T26, F26, z26, ez26, lz26, uz26⟩ := q26
    subst ez26
    have f26 := f10.tr (F26.up (by decide))
    have q26b := ((F26 a0 1 hA0).1 8 (by decide)).1
    have q26c := ((F26 a0 1 hA0).1 10 (by decide)).1
    refine pw_if_ne d45_29 rfl (by omega) (fun c29 => ?_) (fun c29 => ?_)
    · refine pw_aload_n d45_42 rfl ?_
      refine pw_iload_n d45_43 rfl ?_
      refine pw_sipush d45_44 (by decide) ?_
      refine pw_callV2 d45_47 k45_92 T26 hA0 rfl rfl rfl (ct33 (τ := τ) (ρ := ρ) T26 hA0 (by omega) (by omega)) (fun r47 h47 q47 => ?_)
      obtain ⟨T47, F47, z47, ez47, lz47, uz47, pz47_0⟩ := q47
      subst ez47
      have f47 := f26.tr (F47.up (by decide))
      have q47b := ((F47 a0 1 hA0).1 10 (by decide)).1
      refine pw_if_ne d45_50 rfl (by omega) (fun c50 => ?_) (fun c50 => ?_)
      · refine pw_aload_n d45_55 rfl ?_
        refine pw_getR d45_56 g45_18 T47 hA0 rfl rfl (fun t56 => ?_)
        have t56 : τ (ρ a0 3) = some 2 := t56
        refine pw_iload_n d45_59 rfl ?_
        refine pw_putI d45_60 g45_161 w2_3 T47 t56 rfl rfl rfl (by omega) (by omega) (fun h60 T60 F60 E60 => ?_)
        have f60 := f47.tr (F60.up (by decide))
        have q60 := ((F60 a0 1 hA0).1 8 (by decide)).1
        have q60b := ((F60 a0 1 hA0).1 10 (by decide)).1
        refine pw_aload_n d45_63 rfl ?_
        refine pw_getR d45_64 g45_18 T60 hA0 rfl rfl (fun t64 => ?_)
        have t64 : τ (ρ a0 3) = some 2 := t64
        refine pw_aload_n d45_67 rfl ?_
        refine pw_getI d45_68 g45_83 T60 hA0 rfl rfl (fun u68 vu68 => ?_)
        refine pw_putI d45_71 g45_164 w2_4 T60 t64 rfl rfl rfl (by omega) (by omega) (fun h71 T71 F71 E71 => ?_)
        have f71 := f60.tr (F71.up (by decide))
        have q71 := ((F71 (ρ a0 3) 2 t64).1 3 (by decide)).1
        have q71b := ((F71 a0 1 hA0).1 8 (by decide)).1
        have q71c := ((F71 a0 1 hA0).1 10 (by decide)).1
        refine pw_iconst d45_74 ?_
        exact pw_zreturn d45_75 tt45 (by omega) ⟨T71, f71, 1, rfl, (by omega), (by omega)⟩
      · refine pw_iconst d45_53 ?_
        exact pw_zreturn d45_54 tt45 (by omega) ⟨T47, f47, 0, rfl, (by omega), (by omega)⟩
    · refine pw_aload_n d45_32 rfl ?_
      refine pw_iconst d45_33 ?_
      refine pw_aload_n d45_34 rfl ?_
      refine pw_getI d45_35 g45_52 T26 hA0 rfl rfl (fun u35 vu35 => ?_)
      refine pw_callV2 d45_38 k45_55 T26 hA0 rfl rfl rfl (ct34 (τ := τ) (ρ := ρ) T26 hA0 (by omega) (by omega)) (fun r38 h38 q38 => ?_)
      obtain ⟨T38, F38, z38, ez38, lz38, uz38, pz38_0⟩ := q38
      subst ez38
      have f38 := f26.tr (F38.up (by decide))
      have q38b := ((F38 a0 1 hA0).1 5 (by decide)).1
      have q38c := ((F38 a0 1 hA0).1 8 (by decide)).1
      have q38d := ((F38 a0 1 hA0).1 10 (by decide)).1
      exact pw_zreturn d45_41 tt45 (by omega) ⟨T38, f38, z38, rfl, (by omega), (by omega)⟩
  · refine pw_iconst d45_16 ?_
    exact pw_zreturn d45_17 tt45 (by omega) ⟨T10, f10, 0, rfl, (by omega), (by omega)⟩

abbrev Q46 (τ : Nat → Option Nat) (ρ : Nat → Nat → Nat) (h : pv_H) (a0 : Nat) : Option Value → pv_H → Prop := fun r h' => pv_Ty τ ρ h' ∧ pv_Fr τ [65, 66, 69, 70, 71, 72, 73, 1727] h h' ∧ ∃ z : Int, r = some (.int (pv_I z)) ∧ 0 ≤ z ∧ z ≤ 1
set_option maxHeartbeats 4000000 in
set_option maxRecDepth 20000 in
/-- AngleNet$Tape.readWeight()Z -/
theorem ct46 {τ : Nat → Option Nat} {ρ : Nat → Nat → Nat} {K : Nat → Nat} {h : pv_H} {a0 : Nat} (hT : pv_Ty τ ρ h) (hA0 : τ a0 = some 1) : pv_C K 46 [.ref a0] h (Q46 τ ρ h a0) := by
  refine pw_entry 2 ?_
  show pv_T K 46 0 (pv_fl [some (.ref a0), none, none]) [] h (Q46 τ ρ h a0)
  have hF0 : pv_Fr τ [65, 66, 69, 70, 71, 72, 73, 1727] h h := pv_Fr.rf
  refine pw_aload_n d46_0 rfl ?_
  refine pw_callV0 d46_1 k46_139 hT hA0 rfl rfl rfl (ct38 (τ := τ) (ρ := ρ) hT hA0) (fun r1 h1 q1 => ?_)
  obtain ⟨T1, F1, z1, ez1, lz1, uz1, pz1_0⟩ := q1
  subst ez1
  have f1 := hF0.tr (F1.up (by decide))
  refine pw_if_ne d46_4 rfl (by omega) (fun c4 => ?_) (fun c4 => ?_)
  · refine pw_aload_n d46_9 rfl ?_
    refine pw_getI d46_10 g46_83 T1 hA0 rfl rfl (fun u10 vu10 => ?_)
    refine pw_istore_n d46_13 m46 rfl rfl ?_
    refine pw_aload_n d46_14 rfl ?_
    refine pw_callV0 d46_15 k46_139 T1 hA0 rfl rfl rfl (ct38 (τ := τ) (ρ := ρ) T1 hA0) (fun r15 h15 q15 => ?_)
    obtain ⟨T15, F15, z15, ez15, lz15, uz15, pz15_0⟩ := q15
    subst ez15
    have f15 := f1.tr (F15.up (by decide))
    refine pw_if_ne d46_18 rfl (by omega) (fun c18 => ?_) (fun c18 => ?_)
    · refine pw_aload_n d46_23 rfl ?_
      refine pw_getI d46_24 g46_83 T15 hA0 rfl rfl (fun u24 vu24 => ?_)
      refine pw_istore_n d46_27 m46 rfl rfl ?_
      refine pw_aload_n d46_28 rfl ?_
      refine pw_getR d46_29 g46_18 T15 hA0 rfl rfl (fun t29 => ?_)
      have t29 : τ (ρ a0 3) = some 2 := t29
      refine pw_iload_n d46_32 rfl ?_
      refine pw_iload_n d46_33 rfl ?_
      refine pw_callV2 d46_34 k46_167 T15 t29 rfl rfl rfl (ct47 (τ := τ) (ρ := ρ) T15 t29 (by omega) (by omega)) (fun r34 h34 q34 => ?_)
      obtain ⟨eh34, z34, ez34, lz34, uz34, pz34_0⟩ := q34
      subst eh34
      subst ez34
      refine pw_if_ne d46_37 rfl (by omega) (fun c37 => ?_) (fun c37 => ?_)
      · refine pw_aload_n d46_50 rfl ?_
        refine pw_iconst d46_51 ?_
        refine pw_sipush d46_52 (by decide) ?_
        refine pw_callV2 d46_55 k46_92 T15 hA0 rfl rfl rfl (ct33 (τ := τ) (ρ := ρ) T15 hA0 (by omega) (by omega)) (fun r55 h55 q55 => ?_)
        obtain ⟨T55, F55, z55, ez55, lz55, uz55, pz55_0⟩ := q55
        subst ez55
        have f55 := f15.tr (F55.up (by decide))
        refine pw_if_ne d46_58 rfl (by omega) (fun c58 => ?_) (fun c58 => ?_)
        · refine pw_aload_n d46_63 rfl ?_
          refine pw_getR d46_64 g46_18 T55 hA0 rfl rfl (fun t64 => ?_)
          have t64 : τ (ρ a0 3) = some 2 := t64
          refine pw_iload_n d46_67 rfl ?_
          refine pw_iload_n d46_68 rfl ?_
          refine pw_aload_n d46_69 rfl ?_
          refine pw_getI d46_70 g46_83 T55 hA0 rfl rfl (fun u70 vu70 => ?_)
          refine pw_callV3 d46_73 k46_170 T55 t64 rfl rfl rfl (ct49 (τ := τ) (ρ := ρ) T55 t64 (by omega) (by omega) (by omega)) (fun r73 h73 q73 => ?_)
          obtain ⟨T73, F73, ez73⟩ := q73
          subst ez73
          have f73 := f55.tr (F73.up (by decide))
          have q73b := ((F73 a0 1 hA0).1 8 (by decide)).1
          refine pw_iconst d46_76 ?_
          exact pw_zreturn d46_77 tt46 (by omega) ⟨T73, f73, 1, rfl, (by omega), (by omega)⟩
        · refine pw_iconst d46_61 ?_
          exact pw_zreturn d46_62 tt46 (by omega) ⟨T55, f55, 0, rfl, (by omega), (by omega)⟩
      · refine pw_aload_n d46_40 rfl ?_
        refine pw_iconst d46_41 ?_
        refine pw_aload_n d46_42 rfl ?_
        refine pw_getI d46_43 g46_86 T15 hA0 rfl rfl (fun u43 vu43 => ?_)
        refine pw_callV2 d46_46 k46_55 T15 hA0 rfl rfl rfl (ct34 (τ := τ) (ρ := ρ) T15 hA0 (by omega) (by omega)) (fun r46 h46 q46 => ?_)
        obtain ⟨T46, F46, z46, ez46, lz46, uz46, pz46_0⟩ := q46
        subst ez46
        have f46 := f15.tr (F46.up (by decide))
        have q46b := ((F46 a0 1 hA0).1 8 (by decide)).1
        have q46c := ((F46 a0 1 hA0).1 9 (by decide)).1
        exact pw_zreturn d46_49 tt46 (by omega) ⟨T46, f46, z46, rfl, (by omega), (by omega)⟩
    · refine pw_iconst d46_21 ?_
      exact pw_zreturn d46_22 tt46 (by omega) ⟨T15, f15, 0, rfl, (by omega), (by omega)⟩
  · refine pw_iconst d46_7 ?_
    exact pw_zreturn d46_8 tt46 (by omega) ⟨T1, f1, 0, rfl, (by omega), (by omega)⟩

abbrev Q50 (τ : Nat → Option Nat) (ρ : Nat → Nat → Nat) (h : pv_H) (a0 : Nat) : Option Value → pv_H → Prop := fun r h' => pv_Ty τ ρ h' ∧ pv_Fr τ [65, 66, 69, 70, 71, 72, 73, 1535, 1599] h h' ∧ ∃ z : Int, r = some (.int (pv_I z)) ∧ 0 ≤ z ∧ z ≤ 1
set_option maxHeartbeats 4000000 in
set_option maxRecDepth 20000 in
/-- AngleNet$Tape.readPlace()Z -/
theorem ct50 {τ : Nat → Option Nat} {ρ : Nat → Nat → Nat} {K : Nat → Nat} {h : pv_H} {a0 : Nat} (hT : pv_Ty τ ρ h) (hA0 : τ a0 = some 1) : pv_C K 50 [.ref a0] h (Q50 τ ρ h a0) := by
  refine pw_entry 2 ?_
  show pv_T K 50 0 (pv_fl [some (.ref a0), none, none]) [] h (Q50 τ ρ h a0)
  have hF0 : pv_Fr τ [65, 66, 69, 70, 71, 72, 73, 1535, 1599] h h := pv_Fr.rf
  refine pw_aload_n d50_0 rfl ?_
  refine pw_callV0 d50_1 k50_139 hT hA0 rfl rfl rfl (ct38 (τ := τ) (ρ := ρ) hT hA0) (fun r1 h1 q1 => ?_)
  obtain ⟨T1, F1, z1, ez1, lz1, uz1, pz1_0⟩ := q1
  subst ez1
  have f1 := hF0.tr (F1.up (by decide))
  refine pw_if_ne d50_4 rfl (by omega) (fun c4 => ?_) (fun c4 => ?_)
  · refine pw_aload_n d50_9 rfl ?_
    refine pw_getI d50_10 g50_83 T1 hA0 rfl rfl (fun u10 vu10 => ?_)
    refine pw_istore_n d50_13 m50 rfl rfl ?_
    refine pw_aload_n d50_14 rfl ?_
    refine pw_iconst d50_15 ?_
    refine pw_bipush d50_16 (by decide) ?_
    refine pw_callV2 d50_18 k50_92 T1 hA0 rfl rfl rfl (ct33 (τ := τ) (ρ := ρ) T1 hA0 (by omega) (by omega)) (fun r18 h18 q18 => ?_)
    obtain ⟨T18, F18, z18, ez18, lz18, uz18, pz18_0⟩ := q18
    subst ez18
    have f18 := f1.tr (F18.up (by decide))
    refine pw_if_ne d50_21 rfl (by omega) (fun c21 => ?_) (fun c21 => ?_)
    · refine pw_aload_n d50_26 rfl ?_
      refine pw_getI d50_27 g50_83 T18 hA0 rfl rfl (fun u27 vu27 => ?_)
      refine pw_istore_n d50_30 m50 rfl rfl ?_
      refine pw_aload_n d50_31 rfl ?_
      refine pw_iconst d50_32 ?_
      refine pw_bipush d50_33 (by decide) ?_
      refine pw_callV2 d50_35 k50_92 T18 hA0 rfl rfl rfl (ct33 (τ := τ) (ρ := ρ) T18 hA0 (by omega) (by omega)) (fun r35 h35 q35 => ?_)
      obtain ⟨T35, F35, z35, ez35, lz35, uz35, pz35_0⟩ := q35
      subst ez35
      have f35 := f18.tr (F35.up (by decide))
      refine pw_if_ne d50_38 rfl (by omega) (fun c38 => ?_) (fun c38 => ?_)
      · refine pw_aload_n d50_43 rfl ?_
        refine pw_getR d50_44 g50_18 T35 hA0 rfl rfl (fun t44 => ?_)
        have t44 : τ (ρ a0 3) = some 2 := t44
        refine pw_getR d50_47 g50_174 T35 t44 rfl rfl (fun t47 => ?_)
        have t47 : τ (ρ (ρ a0 3) 8) = some 23 := t47
        refine pw_iload_n d50_50 rfl ?_
        refine pw_iload_n d50_51 rfl ?_
        refine pw_iast d50_52 T35 t47 rfl rfl rfl (by omega) (by omega) (by omega) (by omega) (fun h52 T52 F52 E52 => ?_)
        have f52 := f35.tr (F52.up (by decide))
        have q52 := ((F52 a0 1 hA0).1 8 (by decide)).1
        refine pw_aload_n d50_53 rfl ?_
        refine pw_getR d50_54 g50_18 T52 hA0 rfl rfl (fun t54 => ?_)
        have t54 : τ (ρ a0 3) = some 2 := t54
        refine pw_getR d50_57 g50_177 T52 t54 rfl rfl (fun t57 => ?_)
        have t57 : τ (ρ (ρ a0 3) 9) = some 24 := t57
        refine pw_iload_n d50_60 rfl ?_
        refine pw_aload_n d50_61 rfl ?_
        refine pw_getI d50_62 g50_83 T52 hA0 rfl rfl (fun u62 vu62 => ?_)
        refine pw_iast d50_65 T52 t57 rfl rfl rfl (by omega) (by omega) (by omega) (by omega) (fun h65 T65 F65 E65 => ?_)
        have f65 := f52.tr (F65.up (by decide))
        have q65 := ((F65 a0 1 hA0).1 8 (by decide)).1
        refine pw_iconst d50_66 ?_
        exact pw_zreturn d50_67 tt50 (by omega) ⟨T65, f65, 1, rfl, (by omega), (by omega)⟩
      · refine pw_iconst d50_41 ?_
        exact pw_zreturn d50_42 tt50 (by omega) ⟨T35, f35, 0, rfl, (by omega), (by omega)⟩
    · refine pw_iconst d50_24 ?_
      exact pw_zreturn d50_25 tt50 (by omega) ⟨T18, f18, 0, rfl, (by omega), (by omega)⟩
  · refine pw_iconst d50_7 ?_
    exact pw_zreturn d50_8 tt50 (by omega) ⟨T1, f1, 0, rfl, (by omega), (by omega)⟩

abbrev Q51 (τ : Nat → Option Nat) (ρ : Nat → Nat → Nat) (h : pv_H) (a0 : Nat) : Option Value → pv_H → Prop := fun r h' => pv_Ty τ ρ h' ∧ pv_Fr τ [65, 66, 69, 70, 71, 72, 73, 1663] h h' ∧ ∃ z : Int, r = some (.int (pv_I z)) ∧ 0 ≤ z ∧ z ≤ 1
set_option maxHeartbeats 4000000 in
set_option maxRecDepth 20000 in
/-- AngleNet$Tape.readCircle()Z -/
theorem ct51 {τ : Nat → Option Nat} {ρ : Nat → Nat → Nat} {K : Nat → Nat} {h : pv_H} {a0 : Nat} (hT : pv_Ty τ ρ h) (hA0 : τ a0 = some 1) : pv_C K 51 [.ref a0] h (Q51 τ ρ h a0) := by
  refine pw_entry 1 ?_
  show pv_T K 51 0 (pv_fl [some (.ref a0), none]) [] h (Q51 τ ρ h a0)
  have hF0 : pv_Fr τ [65, 66, 69, 70, 71, 72, 73, 1663] h h := pv_Fr.rf
  refine pw_aload_n d51_0 rfl ?_
  refine pw_callV0 d51_1 k51_139 hT hA0 rfl rfl rfl (ct38 (τ := τ) (ρ := ρ) hT hA0) (fun r1 h1 q1 => ?_)
  obtain ⟨T1, F1, z1, ez1, lz1, uz1, pz1_0⟩ := q1
  subst ez1
  have f1 := hF0.tr (F1.up (by decide))
  refine pw_if_ne d51_4 rfl (by omega) (fun c4 => ?_) (fun c4 => ?_)
  · refine pw_aload_n d51_9 rfl ?_
    refine pw_getI d51_10 g51_83 T1 hA0 rfl rfl (fun u10 vu10 => ?_)
    refine pw_istore_n d51_13 m51 rfl rfl ?_
    refine pw_aload_n d51_14 rfl ?_
    refine pw_iconst d51_15 ?_
    refine pw_sipush d51_16 (by decide) ?_
    refine pw_callV2 d51_19 k51_92 T1 hA0 rfl rfl rfl (ct33 (τ := τ) (ρ := ρ) T1 hA0 (by omega) (by omega)) (fun r19 h19 q19 => ?_)
    obtain ⟨T19, F19, z19, ez19, lz19, uz19, pz19_0⟩ := q19
    subst ez19
    have f19 := f1.tr (F19.up (by decide))
    refine pw_if_ne d51_22 rfl (by omega) (fun c22 => ?_) (fun c22 => ?_)
    · refine pw_aload_n d51_27 rfl ?_
      refine pw_getR d51_28 g51_18 T19 hA0 rfl rfl (fun t28 => ?_)
      have t28 : τ (ρ a0 3) = some 2 := t28
      refine pw_getR d51_31 g51_180 T19 t28 rfl rfl (fun t31 => ?_)
      have t31 : τ (ρ (ρ a0 3) 10) = some 25 := t31
      refine pw_iload_n d51_34 rfl ?_
      refine pw_aload_n d51_35 rfl ?_
      refine pw_getI d51_36 g51_83 T19 hA0 rfl rfl (fun u36 vu36 => ?_)
      refine pw_iast d51_39 T19 t31 rfl rfl rfl (by omega) (by omega) (by omega) (by omega) (fun h39 T39 F39 E39 => ?_)
      have f39 := f19.tr (F39.up (by decide))
      have q39 := ((F39 a0 1 hA0).1 8 (by decide)).1
      refine pw_iconst d51_40 ?_
      exact pw_zreturn d51_41 tt51 (by omega) ⟨T39, f39, 1, rfl, (by omega), (by omega)⟩
    · refine pw_iconst d51_25 ?_
      exact pw_zreturn d51_26 tt51 (by omega) ⟨T19, f19, 0, rfl, (by omega), (by omega)⟩
  · refine pw_iconst d51_7 ?_
    exact pw_zreturn d51_8 tt51 (by omega) ⟨T1, f1, 0, rfl, (by omega), (by omega)⟩

abbrev Q19 (τ : Nat → Option Nat) (ρ : Nat → Nat → Nat) (h : pv_H) (a0 : Nat) : Option Value → pv_H → Prop := fun r h' => pv_Ty τ ρ h' ∧ pv_Fr τ [65, 66, 69, 70, 71, 72, 73, 74, 128, 129, 131, 132, 1343, 1407, 1471, 1535, 1599, 1663, 1727, 1791] h h' ∧ ∃ z : Int, r = some (.int (pv_I z)) ∧ 0 ≤ z ∧ z ≤ 1
set_option maxHeartbeats 4000000 in
set_option maxRecDepth 20000 in
/-- AngleNet$Tape.readLine()Z -/
theorem ct19 {τ : Nat → Option Nat} {ρ : Nat → Nat → Nat} {K : Nat → Nat} {h : pv_H} {a0 : Nat} (hK : pv_Kok K) (hT : pv_Ty τ ρ h) (hA0 : τ a0 = some 1) : pv_C K 19 [.ref a0] h (Q19 τ ρ h a0) := by
  refine pw_entry 1 ?_
  show pv_T K 19 0 (pv_fl [some (.ref a0), none]) [] h (Q19 τ ρ h a0)
  have hF0 : pv_Fr τ [65, 66, 69, 70, 71, 72, 73, 74, 128, 129, 131, 132, 1343, 1407, 1471, 1535, 1599, 1663, 1727, 1791] h h := pv_Fr.rf
  refine pw_aload_n d19_0 rfl ?_
  refine pw_getI d19_1 g19_52 hT hA0 rfl rfl (fun u1 vu1 => ?_)
  refine pw_istore_n d19_4 m19 rfl rfl ?_
  refine pw_aload_n d19_5 rfl ?_
  refine pw_getR d19_6 g19_18 hT hA0 rfl rfl (fun t6 => ?_)
  have t6 : τ (ρ a0 3) = some 2 := t6
  refine pw_getI d19_9 g19_59 hT t6 rfl rfl (fun u9 vu9 => ?_)
  refine pw_if_ne d19_12 rfl (by omega) (fun c12 => ?_) (fun c12 => ?_)
  · refine pw_aload_n d19_38 rfl ?_
    refine pw_ldcS d19_39 n19_39.1 n19_39.2 ?_
    refine pw_callV1 d19_41 k19_96 hT hA0 rfl rfl rfl (ct20 (τ := τ) (ρ := ρ) hK hT hA0 (by decide)) (fun r41 h41 q41 => ?_)
    obtain ⟨T41, F41, z41, ez41, lz41, uz41⟩ := q41
    subst ez41
    have f41 := hF0.tr (F41.up (by decide))
    have q41b := ((F41 (ρ a0 3) 2 t6).1 2 (by decide)).1
    refine pw_if_eq d19_44 rfl (by omega) (fun c44 => ?_) (fun c44 => ?_)
    · refine pw_aload_n d19_73 rfl ?_
      refine pw_ldcS d19_74 n19_74.1 n19_74.2 ?_
      refine pw_callV1 d19_76 k19_96 T41 hA0 rfl rfl rfl (ct20 (τ := τ) (ρ := ρ) hK T41 hA0 (by decide)) (fun r76 h76 q76 => ?_)
      obtain ⟨T76, F76, z76, ez76, lz76, uz76⟩ := q76
      subst ez76
      have f76 := f41.tr (F76.up (by decide))
      have q76b := ((F76 (ρ a0 3) 2 t6).1 2 (by decide)).1
      refine pw_if_eq d19_79 rfl (by omega) (fun c79 => ?_) (fun c79 => ?_)
      · refine pw_aload_n d19_87 rfl ?_
        refine pw_ldcS d19_88 n19_88.1 n19_88.2 ?_
        refine pw_callV1 d19_90 k19_96 T76 hA0 rfl rfl rfl (ct20 (τ := τ) (ρ := ρ) hK T76 hA0 (by decide)) (fun r90 h90 q90 => ?_)
        obtain ⟨T90, F90, z90, ez90, lz90, uz90⟩ := q90
        subst ez90
        have f90 := f76.tr (F90.up (by decide))
        have q90b := ((F90 (ρ a0 3) 2 t6).1 2 (by decide)).1
        refine pw_if_eq d19_93 rfl (by omega) (fun c93 => ?_) (fun c93 => ?_)
        · refine pw_aload_n d19_117 rfl ?_
          refine pw_ldcS d19_118 n19_118.1 n19_118.2 ?_
          refine pw_callV1 d19_120 k19_96 T90 hA0 rfl rfl rfl (ct20 (τ := τ) (ρ := ρ) hK T90 hA0 (by decide)) (fun r120 h120 q120 => ?_)
          obtain ⟨T120, F120, z120, ez120, lz120, uz120⟩ := q120
          subst ez120
          have f120 := f90.tr (F120.up (by decide))
          have q120b := ((F120 (ρ a0 3) 2 t6).1 2 (by decide)).1
          refine pw_if_eq d19_123 rfl (by omega) (fun c123 => ?_) (fun c123 => ?_)
          · refine pw_aload_n d19_131 rfl ?_
            refine pw_ldcS d19_132 n19_132.1 n19_132.2 ?_
            refine pw_callV1 d19_134 k19_96 T120 hA0 rfl rfl rfl (ct20 (τ := τ) (ρ := ρ) hK T120 hA0 (by decide)) (fun r134 h134 q134 => ?_)
            obtain ⟨T134, F134, z134, ez134, lz134, uz134⟩ := q134
            subst ez134
            have f134 := f120.tr (F134.up (by decide))
            have q134b := ((F134 (ρ a0 3) 2 t6).1 2 (by decide)).1
            refine pw_if_eq d19_137 rfl (by omega) (fun c137 => ?_) (fun c137 => ?_)
            · refine pw_aload_n d19_145 rfl ?_
              refine pw_ldcS d19_146 n19_146.1 n19_146.2 ?_
              refine pw_callV1 d19_148 k19_96 T134 hA0 rfl rfl rfl (ct20 (τ := τ) (ρ := ρ) hK T134 hA0 (by decide)) (fun r148 h148 q148 => ?_)
              obtain ⟨T148, F148, z148, ez148, lz148, uz148⟩ := q148
              subst ez148
              have f148 := f134.tr (F148.up (by decide))
              have q148b := ((F148 (ρ a0 3) 2 t6).1 2 (by decide)).1
              refine pw_if_eq d19_151 rfl (by omega) (fun c151 => ?_) (fun c151 => ?_)
              · refine pw_aload_n d19_161 rfl ?_
                refine pw_iconst d19_162 ?_
                refine pw_iload_n d19_163 rfl ?_
                refine pw_callV2 d19_164 k19_55 T148 hA0 rfl rfl rfl (ct34 (τ := τ) (ρ := ρ) T148 hA0 (by omega) (by omega)) (fun r164 h164 q164 => ?_)
                obtain ⟨T164, F164, z164, ez164, lz164, uz164, pz164_0⟩ := q164
                subst ez164
                have f164 := f148.tr (F164.up (by decide))
                have q164b := ((F164 (ρ a0 3) 2 t6).1 2 (by decide)).1
                have q164c := ((F164 a0 1 hA0).1 5 (by decide)).1
                exact pw_zreturn d19_167 tt19 (by omega) ⟨T164, f164, z164, rfl, (by omega), (by omega)⟩
              · refine pw_aload_n d19_154 rfl ?_
                refine pw_callV0 d19_155 k19_132 T148 hA0 rfl rfl rfl (ct51 (τ := τ) (ρ := ρ) T148 hA0) (fun r155 h155 q155 => ?_)
                obtain ⟨T155, F155, z155, ez155, lz155, uz155⟩ := q155
                subst ez155
                have f155 := f148.tr (F155.up (by decide))
                have q155b := ((F155 (ρ a0 3) 2 t6).1 2 (by decide)).1
                refine pw_goto d19_158 rfl ?_
                exact pw_zreturn d19_167 tt19 (by omega) ⟨T155, f155, z155, rfl, (by omega), (by omega)⟩
            · refine pw_aload_n d19_140 rfl ?_
              refine pw_callV0 d19_141 k19_127 T134 hA0 rfl rfl rfl (ct50 (τ := τ) (ρ := ρ) T134 hA0) (fun r141 h141 q141 => ?_)
              obtain ⟨T141, F141, z141, ez141, lz141, uz141⟩ := q141
              subst ez141
              have f141 := f134.tr (F141.up (by decide))
              have q141b := ((F141 (ρ a0 3) 2 t6).1 2 (by decide)).1
              exact pw_zreturn d19_144 tt19 (by omega) ⟨T141, f141, z141, rfl, (by omega), (by omega)⟩
          · refine pw_aload_n d19_126 rfl ?_
            refine pw_callV0 d19_127 k19_123 T120 hA0 rfl rfl rfl (ct46 (τ := τ) (ρ := ρ) T120 hA0) (fun r127 h127 q127 => ?_)
            obtain ⟨T127, F127, z127, ez127, lz127, uz127⟩ := q127
            subst ez127
            have f127 := f120.tr (F127.up (by decide))
            have q127b := ((F127 (ρ a0 3) 2 t6).1 2 (by decide)).1
            exact pw_zreturn d19_130 tt19 (by omega) ⟨T127, f127, z127, rfl, (by omega), (by omega)⟩
        · refine pw_aload_n d19_96 rfl ?_
          refine pw_getI d19_97 g19_38 T90 hA0 rfl rfl (fun u97 vu97 => ?_)
          refine pw_if_eq d19_100 rfl (by omega) (fun c100 => ?_) (fun c100 => ?_)
          · refine pw_aload_n d19_112 rfl ?_
            refine pw_callV0 d19_113 k19_118 T90 hA0 rfl rfl rfl (ct45 (τ := τ) (ρ := ρ) hK T90 hA0) (fun r113 h113 q113 => ?_)
            obtain ⟨T113, F113, z113, ez113, lz113, uz113⟩ := q113
            subst ez113
            have f113 := f90.tr (F113.up (by decide))
            have q113b := ((F113 (ρ a0 3) 2 t6).1 2 (by decide)).1
            exact pw_zreturn d19_116 tt19 (by omega) ⟨T113, f113, z113, rfl, (by omega), (by omega)⟩
          · refine pw_aload_n d19_103 rfl ?_
            refine pw_iconst d19_104 ?_
            refine pw_iload_n d19_105 rfl ?_
            refine pw_callV2 d19_106 k19_55 T90 hA0 rfl rfl rfl (ct34 (τ := τ) (ρ := ρ) T90 hA0 (by omega) (by omega)) (fun r106 h106 q106 => ?_)
            obtain ⟨T106, F106, z106, ez106, lz106, uz106, pz106_0⟩ := q106
            subst ez106
            have f106 := f90.tr (F106.up (by decide))
            have q106b := ((F106 (ρ a0 3) 2 t6).1 2 (by decide)).1
            have q106c := ((F106 a0 1 hA0).1 5 (by decide)).1
            have q106d := ((F106 a0 1 hA0).1 10 (by decide)).1
            refine pw_goto d19_109 rfl ?_
            exact pw_zreturn d19_116 tt19 (by omega) ⟨T106, f106, z106, rfl, (by omega), (by omega)⟩
      · refine pw_aload_n d19_82 rfl ?_
        refine pw_callV0 d19_83 k19_113 T76 hA0 rfl rfl rfl (ct44 (τ := τ) (ρ := ρ) T76 hA0) (fun r83 h83 q83 => ?_)
        obtain ⟨T83, F83, z83, ez83, lz83, uz83⟩ := q83
        subst ez83
        have f83 := f76.tr (F83.up (by decide))
        have q83b := ((F83 (ρ a0 3) 2 t6).1 2 (by decide)).1
        exact pw_zreturn d19_86 tt19 (by omega) ⟨T83, f83, z83, rfl, (by omega), (by omega)⟩
    · refine pw_aload_n d19_47 rfl ?_
      refine pw_getR d19_48 g19_18 T41 hA0 rfl rfl (fun t48 => ?_)
      have t48 : τ (ρ a0 3) = some 2 := t48
      refine pw_getI d19_51 g19_105 T41 t48 rfl rfl (fun u51 vu51 => ?_)
      refine pw_bipush d19_54 (by decide) ?_
      refine pw_icmp_ge d19_56 rfl (by omega) (by omega) (fun c56 => ?_) (fun c56 => ?_)
      · refine pw_aload_n d19_66 rfl ?_
        refine pw_iconst d19_67 ?_
        refine pw_iload_n d19_68 rfl ?_
        refine pw_callV2 d19_69 k19_55 T41 hA0 rfl rfl rfl (ct34 (τ := τ) (ρ := ρ) T41 hA0 (by omega) (by omega)) (fun r69 h69 q69 => ?_)
        obtain ⟨T69, F69, z69, ez69, lz69, uz69, pz69_0⟩ := q69
        subst ez69
        have f69 := f41.tr (F69.up (by decide))
        have q69b := ((F69 (ρ a0 3) 2 t48).1 1 (by decide)).1
        have q69c := ((F69 (ρ a0 3) 2 t48).1 2 (by decide)).1
        have q69d := ((F69 a0 1 hA0).1 5 (by decide)).1
        exact pw_zreturn d19_72 tt19 (by omega) ⟨T69, f69, z69, rfl, (by omega), (by omega)⟩
      · refine pw_aload_n d19_59 rfl ?_
        refine pw_callV0 d19_60 k19_108 T41 hA0 rfl rfl rfl (ct37 (τ := τ) (ρ := ρ) hK T41 hA0 (by omega)) (fun r60 h60 q60 => ?_)
        obtain ⟨T60, F60, z60, ez60, lz60, uz60⟩ := q60
        subst ez60
        have f60 := f41.tr (F60.up (by decide))
        have q60b := ((F60 (ρ a0 3) 2 t48).1 2 (by decide)).1
        refine pw_goto d19_63 rfl ?_
        exact pw_zreturn d19_72 tt19 (by omega) ⟨T60, f60, z60, rfl, (by omega), (by omega)⟩
  · refine pw_aload_n d19_15 rfl ?_
    refine pw_ldcS d19_16 n19_16.1 n19_16.2 ?_
    refine pw_callV1 d19_18 k19_96 hT hA0 rfl rfl rfl (ct20 (τ := τ) (ρ := ρ) hK hT hA0 (by decide)) (fun r18 h18 q18 => ?_)
    obtain ⟨T18, F18, z18, ez18, lz18, uz18⟩ := q18
    subst ez18
    have f18 := hF0.tr (F18.up (by decide))
    have q18b := ((F18 (ρ a0 3) 2 t6).1 2 (by decide)).1
    refine pw_if_eq d19_21 rfl (by omega) (fun c21 => ?_) (fun c21 => ?_)
    · refine pw_aload_n d19_31 rfl ?_
      refine pw_iconst d19_32 ?_
      refine pw_iload_n d19_33 rfl ?_
      refine pw_callV2 d19_34 k19_55 T18 hA0 rfl rfl rfl (ct34 (τ := τ) (ρ := ρ) T18 hA0 (by omega) (by omega)) (fun r34 h34 q34 => ?_)
      obtain ⟨T34, F34, z34, ez34, lz34, uz34, pz34_0⟩ := q34
      subst ez34
      have f34 := f18.tr (F34.up (by decide))
      have q34b := ((F34 (ρ a0 3) 2 t6).1 2 (by decide)).1
      have q34c := ((F34 a0 1 hA0).1 5 (by decide)).1
      exact pw_zreturn d19_37 tt19 (by omega) ⟨T34, f34, z34, rfl, (by omega), (by omega)⟩
    · refine pw_aload_n d19_24 rfl ?_
      refine pw_callV0 d19_25 k19_100 T18 hA0 rfl rfl rfl (ct32 (τ := τ) (ρ := ρ) T18 hA0) (fun r25 h25 q25 => ?_)
      obtain ⟨T25, F25, z25, ez25, lz25, uz25⟩ := q25
      subst ez25
      have f25 := f18.tr (F25.up (by decide))
      have q25b := ((F25 (ρ a0 3) 2 t6).1 2 (by decide)).1
      refine pw_goto d19_28 rfl ?_
      exact pw_zreturn d19_37 tt19 (by omega) ⟨T25, f25, z25, rfl, (by omega), (by omega)⟩

abbrev Q12 (τ : Nat → Option Nat) (ρ : Nat → Nat → Nat) (h : pv_H) (a0 : Nat) : Option Value → pv_H → Prop := fun r h' => pv_Ty τ ρ h' ∧ pv_Fr τ [65, 66, 69, 70, 71, 72, 73, 74, 128, 129, 130, 131, 132, 142, 143, 1343, 1407, 1471, 1535, 1599, 1663, 1727, 1791] h h' ∧ ∃ z : Int, r = some (.int (pv_I z)) ∧ 0 ≤ z ∧ z ≤ 1
set_option maxHeartbeats 4000000 in
set_option maxRecDepth 20000 in
/-- AngleNet$Tape.readAll()Z -/
theorem ct12 {τ : Nat → Option Nat} {ρ : Nat → Nat → Nat} {K : Nat → Nat} {h : pv_H} {a0 : Nat} (hK : pv_Kok K) (hT : pv_Ty τ ρ h) (hA0 : τ a0 = some 1) : pv_C K 12 [.ref a0] h (Q12 τ ρ h a0) := by
  refine pw_entry 1 ?_
  show pv_T K 12 0 (pv_fl [some (.ref a0), none]) [] h (Q12 τ ρ h a0)
  have hF0 : pv_Fr τ [65, 66, 69, 70, 71, 72, 73, 74, 128, 129, 130, 131, 132, 142, 143, 1343, 1407, 1471, 1535, 1599, 1663, 1727, 1791] h h := pv_Fr.rf
  have L33 : ∀ (nn : Nat) (h_33 : pv_H) (xL1_33 : Int), (pv_Ty τ ρ h_33) → (pv_Fr τ [65, 66, 69, 70, 71, 72, 73, 74, 128, 129, 130, 131, 132, 142, 143, 1343, 1407, 1471, 1535, 1599, 1663, 1727, 1791] h h_33) → (0 ≤ xL1_33 ∧ xL1_33 ≤ 1600) → 1600 - xL1_33 < nn → pv_T K 12 33 (pv_fl [some (.ref a0), some (.int (pv_I xL1_33))]) [] h_33 (Q12 τ ρ h a0) := by
    intro nn
    induction nn with
    | zero => intro h_33 xL1_33 hT_33 hF_33 rL1_33 hm; exfalso; omega
    | succ nn ih33 =>
      intro h_33 xL1_33 hT_33 hF_33 rL1_33 hm33
      refine pw_iload_n d12_33 rfl ?_
      refine pw_sipush d12_34 (by decide) ?_
      refine pw_icmp_ge d12_37 rfl (by omega) (by omega) (fun c37 => ?_) (fun c37 => ?_)
      · refine pw_iconst d12_97 ?_
        exact pw_zreturn d12_98 tt12 (by omega) ⟨hT_33, hF_33, 1, rfl, (by omega), (by omega)⟩
      · refine pw_aload_n d12_40 rfl ?_
        refine pw_getI d12_41 g12_45 hT_33 hA0 rfl rfl (fun u41 vu41 => ?_)
        refine pw_if_eq d12_44 rfl (by omega) (fun c44 => ?_) (fun c44 => ?_)
        · refine pw_iconst d12_97 ?_
          exact pw_zreturn d12_98 tt12 (by omega) ⟨hT_33, hF_33, 1, rfl, (by omega), (by omega)⟩
        · refine pw_aload_n d12_47 rfl ?_
          refine pw_callV0 d12_48 k12_48 hT_33 hA0 rfl rfl rfl (ct19 (τ := τ) (ρ := ρ) hK hT_33 hA0) (fun r48 h48 q48 => ?_)
          obtain ⟨T48, F48, z48, ez48, lz48, uz48⟩ := q48
          subst ez48
          have f48 := hF_33.tr (F48.up (by decide))
          refine pw_if_ne d12_51 rfl (by omega) (fun c51 => ?_) (fun c51 => ?_)
          · refine pw_aload_n d12_56 rfl ?_
            refine pw_getI d12_57 g12_45 T48 hA0 rfl rfl (fun u57 vu57 => ?_)
            refine pw_iconst d12_60 ?_
            refine pw_icmp_eq d12_61 rfl (by omega) (by omega) (fun c61 => ?_) (fun c61 => ?_)
            · refine pw_aload_n d12_74 rfl ?_
              refine pw_callV0 d12_75 k12_42 T48 hA0 rfl rfl rfl (ct16 (τ := τ) (ρ := ρ) T48 hA0) (fun r75 h75 q75 => ?_)
              obtain ⟨T75, F75, ez75⟩ := q75
              subst ez75
              have f75 := f48.tr (F75.up (by decide))
              refine pw_aload_n d12_78 rfl ?_
              refine pw_getR d12_79 g12_18 T75 hA0 rfl rfl (fun t79 => ?_)
              have t79 : τ (ρ a0 3) = some 2 := t79
              refine pw_dup d12_82 rfl ?_
              refine pw_getI d12_83 g12_59 T75 t79 rfl rfl (fun u83 vu83 => ?_)
              refine pw_iconst d12_86 ?_
              refine pw_iadd d12_87 ?_
              refine pw_any (fun z88 hz88 ez88 => ?_)
              refine pw_putI d12_88 g12_59 w2_2 T75 t79 rfl rfl rfl (by omega) (by omega) (fun h88 T88 F88 E88 => ?_)
              have f88 := f75.tr (F88.up (by decide))
              have q88 := ((F88 a0 1 hA0).1 7 (by decide)).1
              refine pw_iinc d12_91 m12 rfl rfl rfl ?_
              refine pw_goto d12_94 rfl ?_
              exact ih33 h88 ((xL1_33 + 1)) T88 f88 (by omega) (by omega)
            · refine pw_aload_n d12_64 rfl ?_
              refine pw_iconst d12_65 ?_
              refine pw_aload_n d12_66 rfl ?_
              refine pw_getI d12_67 g12_52 T48 hA0 rfl rfl (fun u67 vu67 => ?_)
              refine pw_callV2 d12_70 k12_55 T48 hA0 rfl rfl rfl (ct34 (τ := τ) (ρ := ρ) T48 hA0 (by omega) (by omega)) (fun r70 h70 q70 => ?_)
              obtain ⟨T70, F70, z70, ez70, lz70, uz70, pz70_0⟩ := q70
              subst ez70
              have f70 := f48.tr (F70.up (by decide))
              have q70b := ((F70 a0 1 hA0).1 5 (by decide)).1
              have q70c := ((F70 a0 1 hA0).1 7 (by decide)).1
              exact pw_zreturn d12_73 tt12 (by omega) ⟨T70, f70, z70, rfl, (by omega), (by omega)⟩
          · refine pw_iconst d12_54 ?_
            exact pw_zreturn d12_55 tt12 (by omega) ⟨T48, f48, 0, rfl, (by omega), (by omega)⟩
  refine pw_aload_n d12_0 rfl ?_
  refine pw_getR d12_1 g12_18 hT hA0 rfl rfl (fun t1 => ?_)
  have t1 : τ (ρ a0 3) = some 2 := t1
  refine pw_callV0 d12_4 k12_29 hT t1 rfl rfl rfl (ct13 (τ := τ) (ρ := ρ) hT t1) (fun r4 h4 q4 => ?_)
  obtain ⟨T4, F4, ez4⟩ := q4
  subst ez4
  have f4 := hF0.tr (F4.up (by decide))
  refine pw_aload_n d12_7 rfl ?_
  refine pw_iconst d12_8 ?_
  refine pw_putI d12_9 g12_32 w1_1 T4 hA0 rfl rfl rfl (by omega) (by omega) (fun h9 T9 F9 E9 => ?_)
  have f9 := f4.tr (F9.up (by decide))
  refine pw_aload_n d12_12 rfl ?_
  refine pw_iconst d12_13 ?_
  refine pw_putI d12_14 g12_9 w1_2 T9 hA0 rfl rfl rfl (by omega) (by omega) (fun h14 T14 F14 E14 => ?_)
  have f14 := f9.tr (F14.up (by decide))
  have q14 := ((F14 a0 1 hA0).1 1 (by decide)).1
  refine pw_aload_n d12_17 rfl ?_
  refine pw_iconst d12_18 ?_
  refine pw_putI d12_19 g12_35 w1_6 T14 hA0 rfl rfl rfl (by omega) (by omega) (fun h19 T19 F19 E19 => ?_)
  have f19 := f14.tr (F19.up (by decide))
  have q19 := ((F19 a0 1 hA0).1 1 (by decide)).1
  have q19b := ((F19 a0 1 hA0).1 2 (by decide)).1
  refine pw_aload_n d12_22 rfl ?_
  refine pw_iconst d12_23 ?_
  refine pw_putZ d12_24 g12_38 w1_10 T19 hA0 rfl rfl rfl (by omega) (by omega) (fun h24 T24 F24 E24 => ?_)
  have f24 := f19.tr (F24.up (by decide))
  have q24 := ((F24 a0 1 hA0).1 1 (by decide)).1
  have q24b := ((F24 a0 1 hA0).1 2 (by decide)).1
  have q24c := ((F24 a0 1 hA0).1 6 (by decide)).1
  refine pw_aload_n d12_27 rfl ?_
  refine pw_callV0 d12_28 k12_42 T24 hA0 rfl rfl rfl (ct16 (τ := τ) (ρ := ρ) T24 hA0) (fun r28 h28 q28 => ?_)
  obtain ⟨T28, F28, ez28⟩ := q28
  subst ez28
  have f28 := f24.tr (F28.up (by decide))
  have q28b := ((F28 a0 1 hA0).1 1 (by decide)).1
  have q28c := ((F28 a0 1 hA0).1 2 (by decide)).1
  have q28d := ((F28 a0 1 hA0).1 10 (by decide)).1
  refine pw_iconst d12_31 ?_
  refine pw_istore_n d12_32 m12 rfl rfl ?_
  exact L33 _ h28 (0) T28 f28 (by omega) (pv_mu _)
