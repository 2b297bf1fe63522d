abbrev Q125 (τ : Nat → Option Nat) (ρ : Nat → Nat → Nat) (h : pv_H) (a0 : Nat) (x1 : Int) (x2 : Int) : Option Value → pv_H → Prop := fun r h' => pv_Ty τ ρ h' ∧ pv_Fr τ [1855] h h' ∧ r = none ∧ ((pv_aI h' (ρ a0 13) (x1).toNat = x2 ∧ ∀ k : Nat, k < 3 → pv_aI h' (ρ a0 13) ((x1).toNat + 1 + k) = nk_c h ρ a0 (x2).toNat k) ∧ ∀ j, (j < (x1).toNat ∨ (x1).toNat + 5 ≤ j) → pv_aI h' (ρ a0 13) j = pv_aI h (ρ a0 13) j)
set_option maxHeartbeats 4000000 in
set_option maxRecDepth 20000 in
/-- AngleNet$Flips.note(LAngleNet$Net;II)V -/
theorem ct125 {τ : Nat → Option Nat} {ρ : Nat → Nat → Nat} {K : Nat → Nat} {h : pv_H} {a0 : Nat} {x1 : Int} {x2 : Int} (hT : pv_Ty τ ρ h) (hA0 : τ a0 = some 2) (hX1 : 0 ≤ x1 ∧ x1 ≤ 1282) (hX2 : 0 ≤ x2 ∧ x2 ≤ 17) (hP0 : x1 % 13 = 3 ∨ x1 % 13 = 8) : pv_C K 125 [.ref a0, .int (pv_I x1), .int (pv_I x2)] h (Q125 τ ρ h a0 x1 x2) := by
  refine pw_entry 0 ?_
  show pv_T K 125 0 (pv_fl [some (.ref a0), some (.int (pv_I x1)), some (.int (pv_I x2))]) [] h (Q125 τ ρ h a0 x1 x2)
  have hR0_5 : τ (ρ a0 5) = some 20 := hT.rf (t' := 20) hA0 rfl rfl
  have hR0_13 : τ (ρ a0 13) = some 28 := hT.rf (t' := 28) hA0 rfl rfl
  have hF0 : pv_Fr τ [1855] h h := pv_Fr.rf
  refine pw_aload_n d125_0 rfl ?_
  refine pw_getR d125_1 g125_70 hT hA0 rfl rfl (fun t1 => ?_)
  have t1 : τ (ρ a0 13) = some 28 := t1
  refine pw_iload_n d125_4 rfl ?_
  refine pw_iload_n d125_5 rfl ?_
  refine pw_iastP d125_6 hT t1 rfl rfl rfl (by omega) (by omega) (by omega) (by rcases (show (x1).toNat % 13 = 3 ∨ (x1).toNat % 13 = 8 by omega) with e9 | e9 <;> exact pw_perW e9 rfl (by omega)) (fun h6 T6 F6 E6 => ?_)
  have f6 := hF0.tr (F6.up (by decide))
  refine pw_aload_n d125_7 rfl ?_
  refine pw_getR d125_8 g125_93 T6 hA0 rfl rfl (fun t8 => ?_)
  have t8 : τ (ρ a0 5) = some 20 := t8
  refine pw_iconst d125_11 ?_
  refine pw_iload_n d125_12 rfl ?_
  refine pw_imul d125_13 ?_
  refine pw_aload_n d125_14 rfl ?_
  refine pw_getR d125_15 g125_70 T6 hA0 rfl rfl (fun t15 => ?_)
  have t15 : τ (ρ a0 13) = some 28 := t15
  refine pw_iload_n d125_18 rfl ?_
  refine pw_iconst d125_19 ?_
  refine pw_iadd d125_20 ?_
  refine pw_iconst d125_21 ?_
  refine pw_copyG d125_22 k125_96 T6 t8 t15 rfl rfl rfl rfl rfl rfl (by omega) (by omega) (by omega) (by omega) (by omega) (by exact cp_hel T6 t8 (by omega) (by omega) (by omega)) (fun h22 T22 F22 E22 => ?_)
  have f22 := f6.tr (F22.up (by decide))
  refine pw_aload_n d125_25 rfl ?_
  refine pw_getR d125_26 g125_70 T22 hA0 rfl rfl (fun t26 => ?_)
  have t26 : τ (ρ a0 13) = some 28 := t26
  refine pw_iload_n d125_29 rfl ?_
  refine pw_iconst d125_30 ?_
  refine pw_iadd d125_31 ?_
  refine pw_aload_n d125_32 rfl ?_
  refine pw_getR d125_33 g125_102 T22 hA0 rfl rfl (fun t33 => ?_)
  have t33 : τ (ρ a0 6) = some 21 := t33
  refine pw_iload_n d125_36 rfl ?_
  refine pw_iald d125_37 T22 t33 rfl rfl (by omega) (by omega) (fun u37 vu37 => ?_)
  refine pw_iastP d125_38 T22 t26 rfl rfl rfl (by omega) (by omega) (by omega) (by rcases (show ((x1 + 4)).toNat % 13 = 7 ∨ ((x1 + 4)).toNat % 13 = 12 by omega) with e9 | e9 <;> exact pw_perW e9 rfl (by omega)) (fun h38 T38 F38 E38 => ?_)
  have f38 := f22.tr (F38.up (by decide))
  exact pw_return d125_39 tt125 ⟨T38, f38, rfl, (by show (_ ∧ ∀ k : Nat, k < 3 → _ = pv_aI h (ρ a0 5) (3 * (x2).toNat + k)) ∧ _; rw [← F6.aeq hR0_5 (by decide)]; exact nt_w (by omega) (by omega) (pe_at E6) (pe_cp E22) (pe_at E38))⟩

abbrev Q124 (τ : Nat → Option Nat) (ρ : Nat → Nat → Nat) (h : pv_H) (a0 : Nat) (x1 : Int) (x2 : Int) : Option Value → pv_H → Prop := fun r h' => pv_Ty τ ρ h' ∧ pv_Fr τ [142, 1343, 1407, 1727, 1791, 1855] h h' ∧ ∃ z : Int, r = some (.int (pv_I z)) ∧ (-1) ≤ z ∧ z ≤ 99 ∧ (nk_k h' ρ a0)
set_option maxHeartbeats 4000000 in
set_option maxRecDepth 20000 in
/-- AngleNet$Flips.apply(LAngleNet$Net;II)I -/
theorem ct124 {τ : Nat → Option Nat} {ρ : Nat → Nat → Nat} {K : Nat → Nat} {h : pv_H} {a0 : Nat} {x1 : Int} {x2 : Int} (hT : pv_Ty τ ρ h) (hA0 : τ a0 = some 2) (hX1 : 0 ≤ x1 ∧ x1 ≤ 9) (hX2 : 0 ≤ x2 ∧ x2 ≤ 9) (hP0 : nk_k h ρ a0) (hP1 : x1 ≠ x2) : pv_C K 124 [.ref a0, .int (pv_I x1), .int (pv_I x2)] h (Q124 τ ρ h a0 x1 x2) := by
  refine pw_entry 7 ?_
  show pv_T K 124 0 (pv_fl [some (.ref a0), some (.int (pv_I x1)), some (.int (pv_I x2)), none, none, none, none, none, none, none]) [] h (Q124 τ ρ h a0 x1 x2)
  have hR0_5 : τ (ρ a0 5) = some 20 := hT.rf (t' := 20) hA0 rfl rfl
  have hR0_12 : τ (ρ a0 12) = some 27 := hT.rf (t' := 27) hA0 rfl rfl
  have hR0_13 : τ (ρ a0 13) = some 28 := hT.rf (t' := 28) hA0 rfl rfl
  have hF0 : pv_Fr τ [142, 1343, 1407, 1727, 1791, 1855] h h := pv_Fr.rf
  refine pw_aload_n d124_0 rfl ?_
  refine pw_getI d124_1 g124_67 hT hA0 rfl rfl (fun u1 vu1 => ?_)
  refine pw_bipush d124_4 (by decide) ?_
  refine pw_icmp_ge d124_6 rfl (by omega) (by omega) (fun c6 => ?_) (fun c6 => ?_)
  · refine pw_iconst d124_18 ?_
    exact pw_ireturn d124_19 tt124 ⟨hT, hF0, (-1), rfl, (by omega), (by omega), (by first | exact hP0 | exact ap_end (c1 := nk_c h195 ρ a0) hP0 f22 (by omega) t32 t57 (by rcases pz38_0 with q | q; (exfalso; omega); exact q.2.2.2.2) (by rcases pz51_0 with q | q; (exfalso; omega); exact q.2.2.2.2) (by rcases pz51_0 with q | q; (exfalso; omega); exact q.2.1) (by omega) (by omega) b14 (pe_at E118) (pe_at E129) (pe_at E150) pz158_0 (by rw [eh4]; exact pz169_0) s1 s2 pz195_0 pz195_1 (by rw [ec4]; exact pz210_0) (by rw [ec4, es4]; exact pz210_1) (by rw [((F237 a0 2 hA0).1 0 (by decide)).1, ((F227 a0 2 hA0).1 0 (by decide)).1, ((F218 a0 2 hA0).1 0 (by decide)).1, ((F210 a0 2 hA0).1 0 (by decide)).1, ((F195 a0 2 hA0).1 0 (by decide)).1, ((F181 a0 2 hA0).1 0 (by decide)).1, ((F175 a0 2 hA0).1 0 (by decide)).1, ((F169 a0 2 hA0).1 0 (by decide)).1, ((F158 a0 2 hA0).1 0 (by decide)).1, ((F150 a0 2 hA0).1 0 (by decide)).1, ((F129 a0 2 hA0).1 0 (by decide)).1, ((F118 a0 2 hA0).1 0 (by decide)).1]) (by rw [((F237 a0 2 hA0).1 1 (by decide)).1, ((F227 a0 2 hA0).1 1 (by decide)).1, ((F218 a0 2 hA0).1 1 (by decide)).1, ((F210 a0 2 hA0).1 1 (by decide)).1, ((F195 a0 2 hA0).1 1 (by decide)).1, ((F181 a0 2 hA0).1 1 (by decide)).1, ((F175 a0 2 hA0).1 1 (by decide)).1, ((F169 a0 2 hA0).1 1 (by decide)).1, ((F158 a0 2 hA0).1 1 (by decide)).1, ((F150 a0 2 hA0).1 1 (by decide)).1, ((F129 a0 2 hA0).1 1 (by decide)).1, ((F118 a0 2 hA0).1 1 (by decide)).1]) (by rw [E237, ((F227 a0 2 hA0).1 14 (by decide)).1, ((F218 a0 2 hA0).1 14 (by decide)).1, ((F210 a0 2 hA0).1 14 (by decide)).1, ((F195 a0 2 hA0).1 14 (by decide)).1, ((F181 a0 2 hA0).1 14 (by decide)).1, ((F175 a0 2 hA0).1 14 (by decide)).1, ((F169 a0 2 hA0).1 14 (by decide)).1, ((F158 a0 2 hA0).1 14 (by decide)).1, ((F150 a0 2 hA0).1 14 (by decide)).1, ((F129 a0 2 hA0).1 14 (by decide)).1, ((F118 a0 2 hA0).1 14 (by decide)).1]) (by rw [((F237 a0 2 hA0).1 15 (by decide)).1, ((F227 a0 2 hA0).1 15 (by decide)).1, ((F218 a0 2 hA0).1 15 (by decide)).1, ((F210 a0 2 hA0).1 15 (by decide)).1, ((F195 a0 2 hA0).1 15 (by decide)).1, ((F181 a0 2 hA0).1 15 (by decide)).1, ((F175 a0 2 hA0).1 15 (by decide)).1, ((F169 a0 2 hA0).1 15 (by decide)).1, ((F158 a0 2 hA0).1 15 (by decide)).1, ((F150 a0 2 hA0).1 15 (by decide)).1, ((F129 a0 2 hA0).1 15 (by decide)).1, ((F118 a0 2 hA0).1 15 (by decide)).1]))⟩
  · have ok9 := hP0.1
    refine pw_aload_n d124_9 rfl ?_
    refine pw_iload_n d124_10 rfl ?_
    refine pw_iload_n d124_11 rfl ?_
    refine pw_callS3 d124_12 k124_22 rfl rfl (ct120 (τ := τ) (ρ := ρ) hT hA0 (by omega) (by omega) (by first | assumption | omega) (by first | assumption | omega)) (fun r12 h12 q12 => ?_)
    obtain ⟨eh12, z12, ez12, lz12, uz12, pz12_0⟩ := q12
    subst eh12
    subst ez12
    refine pw_if_ne d124_15 rfl (by omega) (fun c15 => ?_) (fun c15 => ?_)
    · refine pw_iload_n d124_20 rfl ?_
      refine pw_iload_n d124_21 rfl ?_
      refine pw_mmin d124_22 k124_28 rfl (by omega) (by omega) (fun z22 pz22 hz22 => ?_)
      refine pw_istore_n d124_25 m124 rfl rfl ?_
      refine pw_iload_n d124_26 rfl ?_
      refine pw_iload_n d124_27 rfl ?_
      refine pw_mmax d124_28 k124_34 rfl (by omega) (by omega) (fun z28 pz28 hz28 => ?_)
      refine pw_istore d124_31 m124 rfl rfl ?_
      have np : 0 ≤ pv_fI h a0 0 ∧ pv_fI h a0 0 ≤ 10 := hT.fI hA0 rfl rfl
      have np2 := np.2
      have g22 := hP0.1.G
      have f22 := (pz12_0 (by omega)).mm (x := z22) (y := z28) (by omega) (by omega) (by omega) (by omega)
      have n22 : z22 ≠ z28 := by omega
      refine pw_aload_n d124_33 rfl ?_
      refine pw_iload_n d124_34 rfl ?_
      refine pw_iload d124_35 rfl ?_
      refine pw_iconst d124_37 ?_
      refine pw_callV3 d124_38 k124_9 hT hA0 rfl rfl rfl (ct88F (τ := τ) (ρ := ρ) hT hA0 (by omega) (by omega) (by omega)) (fun r38 h38 q38 => ?_)
      obtain ⟨eh38, z38, ez38, lz38, uz38, pz38_0⟩ := q38
      subst eh38
      subst ez38
      have t32 : 0 ≤ z38 ∧ z38 < pv_fI h a0 1 ∧ pf_on (nk_c h ρ a0) (z38).toNat z22 z28 := f22.t pz38_0
      have o32 := t32.2.2
      have l32 := t32.2.1
      have m32 := t32.1
      refine pw_istore d124_41 m124 rfl rfl ?_
      refine pw_aload_n d124_43 rfl ?_
      refine pw_iload_n d124_44 rfl ?_
      refine pw_iload d124_45 rfl ?_
      refine pw_iload d124_47 rfl ?_
      refine pw_iconst d124_49 ?_
      refine pw_iadd d124_50 ?_
      refine pw_callV3 d124_51 k124_9 hT hA0 rfl rfl rfl (ct88F (τ := τ) (ρ := ρ) hT hA0 (by omega) (by omega) (by omega)) (fun r51 h51 q51 => ?_)
      obtain ⟨eh51, z51, ez51, lz51, uz51, pz51_0⟩ := q51
      subst eh51
      subst ez51
      have t57 : 0 ≤ z51 ∧ z51 < pv_fI h a0 1 ∧ pf_on (nk_c h ρ a0) (z51).toNat z22 z28 := f22.u pz38_0 pz51_0
      have o57 := t57.2.2
      have l57 := t57.2.1
      have m57 := t57.1
      refine pw_istore d124_54 m124 rfl rfl ?_
      refine pw_aload_n d124_56 rfl ?_
      refine pw_iload d124_57 rfl ?_
      refine pw_iload_n d124_59 rfl ?_
      refine pw_iload d124_60 rfl ?_
      refine pw_callV3 d124_62 k124_15 hT hA0 rfl rfl rfl (ct90F (τ := τ) (ρ := ρ) hT hA0 (by omega) (by omega) (by omega) (by first | assumption | omega) (by first | assumption | omega) (by first | assumption | omega) (by first | assumption | omega) (by first | assumption | omega)) (fun r62 h62 q62 => ?_)
      obtain ⟨eh62, z62, ez62, lz62, uz62, pz62_0⟩ := q62
      subst eh62
      subst ez62
      refine pw_aload_n d124_65 rfl ?_
      refine pw_iload d124_66 rfl ?_
      refine pw_iload_n d124_68 rfl ?_
      refine pw_iload d124_69 rfl ?_
      refine pw_callV3 d124_71 k124_15 hT hA0 rfl rfl rfl (ct90F (τ := τ) (ρ := ρ) hT hA0 (by omega) (by omega) (by omega) (by first | assumption | omega) (by first | assumption | omega) (by first | assumption | omega) (by first | assumption | omega) (by first | assumption | omega)) (fun r71 h71 q71 => ?_)
      obtain ⟨eh71, z71, ez71, lz71, uz71, pz71_0⟩ := q71
      subst eh71
      subst ez71
      refine pw_mmin d124_74 k124_28 rfl (by omega) (by omega) (fun z74 pz74 hz74 => ?_)
      refine pw_istore d124_77 m124 rfl rfl ?_
      refine pw_aload_n d124_79 rfl ?_
      refine pw_iload d124_80 rfl ?_
      refine pw_iload_n d124_82 rfl ?_
      refine pw_iload d124_83 rfl ?_
      refine pw_callV3 d124_85 k124_15 hT hA0 rfl rfl rfl (ct90F (τ := τ) (ρ := ρ) hT hA0 (by omega) (by omega) (by omega) (by first | assumption | omega) (by first | assumption | omega) (by first | assumption | omega) (by first | assumption | omega) (by first | assumption | omega)) (fun r85 h85 q85 => ?_)
      obtain ⟨eh85, z85, ez85, lz85, uz85, pz85_0⟩ := q85
      subst eh85
      subst ez85
      refine pw_aload_n d124_88 rfl ?_
      refine pw_iload d124_89 rfl ?_
      refine pw_iload_n d124_91 rfl ?_
      refine pw_iload d124_92 rfl ?_
      refine pw_callV3 d124_94 k124_15 hT hA0 rfl rfl rfl (ct90F (τ := τ) (ρ := ρ) hT hA0 (by omega) (by omega) (by omega) (by first | assumption | omega) (by first | assumption | omega) (by first | assumption | omega) (by first | assumption | omega) (by first | assumption | omega)) (fun r94 h94 q94 => ?_)
      obtain ⟨eh94, z94, ez94, lz94, uz94, pz94_0⟩ := q94
      subst eh94
      subst ez94
      refine pw_mmax d124_97 k124_34 rfl (by omega) (by omega) (fun z97 pz97 hz97 => ?_)
      refine pw_istore d124_100 m124 rfl rfl ?_
      refine pw_bipush d124_102 (by decide) ?_
      refine pw_aload_n d124_104 rfl ?_
      refine pw_getI d124_105 g124_67 hT hA0 rfl rfl (fun u105 vu105 => ?_)
      refine pw_imul d124_108 ?_
      refine pw_istore d124_109 m124 rfl rfl ?_
      refine pw_aload_n d124_111 rfl ?_
      refine pw_getR d124_112 g124_70 hT hA0 rfl rfl (fun t112 => ?_)
      have t112 : τ (ρ a0 13) = some 28 := t112
      refine pw_iload d124_115 rfl ?_
      refine pw_iload_n d124_117 rfl ?_
      refine pw_iastP d124_118 hT t112 rfl rfl rfl (by omega) (by omega) (by omega) (by rcases (show ((13 * (pv_fI h a0 14))).toNat % 13 = 0 by omega) with e9 <;> exact pw_perW e9 rfl (by omega)) (fun h118 T118 F118 E118 => ?_)
      have f118 := hF0.tr (F118.up (by decide))
      have q118 := ((F118 a0 2 hA0).1 14 (by decide)).1
      refine pw_aload_n d124_119 rfl ?_
      refine pw_getR d124_120 g124_70 T118 hA0 rfl rfl (fun t120 => ?_)
      have t120 : τ (ρ a0 13) = some 28 := t120
      refine pw_iload d124_123 rfl ?_
      refine pw_iconst d124_125 ?_
      refine pw_iadd d124_126 ?_
      refine pw_iload d124_127 rfl ?_
      refine pw_iastP d124_129 T118 t120 rfl rfl rfl (by omega) (by omega) (by omega) (by rcases (show (((13 * (pv_fI h a0 14)) + 1)).toNat % 13 = 1 by omega) with e9 <;> exact pw_perW e9 rfl (by omega)) (fun h129 T129 F129 E129 => ?_)
      have f129 := f118.tr (F129.up (by decide))
      have q129 := ((F129 a0 2 hA0).1 14 (by decide)).1
      refine pw_aload_n d124_130 rfl ?_
      refine pw_getR d124_131 g124_70 T129 hA0 rfl rfl (fun t131 => ?_)
      have t131 : τ (ρ a0 13) = some 28 := t131
      refine pw_iload d124_134 rfl ?_
      refine pw_iconst d124_136 ?_
      refine pw_iadd d124_137 ?_
      refine pw_aload_n d124_138 rfl ?_
      refine pw_getR d124_139 g124_74 T129 hA0 rfl rfl (fun t139 => ?_)
      have t139 : τ (ρ a0 11) = some 26 := t139
      refine pw_bipush d124_142 (by decide) ?_
      refine pw_iload_n d124_144 rfl ?_
      refine pw_imul d124_145 ?_
      refine pw_iload d124_146 rfl ?_
      refine pw_iadd d124_148 ?_
      refine pw_iald d124_149 T129 t139 rfl rfl (by omega) (by omega) (fun u149 vu149 => ?_)
      refine pw_iastP d124_150 T129 t131 rfl rfl rfl (by omega) (by omega) (by omega) (by rcases (show (((13 * (pv_fI h a0 14)) + 2)).toNat % 13 = 2 by omega) with e9 <;> exact pw_perW e9 rfl (by omega)) (fun h150 T150 F150 E150 => ?_)
      have f150 := f129.tr (F150.up (by decide))
      have q150 := ((F150 a0 2 hA0).1 14 (by decide)).1
      refine pw_aload_n d124_151 rfl ?_
      refine pw_iload d124_152 rfl ?_
      refine pw_iconst d124_154 ?_
      refine pw_iadd d124_155 ?_
      refine pw_iload d124_156 rfl ?_
      refine pw_callS3 d124_158 k124_77 rfl rfl (ct125 (τ := τ) (ρ := ρ) T150 hA0 (by omega) (by omega) (by first | assumption | omega)) (fun r158 h158 q158 => ?_)
      obtain ⟨T158, F158, ez158, pz158_0⟩ := q158
      subst ez158
      have f158 := f150.tr (F158.up (by decide))
      have q158b := ((F158 a0 2 hA0).1 14 (by decide)).1
      refine pw_aload_n d124_161 rfl ?_
      refine pw_iload d124_162 rfl ?_
      refine pw_bipush d124_164 (by decide) ?_
      refine pw_iadd d124_166 ?_
      refine pw_iload d124_167 rfl ?_
      refine pw_callS3 d124_169 k124_77 rfl rfl (ct125 (τ := τ) (ρ := ρ) T158 hA0 (by omega) (by omega) (by first | assumption | omega)) (fun r169 h169 q169 => ?_)
      obtain ⟨T169, F169, ez169, pz169_0⟩ := q169
      subst ez169
      have f169 := f158.tr (F169.up (by decide))
      have q169b := ((F169 a0 2 hA0).1 14 (by decide)).1
      have es0 : pv_aI h169 (ρ a0 12) = pv_aI h (ρ a0 12) := (F169.aeq hR0_12 (by decide)).trans ((F158.aeq hR0_12 (by decide)).trans ((F150.aeq hR0_12 (by decide)).trans ((F129.aeq hR0_12 (by decide)).trans (F118.aeq hR0_12 (by decide)))))
      have ec0 : nk_c h169 ρ a0 = nk_c h ρ a0 := by unfold nk_c; rw [(F169.aeq hR0_5 (by decide)).trans ((F158.aeq hR0_5 (by decide)).trans ((F150.aeq hR0_5 (by decide)).trans ((F129.aeq hR0_5 (by decide)).trans (F118.aeq hR0_5 (by decide)))))]
      have sb0 := hP0.1.1.b (nk_18 hT hA0)
      have sx0 : ∀ j : Nat, j < 100 → -1000 ≤ pv_aI h169 (ρ a0 12) j ∧ pv_aI h169 (ρ a0 12) j ≤ 1000 := by rw [es0]; exact sh_1000 sb0 (by decide) (by decide)
      refine pw_aload_n d124_172 rfl ?_
      refine pw_iload d124_173 rfl ?_
      refine pw_callV1 d124_175 k124_81 T169 hA0 rfl rfl rfl (ct126F (τ := τ) (ρ := ρ) T169 hA0 (by omega) (by first | omega | assumption)) (fun r175 h175 q175 => ?_)
      obtain ⟨T175, F175, ez175, pz175_0⟩ := q175
      subst ez175
      have f175 := f169.tr (F175.up (by decide))
      have q175b := ((F175 a0 2 hA0).1 14 (by decide)).1
      have s1 : ∀ p q : Nat, p < 10 → q < 10 → pv_aI h175 (ρ a0 12) (10 * p + q) = pv_aI h (ρ a0 12) (10 * p + q) - pf_cn (nk_c h ρ a0) (z38).toNat p q := by rw [← es0, ← ec0]; exact pz175_0
      have sb1 := sh_b sb0 (Or.inl s1)
      have ec1 : nk_c h175 ρ a0 = nk_c h ρ a0 := by rw [← ec0]; unfold nk_c; rw [F175.aeq hR0_5 (by decide)]
      have sx1 := sh_1000 sb1 (by decide) (by decide)
      refine pw_aload_n d124_178 rfl ?_
      refine pw_iload d124_179 rfl ?_
      refine pw_callV1 d124_181 k124_81 T175 hA0 rfl rfl rfl (ct126F (τ := τ) (ρ := ρ) T175 hA0 (by omega) (by first | omega | assumption)) (fun r181 h181 q181 => ?_)
      obtain ⟨T181, F181, ez181, pz181_0⟩ := q181
      subst ez181
      have f181 := f175.tr (F181.up (by decide))
      have q181b := ((F181 a0 2 hA0).1 14 (by decide)).1
      have s2 : ∀ p q : Nat, p < 10 → q < 10 → pv_aI h181 (ρ a0 12) (10 * p + q) = pv_aI h175 (ρ a0 12) (10 * p + q) - pf_cn (nk_c h ρ a0) (z51).toNat p q := by rw [← ec1]; exact pz181_0
      have sb2 := sh_b sb1 (Or.inl s2)
      have ec2 : nk_c h181 ρ a0 = nk_c h ρ a0 := by rw [← ec1]; unfold nk_c; rw [F181.aeq hR0_5 (by decide)]
      have sx2 := sh_1000 sb2 (by decide) (by decide)
      refine pw_aload_n d124_184 rfl ?_
      refine pw_iload d124_185 rfl ?_
      refine pw_iload_n d124_187 rfl ?_
      refine pw_iload d124_188 rfl ?_
      refine pw_iload d124_190 rfl ?_
      refine pw_sipush d124_192 (by decide) ?_
      refine pw_callV5 d124_195 k124_85 T181 hA0 rfl rfl rfl (ct42F (τ := τ) (ρ := ρ) T181 hA0 (by omega) (by omega) (by omega) (by omega) (by omega) (by first | assumption | omega)) (fun r195 h195 q195 => ?_)
      obtain ⟨T195, F195, ez195, pz195_0, pz195_1⟩ := q195
      subst ez195
      have f195 := f181.tr (F195.up (by decide))
      have q195b := ((F195 a0 2 hA0).1 14 (by decide)).1
      have sb3 := sh_b sb2 (Or.inr pz195_1)
      have sx3 := sh_1000 sb3 (by decide) (by decide)
      rw [ec2] at pz195_0
      refine pw_aload_n d124_198 rfl ?_
      refine pw_iload d124_199 rfl ?_
      refine pw_iload d124_201 rfl ?_
      refine pw_iload d124_203 rfl ?_
      refine pw_iload d124_205 rfl ?_
      refine pw_sipush d124_207 (by decide) ?_
      refine pw_callV5 d124_210 k124_85 T195 hA0 rfl rfl rfl (ct42F (τ := τ) (ρ := ρ) T195 hA0 (by omega) (by omega) (by omega) (by omega) (by omega) (by first | assumption | omega)) (fun r210 h210 q210 => ?_)
      obtain ⟨T210, F210, ez210, pz210_0, pz210_1⟩ := q210
      subst ez210
      have f210 := f195.tr (F210.up (by decide))
      have q210b := ((F210 a0 2 hA0).1 14 (by decide)).1
      refine pw_aload_n d124_213 rfl ?_
      refine pw_iload_n d124_214 rfl ?_
      refine pw_iload d124_215 rfl ?_
      refine pw_iconst d124_217 ?_
      refine pw_callV3 d124_218 k124_89 T210 hA0 rfl rfl rfl (ct49 (τ := τ) (ρ := ρ) T210 hA0 (by omega) (by omega) (by omega)) (fun r218 h218 q218 => ?_)
      obtain ⟨T218, F218, ez218⟩ := q218
      subst ez218
      have f218 := f210.tr (F218.up (by decide))
      have q218b := ((F218 a0 2 hA0).1 14 (by decide)).1
      refine pw_aload_n d124_221 rfl ?_
      refine pw_iload d124_222 rfl ?_
      refine pw_iload d124_224 rfl ?_
      refine pw_iconst d124_226 ?_
      refine pw_callV3 d124_227 k124_89 T218 hA0 rfl rfl rfl (ct49 (τ := τ) (ρ := ρ) T218 hA0 (by omega) (by omega) (by omega)) (fun r227 h227 q227 => ?_)
      obtain ⟨T227, F227, ez227⟩ := q227
      subst ez227
      have f227 := f218.tr (F227.up (by decide))
      have q227b := ((F227 a0 2 hA0).1 14 (by decide)).1
      refine pw_aload_n d124_230 rfl ?_
      refine pw_dup d124_231 rfl ?_
      refine pw_getI d124_232 g124_67 T227 hA0 rfl rfl (fun u232 vu232 => ?_)
      refine pw_iconst d124_235 ?_
      refine pw_iadd d124_236 ?_
      refine pw_putI d124_237 g124_67 w2_14 T227 hA0 rfl rfl rfl (by omega) (by omega) (fun h237 T237 F237 E237 => ?_)
      have f237 := f227.tr (F237.up (by decide))
      have ec4 : nk_c h237 ρ a0 = nk_c h210 ρ a0 := by unfold nk_c; rw [(F237.aeq hR0_5 (by decide)).trans ((F227.aeq hR0_5 (by decide)).trans (F218.aeq hR0_5 (by decide)))]
      have es4 : pv_aI h237 (ρ a0 12) = pv_aI h210 (ρ a0 12) := (F237.aeq hR0_12 (by decide)).trans ((F227.aeq hR0_12 (by decide)).trans (F218.aeq hR0_12 (by decide)))
      have eh4 : pv_aI h237 (ρ a0 13) = pv_aI h169 (ρ a0 13) := (F237.aeq hR0_13 (by decide)).trans ((F227.aeq hR0_13 (by decide)).trans ((F218.aeq hR0_13 (by decide)).trans ((F210.aeq hR0_13 (by decide)).trans ((F195.aeq hR0_13 (by decide)).trans ((F181.aeq hR0_13 (by decide)).trans (F175.aeq hR0_13 (by decide)))))))
      have cn158 : nk_c h150 ρ a0 = nk_c h ρ a0 := by unfold nk_c; rw [(F150.aeq hR0_5 (by decide)).trans ((F129.aeq hR0_5 (by decide)).trans (F118.aeq hR0_5 (by decide)))]
      have cn169 : nk_c h158 ρ a0 = nk_c h ρ a0 := by unfold nk_c; rw [(F158.aeq hR0_5 (by decide)).trans ((F150.aeq hR0_5 (by decide)).trans ((F129.aeq hR0_5 (by decide)).trans (F118.aeq hR0_5 (by decide))))]
      rw [cn158] at pz158_0
      rw [cn169] at pz169_0
      have b14 : 0 ≤ pv_fI h a0 14 := (hT.fI (k := 14) hA0 rfl rfl).1
      refine pw_bipush d124_240 (by decide) ?_
      refine pw_iload d124_242 rfl ?_
      refine pw_imul d124_244 ?_
      refine pw_iload d124_245 rfl ?_
      refine pw_iadd d124_247 ?_
      exact pw_ireturn d124_248 tt124 ⟨T237, f237, ((10 * z74) + z97), rfl, (by omega), (by omega), (by first | exact hP0 | exact ap_end (c1 := nk_c h195 ρ a0) hP0 f22 (by omega) t32 t57 (by rcases pz38_0 with q | q; (exfalso; omega); exact q.2.2.2.2) (by rcases pz51_0 with q | q; (exfalso; omega); exact q.2.2.2.2) (by rcases pz51_0 with q | q; (exfalso; omega); exact q.2.1) (by omega) (by omega) b14 (pe_at E118) (pe_at E129) (pe_at E150) pz158_0 (by rw [eh4]; exact pz169_0) s1 s2 pz195_0 pz195_1 (by rw [ec4]; exact pz210_0) (by rw [ec4, es4]; exact pz210_1) (by rw [((F237 a0 2 hA0).1 0 (by decide)).1, ((F227 a0 2 hA0).1 0 (by decide)).1, ((F218 a0 2 hA0).1 0 (by decide)).1, ((F210 a0 2 hA0).1 0 (by decide)).1, ((F195 a0 2 hA0).1 0 (by decide)).1, ((F181 a0 2 hA0).1 0 (by decide)).1, ((F175 a0 2 hA0).1 0 (by decide)).1, ((F169 a0 2 hA0).1 0 (by decide)).1, ((F158 a0 2 hA0).1 0 (by decide)).1, ((F150 a0 2 hA0).1 0 (by decide)).1, ((F129 a0 2 hA0).1 0 (by decide)).1, ((F118 a0 2 hA0).1 0 (by decide)).1]) (by rw [((F237 a0 2 hA0).1 1 (by decide)).1, ((F227 a0 2 hA0).1 1 (by decide)).1, ((F218 a0 2 hA0).1 1 (by decide)).1, ((F210 a0 2 hA0).1 1 (by decide)).1, ((F195 a0 2 hA0).1 1 (by decide)).1, ((F181 a0 2 hA0).1 1 (by decide)).1, ((F175 a0 2 hA0).1 1 (by decide)).1, ((F169 a0 2 hA0).1 1 (by decide)).1, ((F158 a0 2 hA0).1 1 (by decide)).1, ((F150 a0 2 hA0).1 1 (by decide)).1, ((F129 a0 2 hA0).1 1 (by decide)).1, ((F118 a0 2 hA0).1 1 (by decide)).1]) (by rw [E237, ((F227 a0 2 hA0).1 14 (by decide)).1, ((F218 a0 2 hA0).1 14 (by decide)).1, ((F210 a0 2 hA0).1 14 (by decide)).1, ((F195 a0 2 hA0).1 14 (by decide)).1, ((F181 a0 2 hA0).1 14 (by decide)).1, ((F175 a0 2 hA0).1 14 (by decide)).1, ((F169 a0 2 hA0).1 14 (by decide)).1, ((F158 a0 2 hA0).1 14 (by decide)).1, ((F150 a0 2 hA0).1 14 (by decide)).1, ((F129 a0 2 hA0).1 14 (by decide)).1, ((F118 a0 2 hA0).1 14 (by decide)).1]) (by rw [((F237 a0 2 hA0).1 15 (by decide)).1, ((F227 a0 2 hA0).1 15 (by decide)).1, ((F218 a0 2 hA0).1 15 (by decide)).1, ((F210 a0 2 hA0).1 15 (by decide)).1, ((F195 a0 2 hA0).1 15 (by decide)).1, ((F181 a0 2 hA0).1 15 (by decide)).1, ((F175 a0 2 hA0).1 15 (by decide)).1, ((F169 a0 2 hA0).1 15 (by decide)).1, ((F158 a0 2 hA0).1 15 (by decide)).1, ((F150 a0 2 hA0).1 15 (by decide)).1, ((F129 a0 2 hA0).1 15 (by decide)).1, ((F118 a0 2 hA0).1 15 (by decide)).1]))⟩
    · refine pw_iconst d124_18 ?_
      exact pw_ireturn d124_19 tt124 ⟨hT, hF0, (-1), rfl, (by omega), (by omega), (by first | exact hP0 | exact ap_end (c1 := nk_c h195 ρ a0) hP0 f22 (by omega) t32 t57 (by rcases pz38_0 with q | q; (exfalso; omega); exact q.2.2.2.2) (by rcases pz51_0 with q | q; (exfalso; omega); exact q.2.2.2.2) (by rcases pz51_0 with q | q; (exfalso; omega); exact q.2.1) (by omega) (by omega) b14 (pe_at E118) (pe_at E129) (pe_at E150) pz158_0 (by rw [eh4]; exact pz169_0) s1 s2 pz195_0 pz195_1 (by rw [ec4]; exact pz210_0) (by rw [ec4, es4]; exact pz210_1) (by rw [((F237 a0 2 hA0).1 0 (by decide)).1, ((F227 a0 2 hA0).1 0 (by decide)).1, ((F218 a0 2 hA0).1 0 (by decide)).1, ((F210 a0 2 hA0).1 0 (by decide)).1, ((F195 a0 2 hA0).1 0 (by decide)).1, ((F181 a0 2 hA0).1 0 (by decide)).1, ((F175 a0 2 hA0).1 0 (by decide)).1, ((F169 a0 2 hA0).1 0 (by decide)).1, ((F158 a0 2 hA0).1 0 (by decide)).1, ((F150 a0 2 hA0).1 0 (by decide)).1, ((F129 a0 2 hA0).1 0 (by decide)).1, ((F118 a0 2 hA0).1 0 (by decide)).1]) (by rw [((F237 a0 2 hA0).1 1 (by decide)).1, ((F227 a0 2 hA0).1 1 (by decide)).1, ((F218 a0 2 hA0).1 1 (by decide)).1, ((F210 a0 2 hA0).1 1 (by decide)).1, ((F195 a0 2 hA0).1 1 (by decide)).1, ((F181 a0 2 hA0).1 1 (by decide)).1, ((F175 a0 2 hA0).1 1 (by decide)).1, ((F169 a0 2 hA0).1 1 (by decide)).1, ((F158 a0 2 hA0).1 1 (by decide)).1, ((F150 a0 2 hA0).1 1 (by decide)).1, ((F129 a0 2 hA0).1 1 (by decide)).1, ((F118 a0 2 hA0).1 1 (by decide)).1]) (by rw [E237, ((F227 a0 2 hA0).1 14 (by decide)).1, ((F218 a0 2 hA0).1 14 (by decide)).1, ((F210 a0 2 hA0).1 14 (by decide)).1, ((F195 a0 2 hA0).1 14 (by decide)).1, ((F181 a0 2 hA0).1 14 (by decide)).1, ((F175 a0 2 hA0).1 14 (by decide)).1, ((F169 a0 2 hA0).1 14 (by decide)).1, ((F158 a0 2 hA0).1 14 (by decide)).1, ((F150 a0 2 hA0).1 14 (by decide)).1, ((F129 a0 2 hA0).1 14 (by decide)).1, ((F118 a0 2 hA0).1 14 (by decide)).1]) (by rw [((F237 a0 2 hA0).1 15 (by decide)).1, ((F227 a0 2 hA0).1 15 (by decide)).1, ((F218 a0 2 hA0).1 15 (by decide)).1, ((F210 a0 2 hA0).1 15 (by decide)).1, ((F195 a0 2 hA0).1 15 (by decide)).1, ((F181 a0 2 hA0).1 15 (by decide)).1, ((F175 a0 2 hA0).1 15 (by decide)).1, ((F169 a0 2 hA0).1 15 (by decide)).1, ((F158 a0 2 hA0).1 15 (by decide)).1, ((F150 a0 2 hA0).1 15 (by decide)).1, ((F129 a0 2 hA0).1 15 (by decide)).1, ((F118 a0 2 hA0).1 15 (by decide)).1]))⟩

abbrev Q131 (τ : Nat → Option Nat) (ρ : Nat → Nat → Nat) (h : pv_H) (a0 : Nat) : Option Value → pv_H → Prop := fun r h' => pv_Ty τ ρ h' ∧ pv_Fr τ [142, 1343, 1407, 1727, 1791] h h' ∧ ∃ z : Int, r = some (.int (pv_I z)) ∧ 0 ≤ z ∧ z ≤ 1 ∧ (nk_k h' ρ a0)
set_option maxHeartbeats 4000000 in
set_option maxRecDepth 20000 in
/-- AngleNet$Flips.takeBack(LAngleNet$Net;)Z -/
theorem ct131 {τ : Nat → Option Nat} {ρ : Nat → Nat → Nat} {K : Nat → Nat} {h : pv_H} {a0 : Nat} (hT : pv_Ty τ ρ h) (hA0 : τ a0 = some 2) (hP0 : nk_k h ρ a0) : pv_C K 131 [.ref a0] h (Q131 τ ρ h a0) := by
  refine pw_entry 2 ?_
  show pv_T K 131 0 (pv_fl [some (.ref a0), none, none]) [] h (Q131 τ ρ h a0)
  have hR0_5 : τ (ρ a0 5) = some 20 := hT.rf (t' := 20) hA0 rfl rfl
  have hR0_12 : τ (ρ a0 12) = some 27 := hT.rf (t' := 27) hA0 rfl rfl
  have hR0_13 : τ (ρ a0 13) = some 28 := hT.rf (t' := 28) hA0 rfl rfl
  have hF0 : pv_Fr τ [142, 1343, 1407, 1727, 1791] h h := pv_Fr.rf
  refine pw_aload_n d131_0 rfl ?_
  refine pw_getI d131_1 g131_67 hT hA0 rfl rfl (fun u1 vu1 => ?_)
  refine pw_if_gt d131_4 rfl (by omega) (fun c4 => ?_) (fun c4 => ?_)
  · refine pw_aload_n d131_9 rfl ?_
    refine pw_dup d131_10 rfl ?_
    refine pw_getI d131_11 g131_67 hT hA0 rfl rfl (fun u11 vu11 => ?_)
    refine pw_iconst d131_14 ?_
    refine pw_isub d131_15 ?_
    refine pw_putI d131_16 g131_67 w2_14 hT hA0 rfl rfl rfl (by omega) (by omega) (fun h16 T16 F16 E16 => ?_)
    have f16 := hF0.tr (F16.up (by decide))
    refine pw_bipush d131_19 (by decide) ?_
    refine pw_aload_n d131_21 rfl ?_
    refine pw_getI d131_22 g131_67 T16 hA0 rfl rfl (fun u22 vu22 => ?_)
    refine pw_imul d131_25 ?_
    refine pw_istore_n d131_26 m131 rfl rfl ?_
    refine pw_aload_n d131_27 rfl ?_
    refine pw_getR d131_28 g131_70 T16 hA0 rfl rfl (fun t28 => ?_)
    have t28 : τ (ρ a0 13) = some 28 := t28
    refine pw_iload_n d131_31 rfl ?_
    refine pw_iconst d131_32 ?_
    refine pw_iadd d131_33 ?_
    refine pw_ialdP (lo := 0) (hi := 17) d131_34 T16 t28 rfl rfl (by omega) (by omega) (by rcases (show (((13 * (pv_fI h16 a0 14)) + 3)).toNat % 13 = 3 by omega) with e9 <;> exact pw_perR e9 rfl) (fun u34 vu34 => ?_)
    refine pw_istore_n d131_35 m131 rfl rfl ?_
    refine pw_aload_n d131_36 rfl ?_
    refine pw_aload_n d131_37 rfl ?_
    refine pw_getR d131_38 g131_93 T16 hA0 rfl rfl (fun t38 => ?_)
    have t38 : τ (ρ a0 5) = some 20 := t38
    refine pw_iconst d131_41 ?_
    refine pw_iload_n d131_42 rfl ?_
    refine pw_imul d131_43 ?_
    refine pw_iconst d131_44 ?_
    refine pw_iadd d131_45 ?_
    refine pw_iald d131_46 T16 t38 rfl rfl (by omega) (by omega) (fun u46 vu46 => ?_)
    refine pw_name (x := (pv_aI h16 (ρ a0 5) (((3 * (pv_aI h16 (ρ a0 13) (((13 * (pv_fI h16 a0 14)) + 3)).toNat)) + 1)).toNat)) (fun z46 ez46 => ?_)
    have hz46 : 0 ≤ z46 ∧ z46 ≤ 9 := by subst ez46; omega
    refine pw_aload_n d131_47 rfl ?_
    refine pw_getR d131_48 g131_93 T16 hA0 rfl rfl (fun t48 => ?_)
    have t48 : τ (ρ a0 5) = some 20 := t48
    refine pw_iconst d131_51 ?_
    refine pw_iload_n d131_52 rfl ?_
    refine pw_imul d131_53 ?_
    refine pw_iconst d131_54 ?_
    refine pw_iadd d131_55 ?_
    refine pw_iald d131_56 T16 t48 rfl rfl (by omega) (by omega) (fun u56 vu56 => ?_)
    refine pw_name (x := (pv_aI h16 (ρ a0 5) (((3 * (pv_aI h16 (ρ a0 13) (((13 * (pv_fI h16 a0 14)) + 3)).toNat)) + 2)).toNat)) (fun z56 ez56 => ?_)
    have hz56 : 0 ≤ z56 ∧ z56 ≤ 9 := by subst ez56; omega
    refine pw_iconst d131_57 ?_
    refine pw_callV3 d131_58 k131_89 T16 hA0 rfl rfl rfl (ct49 (τ := τ) (ρ := ρ) T16 hA0 (by omega) (by omega) (by omega)) (fun r58 h58 q58 => ?_)
    obtain ⟨T58, F58, ez58⟩ := q58
    subst ez58
    have f58 := f16.tr (F58.up (by decide))
    have q58b := ((F58 a0 2 hA0).1 14 (by decide)).1
    have es0 : pv_aI h58 (ρ a0 12) = pv_aI h (ρ a0 12) := (F58.aeq hR0_12 (by decide)).trans (F16.aeq hR0_12 (by decide))
    have ec0 : nk_c h58 ρ a0 = nk_c h ρ a0 := by unfold nk_c; rw [(F58.aeq hR0_5 (by decide)).trans (F16.aeq hR0_5 (by decide))]
    have eh16 : pv_aI h16 (ρ a0 13) = pv_aI h (ρ a0 13) := F16.aeq hR0_13 (by decide)
    have sb0 := hP0.1.1.b (nk_18 hT hA0)
    have sx0 : ∀ j : Nat, j < 100 → -1000 ≤ pv_aI h58 (ρ a0 12) j ∧ pv_aI h58 (ρ a0 12) j ≤ 1000 := by rw [es0]; exact sh_1000 sb0 (by decide) (by decide)
    refine pw_aload_n d131_61 rfl ?_
    refine pw_iload_n d131_62 rfl ?_
    refine pw_callV1 d131_63 k131_81 T58 hA0 rfl rfl rfl (ct126F (τ := τ) (ρ := ρ) T58 hA0 (by omega) (by first | omega | assumption)) (fun r63 h63 q63 => ?_)
    obtain ⟨T63, F63, ez63, pz63_0⟩ := q63
    subst ez63
    have f63 := f58.tr (F63.up (by decide))
    have q63b := ((F63 a0 2 hA0).1 14 (by decide)).1
    have s1 : ∀ p q : Nat, p < 10 → q < 10 → pv_aI h63 (ρ a0 12) (10 * p + q) = pv_aI h (ρ a0 12) (10 * p + q) - pf_cn (nk_c h ρ a0) ((pv_aI h (ρ a0 13) ((13 * pv_fI h16 a0 14) + 3).toNat)).toNat p q := by rw [← es0, ← ec0, ← eh16]; exact pz63_0
    have sb1 := sh_b sb0 (Or.inl s1)
    have ec1 : nk_c h63 ρ a0 = nk_c h ρ a0 := by rw [← ec0]; unfold nk_c; rw [F63.aeq hR0_5 (by decide)]
    have sx1 := sh_1000 sb1 (by decide) (by decide)
    have eh63 : pv_aI h63 (ρ a0 13) = pv_aI h (ρ a0 13) := (F63.aeq hR0_13 (by decide)).trans ((F58.aeq hR0_13 (by decide)).trans (F16.aeq hR0_13 (by decide)))
    refine pw_aload_n d131_66 rfl ?_
    refine pw_aload_n d131_67 rfl ?_
    refine pw_getR d131_68 g131_70 T63 hA0 rfl rfl (fun t68 => ?_)
    have t68 : τ (ρ a0 13) = some 28 := t68
    refine pw_iload_n d131_71 rfl ?_
    refine pw_bipush d131_72 (by decide) ?_
    refine pw_iadd d131_74 ?_
    refine pw_ialdP (lo := 0) (hi := 17) d131_75 T63 t68 rfl rfl (by omega) (by omega) (by rcases (show (((13 * (pv_fI h16 a0 14)) + 8)).toNat % 13 = 8 by omega) with e9 <;> exact pw_perR e9 rfl) (fun u75 vu75 => ?_)
    refine pw_callV1 d131_76 k131_81 T63 hA0 rfl rfl rfl (ct126F (τ := τ) (ρ := ρ) T63 hA0 (by omega) (by first | omega | assumption)) (fun r76 h76 q76 => ?_)
    obtain ⟨T76, F76, ez76, pz76_0⟩ := q76
    subst ez76
    have f76 := f63.tr (F76.up (by decide))
    have q76b := ((F76 a0 2 hA0).1 14 (by decide)).1
    have s2 : ∀ p q : Nat, p < 10 → q < 10 → pv_aI h76 (ρ a0 12) (10 * p + q) = pv_aI h63 (ρ a0 12) (10 * p + q) - pf_cn (nk_c h ρ a0) ((pv_aI h (ρ a0 13) ((13 * pv_fI h16 a0 14) + 8).toNat)).toNat p q := by rw [← ec1, ← eh63]; exact pz76_0
    have sb2 := sh_b sb1 (Or.inl s2)
    have ec2 : nk_c h76 ρ a0 = nk_c h ρ a0 := by rw [← ec1]; unfold nk_c; rw [F76.aeq hR0_5 (by decide)]
    have sx2 := sh_1000 sb2 (by decide) (by decide)
    have eh76 : pv_aI h76 (ρ a0 13) = pv_aI h (ρ a0 13) := (F76.aeq hR0_13 (by decide)).trans ((F63.aeq hR0_13 (by decide)).trans ((F58.aeq hR0_13 (by decide)).trans (F16.aeq hR0_13 (by decide))))
    refine pw_aload_n d131_79 rfl ?_
    refine pw_iload_n d131_80 rfl ?_
    refine pw_iconst d131_81 ?_
    refine pw_iadd d131_82 ?_
    refine pw_callS2 d131_83 k131_105 rfl rfl (ct132 (τ := τ) (ρ := ρ) T76 hA0 (by omega) (by first | assumption | omega) (by first | assumption | omega)) (fun r83 h83 q83 => ?_)
    obtain ⟨T83, F83, ez83, pz83_0, pz83_1⟩ := q83
    subst ez83
    have f83 := f76.tr (F83.up (by decide))
    have q83b := ((F83 a0 2 hA0).1 14 (by decide)).1
    rw [eh76, ec2] at pz83_0
    rw [eh76] at pz83_1
    have sb3 := sh_b sb2 (Or.inr pz83_1)
    have sx3 := sh_1000 sb3 (by decide) (by decide)
    have eh83 : pv_aI h83 (ρ a0 13) = pv_aI h (ρ a0 13) := (F83.aeq hR0_13 (by decide)).trans ((F76.aeq hR0_13 (by decide)).trans ((F63.aeq hR0_13 (by decide)).trans ((F58.aeq hR0_13 (by decide)).trans (F16.aeq hR0_13 (by decide)))))
    refine pw_aload_n d131_86 rfl ?_
    refine pw_iload_n d131_87 rfl ?_
    refine pw_bipush d131_88 (by decide) ?_
    refine pw_iadd d131_90 ?_
    refine pw_callS2 d131_91 k131_105 rfl rfl (ct132 (τ := τ) (ρ := ρ) T83 hA0 (by omega) (by first | assumption | omega) (by first | assumption | omega)) (fun r91 h91 q91 => ?_)
    obtain ⟨T91, F91, ez91, pz91_0, pz91_1⟩ := q91
    subst ez91
    have f91 := f83.tr (F91.up (by decide))
    have q91b := ((F91 a0 2 hA0).1 14 (by decide)).1
    rw [eh83] at pz91_0
    rw [eh83] at pz91_1
    refine pw_aload_n d131_94 rfl ?_
    refine pw_aload_n d131_95 rfl ?_
    refine pw_getR d131_96 g131_70 T91 hA0 rfl rfl (fun t96 => ?_)
    have t96 : τ (ρ a0 13) = some 28 := t96
    refine pw_iload_n d131_99 rfl ?_
    refine pw_ialdP (lo := 0) (hi := 9) d131_100 T91 t96 rfl rfl (by omega) (by omega) (by rcases (show ((13 * (pv_fI h16 a0 14))).toNat % 13 = 0 by omega) with e9 <;> exact pw_perR e9 rfl) (fun u100 vu100 => ?_)
    refine pw_aload_n d131_101 rfl ?_
    refine pw_getR d131_102 g131_70 T91 hA0 rfl rfl (fun t102 => ?_)
    have t102 : τ (ρ a0 13) = some 28 := t102
    refine pw_iload_n d131_105 rfl ?_
    refine pw_iconst d131_106 ?_
    refine pw_iadd d131_107 ?_
    refine pw_ialdP (lo := 0) (hi := 9) d131_108 T91 t102 rfl rfl (by omega) (by omega) (by rcases (show (((13 * (pv_fI h16 a0 14)) + 1)).toNat % 13 = 1 by omega) with e9 <;> exact pw_perR e9 rfl) (fun u108 vu108 => ?_)
    refine pw_aload_n d131_109 rfl ?_
    refine pw_getR d131_110 g131_70 T91 hA0 rfl rfl (fun t110 => ?_)
    have t110 : τ (ρ a0 13) = some 28 := t110
    refine pw_iload_n d131_113 rfl ?_
    refine pw_iconst d131_114 ?_
    refine pw_iadd d131_115 ?_
    refine pw_ialdP (lo := 0) (hi := 360) d131_116 T91 t110 rfl rfl (by omega) (by omega) (by rcases (show (((13 * (pv_fI h16 a0 14)) + 2)).toNat % 13 = 2 by omega) with e9 <;> exact pw_perR e9 rfl) (fun u116 vu116 => ?_)
    refine pw_callV3 d131_117 k131_89 T91 hA0 rfl rfl rfl (ct49 (τ := τ) (ρ := ρ) T91 hA0 (by omega) (by omega) (by omega)) (fun r117 h117 q117 => ?_)
    obtain ⟨T117, F117, ez117⟩ := q117
    subst ez117
    have f117 := f91.tr (F117.up (by decide))
    have q117b := ((F117 a0 2 hA0).1 14 (by decide)).1
    have ec4 : nk_c h117 ρ a0 = nk_c h91 ρ a0 := by unfold nk_c; rw [F117.aeq hR0_5 (by decide)]
    have es4 : pv_aI h117 (ρ a0 12) = pv_aI h91 (ρ a0 12) := F117.aeq hR0_12 (by decide)
    have eh4 : pv_aI h117 (ρ a0 13) = pv_aI h (ρ a0 13) := (F117.aeq hR0_13 (by decide)).trans ((F91.aeq hR0_13 (by decide)).trans ((F83.aeq hR0_13 (by decide)).trans ((F76.aeq hR0_13 (by decide)).trans ((F63.aeq hR0_13 (by decide)).trans ((F58.aeq hR0_13 (by decide)).trans (F16.aeq hR0_13 (by decide)))))))
    refine pw_iconst d131_120 ?_
    exact pw_zreturn d131_121 tt131 (by omega) ⟨T117, f117, 1, rfl, (by omega), (by omega), (by first | exact hP0 | exact tb_end (c1 := nk_c h83 ρ a0) hP0 (by omega) (by omega) rfl rfl s1 s2 pz83_0 pz83_1 (by rw [ec4]; exact pz91_0) (by rw [ec4, es4]; exact pz91_1) (by rw [((F117 a0 2 hA0).1 0 (by decide)).1, ((F91 a0 2 hA0).1 0 (by decide)).1, ((F83 a0 2 hA0).1 0 (by decide)).1, ((F76 a0 2 hA0).1 0 (by decide)).1, ((F63 a0 2 hA0).1 0 (by decide)).1, ((F58 a0 2 hA0).1 0 (by decide)).1, ((F16 a0 2 hA0).1 0 (by decide)).1]) (by rw [((F117 a0 2 hA0).1 1 (by decide)).1, ((F91 a0 2 hA0).1 1 (by decide)).1, ((F83 a0 2 hA0).1 1 (by decide)).1, ((F76 a0 2 hA0).1 1 (by decide)).1, ((F63 a0 2 hA0).1 1 (by decide)).1, ((F58 a0 2 hA0).1 1 (by decide)).1, ((F16 a0 2 hA0).1 1 (by decide)).1]) (by rw [((F117 a0 2 hA0).1 14 (by decide)).1, ((F91 a0 2 hA0).1 14 (by decide)).1, ((F83 a0 2 hA0).1 14 (by decide)).1, ((F76 a0 2 hA0).1 14 (by decide)).1, ((F63 a0 2 hA0).1 14 (by decide)).1, ((F58 a0 2 hA0).1 14 (by decide)).1]) (by rw [((F117 a0 2 hA0).1 15 (by decide)).1, ((F91 a0 2 hA0).1 15 (by decide)).1, ((F83 a0 2 hA0).1 15 (by decide)).1, ((F76 a0 2 hA0).1 15 (by decide)).1, ((F63 a0 2 hA0).1 15 (by decide)).1, ((F58 a0 2 hA0).1 15 (by decide)).1, ((F16 a0 2 hA0).1 15 (by decide)).1]) eh4)⟩
  · refine pw_iconst d131_7 ?_
    exact pw_zreturn d131_8 tt131 (by omega) ⟨hT, hF0, 0, rfl, (by omega), (by omega), (by first | exact hP0 | exact tb_end (c1 := nk_c h83 ρ a0) hP0 (by omega) (by omega) rfl rfl s1 s2 pz83_0 pz83_1 (by rw [ec4]; exact pz91_0) (by rw [ec4, es4]; exact pz91_1) (by rw [((F117 a0 2 hA0).1 0 (by decide)).1, ((F91 a0 2 hA0).1 0 (by decide)).1, ((F83 a0 2 hA0).1 0 (by decide)).1, ((F76 a0 2 hA0).1 0 (by decide)).1, ((F63 a0 2 hA0).1 0 (by decide)).1, ((F58 a0 2 hA0).1 0 (by decide)).1, ((F16 a0 2 hA0).1 0 (by decide)).1]) (by rw [((F117 a0 2 hA0).1 1 (by decide)).1, ((F91 a0 2 hA0).1 1 (by decide)).1, ((F83 a0 2 hA0).1 1 (by decide)).1, ((F76 a0 2 hA0).1 1 (by decide)).1, ((F63 a0 2 hA0).1 1 (by decide)).1, ((F58 a0 2 hA0).1 1 (by decide)).1, ((F16 a0 2 hA0).1 1 (by decide)).1]) (by rw [((F117 a0 2 hA0).1 14 (by decide)).1, ((F91 a0 2 hA0).1 14 (by decide)).1, ((F83 a0 2 hA0).1 14 (by decide)).1, ((F76 a0 2 hA0).1 14 (by decide)).1, ((F63 a0 2 hA0).1 14 (by decide)).1, ((F58 a0 2 hA0).1 14 (by decide)).1]) (by rw [((F117 a0 2 hA0).1 15 (by decide)).1, ((F91 a0 2 hA0).1 15 (by decide)).1, ((F83 a0 2 hA0).1 15 (by decide)).1, ((F76 a0 2 hA0).1 15 (by decide)).1, ((F63 a0 2 hA0).1 15 (by decide)).1, ((F58 a0 2 hA0).1 15 (by decide)).1, ((F16 a0 2 hA0).1 15 (by decide)).1]) eh4)⟩

abbrev Q134 (τ : Nat → Option Nat) (ρ : Nat → Nat → Nat) (h : pv_H) (a0 : Nat) : Option Value → pv_H → Prop := fun r h' => pv_Ty τ ρ h' ∧ pv_Fr τ [142, 1343, 1407, 1727, 1791, 1855] h h' ∧ ∃ z : Int, r = some (.int (pv_I z)) ∧ 0 ≤ z ∧ z ≤ 1 ∧ (nk_k h' ρ a0)
set_option maxHeartbeats 4000000 in
set_option maxRecDepth 20000 in
/-- AngleNet$Flips.applyAgain(LAngleNet$Net;)Z -/
theorem ct134 {τ : Nat → Option Nat} {ρ : Nat → Nat → Nat} {K : Nat → Nat} {h : pv_H} {a0 : Nat} (hT : pv_Ty τ ρ h) (hA0 : τ a0 = some 2) (hP0 : nk_k h ρ a0) : pv_C K 134 [.ref a0] h (Q134 τ ρ h a0) := by
  refine pw_entry 1 ?_
  show pv_T K 134 0 (pv_fl [some (.ref a0), none]) [] h (Q134 τ ρ h a0)
  have hR0_13 : τ (ρ a0 13) = some 28 := hT.rf (t' := 28) hA0 rfl rfl
  have hF0 : pv_Fr τ [142, 1343, 1407, 1727, 1791, 1855] h h := pv_Fr.rf
  refine pw_aload_n d134_0 rfl ?_
  refine pw_getI d134_1 g134_67 hT hA0 rfl rfl (fun u1 vu1 => ?_)
  refine pw_aload_n d134_4 rfl ?_
  refine pw_getI d134_5 g134_109 hT hA0 rfl rfl (fun u5 vu5 => ?_)
  refine pw_icmp_lt d134_8 rfl (by omega) (by omega) (fun c8 => ?_) (fun c8 => ?_)
  · have b14 : 0 ≤ pv_fI h a0 14 := (hT.fI (k := 14) hA0 rfl rfl).1
    have ne13 := hP0.2 (pv_fI h a0 14).toNat (by omega)
    rw [show 13 * (pv_fI h a0 14).toNat + 1 = ((13 * (pv_fI h a0 14)) + 1).toNat by omega, show 13 * (pv_fI h a0 14).toNat = (13 * (pv_fI h a0 14)).toNat by omega] at ne13
    refine pw_bipush d134_13 (by decide) ?_
    refine pw_aload_n d134_15 rfl ?_
    refine pw_getI d134_16 g134_67 hT hA0 rfl rfl (fun u16 vu16 => ?_)
    refine pw_imul d134_19 ?_
    refine pw_istore_n d134_20 m134 rfl rfl ?_
    refine pw_aload_n d134_21 rfl ?_
    refine pw_aload_n d134_22 rfl ?_
    refine pw_getR d134_23 g134_70 hT hA0 rfl rfl (fun t23 => ?_)
    have t23 : τ (ρ a0 13) = some 28 := t23
    refine pw_iload_n d134_26 rfl ?_
    refine pw_ialdP (lo := 0) (hi := 9) d134_27 hT t23 rfl rfl (by omega) (by omega) (by rcases (show ((13 * (pv_fI h a0 14))).toNat % 13 = 0 by omega) with e9 <;> exact pw_perR e9 rfl) (fun u27 vu27 => ?_)
    refine pw_aload_n d134_28 rfl ?_
    refine pw_getR d134_29 g134_70 hT hA0 rfl rfl (fun t29 => ?_)
    have t29 : τ (ρ a0 13) = some 28 := t29
    refine pw_iload_n d134_32 rfl ?_
    refine pw_iconst d134_33 ?_
    refine pw_iadd d134_34 ?_
    refine pw_ialdP (lo := 0) (hi := 9) d134_35 hT t29 rfl rfl (by omega) (by omega) (by rcases (show (((13 * (pv_fI h a0 14)) + 1)).toNat % 13 = 1 by omega) with e9 <;> exact pw_perR e9 rfl) (fun u35 vu35 => ?_)
    refine pw_callS3 d134_36 k134_112 rfl rfl (ct124 (τ := τ) (ρ := ρ) hT hA0 (by omega) (by omega) (by first | assumption | omega) (by first | assumption | omega)) (fun r36 h36 q36 => ?_)
    obtain ⟨T36, F36, z36, ez36, lz36, uz36, pz36_0⟩ := q36
    subst ez36
    have f36 := hF0.tr (F36.up (by decide))
    have q36b := ((F36 a0 2 hA0).1 15 (by decide)).1
    refine pw_iconst d134_39 ?_
    refine pw_icmp_eq d134_40 rfl (by omega) (by omega) (fun c40 => ?_) (fun c40 => ?_)
    · refine pw_iconst d134_47 ?_
      exact pw_zreturn d134_48 tt134 (by omega) ⟨T36, f36, 0, rfl, (by omega), (by omega), (by first | exact hP0 | assumption)⟩
    · refine pw_iconst d134_43 ?_
      refine pw_goto d134_44 rfl ?_
      exact pw_zreturn d134_48 tt134 (by omega) ⟨T36, f36, 1, rfl, (by omega), (by omega), (by first | exact hP0 | assumption)⟩
  · refine pw_iconst d134_11 ?_
    exact pw_zreturn d134_12 tt134 (by omega) ⟨hT, hF0, 0, rfl, (by omega), (by omega), (by first | exact hP0 | assumption)⟩
