abbrev Q296 (τ : Nat → Option Nat) (ρ : Nat → Nat → Nat) (h : pv_H) (a0 : Nat) (x1 : Int) : Option Value → pv_H → Prop := fun r h' => pv_Ty τ ρ h' ∧ pv_Fr τ [3199] h h' ∧ ∃ z : Int, r = some (.long (pv_J z)) ∧ (-9223372036854775808) ≤ z ∧ z ≤ 9223372036854775807 ∧ (∀ f : Nat, pm_M (pq_R h (ρ a0 19)) 1 0 (x1).toNat f → z ≠ 0)
set_option maxHeartbeats 4000000 in
set_option maxRecDepth 20000 in
/-- AngleNetModel.worth(I)J -/
theorem ct296 {τ : Nat → Option Nat} {ρ : Nat → Nat → Nat} {K : Nat → Nat} {h : pv_H} {a0 : Nat} {x1 : Int} (hT : pv_Ty τ ρ h) (hA0 : τ a0 = some 7) (hX1 : 0 ≤ x1 ∧ x1 ≤ 10) : pv_C K 296 [.ref a0, .int (pv_I x1)] h (Q296 τ ρ h a0 x1) := by
  refine pw_entry 8 ?_
  show pv_T K 296 0 (pv_fl [some (.ref a0), some (.int (pv_I x1)), none, none, none, none, none, none, none, none]) [] h (Q296 τ ρ h a0 x1)
  have hR0_19 : τ (ρ a0 19) = some 49 := hT.rf (t' := 49) hA0 rfl rfl
  have hF0 : pv_Fr τ [3199] h h := pv_Fr.rf
  have L8 : ∀ (nn : Nat) (h_8 : pv_H) (xL2_8 xL4_8 xL6_8 : Int) (o3_8 o5_8 o7_8 o8_8 o9_8 : Option Value), (pv_Ty τ ρ h_8) → (pv_Fr τ [3199] h h_8) → (0 ≤ x1 ∧ x1 ≤ 10) → ((-9223372036854775808) ≤ xL2_8 ∧ xL2_8 ≤ 9223372036854775807) → ((-1) ≤ xL4_8 ∧ xL4_8 ≤ 1) → (0 ≤ xL6_8 ∧ xL6_8 ≤ 10) → (∀ f : Nat, pm_M (pq_R h (ρ a0 19)) 1 0 (x1).toNat f → pq_8 (pq_R h (ρ a0 19)) (x1).toNat f (xL6_8).toNat xL2_8 xL4_8 (pq_R h_8 (ρ a0 19))) → (xL2_8 ≠ 0) → 10 - xL6_8 < nn → pv_T K 296 8 (pv_fl [some (.ref a0), some (.int (pv_I x1)), some (.long (pv_J xL2_8)), o3_8, some (.long (pv_J xL4_8)), o5_8, some (.int (pv_I xL6_8)), o7_8, o8_8, o9_8]) [] h_8 (Q296 τ ρ h a0 x1) := by
    intro nn
    induction nn with
    | zero => intro h_8 xL2_8 xL4_8 xL6_8 o3_8 o5_8 o7_8 o8_8 o9_8 hT_8 hF_8 rL1_8 rL2_8 rL4_8 rL6_8 i0_8 i1_8 hm; exfalso; omega
    | succ nn ih8 =>
      intro h_8 xL2_8 xL4_8 xL6_8 o3_8 o5_8 o7_8 o8_8 o9_8 hT_8 hF_8 rL1_8 rL2_8 rL4_8 rL6_8 i0_8 i1_8 hm8
      have L83 : ∀ (nn : Nat) (h_83 : pv_H) (xL4_83 xL8_83 : Int) (o3_83 o5_83 o7_83 o9_83 : Option Value), (pv_Ty τ ρ h_83) → (pv_Fr τ [3199] h h_83) → (1 ≤ x1 ∧ x1 ≤ 10) → ((-9223372036854775808) ≤ xL2_8 ∧ xL2_8 ≤ 9223372036854775807) → ((-1) ≤ xL4_83 ∧ xL4_83 ≤ 1) → (0 ≤ xL6_8 ∧ xL6_8 ≤ 9) → (1 ≤ xL8_83 ∧ xL8_83 ≤ 10) → (∀ f : Nat, pm_M (pq_R h (ρ a0 19)) 1 0 (x1).toNat f → pq_J (pq_R h (ρ a0 19)) (x1).toNat f (xL6_8).toNat (xL8_83).toNat (xL6_8 + 1).toNat xL2_8 xL4_83 (pq_R h_83 (ρ a0 19))) → (xL2_8 ≠ 0) → (pv_aJ h_83 (ρ a0 19) (10 * xL6_8 + xL6_8).toNat ≠ 0) → (xL6_8 < x1) → (xL6_8 + 1 ≤ xL8_83) → 10 - xL8_83 < nn → pv_T K 296 83 (pv_fl [some (.ref a0), some (.int (pv_I x1)), some (.long (pv_J xL2_8)), o3_83, some (.long (pv_J xL4_83)), o5_83, some (.int (pv_I xL6_8)), o7_83, some (.int (pv_I xL8_83)), o9_83]) [] h_83 (Q296 τ ρ h a0 x1) := by
        intro nn
        induction nn with
        | zero => intro h_83 xL4_83 xL8_83 o3_83 o5_83 o7_83 o9_83 hT_83 hF_83 rL1_83 rL2_83 rL4_83 rL6_83 rL8_83 i0_83 i1_83 i2_83 i3_83 i4_83 hm; exfalso; omega
        | succ nn ih83 =>
          intro h_83 xL4_83 xL8_83 o3_83 o5_83 o7_83 o9_83 hT_83 hF_83 rL1_83 rL2_83 rL4_83 rL6_83 rL8_83 i0_83 i1_83 i2_83 i3_83 i4_83 hm83
          have L95 : ∀ (nn : Nat) (h_95 : pv_H) (xL9_95 : Int) (o3_95 o5_95 o7_95 : Option Value), (pv_Ty τ ρ h_95) → (pv_Fr τ [3199] h h_95) → (2 ≤ x1 ∧ x1 ≤ 10) → ((-9223372036854775808) ≤ xL2_8 ∧ xL2_8 ≤ 9223372036854775807) → ((-1) ≤ xL4_83 ∧ xL4_83 ≤ 1) → (0 ≤ xL6_8 ∧ xL6_8 ≤ 9) → (1 ≤ xL8_83 ∧ xL8_83 ≤ 9) → (1 ≤ xL9_95 ∧ xL9_95 ≤ 10) → (∀ f : Nat, pm_M (pq_R h (ρ a0 19)) 1 0 (x1).toNat f → pq_J (pq_R h (ρ a0 19)) (x1).toNat f (xL6_8).toNat (xL8_83).toNat (xL9_95).toNat xL2_8 xL4_83 (pq_R h_95 (ρ a0 19))) → (xL2_8 ≠ 0) → (pv_aJ h_95 (ρ a0 19) (10 * xL6_8 + xL6_8).toNat ≠ 0) → (xL8_83 < x1) → (xL6_8 + 1 ≤ xL9_95) → 10 - xL9_95 < nn → pv_T K 296 95 (pv_fl [some (.ref a0), some (.int (pv_I x1)), some (.long (pv_J xL2_8)), o3_95, some (.long (pv_J xL4_83)), o5_95, some (.int (pv_I xL6_8)), o7_95, some (.int (pv_I xL8_83)), some (.int (pv_I xL9_95))]) [] h_95 (Q296 τ ρ h a0 x1) := by
            intro nn
            induction nn with
            | zero => intro h_95 xL9_95 o3_95 o5_95 o7_95 hT_95 hF_95 rL1_95 rL2_95 rL4_95 rL6_95 rL8_95 rL9_95 i0_95 i1_95 i2_95 i3_95 i4_95 hm; exfalso; omega
            | succ nn ih95 =>
              intro h_95 xL9_95 o3_95 o5_95 o7_95 hT_95 hF_95 rL1_95 rL2_95 rL4_95 rL6_95 rL8_95 rL9_95 i0_95 i1_95 i2_95 i3_95 i4_95 hm95
              refine pw_iload d296_95 rfl ?_
              refine pw_iload_n d296_97 rfl ?_
              refine pw_icmp_ge d296_98 rfl (by omega) (by omega) (fun c98 => ?_) (fun c98 => ?_)
              · refine pw_iinc d296_177 m296 rfl rfl rfl ?_
                refine pw_goto d296_180 rfl ?_
                exact ih83 h_95 (xL4_83) ((xL8_83 + 1)) _ _ _ _ hT_95 hF_95 (by omega) (by omega) (by omega) (by omega) (by omega) (by first | (intro f hf; exact (i0_77 f hf).J.at (by omega) (by omega)) | exact wt_row i0_95 (by omega) (by omega) (by omega)) (by omega) (by assumption) (by omega) (by omega) (by omega)
              · refine pw_aload_n d296_101 rfl ?_
                refine pw_getR d296_102 g296_43 hT_95 hA0 rfl rfl (fun t102 => ?_)
                have t102 : τ (ρ a0 19) = some 49 := t102
                refine pw_bipush d296_105 (by decide) ?_
                refine pw_iload d296_107 rfl ?_
                refine pw_imul d296_109 ?_
                refine pw_iload d296_110 rfl ?_
                refine pw_iadd d296_112 ?_
                refine pw_aload_n d296_113 rfl ?_
                refine pw_getR d296_114 g296_43 hT_95 hA0 rfl rfl (fun t114 => ?_)
                have t114 : τ (ρ a0 19) = some 49 := t114
                refine pw_bipush d296_117 (by decide) ?_
                refine pw_iload d296_119 rfl ?_
                refine pw_imul d296_121 ?_
                refine pw_iload d296_122 rfl ?_
                refine pw_iadd d296_124 ?_
                refine pw_lald d296_125 hT_95 t114 rfl rfl (by omega) (by omega) (fun u125 => ?_)
                refine pw_aload_n d296_126 rfl ?_
                refine pw_getR d296_127 g296_43 hT_95 hA0 rfl rfl (fun t127 => ?_)
                have t127 : τ (ρ a0 19) = some 49 := t127
                refine pw_bipush d296_130 (by decide) ?_
                refine pw_iload d296_132 rfl ?_
                refine pw_imul d296_134 ?_
                refine pw_iload d296_135 rfl ?_
                refine pw_iadd d296_137 ?_
                refine pw_lald d296_138 hT_95 t127 rfl rfl (by omega) (by omega) (fun u138 => ?_)
                refine pw_lmul d296_139 ?_
                refine pw_anyl (fun z139 hz139 ez139 => ?_)
                refine pw_aload_n d296_140 rfl ?_
                refine pw_getR d296_141 g296_43 hT_95 hA0 rfl rfl (fun t141 => ?_)
                have t141 : τ (ρ a0 19) = some 49 := t141
                refine pw_bipush d296_144 (by decide) ?_
                refine pw_iload d296_146 rfl ?_
                refine pw_imul d296_148 ?_
                refine pw_iload d296_149 rfl ?_
                refine pw_iadd d296_151 ?_
                refine pw_lald d296_152 hT_95 t141 rfl rfl (by omega) (by omega) (fun u152 => ?_)
                refine pw_aload_n d296_153 rfl ?_
                refine pw_getR d296_154 g296_43 hT_95 hA0 rfl rfl (fun t154 => ?_)
                have t154 : τ (ρ a0 19) = some 49 := t154
                refine pw_bipush d296_157 (by decide) ?_
                refine pw_iload d296_159 rfl ?_
                refine pw_imul d296_161 ?_
                refine pw_iload d296_162 rfl ?_
                refine pw_iadd d296_164 ?_
                refine pw_lald d296_165 hT_95 t154 rfl rfl (by omega) (by omega) (fun u165 => ?_)
                refine pw_lmul d296_166 ?_
                refine pw_anyl (fun z166 hz166 ez166 => ?_)
                refine pw_lsub d296_167 ?_
                refine pw_lload_n d296_168 rfl ?_
                refine pw_ldivU d296_169 (by omega) (by omega) (fun z169 hz169 ez169 => ?_)
                refine pw_last d296_170 hT_95 t154 rfl rfl rfl (by omega) (by omega) (by omega) (fun h170 T170 F170 E170 => ?_)
                have f170 := hF_95.tr (F170.up (by decide))
                refine pw_iinc d296_171 m296 rfl rfl rfl ?_
                refine pw_goto d296_174 rfl ?_
                exact ih95 h170 ((xL9_95 + 1)) _ _ _ T170 f170 (by omega) (by omega) (by omega) (by omega) (by omega) (by omega) (by first | assumption | exact wt_cell i0_95 (by omega) (by omega) (by omega) (by omega) (by omega) (by omega) hz139 hz166 hz169 ez139 ez166 ez169 (pe_at E170)) (by omega) (by first | assumption | exact wt_keep (pe_at E170) (by omega) i2_95) (by omega) (by omega) (by omega)
          refine pw_iload d296_83 rfl ?_
          refine pw_iload_n d296_85 rfl ?_
          refine pw_icmp_ge d296_86 rfl (by omega) (by omega) (fun c86 => ?_) (fun c86 => ?_)
          · refine pw_aload_n d296_183 rfl ?_
            refine pw_getR d296_184 g296_43 hT_83 hA0 rfl rfl (fun t184 => ?_)
            have t184 : τ (ρ a0 19) = some 49 := t184
            refine pw_bipush d296_187 (by decide) ?_
            refine pw_iload d296_189 rfl ?_
            refine pw_imul d296_191 ?_
            refine pw_iload d296_192 rfl ?_
            refine pw_iadd d296_194 ?_
            refine pw_lald d296_195 hT_83 t184 rfl rfl (by omega) (by omega) (fun u195 => ?_)
            refine pw_lstore_n d296_196 m296 rfl rfl ?_
            refine pw_iinc d296_197 m296 rfl rfl rfl ?_
            refine pw_goto d296_200 rfl ?_
            exact ih8 h_83 ((pv_aJ h_83 (ρ a0 19) (((10 * xL6_8) + xL6_8)).toNat)) (xL4_83) ((xL6_8 + 1)) _ _ _ _ _ hT_83 hF_83 (by omega) (by omega) (by omega) (by omega) (by first | (intro f hf; exact pq_8.start hf) | exact wt_done i0_83 (by omega) (by omega) (by omega)) (by first | omega | assumption) (by omega)
          · refine pw_iload d296_89 rfl ?_
            refine pw_iconst d296_91 ?_
            refine pw_iadd d296_92 ?_
            refine pw_istore d296_93 m296 rfl rfl ?_
            exact L95 _ h_83 ((xL6_8 + 1)) _ _ _ hT_83 hF_83 (by omega) (by omega) (by omega) (by omega) (by omega) (by omega) (by first | assumption | exact wt_cell i0_95 (by omega) (by omega) (by omega) (by omega) (by omega) (by omega) hz139 hz166 hz169 ez139 ez166 ez169 (pe_at E170)) (by omega) (by first | assumption | exact wt_keep (pe_at E170) (by omega) i2_95) (by omega) (by omega) (pv_mu _)
      have J77 : ∀ (h_77 : pv_H) (xL4_77 : Int) (o3_77 o5_77 o7_77 o8_77 o9_77 : Option Value), (pv_Ty τ ρ h_77) → (pv_Fr τ [3199] h h_77) → (1 ≤ x1 ∧ x1 ≤ 10) → ((-9223372036854775808) ≤ xL2_8 ∧ xL2_8 ≤ 9223372036854775807) → ((-1) ≤ xL4_77 ∧ xL4_77 ≤ 1) → (0 ≤ xL6_8 ∧ xL6_8 ≤ 9) → (∀ f : Nat, pm_M (pq_R h (ρ a0 19)) 1 0 (x1).toNat f → pq_8 (pq_R h (ρ a0 19)) (x1).toNat f (xL6_8).toNat xL2_8 xL4_77 (pq_R h_77 (ρ a0 19))) → (xL2_8 ≠ 0) → (pv_aJ h_77 (ρ a0 19) (10 * xL6_8 + xL6_8).toNat ≠ 0) → (xL6_8 < x1) → pv_T K 296 77 (pv_fl [some (.ref a0), some (.int (pv_I x1)), some (.long (pv_J xL2_8)), o3_77, some (.long (pv_J xL4_77)), o5_77, some (.int (pv_I xL6_8)), o7_77, o8_77, o9_77]) [] h_77 (Q296 τ ρ h a0 x1) := by
        intro h_77 xL4_77 o3_77 o5_77 o7_77 o8_77 o9_77 hT_77 hF_77 rL1_77 rL2_77 rL4_77 rL6_77 i0_77 i1_77 i2_77 i3_77
        refine pw_iload d296_77 rfl ?_
        refine pw_iconst d296_79 ?_
        refine pw_iadd d296_80 ?_
        refine pw_istore d296_81 m296 rfl rfl ?_
        exact L83 _ h_77 (xL4_77) ((xL6_8 + 1)) _ _ _ _ hT_77 hF_77 (by omega) (by omega) (by omega) (by omega) (by omega) (by first | (intro f hf; exact (i0_77 f hf).J.at (by omega) (by omega)) | exact wt_row i0_95 (by omega) (by omega) (by omega)) (by omega) (by assumption) (by omega) (by omega) (pv_mu _)
      have J48 : ∀ (h_48 : pv_H) (xL7_48 : Int) (o3_48 o5_48 o8_48 o9_48 : Option Value), (pv_Ty τ ρ h_48) → (pv_Fr τ [3199] h h_48) → (1 ≤ x1 ∧ x1 ≤ 10) → ((-9223372036854775808) ≤ xL2_8 ∧ xL2_8 ≤ 9223372036854775807) → ((-1) ≤ xL4_8 ∧ xL4_8 ≤ 1) → (0 ≤ xL6_8 ∧ xL6_8 ≤ 9) → (0 ≤ xL7_48 ∧ xL7_48 ≤ 10) → (∀ f : Nat, pm_M (pq_R h (ρ a0 19)) 1 0 (x1).toNat f → pq_8 (pq_R h (ρ a0 19)) (x1).toNat f (xL6_8).toNat xL2_8 xL4_8 (pq_R h_48 (ρ a0 19))) → (xL2_8 ≠ 0) → (∀ f : Nat, pm_M (pq_R h (ρ a0 19)) 1 0 (x1).toNat f → xL7_48 = xL6_8) → (x1 ≤ xL7_48 ∨ pv_aJ h_48 (ρ a0 19) (10 * xL7_48 + xL6_8).toNat ≠ 0) → (xL6_8 < x1) → (xL7_48 ≤ x1) → pv_T K 296 48 (pv_fl [some (.ref a0), some (.int (pv_I x1)), some (.long (pv_J xL2_8)), o3_48, some (.long (pv_J xL4_8)), o5_48, some (.int (pv_I xL6_8)), some (.int (pv_I xL7_48)), o8_48, o9_48]) [] h_48 (Q296 τ ρ h a0 x1) := by
        intro h_48 xL7_48 o3_48 o5_48 o8_48 o9_48 hT_48 hF_48 rL1_48 rL2_48 rL4_48 rL6_48 rL7_48 i0_48 i1_48 i2_48 i3_48 i4_48 i5_48
        refine pw_iload d296_48 rfl ?_
        refine pw_iload_n d296_50 rfl ?_
        refine pw_icmp_ne d296_51 rfl (by omega) (by omega) (fun c51 => ?_) (fun c51 => ?_)
        · refine pw_iload d296_56 rfl ?_
          refine pw_iload d296_58 rfl ?_
          refine pw_icmp_eq d296_60 rfl (by omega) (by omega) (fun c60 => ?_) (fun c60 => ?_)
          · exact J77 h_48 (xL4_8) _ _ _ _ _ hT_48 hF_48 (by omega) (by omega) (by omega) (by omega) (by first | assumption | (intro f hf; exact absurd (i2_48 f hf) c60)) (by omega) (by first | exact wt_pv c60 (by omega) i3_48 | exact wt_pt pz69_0 (by omega) (by omega) (by omega) i3_48) (by omega)
          · refine pw_aload_n d296_63 rfl ?_
            refine pw_iload d296_64 rfl ?_
            refine pw_iload d296_66 rfl ?_
            refine pw_iload_n d296_68 rfl ?_
            refine pw_callV3 d296_69 k296_426 hT_48 hA0 rfl rfl rfl (ct297F (τ := τ) (ρ := ρ) hT_48 hA0 (by omega) (by omega) (by omega) (by omega)) (fun r69 h69 q69 => ?_)
            obtain ⟨T69, F69, ez69, pz69_0⟩ := q69
            subst ez69
            have f69 := hF_48.tr (F69.up (by decide))
            refine pw_lload d296_72 rfl ?_
            refine pw_lneg d296_74 ?_
            refine pw_lstore d296_75 m296 rfl rfl ?_
            exact J77 h69 ((-xL4_8)) _ _ _ _ _ T69 f69 (by omega) (by omega) (by omega) (by omega) (by first | assumption | (intro f hf; exact absurd (i2_48 f hf) c60)) (by omega) (by first | exact wt_pv c60 (by omega) i3_48 | exact wt_pt pz69_0 (by omega) (by omega) (by omega) i3_48) (by omega)
        · refine pw_lconst (z := 0) d296_54 (by decide) ?_
          exact pw_lreturn d296_55 tt296 ⟨hT_48, hF_48, 0, rfl, (by omega), (by omega), (by first | (intro f hf; exact pq_8.fin (i0_8 f hf) (by unfold pv_q; omega) hz206 ez206) | (intro f hf; have := i2_48 f hf; omega))⟩
      have L18 : ∀ (nn : Nat) (h_18 : pv_H) (xL7_18 : Int) (o3_18 o5_18 o8_18 o9_18 : Option Value), (pv_Ty τ ρ h_18) → (pv_Fr τ [3199] h h_18) → (1 ≤ x1 ∧ x1 ≤ 10) → ((-9223372036854775808) ≤ xL2_8 ∧ xL2_8 ≤ 9223372036854775807) → ((-1) ≤ xL4_8 ∧ xL4_8 ≤ 1) → (0 ≤ xL6_8 ∧ xL6_8 ≤ 9) → (0 ≤ xL7_18 ∧ xL7_18 ≤ 10) → (∀ f : Nat, pm_M (pq_R h (ρ a0 19)) 1 0 (x1).toNat f → pq_8 (pq_R h (ρ a0 19)) (x1).toNat f (xL6_8).toNat xL2_8 xL4_8 (pq_R h_18 (ρ a0 19))) → (xL2_8 ≠ 0) → (∀ f : Nat, pm_M (pq_R h (ρ a0 19)) 1 0 (x1).toNat f → xL7_18 = xL6_8) → (xL6_8 < x1) → (xL7_18 ≤ x1) → 10 - xL7_18 < nn → pv_T K 296 18 (pv_fl [some (.ref a0), some (.int (pv_I x1)), some (.long (pv_J xL2_8)), o3_18, some (.long (pv_J xL4_8)), o5_18, some (.int (pv_I xL6_8)), some (.int (pv_I xL7_18)), o8_18, o9_18]) [] h_18 (Q296 τ ρ h a0 x1) := by
        intro nn
        induction nn with
        | zero => intro h_18 xL7_18 o3_18 o5_18 o8_18 o9_18 hT_18 hF_18 rL1_18 rL2_18 rL4_18 rL6_18 rL7_18 i0_18 i1_18 i2_18 i3_18 i4_18 hm; exfalso; omega
        | succ nn ih18 =>
          intro h_18 xL7_18 o3_18 o5_18 o8_18 o9_18 hT_18 hF_18 rL1_18 rL2_18 rL4_18 rL6_18 rL7_18 i0_18 i1_18 i2_18 i3_18 i4_18 hm18
          refine pw_iload d296_18 rfl ?_
          refine pw_iload_n d296_20 rfl ?_
          refine pw_icmp_ge d296_21 rfl (by omega) (by omega) (fun c21 => ?_) (fun c21 => ?_)
          · exact J48 h_18 (xL7_18) _ _ _ _ hT_18 hF_18 (by omega) (by omega) (by omega) (by omega) (by omega) (by assumption) (by omega) (by assumption) (by omega) (by omega) (by omega)
          · refine pw_aload_n d296_24 rfl ?_
            refine pw_getR d296_25 g296_43 hT_18 hA0 rfl rfl (fun t25 => ?_)
            have t25 : τ (ρ a0 19) = some 49 := t25
            refine pw_bipush d296_28 (by decide) ?_
            refine pw_iload d296_30 rfl ?_
            refine pw_imul d296_32 ?_
            refine pw_iload d296_33 rfl ?_
            refine pw_iadd d296_35 ?_
            refine pw_lald d296_36 hT_18 t25 rfl rfl (by omega) (by omega) (fun u36 => ?_)
            refine pw_lconst (z := 0) d296_37 (by decide) ?_
            refine pw_lcmp d296_38 (by omega) (by omega) (fun z38 ez38 => ?_)
            refine pw_if_ne d296_39 rfl (by omega) (fun c39 => ?_) (fun c39 => ?_)
            · exact J48 h_18 (xL7_18) _ _ _ _ hT_18 hF_18 (by omega) (by omega) (by omega) (by omega) (by omega) (by assumption) (by omega) (by assumption) (by omega) (by omega) (by omega)
            · refine pw_iinc d296_42 m296 rfl rfl rfl ?_
              refine pw_goto d296_45 rfl ?_
              exact ih18 h_18 ((xL7_18 + 1)) _ _ _ _ hT_18 hF_18 (by omega) (by omega) (by omega) (by omega) (by omega) (by first | assumption | exact i0_8) (by omega) (by first | (intro f hf; rfl) | (intro f hf; exfalso; exact wt_no (i0_18 f hf) (i2_18 f hf) (by omega) (by omega) (by omega))) (by omega) (by omega) (by omega)
      refine pw_iload d296_8 rfl ?_
      refine pw_iload_n d296_10 rfl ?_
      refine pw_icmp_ge d296_11 rfl (by omega) (by omega) (fun c11 => ?_) (fun c11 => ?_)
      · refine pw_lload d296_203 rfl ?_
        refine pw_lload_n d296_205 rfl ?_
        refine pw_lmul d296_206 ?_
        refine pw_anyl (fun z206 hz206 ez206 => ?_)
        exact pw_lreturn d296_207 tt296 ⟨hT_8, hF_8, z206, rfl, (by omega), (by omega), (by first | (intro f hf; exact pq_8.fin (i0_8 f hf) (by unfold pv_q; omega) hz206 ez206) | (intro f hf; have := i2_48 f hf; omega))⟩
      · refine pw_iload d296_14 rfl ?_
        refine pw_istore d296_16 m296 rfl rfl ?_
        exact L18 _ h_8 (xL6_8) _ _ _ _ hT_8 hF_8 (by omega) (by omega) (by omega) (by omega) (by omega) (by first | assumption | exact i0_8) (by omega) (by first | (intro f hf; rfl) | (intro f hf; exfalso; exact wt_no (i0_18 f hf) (i2_18 f hf) (by omega) (by omega) (by omega))) (by omega) (by omega) (pv_mu _)
  refine pw_lconst (z := 1) d296_0 (by decide) ?_
  refine pw_lstore_n d296_1 m296 rfl rfl ?_
  refine pw_lconst (z := 1) d296_2 (by decide) ?_
  refine pw_lstore d296_3 m296 rfl rfl ?_
  refine pw_iconst d296_5 ?_
  refine pw_istore d296_6 m296 rfl rfl ?_
  exact L8 _ h (1) (1) (0) _ _ _ _ _ hT hF0 (by omega) (by omega) (by omega) (by omega) (by first | (intro f hf; exact pq_8.start hf) | exact wt_done i0_83 (by omega) (by omega) (by omega)) (by first | omega | assumption) (pv_mu _)
