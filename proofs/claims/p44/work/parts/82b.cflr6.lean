abbrev Q309 (τ : Nat → Option Nat) (ρ : Nat → Nat → Nat) (h : pv_H) (a0 : Nat) (x1 : Int) : Option Value → pv_H → Prop := fun r h' => pv_Ty τ ρ h' ∧ pv_Fr τ [2623, 3391] h h' ∧ ∃ z : Int, r = some (.int (pv_I z)) ∧ (-6) ≤ z ∧ z ≤ 60 ∧ (pw_ok (pv_aI h' (ρ a0 1)))
set_option maxHeartbeats 4000000 in
set_option maxRecDepth 20000 in
/-- AngleNetModel.judge(I)I -/
theorem ct309 {τ : Nat → Option Nat} {ρ : Nat → Nat → Nat} {K : Nat → Nat} {h : pv_H} {a0 : Nat} {x1 : Int} (hT : pv_Ty τ ρ h) (hA0 : τ a0 = some 7) (hX1 : (-2147483648) ≤ x1 ∧ x1 ≤ 2147483647) (hP0 : pw_ok (pv_aI h (ρ a0 1))) : pv_C K 309 [.ref a0, .int (pv_I x1)] h (Q309 τ ρ h a0 x1) := by
  refine pw_entry 4 ?_
  show pv_T K 309 0 (pv_fl [some (.ref a0), some (.int (pv_I x1)), none, none, none, none]) [] h (Q309 τ ρ h a0 x1)
  have hR0_1 : τ (ρ a0 1) = some 40 := hT.rf (t' := 40) hA0 rfl rfl
  have hR0_23 : τ (ρ a0 23) = some 52 := hT.rf (t' := 52) hA0 rfl rfl
  have hF0 : pv_Fr τ [2623, 3391] h h := pv_Fr.rf
  have L151 : ∀ (nn : Nat) (h_151 : pv_H) (xL2_151 xL4_151 : Int) (o1_151 o3_151 o5_151 : Option Value), (pv_Ty τ ρ h_151) → (pv_Fr τ [2623, 3391] h h_151) → (0 ≤ xL2_151 ∧ xL2_151 ≤ 60) → (0 ≤ xL4_151 ∧ xL4_151 ≤ 1599) → (∀ j : Nat, (j : Int) < xL4_151 → pv_aI h_151 (ρ a0 1) j = pv_aI h (ρ a0 1) j) → (∀ j : Nat, (j : Int) < 1507 → pv_aI h_151 (ρ a0 23) j = pv_aI h (ρ a0 1) j) → 1599 - xL4_151 < nn → pv_T K 309 151 (pv_fl [some (.ref a0), o1_151, some (.int (pv_I xL2_151)), o3_151, some (.int (pv_I xL4_151)), o5_151]) [] h_151 (Q309 τ ρ h a0 x1) := by
    intro nn
    induction nn with
    | zero => intro h_151 xL2_151 xL4_151 o1_151 o3_151 o5_151 hT_151 hF_151 rL2_151 rL4_151 i0_151 i1_151 hm; exfalso; omega
    | succ nn ih151 =>
      intro h_151 xL2_151 xL4_151 o1_151 o3_151 o5_151 hT_151 hF_151 rL2_151 rL4_151 i0_151 i1_151 hm151
      refine pw_iload d309_151 rfl ?_
      refine pw_sipush d309_153 (by decide) ?_
      refine pw_icmp_ge d309_156 rfl (by omega) (by omega) (fun c156 => ?_) (fun c156 => ?_)
      · have w179 := (hT.wc hR0_1 (j := 1) rfl (by decide)).2.2.1 (by decide) |>.2
        refine pw_iload_n d309_179 rfl ?_
        exact pw_ireturn d309_180 tt309 ⟨hT_151, hF_151, xL2_151, rfl, (by omega), (by omega), (by first | exact hP0 | exact hP0.cg (fun j hj => i0_151 j (by omega)) w179)⟩
      · refine pw_aload_n d309_159 rfl ?_
        refine pw_getR d309_160 g309_9 hT_151 hA0 rfl rfl (fun t160 => ?_)
        have t160 : τ (ρ a0 1) = some 40 := t160
        refine pw_iload d309_163 rfl ?_
        refine pw_aload_n d309_165 rfl ?_
        refine pw_getR d309_166 g309_53 hT_151 hA0 rfl rfl (fun t166 => ?_)
        have t166 : τ (ρ a0 23) = some 52 := t166
        refine pw_iload d309_169 rfl ?_
        refine pw_ialdB d309_171 hT_151 t166 rfl rfl (by omega) (by omega) (fun u171 => ?_)
        have u171 : pv_wok (xL4_151) (pv_aI h_151 (ρ a0 23) (xL4_151).toNat) := u171
        have vu171 := u171.1
        refine pw_iastB d309_172 hT_151 t160 rfl rfl rfl (by omega) (by omega) (by omega) (by exact u171) (fun h172 T172 F172 E172 => ?_)
        have f172 := hF_151.tr (F172.up (by decide))
        refine pw_iinc d309_173 m309 rfl rfl rfl ?_
        refine pw_goto d309_176 rfl ?_
        exact ih151 h172 (xL2_151) ((xL4_151 + 1)) _ _ _ T172 f172 (by omega) (by omega) (by first | (intro j hj; exfalso; omega) | exact cp_s i0_151 (by omega) (i1_151 _ (by omega)) (pe_at E172)) (by first | assumption | (intro j hj; rw [F172.aeq hR0_23 (by decide)]; exact i1_151 j hj)) (by omega)
  have J148 : ∀ (h_148 : pv_H) (xL2_148 : Int) (o1_148 o3_148 o4_148 o5_148 : Option Value), (pv_Ty τ ρ h_148) → (pv_Fr τ [2623, 3391] h h_148) → (0 ≤ xL2_148 ∧ xL2_148 ≤ 60) → (∀ j : Nat, (j : Int) < 1507 → pv_aI h_148 (ρ a0 23) j = pv_aI h (ρ a0 1) j) → pv_T K 309 148 (pv_fl [some (.ref a0), o1_148, some (.int (pv_I xL2_148)), o3_148, o4_148, o5_148]) [] h_148 (Q309 τ ρ h a0 x1) := by
    intro h_148 xL2_148 o1_148 o3_148 o4_148 o5_148 hT_148 hF_148 rL2_148 i0_148
    refine pw_iconst d309_148 ?_
    refine pw_istore d309_149 m309 rfl rfl ?_
    exact L151 _ h_148 (xL2_148) (0) _ _ _ hT_148 hF_148 (by omega) (by omega) (by first | (intro j hj; exfalso; omega) | exact cp_s i0_151 (by omega) (i1_151 _ (by omega)) (pe_at E172)) (by first | assumption | (intro j hj; rw [F172.aeq hR0_23 (by decide)]; exact i1_151 j hj)) (pv_mu _)
  have L69 : ∀ (nn : Nat) (h_69 : pv_H) (xL2_69 xL3_69 : Int) (o4_69 o5_69 : Option Value), (pv_Ty τ ρ h_69) → (pv_Fr τ [2623, 3391] h h_69) → (0 ≤ x1 ∧ x1 ≤ 3) → (0 ≤ xL2_69 ∧ xL2_69 ≤ 60) → (0 ≤ xL3_69 ∧ xL3_69 ≤ 1) → (∀ j : Nat, (j : Int) < 1507 → pv_aI h_69 (ρ a0 23) j = pv_aI h (ρ a0 1) j) → (pf_G 10 (pr_n (pv_aI h_69 (ρ a0 1))) (pr_c (pv_aI h_69 (ρ a0 1)))) → (0 ≤ x1 ∧ x1 ≤ 3) → (xL3_69 = 0 ∨ xL3_69 = 1) → (if xL3_69 = 0 then 0 else 62 - xL2_69) < nn → pv_T K 309 69 (pv_fl [some (.ref a0), some (.int (pv_I x1)), some (.int (pv_I xL2_69)), some (.int (pv_I xL3_69)), o4_69, o5_69]) [] h_69 (Q309 τ ρ h a0 x1) := by
    intro nn
    induction nn with
    | zero => intro h_69 xL2_69 xL3_69 o4_69 o5_69 hT_69 hF_69 rL1_69 rL2_69 rL3_69 i0_69 i1_69 i2_69 i3_69 hm; exfalso; omega
    | succ nn ih69 =>
      intro h_69 xL2_69 xL3_69 o4_69 o5_69 hT_69 hF_69 rL1_69 rL2_69 rL3_69 i0_69 i1_69 i2_69 i3_69 hm69
      have J143 : ∀ (h_143 : pv_H) (xL3_143 xS0_143 : Int) (o2_143 o4_143 o5_143 : Option Value), (pv_Ty τ ρ h_143) → (pv_Fr τ [2623, 3391] h h_143) → (0 ≤ x1 ∧ x1 ≤ 3) → (0 ≤ xL3_143 ∧ xL3_143 ≤ 1) → (0 ≤ xS0_143 ∧ xS0_143 ≤ 1) → (0 ≤ xL2_69 ∧ xL2_69 ≤ 59) → (∀ j : Nat, (j : Int) < 1507 → pv_aI h_143 (ρ a0 23) j = pv_aI h (ρ a0 1) j) → (pf_G 10 (pr_n (pv_aI h_143 (ρ a0 1))) (pr_c (pv_aI h_143 (ρ a0 1)))) → (xL2_69 = xL2_69) → ((xS0_143 = 0 ∧ xL3_143 = 0) ∨ (xS0_143 = 1 ∧ xL3_143 = 1)) → (xL2_69 < 60) → (xL3_69 = 1) → pv_T K 309 143 (pv_fl [some (.ref a0), some (.int (pv_I x1)), o2_143, some (.int (pv_I xL3_143)), o4_143, o5_143]) [.int (pv_I xS0_143), .int (pv_I xL2_69)] h_143 (Q309 τ ρ h a0 x1) := by
        intro h_143 xL3_143 xS0_143 o2_143 o4_143 o5_143 hT_143 hF_143 rL1_143 rL3_143 rS0_143 rS1_143 i0_143 i1_143 i2_143 i3_143 i4_143 i5_143
        refine pw_iadd d309_143 ?_
        refine pw_istore_n d309_144 m309 rfl rfl ?_
        refine pw_goto d309_145 rfl ?_
        exact ih69 h_143 ((xL2_69 + xS0_143)) (xL3_143) _ _ hT_143 hF_143 (by omega) (by omega) (by omega) (by first | (intro j hj; rw [k65]; exact i0_32 j (by omega)) | exact i0_143) (by first | exact g65 | exact i1_143) (by omega) (by omega) (by omega)
      have J132 : ∀ (h_132 : pv_H) (xS0_132 : Int) (o3_132 o4_132 o5_132 : Option Value), (pv_Ty τ ρ h_132) → (pv_Fr τ [2623, 3391] h h_132) → (0 ≤ x1 ∧ x1 ≤ 3) → (0 ≤ xL2_69 ∧ xL2_69 ≤ 59) → (0 ≤ xS0_132 ∧ xS0_132 ≤ 1) → (∀ j : Nat, (j : Int) < 1507 → pv_aI h_132 (ρ a0 23) j = pv_aI h (ρ a0 1) j) → (pf_G 10 (pr_n (pv_aI h_132 (ρ a0 1))) (pr_c (pv_aI h_132 (ρ a0 1)))) → (xS0_132 = 0 ∨ xS0_132 = 1) → (xL2_69 < 60) → (xL3_69 = 1) → pv_T K 309 132 (pv_fl [some (.ref a0), some (.int (pv_I x1)), some (.int (pv_I xL2_69)), o3_132, o4_132, o5_132]) [.int (pv_I xS0_132)] h_132 (Q309 τ ρ h a0 x1) := by
        intro h_132 xS0_132 o3_132 o4_132 o5_132 hT_132 hF_132 rL1_132 rL2_132 rS0_132 i0_132 i1_132 i2_132 i3_132 i4_132
        refine pw_istore_n d309_132 m309 rfl rfl ?_
        refine pw_iload_n d309_133 rfl ?_
        refine pw_iload_n d309_134 rfl ?_
        refine pw_if_eq d309_135 rfl (by omega) (fun c135 => ?_) (fun c135 => ?_)
        · refine pw_iconst d309_142 ?_
          exact J143 h_132 (xS0_132) (0) _ _ _ hT_132 hF_132 (by omega) (by omega) (by omega) (by omega) (by assumption) (by assumption) (by omega) (by omega) (by omega) (by omega)
        · refine pw_iconst d309_138 ?_
          refine pw_goto d309_139 rfl ?_
          exact J143 h_132 (xS0_132) (1) _ _ _ hT_132 hF_132 (by omega) (by omega) (by omega) (by omega) (by assumption) (by assumption) (by omega) (by omega) (by omega) (by omega)
      have J131 : ∀ (h_131 : pv_H) (o3_131 o4_131 o5_131 : Option Value), (pv_Ty τ ρ h_131) → (pv_Fr τ [2623, 3391] h h_131) → (0 ≤ x1 ∧ x1 ≤ 3) → (0 ≤ xL2_69 ∧ xL2_69 ≤ 59) → (∀ j : Nat, (j : Int) < 1507 → pv_aI h_131 (ρ a0 23) j = pv_aI h (ρ a0 1) j) → (pf_G 10 (pr_n (pv_aI h_131 (ρ a0 1))) (pr_c (pv_aI h_131 (ρ a0 1)))) → (xL2_69 < 60) → (xL3_69 = 1) → pv_T K 309 131 (pv_fl [some (.ref a0), some (.int (pv_I x1)), some (.int (pv_I xL2_69)), o3_131, o4_131, o5_131]) [] h_131 (Q309 τ ρ h a0 x1) := by
        intro h_131 o3_131 o4_131 o5_131 hT_131 hF_131 rL1_131 rL2_131 i0_131 i1_131 i2_131 i3_131
        refine pw_iconst d309_131 ?_
        exact J132 h_131 (0) _ _ _ hT_131 hF_131 (by omega) (by omega) (by omega) (by first | assumption | (intro j hj; rw [F121.aeq hR0_23 (by decide)]; exact i0_69 j hj)) (by first | assumption | exact pz121_1) (by omega) (by omega) (by omega)
      refine pw_iload_n d309_69 rfl ?_
      refine pw_if_eq d309_70 rfl (by omega) (fun c70 => ?_) (fun c70 => ?_)
      · exact J148 h_69 (xL2_69) _ _ _ _ hT_69 hF_69 (by omega) (by assumption)
      · refine pw_iload_n d309_73 rfl ?_
        refine pw_aload_n d309_74 rfl ?_
        refine pw_getR d309_75 g309_56 hT_69 hA0 rfl rfl (fun t75 => ?_)
        have t75 : τ (ρ a0 24) = some 53 := t75
        refine pw_iload_n d309_78 rfl ?_
        refine pw_iald d309_79 hT_69 t75 rfl rfl (by omega) (by omega) (fun u79 vu79 => ?_)
        refine pw_icmp_ge d309_80 rfl (by omega) (by omega) (fun c80 => ?_) (fun c80 => ?_)
        · exact J148 h_69 (xL2_69) _ _ _ _ hT_69 hF_69 (by omega) (by assumption)
        · refine pw_aload_n d309_83 rfl ?_
          refine pw_getR d309_84 g309_62 hT_69 hA0 rfl rfl (fun t84 => ?_)
          have t84 : τ (ρ a0 26) = some 55 := t84
          refine pw_bipush d309_87 (by decide) ?_
          refine pw_iload_n d309_89 rfl ?_
          refine pw_imul d309_90 ?_
          refine pw_iload_n d309_91 rfl ?_
          refine pw_iadd d309_92 ?_
          refine pw_lald d309_93 hT_69 t84 rfl rfl (by omega) (by omega) (fun u93 => ?_)
          refine pw_lstore d309_94 m309 rfl rfl ?_
          refine pw_lload d309_96 rfl ?_
          refine pw_lconst (z := 0) d309_98 (by decide) ?_
          refine pw_ldc2 (v := pv_J 99) d309_99 n309_99 ?_
          refine pw_callS3 d309_102 k309_73 rfl rfl (ct184 (τ := τ) (ρ := ρ) (by omega) (by omega) (by omega)) (fun r102 h102 q102 => ?_)
          obtain ⟨eh102, z102, ez102, lz102, uz102, pz102_0⟩ := q102
          subst eh102
          subst ez102
          refine pw_if_eq d309_105 rfl (by omega) (fun c105 => ?_) (fun c105 => ?_)
          · exact J131 h_69 _ _ _ hT_69 hF_69 (by omega) (by omega) (by first | assumption | (intro j hj; rw [F121.aeq hR0_23 (by decide)]; exact i0_69 j hj)) (by first | exact pz121_1 | exact i1_69) (by omega) (by omega)
          · refine pw_aload_n d309_108 rfl ?_
            refine pw_lload d309_109 rfl ?_
            refine pw_l2i d309_111 ?_
            refine pw_bipush d309_112 (by decide) ?_
            refine pw_idiv d309_114 (by omega) (by omega) (by omega) (by omega) ?_
            refine pw_lload d309_115 rfl ?_
            refine pw_l2i d309_117 ?_
            refine pw_bipush d309_118 (by decide) ?_
            refine pw_irem d309_120 (by omega) (by omega) (by omega) (by omega) ?_
            refine pw_callV2 d309_121 k309_380 hT_69 hA0 rfl rfl rfl (ct271 (τ := τ) (ρ := ρ) hT_69 hA0 (by omega) (by omega) (by first | assumption | omega)) (fun r121 h121 q121 => ?_)
            obtain ⟨T121, F121, z121, ez121, lz121, uz121, pz121_0, pz121_1, pz121_2, pz121_3⟩ := q121
            subst ez121
            have f121 := hF_69.tr (F121.up (by decide))
            refine pw_if_lt d309_124 rfl (by omega) (fun c124 => ?_) (fun c124 => ?_)
            · exact J131 h121 _ _ _ T121 f121 (by omega) (by omega) (by first | assumption | (intro j hj; rw [F121.aeq hR0_23 (by decide)]; exact i0_69 j hj)) (by first | exact pz121_1 | exact i1_69) (by omega) (by omega)
            · refine pw_iconst d309_127 ?_
              refine pw_goto d309_128 rfl ?_
              exact J132 h121 (1) _ _ _ T121 f121 (by omega) (by omega) (by omega) (by first | assumption | (intro j hj; rw [F121.aeq hR0_23 (by decide)]; exact i0_69 j hj)) (by first | assumption | exact pz121_1) (by omega) (by omega) (by omega)
  have L32 : ∀ (nn : Nat) (h_32 : pv_H) (xL2_32 : Int) (o3_32 o4_32 o5_32 : Option Value), (pv_Ty τ ρ h_32) → (pv_Fr τ [2623, 3391] h h_32) → (0 ≤ x1 ∧ x1 ≤ 3) → (0 ≤ xL2_32 ∧ xL2_32 ≤ 1599) → (∀ j : Nat, (j : Int) < xL2_32 → pv_aI h_32 (ρ a0 23) j = pv_aI h (ρ a0 1) j) → (pv_aI h_32 (ρ a0 1) = pv_aI h (ρ a0 1)) → (0 ≤ x1 ∧ x1 ≤ 3) → 1599 - xL2_32 < nn → pv_T K 309 32 (pv_fl [some (.ref a0), some (.int (pv_I x1)), some (.int (pv_I xL2_32)), o3_32, o4_32, o5_32]) [] h_32 (Q309 τ ρ h a0 x1) := by
    intro nn
    induction nn with
    | zero => intro h_32 xL2_32 o3_32 o4_32 o5_32 hT_32 hF_32 rL1_32 rL2_32 i0_32 i1_32 i2_32 hm; exfalso; omega
    | succ nn ih32 =>
      intro h_32 xL2_32 o3_32 o4_32 o5_32 hT_32 hF_32 rL1_32 rL2_32 i0_32 i1_32 i2_32 hm32
      refine pw_iload_n d309_32 rfl ?_
      refine pw_sipush d309_33 (by decide) ?_
      refine pw_icmp_ge d309_36 rfl (by omega) (by omega) (fun c36 => ?_) (fun c36 => ?_)
      · refine pw_aload_n d309_57 rfl ?_
        refine pw_getR d309_58 g309_9 hT_32 hA0 rfl rfl (fun t58 => ?_)
        have t58 : τ (ρ a0 1) = some 40 := t58
        refine pw_bipush d309_61 (by decide) ?_
        refine pw_iconst d309_63 ?_
        refine pw_iastB d309_64 hT_32 t58 rfl rfl rfl (by omega) (by omega) (by omega) (by show pv_wok _ _; unfold pv_wok; omega) (fun h64 T64 F64 E64 => ?_)
        have f64 := hF_32.tr (F64.up (by decide))
        have g65 := nc_G (pe_at E64) (by decide) (show pv_aI h_32 (ρ a0 1) 1 ≤ 18 by rw [i1_32]; exact (hT.wc hR0_1 (j := 1) rfl (by decide)).2.2.1 (by decide) |>.2) (by rw [i1_32]; exact hP0.G ((hT.wc hR0_1 (j := 0) rfl (by decide)).2.1 (by decide) |>.2))
        have k65 : pv_aI h64 (ρ a0 23) = pv_aI h_32 (ρ a0 23) := F64.aeq hR0_23 (by decide)
        refine pw_iconst d309_65 ?_
        refine pw_istore_n d309_66 m309 rfl rfl ?_
        refine pw_iconst d309_67 ?_
        refine pw_istore_n d309_68 m309 rfl rfl ?_
        exact L69 _ h64 (0) (1) _ _ T64 f64 (by omega) (by omega) (by omega) (by first | (intro j hj; rw [k65]; exact i0_32 j (by omega)) | exact i0_143) (by first | exact g65 | exact i1_143) (by omega) (by omega) (pv_mu _)
      · refine pw_aload_n d309_39 rfl ?_
        refine pw_getR d309_40 g309_53 hT_32 hA0 rfl rfl (fun t40 => ?_)
        have t40 : τ (ρ a0 23) = some 52 := t40
        refine pw_iload_n d309_43 rfl ?_
        refine pw_aload_n d309_44 rfl ?_
        refine pw_getR d309_45 g309_9 hT_32 hA0 rfl rfl (fun t45 => ?_)
        have t45 : τ (ρ a0 1) = some 40 := t45
        refine pw_iload_n d309_48 rfl ?_
        refine pw_ialdB d309_49 hT_32 t45 rfl rfl (by omega) (by omega) (fun u49 => ?_)
        have u49 : pv_wok (xL2_32) (pv_aI h_32 (ρ a0 1) (xL2_32).toNat) := u49
        have vu49 := u49.1
        refine pw_iastB d309_50 hT_32 t40 rfl rfl rfl (by omega) (by omega) (by omega) (by exact u49) (fun h50 T50 F50 E50 => ?_)
        have f50 := hF_32.tr (F50.up (by decide))
        refine pw_iinc d309_51 m309 rfl rfl rfl ?_
        refine pw_goto d309_54 rfl ?_
        exact ih32 h50 ((xL2_32 + 1)) _ _ _ T50 f50 (by omega) (by omega) (by first | (intro j hj; exfalso; omega) | exact cp_s i0_32 (by omega) (by rw [i1_32]) (pe_at E50)) (by first | rfl | exact (F50.aeq hR0_1 (by decide)).trans i1_32) (by omega) (by omega)
  have hw1 : 0 ≤ pv_aI h (ρ a0 1) (1 : Int).toNat ∧ pv_aI h (ρ a0 1) (1 : Int).toNat ≤ 18 := (hT.wc hR0_1 (j := 1) rfl (by decide)).2.2.1 (by decide)
  have hw0 : pv_aI h (ρ a0 1) (0 : Int).toNat ≤ 10 := (hT.wc hR0_1 (j := 0) rfl (by decide)).2.1 (by decide) |>.2
  refine pw_iload_n d309_0 rfl ?_
  refine pw_callS1 d309_1 k309_478 rfl rfl (ct310 (τ := τ) (ρ := ρ) (by omega)) (fun r1 h1 q1 => ?_)
  obtain ⟨eh1, z1, ez1, lz1, uz1, pz1_0⟩ := q1
  subst eh1
  subst ez1
  refine pw_if_eq d309_4 rfl (by omega) (fun c4 => ?_) (fun c4 => ?_)
  · refine pw_bipush d309_14 (by decide) ?_
    exact pw_ireturn d309_16 tt309 ⟨hT, hF0, (-2), rfl, (by omega), (by omega), (by first | exact hP0 | exact hP0.cg (fun j hj => i0_151 j (by omega)) w179)⟩
  · refine pw_aload_n d309_7 rfl ?_
    refine pw_callV0 d309_8 k309_283 hT hA0 rfl rfl rfl (ct224 (τ := τ) (ρ := ρ) hT hA0) (fun r8 h8 q8 => ?_)
    obtain ⟨eh8, z8, ez8, lz8, uz8⟩ := q8
    subst eh8
    subst ez8
    refine pw_if_ne d309_11 rfl (by omega) (fun c11 => ?_) (fun c11 => ?_)
    · refine pw_aload_n d309_17 rfl ?_
      refine pw_getR d309_18 g309_56 hT hA0 rfl rfl (fun t18 => ?_)
      have t18 : τ (ρ a0 24) = some 53 := t18
      refine pw_iload_n d309_21 rfl ?_
      refine pw_iald d309_22 hT t18 rfl rfl (by omega) (by omega) (fun u22 vu22 => ?_)
      refine pw_iconst d309_23 ?_
      refine pw_icmp_ne d309_24 rfl (by omega) (by omega) (fun c24 => ?_) (fun c24 => ?_)
      · refine pw_iconst d309_30 ?_
        refine pw_istore_n d309_31 m309 rfl rfl ?_
        exact L32 _ h (0) _ _ _ hT hF0 (by omega) (by omega) (by first | (intro j hj; exfalso; omega) | exact cp_s i0_32 (by omega) (by rw [i1_32]) (pe_at E50)) (by first | rfl | exact (F50.aeq hR0_1 (by decide)).trans i1_32) (by omega) (pv_mu _)
      · refine pw_bipush d309_27 (by decide) ?_
        exact pw_ireturn d309_29 tt309 ⟨hT, hF0, (-6), rfl, (by omega), (by omega), (by first | exact hP0 | exact hP0.cg (fun j hj => i0_151 j (by omega)) w179)⟩
    · refine pw_bipush d309_14 (by decide) ?_
      exact pw_ireturn d309_16 tt309 ⟨hT, hF0, (-2), rfl, (by omega), (by omega), (by first | exact hP0 | exact hP0.cg (fun j hj => i0_151 j (by omega)) w179)⟩

abbrev Q183F (τ : Nat → Option Nat) (ρ : Nat → Nat → Nat) (h : pv_H) (a0 : Nat) (x1 : Int) : Option Value → pv_H → Prop := fun r h' => pv_Ty τ ρ h' ∧ pv_Fr τ [2687, 2751] h h' ∧ ∃ z : Int, r = some (.int (pv_I z)) ∧ (-2) ≤ z ∧ z ≤ 0 ∧ (im_ok (pv_aI h' (ρ a0 2))) ∧ (z = if 0 ≤ x1 ∧ x1 ≤ 2 then 0 else -2)
set_option maxHeartbeats 4000000 in
set_option maxRecDepth 20000 in
/-- AngleNetModel.keep(I)I -/
theorem ct183F {τ : Nat → Option Nat} {ρ : Nat → Nat → Nat} {K : Nat → Nat} {h : pv_H} {a0 : Nat} {x1 : Int} (hT : pv_Ty τ ρ h) (hA0 : τ a0 = some 7) (hX1 : (-2147483648) ≤ x1 ∧ x1 ≤ 2147483647) (hP0 : pw_ok (pv_aI h (ρ a0 1))) (hP1 : im_ok (pv_aI h (ρ a0 2))) : pv_C K 183 [.ref a0, .int (pv_I x1)] h (Q183F τ ρ h a0 x1) := by
  refine pw_entry 1 ?_
  show pv_T K 183 0 (pv_fl [some (.ref a0), some (.int (pv_I x1)), none]) [] h (Q183F τ ρ h a0 x1)
  have hR0_1 : τ (ρ a0 1) = some 40 := hT.rf (t' := 40) hA0 rfl rfl
  have hR0_2 : τ (ρ a0 2) = some 41 := hT.rf (t' := 41) hA0 rfl rfl
  have hF0 : pv_Fr τ [2687, 2751] h h := pv_Fr.rf
  have L17 : ∀ (nn : Nat) (h_17 : pv_H) (xL2_17 : Int), (pv_Ty τ ρ h_17) → (pv_Fr τ [2687, 2751] h h_17) → (0 ≤ x1 ∧ x1 ≤ 2) → (0 ≤ xL2_17 ∧ xL2_17 ≤ 1599) → (0 ≤ x1 ∧ x1 ≤ 2) → (im_l (pv_aI h (ρ a0 2)) (pv_aI h_17 (ρ a0 2)) (pv_aI h (ρ a0 1)) x1 xL2_17) → 1599 - xL2_17 < nn → pv_T K 183 17 (pv_fl [some (.ref a0), some (.int (pv_I x1)), some (.int (pv_I xL2_17))]) [] h_17 (Q183F τ ρ h a0 x1) := by
    intro nn
    induction nn with
    | zero => intro h_17 xL2_17 hT_17 hF_17 rL1_17 rL2_17 i0_17 i1_17 hm; exfalso; omega
    | succ nn ih17 =>
      intro h_17 xL2_17 hT_17 hF_17 rL1_17 rL2_17 i0_17 i1_17 hm17
      have ew17 : pv_aI h_17 (ρ a0 1) = pv_aI h (ρ a0 1) := hF_17.aeq hR0_1 (by decide)
      refine pw_iload_n d183_17 rfl ?_
      refine pw_sipush d183_18 (by decide) ?_
      refine pw_icmp_ge d183_21 rfl (by omega) (by omega) (fun c21 => ?_) (fun c21 => ?_)
      · refine pw_aload_n d183_48 rfl ?_
        refine pw_getR d183_49 g183_16 hT_17 hA0 rfl rfl (fun t49 => ?_)
        have t49 : τ (ρ a0 3) = some 42 := t49
        refine pw_iload_n d183_52 rfl ?_
        refine pw_iconst d183_53 ?_
        refine pw_bastZ d183_54 hT_17 t49 rfl rfl rfl (by omega) (by omega) (by omega) (fun h54 T54 F54 E54 => ?_)
        have f54 := hF_17.tr (F54.up (by decide))
        have w55 := (hT.wc hR0_1 (j := 1) rfl (by decide)).2.2.1 (by decide) |>.2
        refine pw_iconst d183_55 ?_
        exact pw_ireturn d183_56 tt183 ⟨T54, f54, 0, rfl, (by omega), (by omega), (by first | exact hP1 | (rw [F54.aeq hR0_2 (by decide)]; exact im_l.ok i1_17 (by omega) (by omega) w55 (im_18 hT hR0_2) hP0 hP1)), (by first | (rw [if_pos (by omega)]; done) | (rw [if_neg (by omega)]; done))⟩
      · refine pw_aload_n d183_24 rfl ?_
        refine pw_getR d183_25 g183_13 hT_17 hA0 rfl rfl (fun t25 => ?_)
        have t25 : τ (ρ a0 2) = some 41 := t25
        refine pw_sipush d183_28 (by decide) ?_
        refine pw_iload_n d183_31 rfl ?_
        refine pw_imul d183_32 ?_
        refine pw_iload_n d183_33 rfl ?_
        refine pw_iadd d183_34 ?_
        refine pw_aload_n d183_35 rfl ?_
        refine pw_getR d183_36 g183_9 hT_17 hA0 rfl rfl (fun t36 => ?_)
        have t36 : τ (ρ a0 1) = some 40 := t36
        refine pw_iload_n d183_39 rfl ?_
        refine pw_ialdB d183_40 hT_17 t36 rfl rfl (by omega) (by omega) (fun u40 => ?_)
        have u40 : pv_wok (xL2_17) (pv_aI h_17 (ρ a0 1) (xL2_17).toNat) := u40
        have vu40 := u40.1
        refine pw_iastB d183_41 hT_17 t25 rfl rfl rfl (by omega) (by omega) (by omega) (by show pv_wok (((1507 * x1) + xL2_17) % 1507) _; rw [show ((1507 * x1) + xL2_17) % 1507 = xL2_17 by omega]; exact u40) (fun h41 T41 F41 E41 => ?_)
        have f41 := hF_17.tr (F41.up (by decide))
        refine pw_iinc d183_42 m183 rfl rfl rfl ?_
        refine pw_goto d183_45 rfl ?_
        exact ih17 h41 ((xL2_17 + 1)) T41 f41 (by omega) (by omega) (by omega) (by first | exact im_l.zero | exact im_l.step i1_17 (by omega) (by omega) (by rw [ew17]) (pe_at E41)) (by omega)
  refine pw_iload_n d183_0 rfl ?_
  refine pw_i2l d183_1 (by omega) ?_
  refine pw_lconst (z := 0) d183_2 (by decide) ?_
  refine pw_ldc2 (v := pv_J 2) d183_3 n183_3 ?_
  refine pw_callS3 d183_6 k183_73 rfl rfl (ct184 (τ := τ) (ρ := ρ) (by omega) (by omega) (by omega)) (fun r6 h6 q6 => ?_)
  obtain ⟨eh6, z6, ez6, lz6, uz6, pz6_0⟩ := q6
  subst eh6
  subst ez6
  refine pw_if_ne d183_9 rfl (by omega) (fun c9 => ?_) (fun c9 => ?_)
  · refine pw_iconst d183_15 ?_
    refine pw_istore_n d183_16 m183 rfl rfl ?_
    exact L17 _ h (0) hT hF0 (by omega) (by omega) (by omega) (by first | exact im_l.zero | exact im_l.step i1_17 (by omega) (by omega) (by rw [ew17]) (pe_at E41)) (pv_mu _)
  · refine pw_bipush d183_12 (by decide) ?_
    exact pw_ireturn d183_14 tt183 ⟨hT, hF0, (-2), rfl, (by omega), (by omega), (by first | exact hP1 | (rw [F54.aeq hR0_2 (by decide)]; exact im_l.ok i1_17 (by omega) (by omega) w55 (im_18 hT hR0_2) hP0 hP1)), (by first | (rw [if_pos (by omega)]; done) | (rw [if_neg (by omega)]; done))⟩

abbrev Q185F (τ : Nat → Option Nat) (ρ : Nat → Nat → Nat) (h : pv_H) (a0 : Nat) (x1 : Int) : Option Value → pv_H → Prop := fun r h' => pv_Ty τ ρ h' ∧ pv_Fr τ [2623] h h' ∧ ∃ z : Int, r = some (.int (pv_I z)) ∧ (-6) ≤ z ∧ z ≤ 0 ∧ (pw_ok (pv_aI h' (ρ a0 1))) ∧ (z = if 0 ≤ x1 ∧ x1 ≤ 2 then (if pv_aI h (ρ a0 3) (x1).toNat = 0 then -6 else 0) else -2)
set_option maxHeartbeats 4000000 in
set_option maxRecDepth 20000 in
/-- AngleNetModel.back(I)I -/
theorem ct185F {τ : Nat → Option Nat} {ρ : Nat → Nat → Nat} {K : Nat → Nat} {h : pv_H} {a0 : Nat} {x1 : Int} (hT : pv_Ty τ ρ h) (hA0 : τ a0 = some 7) (hX1 : (-2147483648) ≤ x1 ∧ x1 ≤ 2147483647) (hP0 : pw_ok (pv_aI h (ρ a0 1))) (hP1 : im_ok (pv_aI h (ρ a0 2))) : pv_C K 185 [.ref a0, .int (pv_I x1)] h (Q185F τ ρ h a0 x1) := by
  refine pw_entry 1 ?_
  show pv_T K 185 0 (pv_fl [some (.ref a0), some (.int (pv_I x1)), none]) [] h (Q185F τ ρ h a0 x1)
  have hR0_1 : τ (ρ a0 1) = some 40 := hT.rf (t' := 40) hA0 rfl rfl
  have hR0_2 : τ (ρ a0 2) = some 41 := hT.rf (t' := 41) hA0 rfl rfl
  have hR0_3 : τ (ρ a0 3) = some 42 := hT.rf (t' := 42) hA0 rfl rfl
  have hF0 : pv_Fr τ [2623] h h := pv_Fr.rf
  have L29 : ∀ (nn : Nat) (h_29 : pv_H) (xL2_29 : Int), (pv_Ty τ ρ h_29) → (pv_Fr τ [2623] h h_29) → (0 ≤ x1 ∧ x1 ≤ 2) → (0 ≤ xL2_29 ∧ xL2_29 ≤ 1599) → (0 ≤ x1 ∧ x1 ≤ 2 ∧ pv_aI h (ρ a0 3) (x1).toNat ≠ 0) → (∀ j : Nat, (j : Int) < xL2_29 → pv_aI h_29 (ρ a0 1) j = pv_aI h (ρ a0 2) (1507 * (x1).toNat + j)) → 1599 - xL2_29 < nn → pv_T K 185 29 (pv_fl [some (.ref a0), some (.int (pv_I x1)), some (.int (pv_I xL2_29))]) [] h_29 (Q185F τ ρ h a0 x1) := by
    intro nn
    induction nn with
    | zero => intro h_29 xL2_29 hT_29 hF_29 rL1_29 rL2_29 i0_29 i1_29 hm; exfalso; omega
    | succ nn ih29 =>
      intro h_29 xL2_29 hT_29 hF_29 rL1_29 rL2_29 i0_29 i1_29 hm29
      have ei29 : pv_aI h_29 (ρ a0 2) = pv_aI h (ρ a0 2) := hF_29.aeq hR0_2 (by decide)
      refine pw_iload_n d185_29 rfl ?_
      refine pw_sipush d185_30 (by decide) ?_
      refine pw_icmp_ge d185_33 rfl (by omega) (by omega) (fun c33 => ?_) (fun c33 => ?_)
      · refine pw_iconst d185_60 ?_
        exact pw_ireturn d185_61 tt185 ⟨hT_29, hF_29, 0, rfl, (by omega), (by omega), (by first | exact hP0 | exact (hP1 (x1).toNat (by omega)).cg (fun j hj => i1_29 j (by omega)) (im_18 hT hR0_2 _ (by omega))), (by first | (rw [if_neg (by omega)]; done) | (rw [if_pos (by omega), if_pos (by omega)]; done) | (rw [if_pos (by omega), if_neg (by omega)]; done))⟩
      · refine pw_aload_n d185_36 rfl ?_
        refine pw_getR d185_37 g185_9 hT_29 hA0 rfl rfl (fun t37 => ?_)
        have t37 : τ (ρ a0 1) = some 40 := t37
        refine pw_iload_n d185_40 rfl ?_
        refine pw_aload_n d185_41 rfl ?_
        refine pw_getR d185_42 g185_13 hT_29 hA0 rfl rfl (fun t42 => ?_)
        have t42 : τ (ρ a0 2) = some 41 := t42
        refine pw_sipush d185_45 (by decide) ?_
        refine pw_iload_n d185_48 rfl ?_
        refine pw_imul d185_49 ?_
        refine pw_iload_n d185_50 rfl ?_
        refine pw_iadd d185_51 ?_
        refine pw_ialdB d185_52 hT_29 t42 rfl rfl (by omega) (by omega) (fun u52 => ?_)
        have u52 : pv_wok ((((1507 * x1) + xL2_29)) % 1507) (pv_aI h_29 (ρ a0 2) (((1507 * x1) + xL2_29)).toNat) := u52
        have vu52 := u52.1
        refine pw_iastB d185_53 hT_29 t37 rfl rfl rfl (by omega) (by omega) (by omega) (by show pv_wok xL2_29 _; rw [show ((1507 * x1) + xL2_29) % 1507 = xL2_29 by omega] at u52; exact u52) (fun h53 T53 F53 E53 => ?_)
        have f53 := hF_29.tr (F53.up (by decide))
        refine pw_iinc d185_54 m185 rfl rfl rfl ?_
        refine pw_goto d185_57 rfl ?_
        exact ih29 h53 ((xL2_29 + 1)) T53 f53 (by omega) (by omega) (by omega) (by first | (intro j hj; exfalso; omega) | exact cp_s i1_29 (by omega) (by rw [ei29, show ((1507 * x1) + xL2_29).toNat = 1507 * (x1).toNat + (xL2_29).toNat by omega]) (pe_at E53)) (by omega)
  refine pw_iload_n d185_0 rfl ?_
  refine pw_i2l d185_1 (by omega) ?_
  refine pw_lconst (z := 0) d185_2 (by decide) ?_
  refine pw_ldc2 (v := pv_J 2) d185_3 n185_3 ?_
  refine pw_callS3 d185_6 k185_73 rfl rfl (ct184 (τ := τ) (ρ := ρ) (by omega) (by omega) (by omega)) (fun r6 h6 q6 => ?_)
  obtain ⟨eh6, z6, ez6, lz6, uz6, pz6_0⟩ := q6
  subst eh6
  subst ez6
  refine pw_if_ne d185_9 rfl (by omega) (fun c9 => ?_) (fun c9 => ?_)
  · refine pw_aload_n d185_15 rfl ?_
    refine pw_getR d185_16 g185_16 hT hA0 rfl rfl (fun t16 => ?_)
    have t16 : τ (ρ a0 3) = some 42 := t16
    refine pw_iload_n d185_19 rfl ?_
    refine pw_bald d185_20 hT t16 rfl (by decide) rfl (by omega) (by omega) (fun u20 vu20 => ?_)
    refine pw_if_ne d185_21 rfl (by omega) (fun c21 => ?_) (fun c21 => ?_)
    · refine pw_iconst d185_27 ?_
      refine pw_istore_n d185_28 m185 rfl rfl ?_
      exact L29 _ h (0) hT hF0 (by omega) (by omega) (by omega) (by first | (intro j hj; exfalso; omega) | exact cp_s i1_29 (by omega) (by rw [ei29, show ((1507 * x1) + xL2_29).toNat = 1507 * (x1).toNat + (xL2_29).toNat by omega]) (pe_at E53)) (pv_mu _)
    · refine pw_bipush d185_24 (by decide) ?_
      exact pw_ireturn d185_26 tt185 ⟨hT, hF0, (-6), rfl, (by omega), (by omega), (by first | exact hP0 | exact (hP1 (x1).toNat (by omega)).cg (fun j hj => i1_29 j (by omega)) (im_18 hT hR0_2 _ (by omega))), (by first | (rw [if_neg (by omega)]; done) | (rw [if_pos (by omega), if_pos (by omega)]; done) | (rw [if_pos (by omega), if_neg (by omega)]; done))⟩
  · refine pw_bipush d185_12 (by decide) ?_
    exact pw_ireturn d185_14 tt185 ⟨hT, hF0, (-2), rfl, (by omega), (by omega), (by first | exact hP0 | exact (hP1 (x1).toNat (by omega)).cg (fun j hj => i1_29 j (by omega)) (im_18 hT hR0_2 _ (by omega))), (by first | (rw [if_neg (by omega)]; done) | (rw [if_pos (by omega), if_pos (by omega)]; done) | (rw [if_pos (by omega), if_neg (by omega)]; done))⟩
