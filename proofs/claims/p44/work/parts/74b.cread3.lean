abbrev Q201 (τ : Nat → Option Nat) (ρ : Nat → Nat → Nat) (h : pv_H) (a0 : Nat) : Option Value → pv_H → Prop := fun r h' => pv_Ty τ ρ h' ∧ pv_Fr τ [456, 457, 458, 459, 460, 461, 2943] h h' ∧ r = none ∧ (pv_fI h' a0 7 ≤ 1600 ∧ pv_fI h' a0 8 ≤ pv_fI h' a0 7 ∧ pv_fI h' a0 9 ≤ pv_fI h' a0 8 ∧ (pv_fI h' a0 10 ≠ 0 → pv_fI h' a0 9 < pv_fI h' a0 8) ∧ pv_fI h a0 9 ≤ pv_fI h' a0 9) ∧ (ps_T (pv_aI h (ρ a0 14)) (pv_aI h' (ρ a0 14)) (pv_fI h a0 12) (pv_fI h' a0 12)) ∧ (pv_aI h' (ρ a0 14) (2 : Int).toNat = pv_aI h (ρ a0 14) (2 : Int).toNat)
set_option maxHeartbeats 4000000 in
set_option maxRecDepth 20000 in
/-- AngleNetModel.readThird()V -/
theorem ct201 {τ : Nat → Option Nat} {ρ : Nat → Nat → Nat} {K : Nat → Nat} {h : pv_H} {a0 : Nat} (hK : pv_Kok K) (hT : pv_Ty τ ρ h) (hA0 : τ a0 = some 7) (hP0 : pv_fI h a0 7 ≤ 1600 ∧ pv_fI h a0 8 ≤ pv_fI h a0 7 ∧ pv_fI h a0 9 ≤ pv_fI h a0 8 ∧ (pv_fI h a0 10 ≠ 0 → pv_fI h a0 9 < pv_fI h a0 8)) (hP1 : pv_aI h (ρ a0 14) (1 : Int).toNat ≤ 17) (hP2 : pv_aI h (ρ a0 14) (2 : Int).toNat ≠ 0) : pv_C K 201 [.ref a0] h (Q201 τ ρ h a0) := by
  refine pw_entry 5 ?_
  show pv_T K 201 0 (pv_fl [some (.ref a0), none, none, none, none, none]) [] h (Q201 τ ρ h a0)
  have hR0_14 : τ (ρ a0 14) = some 45 := hT.rf (t' := 45) hA0 rfl rfl
  have hF0 : pv_Fr τ [456, 457, 458, 459, 460, 461, 2943] h h := pv_Fr.rf
  have J167 : ∀ (h_167 : pv_H) (xL1_167 xL2_167 xL3_167 xS0_167 : Int) (o4_167 o5_167 : Option Value), (pv_Ty τ ρ h_167) → (pv_Fr τ [456, 457, 458, 459, 460, 461, 2943] h h_167) → (0 ≤ xL1_167 ∧ xL1_167 ≤ 9) → (0 ≤ xL2_167 ∧ xL2_167 ≤ 9) → (0 ≤ xL3_167 ∧ xL3_167 ≤ 9) → (0 ≤ xS0_167 ∧ xS0_167 ≤ 540) → (pv_fI h_167 a0 7 ≤ 1600 ∧ pv_fI h_167 a0 8 ≤ pv_fI h_167 a0 7 ∧ pv_fI h_167 a0 9 ≤ pv_fI h_167 a0 8 ∧ (pv_fI h_167 a0 10 ≠ 0 → pv_fI h_167 a0 9 < pv_fI h_167 a0 8) ∧ pv_fI h a0 9 ≤ pv_fI h_167 a0 9) → (pv_aI h_167 (ρ a0 14) = pv_aI h (ρ a0 14)) → (pv_fI h_167 a0 12 = 0 → pv_fI h a0 12 = 0 ∧ xL1_167 ≠ xL2_167 ∧ xL3_167 ≠ xL1_167 ∧ xL3_167 ≠ xL2_167 ∧ xL1_167 < pv_aI h (ρ a0 14) (0 : Int).toNat ∧ xL2_167 < pv_aI h (ρ a0 14) (0 : Int).toNat ∧ xL3_167 < pv_aI h (ρ a0 14) (0 : Int).toNat) → (pv_fI h_167 a0 12 = 0 → pt_3 (pv_aI h (ρ a0 14)) xL1_167 xL2_167 xL3_167) → pv_T K 201 167 (pv_fl [some (.ref a0), some (.int (pv_I xL1_167)), some (.int (pv_I xL2_167)), some (.int (pv_I xL3_167)), o4_167, o5_167]) [.int (pv_I xS0_167)] h_167 (Q201 τ ρ h a0) := by
    intro h_167 xL1_167 xL2_167 xL3_167 xS0_167 o4_167 o5_167 hT_167 hF_167 rL1_167 rL2_167 rL3_167 rS0_167 i0_167 i1_167 i2_167 i3_167
    refine pw_istore d201_167 m201 rfl rfl ?_
    have e169 := congrFun i1_167 (1 : Int).toNat
    refine pw_bipush d201_169 (by decide) ?_
    refine pw_iconst d201_171 ?_
    refine pw_aload_n d201_172 rfl ?_
    refine pw_getR d201_173 g201_31 hT_167 hA0 rfl rfl (fun t173 => ?_)
    have t173 : τ (ρ a0 14) = some 45 := t173
    refine pw_iconst d201_176 ?_
    refine pw_ialdB d201_177 hT_167 t173 rfl rfl (by omega) (by omega) (fun u177 => ?_)
    have u177 : pv_wok ((1 : Int)) (pv_aI h_167 (ρ a0 14) ((1 : Int)).toNat) := u177
    have vu177 := u177.2.2.1 (by omega)
    refine pw_imul d201_178 ?_
    refine pw_iadd d201_179 ?_
    refine pw_istore d201_180 m201 rfl rfl ?_
    refine pw_aload_n d201_182 rfl ?_
    refine pw_getR d201_183 g201_31 hT_167 hA0 rfl rfl (fun t183 => ?_)
    have t183 : τ (ρ a0 14) = some 45 := t183
    refine pw_iload d201_186 rfl ?_
    refine pw_iload_n d201_188 rfl ?_
    refine pw_iastB d201_189 hT_167 t183 rfl rfl rfl (by omega) (by omega) (by omega) (by show pv_wok _ _; unfold pv_wok; omega) (fun h189 T189 F189 E189 => ?_)
    have f189 := hF_167.tr (F189.up (by decide))
    have q189 := ((F189 a0 7 hA0).1 7 (by decide)).1
    have q189b := ((F189 a0 7 hA0).1 8 (by decide)).1
    have q189c := ((F189 a0 7 hA0).1 9 (by decide)).1
    have q189d := ((F189 a0 7 hA0).1 10 (by decide)).1
    have q189e := ((F189 a0 7 hA0).1 11 (by decide)).1
    have q189f := ((F189 a0 7 hA0).1 12 (by decide)).1
    refine pw_aload_n d201_190 rfl ?_
    refine pw_getR d201_191 g201_31 T189 hA0 rfl rfl (fun t191 => ?_)
    have t191 : τ (ρ a0 14) = some 45 := t191
    refine pw_iload d201_194 rfl ?_
    refine pw_iconst d201_196 ?_
    refine pw_iadd d201_197 ?_
    refine pw_iload_n d201_198 rfl ?_
    refine pw_iastB d201_199 T189 t191 rfl rfl rfl (by omega) (by omega) (by omega) (by show pv_wok _ _; unfold pv_wok; omega) (fun h199 T199 F199 E199 => ?_)
    have f199 := f189.tr (F199.up (by decide))
    have q199 := ((F199 a0 7 hA0).1 7 (by decide)).1
    have q199b := ((F199 a0 7 hA0).1 8 (by decide)).1
    have q199c := ((F199 a0 7 hA0).1 9 (by decide)).1
    have q199d := ((F199 a0 7 hA0).1 10 (by decide)).1
    have q199e := ((F199 a0 7 hA0).1 11 (by decide)).1
    have q199f := ((F199 a0 7 hA0).1 12 (by decide)).1
    refine pw_aload_n d201_200 rfl ?_
    refine pw_getR d201_201 g201_31 T199 hA0 rfl rfl (fun t201 => ?_)
    have t201 : τ (ρ a0 14) = some 45 := t201
    refine pw_iload d201_204 rfl ?_
    refine pw_iconst d201_206 ?_
    refine pw_iadd d201_207 ?_
    refine pw_iload_n d201_208 rfl ?_
    refine pw_iastB d201_209 T199 t201 rfl rfl rfl (by omega) (by omega) (by omega) (by show pv_wok _ _; unfold pv_wok; omega) (fun h209 T209 F209 E209 => ?_)
    have f209 := f199.tr (F209.up (by decide))
    have q209 := ((F209 a0 7 hA0).1 7 (by decide)).1
    have q209b := ((F209 a0 7 hA0).1 8 (by decide)).1
    have q209c := ((F209 a0 7 hA0).1 9 (by decide)).1
    have q209d := ((F209 a0 7 hA0).1 10 (by decide)).1
    have q209e := ((F209 a0 7 hA0).1 11 (by decide)).1
    have q209f := ((F209 a0 7 hA0).1 12 (by decide)).1
    refine pw_aload_n d201_210 rfl ?_
    refine pw_getR d201_211 g201_31 T209 hA0 rfl rfl (fun t211 => ?_)
    have t211 : τ (ρ a0 14) = some 45 := t211
    refine pw_iload d201_214 rfl ?_
    refine pw_iconst d201_216 ?_
    refine pw_iadd d201_217 ?_
    refine pw_iload d201_218 rfl ?_
    refine pw_iastB d201_220 T209 t211 rfl rfl rfl (by omega) (by omega) (by omega) (by show pv_wok _ _; unfold pv_wok; omega) (fun h220 T220 F220 E220 => ?_)
    have f220 := f209.tr (F220.up (by decide))
    have q220 := ((F220 a0 7 hA0).1 7 (by decide)).1
    have q220b := ((F220 a0 7 hA0).1 8 (by decide)).1
    have q220c := ((F220 a0 7 hA0).1 9 (by decide)).1
    have q220d := ((F220 a0 7 hA0).1 10 (by decide)).1
    have q220e := ((F220 a0 7 hA0).1 11 (by decide)).1
    have q220f := ((F220 a0 7 hA0).1 12 (by decide)).1
    refine pw_aload_n d201_221 rfl ?_
    refine pw_getR d201_222 g201_31 T220 hA0 rfl rfl (fun t222 => ?_)
    have t222 : τ (ρ a0 14) = some 45 := t222
    refine pw_iconst d201_225 ?_
    refine pw_dup2 d201_226 rfl rfl ?_
    have e227 : pv_aI h220 (ρ a0 14) (1 : Int).toNat = pv_aI h_167 (ρ a0 14) (1 : Int).toNat := by rw [pe_at E220, if_neg (by omega), pe_at E209, if_neg (by omega), pe_at E199, if_neg (by omega), pe_at E189, if_neg (by omega)]
    refine pw_ialdB d201_227 T220 t222 rfl rfl (by omega) (by omega) (fun u227 => ?_)
    have u227 : pv_wok ((1 : Int)) (pv_aI h220 (ρ a0 14) ((1 : Int)).toNat) := u227
    have vu227 := u227.2.2.1 (by omega)
    refine pw_iconst d201_228 ?_
    refine pw_iadd d201_229 ?_
    refine pw_iastB d201_230 T220 t222 rfl rfl rfl (by omega) (by omega) (by omega) (by show pv_wok _ _; unfold pv_wok; omega) (fun h230 T230 F230 E230 => ?_)
    have f230 := f220.tr (F230.up (by decide))
    have q230 := ((F230 a0 7 hA0).1 7 (by decide)).1
    have q230b := ((F230 a0 7 hA0).1 8 (by decide)).1
    have q230c := ((F230 a0 7 hA0).1 9 (by decide)).1
    have q230d := ((F230 a0 7 hA0).1 10 (by decide)).1
    have q230e := ((F230 a0 7 hA0).1 11 (by decide)).1
    have q230f := ((F230 a0 7 hA0).1 12 (by decide)).1
    exact pw_return d201_231 tt201 ⟨T230, f230, rfl, (by omega), (by exact rt_fin (k := 8 + 4 * pv_aI h_167 (ρ a0 14) (1 : Int).toNat) (n := pv_aI h (ρ a0 14) (1 : Int).toNat) rfl (by omega) (by omega) (by rw [← i1_167]; exact pe_at E189) (pe_at E199) (pe_at E209) (pe_at E220) (pe_at E230) (by omega) (by omega) (by omega) (by omega) (by omega) (by omega) (fun e => i3_167 (by omega)) hP2 (by omega)), (by rw [pe_at E230, if_neg (by decide), pe_at E220, if_neg (by omega), pe_at E209, if_neg (by omega), pe_at E199, if_neg (by omega), pe_at E189, if_neg (by omega), i1_167])⟩
  have J139 : ∀ (h_139 : pv_H) (xL1_139 xL2_139 : Int) (o3_139 o4_139 o5_139 : Option Value), (pv_Ty τ ρ h_139) → (pv_Fr τ [456, 457, 458, 459, 460, 461, 2943] h h_139) → (0 ≤ xL1_139 ∧ xL1_139 ≤ 9) → (0 ≤ xL2_139 ∧ xL2_139 ≤ 9) → (pv_fI h_139 a0 7 ≤ 1600 ∧ pv_fI h_139 a0 8 ≤ pv_fI h_139 a0 7 ∧ pv_fI h_139 a0 9 ≤ pv_fI h_139 a0 8 ∧ (pv_fI h_139 a0 10 ≠ 0 → pv_fI h_139 a0 9 < pv_fI h_139 a0 8) ∧ pv_fI h a0 9 ≤ pv_fI h_139 a0 9) → (pv_aI h_139 (ρ a0 14) = pv_aI h (ρ a0 14)) → (pv_fI h_139 a0 12 = 0 → pv_fI h a0 12 = 0 ∧ xL1_139 ≠ xL2_139 ∧ xL1_139 < pv_aI h (ρ a0 14) (0 : Int).toNat ∧ xL2_139 < pv_aI h (ρ a0 14) (0 : Int).toNat ∧ (pv_fI h_139 a0 10 = 2 → 0 ≤ pv_fI h_139 a0 11 → pv_fI h_139 a0 11 < pv_aI h (ρ a0 14) (0 : Int).toNat → pv_fI h_139 a0 11 ≠ xL1_139 ∧ pv_fI h_139 a0 11 ≠ xL2_139)) → (pv_fI h_139 a0 12 = 0 → pv_fI h_139 a0 10 = 2 → 0 ≤ pv_fI h_139 a0 11 → pv_fI h_139 a0 11 < pv_aI h (ρ a0 14) (0 : Int).toNat → pt_3 (pv_aI h (ρ a0 14)) xL1_139 xL2_139 (pv_fI h_139 a0 11)) → pv_T K 201 139 (pv_fl [some (.ref a0), some (.int (pv_I xL1_139)), some (.int (pv_I xL2_139)), o3_139, o4_139, o5_139]) [] h_139 (Q201 τ ρ h a0) := by
    intro h_139 xL1_139 xL2_139 o3_139 o4_139 o5_139 hT_139 hF_139 rL1_139 rL2_139 i0_139 i1_139 i2_139 i3_139
    have e139 := congrFun i1_139 (0 : Int).toNat
    refine pw_aload_n d201_139 rfl ?_
    refine pw_callV0 d201_140 k201_160 hT_139 hA0 rfl rfl rfl (ct202 (τ := τ) (ρ := ρ) hT_139 hA0 (by first | assumption | omega)) (fun r140 h140 q140 => ?_)
    obtain ⟨T140, F140, z140, ez140, lz140, uz140, pz140_0, pz140_1⟩ := q140
    subst ez140
    have f140 := hF_139.tr (F140.up (by decide))
    have q140b := ((F140 a0 7 hA0).1 7 (by decide)).1
    refine pw_istore_n d201_143 m201 rfl rfl ?_
    refine pw_aload_n d201_144 rfl ?_
    refine pw_ldcS d201_145 n201_145.1 n201_145.2 ?_
    refine pw_callV1 d201_147 k201_142 T140 hA0 rfl rfl rfl (ct196 (τ := τ) (ρ := ρ) hK T140 hA0 (by decide) (by first | assumption | omega)) (fun r147 h147 q147 => ?_)
    obtain ⟨T147, F147, z147, ez147, lz147, uz147, pz147_0, pz147_1⟩ := q147
    subst ez147
    have f147 := f140.tr (F147.up (by decide))
    have q147b := ((F147 a0 7 hA0).1 7 (by decide)).1
    have q147c := ((F147 a0 7 hA0).1 12 (by decide)).1
    refine pw_if_eq d201_150 rfl (by omega) (fun c150 => ?_) (fun c150 => ?_)
    · refine pw_sipush d201_164 (by decide) ?_
      exact J167 h147 (xL1_139) (xL2_139) (z140) (180) _ _ T147 f147 (by omega) (by omega) (by omega) (by omega) (by omega) (by first | exact ((F147.aeq hR0_14 (by decide)).trans (F140.aeq hR0_14 (by decide))).trans i1_139 | exact (((F158.aeq hR0_14 (by decide)).trans (F147.aeq hR0_14 (by decide))).trans (F140.aeq hR0_14 (by decide))).trans i1_139) (by omega) (by (intro h9; rw [show z140 = pv_fI h_139 a0 11 by omega]; exact i3_139 (by omega) (by omega) (by omega) (by omega)))
    · refine pw_aload_n d201_153 rfl ?_
      refine pw_iconst d201_154 ?_
      refine pw_sipush d201_155 (by decide) ?_
      refine pw_callV2 d201_158 k201_153 T147 hA0 rfl rfl rfl (ct199 (τ := τ) (ρ := ρ) T147 hA0 (by omega) (by omega) (by first | assumption | omega)) (fun r158 h158 q158 => ?_)
      obtain ⟨T158, F158, z158, ez158, lz158, uz158, pz158_0, pz158_1⟩ := q158
      subst ez158
      have f158 := f147.tr (F158.up (by decide))
      have q158b := ((F158 a0 7 hA0).1 7 (by decide)).1
      refine pw_goto d201_161 rfl ?_
      exact J167 h158 (xL1_139) (xL2_139) (z140) (z158) _ _ T158 f158 (by omega) (by omega) (by omega) (by omega) (by omega) (by first | exact ((F147.aeq hR0_14 (by decide)).trans (F140.aeq hR0_14 (by decide))).trans i1_139 | exact (((F158.aeq hR0_14 (by decide)).trans (F147.aeq hR0_14 (by decide))).trans (F140.aeq hR0_14 (by decide))).trans i1_139) (by omega) (by (intro h9; rw [show z140 = pv_fI h_139 a0 11 by omega]; exact i3_139 (by omega) (by omega) (by omega) (by omega)))
  refine pw_aload_n d201_0 rfl ?_
  refine pw_callV0 d201_1 k201_160 hT hA0 rfl rfl rfl (ct202 (τ := τ) (ρ := ρ) hT hA0 (by first | assumption | omega)) (fun r1 h1 q1 => ?_)
  obtain ⟨T1, F1, z1, ez1, lz1, uz1, pz1_0, pz1_1⟩ := q1
  subst ez1
  have f1 := hF0.tr (F1.up (by decide))
  have q1b := ((F1 a0 7 hA0).1 7 (by decide)).1
  refine pw_istore_n d201_4 m201 rfl rfl ?_
  have e5 := congrFun (F1.aeq hR0_14 (by decide)) (0 : Int).toNat
  refine pw_aload_n d201_5 rfl ?_
  refine pw_iload_n d201_6 rfl ?_
  refine pw_callV1 d201_7 k201_163 T1 hA0 rfl rfl rfl (ct203 (τ := τ) (ρ := ρ) T1 hA0 (by omega) (by first | assumption | omega)) (fun r7 h7 q7 => ?_)
  obtain ⟨T7, F7, z7, ez7, lz7, uz7, pz7_0, pz7_1⟩ := q7
  subst ez7
  have f7 := f1.tr (F7.up (by decide))
  have q7b := ((F7 a0 7 hA0).1 7 (by decide)).1
  refine pw_istore_n d201_10 m201 rfl rfl ?_
  have e11 : pv_aI h7 (ρ a0 14) = pv_aI h (ρ a0 14) := (F7.aeq hR0_14 (by decide)).trans (F1.aeq hR0_14 (by decide))
  have e110 := congrFun e11 (0 : Int).toNat
  refine pw_aload_n d201_11 rfl ?_
  refine pw_callV0 d201_12 k201_121 T7 hA0 rfl rfl rfl (ct192 (τ := τ) (ρ := ρ) T7 hA0) (fun r12 h12 q12 => ?_)
  obtain ⟨eh12, z12, ez12, lz12, uz12, pz12_0⟩ := q12
  subst eh12
  subst ez12
  refine pw_if_eq d201_15 rfl (by omega) (fun c15 => ?_) (fun c15 => ?_)
  · exact J139 h7 (z1) (z7) _ _ _ T7 f7 (by omega) (by omega) (by omega) (by first | exact e11 | exact (F136.aeq hR0_14 (by decide)).trans e11) (by omega) (by first | (intro h1 h2 h3 h4; exfalso; omega) | (intro _ _ _ _; rw [← e11]; exact pz118_0 (by omega)))
  · refine pw_aload_n d201_18 rfl ?_
    refine pw_getI d201_19 g201_97 T7 hA0 rfl rfl (fun u19 vu19 => ?_)
    refine pw_iconst d201_22 ?_
    refine pw_icmp_ne d201_23 rfl (by omega) (by omega) (fun c23 => ?_) (fun c23 => ?_)
    · exact J139 h7 (z1) (z7) _ _ _ T7 f7 (by omega) (by omega) (by omega) (by first | exact e11 | exact (F136.aeq hR0_14 (by decide)).trans e11) (by omega) (by first | (intro h1 h2 h3 h4; exfalso; omega) | (intro _ _ _ _; rw [← e11]; exact pz118_0 (by omega)))
    · refine pw_aload_n d201_26 rfl ?_
      refine pw_getI d201_27 g201_108 T7 hA0 rfl rfl (fun u27 vu27 => ?_)
      refine pw_i2l d201_30 (by omega) ?_
      refine pw_lconst (z := 0) d201_31 (by decide) ?_
      refine pw_aload_n d201_32 rfl ?_
      refine pw_getR d201_33 g201_31 T7 hA0 rfl rfl (fun t33 => ?_)
      have t33 : τ (ρ a0 14) = some 45 := t33
      refine pw_iconst d201_36 ?_
      refine pw_ialdB d201_37 T7 t33 rfl rfl (by omega) (by omega) (fun u37 => ?_)
      have u37 : pv_wok ((0 : Int)) (pv_aI h7 (ρ a0 14) ((0 : Int)).toNat) := u37
      have vu37 := u37.2.1 (by omega)
      refine pw_iconst d201_38 ?_
      refine pw_isub d201_39 ?_
      refine pw_i2l d201_40 (by omega) ?_
      refine pw_callS3 d201_41 k201_73 rfl rfl (ct184 (τ := τ) (ρ := ρ) (by omega) (by omega) (by omega)) (fun r41 h41 q41 => ?_)
      obtain ⟨eh41, z41, ez41, lz41, uz41, pz41_0⟩ := q41
      subst eh41
      subst ez41
      refine pw_if_eq d201_44 rfl (by omega) (fun c44 => ?_) (fun c44 => ?_)
      · exact J139 h7 (z1) (z7) _ _ _ T7 f7 (by omega) (by omega) (by omega) (by first | exact e11 | exact (F136.aeq hR0_14 (by decide)).trans e11) (by omega) (by first | (intro h1 h2 h3 h4; exfalso; omega) | (intro _ _ _ _; rw [← e11]; exact pz118_0 (by omega)))
      · refine pw_aload_n d201_47 rfl ?_
        refine pw_getI d201_48 g201_108 T7 hA0 rfl rfl (fun u48 vu48 => ?_)
        refine pw_iload_n d201_51 rfl ?_
        refine pw_icmp_eq d201_52 rfl (by omega) (by omega) (fun c52 => ?_) (fun c52 => ?_)
        · refine pw_iconst d201_124 ?_
          refine pw_goto d201_125 rfl ?_
          refine pw_istore_n d201_129 m201 rfl rfl ?_
          refine pw_iload_n d201_130 rfl ?_
          refine pw_if_eq d201_131 rfl (by omega) (fun c131 => ?_) (fun c131 => ?_)
          · exfalso; omega
          · refine pw_aload_n d201_134 rfl ?_
            refine pw_iconst d201_135 ?_
            refine pw_callV1 d201_136 k201_145 T7 hA0 rfl rfl rfl (ct198F (τ := τ) (ρ := ρ) T7 hA0 (by omega)) (fun r136 h136 q136 => ?_)
            obtain ⟨T136, F136, ez136, pz136_0, pz136_1⟩ := q136
            subst ez136
            have f136 := f7.tr (F136.up (by decide))
            have q136b := ((F136 a0 7 hA0).1 7 (by decide)).1
            have q136c := ((F136 a0 7 hA0).1 8 (by decide)).1
            have q136d := ((F136 a0 7 hA0).1 9 (by decide)).1
            have q136e := ((F136 a0 7 hA0).1 10 (by decide)).1
            have q136f := ((F136 a0 7 hA0).1 11 (by decide)).1
            exact J139 h136 (z1) (z7) _ _ _ T136 f136 (by omega) (by omega) (by omega) (by first | exact e11 | exact (F136.aeq hR0_14 (by decide)).trans e11) (by omega) (by first | (intro h1 h2 h3 h4; exfalso; omega) | (intro _ _ _ _; rw [← e11]; exact pz118_0 (by omega)))
        · refine pw_aload_n d201_55 rfl ?_
          refine pw_getI d201_56 g201_108 T7 hA0 rfl rfl (fun u56 vu56 => ?_)
          refine pw_iload_n d201_59 rfl ?_
          refine pw_icmp_eq d201_60 rfl (by omega) (by omega) (fun c60 => ?_) (fun c60 => ?_)
          · refine pw_iconst d201_124 ?_
            refine pw_goto d201_125 rfl ?_
            refine pw_istore_n d201_129 m201 rfl rfl ?_
            refine pw_iload_n d201_130 rfl ?_
            refine pw_if_eq d201_131 rfl (by omega) (fun c131 => ?_) (fun c131 => ?_)
            · exfalso; omega
            · refine pw_aload_n d201_134 rfl ?_
              refine pw_iconst d201_135 ?_
              refine pw_callV1 d201_136 k201_145 T7 hA0 rfl rfl rfl (ct198F (τ := τ) (ρ := ρ) T7 hA0 (by omega)) (fun r136 h136 q136 => ?_)
              obtain ⟨T136, F136, ez136, pz136_0, pz136_1⟩ := q136
              subst ez136
              have f136 := f7.tr (F136.up (by decide))
              have q136b := ((F136 a0 7 hA0).1 7 (by decide)).1
              have q136c := ((F136 a0 7 hA0).1 8 (by decide)).1
              have q136d := ((F136 a0 7 hA0).1 9 (by decide)).1
              have q136e := ((F136 a0 7 hA0).1 10 (by decide)).1
              have q136f := ((F136 a0 7 hA0).1 11 (by decide)).1
              exact J139 h136 (z1) (z7) _ _ _ T136 f136 (by omega) (by omega) (by omega) (by first | exact e11 | exact (F136.aeq hR0_14 (by decide)).trans e11) (by omega) (by first | (intro h1 h2 h3 h4; exfalso; omega) | (intro _ _ _ _; rw [← e11]; exact pz118_0 (by omega)))
          · refine pw_aload_n d201_63 rfl ?_
            refine pw_getR d201_64 g201_31 T7 hA0 rfl rfl (fun t64 => ?_)
            have t64 : τ (ρ a0 14) = some 45 := t64
            refine pw_iload_n d201_67 rfl ?_
            refine pw_iload_n d201_68 rfl ?_
            refine pw_callS3 d201_69 k201_166 rfl rfl (ct204fF (τ := τ) (ρ := ρ) T7 t64 (by omega) (by omega)) (fun r69 h69 q69 => ?_)
            obtain ⟨eh69, z69, ez69, lz69, uz69, pz69_0⟩ := q69
            subst eh69
            subst ez69
            refine pw_iconst d201_72 ?_
            refine pw_icmp_eq d201_73 rfl (by omega) (by omega) (fun c73 => ?_) (fun c73 => ?_)
            · refine pw_iconst d201_124 ?_
              refine pw_goto d201_125 rfl ?_
              refine pw_istore_n d201_129 m201 rfl rfl ?_
              refine pw_iload_n d201_130 rfl ?_
              refine pw_if_eq d201_131 rfl (by omega) (fun c131 => ?_) (fun c131 => ?_)
              · exfalso; omega
              · refine pw_aload_n d201_134 rfl ?_
                refine pw_iconst d201_135 ?_
                refine pw_callV1 d201_136 k201_145 T7 hA0 rfl rfl rfl (ct198F (τ := τ) (ρ := ρ) T7 hA0 (by omega)) (fun r136 h136 q136 => ?_)
                obtain ⟨T136, F136, ez136, pz136_0, pz136_1⟩ := q136
                subst ez136
                have f136 := f7.tr (F136.up (by decide))
                have q136b := ((F136 a0 7 hA0).1 7 (by decide)).1
                have q136c := ((F136 a0 7 hA0).1 8 (by decide)).1
                have q136d := ((F136 a0 7 hA0).1 9 (by decide)).1
                have q136e := ((F136 a0 7 hA0).1 10 (by decide)).1
                have q136f := ((F136 a0 7 hA0).1 11 (by decide)).1
                exact J139 h136 (z1) (z7) _ _ _ T136 f136 (by omega) (by omega) (by omega) (by first | exact e11 | exact (F136.aeq hR0_14 (by decide)).trans e11) (by omega) (by first | (intro h1 h2 h3 h4; exfalso; omega) | (intro _ _ _ _; rw [← e11]; exact pz118_0 (by omega)))
            · refine pw_aload_n d201_76 rfl ?_
              refine pw_getR d201_77 g201_31 T7 hA0 rfl rfl (fun t77 => ?_)
              have t77 : τ (ρ a0 14) = some 45 := t77
              refine pw_iload_n d201_80 rfl ?_
              refine pw_aload_n d201_81 rfl ?_
              refine pw_getI d201_82 g201_108 T7 hA0 rfl rfl (fun u82 vu82 => ?_)
              refine pw_callS3 d201_85 k201_166 rfl rfl (ct204fF (τ := τ) (ρ := ρ) T7 t77 (by omega) (by omega)) (fun r85 h85 q85 => ?_)
              obtain ⟨eh85, z85, ez85, lz85, uz85, pz85_0⟩ := q85
              subst eh85
              subst ez85
              refine pw_iconst d201_88 ?_
              refine pw_icmp_eq d201_89 rfl (by omega) (by omega) (fun c89 => ?_) (fun c89 => ?_)
              · refine pw_iconst d201_124 ?_
                refine pw_goto d201_125 rfl ?_
                refine pw_istore_n d201_129 m201 rfl rfl ?_
                refine pw_iload_n d201_130 rfl ?_
                refine pw_if_eq d201_131 rfl (by omega) (fun c131 => ?_) (fun c131 => ?_)
                · exfalso; omega
                · refine pw_aload_n d201_134 rfl ?_
                  refine pw_iconst d201_135 ?_
                  refine pw_callV1 d201_136 k201_145 T7 hA0 rfl rfl rfl (ct198F (τ := τ) (ρ := ρ) T7 hA0 (by omega)) (fun r136 h136 q136 => ?_)
                  obtain ⟨T136, F136, ez136, pz136_0, pz136_1⟩ := q136
                  subst ez136
                  have f136 := f7.tr (F136.up (by decide))
                  have q136b := ((F136 a0 7 hA0).1 7 (by decide)).1
                  have q136c := ((F136 a0 7 hA0).1 8 (by decide)).1
                  have q136d := ((F136 a0 7 hA0).1 9 (by decide)).1
                  have q136e := ((F136 a0 7 hA0).1 10 (by decide)).1
                  have q136f := ((F136 a0 7 hA0).1 11 (by decide)).1
                  exact J139 h136 (z1) (z7) _ _ _ T136 f136 (by omega) (by omega) (by omega) (by first | exact e11 | exact (F136.aeq hR0_14 (by decide)).trans e11) (by omega) (by first | (intro h1 h2 h3 h4; exfalso; omega) | (intro _ _ _ _; rw [← e11]; exact pz118_0 (by omega)))
              · refine pw_aload_n d201_92 rfl ?_
                refine pw_getR d201_93 g201_31 T7 hA0 rfl rfl (fun t93 => ?_)
                have t93 : τ (ρ a0 14) = some 45 := t93
                refine pw_iload_n d201_96 rfl ?_
                refine pw_aload_n d201_97 rfl ?_
                refine pw_getI d201_98 g201_108 T7 hA0 rfl rfl (fun u98 vu98 => ?_)
                refine pw_callS3 d201_101 k201_166 rfl rfl (ct204fF (τ := τ) (ρ := ρ) T7 t93 (by omega) (by omega)) (fun r101 h101 q101 => ?_)
                obtain ⟨eh101, z101, ez101, lz101, uz101, pz101_0⟩ := q101
                subst eh101
                subst ez101
                refine pw_iconst d201_104 ?_
                refine pw_icmp_eq d201_105 rfl (by omega) (by omega) (fun c105 => ?_) (fun c105 => ?_)
                · refine pw_iconst d201_124 ?_
                  refine pw_goto d201_125 rfl ?_
                  refine pw_istore_n d201_129 m201 rfl rfl ?_
                  refine pw_iload_n d201_130 rfl ?_
                  refine pw_if_eq d201_131 rfl (by omega) (fun c131 => ?_) (fun c131 => ?_)
                  · exfalso; omega
                  · refine pw_aload_n d201_134 rfl ?_
                    refine pw_iconst d201_135 ?_
                    refine pw_callV1 d201_136 k201_145 T7 hA0 rfl rfl rfl (ct198F (τ := τ) (ρ := ρ) T7 hA0 (by omega)) (fun r136 h136 q136 => ?_)
                    obtain ⟨T136, F136, ez136, pz136_0, pz136_1⟩ := q136
                    subst ez136
                    have f136 := f7.tr (F136.up (by decide))
                    have q136b := ((F136 a0 7 hA0).1 7 (by decide)).1
                    have q136c := ((F136 a0 7 hA0).1 8 (by decide)).1
                    have q136d := ((F136 a0 7 hA0).1 9 (by decide)).1
                    have q136e := ((F136 a0 7 hA0).1 10 (by decide)).1
                    have q136f := ((F136 a0 7 hA0).1 11 (by decide)).1
                    exact J139 h136 (z1) (z7) _ _ _ T136 f136 (by omega) (by omega) (by omega) (by first | exact e11 | exact (F136.aeq hR0_14 (by decide)).trans e11) (by omega) (by first | (intro h1 h2 h3 h4; exfalso; omega) | (intro _ _ _ _; rw [← e11]; exact pz118_0 (by omega)))
                · refine pw_aload_n d201_108 rfl ?_
                  refine pw_getR d201_109 g201_31 T7 hA0 rfl rfl (fun t109 => ?_)
                  have t109 : τ (ρ a0 14) = some 45 := t109
                  refine pw_iload_n d201_112 rfl ?_
                  refine pw_iload_n d201_113 rfl ?_
                  refine pw_aload_n d201_114 rfl ?_
                  refine pw_getI d201_115 g201_108 T7 hA0 rfl rfl (fun u115 vu115 => ?_)
                  refine pw_callS4 d201_118 k201_170 rfl rfl (ct206F (τ := τ) (ρ := ρ) T7 t109 (by omega) (by omega) (by omega)) (fun r118 h118 q118 => ?_)
                  obtain ⟨eh118, z118, ez118, lz118, uz118, pz118_0⟩ := q118
                  subst eh118
                  subst ez118
                  refine pw_if_eq d201_121 rfl (by omega) (fun c121 => ?_) (fun c121 => ?_)
                  · refine pw_iconst d201_128 ?_
                    refine pw_istore_n d201_129 m201 rfl rfl ?_
                    refine pw_iload_n d201_130 rfl ?_
                    refine pw_if_eq d201_131 rfl (by omega) (fun c131 => ?_) (fun c131 => ?_)
                    · exact J139 h7 (z1) (z7) _ _ _ T7 f7 (by omega) (by omega) (by omega) (by first | exact e11 | exact (F136.aeq hR0_14 (by decide)).trans e11) (by omega) (by first | (intro h1 h2 h3 h4; exfalso; omega) | (intro _ _ _ _; rw [← e11]; exact pz118_0 (by omega)))
                    · exfalso; omega
                  · refine pw_iconst d201_124 ?_
                    refine pw_goto d201_125 rfl ?_
                    refine pw_istore_n d201_129 m201 rfl rfl ?_
                    refine pw_iload_n d201_130 rfl ?_
                    refine pw_if_eq d201_131 rfl (by omega) (fun c131 => ?_) (fun c131 => ?_)
                    · exfalso; omega
                    · refine pw_aload_n d201_134 rfl ?_
                      refine pw_iconst d201_135 ?_
                      refine pw_callV1 d201_136 k201_145 T7 hA0 rfl rfl rfl (ct198F (τ := τ) (ρ := ρ) T7 hA0 (by omega)) (fun r136 h136 q136 => ?_)
                      obtain ⟨T136, F136, ez136, pz136_0, pz136_1⟩ := q136
                      subst ez136
                      have f136 := f7.tr (F136.up (by decide))
                      have q136b := ((F136 a0 7 hA0).1 7 (by decide)).1
                      have q136c := ((F136 a0 7 hA0).1 8 (by decide)).1
                      have q136d := ((F136 a0 7 hA0).1 9 (by decide)).1
                      have q136e := ((F136 a0 7 hA0).1 10 (by decide)).1
                      have q136f := ((F136 a0 7 hA0).1 11 (by decide)).1
                      exact J139 h136 (z1) (z7) _ _ _ T136 f136 (by omega) (by omega) (by omega) (by first | exact e11 | exact (F136.aeq hR0_14 (by decide)).trans e11) (by omega) (by first | (intro h1 h2 h3 h4; exfalso; omega) | (intro _ _ _ _; rw [← e11]; exact pz118_0 (by omega)))

abbrev Q208 (τ : Nat → Option Nat) (ρ : Nat → Nat → Nat) (h : pv_H) (a0 : Nat) : Option Value → pv_H → Prop := fun r h' => pv_Ty τ ρ h' ∧ pv_Fr τ [456, 457, 458, 459, 460, 461, 2943] h h' ∧ r = none ∧ (pv_fI h' a0 7 ≤ 1600 ∧ pv_fI h' a0 8 ≤ pv_fI h' a0 7 ∧ pv_fI h' a0 9 ≤ pv_fI h' a0 8 ∧ (pv_fI h' a0 10 ≠ 0 → pv_fI h' a0 9 < pv_fI h' a0 8) ∧ pv_fI h a0 9 ≤ pv_fI h' a0 9) ∧ (ps_T (pv_aI h (ρ a0 14)) (pv_aI h' (ρ a0 14)) (pv_fI h a0 12) (pv_fI h' a0 12)) ∧ (pv_aI h' (ρ a0 14) (2 : Int).toNat = pv_aI h (ρ a0 14) (2 : Int).toNat)
set_option maxHeartbeats 4000000 in
set_option maxRecDepth 20000 in
/-- AngleNetModel.readWeight()V -/
theorem ct208 {τ : Nat → Option Nat} {ρ : Nat → Nat → Nat} {K : Nat → Nat} {h : pv_H} {a0 : Nat} (hT : pv_Ty τ ρ h) (hA0 : τ a0 = some 7) (hP0 : pv_fI h a0 7 ≤ 1600 ∧ pv_fI h a0 8 ≤ pv_fI h a0 7 ∧ pv_fI h a0 9 ≤ pv_fI h a0 8 ∧ (pv_fI h a0 10 ≠ 0 → pv_fI h a0 9 < pv_fI h a0 8)) : pv_C K 208 [.ref a0] h (Q208 τ ρ h a0) := by
  refine pw_entry 3 ?_
  show pv_T K 208 0 (pv_fl [some (.ref a0), none, none, none]) [] h (Q208 τ ρ h a0)
  have hR0_14 : τ (ρ a0 14) = some 45 := hT.rf (t' := 45) hA0 rfl rfl
  have hF0 : pv_Fr τ [456, 457, 458, 459, 460, 461, 2943] h h := pv_Fr.rf
  have J69 : ∀ (h_69 : pv_H) (xL1_69 : Int) (o2_69 o3_69 : Option Value), (pv_Ty τ ρ h_69) → (pv_Fr τ [456, 457, 458, 459, 460, 461, 2943] h h_69) → (0 ≤ xL1_69 ∧ xL1_69 ≤ 9) → (pv_fI h_69 a0 7 ≤ 1600 ∧ pv_fI h_69 a0 8 ≤ pv_fI h_69 a0 7 ∧ pv_fI h_69 a0 9 ≤ pv_fI h_69 a0 8 ∧ (pv_fI h_69 a0 10 ≠ 0 → pv_fI h_69 a0 9 < pv_fI h_69 a0 8) ∧ pv_fI h a0 9 ≤ pv_fI h_69 a0 9) → (pv_aI h_69 (ρ a0 14) = pv_aI h (ρ a0 14)) → (pv_fI h_69 a0 12 = 0 → pv_fI h a0 12 = 0) → pv_T K 208 69 (pv_fl [some (.ref a0), some (.int (pv_I xL1_69)), o2_69, o3_69]) [] h_69 (Q208 τ ρ h a0) := by
    intro h_69 xL1_69 o2_69 o3_69 hT_69 hF_69 rL1_69 i0_69 i1_69 i2_69
    refine pw_aload_n d208_69 rfl ?_
    refine pw_callV0 d208_70 k208_160 hT_69 hA0 rfl rfl rfl (ct202 (τ := τ) (ρ := ρ) hT_69 hA0 (by first | assumption | omega)) (fun r70 h70 q70 => ?_)
    obtain ⟨T70, F70, z70, ez70, lz70, uz70, pz70_0, pz70_1⟩ := q70
    subst ez70
    have f70 := hF_69.tr (F70.up (by decide))
    have q70b := ((F70 a0 7 hA0).1 7 (by decide)).1
    refine pw_istore_n d208_73 m208 rfl rfl ?_
    refine pw_aload_n d208_74 rfl ?_
    refine pw_iconst d208_75 ?_
    refine pw_sipush d208_76 (by decide) ?_
    refine pw_callV2 d208_79 k208_153 T70 hA0 rfl rfl rfl (ct199 (τ := τ) (ρ := ρ) T70 hA0 (by omega) (by omega) (by first | assumption | omega)) (fun r79 h79 q79 => ?_)
    obtain ⟨T79, F79, z79, ez79, lz79, uz79, pz79_0, pz79_1⟩ := q79
    subst ez79
    have f79 := f70.tr (F79.up (by decide))
    have q79b := ((F79 a0 7 hA0).1 7 (by decide)).1
    refine pw_istore_n d208_82 m208 rfl rfl ?_
    refine pw_aload_n d208_83 rfl ?_
    refine pw_getR d208_84 g208_31 T79 hA0 rfl rfl (fun t84 => ?_)
    have t84 : τ (ρ a0 14) = some 45 := t84
    refine pw_bipush d208_87 (by decide) ?_
    refine pw_bipush d208_89 (by decide) ?_
    refine pw_iload_n d208_91 rfl ?_
    refine pw_imul d208_92 ?_
    refine pw_iadd d208_93 ?_
    refine pw_iload_n d208_94 rfl ?_
    refine pw_iadd d208_95 ?_
    refine pw_iload_n d208_96 rfl ?_
    refine pw_iastB d208_97 T79 t84 rfl rfl rfl (by omega) (by omega) (by omega) (by show pv_wok _ _; unfold pv_wok; omega) (fun h97 T97 F97 E97 => ?_)
    have f97 := f79.tr (F97.up (by decide))
    have q97 := ((F97 a0 7 hA0).1 7 (by decide)).1
    have q97b := ((F97 a0 7 hA0).1 8 (by decide)).1
    have q97c := ((F97 a0 7 hA0).1 9 (by decide)).1
    have q97d := ((F97 a0 7 hA0).1 10 (by decide)).1
    have q97e := ((F97 a0 7 hA0).1 11 (by decide)).1
    have q97f := ((F97 a0 7 hA0).1 12 (by decide)).1
    refine pw_aload_n d208_98 rfl ?_
    refine pw_getR d208_99 g208_31 T97 hA0 rfl rfl (fun t99 => ?_)
    have t99 : τ (ρ a0 14) = some 45 := t99
    refine pw_bipush d208_102 (by decide) ?_
    refine pw_bipush d208_104 (by decide) ?_
    refine pw_iload_n d208_106 rfl ?_
    refine pw_imul d208_107 ?_
    refine pw_iadd d208_108 ?_
    refine pw_iload_n d208_109 rfl ?_
    refine pw_iadd d208_110 ?_
    refine pw_iload_n d208_111 rfl ?_
    refine pw_iastB d208_112 T97 t99 rfl rfl rfl (by omega) (by omega) (by omega) (by show pv_wok _ _; unfold pv_wok; omega) (fun h112 T112 F112 E112 => ?_)
    have f112 := f97.tr (F112.up (by decide))
    have q112 := ((F112 a0 7 hA0).1 7 (by decide)).1
    have q112b := ((F112 a0 7 hA0).1 8 (by decide)).1
    have q112c := ((F112 a0 7 hA0).1 9 (by decide)).1
    have q112d := ((F112 a0 7 hA0).1 10 (by decide)).1
    have q112e := ((F112 a0 7 hA0).1 11 (by decide)).1
    have q112f := ((F112 a0 7 hA0).1 12 (by decide)).1
    exact pw_return d208_113 tt208 ⟨T112, f112, rfl, (by omega), (by exact ps_T.of (((pt_s.eq (((F79.aeq hR0_14 (by decide)).trans (F70.aeq hR0_14 (by decide))).trans i1_69)).wr' (pe_at E97) (by omega)).wr' (pe_at E112) (by omega)) ((hT.wc hR0_14 (j := 1) rfl (by decide)).2.2.1 (by decide) |>.2) (by omega)), (by exact (((pt_s.eq (((F79.aeq hR0_14 (by decide)).trans (F70.aeq hR0_14 (by decide))).trans i1_69)).wr' (pe_at E97) (by omega)).wr' (pe_at E112) (by omega)).2.2.2.2.2)⟩
  have J64 : ∀ (h_64 : pv_H) (xL1_64 : Int) (o2_64 o3_64 : Option Value), (pv_Ty τ ρ h_64) → (pv_Fr τ [456, 457, 458, 459, 460, 461, 2943] h h_64) → (0 ≤ xL1_64 ∧ xL1_64 ≤ 9) → (pv_fI h_64 a0 7 ≤ 1600 ∧ pv_fI h_64 a0 8 ≤ pv_fI h_64 a0 7 ∧ pv_fI h_64 a0 9 ≤ pv_fI h_64 a0 8 ∧ (pv_fI h_64 a0 10 ≠ 0 → pv_fI h_64 a0 9 < pv_fI h_64 a0 8) ∧ pv_fI h a0 9 ≤ pv_fI h_64 a0 9) → (pv_aI h_64 (ρ a0 14) = pv_aI h (ρ a0 14)) → (pv_fI h_64 a0 12 = 0 → pv_fI h a0 12 = 0) → pv_T K 208 64 (pv_fl [some (.ref a0), some (.int (pv_I xL1_64)), o2_64, o3_64]) [] h_64 (Q208 τ ρ h a0) := by
    intro h_64 xL1_64 o2_64 o3_64 hT_64 hF_64 rL1_64 i0_64 i1_64 i2_64
    refine pw_aload_n d208_64 rfl ?_
    refine pw_iconst d208_65 ?_
    refine pw_callV1 d208_66 k208_145 hT_64 hA0 rfl rfl rfl (ct198F (τ := τ) (ρ := ρ) hT_64 hA0 (by omega)) (fun r66 h66 q66 => ?_)
    obtain ⟨T66, F66, ez66, pz66_0, pz66_1⟩ := q66
    subst ez66
    have f66 := hF_64.tr (F66.up (by decide))
    have q66b := ((F66 a0 7 hA0).1 7 (by decide)).1
    have q66c := ((F66 a0 7 hA0).1 8 (by decide)).1
    have q66d := ((F66 a0 7 hA0).1 9 (by decide)).1
    have q66e := ((F66 a0 7 hA0).1 10 (by decide)).1
    have q66f := ((F66 a0 7 hA0).1 11 (by decide)).1
    exact J69 h66 (xL1_64) _ _ T66 f66 (by omega) (by omega) (by first | exact F1.aeq hR0_14 (by decide) | exact (F66.aeq hR0_14 (by decide)).trans i1_64 | exact (F66.aeq hR0_14 (by decide)).trans (F1.aeq hR0_14 (by decide))) (by omega)
  have f18 : pv_aI h (ρ a0 14) (1 : Int).toNat ≤ 18 := (hT.wc hR0_14 (j := 1) rfl (by decide)).2.2.1 (by decide) |>.2
  refine pw_aload_n d208_0 rfl ?_
  refine pw_callV0 d208_1 k208_160 hT hA0 rfl rfl rfl (ct202 (τ := τ) (ρ := ρ) hT hA0 (by first | assumption | omega)) (fun r1 h1 q1 => ?_)
  obtain ⟨T1, F1, z1, ez1, lz1, uz1, pz1_0, pz1_1⟩ := q1
  subst ez1
  have f1 := hF0.tr (F1.up (by decide))
  have q1b := ((F1 a0 7 hA0).1 7 (by decide)).1
  refine pw_istore_n d208_4 m208 rfl rfl ?_
  refine pw_aload_n d208_5 rfl ?_
  refine pw_callV0 d208_6 k208_121 T1 hA0 rfl rfl rfl (ct192 (τ := τ) (ρ := ρ) T1 hA0) (fun r6 h6 q6 => ?_)
  obtain ⟨eh6, z6, ez6, lz6, uz6, pz6_0⟩ := q6
  subst eh6
  subst ez6
  refine pw_if_eq d208_9 rfl (by omega) (fun c9 => ?_) (fun c9 => ?_)
  · exact J69 h1 (z1) _ _ T1 f1 (by omega) (by omega) (by first | exact F1.aeq hR0_14 (by decide) | exact (F66.aeq hR0_14 (by decide)).trans i1_64 | exact (F66.aeq hR0_14 (by decide)).trans (F1.aeq hR0_14 (by decide))) (by omega)
  · refine pw_aload_n d208_12 rfl ?_
    refine pw_getI d208_13 g208_97 T1 hA0 rfl rfl (fun u13 vu13 => ?_)
    refine pw_iconst d208_16 ?_
    refine pw_icmp_ne d208_17 rfl (by omega) (by omega) (fun c17 => ?_) (fun c17 => ?_)
    · exact J69 h1 (z1) _ _ T1 f1 (by omega) (by omega) (by first | exact F1.aeq hR0_14 (by decide) | exact (F66.aeq hR0_14 (by decide)).trans i1_64 | exact (F66.aeq hR0_14 (by decide)).trans (F1.aeq hR0_14 (by decide))) (by omega)
    · refine pw_aload_n d208_20 rfl ?_
      refine pw_getI d208_21 g208_108 T1 hA0 rfl rfl (fun u21 vu21 => ?_)
      refine pw_i2l d208_24 (by omega) ?_
      refine pw_lconst (z := 0) d208_25 (by decide) ?_
      refine pw_aload_n d208_26 rfl ?_
      refine pw_getR d208_27 g208_31 T1 hA0 rfl rfl (fun t27 => ?_)
      have t27 : τ (ρ a0 14) = some 45 := t27
      refine pw_iconst d208_30 ?_
      refine pw_ialdB d208_31 T1 t27 rfl rfl (by omega) (by omega) (fun u31 => ?_)
      have u31 : pv_wok ((0 : Int)) (pv_aI h1 (ρ a0 14) ((0 : Int)).toNat) := u31
      have vu31 := u31.2.1 (by omega)
      refine pw_iconst d208_32 ?_
      refine pw_isub d208_33 ?_
      refine pw_i2l d208_34 (by omega) ?_
      refine pw_callS3 d208_35 k208_73 rfl rfl (ct184 (τ := τ) (ρ := ρ) (by omega) (by omega) (by omega)) (fun r35 h35 q35 => ?_)
      obtain ⟨eh35, z35, ez35, lz35, uz35, pz35_0⟩ := q35
      subst eh35
      subst ez35
      refine pw_if_eq d208_38 rfl (by omega) (fun c38 => ?_) (fun c38 => ?_)
      · exact J69 h1 (z1) _ _ T1 f1 (by omega) (by omega) (by first | exact F1.aeq hR0_14 (by decide) | exact (F66.aeq hR0_14 (by decide)).trans i1_64 | exact (F66.aeq hR0_14 (by decide)).trans (F1.aeq hR0_14 (by decide))) (by omega)
      · refine pw_aload_n d208_41 rfl ?_
        refine pw_getI d208_42 g208_108 T1 hA0 rfl rfl (fun u42 vu42 => ?_)
        refine pw_iload_n d208_45 rfl ?_
        refine pw_icmp_eq d208_46 rfl (by omega) (by omega) (fun c46 => ?_) (fun c46 => ?_)
        · exact J64 h1 (z1) _ _ T1 f1 (by omega) (by omega) (by exact F1.aeq hR0_14 (by decide)) (by omega)
        · refine pw_aload_n d208_49 rfl ?_
          refine pw_getR d208_50 g208_31 T1 hA0 rfl rfl (fun t50 => ?_)
          have t50 : τ (ρ a0 14) = some 45 := t50
          refine pw_iload_n d208_53 rfl ?_
          refine pw_aload_n d208_54 rfl ?_
          refine pw_getI d208_55 g208_108 T1 hA0 rfl rfl (fun u55 vu55 => ?_)
          refine pw_callS3 d208_58 k208_166 rfl rfl (ct204fF (τ := τ) (ρ := ρ) T1 t50 (by omega) (by omega)) (fun r58 h58 q58 => ?_)
          obtain ⟨eh58, z58, ez58, lz58, uz58, pz58_0⟩ := q58
          subst eh58
          subst ez58
          refine pw_if_ne d208_61 rfl (by omega) (fun c61 => ?_) (fun c61 => ?_)
          · exact J69 h1 (z1) _ _ T1 f1 (by omega) (by omega) (by first | exact F1.aeq hR0_14 (by decide) | exact (F66.aeq hR0_14 (by decide)).trans i1_64 | exact (F66.aeq hR0_14 (by decide)).trans (F1.aeq hR0_14 (by decide))) (by omega)
          · exact J64 h1 (z1) _ _ T1 f1 (by omega) (by omega) (by exact F1.aeq hR0_14 (by decide)) (by omega)

abbrev Q209 (τ : Nat → Option Nat) (ρ : Nat → Nat → Nat) (h : pv_H) (a0 : Nat) : Option Value → pv_H → Prop := fun r h' => pv_Ty τ ρ h' ∧ pv_Fr τ [456, 457, 458, 459, 460, 461, 2943] h h' ∧ r = none ∧ (pv_fI h' a0 7 ≤ 1600 ∧ pv_fI h' a0 8 ≤ pv_fI h' a0 7 ∧ pv_fI h' a0 9 ≤ pv_fI h' a0 8 ∧ (pv_fI h' a0 10 ≠ 0 → pv_fI h' a0 9 < pv_fI h' a0 8) ∧ pv_fI h a0 9 ≤ pv_fI h' a0 9) ∧ (ps_T (pv_aI h (ρ a0 14)) (pv_aI h' (ρ a0 14)) (pv_fI h a0 12) (pv_fI h' a0 12)) ∧ (pv_aI h' (ρ a0 14) (2 : Int).toNat = pv_aI h (ρ a0 14) (2 : Int).toNat)
set_option maxHeartbeats 4000000 in
set_option maxRecDepth 20000 in
/-- AngleNetModel.readPlace()V -/
theorem ct209 {τ : Nat → Option Nat} {ρ : Nat → Nat → Nat} {K : Nat → Nat} {h : pv_H} {a0 : Nat} (hT : pv_Ty τ ρ h) (hA0 : τ a0 = some 7) (hP0 : pv_fI h a0 7 ≤ 1600 ∧ pv_fI h a0 8 ≤ pv_fI h a0 7 ∧ pv_fI h a0 9 ≤ pv_fI h a0 8 ∧ (pv_fI h a0 10 ≠ 0 → pv_fI h a0 9 < pv_fI h a0 8)) : pv_C K 209 [.ref a0] h (Q209 τ ρ h a0) := by
  refine pw_entry 3 ?_
  show pv_T K 209 0 (pv_fl [some (.ref a0), none, none, none]) [] h (Q209 τ ρ h a0)
  have hR0_14 : τ (ρ a0 14) = some 45 := hT.rf (t' := 45) hA0 rfl rfl
  have hF0 : pv_Fr τ [456, 457, 458, 459, 460, 461, 2943] h h := pv_Fr.rf
  refine pw_aload_n d209_0 rfl ?_
  refine pw_callV0 d209_1 k209_160 hT hA0 rfl rfl rfl (ct202 (τ := τ) (ρ := ρ) hT hA0 (by first | assumption | omega)) (fun r1 h1 q1 => ?_)
  obtain ⟨T1, F1, z1, ez1, lz1, uz1, pz1_0, pz1_1⟩ := q1
  subst ez1
  have f1 := hF0.tr (F1.up (by decide))
  have q1b := ((F1 a0 7 hA0).1 7 (by decide)).1
  refine pw_istore_n d209_4 m209 rfl rfl ?_
  refine pw_aload_n d209_5 rfl ?_
  refine pw_iconst d209_6 ?_
  refine pw_bipush d209_7 (by decide) ?_
  refine pw_callV2 d209_9 k209_153 T1 hA0 rfl rfl rfl (ct199 (τ := τ) (ρ := ρ) T1 hA0 (by omega) (by omega) (by first | assumption | omega)) (fun r9 h9 q9 => ?_)
  obtain ⟨T9, F9, z9, ez9, lz9, uz9, pz9_0, pz9_1⟩ := q9
  subst ez9
  have f9 := f1.tr (F9.up (by decide))
  have q9b := ((F9 a0 7 hA0).1 7 (by decide)).1
  refine pw_istore_n d209_12 m209 rfl rfl ?_
  refine pw_aload_n d209_13 rfl ?_
  refine pw_iconst d209_14 ?_
  refine pw_bipush d209_15 (by decide) ?_
  refine pw_callV2 d209_17 k209_153 T9 hA0 rfl rfl rfl (ct199 (τ := τ) (ρ := ρ) T9 hA0 (by omega) (by omega) (by first | assumption | omega)) (fun r17 h17 q17 => ?_)
  obtain ⟨T17, F17, z17, ez17, lz17, uz17, pz17_0, pz17_1⟩ := q17
  subst ez17
  have f17 := f9.tr (F17.up (by decide))
  have q17b := ((F17 a0 7 hA0).1 7 (by decide)).1
  refine pw_istore_n d209_20 m209 rfl rfl ?_
  refine pw_aload_n d209_21 rfl ?_
  refine pw_getR d209_22 g209_31 T17 hA0 rfl rfl (fun t22 => ?_)
  have t22 : τ (ρ a0 14) = some 45 := t22
  refine pw_bipush d209_25 (by decide) ?_
  refine pw_iconst d209_27 ?_
  refine pw_iload_n d209_28 rfl ?_
  refine pw_imul d209_29 ?_
  refine pw_iadd d209_30 ?_
  refine pw_iconst d209_31 ?_
  refine pw_iadd d209_32 ?_
  refine pw_iload_n d209_33 rfl ?_
  refine pw_iastB d209_34 T17 t22 rfl rfl rfl (by omega) (by omega) (by omega) (by show pv_wok _ _; unfold pv_wok; omega) (fun h34 T34 F34 E34 => ?_)
  have f34 := f17.tr (F34.up (by decide))
  have q34 := ((F34 a0 7 hA0).1 7 (by decide)).1
  have q34b := ((F34 a0 7 hA0).1 8 (by decide)).1
  have q34c := ((F34 a0 7 hA0).1 9 (by decide)).1
  have q34d := ((F34 a0 7 hA0).1 10 (by decide)).1
  have q34e := ((F34 a0 7 hA0).1 11 (by decide)).1
  have q34f := ((F34 a0 7 hA0).1 12 (by decide)).1
  refine pw_aload_n d209_35 rfl ?_
  refine pw_getR d209_36 g209_31 T34 hA0 rfl rfl (fun t36 => ?_)
  have t36 : τ (ρ a0 14) = some 45 := t36
  refine pw_bipush d209_39 (by decide) ?_
  refine pw_iconst d209_41 ?_
  refine pw_iload_n d209_42 rfl ?_
  refine pw_imul d209_43 ?_
  refine pw_iadd d209_44 ?_
  refine pw_iconst d209_45 ?_
  refine pw_iadd d209_46 ?_
  refine pw_iload_n d209_47 rfl ?_
  refine pw_iastB d209_48 T34 t36 rfl rfl rfl (by omega) (by omega) (by omega) (by show pv_wok _ _; unfold pv_wok; omega) (fun h48 T48 F48 E48 => ?_)
  have f48 := f34.tr (F48.up (by decide))
  have q48 := ((F48 a0 7 hA0).1 7 (by decide)).1
  have q48b := ((F48 a0 7 hA0).1 8 (by decide)).1
  have q48c := ((F48 a0 7 hA0).1 9 (by decide)).1
  have q48d := ((F48 a0 7 hA0).1 10 (by decide)).1
  have q48e := ((F48 a0 7 hA0).1 11 (by decide)).1
  have q48f := ((F48 a0 7 hA0).1 12 (by decide)).1
  exact pw_return d209_49 tt209 ⟨T48, f48, rfl, (by omega), (by exact ps_T.of (((pt_s.eq (((F17.aeq hR0_14 (by decide)).trans (F9.aeq hR0_14 (by decide))).trans (F1.aeq hR0_14 (by decide)))).wr' (pe_at E34) (by omega)).wr' (pe_at E48) (by omega)) ((hT.wc hR0_14 (j := 1) rfl (by decide)).2.2.1 (by decide) |>.2) (by omega)), (by exact (((pt_s.eq (((F17.aeq hR0_14 (by decide)).trans (F9.aeq hR0_14 (by decide))).trans (F1.aeq hR0_14 (by decide)))).wr' (pe_at E34) (by omega)).wr' (pe_at E48) (by omega)).2.2.2.2.2)⟩

abbrev Q207 (τ : Nat → Option Nat) (ρ : Nat → Nat → Nat) (h : pv_H) (a0 : Nat) : Option Value → pv_H → Prop := fun r h' => pv_Ty τ ρ h' ∧ pv_Fr τ [456, 457, 458, 459, 460, 461, 2943] h h' ∧ r = none ∧ (pv_fI h' a0 7 ≤ 1600 ∧ pv_fI h' a0 8 ≤ pv_fI h' a0 7 ∧ pv_fI h' a0 9 ≤ pv_fI h' a0 8 ∧ (pv_fI h' a0 10 ≠ 0 → pv_fI h' a0 9 < pv_fI h' a0 8) ∧ pv_fI h a0 9 ≤ pv_fI h' a0 9) ∧ (ps_T (pv_aI h (ρ a0 14)) (pv_aI h' (ρ a0 14)) (pv_fI h a0 12) (pv_fI h' a0 12)) ∧ (pv_aI h' (ρ a0 14) (2 : Int).toNat = pv_aI h (ρ a0 14) (2 : Int).toNat)
set_option maxHeartbeats 4000000 in
set_option maxRecDepth 20000 in
/-- AngleNetModel.readCorner()V -/
theorem ct207 {τ : Nat → Option Nat} {ρ : Nat → Nat → Nat} {K : Nat → Nat} {h : pv_H} {a0 : Nat} (hK : pv_Kok K) (hT : pv_Ty τ ρ h) (hA0 : τ a0 = some 7) (hP0 : pv_fI h a0 7 ≤ 1600 ∧ pv_fI h a0 8 ≤ pv_fI h a0 7 ∧ pv_fI h a0 9 ≤ pv_fI h a0 8 ∧ (pv_fI h a0 10 ≠ 0 → pv_fI h a0 9 < pv_fI h a0 8)) : pv_C K 207 [.ref a0] h (Q207 τ ρ h a0) := by
  refine pw_entry 0 ?_
  show pv_T K 207 0 (pv_fl [some (.ref a0)]) [] h (Q207 τ ρ h a0)
  have hR0_14 : τ (ρ a0 14) = some 45 := hT.rf (t' := 45) hA0 rfl rfl
  have hF0 : pv_Fr τ [456, 457, 458, 459, 460, 461, 2943] h h := pv_Fr.rf
  refine pw_aload_n d207_0 rfl ?_
  refine pw_getR d207_1 g207_31 hT hA0 rfl rfl (fun t1 => ?_)
  have t1 : τ (ρ a0 14) = some 45 := t1
  refine pw_iconst d207_4 ?_
  refine pw_iconst d207_5 ?_
  refine pw_iastB d207_6 hT t1 rfl rfl rfl (by omega) (by omega) (by omega) (by show pv_wok _ _; unfold pv_wok; omega) (fun h6 T6 F6 E6 => ?_)
  have f6 := hF0.tr (F6.up (by decide))
  have q6 := ((F6 a0 7 hA0).1 7 (by decide)).1
  have q6b := ((F6 a0 7 hA0).1 8 (by decide)).1
  have q6c := ((F6 a0 7 hA0).1 9 (by decide)).1
  have q6d := ((F6 a0 7 hA0).1 10 (by decide)).1
  have q6e := ((F6 a0 7 hA0).1 11 (by decide)).1
  have q6f := ((F6 a0 7 hA0).1 12 (by decide)).1
  refine pw_aload_n d207_7 rfl ?_
  refine pw_getR d207_8 g207_31 T6 hA0 rfl rfl (fun t8 => ?_)
  have t8 : τ (ρ a0 14) = some 45 := t8
  refine pw_iconst d207_11 ?_
  refine pw_aload_n d207_12 rfl ?_
  refine pw_iconst d207_13 ?_
  refine pw_sipush d207_14 (by decide) ?_
  refine pw_callV2 d207_17 k207_153 T6 hA0 rfl rfl rfl (ct199 (τ := τ) (ρ := ρ) T6 hA0 (by omega) (by omega) (by first | assumption | omega)) (fun r17 h17 q17 => ?_)
  obtain ⟨T17, F17, z17, ez17, lz17, uz17, pz17_0, pz17_1⟩ := q17
  subst ez17
  have f17 := f6.tr (F17.up (by decide))
  have q17b := ((F17 a0 7 hA0).1 7 (by decide)).1
  refine pw_iastB d207_20 T17 t8 rfl rfl rfl (by omega) (by omega) (by omega) (by show pv_wok _ _; unfold pv_wok; omega) (fun h20 T20 F20 E20 => ?_)
  have f20 := f17.tr (F20.up (by decide))
  have q20 := ((F20 a0 7 hA0).1 7 (by decide)).1
  have q20b := ((F20 a0 7 hA0).1 8 (by decide)).1
  have q20c := ((F20 a0 7 hA0).1 9 (by decide)).1
  have q20d := ((F20 a0 7 hA0).1 10 (by decide)).1
  have q20e := ((F20 a0 7 hA0).1 11 (by decide)).1
  have q20f := ((F20 a0 7 hA0).1 12 (by decide)).1
  refine pw_aload_n d207_21 rfl ?_
  refine pw_getR d207_22 g207_31 T20 hA0 rfl rfl (fun t22 => ?_)
  have t22 : τ (ρ a0 14) = some 45 := t22
  refine pw_iconst d207_25 ?_
  refine pw_aload_n d207_26 rfl ?_
  refine pw_ldcS d207_27 n207_27.1 n207_27.2 ?_
  refine pw_aload_n d207_29 rfl ?_
  refine pw_getR d207_30 g207_31 T20 hA0 rfl rfl (fun t30 => ?_)
  have t30 : τ (ρ a0 14) = some 45 := t30
  refine pw_iconst d207_33 ?_
  refine pw_ialdB d207_34 T20 t30 rfl rfl (by omega) (by omega) (fun u34 => ?_)
  have u34 : pv_wok ((3 : Int)) (pv_aI h20 (ρ a0 14) ((3 : Int)).toNat) := u34
  have vu34 := u34.2.2.2.1 (by omega)
  refine pw_sipush d207_35 (by decide) ?_
  refine pw_callV3 d207_38 k207_178 T20 hA0 rfl rfl rfl (ct194 (τ := τ) (ρ := ρ) hK T20 hA0 (by decide) (by omega) (by omega) (by first | assumption | omega)) (fun r38 h38 q38 => ?_)
  obtain ⟨T38, F38, z38, ez38, lz38, uz38, pz38_0, pz38_1⟩ := q38
  subst ez38
  have f38 := f20.tr (F38.up (by decide))
  have q38b := ((F38 a0 7 hA0).1 7 (by decide)).1
  refine pw_iastB d207_41 T38 t30 rfl rfl rfl (by omega) (by omega) (by omega) (by show pv_wok _ _; unfold pv_wok; omega) (fun h41 T41 F41 E41 => ?_)
  have f41 := f38.tr (F41.up (by decide))
  have q41 := ((F41 a0 7 hA0).1 7 (by decide)).1
  have q41b := ((F41 a0 7 hA0).1 8 (by decide)).1
  have q41c := ((F41 a0 7 hA0).1 9 (by decide)).1
  have q41d := ((F41 a0 7 hA0).1 10 (by decide)).1
  have q41e := ((F41 a0 7 hA0).1 11 (by decide)).1
  have q41f := ((F41 a0 7 hA0).1 12 (by decide)).1
  exact pw_return d207_42 tt207 ⟨T41, f41, rfl, (by omega), (by exact ps_T.of ((((((pt_s.eq rfl).wr' (pe_at E6) (by decide)).tr (pt_s.eq (F17.aeq hR0_14 (by decide)))).wr' (pe_at E20) (by decide)).tr (pt_s.eq (F38.aeq hR0_14 (by decide)))).wr' (pe_at E41) (by decide)) ((hT.wc hR0_14 (j := 1) rfl (by decide)).2.2.1 (by decide) |>.2) (by omega)), (by exact ((((((pt_s.eq rfl).wr' (pe_at E6) (by decide)).tr (pt_s.eq (F17.aeq hR0_14 (by decide)))).wr' (pe_at E20) (by decide)).tr (pt_s.eq (F38.aeq hR0_14 (by decide)))).wr' (pe_at E41) (by decide)).2.2.2.2.2)⟩
