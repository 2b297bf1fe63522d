abbrev Q191F (τ : Nat → Option Nat) (ρ : Nat → Nat → Nat) (h : pv_H) (a0 : Nat) (x1 : Int) : Option Value → pv_H → Prop := fun r h' => h = h' ∧ ∃ z : Int, r = some (.int (pv_I z)) ∧ (-1) ≤ z ∧ z ≤ 255 ∧ ((z = -1 ∧ pv_fI h a0 7 ≤ x1) ∨ (0 ≤ z ∧ x1 < pv_fI h a0 7 ∧ z = pv_aI h (ρ a0 4) (x1).toNat % 256))
set_option maxHeartbeats 4000000 in
set_option maxRecDepth 20000 in
/-- AngleNetModel.see(I)I -/
theorem ct191F {τ : Nat → Option Nat} {ρ : Nat → Nat → Nat} {K : Nat → Nat} {h : pv_H} {a0 : Nat} {x1 : Int} (hT : pv_Ty τ ρ h) (hA0 : τ a0 = some 7) (hX1 : 0 ≤ x1 ∧ x1 ≤ 1601) : pv_C K 191 [.ref a0, .int (pv_I x1)] h (Q191F τ ρ h a0 x1) := by
  refine pw_entry 0 ?_
  show pv_T K 191 0 (pv_fl [some (.ref a0), some (.int (pv_I x1))]) [] h (Q191F τ ρ h a0 x1)
  refine pw_iload_n d191_0 rfl ?_
  refine pw_aload_n d191_1 rfl ?_
  refine pw_getI d191_2 g191_84 hT hA0 rfl rfl (fun u2 vu2 => ?_)
  refine pw_icmp_ge d191_5 rfl (by omega) (by omega) (fun c5 => ?_) (fun c5 => ?_)
  · refine pw_iconst d191_21 ?_
    exact pw_ireturn d191_22 tt191 ⟨rfl, (-1), rfl, (by omega), (by omega), (by omega)⟩
  · refine pw_aload_n d191_8 rfl ?_
    refine pw_getR d191_9 g191_20 hT hA0 rfl rfl (fun t9 => ?_)
    have t9 : τ (ρ a0 4) = some 43 := t9
    refine pw_iload_n d191_12 rfl ?_
    refine pw_bald d191_13 hT t9 rfl (by decide) rfl (by omega) (by omega) (fun u13 vu13 => ?_)
    refine pw_sipush d191_14 (by decide) ?_
    refine pw_iand d191_17 (fun z17 hz17 ez17 => ?_)
    have bz17 := pv_and255 (by omega) hz17 ez17
    refine pw_goto d191_18 rfl ?_
    exact pw_ireturn d191_22 tt191 ⟨rfl, z17, rfl, (by omega), (by omega), (by omega)⟩

abbrev Q198F (τ : Nat → Option Nat) (ρ : Nat → Nat → Nat) (h : pv_H) (a0 : Nat) (x1 : Int) : Option Value → pv_H → Prop := fun r h' => pv_Ty τ ρ h' ∧ pv_Fr τ [460, 461] h h' ∧ r = none ∧ (pv_fI h' a0 12 ≠ 0) ∧ (pv_fI h' a0 9 = pv_fI h a0 9)
set_option maxHeartbeats 4000000 in
set_option maxRecDepth 20000 in
/-- AngleNetModel.errs(I)V -/
theorem ct198F {τ : Nat → Option Nat} {ρ : Nat → Nat → Nat} {K : Nat → Nat} {h : pv_H} {a0 : Nat} {x1 : Int} (hT : pv_Ty τ ρ h) (hA0 : τ a0 = some 7) (hX1 : 1 ≤ x1 ∧ x1 ≤ 3) : pv_C K 198 [.ref a0, .int (pv_I x1)] h (Q198F τ ρ h a0 x1) := by
  refine pw_entry 0 ?_
  show pv_T K 198 0 (pv_fl [some (.ref a0), some (.int (pv_I x1))]) [] h (Q198F τ ρ h a0 x1)
  have hF0 : pv_Fr τ [460, 461] h h := pv_Fr.rf
  refine pw_aload_n d198_0 rfl ?_
  refine pw_callV0 d198_1 k198_121 hT hA0 rfl rfl rfl (ct192 (τ := τ) (ρ := ρ) hT hA0) (fun r1 h1 q1 => ?_)
  obtain ⟨eh1, z1, ez1, lz1, uz1, pz1_0⟩ := q1
  subst eh1
  subst ez1
  refine pw_if_ne d198_4 rfl (by omega) (fun c4 => ?_) (fun c4 => ?_)
  · refine pw_aload_n d198_8 rfl ?_
    refine pw_iload_n d198_9 rfl ?_
    refine pw_putI d198_10 g198_118 w7_12 hT hA0 rfl rfl rfl (by omega) (by omega) (fun h10 T10 F10 E10 => ?_)
    have f10 := hF0.tr (F10.up (by decide))
    have q10 := ((F10 a0 7 hA0).1 7 (by decide)).1
    have q10b := ((F10 a0 7 hA0).1 8 (by decide)).1
    have q10c := ((F10 a0 7 hA0).1 9 (by decide)).1
    have q10d := ((F10 a0 7 hA0).1 10 (by decide)).1
    have q10e := ((F10 a0 7 hA0).1 11 (by decide)).1
    refine pw_aload_n d198_13 rfl ?_
    refine pw_aload_n d198_14 rfl ?_
    refine pw_getI d198_15 g198_94 T10 hA0 rfl rfl (fun u15 vu15 => ?_)
    refine pw_putI d198_18 g198_27 w7_13 T10 hA0 rfl rfl rfl (by omega) (by omega) (fun h18 T18 F18 E18 => ?_)
    have f18 := f10.tr (F18.up (by decide))
    have q18 := ((F18 a0 7 hA0).1 7 (by decide)).1
    have q18b := ((F18 a0 7 hA0).1 8 (by decide)).1
    have q18c := ((F18 a0 7 hA0).1 9 (by decide)).1
    have q18d := ((F18 a0 7 hA0).1 10 (by decide)).1
    have q18e := ((F18 a0 7 hA0).1 11 (by decide)).1
    have q18f := ((F18 a0 7 hA0).1 12 (by decide)).1
    exact pw_return d198_21 tt198 ⟨T18, f18, rfl, (by omega), (by omega)⟩
  · exact pw_return d198_7 tt198 ⟨hT, hF0, rfl, (by omega), (by omega)⟩

abbrev Q190 (τ : Nat → Option Nat) (ρ : Nat → Nat → Nat) (h : pv_H) (a0 : Nat) : Option Value → pv_H → Prop := fun r h' => pv_Ty τ ρ h' ∧ pv_Fr τ [456, 457, 458, 459] h h' ∧ r = none ∧ (pv_fI h' a0 7 ≤ 1600 ∧ pv_fI h' a0 8 ≤ pv_fI h' a0 7 ∧ pv_fI h' a0 9 ≤ pv_fI h' a0 8 ∧ (pv_fI h' a0 10 ≠ 0 → pv_fI h' a0 9 < pv_fI h' a0 8)) ∧ (pv_fI h a0 8 ≤ pv_fI h' a0 9)
set_option maxHeartbeats 4000000 in
set_option maxRecDepth 20000 in
/-- AngleNetModel.advance()V -/
theorem ct190 {τ : Nat → Option Nat} {ρ : Nat → Nat → Nat} {K : Nat → Nat} {h : pv_H} {a0 : Nat} (hT : pv_Ty τ ρ h) (hA0 : τ a0 = some 7) (hP0 : pv_fI h a0 8 ≤ pv_fI h a0 7 ∧ pv_fI h a0 7 ≤ 1600) : pv_C K 190 [.ref a0] h (Q190 τ ρ h a0) := by
  refine pw_entry 1 ?_
  show pv_T K 190 0 (pv_fl [some (.ref a0), none]) [] h (Q190 τ ρ h a0)
  have hR0_4 : τ (ρ a0 4) = some 43 := hT.rf (t' := 43) hA0 rfl rfl
  have hF0 : pv_Fr τ [456, 457, 458, 459] h h := pv_Fr.rf
  have J226 : ∀ (h_226 : pv_H) (xS0_226 : Int) (o1_226 : Option Value), (pv_Ty τ ρ h_226) → (pv_Fr τ [456, 457, 458, 459] h h_226) → (3 ≤ xS0_226 ∧ xS0_226 ≤ 4) → (pv_fI h_226 a0 7 ≤ 1600 ∧ pv_fI h a0 8 ≤ pv_fI h_226 a0 9 ∧ pv_fI h_226 a0 9 = pv_fI h_226 a0 8 ∧ pv_fI h_226 a0 8 < pv_fI h_226 a0 7) → pv_T K 190 226 (pv_fl [some (.ref a0), o1_226]) [.int (pv_I xS0_226), .ref a0] h_226 (Q190 τ ρ h a0) := by
    intro h_226 xS0_226 o1_226 hT_226 hF_226 rS0_226 i0_226
    refine pw_putI d190_226 g190_97 w7_10 hT_226 hA0 rfl rfl rfl (by omega) (by omega) (fun h226 T226 F226 E226 => ?_)
    have f226 := hF_226.tr (F226.up (by decide))
    have q226 := ((F226 a0 7 hA0).1 7 (by decide)).1
    have q226b := ((F226 a0 7 hA0).1 8 (by decide)).1
    have q226c := ((F226 a0 7 hA0).1 9 (by decide)).1
    have q226d := ((F226 a0 7 hA0).1 11 (by decide)).1
    have q226e := ((F226 a0 7 hA0).1 12 (by decide)).1
    refine pw_aload_n d190_229 rfl ?_
    refine pw_dup d190_230 rfl ?_
    refine pw_getI d190_231 g190_87 T226 hA0 rfl rfl (fun u231 vu231 => ?_)
    refine pw_iconst d190_234 ?_
    refine pw_iadd d190_235 ?_
    refine pw_putI d190_236 g190_87 w7_8 T226 hA0 rfl rfl rfl (by omega) (by omega) (fun h236 T236 F236 E236 => ?_)
    have f236 := f226.tr (F236.up (by decide))
    have q236 := ((F236 a0 7 hA0).1 7 (by decide)).1
    have q236b := ((F236 a0 7 hA0).1 9 (by decide)).1
    have q236c := ((F236 a0 7 hA0).1 10 (by decide)).1
    have q236d := ((F236 a0 7 hA0).1 11 (by decide)).1
    have q236e := ((F236 a0 7 hA0).1 12 (by decide)).1
    exact pw_return d190_239 tt190 ⟨T236, f236, rfl, (by omega), (by omega)⟩
  have L144 : ∀ (nn : Nat) (h_144 : pv_H) (o1_144 : Option Value), (pv_Ty τ ρ h_144) → (pv_Fr τ [456, 457, 458, 459] h h_144) → (pv_fI h_144 a0 7 ≤ 1600 ∧ pv_fI h a0 8 ≤ pv_fI h_144 a0 9 ∧ pv_fI h_144 a0 8 ≤ pv_fI h_144 a0 7 ∧ (pv_fI h_144 a0 9 < pv_fI h_144 a0 8 ∨ (pv_fI h_144 a0 9 = pv_fI h_144 a0 8 ∧ pv_fI h_144 a0 8 < pv_fI h_144 a0 7 ∧ 48 ≤ pv_aI h_144 (ρ a0 4) (pv_fI h_144 a0 8).toNat % 256 ∧ pv_aI h_144 (ρ a0 4) (pv_fI h_144 a0 8).toNat % 256 ≤ 57))) → 1601 - pv_fI h_144 a0 8 < nn → pv_T K 190 144 (pv_fl [some (.ref a0), o1_144]) [] h_144 (Q190 τ ρ h a0) := by
    intro nn
    induction nn with
    | zero => intro h_144 o1_144 hT_144 hF_144 i0_144 hm; exfalso; omega
    | succ nn ih144 =>
      intro h_144 o1_144 hT_144 hF_144 i0_144 hm144
      refine pw_aload_n d190_144 rfl ?_
      refine pw_aload_n d190_145 rfl ?_
      refine pw_getI d190_146 g190_87 hT_144 hA0 rfl rfl (fun u146 vu146 => ?_)
      refine pw_callV1 d190_149 k190_90 hT_144 hA0 rfl rfl rfl (ct191F (τ := τ) (ρ := ρ) hT_144 hA0 (by omega)) (fun r149 h149 q149 => ?_)
      obtain ⟨eh149, z149, ez149, lz149, uz149, pz149_0⟩ := q149
      subst eh149
      subst ez149
      refine pw_i2l d190_152 (by omega) ?_
      refine pw_ldc2 (v := pv_J 48) d190_153 n190_153 ?_
      refine pw_ldc2 (v := pv_J 57) d190_156 n190_156 ?_
      refine pw_callS3 d190_159 k190_73 rfl rfl (ct184 (τ := τ) (ρ := ρ) (by omega) (by omega) (by omega)) (fun r159 h159 q159 => ?_)
      obtain ⟨eh159, z159, ez159, lz159, uz159, pz159_0⟩ := q159
      subst eh159
      subst ez159
      refine pw_if_eq d190_162 rfl (by omega) (fun c162 => ?_) (fun c162 => ?_)
      · refine pw_aload_n d190_206 rfl ?_
        refine pw_iconst d190_207 ?_
        refine pw_putI d190_208 g190_97 w7_10 hT_144 hA0 rfl rfl rfl (by omega) (by omega) (fun h208 T208 F208 E208 => ?_)
        have f208 := hF_144.tr (F208.up (by decide))
        have q208 := ((F208 a0 7 hA0).1 7 (by decide)).1
        have q208b := ((F208 a0 7 hA0).1 8 (by decide)).1
        have q208c := ((F208 a0 7 hA0).1 9 (by decide)).1
        have q208d := ((F208 a0 7 hA0).1 11 (by decide)).1
        have q208e := ((F208 a0 7 hA0).1 12 (by decide)).1
        refine pw_goto d190_211 rfl ?_
        exact pw_return d190_239 tt190 ⟨T208, f208, rfl, (by omega), (by omega)⟩
      · refine pw_aload_n d190_165 rfl ?_
        refine pw_ldc (v := pv_I 99999) d190_166 n190_166 ?_
        refine pw_bipush d190_168 (by decide) ?_
        refine pw_aload_n d190_170 rfl ?_
        refine pw_getI d190_171 g190_108 hT_144 hA0 rfl rfl (fun u171 vu171 => ?_)
        refine pw_imul d190_174 ?_
        refine pw_aload_n d190_175 rfl ?_
        refine pw_aload_n d190_176 rfl ?_
        refine pw_getI d190_177 g190_87 hT_144 hA0 rfl rfl (fun u177 vu177 => ?_)
        refine pw_callV1 d190_180 k190_90 hT_144 hA0 rfl rfl rfl (ct191F (τ := τ) (ρ := ρ) hT_144 hA0 (by omega)) (fun r180 h180 q180 => ?_)
        obtain ⟨eh180, z180, ez180, lz180, uz180, pz180_0⟩ := q180
        subst eh180
        subst ez180
        refine pw_iadd d190_183 ?_
        refine pw_bipush d190_184 (by decide) ?_
        refine pw_isub d190_186 ?_
        refine pw_mmin d190_187 k190_112 rfl (by omega) (by omega) (fun z187 pz187 hz187 => ?_)
        refine pw_putI d190_190 g190_108 w7_11 hT_144 hA0 rfl rfl rfl (by omega) (by omega) (fun h190 T190 F190 E190 => ?_)
        have f190 := hF_144.tr (F190.up (by decide))
        have q190 := ((F190 a0 7 hA0).1 7 (by decide)).1
        have q190b := ((F190 a0 7 hA0).1 8 (by decide)).1
        have q190c := ((F190 a0 7 hA0).1 9 (by decide)).1
        have q190d := ((F190 a0 7 hA0).1 10 (by decide)).1
        have q190e := ((F190 a0 7 hA0).1 12 (by decide)).1
        refine pw_aload_n d190_193 rfl ?_
        refine pw_dup d190_194 rfl ?_
        refine pw_getI d190_195 g190_87 T190 hA0 rfl rfl (fun u195 vu195 => ?_)
        refine pw_iconst d190_198 ?_
        refine pw_iadd d190_199 ?_
        refine pw_putI d190_200 g190_87 w7_8 T190 hA0 rfl rfl rfl (by omega) (by omega) (fun h200 T200 F200 E200 => ?_)
        have f200 := f190.tr (F200.up (by decide))
        have q200 := ((F200 a0 7 hA0).1 7 (by decide)).1
        have q200b := ((F200 a0 7 hA0).1 9 (by decide)).1
        have q200c := ((F200 a0 7 hA0).1 10 (by decide)).1
        have q200d := ((F200 a0 7 hA0).1 11 (by decide)).1
        have q200e := ((F200 a0 7 hA0).1 12 (by decide)).1
        refine pw_goto d190_203 rfl ?_
        exact ih144 h200 _ T200 f200 (by first | omega | (rw [F141.aeq hR0_4 (by decide), show pv_fI h141 a0 8 = pv_fI h44 a0 8 by omega]; omega)) (by omega)
  have L83 : ∀ (nn : Nat) (h_83 : pv_H) (o1_83 : Option Value), (pv_Ty τ ρ h_83) → (pv_Fr τ [456, 457, 458, 459] h h_83) → (pv_fI h_83 a0 7 ≤ 1600 ∧ pv_fI h a0 8 ≤ pv_fI h_83 a0 9 ∧ pv_fI h_83 a0 8 ≤ pv_fI h_83 a0 7 ∧ (pv_fI h_83 a0 9 < pv_fI h_83 a0 8 ∨ (pv_fI h_83 a0 9 = pv_fI h_83 a0 8 ∧ pv_fI h_83 a0 8 < pv_fI h_83 a0 7 ∧ 97 ≤ pv_aI h_83 (ρ a0 4) (pv_fI h_83 a0 8).toNat % 256 ∧ pv_aI h_83 (ρ a0 4) (pv_fI h_83 a0 8).toNat % 256 ≤ 122))) → 1601 - pv_fI h_83 a0 8 < nn → pv_T K 190 83 (pv_fl [some (.ref a0), o1_83]) [] h_83 (Q190 τ ρ h a0) := by
    intro nn
    induction nn with
    | zero => intro h_83 o1_83 hT_83 hF_83 i0_83 hm; exfalso; omega
    | succ nn ih83 =>
      intro h_83 o1_83 hT_83 hF_83 i0_83 hm83
      refine pw_aload_n d190_83 rfl ?_
      refine pw_aload_n d190_84 rfl ?_
      refine pw_getI d190_85 g190_87 hT_83 hA0 rfl rfl (fun u85 vu85 => ?_)
      refine pw_callV1 d190_88 k190_90 hT_83 hA0 rfl rfl rfl (ct191F (τ := τ) (ρ := ρ) hT_83 hA0 (by omega)) (fun r88 h88 q88 => ?_)
      obtain ⟨eh88, z88, ez88, lz88, uz88, pz88_0⟩ := q88
      subst eh88
      subst ez88
      refine pw_i2l d190_91 (by omega) ?_
      refine pw_ldc2 (v := pv_J 97) d190_92 n190_92 ?_
      refine pw_ldc2 (v := pv_J 122) d190_95 n190_95 ?_
      refine pw_callS3 d190_98 k190_73 rfl rfl (ct184 (τ := τ) (ρ := ρ) (by omega) (by omega) (by omega)) (fun r98 h98 q98 => ?_)
      obtain ⟨eh98, z98, ez98, lz98, uz98, pz98_0⟩ := q98
      subst eh98
      subst ez98
      refine pw_if_eq d190_101 rfl (by omega) (fun c101 => ?_) (fun c101 => ?_)
      · refine pw_aload_n d190_117 rfl ?_
        refine pw_iconst d190_118 ?_
        refine pw_putI d190_119 g190_97 w7_10 hT_83 hA0 rfl rfl rfl (by omega) (by omega) (fun h119 T119 F119 E119 => ?_)
        have f119 := hF_83.tr (F119.up (by decide))
        have q119 := ((F119 a0 7 hA0).1 7 (by decide)).1
        have q119b := ((F119 a0 7 hA0).1 8 (by decide)).1
        have q119c := ((F119 a0 7 hA0).1 9 (by decide)).1
        have q119d := ((F119 a0 7 hA0).1 11 (by decide)).1
        have q119e := ((F119 a0 7 hA0).1 12 (by decide)).1
        refine pw_goto d190_122 rfl ?_
        exact pw_return d190_239 tt190 ⟨T119, f119, rfl, (by omega), (by omega)⟩
      · refine pw_aload_n d190_104 rfl ?_
        refine pw_dup d190_105 rfl ?_
        refine pw_getI d190_106 g190_87 hT_83 hA0 rfl rfl (fun u106 vu106 => ?_)
        refine pw_iconst d190_109 ?_
        refine pw_iadd d190_110 ?_
        refine pw_putI d190_111 g190_87 w7_8 hT_83 hA0 rfl rfl rfl (by omega) (by omega) (fun h111 T111 F111 E111 => ?_)
        have f111 := hF_83.tr (F111.up (by decide))
        have q111 := ((F111 a0 7 hA0).1 7 (by decide)).1
        have q111b := ((F111 a0 7 hA0).1 9 (by decide)).1
        have q111c := ((F111 a0 7 hA0).1 10 (by decide)).1
        have q111d := ((F111 a0 7 hA0).1 11 (by decide)).1
        have q111e := ((F111 a0 7 hA0).1 12 (by decide)).1
        refine pw_goto d190_114 rfl ?_
        exact ih83 h111 _ T111 f111 (by omega) (by omega)
  have L0 : ∀ (nn : Nat) (h_0 : pv_H) (o1_0 : Option Value), (pv_Ty τ ρ h_0) → (pv_Fr τ [456, 457, 458, 459] h h_0) → (pv_fI h_0 a0 7 ≤ 1600 ∧ pv_fI h a0 8 ≤ pv_fI h_0 a0 8 ∧ pv_fI h_0 a0 8 ≤ pv_fI h_0 a0 7) → 1601 - pv_fI h_0 a0 8 < nn → pv_T K 190 0 (pv_fl [some (.ref a0), o1_0]) [] h_0 (Q190 τ ρ h a0) := by
    intro nn
    induction nn with
    | zero => intro h_0 o1_0 hT_0 hF_0 i0_0 hm; exfalso; omega
    | succ nn ih0 =>
      intro h_0 o1_0 hT_0 hF_0 i0_0 hm0
      have J26 : ∀ (h_26 : pv_H) (o1_26 : Option Value), (pv_Ty τ ρ h_26) → (pv_Fr τ [456, 457, 458, 459] h h_26) → (pv_fI h_26 a0 7 ≤ 1600 ∧ pv_fI h a0 8 ≤ pv_fI h_26 a0 8 ∧ pv_fI h_26 a0 8 < pv_fI h_26 a0 7 ∧ pv_fI h_26 a0 8 = pv_fI h_0 a0 8) → pv_T K 190 26 (pv_fl [some (.ref a0), o1_26]) [] h_26 (Q190 τ ρ h a0) := by
        intro h_26 o1_26 hT_26 hF_26 i0_26
        refine pw_aload_n d190_26 rfl ?_
        refine pw_dup d190_27 rfl ?_
        refine pw_getI d190_28 g190_87 hT_26 hA0 rfl rfl (fun u28 vu28 => ?_)
        refine pw_iconst d190_31 ?_
        refine pw_iadd d190_32 ?_
        refine pw_putI d190_33 g190_87 w7_8 hT_26 hA0 rfl rfl rfl (by omega) (by omega) (fun h33 T33 F33 E33 => ?_)
        have f33 := hF_26.tr (F33.up (by decide))
        have q33 := ((F33 a0 7 hA0).1 7 (by decide)).1
        have q33b := ((F33 a0 7 hA0).1 9 (by decide)).1
        have q33c := ((F33 a0 7 hA0).1 10 (by decide)).1
        have q33d := ((F33 a0 7 hA0).1 11 (by decide)).1
        have q33e := ((F33 a0 7 hA0).1 12 (by decide)).1
        refine pw_goto d190_36 rfl ?_
        exact ih0 h33 _ T33 f33 (by omega) (by omega)
      refine pw_aload_n d190_0 rfl ?_
      refine pw_aload_n d190_1 rfl ?_
      refine pw_getI d190_2 g190_87 hT_0 hA0 rfl rfl (fun u2 vu2 => ?_)
      refine pw_callV1 d190_5 k190_90 hT_0 hA0 rfl rfl rfl (ct191F (τ := τ) (ρ := ρ) hT_0 hA0 (by omega)) (fun r5 h5 q5 => ?_)
      obtain ⟨eh5, z5, ez5, lz5, uz5, pz5_0⟩ := q5
      subst eh5
      subst ez5
      refine pw_bipush d190_8 (by decide) ?_
      refine pw_icmp_eq d190_10 rfl (by omega) (by omega) (fun c10 => ?_) (fun c10 => ?_)
      · exact J26 h_0 _ hT_0 hF_0 (by omega)
      · refine pw_aload_n d190_13 rfl ?_
        refine pw_aload_n d190_14 rfl ?_
        refine pw_getI d190_15 g190_87 hT_0 hA0 rfl rfl (fun u15 vu15 => ?_)
        refine pw_callV1 d190_18 k190_90 hT_0 hA0 rfl rfl rfl (ct191F (τ := τ) (ρ := ρ) hT_0 hA0 (by omega)) (fun r18 h18 q18 => ?_)
        obtain ⟨eh18, z18, ez18, lz18, uz18, pz18_0⟩ := q18
        subst eh18
        subst ez18
        refine pw_bipush d190_21 (by decide) ?_
        refine pw_icmp_ne d190_23 rfl (by omega) (by omega) (fun c23 => ?_) (fun c23 => ?_)
        · refine pw_aload_n d190_39 rfl ?_
          refine pw_aload_n d190_40 rfl ?_
          refine pw_getI d190_41 g190_87 hT_0 hA0 rfl rfl (fun u41 vu41 => ?_)
          refine pw_putI d190_44 g190_94 w7_9 hT_0 hA0 rfl rfl rfl (by omega) (by omega) (fun h44 T44 F44 E44 => ?_)
          have f44 := hF_0.tr (F44.up (by decide))
          have q44 := ((F44 a0 7 hA0).1 7 (by decide)).1
          have q44b := ((F44 a0 7 hA0).1 8 (by decide)).1
          have q44c := ((F44 a0 7 hA0).1 10 (by decide)).1
          have q44d := ((F44 a0 7 hA0).1 11 (by decide)).1
          have q44e := ((F44 a0 7 hA0).1 12 (by decide)).1
          refine pw_aload_n d190_47 rfl ?_
          refine pw_aload_n d190_48 rfl ?_
          refine pw_getI d190_49 g190_87 T44 hA0 rfl rfl (fun u49 vu49 => ?_)
          refine pw_callV1 d190_52 k190_90 T44 hA0 rfl rfl rfl (ct191F (τ := τ) (ρ := ρ) T44 hA0 (by omega)) (fun r52 h52 q52 => ?_)
          obtain ⟨eh52, z52, ez52, lz52, uz52, pz52_0⟩ := q52
          subst eh52
          subst ez52
          refine pw_istore_n d190_55 m190 rfl rfl ?_
          refine pw_iload_n d190_56 rfl ?_
          refine pw_iconst d190_57 ?_
          refine pw_icmp_ne d190_58 rfl (by omega) (by omega) (fun c58 => ?_) (fun c58 => ?_)
          · refine pw_iload_n d190_69 rfl ?_
            refine pw_i2l d190_70 (by omega) ?_
            refine pw_ldc2 (v := pv_J 97) d190_71 n190_71 ?_
            refine pw_ldc2 (v := pv_J 122) d190_74 n190_74 ?_
            refine pw_callS3 d190_77 k190_73 rfl rfl (ct184 (τ := τ) (ρ := ρ) (by omega) (by omega) (by omega)) (fun r77 h77 q77 => ?_)
            obtain ⟨eh77, z77, ez77, lz77, uz77, pz77_0⟩ := q77
            subst eh77
            subst ez77
            refine pw_if_eq d190_80 rfl (by omega) (fun c80 => ?_) (fun c80 => ?_)
            · refine pw_iload_n d190_125 rfl ?_
              refine pw_i2l d190_126 (by omega) ?_
              refine pw_ldc2 (v := pv_J 48) d190_127 n190_127 ?_
              refine pw_ldc2 (v := pv_J 57) d190_130 n190_130 ?_
              refine pw_callS3 d190_133 k190_73 rfl rfl (ct184 (τ := τ) (ρ := ρ) (by omega) (by omega) (by omega)) (fun r133 h133 q133 => ?_)
              obtain ⟨eh133, z133, ez133, lz133, uz133, pz133_0⟩ := q133
              subst eh133
              subst ez133
              refine pw_if_eq d190_136 rfl (by omega) (fun c136 => ?_) (fun c136 => ?_)
              · refine pw_aload_n d190_214 rfl ?_
                refine pw_iload_n d190_215 rfl ?_
                refine pw_bipush d190_216 (by decide) ?_
                refine pw_icmp_ne d190_218 rfl (by omega) (by omega) (fun c218 => ?_) (fun c218 => ?_)
                · refine pw_iconst d190_225 ?_
                  exact J226 h44 (4) _ T44 f44 (by omega) (by omega)
                · refine pw_iconst d190_221 ?_
                  refine pw_goto d190_222 rfl ?_
                  exact J226 h44 (3) _ T44 f44 (by omega) (by omega)
              · refine pw_aload_n d190_139 rfl ?_
                refine pw_iconst d190_140 ?_
                refine pw_putI d190_141 g190_108 w7_11 T44 hA0 rfl rfl rfl (by omega) (by omega) (fun h141 T141 F141 E141 => ?_)
                have f141 := f44.tr (F141.up (by decide))
                have q141 := ((F141 a0 7 hA0).1 7 (by decide)).1
                have q141b := ((F141 a0 7 hA0).1 8 (by decide)).1
                have q141c := ((F141 a0 7 hA0).1 9 (by decide)).1
                have q141d := ((F141 a0 7 hA0).1 10 (by decide)).1
                have q141e := ((F141 a0 7 hA0).1 12 (by decide)).1
                exact L144 _ h141 _ T141 f141 (by first | omega | (rw [F141.aeq hR0_4 (by decide), show pv_fI h141 a0 8 = pv_fI h44 a0 8 by omega]; omega)) (pv_mu _)
            · exact L83 _ h44 _ T44 f44 (by omega) (pv_mu _)
          · refine pw_aload_n d190_61 rfl ?_
            refine pw_iconst d190_62 ?_
            refine pw_putI d190_63 g190_97 w7_10 T44 hA0 rfl rfl rfl (by omega) (by omega) (fun h63 T63 F63 E63 => ?_)
            have f63 := f44.tr (F63.up (by decide))
            have q63 := ((F63 a0 7 hA0).1 7 (by decide)).1
            have q63b := ((F63 a0 7 hA0).1 8 (by decide)).1
            have q63c := ((F63 a0 7 hA0).1 9 (by decide)).1
            have q63d := ((F63 a0 7 hA0).1 11 (by decide)).1
            have q63e := ((F63 a0 7 hA0).1 12 (by decide)).1
            refine pw_goto d190_66 rfl ?_
            exact pw_return d190_239 tt190 ⟨T63, f63, rfl, (by omega), (by omega)⟩
        · exact J26 h_0 _ hT_0 hF_0 (by omega)
  exact L0 _ h _ hT hF0 (by omega) (pv_mu _)
