abbrev Q278 (τ : Nat → Option Nat) (ρ : Nat → Nat → Nat) (h : pv_H) (a0 : Nat) : Option Value → pv_H → Prop := fun r h' => pv_Ty τ ρ h' ∧ pv_Fr τ [2623] h h' ∧ ∃ z : Int, r = some (.int (pv_I z)) ∧ 0 ≤ z ∧ z ≤ 1 ∧ (pw_ok (pv_aI h' (ρ a0 1)))
set_option maxHeartbeats 4000000 in
set_option maxRecDepth 20000 in
/-- AngleNetModel.undo()I -/
theorem ct278 {τ : Nat → Option Nat} {ρ : Nat → Nat → Nat} {K : Nat → Nat} {h : pv_H} {a0 : Nat} (hT : pv_Ty τ ρ h) (hA0 : τ a0 = some 7) (hP0 : pw_ok (pv_aI h (ρ a0 1))) : pv_C K 278 [.ref a0] h (Q278 τ ρ h a0) := by
  refine pw_entry 2 ?_
  show pv_T K 278 0 (pv_fl [some (.ref a0), none, none]) [] h (Q278 τ ρ h a0)
  have hR0_1 : τ (ρ a0 1) = some 40 := hT.rf (t' := 40) hA0 rfl rfl
  have hF0 : pv_Fr τ [2623] h h := pv_Fr.rf
  have L110 : ∀ (nn : Nat) (h_110 : pv_H) (xL1_110 xL2_110 : Int), (pv_Ty τ ρ h_110) → (pv_Fr τ [2623] h h_110) → (220 ≤ xL1_110 ∧ xL1_110 ≤ 1507) → (0 ≤ xL2_110 ∧ xL2_110 ≤ 2) → (ud_l (pv_aI h (ρ a0 1)) (pv_aI h_110 (ρ a0 1)) xL1_110 xL2_110) → (xL1_110 = 220 + 13 * (pv_aI h (ρ a0 1) (6 : Int).toNat - 1)) → (1 ≤ pv_aI h (ρ a0 1) (6 : Int).toNat ∧ pv_aI h (ρ a0 1) (6 : Int).toNat ≤ 99) → 2 - xL2_110 < nn → pv_T K 278 110 (pv_fl [some (.ref a0), some (.int (pv_I xL1_110)), some (.int (pv_I xL2_110))]) [] h_110 (Q278 τ ρ h a0) := by
    intro nn
    induction nn with
    | zero => intro h_110 xL1_110 xL2_110 hT_110 hF_110 rL1_110 rL2_110 i0_110 i1_110 i2_110 hm; exfalso; omega
    | succ nn ih110 =>
      intro h_110 xL1_110 xL2_110 hT_110 hF_110 rL1_110 rL2_110 i0_110 i1_110 i2_110 hm110
      refine pw_iload_n d278_110 rfl ?_
      refine pw_iconst d278_111 ?_
      refine pw_icmp_ge d278_112 rfl (by omega) (by omega) (fun c112 => ?_) (fun c112 => ?_)
      · have hw1 : 0 ≤ pv_aI h (ρ a0 1) (1 : Int).toNat ∧ pv_aI h (ρ a0 1) (1 : Int).toNat ≤ 18 := (hT.wc hR0_1 (j := 1) rfl (by decide)).2.2.1 (by decide)
        have hw7 : 0 ≤ pv_aI h (ρ a0 1) (7 : Int).toNat ∧ pv_aI h (ρ a0 1) (7 : Int).toNat ≤ 99 := (hT.wc hR0_1 (j := 7) rfl (by decide)).2.2.2.2.2.2.2.1 (by decide)
        refine pw_iconst d278_185 ?_
        exact pw_ireturn d278_186 tt278 ⟨hT_110, hF_110, 1, rfl, (by omega), (by omega), (by first | exact hP0 | exact ud_ok hP0 hw1.2 (by omega) i1_110 i0_110 (by omega) hw7.1)⟩
      · have m4 : (xL1_110 + 4 + 4 * xL2_110 - 220) % 13 = 4 + 4 * xL2_110 := by rcases (show xL2_110 = 0 ∨ xL2_110 = 1 by omega) with q | q <;> rw [q] <;> omega
        have m5 : (xL1_110 + 5 + 4 * xL2_110 - 220) % 13 = 5 + 4 * xL2_110 := by rcases (show xL2_110 = 0 ∨ xL2_110 = 1 by omega) with q | q <;> rw [q] <;> omega
        have m6 : (xL1_110 + 6 + 4 * xL2_110 - 220) % 13 = 6 + 4 * xL2_110 := by rcases (show xL2_110 = 0 ∨ xL2_110 = 1 by omega) with q | q <;> rw [q] <;> omega
        have m7 : (xL1_110 + 7 + 4 * xL2_110 - 220) % 13 = 7 + 4 * xL2_110 := by rcases (show xL2_110 = 0 ∨ xL2_110 = 1 by omega) with q | q <;> rw [q] <;> omega
        refine pw_aload_n d278_115 rfl ?_
        refine pw_aload_n d278_116 rfl ?_
        refine pw_getR d278_117 g278_9 hT_110 hA0 rfl rfl (fun t117 => ?_)
        have t117 : τ (ρ a0 1) = some 40 := t117
        refine pw_iload_n d278_120 rfl ?_
        refine pw_iconst d278_121 ?_
        refine pw_iadd d278_122 ?_
        refine pw_iload_n d278_123 rfl ?_
        refine pw_iadd d278_124 ?_
        refine pw_ialdB d278_125 hT_110 t117 rfl rfl (by omega) (by omega) (fun u125 => ?_)
        have u125 : pv_wok (((xL1_110 + 2) + xL2_110)) (pv_aI h_110 (ρ a0 1) (((xL1_110 + 2) + xL2_110)).toNat) := u125
        have vu125 := u125.2.2.2.2.2.2.2.2.2.2.2.2.2.2.1 (by omega)
        refine pw_aload_n d278_126 rfl ?_
        refine pw_getR d278_127 g278_9 hT_110 hA0 rfl rfl (fun t127 => ?_)
        have t127 : τ (ρ a0 1) = some 40 := t127
        refine pw_iload_n d278_130 rfl ?_
        refine pw_iconst d278_131 ?_
        refine pw_iadd d278_132 ?_
        refine pw_iconst d278_133 ?_
        refine pw_iload_n d278_134 rfl ?_
        refine pw_imul d278_135 ?_
        refine pw_iadd d278_136 ?_
        refine pw_ialdB d278_137 hT_110 t127 rfl rfl (by omega) (by omega) (fun u137 => ?_)
        have u137 : pv_wok (((xL1_110 + 4) + (4 * xL2_110))) (pv_aI h_110 (ρ a0 1) (((xL1_110 + 4) + (4 * xL2_110))).toNat) := u137
        have vu137 := u137.2.2.2.2.2.2.2.2.2.2.2.2.2.2.2.1 (by omega)
        refine pw_aload_n d278_138 rfl ?_
        refine pw_getR d278_139 g278_9 hT_110 hA0 rfl rfl (fun t139 => ?_)
        have t139 : τ (ρ a0 1) = some 40 := t139
        refine pw_iload_n d278_142 rfl ?_
        refine pw_iconst d278_143 ?_
        refine pw_iadd d278_144 ?_
        refine pw_iconst d278_145 ?_
        refine pw_iload_n d278_146 rfl ?_
        refine pw_imul d278_147 ?_
        refine pw_iadd d278_148 ?_
        refine pw_ialdB d278_149 hT_110 t139 rfl rfl (by omega) (by omega) (fun u149 => ?_)
        have u149 : pv_wok (((xL1_110 + 5) + (4 * xL2_110))) (pv_aI h_110 (ρ a0 1) (((xL1_110 + 5) + (4 * xL2_110))).toNat) := u149
        have vu149 := u149.2.2.2.2.2.2.2.2.2.2.2.2.2.2.2.1 (by omega)
        refine pw_aload_n d278_150 rfl ?_
        refine pw_getR d278_151 g278_9 hT_110 hA0 rfl rfl (fun t151 => ?_)
        have t151 : τ (ρ a0 1) = some 40 := t151
        refine pw_iload_n d278_154 rfl ?_
        refine pw_bipush d278_155 (by decide) ?_
        refine pw_iadd d278_157 ?_
        refine pw_iconst d278_158 ?_
        refine pw_iload_n d278_159 rfl ?_
        refine pw_imul d278_160 ?_
        refine pw_iadd d278_161 ?_
        refine pw_ialdB d278_162 hT_110 t151 rfl rfl (by omega) (by omega) (fun u162 => ?_)
        have u162 : pv_wok (((xL1_110 + 6) + (4 * xL2_110))) (pv_aI h_110 (ρ a0 1) (((xL1_110 + 6) + (4 * xL2_110))).toNat) := u162
        have vu162 := u162.2.2.2.2.2.2.2.2.2.2.2.2.2.2.2.1 (by omega)
        refine pw_aload_n d278_163 rfl ?_
        refine pw_getR d278_164 g278_9 hT_110 hA0 rfl rfl (fun t164 => ?_)
        have t164 : τ (ρ a0 1) = some 40 := t164
        refine pw_iload_n d278_167 rfl ?_
        refine pw_bipush d278_168 (by decide) ?_
        refine pw_iadd d278_170 ?_
        refine pw_iconst d278_171 ?_
        refine pw_iload_n d278_172 rfl ?_
        refine pw_imul d278_173 ?_
        refine pw_iadd d278_174 ?_
        refine pw_ialdB d278_175 hT_110 t164 rfl rfl (by omega) (by omega) (fun u175 => ?_)
        have u175 : pv_wok (((xL1_110 + 7) + (4 * xL2_110))) (pv_aI h_110 (ρ a0 1) (((xL1_110 + 7) + (4 * xL2_110))).toNat) := u175
        have vu175 := u175.2.2.2.2.2.2.2.2.2.2.2.2.2.2.2.2 (by omega)
        refine pw_callV5 d278_176 k278_364 hT_110 hA0 rfl rfl rfl (ct273 (τ := τ) (ρ := ρ) hT_110 hA0 (by omega) (by omega) (by omega) (by omega) (by omega)) (fun r176 h176 q176 => ?_)
        obtain ⟨T176, F176, ez176, pz176_0⟩ := q176
        subst ez176
        have f176 := hF_110.tr (F176.up (by decide))
        refine pw_iinc d278_179 m278 rfl rfl rfl ?_
        refine pw_goto d278_182 rfl ?_
        exact ih110 h176 (xL1_110) ((xL2_110 + 1)) T176 f176 (by omega) (by omega) (by first | exact ud_s i0_110 (by omega) (by omega) (by omega) rfl rfl rfl rfl pz176_0 | exact ud_0 (pe_at E22) rfl (pe_at E33) rfl pz75_0 pz105_0) (by omega) (by omega) (by omega)
  have hw1 : 0 ≤ pv_aI h (ρ a0 1) (1 : Int).toNat ∧ pv_aI h (ρ a0 1) (1 : Int).toNat ≤ 18 := (hT.wc hR0_1 (j := 1) rfl (by decide)).2.2.1 (by decide)
  have hw6 : 0 ≤ pv_aI h (ρ a0 1) (6 : Int).toNat ∧ pv_aI h (ρ a0 1) (6 : Int).toNat ≤ 99 := (hT.wc hR0_1 (j := 6) rfl (by decide)).2.2.2.2.2.2.1 (by decide)
  have hw7 : 0 ≤ pv_aI h (ρ a0 1) (7 : Int).toNat ∧ pv_aI h (ρ a0 1) (7 : Int).toNat ≤ 99 := (hT.wc hR0_1 (j := 7) rfl (by decide)).2.2.2.2.2.2.2.1 (by decide)
  have hs0 : pv_aI h (ρ a0 1) 6 + pv_aI h (ρ a0 1) 7 ≤ 99 := hP0.1
  have x6 : pv_aI h (ρ a0 1) (6 : Int).toNat = pv_aI h (ρ a0 1) 6 := rfl
  have x7 : pv_aI h (ρ a0 1) (7 : Int).toNat = pv_aI h (ρ a0 1) 7 := rfl
  refine pw_aload_n d278_0 rfl ?_
  refine pw_getR d278_1 g278_9 hT hA0 rfl rfl (fun t1 => ?_)
  have t1 : τ (ρ a0 1) = some 40 := t1
  refine pw_bipush d278_4 (by decide) ?_
  refine pw_ialdB d278_6 hT t1 rfl rfl (by omega) (by omega) (fun u6 => ?_)
  have u6 : pv_wok ((6 : Int)) (pv_aI h (ρ a0 1) ((6 : Int)).toNat) := u6
  have vu6 := u6.2.2.2.2.2.2.1 (by omega)
  refine pw_if_ne d278_7 rfl (by omega) (fun c7 => ?_) (fun c7 => ?_)
  · refine pw_aload_n d278_12 rfl ?_
    refine pw_getR d278_13 g278_9 hT hA0 rfl rfl (fun t13 => ?_)
    have t13 : τ (ρ a0 1) = some 40 := t13
    refine pw_bipush d278_16 (by decide) ?_
    refine pw_dup2 d278_18 rfl rfl ?_
    refine pw_ialdB d278_19 hT t13 rfl rfl (by omega) (by omega) (fun u19 => ?_)
    have u19 : pv_wok ((6 : Int)) (pv_aI h (ρ a0 1) ((6 : Int)).toNat) := u19
    have vu19 := u19.2.2.2.2.2.2.1 (by omega)
    refine pw_iconst d278_20 ?_
    refine pw_isub d278_21 ?_
    refine pw_iastB d278_22 hT t13 rfl rfl rfl (by omega) (by omega) (by omega) (by show pv_wok _ _; unfold pv_wok; omega) (fun h22 T22 F22 E22 => ?_)
    have f22 := hF0.tr (F22.up (by decide))
    refine pw_aload_n d278_23 rfl ?_
    refine pw_getR d278_24 g278_9 T22 hA0 rfl rfl (fun t24 => ?_)
    have t24 : τ (ρ a0 1) = some 40 := t24
    refine pw_bipush d278_27 (by decide) ?_
    refine pw_dup2 d278_29 rfl rfl ?_
    have e30 : pv_aI h22 (ρ a0 1) (7 : Int).toNat = pv_aI h (ρ a0 1) (7 : Int).toNat := by rw [pe_at E22, if_neg (by decide)]
    refine pw_ialdB d278_30 T22 t24 rfl rfl (by omega) (by omega) (fun u30 => ?_)
    have u30 : pv_wok ((7 : Int)) (pv_aI h22 (ρ a0 1) ((7 : Int)).toNat) := u30
    have vu30 := u30.2.2.2.2.2.2.2.1 (by omega)
    refine pw_iconst d278_31 ?_
    refine pw_iadd d278_32 ?_
    refine pw_iastB d278_33 T22 t24 rfl rfl rfl (by omega) (by omega) (by omega) (by show pv_wok _ _; unfold pv_wok; omega) (fun h33 T33 F33 E33 => ?_)
    have f33 := f22.tr (F33.up (by decide))
    refine pw_sipush d278_34 (by decide) ?_
    refine pw_bipush d278_37 (by decide) ?_
    refine pw_aload_n d278_39 rfl ?_
    refine pw_getR d278_40 g278_9 T33 hA0 rfl rfl (fun t40 => ?_)
    have t40 : τ (ρ a0 1) = some 40 := t40
    refine pw_bipush d278_43 (by decide) ?_
    have e45 : pv_aI h33 (ρ a0 1) (6 : Int).toNat = pv_aI h (ρ a0 1) (6 : Int).toNat - 1 := by rw [pe_at E33, if_neg (by decide), pe_at E22, if_pos rfl]
    refine pw_ialdB d278_45 T33 t40 rfl rfl (by omega) (by omega) (fun u45 => ?_)
    have u45 : pv_wok ((6 : Int)) (pv_aI h33 (ρ a0 1) ((6 : Int)).toNat) := u45
    have vu45 := u45.2.2.2.2.2.2.1 (by omega)
    refine pw_imul d278_46 ?_
    refine pw_iadd d278_47 ?_
    refine pw_istore_n d278_48 m278 rfl rfl ?_
    refine pw_aload_n d278_49 rfl ?_
    refine pw_aload_n d278_50 rfl ?_
    refine pw_getR d278_51 g278_9 T33 hA0 rfl rfl (fun t51 => ?_)
    have t51 : τ (ρ a0 1) = some 40 := t51
    refine pw_iload_n d278_54 rfl ?_
    refine pw_bipush d278_55 (by decide) ?_
    refine pw_iadd d278_57 ?_
    refine pw_ialdB d278_58 T33 t51 rfl rfl (by omega) (by omega) (fun u58 => ?_)
    have u58 : pv_wok (((220 + (13 * (pv_aI h33 (ρ a0 1) ((6 : Int)).toNat))) + 12)) (pv_aI h33 (ρ a0 1) (((220 + (13 * (pv_aI h33 (ρ a0 1) ((6 : Int)).toNat))) + 12)).toNat) := u58
    have vu58 := u58.2.2.2.2.2.2.2.2.2.2.2.2.1 (by omega)
    refine pw_bipush d278_59 (by decide) ?_
    refine pw_idiv d278_61 (by omega) (by omega) (by omega) (by omega) ?_
    refine pw_aload_n d278_62 rfl ?_
    refine pw_getR d278_63 g278_9 T33 hA0 rfl rfl (fun t63 => ?_)
    have t63 : τ (ρ a0 1) = some 40 := t63
    refine pw_iload_n d278_66 rfl ?_
    refine pw_bipush d278_67 (by decide) ?_
    refine pw_iadd d278_69 ?_
    refine pw_ialdB d278_70 T33 t63 rfl rfl (by omega) (by omega) (fun u70 => ?_)
    have u70 : pv_wok (((220 + (13 * (pv_aI h33 (ρ a0 1) ((6 : Int)).toNat))) + 12)) (pv_aI h33 (ρ a0 1) (((220 + (13 * (pv_aI h33 (ρ a0 1) ((6 : Int)).toNat))) + 12)).toNat) := u70
    have vu70 := u70.2.2.2.2.2.2.2.2.2.2.2.2.1 (by omega)
    refine pw_bipush d278_71 (by decide) ?_
    refine pw_irem d278_73 (by omega) (by omega) (by omega) (by omega) ?_
    refine pw_iconst d278_74 ?_
    refine pw_callV3 d278_75 k278_368 T33 hA0 rfl rfl rfl (ct274F (τ := τ) (ρ := ρ) T33 hA0 (by omega) (by omega) (by omega)) (fun r75 h75 q75 => ?_)
    obtain ⟨T75, F75, ez75, pz75_0⟩ := q75
    subst ez75
    have f75 := f33.tr (F75.up (by decide))
    refine pw_aload_n d278_78 rfl ?_
    refine pw_aload_n d278_79 rfl ?_
    refine pw_getR d278_80 g278_9 T75 hA0 rfl rfl (fun t80 => ?_)
    have t80 : τ (ρ a0 1) = some 40 := t80
    refine pw_iload_n d278_83 rfl ?_
    refine pw_ialdB d278_84 T75 t80 rfl rfl (by omega) (by omega) (fun u84 => ?_)
    have u84 : pv_wok ((220 + (13 * (pv_aI h33 (ρ a0 1) ((6 : Int)).toNat)))) (pv_aI h75 (ρ a0 1) ((220 + (13 * (pv_aI h33 (ρ a0 1) ((6 : Int)).toNat)))).toNat) := u84
    have vu84 := u84.2.2.2.2.2.2.2.2.2.2.2.2.1 (by omega)
    refine pw_bipush d278_85 (by decide) ?_
    refine pw_idiv d278_87 (by omega) (by omega) (by omega) (by omega) ?_
    refine pw_aload_n d278_88 rfl ?_
    refine pw_getR d278_89 g278_9 T75 hA0 rfl rfl (fun t89 => ?_)
    have t89 : τ (ρ a0 1) = some 40 := t89
    refine pw_iload_n d278_92 rfl ?_
    refine pw_ialdB d278_93 T75 t89 rfl rfl (by omega) (by omega) (fun u93 => ?_)
    have u93 : pv_wok ((220 + (13 * (pv_aI h33 (ρ a0 1) ((6 : Int)).toNat)))) (pv_aI h75 (ρ a0 1) ((220 + (13 * (pv_aI h33 (ρ a0 1) ((6 : Int)).toNat)))).toNat) := u93
    have vu93 := u93.2.2.2.2.2.2.2.2.2.2.2.2.1 (by omega)
    refine pw_bipush d278_94 (by decide) ?_
    refine pw_irem d278_96 (by omega) (by omega) (by omega) (by omega) ?_
    refine pw_aload_n d278_97 rfl ?_
    refine pw_getR d278_98 g278_9 T75 hA0 rfl rfl (fun t98 => ?_)
    have t98 : τ (ρ a0 1) = some 40 := t98
    refine pw_iload_n d278_101 rfl ?_
    refine pw_iconst d278_102 ?_
    refine pw_iadd d278_103 ?_
    refine pw_ialdB d278_104 T75 t98 rfl rfl (by omega) (by omega) (fun u104 => ?_)
    have u104 : pv_wok (((220 + (13 * (pv_aI h33 (ρ a0 1) ((6 : Int)).toNat))) + 1)) (pv_aI h75 (ρ a0 1) (((220 + (13 * (pv_aI h33 (ρ a0 1) ((6 : Int)).toNat))) + 1)).toNat) := u104
    have vu104 := u104.2.2.2.2.2.2.2.2.2.2.2.2.2.1 (by omega)
    refine pw_callV3 d278_105 k278_368 T75 hA0 rfl rfl rfl (ct274F (τ := τ) (ρ := ρ) T75 hA0 (by omega) (by omega) (by omega)) (fun r105 h105 q105 => ?_)
    obtain ⟨T105, F105, ez105, pz105_0⟩ := q105
    subst ez105
    have f105 := f75.tr (F105.up (by decide))
    refine pw_iconst d278_108 ?_
    refine pw_istore_n d278_109 m278 rfl rfl ?_
    exact L110 _ h105 ((220 + (13 * (pv_aI h33 (ρ a0 1) ((6 : Int)).toNat)))) (0) T105 f105 (by omega) (by omega) (by first | exact ud_s i0_110 (by omega) (by omega) (by omega) rfl rfl rfl rfl pz176_0 | exact ud_0 (pe_at E22) rfl (pe_at E33) rfl pz75_0 pz105_0) (by omega) (by omega) (pv_mu _)
  · refine pw_iconst d278_10 ?_
    exact pw_ireturn d278_11 tt278 ⟨hT, hF0, 0, rfl, (by omega), (by omega), (by first | exact hP0 | exact ud_ok hP0 hw1.2 (by omega) i1_110 i0_110 (by omega) hw7.1)⟩

abbrev Q277 (τ : Nat → Option Nat) (ρ : Nat → Nat → Nat) (h : pv_H) (a0 : Nat) (x1 : Int) : Option Value → pv_H → Prop := fun r h' => pv_Ty τ ρ h' ∧ pv_Fr τ [2623] h h' ∧ ∃ z : Int, r = some (.int (pv_I z)) ∧ (-2) ≤ z ∧ z ≤ 99 ∧ (pw_ok (pv_aI h (ρ a0 1)) → pw_ok (pv_aI h' (ρ a0 1))) ∧ (pf_G 10 (pr_n (pv_aI h' (ρ a0 1))) (pr_c (pv_aI h' (ρ a0 1))))
set_option maxHeartbeats 4000000 in
set_option maxRecDepth 20000 in
/-- AngleNetModel.legal(I)I -/
theorem ct277 {τ : Nat → Option Nat} {ρ : Nat → Nat → Nat} {K : Nat → Nat} {h : pv_H} {a0 : Nat} {x1 : Int} (hT : pv_Ty τ ρ h) (hA0 : τ a0 = some 7) (hX1 : (-2147483648) ≤ x1 ∧ x1 ≤ 2147483647) (hP0 : pf_G 10 (pr_n (pv_aI h (ρ a0 1))) (pr_c (pv_aI h (ρ a0 1)))) : pv_C K 277 [.ref a0, .int (pv_I x1)] h (Q277 τ ρ h a0 x1) := by
  refine pw_entry 3 ?_
  show pv_T K 277 0 (pv_fl [some (.ref a0), some (.int (pv_I x1)), none, none, none]) [] h (Q277 τ ρ h a0 x1)
  have hR0_1 : τ (ρ a0 1) = some 40 := hT.rf (t' := 40) hA0 rfl rfl
  have hF0 : pv_Fr τ [2623] h h := pv_Fr.rf
  have L29 : ∀ (nn : Nat) (h_29 : pv_H) (xL2_29 xL3_29 : Int) (o4_29 : Option Value), (pv_Ty τ ρ h_29) → (pv_Fr τ [2623] h h_29) → (1 ≤ x1 ∧ x1 ≤ 99) → (0 ≤ xL2_29 ∧ xL2_29 ≤ 99) → ((-1) ≤ xL3_29 ∧ xL3_29 ≤ 99) → (pf_G 10 (pr_n (pv_aI h_29 (ρ a0 1))) (pr_c (pv_aI h_29 (ρ a0 1)))) → (pw_ok (pv_aI h (ρ a0 1)) → pw_ok (pv_aI h_29 (ρ a0 1))) → (xL3_29 = -1 ∨ (0 ≤ xL3_29 ∧ xL3_29 ≤ 99 ∧ xL3_29 / 10 < pv_aI h_29 (ρ a0 1) (0 : Int).toNat ∧ xL3_29 % 10 < pv_aI h_29 (ρ a0 1) (0 : Int).toNat ∧ pr_s (pv_aI h_29 (ρ a0 1)) (xL3_29 / 10) (xL3_29 % 10) ∧ pr_ff (pv_aI h_29 (ρ a0 1)) (xL3_29 / 10) (xL3_29 % 10))) → (1 ≤ x1 ∧ x1 ≤ 99) → 99 - xL2_29 < nn → pv_T K 277 29 (pv_fl [some (.ref a0), some (.int (pv_I x1)), some (.int (pv_I xL2_29)), some (.int (pv_I xL3_29)), o4_29]) [] h_29 (Q277 τ ρ h a0 x1) := by
    intro nn
    induction nn with
    | zero => intro h_29 xL2_29 xL3_29 o4_29 hT_29 hF_29 rL1_29 rL2_29 rL3_29 i0_29 i1_29 i2_29 i3_29 hm; exfalso; omega
    | succ nn ih29 =>
      intro h_29 xL2_29 xL3_29 o4_29 hT_29 hF_29 rL1_29 rL2_29 rL3_29 i0_29 i1_29 i2_29 i3_29 hm29
      have J76 : ∀ (h_76 : pv_H) (xS0_76 : Int) (o2_76 o3_76 o4_76 : Option Value), (pv_Ty τ ρ h_76) → (pv_Fr τ [2623] h h_76) → (1 ≤ x1 ∧ x1 ≤ 99) → (0 ≤ xS0_76 ∧ xS0_76 ≤ 1) → (0 ≤ xL2_29 ∧ xL2_29 ≤ 98) → (xS0_76 = 1) → (xL2_29 = xL2_29) → (pf_G 10 (pr_n (pv_aI h_76 (ρ a0 1))) (pr_c (pv_aI h_76 (ρ a0 1)))) → (pw_ok (pv_aI h (ρ a0 1)) → pw_ok (pv_aI h_76 (ρ a0 1))) → (xL2_29 < x1) → pv_T K 277 76 (pv_fl [some (.ref a0), some (.int (pv_I x1)), o2_76, o3_76, o4_76]) [.int (pv_I xS0_76), .int (pv_I xL2_29)] h_76 (Q277 τ ρ h a0 x1) := by
        intro h_76 xS0_76 o2_76 o3_76 o4_76 hT_76 hF_76 rL1_76 rS0_76 rS1_76 i0_76 i1_76 i2_76 i3_76 i4_76
        refine pw_iadd d277_76 ?_
        refine pw_istore_n d277_77 m277 rfl rfl ?_
        refine pw_aload_n d277_78 rfl ?_
        refine pw_callV0 d277_79 k277_375 hT_76 hA0 rfl rfl rfl (ct276 (τ := τ) (ρ := ρ) hT_76 hA0 (by first | assumption | omega)) (fun r79 h79 q79 => ?_)
        obtain ⟨eh79, z79, ez79, lz79, uz79, pz79_0⟩ := q79
        subst eh79
        subst ez79
        refine pw_istore_n d277_82 m277 rfl rfl ?_
        refine pw_goto d277_83 rfl ?_
        exact ih29 h_76 ((xL2_29 + xS0_76)) (z79) _ hT_76 hF_76 (by omega) (by omega) (by omega) (by first | exact hP0 | assumption) (by first | exact id | assumption) (by first | exact pz25_0 | exact pz79_0) (by omega) (by omega)
      refine pw_iload_n d277_29 rfl ?_
      refine pw_iload_n d277_30 rfl ?_
      refine pw_icmp_ge d277_31 rfl (by omega) (by omega) (fun c31 => ?_) (fun c31 => ?_)
      · refine pw_iload_n d277_86 rfl ?_
        exact pw_ireturn d277_87 tt277 ⟨hT_29, hF_29, xL2_29, rfl, (by omega), (by omega), (by first | exact id | exact i1_29), (by first | exact hP0 | exact i0_29)⟩
      · refine pw_iload_n d277_34 rfl ?_
        refine pw_iconst d277_35 ?_
        refine pw_icmp_eq d277_36 rfl (by omega) (by omega) (fun c36 => ?_) (fun c36 => ?_)
        · refine pw_iload_n d277_86 rfl ?_
          exact pw_ireturn d277_87 tt277 ⟨hT_29, hF_29, xL2_29, rfl, (by omega), (by omega), (by first | exact id | exact i1_29), (by first | exact hP0 | exact i0_29)⟩
        · refine pw_aload_n d277_39 rfl ?_
          refine pw_getR d277_40 g277_9 hT_29 hA0 rfl rfl (fun t40 => ?_)
          have t40 : τ (ρ a0 1) = some 40 := t40
          refine pw_bipush d277_43 (by decide) ?_
          refine pw_ialdB d277_45 hT_29 t40 rfl rfl (by omega) (by omega) (fun u45 => ?_)
          have u45 : pv_wok ((6 : Int)) (pv_aI h_29 (ρ a0 1) ((6 : Int)).toNat) := u45
          have vu45 := u45.2.2.2.2.2.2.1 (by omega)
          refine pw_bipush d277_46 (by decide) ?_
          refine pw_icmp_ge d277_48 rfl (by omega) (by omega) (fun c48 => ?_) (fun c48 => ?_)
          · refine pw_iload_n d277_86 rfl ?_
            exact pw_ireturn d277_87 tt277 ⟨hT_29, hF_29, xL2_29, rfl, (by omega), (by omega), (by first | exact id | exact i1_29), (by first | exact hP0 | exact i0_29)⟩
          · refine pw_aload_n d277_51 rfl ?_
            have sd52 := (by rcases i2_29 with q | q; (exfalso; omega); exact q : (0 ≤ xL3_29 ∧ xL3_29 ≤ 99 ∧ xL3_29 / 10 < pv_aI h_29 (ρ a0 1) (0 : Int).toNat ∧ xL3_29 % 10 < pv_aI h_29 (ρ a0 1) (0 : Int).toNat ∧ pr_s (pv_aI h_29 (ρ a0 1)) (xL3_29 / 10) (xL3_29 % 10) ∧ pr_ff (pv_aI h_29 (ρ a0 1)) (xL3_29 / 10) (xL3_29 % 10)))
            refine pw_iload_n d277_52 rfl ?_
            refine pw_bipush d277_53 (by decide) ?_
            refine pw_idiv d277_55 (by omega) (by omega) (by omega) (by omega) ?_
            refine pw_iload_n d277_56 rfl ?_
            refine pw_bipush d277_57 (by decide) ?_
            refine pw_irem d277_59 (by omega) (by omega) (by omega) (by omega) ?_
            refine pw_callV2 d277_60 k277_380 hT_29 hA0 rfl rfl rfl (ct271 (τ := τ) (ρ := ρ) hT_29 hA0 (by omega) (by omega) (by first | assumption | omega)) (fun r60 h60 q60 => ?_)
            obtain ⟨T60, F60, z60, ez60, lz60, uz60, pz60_0, pz60_1, pz60_2, pz60_3⟩ := q60
            subst ez60
            have f60 := hF_29.tr (F60.up (by decide))
            refine pw_istore d277_63 m277 rfl rfl ?_
            refine pw_iload_n d277_65 rfl ?_
            refine pw_iload d277_66 rfl ?_
            refine pw_if_lt d277_68 rfl (by omega) (fun c68 => ?_) (fun c68 => ?_)
            · refine pw_iconst d277_75 ?_
              exact J76 h60 (0) _ _ _ T60 f60 (by omega) (by omega) (by omega) (by first | rfl | (exfalso; have := pz60_2 (by omega) sd52.2.2.1 (by omega) sd52.2.2.2.1 sd52.2.2.2.2.1 sd52.2.2.2.2.2 (by omega); omega)) (by first | rfl | omega) (by exact pz60_1) (by exact fun q => pz60_0 (i1_29 q)) (by omega)
            · refine pw_iconst d277_71 ?_
              refine pw_goto d277_72 rfl ?_
              exact J76 h60 (1) _ _ _ T60 f60 (by omega) (by omega) (by omega) (by first | rfl | (exfalso; have := pz60_2 (by omega) sd52.2.2.1 (by omega) sd52.2.2.2.1 sd52.2.2.2.2.1 sd52.2.2.2.2.2 (by omega); omega)) (by first | rfl | omega) (by exact pz60_1) (by exact fun q => pz60_0 (i1_29 q)) (by omega)
  refine pw_aload_n d277_0 rfl ?_
  refine pw_callV0 d277_1 k277_283 hT hA0 rfl rfl rfl (ct224 (τ := τ) (ρ := ρ) hT hA0) (fun r1 h1 q1 => ?_)
  obtain ⟨eh1, z1, ez1, lz1, uz1⟩ := q1
  subst eh1
  subst ez1
  refine pw_if_eq d277_4 rfl (by omega) (fun c4 => ?_) (fun c4 => ?_)
  · refine pw_bipush d277_19 (by decide) ?_
    exact pw_ireturn d277_21 tt277 ⟨hT, hF0, (-2), rfl, (by omega), (by omega), (by first | exact id | exact i1_29), (by first | exact hP0 | exact i0_29)⟩
  · refine pw_iload_n d277_7 rfl ?_
    refine pw_i2l d277_8 (by omega) ?_
    refine pw_lconst (z := 1) d277_9 (by decide) ?_
    refine pw_ldc2 (v := pv_J 99) d277_10 n277_10 ?_
    refine pw_callS3 d277_13 k277_73 rfl rfl (ct184 (τ := τ) (ρ := ρ) (by omega) (by omega) (by omega)) (fun r13 h13 q13 => ?_)
    obtain ⟨eh13, z13, ez13, lz13, uz13, pz13_0⟩ := q13
    subst eh13
    subst ez13
    refine pw_if_ne d277_16 rfl (by omega) (fun c16 => ?_) (fun c16 => ?_)
    · refine pw_iconst d277_22 ?_
      refine pw_istore_n d277_23 m277 rfl rfl ?_
      refine pw_aload_n d277_24 rfl ?_
      refine pw_callV0 d277_25 k277_375 hT hA0 rfl rfl rfl (ct276 (τ := τ) (ρ := ρ) hT hA0 (by first | assumption | omega)) (fun r25 h25 q25 => ?_)
      obtain ⟨eh25, z25, ez25, lz25, uz25, pz25_0⟩ := q25
      subst eh25
      subst ez25
      refine pw_istore_n d277_28 m277 rfl rfl ?_
      exact L29 _ h (0) (z25) _ hT hF0 (by omega) (by omega) (by omega) (by first | exact hP0 | assumption) (by first | exact id | assumption) (by first | exact pz25_0 | exact pz79_0) (by omega) (pv_mu _)
    · refine pw_bipush d277_19 (by decide) ?_
      exact pw_ireturn d277_21 tt277 ⟨hT, hF0, (-2), rfl, (by omega), (by omega), (by first | exact id | exact i1_29), (by first | exact hP0 | exact i0_29)⟩
