abbrev Q189 (τ : Nat → Option Nat) (ρ : Nat → Nat → Nat) (h : pv_H) (a0 : Nat) : Option Value → pv_H → Prop := fun r h' => pv_Ty τ ρ h' ∧ pv_Fr τ [453, 455, 456, 457, 458, 459, 460, 461, 2623, 2943] h h' ∧ ∃ z : Int, r = some (.int (pv_I z)) ∧ (-2147483648) ≤ z ∧ z ≤ 2147483647 ∧ (pw_ok (pv_aI h (ρ a0 1)) → pw_ok (pv_aI h' (ρ a0 1)))
set_option maxHeartbeats 4000000 in
set_option maxRecDepth 20000 in
/-- AngleNetModel.net()I -/
theorem ct189 {τ : Nat → Option Nat} {ρ : Nat → Nat → Nat} {K : Nat → Nat} {h : pv_H} {a0 : Nat} (hK : pv_Kok K) (hT : pv_Ty τ ρ h) (hA0 : τ a0 = some 7) : pv_C K 189 [.ref a0] h (Q189 τ ρ h a0) := by
  refine pw_entry 1 ?_
  show pv_T K 189 0 (pv_fl [some (.ref a0), none]) [] h (Q189 τ ρ h a0)
  have hR0_1 : τ (ρ a0 1) = some 40 := hT.rf (t' := 40) hA0 rfl rfl
  have hR0_14 : τ (ρ a0 14) = some 45 := hT.rf (t' := 45) hA0 rfl rfl
  have hF0 : pv_Fr τ [453, 455, 456, 457, 458, 459, 460, 461, 2623, 2943] h h := pv_Fr.rf
  have L142 : ∀ (nn : Nat) (h_142 : pv_H) (xL1_142 : Int), (pv_Ty τ ρ h_142) → (pv_Fr τ [453, 455, 456, 457, 458, 459, 460, 461, 2623, 2943] h h_142) → (0 ≤ xL1_142 ∧ xL1_142 ≤ 1599) → (∀ j : Nat, (j : Int) < xL1_142 → pv_aI h_142 (ρ a0 1) j = pv_aI h_142 (ρ a0 14) j) → (pf_G (pv_aI h_142 (ρ a0 14) 0) (pr_n (pv_aI h_142 (ρ a0 14))) (pr_c (pv_aI h_142 (ρ a0 14)))) → (pv_aI h_142 (ρ a0 14) 6 = 0 ∧ pv_aI h_142 (ρ a0 14) 7 = 0) → 1599 - xL1_142 < nn → pv_T K 189 142 (pv_fl [some (.ref a0), some (.int (pv_I xL1_142))]) [] h_142 (Q189 τ ρ h a0) := by
    intro nn
    induction nn with
    | zero => intro h_142 xL1_142 hT_142 hF_142 rL1_142 i0_142 i1_142 i2_142 hm; exfalso; omega
    | succ nn ih142 =>
      intro h_142 xL1_142 hT_142 hF_142 rL1_142 i0_142 i1_142 i2_142 hm142
      refine pw_iload_n d189_142 rfl ?_
      refine pw_sipush d189_143 (by decide) ?_
      refine pw_icmp_ge d189_146 rfl (by omega) (by omega) (fun c146 => ?_) (fun c146 => ?_)
      · have f167 : pv_aI h_142 (ρ a0 14) (1 : Int).toNat ≤ 18 := (hT_142.wc hR0_14 (j := 1) rfl (by decide)).2.2.1 (by decide) |>.2
        refine pw_aload_n d189_167 rfl ?_
        refine pw_getR d189_168 g189_9 hT_142 hA0 rfl rfl (fun t168 => ?_)
        have t168 : τ (ρ a0 1) = some 40 := t168
        refine pw_iconst d189_171 ?_
        refine pw_ialdB d189_172 hT_142 t168 rfl rfl (by omega) (by omega) (fun u172 => ?_)
        have u172 : pv_wok ((2 : Int)) (pv_aI h_142 (ρ a0 1) ((2 : Int)).toNat) := u172
        have vu172 := u172.1
        exact pw_ireturn d189_173 tt189 ⟨hT_142, hF_142, (pv_aI h_142 (ρ a0 1) ((2 : Int)).toNat), rfl, (by omega), (by omega), (by first | (intro q; rw [i2_107]; exact q) | (intro _; exact nt_new (fun j hj => i0_142 j (by omega)) f167 i2_142.1 i2_142.2 i1_142))⟩
      · refine pw_aload_n d189_149 rfl ?_
        refine pw_getR d189_150 g189_9 hT_142 hA0 rfl rfl (fun t150 => ?_)
        have t150 : τ (ρ a0 1) = some 40 := t150
        refine pw_iload_n d189_153 rfl ?_
        refine pw_aload_n d189_154 rfl ?_
        refine pw_getR d189_155 g189_31 hT_142 hA0 rfl rfl (fun t155 => ?_)
        have t155 : τ (ρ a0 14) = some 45 := t155
        refine pw_iload_n d189_158 rfl ?_
        refine pw_ialdB d189_159 hT_142 t155 rfl rfl (by omega) (by omega) (fun u159 => ?_)
        have u159 : pv_wok (xL1_142) (pv_aI h_142 (ρ a0 14) (xL1_142).toNat) := u159
        have vu159 := u159.1
        refine pw_iastB d189_160 hT_142 t150 rfl rfl rfl (by omega) (by omega) (by omega) (by exact u159) (fun h160 T160 F160 E160 => ?_)
        have f160 := hF_142.tr (F160.up (by decide))
        have q160 := ((F160 a0 7 hA0).1 5 (by decide)).1
        have q160b := ((F160 a0 7 hA0).1 7 (by decide)).1
        have q160c := ((F160 a0 7 hA0).1 8 (by decide)).1
        have q160d := ((F160 a0 7 hA0).1 9 (by decide)).1
        have q160e := ((F160 a0 7 hA0).1 10 (by decide)).1
        have q160f := ((F160 a0 7 hA0).1 11 (by decide)).1
        have q160g := ((F160 a0 7 hA0).1 12 (by decide)).1
        refine pw_iinc d189_161 m189 rfl rfl rfl ?_
        refine pw_goto d189_164 rfl ?_
        exact ih142 h160 ((xL1_142 + 1)) T160 f160 (by omega) (by first | (intro j hj; exfalso; omega) | exact nt_c i0_142 (by omega) (F160.aeq hR0_14 (by decide)) (pe_at E160)) (by first | assumption | (rw [F160.aeq hR0_14 (by decide)]; exact i1_142)) (by first | assumption | (rw [F160.aeq hR0_14 (by decide)]; exact i2_142)) (by omega)
  have J140 : ∀ (h_140 : pv_H) (o1_140 : Option Value), (pv_Ty τ ρ h_140) → (pv_Fr τ [453, 455, 456, 457, 458, 459, 460, 461, 2623, 2943] h h_140) → (pf_G (pv_aI h_140 (ρ a0 14) 0) (pr_n (pv_aI h_140 (ρ a0 14))) (pr_c (pv_aI h_140 (ρ a0 14)))) → (pv_aI h_140 (ρ a0 14) 6 = 0 ∧ pv_aI h_140 (ρ a0 14) 7 = 0) → pv_T K 189 140 (pv_fl [some (.ref a0), o1_140]) [] h_140 (Q189 τ ρ h a0) := by
    intro h_140 o1_140 hT_140 hF_140 i0_140 i1_140
    refine pw_iconst d189_140 ?_
    refine pw_istore_n d189_141 m189 rfl rfl ?_
    exact L142 _ h_140 (0) hT_140 hF_140 (by omega) (by first | (intro j hj; exfalso; omega) | exact nt_c i0_142 (by omega) (F160.aeq hR0_14 (by decide)) (pe_at E160)) (by first | assumption | (rw [F160.aeq hR0_14 (by decide)]; exact i1_142)) (by first | assumption | (rw [F160.aeq hR0_14 (by decide)]; exact i2_142)) (pv_mu _)
  have J107 : ∀ (h_107 : pv_H) (o1_107 : Option Value), (pv_Ty τ ρ h_107) → (pv_Fr τ [453, 455, 456, 457, 458, 459, 460, 461, 2623, 2943] h h_107) → (ps_G (pv_aI h_107 (ρ a0 14)) (pv_fI h_107 a0 12)) → (pv_aI h_107 (ρ a0 14) 6 = 0 ∧ pv_aI h_107 (ρ a0 14) 7 = 0) → (pv_aI h_107 (ρ a0 1) = pv_aI h (ρ a0 1)) → pv_T K 189 107 (pv_fl [some (.ref a0), o1_107]) [] h_107 (Q189 τ ρ h a0) := by
    intro h_107 o1_107 hT_107 hF_107 i0_107 i1_107 i2_107
    refine pw_aload_n d189_107 rfl ?_
    refine pw_callV0 d189_108 k189_121 hT_107 hA0 rfl rfl rfl (ct192 (τ := τ) (ρ := ρ) hT_107 hA0) (fun r108 h108 q108 => ?_)
    obtain ⟨eh108, z108, ez108, lz108, uz108, pz108_0⟩ := q108
    subst eh108
    subst ez108
    refine pw_if_ne d189_111 rfl (by omega) (fun c111 => ?_) (fun c111 => ?_)
    · have g117 : pf_G (pv_aI h_107 (ρ a0 14) 0) (pr_n (pv_aI h_107 (ρ a0 14))) (pr_c (pv_aI h_107 (ρ a0 14))) := (i0_107 (by omega)).1
      have f117 : pv_aI h_107 (ρ a0 14) (1 : Int).toNat ≤ 18 := (hT_107.wc hR0_14 (j := 1) rfl (by decide)).2.2.1 (by decide) |>.2
      refine pw_aload_n d189_117 rfl ?_
      refine pw_getR d189_118 g189_31 hT_107 hA0 rfl rfl (fun t118 => ?_)
      have t118 : τ (ρ a0 14) = some 45 := t118
      refine pw_iconst d189_121 ?_
      refine pw_ialdB d189_122 hT_107 t118 rfl rfl (by omega) (by omega) (fun u122 => ?_)
      have u122 : pv_wok ((0 : Int)) (pv_aI h_107 (ρ a0 14) ((0 : Int)).toNat) := u122
      have vu122 := u122.2.1 (by omega)
      refine pw_if_ne d189_123 rfl (by omega) (fun c123 => ?_) (fun c123 => ?_)
      · exact J140 h_107 _ hT_107 hF_107 (by first | exact g117 | exact (((pt_s.eq rfl).wr' (pe_at E132) (by decide)).wr' (pe_at E139) (by decide)).G f117 (i0_107 (by omega)) |>.1) (by first | exact i1_107 | exact ⟨((((pt_s.eq rfl).wr' (pe_at E132) (by decide)).wr' (pe_at E139) (by decide)).2.1).trans i1_107.1, ((((pt_s.eq rfl).wr' (pe_at E132) (by decide)).wr' (pe_at E139) (by decide)).2.2.1).trans i1_107.2⟩)
      · refine pw_aload_n d189_126 rfl ?_
        refine pw_getR d189_127 g189_31 hT_107 hA0 rfl rfl (fun t127 => ?_)
        have t127 : τ (ρ a0 14) = some 45 := t127
        refine pw_iconst d189_130 ?_
        refine pw_iconst d189_131 ?_
        refine pw_iastB d189_132 hT_107 t127 rfl rfl rfl (by omega) (by omega) (by omega) (by show pv_wok _ _; unfold pv_wok; omega) (fun h132 T132 F132 E132 => ?_)
        have f132 := hF_107.tr (F132.up (by decide))
        have q132 := ((F132 a0 7 hA0).1 5 (by decide)).1
        have q132b := ((F132 a0 7 hA0).1 7 (by decide)).1
        have q132c := ((F132 a0 7 hA0).1 8 (by decide)).1
        have q132d := ((F132 a0 7 hA0).1 9 (by decide)).1
        have q132e := ((F132 a0 7 hA0).1 10 (by decide)).1
        have q132f := ((F132 a0 7 hA0).1 11 (by decide)).1
        have q132g := ((F132 a0 7 hA0).1 12 (by decide)).1
        refine pw_aload_n d189_133 rfl ?_
        refine pw_getR d189_134 g189_31 T132 hA0 rfl rfl (fun t134 => ?_)
        have t134 : τ (ρ a0 14) = some 45 := t134
        refine pw_iconst d189_137 ?_
        refine pw_iconst d189_138 ?_
        refine pw_iastB d189_139 T132 t134 rfl rfl rfl (by omega) (by omega) (by omega) (by show pv_wok _ _; unfold pv_wok; omega) (fun h139 T139 F139 E139 => ?_)
        have f139 := f132.tr (F139.up (by decide))
        have q139 := ((F139 a0 7 hA0).1 5 (by decide)).1
        have q139b := ((F139 a0 7 hA0).1 7 (by decide)).1
        have q139c := ((F139 a0 7 hA0).1 8 (by decide)).1
        have q139d := ((F139 a0 7 hA0).1 9 (by decide)).1
        have q139e := ((F139 a0 7 hA0).1 10 (by decide)).1
        have q139f := ((F139 a0 7 hA0).1 11 (by decide)).1
        have q139g := ((F139 a0 7 hA0).1 12 (by decide)).1
        exact J140 h139 _ T139 f139 (by first | exact g117 | exact (((pt_s.eq rfl).wr' (pe_at E132) (by decide)).wr' (pe_at E139) (by decide)).G f117 (i0_107 (by omega)) |>.1) (by first | exact i1_107 | exact ⟨((((pt_s.eq rfl).wr' (pe_at E132) (by decide)).wr' (pe_at E139) (by decide)).2.1).trans i1_107.1, ((((pt_s.eq rfl).wr' (pe_at E132) (by decide)).wr' (pe_at E139) (by decide)).2.2.1).trans i1_107.2⟩)
    · refine pw_bipush d189_114 (by decide) ?_
      exact pw_ireturn d189_116 tt189 ⟨hT_107, hF_107, (-4), rfl, (by omega), (by omega), (by first | (intro q; rw [i2_107]; exact q) | (intro _; exact nt_new (fun j hj => i0_142 j (by omega)) f167 i2_142.1 i2_142.2 i1_142))⟩
  have L86 : ∀ (nn : Nat) (h_86 : pv_H) (o1_86 : Option Value), (pv_Ty τ ρ h_86) → (pv_Fr τ [453, 455, 456, 457, 458, 459, 460, 461, 2623, 2943] h h_86) → (pv_fI h_86 a0 7 ≤ 1600 ∧ pv_fI h_86 a0 8 ≤ pv_fI h_86 a0 7 ∧ pv_fI h_86 a0 9 ≤ pv_fI h_86 a0 8 ∧ (pv_fI h_86 a0 10 ≠ 0 → pv_fI h_86 a0 9 < pv_fI h_86 a0 8)) → (ps_G (pv_aI h_86 (ρ a0 14)) (pv_fI h_86 a0 12)) → (pv_aI h_86 (ρ a0 14) 6 = 0 ∧ pv_aI h_86 (ρ a0 14) 7 = 0) → (pv_aI h_86 (ρ a0 1) = pv_aI h (ρ a0 1)) → (pv_fI h_86 a0 12 = 0 → 0 ≤ pv_aI h_86 (ρ a0 14) (2 : Int).toNat ∧ pv_aI h_86 (ρ a0 14) (2 : Int).toNat ≤ pv_fI h_86 a0 9) → (if pv_fI h_86 a0 12 = 0 then 1602 - pv_fI h_86 a0 9 else 0) < nn → pv_T K 189 86 (pv_fl [some (.ref a0), o1_86]) [] h_86 (Q189 τ ρ h a0) := by
    intro nn
    induction nn with
    | zero => intro h_86 o1_86 hT_86 hF_86 i0_86 i1_86 i2_86 i3_86 i4_86 hm; exfalso; omega
    | succ nn ih86 =>
      intro h_86 o1_86 hT_86 hF_86 i0_86 i1_86 i2_86 i3_86 i4_86 hm86
      refine pw_aload_n d189_86 rfl ?_
      refine pw_callV0 d189_87 k189_121 hT_86 hA0 rfl rfl rfl (ct192 (τ := τ) (ρ := ρ) hT_86 hA0) (fun r87 h87 q87 => ?_)
      obtain ⟨eh87, z87, ez87, lz87, uz87, pz87_0⟩ := q87
      subst eh87
      subst ez87
      refine pw_if_eq d189_90 rfl (by omega) (fun c90 => ?_) (fun c90 => ?_)
      · exact J107 h_86 _ hT_86 hF_86 (by assumption) (by assumption) (by assumption)
      · refine pw_aload_n d189_93 rfl ?_
        refine pw_getI d189_94 g189_97 hT_86 hA0 rfl rfl (fun u94 vu94 => ?_)
        refine pw_if_eq d189_97 rfl (by omega) (fun c97 => ?_) (fun c97 => ?_)
        · exact J107 h_86 _ hT_86 hF_86 (by assumption) (by assumption) (by assumption)
        · refine pw_aload_n d189_100 rfl ?_
          refine pw_callV0 d189_101 k189_211 hT_86 hA0 rfl rfl rfl (ct193 (τ := τ) (ρ := ρ) hK hT_86 hA0 (by first | assumption | omega) (by first | assumption | omega) (by first | assumption | omega)) (fun r101 h101 q101 => ?_)
          obtain ⟨T101, F101, ez101, pz101_0, pz101_1, pz101_2, pz101_3⟩ := q101
          subst ez101
          have f101 := hF_86.tr (F101.up (by decide))
          have q101b := ((F101 a0 7 hA0).1 5 (by decide)).1
          have q101c := ((F101 a0 7 hA0).1 7 (by decide)).1
          refine pw_goto d189_104 rfl ?_
          exact ih86 h101 _ T101 f101 (by omega) (by first | exact pz101_1.2.1 i1_86 | (intro _; rw [F83.aeq hR0_14 (by decide)]; exact g82.1 rfl)) (by first | exact ⟨pz101_1.2.2.1.trans i2_86.1, pz101_1.2.2.2.trans i2_86.2⟩ | (rw [F83.aeq hR0_14 (by decide)]; exact ⟨g82.2.1, g82.2.2.1⟩)) (by first | exact (F101.aeq hR0_1 (by decide)).trans i3_86 | exact (((F83.aeq hR0_1 (by decide)).trans (F81.aeq hR0_1 (by decide))).trans (F72.aeq hR0_1 (by decide))).trans i2_30) (by first | exact pz101_3 | (rw [F83.aeq hR0_14 (by decide)]; have := g82.2.2.2; omega)) (by omega)
  have L30 : ∀ (nn : Nat) (h_30 : pv_H) (xL1_30 : Int), (pv_Ty τ ρ h_30) → (pv_Fr τ [453, 455, 456, 457, 458, 459, 460, 461, 2623, 2943] h h_30) → (0 ≤ xL1_30 ∧ xL1_30 ≤ 1600) → (∀ j : Nat, (j : Int) < xL1_30 → j < 80 → pv_aI h_30 (ρ a0 14) j = 0) → (0 ≤ pv_fI h_30 a0 7 ∧ pv_fI h_30 a0 7 ≤ 1600 ∧ pv_fI h_30 a0 8 = 0 ∧ pv_fI h_30 a0 12 = 0) → (pv_aI h_30 (ρ a0 1) = pv_aI h (ρ a0 1)) → 1600 - xL1_30 < nn → pv_T K 189 30 (pv_fl [some (.ref a0), some (.int (pv_I xL1_30))]) [] h_30 (Q189 τ ρ h a0) := by
    intro nn
    induction nn with
    | zero => intro h_30 xL1_30 hT_30 hF_30 rL1_30 i0_30 i1_30 i2_30 hm; exfalso; omega
    | succ nn ih30 =>
      intro h_30 xL1_30 hT_30 hF_30 rL1_30 i0_30 i1_30 i2_30 hm30
      have J59 : ∀ (xS0_59 : Int), (0 ≤ xL1_30 ∧ xL1_30 ≤ 1599) → ((-1) ≤ xS0_59 ∧ xS0_59 ≤ 0) → (0 ≤ xL1_30 ∧ xL1_30 ≤ 1599) → (xS0_59 = 0 ∨ (xS0_59 = -1 ∧ 80 ≤ xL1_30 ∧ xL1_30 < 120)) → (xL1_30 = xL1_30) → (h_30 = h_30) → (xL1_30 < 1507) → pv_T K 189 59 (pv_fl [some (.ref a0), some (.int (pv_I xL1_30))]) [.int (pv_I xS0_59), .int (pv_I xL1_30), .ref (ρ a0 14)] h_30 (Q189 τ ρ h a0) := by
        intro xS0_59 rL1_59 rS0_59 rS1_59 i0_59 i1_59 i2_59 i3_59
        refine pw_iastB d189_59 hT_30 hR0_14 rfl rfl rfl (by omega) (by omega) (by omega) (by show pv_wok _ _; unfold pv_wok; omega) (fun h59 T59 F59 E59 => ?_)
        have f59 := hF_30.tr (F59.up (by decide))
        have q59 := ((F59 a0 7 hA0).1 5 (by decide)).1
        have q59b := ((F59 a0 7 hA0).1 7 (by decide)).1
        have q59c := ((F59 a0 7 hA0).1 8 (by decide)).1
        have q59d := ((F59 a0 7 hA0).1 9 (by decide)).1
        have q59e := ((F59 a0 7 hA0).1 10 (by decide)).1
        have q59f := ((F59 a0 7 hA0).1 11 (by decide)).1
        have q59g := ((F59 a0 7 hA0).1 12 (by decide)).1
        refine pw_iinc d189_60 m189 rfl rfl rfl ?_
        refine pw_goto d189_63 rfl ?_
        exact ih30 h59 ((xL1_30 + 1)) T59 f59 (by omega) (by first | (intro j hj; exfalso; omega) | exact nt_z i0_30 (by omega) i1_59 i0_59 (pe_at E59)) (by omega) (by first | exact ((((F25.aeq hR0_1 (by decide)).trans (F20.aeq hR0_1 (by decide))).trans (F15.aeq hR0_1 (by decide))).trans (F10.aeq hR0_1 (by decide))).trans (F5.aeq hR0_1 (by decide)) | exact (F59.aeq hR0_1 (by decide)).trans i2_30) (by omega)
      have J58 : ∀ (_ : Unit), (0 ≤ xL1_30 ∧ xL1_30 ≤ 1599) → (0 ≤ xL1_30 ∧ xL1_30 ≤ 1599) → (xL1_30 = xL1_30) → (h_30 = h_30) → (xL1_30 < 1507) → pv_T K 189 58 (pv_fl [some (.ref a0), some (.int (pv_I xL1_30))]) [.int (pv_I xL1_30), .ref (ρ a0 14)] h_30 (Q189 τ ρ h a0) := by
        intro _ rL1_58 rS0_58 i0_58 i1_58 i2_58
        refine pw_iconst d189_58 ?_
        exact J59 (0) (by omega) (by omega) (by omega) (by first | omega | exact Or.inl rfl) (by first | rfl | omega) (by first | rfl | assumption) (by omega)
      refine pw_iload_n d189_30 rfl ?_
      refine pw_sipush d189_31 (by decide) ?_
      refine pw_icmp_ge d189_34 rfl (by omega) (by omega) (fun c34 => ?_) (fun c34 => ?_)
      · refine pw_aload_n d189_66 rfl ?_
        refine pw_getR d189_67 g189_31 hT_30 hA0 rfl rfl (fun t67 => ?_)
        have t67 : τ (ρ a0 14) = some 45 := t67
        refine pw_iconst d189_70 ?_
        refine pw_iconst d189_71 ?_
        refine pw_iastB d189_72 hT_30 t67 rfl rfl rfl (by omega) (by omega) (by omega) (by show pv_wok _ _; unfold pv_wok; omega) (fun h72 T72 F72 E72 => ?_)
        have f72 := hF_30.tr (F72.up (by decide))
        have q72 := ((F72 a0 7 hA0).1 5 (by decide)).1
        have q72b := ((F72 a0 7 hA0).1 7 (by decide)).1
        have q72c := ((F72 a0 7 hA0).1 8 (by decide)).1
        have q72d := ((F72 a0 7 hA0).1 9 (by decide)).1
        have q72e := ((F72 a0 7 hA0).1 10 (by decide)).1
        have q72f := ((F72 a0 7 hA0).1 11 (by decide)).1
        have q72g := ((F72 a0 7 hA0).1 12 (by decide)).1
        refine pw_aload_n d189_73 rfl ?_
        refine pw_getR d189_74 g189_31 T72 hA0 rfl rfl (fun t74 => ?_)
        have t74 : τ (ρ a0 14) = some 45 := t74
        refine pw_iconst d189_77 ?_
        refine pw_sipush d189_78 (by decide) ?_
        refine pw_iastB d189_81 T72 t74 rfl rfl rfl (by omega) (by omega) (by omega) (by show pv_wok _ _; unfold pv_wok; omega) (fun h81 T81 F81 E81 => ?_)
        have f81 := f72.tr (F81.up (by decide))
        have q81 := ((F81 a0 7 hA0).1 5 (by decide)).1
        have q81b := ((F81 a0 7 hA0).1 7 (by decide)).1
        have q81c := ((F81 a0 7 hA0).1 8 (by decide)).1
        have q81d := ((F81 a0 7 hA0).1 9 (by decide)).1
        have q81e := ((F81 a0 7 hA0).1 10 (by decide)).1
        have q81f := ((F81 a0 7 hA0).1 11 (by decide)).1
        have q81g := ((F81 a0 7 hA0).1 12 (by decide)).1
        have g82 := nt_g0 (fk := 0) i0_30 (by omega) (pe_at E72) (pe_at E81) rfl
        refine pw_aload_n d189_82 rfl ?_
        refine pw_callV0 d189_83 k189_139 T81 hA0 rfl rfl rfl (ct190 (τ := τ) (ρ := ρ) T81 hA0 (by first | assumption | omega)) (fun r83 h83 q83 => ?_)
        obtain ⟨T83, F83, ez83, pz83_0, pz83_1⟩ := q83
        subst ez83
        have f83 := f81.tr (F83.up (by decide))
        have q83b := ((F83 a0 7 hA0).1 5 (by decide)).1
        have q83c := ((F83 a0 7 hA0).1 7 (by decide)).1
        have q83d := ((F83 a0 7 hA0).1 12 (by decide)).1
        exact L86 _ h83 _ T83 f83 (by omega) (by first | exact pz101_1.2.1 i1_86 | (intro _; rw [F83.aeq hR0_14 (by decide)]; exact g82.1 rfl)) (by first | exact ⟨pz101_1.2.2.1.trans i2_86.1, pz101_1.2.2.2.trans i2_86.2⟩ | (rw [F83.aeq hR0_14 (by decide)]; exact ⟨g82.2.1, g82.2.2.1⟩)) (by first | exact (F101.aeq hR0_1 (by decide)).trans i3_86 | exact (((F83.aeq hR0_1 (by decide)).trans (F81.aeq hR0_1 (by decide))).trans (F72.aeq hR0_1 (by decide))).trans i2_30) (by first | exact pz101_3 | (rw [F83.aeq hR0_14 (by decide)]; have := g82.2.2.2; omega)) (pv_mu _)
      · refine pw_aload_n d189_37 rfl ?_
        refine pw_getR d189_38 g189_31 hT_30 hA0 rfl rfl (fun t38 => ?_)
        have t38 : τ (ρ a0 14) = some 45 := t38
        refine pw_iload_n d189_41 rfl ?_
        refine pw_iload_n d189_42 rfl ?_
        refine pw_bipush d189_43 (by decide) ?_
        refine pw_icmp_lt d189_45 rfl (by omega) (by omega) (fun c45 => ?_) (fun c45 => ?_)
        · exact J58 () (by omega) (by omega) (by first | rfl | omega) (by rfl) (by omega)
        · refine pw_iload_n d189_48 rfl ?_
          refine pw_bipush d189_49 (by decide) ?_
          refine pw_icmp_ge d189_51 rfl (by omega) (by omega) (fun c51 => ?_) (fun c51 => ?_)
          · exact J58 () (by omega) (by omega) (by first | rfl | omega) (by rfl) (by omega)
          · refine pw_iconst d189_54 ?_
            refine pw_goto d189_55 rfl ?_
            exact J59 ((-1)) (by omega) (by omega) (by omega) (by first | omega | exact Or.inl rfl) (by first | rfl | omega) (by first | rfl | assumption) (by omega)
  refine pw_aload_n d189_0 rfl ?_
  refine pw_aload_n d189_1 rfl ?_
  refine pw_getI d189_2 g189_81 hT hA0 rfl rfl (fun u2 vu2 => ?_)
  refine pw_putI d189_5 g189_84 w7_7 hT hA0 rfl rfl rfl (by omega) (by omega) (fun h5 T5 F5 E5 => ?_)
  have f5 := hF0.tr (F5.up (by decide))
  have q5 := ((F5 a0 7 hA0).1 5 (by decide)).1
  have q5b := ((F5 a0 7 hA0).1 8 (by decide)).1
  have q5c := ((F5 a0 7 hA0).1 9 (by decide)).1
  have q5d := ((F5 a0 7 hA0).1 10 (by decide)).1
  have q5e := ((F5 a0 7 hA0).1 11 (by decide)).1
  have q5f := ((F5 a0 7 hA0).1 12 (by decide)).1
  refine pw_aload_n d189_8 rfl ?_
  refine pw_iconst d189_9 ?_
  refine pw_putI d189_10 g189_81 w7_5 T5 hA0 rfl rfl rfl (by omega) (by omega) (fun h10 T10 F10 E10 => ?_)
  have f10 := f5.tr (F10.up (by decide))
  have q10 := ((F10 a0 7 hA0).1 7 (by decide)).1
  have q10b := ((F10 a0 7 hA0).1 8 (by decide)).1
  have q10c := ((F10 a0 7 hA0).1 9 (by decide)).1
  have q10d := ((F10 a0 7 hA0).1 10 (by decide)).1
  have q10e := ((F10 a0 7 hA0).1 11 (by decide)).1
  have q10f := ((F10 a0 7 hA0).1 12 (by decide)).1
  refine pw_aload_n d189_13 rfl ?_
  refine pw_iconst d189_14 ?_
  refine pw_putI d189_15 g189_87 w7_8 T10 hA0 rfl rfl rfl (by omega) (by omega) (fun h15 T15 F15 E15 => ?_)
  have f15 := f10.tr (F15.up (by decide))
  have q15 := ((F15 a0 7 hA0).1 5 (by decide)).1
  have q15b := ((F15 a0 7 hA0).1 7 (by decide)).1
  have q15c := ((F15 a0 7 hA0).1 9 (by decide)).1
  have q15d := ((F15 a0 7 hA0).1 10 (by decide)).1
  have q15e := ((F15 a0 7 hA0).1 11 (by decide)).1
  have q15f := ((F15 a0 7 hA0).1 12 (by decide)).1
  refine pw_aload_n d189_18 rfl ?_
  refine pw_iconst d189_19 ?_
  refine pw_putI d189_20 g189_118 w7_12 T15 hA0 rfl rfl rfl (by omega) (by omega) (fun h20 T20 F20 E20 => ?_)
  have f20 := f15.tr (F20.up (by decide))
  have q20 := ((F20 a0 7 hA0).1 5 (by decide)).1
  have q20b := ((F20 a0 7 hA0).1 7 (by decide)).1
  have q20c := ((F20 a0 7 hA0).1 8 (by decide)).1
  have q20d := ((F20 a0 7 hA0).1 9 (by decide)).1
  have q20e := ((F20 a0 7 hA0).1 10 (by decide)).1
  have q20f := ((F20 a0 7 hA0).1 11 (by decide)).1
  refine pw_aload_n d189_23 rfl ?_
  refine pw_iconst d189_24 ?_
  refine pw_putI d189_25 g189_27 w7_13 T20 hA0 rfl rfl rfl (by omega) (by omega) (fun h25 T25 F25 E25 => ?_)
  have f25 := f20.tr (F25.up (by decide))
  have q25 := ((F25 a0 7 hA0).1 5 (by decide)).1
  have q25b := ((F25 a0 7 hA0).1 7 (by decide)).1
  have q25c := ((F25 a0 7 hA0).1 8 (by decide)).1
  have q25d := ((F25 a0 7 hA0).1 9 (by decide)).1
  have q25e := ((F25 a0 7 hA0).1 10 (by decide)).1
  have q25f := ((F25 a0 7 hA0).1 11 (by decide)).1
  have q25g := ((F25 a0 7 hA0).1 12 (by decide)).1
  refine pw_iconst d189_28 ?_
  refine pw_istore_n d189_29 m189 rfl rfl ?_
  exact L30 _ h25 (0) T25 f25 (by omega) (by first | (intro j hj; exfalso; omega) | exact nt_z i0_30 (by omega) i1_59 i0_59 (pe_at E59)) (by omega) (by first | exact ((((F25.aeq hR0_1 (by decide)).trans (F20.aeq hR0_1 (by decide))).trans (F15.aeq hR0_1 (by decide))).trans (F10.aeq hR0_1 (by decide))).trans (F5.aeq hR0_1 (by decide)) | exact (F59.aeq hR0_1 (by decide)).trans i2_30) (pv_mu _)
