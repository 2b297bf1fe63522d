abbrev Q233F (τ : Nat → Option Nat) (ρ : Nat → Nat → Nat) (h : pv_H) (a0 : Nat) (x1 : Int) (x2 : Int) : Option Value → pv_H → Prop := fun r h' => h = h' ∧ ∃ z : Int, r = some (.int (pv_I z)) ∧ (-2147483648) ≤ z ∧ z ≤ 2147483647 ∧ (pr_gr (pv_aI h (ρ a0 1)) x1 z)
set_option maxHeartbeats 4000000 in
set_option maxRecDepth 20000 in
/-- AngleNetModel.partFrom(IZ)I -/
theorem ct233F {τ : Nat → Option Nat} {ρ : Nat → Nat → Nat} {K : Nat → Nat} {h : pv_H} {a0 : Nat} {x1 : Int} {x2 : Int} (hT : pv_Ty τ ρ h) (hA0 : τ a0 = some 7) (hX1 : (-2147483648) ≤ x1 ∧ x1 ≤ 2147483647) (hX2 : 0 ≤ x2 ∧ x2 ≤ 0) : pv_C K 233 [.ref a0, .int (pv_I x1), .int (pv_I x2)] h (Q233F τ ρ h a0 x1 x2) := by
  refine pw_entry 5 ?_
  show pv_T K 233 0 (pv_fl [some (.ref a0), some (.int (pv_I x1)), some (.int (pv_I x2)), none, none, none, none, none]) [] h (Q233F τ ρ h a0 x1 x2)
  have hR0_1 : τ (ρ a0 1) = some 40 := hT.rf (t' := 40) hA0 rfl rfl
  have L5 : ∀ (nn : Nat) (xL3_5 xL4_5 : Int) (o1_5 o5_5 o6_5 o7_5 : Option Value), (0 ≤ x2 ∧ x2 ≤ 0) → ((-2147483648) ≤ xL3_5 ∧ xL3_5 ≤ 2147483647) → (0 ≤ xL4_5 ∧ xL4_5 ≤ 10) → (pr_gr (pv_aI h (ρ a0 1)) x1 xL3_5) → 10 - xL4_5 < nn → pv_T K 233 5 (pv_fl [some (.ref a0), o1_5, some (.int (pv_I x2)), some (.int (pv_I xL3_5)), some (.int (pv_I xL4_5)), o5_5, o6_5, o7_5]) [] h (Q233F τ ρ h a0 x1 x2) := by
    intro nn
    induction nn with
    | zero => intro xL3_5 xL4_5 o1_5 o5_5 o6_5 o7_5 rL2_5 rL3_5 rL4_5 i0_5 hm; exfalso; omega
    | succ nn ih5 =>
      intro xL3_5 xL4_5 o1_5 o5_5 o6_5 o7_5 rL2_5 rL3_5 rL4_5 i0_5 hm5
      have L15 : ∀ (nn : Nat) (xL3_15 xL5_15 : Int) (o1_15 o6_15 o7_15 : Option Value), (0 ≤ x2 ∧ x2 ≤ 0) → ((-2147483648) ≤ xL3_15 ∧ xL3_15 ≤ 2147483647) → (0 ≤ xL4_5 ∧ xL4_5 ≤ 9) → (0 ≤ xL5_15 ∧ xL5_15 ≤ 10) → (pr_gr (pv_aI h (ρ a0 1)) x1 xL3_15) → 10 - xL5_15 < nn → pv_T K 233 15 (pv_fl [some (.ref a0), o1_15, some (.int (pv_I x2)), some (.int (pv_I xL3_15)), some (.int (pv_I xL4_5)), some (.int (pv_I xL5_15)), o6_15, o7_15]) [] h (Q233F τ ρ h a0 x1 x2) := by
        intro nn
        induction nn with
        | zero => intro xL3_15 xL5_15 o1_15 o6_15 o7_15 rL2_15 rL3_15 rL4_15 rL5_15 i0_15 hm; exfalso; omega
        | succ nn ih15 =>
          intro xL3_15 xL5_15 o1_15 o6_15 o7_15 rL2_15 rL3_15 rL4_15 rL5_15 i0_15 hm15
          have L29 : ∀ (nn : Nat) (xL3_29 xL6_29 : Int) (o1_29 o7_29 : Option Value), (0 ≤ x2 ∧ x2 ≤ 0) → ((-2147483648) ≤ xL3_29 ∧ xL3_29 ≤ 2147483647) → (0 ≤ xL4_5 ∧ xL4_5 ≤ 9) → (0 ≤ xL5_15 ∧ xL5_15 ≤ 9) → (0 ≤ xL6_29 ∧ xL6_29 ≤ 10) → (pr_gr (pv_aI h (ρ a0 1)) x1 xL3_29) → (xL5_15 < pv_aI h (ρ a0 1) (0 : Int).toNat) → 10 - xL6_29 < nn → pv_T K 233 29 (pv_fl [some (.ref a0), o1_29, some (.int (pv_I x2)), some (.int (pv_I xL3_29)), some (.int (pv_I xL4_5)), some (.int (pv_I xL5_15)), some (.int (pv_I xL6_29)), o7_29]) [] h (Q233F τ ρ h a0 x1 x2) := by
            intro nn
            induction nn with
            | zero => intro xL3_29 xL6_29 o1_29 o7_29 rL2_29 rL3_29 rL4_29 rL5_29 rL6_29 i0_29 i1_29 hm; exfalso; omega
            | succ nn ih29 =>
              intro xL3_29 xL6_29 o1_29 o7_29 rL2_29 rL3_29 rL4_29 rL5_29 rL6_29 i0_29 i1_29 hm29
              have J108 : ∀ (xS0_108 xS1_108 : Int) (o1_108 o3_108 o7_108 : Option Value), (0 ≤ x2 ∧ x2 ≤ 0) → (0 ≤ xL4_5 ∧ xL4_5 ≤ 9) → (0 ≤ xL5_15 ∧ xL5_15 ≤ 9) → (0 ≤ xL6_29 ∧ xL6_29 ≤ 9) → (0 ≤ xS0_108 ∧ xS0_108 ≤ 540) → ((-2147483648) ≤ xS1_108 ∧ xS1_108 ≤ 2147483647) → (xS1_108 = xL3_29) → (xS0_108 = 0 ∨ (pv_I 1 <<< (pv_I xL6_29 &&& 31) = pv_I xS0_108 ∧ xL5_15 ≠ xL6_29 ∧ 0 < pr_m (pv_aI h (ρ a0 1)) xL5_15 xL6_29 ∧ xL5_15 < pv_aI h (ρ a0 1) (0 : Int).toNat ∧ xL6_29 < pv_aI h (ρ a0 1) (0 : Int).toNat ∧ pb xL3_29 (xL5_15).toNat = true)) → pv_T K 233 108 (pv_fl [some (.ref a0), o1_108, some (.int (pv_I x2)), o3_108, some (.int (pv_I xL4_5)), some (.int (pv_I xL5_15)), some (.int (pv_I xL6_29)), o7_108]) [.int (pv_I xS0_108), .int (pv_I xS1_108)] h (Q233F τ ρ h a0 x1 x2) := by
                intro xS0_108 xS1_108 o1_108 o3_108 o7_108 rL2_108 rL4_108 rL5_108 rL6_108 rS0_108 rS1_108 i0_108 i1_108
                refine pw_ior d233_108 (fun z108 hz108 ez108 => ?_)
                refine pw_istore_n d233_109 m233 rfl rfl ?_
                refine pw_iinc d233_110 m233 rfl rfl rfl ?_
                refine pw_goto d233_113 rfl ?_
                exact ih29 (z108) ((xL6_29 + 1)) _ _ (by omega) (by omega) (by omega) (by omega) (by omega) (by first | exact pr_gr.rf | assumption | exact pr_grS (by omega) (by omega) (by unfold pv_r; omega) i0_29 i0_108 ez108 i1_108) (by omega) (by omega)
              have J107 : ∀ (xS0_107 : Int) (o1_107 o3_107 o7_107 : Option Value), (0 ≤ x2 ∧ x2 ≤ 0) → (0 ≤ xL4_5 ∧ xL4_5 ≤ 9) → (0 ≤ xL5_15 ∧ xL5_15 ≤ 9) → (0 ≤ xL6_29 ∧ xL6_29 ≤ 9) → ((-2147483648) ≤ xS0_107 ∧ xS0_107 ≤ 2147483647) → (xS0_107 = xL3_29) → pv_T K 233 107 (pv_fl [some (.ref a0), o1_107, some (.int (pv_I x2)), o3_107, some (.int (pv_I xL4_5)), some (.int (pv_I xL5_15)), some (.int (pv_I xL6_29)), o7_107]) [.int (pv_I xS0_107)] h (Q233F τ ρ h a0 x1 x2) := by
                intro xS0_107 o1_107 o3_107 o7_107 rL2_107 rL4_107 rL5_107 rL6_107 rS0_107 i0_107
                refine pw_iconst d233_107 ?_
                exact J108 (0) (xS0_107) _ _ _ (by omega) (by omega) (by omega) (by omega) (by omega) (by omega) (by first | rfl | omega) (by first | exact Or.inl rfl | (rcases i1_82 with q | q; (exfalso; omega); exact Or.inr ⟨by assumption, q.2.1, q.2.2.1, q.2.2.2.1, q.2.2.2.2, by rcases tt96 with q | q; exact q.2; (exfalso; omega)⟩))
              have J82 : ∀ (xL3_82 xS0_82 : Int) (o1_82 o7_82 : Option Value), (0 ≤ x2 ∧ x2 ≤ 0) → ((-2147483648) ≤ xL3_82 ∧ xL3_82 ≤ 2147483647) → (0 ≤ xL4_5 ∧ xL4_5 ≤ 9) → (0 ≤ xL5_15 ∧ xL5_15 ≤ 9) → (0 ≤ xL6_29 ∧ xL6_29 ≤ 9) → (0 ≤ xS0_82 ∧ xS0_82 ≤ 1) → (xL3_82 = xL3_29) → (xS0_82 = 0 ∨ (xS0_82 = 1 ∧ xL5_15 ≠ xL6_29 ∧ 0 < pr_m (pv_aI h (ρ a0 1)) xL5_15 xL6_29 ∧ xL5_15 < pv_aI h (ρ a0 1) (0 : Int).toNat ∧ xL6_29 < pv_aI h (ρ a0 1) (0 : Int).toNat)) → pv_T K 233 82 (pv_fl [some (.ref a0), o1_82, some (.int (pv_I x2)), some (.int (pv_I xL3_82)), some (.int (pv_I xL4_5)), some (.int (pv_I xL5_15)), some (.int (pv_I xL6_29)), o7_82]) [.int (pv_I xS0_82)] h (Q233F τ ρ h a0 x1 x2) := by
                intro xL3_82 xS0_82 o1_82 o7_82 rL2_82 rL3_82 rL4_82 rL5_82 rL6_82 rS0_82 i0_82 i1_82
                refine pw_istore d233_82 m233 rfl rfl ?_
                refine pw_iload_n d233_84 rfl ?_
                refine pw_iload d233_85 rfl ?_
                refine pw_if_eq d233_87 rfl (by omega) (fun c87 => ?_) (fun c87 => ?_)
                · exact J107 (xL3_82) _ _ _ (by omega) (by omega) (by omega) (by omega) (by omega) (by first | rfl | omega)
                · refine pw_iload_n d233_90 rfl ?_
                  refine pw_iload d233_91 rfl ?_
                  refine pw_ishr d233_93 (fun z93 hz93 ez93 => ?_)
                  refine pw_iconst d233_94 ?_
                  refine pw_iand d233_95 (fun z95 hz95 ez95 => ?_)
                  have bz95 := pv_and1_b hz95 ez95
                  have tt96 := pb_tst (x := xL3_82) (i := xL5_15) (by omega) (by omega) hz95 ez93 ez95
                  rw [i0_82] at tt96
                  refine pw_iconst d233_96 ?_
                  refine pw_icmp_ne d233_97 rfl (by omega) (by omega) (fun c97 => ?_) (fun c97 => ?_)
                  · exact J107 (xL3_82) _ _ _ (by omega) (by omega) (by omega) (by omega) (by omega) (by first | rfl | omega)
                  · refine pw_iconst d233_100 ?_
                    refine pw_iload d233_101 rfl ?_
                    refine pw_ishl d233_103 (fun z103 hz103 ez103 => ?_)
                    have bz103 := pv_shl1_b (n := 9) (m := 512) (y := xL6_29) (by omega) (by omega) (by decide) (by decide) hz103 ez103
                    refine pw_goto d233_104 rfl ?_
                    exact J108 (z103) (xL3_82) _ _ _ (by omega) (by omega) (by omega) (by omega) (by omega) (by omega) (by first | rfl | omega) (by first | exact Or.inl rfl | (rcases i1_82 with q | q; (exfalso; omega); exact Or.inr ⟨by assumption, q.2.1, q.2.2.1, q.2.2.2.1, q.2.2.2.2, by rcases tt96 with q | q; exact q.2; (exfalso; omega)⟩))
              have J81 : ∀ (xL3_81 : Int) (o1_81 o7_81 : Option Value), (0 ≤ x2 ∧ x2 ≤ 0) → ((-2147483648) ≤ xL3_81 ∧ xL3_81 ≤ 2147483647) → (0 ≤ xL4_5 ∧ xL4_5 ≤ 9) → (0 ≤ xL5_15 ∧ xL5_15 ≤ 9) → (0 ≤ xL6_29 ∧ xL6_29 ≤ 9) → (xL3_81 = xL3_29) → pv_T K 233 81 (pv_fl [some (.ref a0), o1_81, some (.int (pv_I x2)), some (.int (pv_I xL3_81)), some (.int (pv_I xL4_5)), some (.int (pv_I xL5_15)), some (.int (pv_I xL6_29)), o7_81]) [] h (Q233F τ ρ h a0 x1 x2) := by
                intro xL3_81 o1_81 o7_81 rL2_81 rL3_81 rL4_81 rL5_81 rL6_81 i0_81
                refine pw_iconst d233_81 ?_
                exact J82 (xL3_81) (0) _ _ (by omega) (by omega) (by omega) (by omega) (by omega) (by omega) (by first | rfl | omega) (by first | exact Or.inl rfl | exact Or.inr ⟨rfl, i1_77⟩)
              have J77 : ∀ (xL3_77 : Int) (o1_77 o7_77 : Option Value), (0 ≤ x2 ∧ x2 ≤ 0) → ((-2147483648) ≤ xL3_77 ∧ xL3_77 ≤ 2147483647) → (0 ≤ xL4_5 ∧ xL4_5 ≤ 9) → (0 ≤ xL5_15 ∧ xL5_15 ≤ 9) → (0 ≤ xL6_29 ∧ xL6_29 ≤ 9) → (xL3_77 = xL3_29) → (xL5_15 ≠ xL6_29 ∧ 0 < pr_m (pv_aI h (ρ a0 1)) xL5_15 xL6_29 ∧ xL5_15 < pv_aI h (ρ a0 1) (0 : Int).toNat ∧ xL6_29 < pv_aI h (ρ a0 1) (0 : Int).toNat) → pv_T K 233 77 (pv_fl [some (.ref a0), o1_77, some (.int (pv_I x2)), some (.int (pv_I xL3_77)), some (.int (pv_I xL4_5)), some (.int (pv_I xL5_15)), some (.int (pv_I xL6_29)), o7_77]) [] h (Q233F τ ρ h a0 x1 x2) := by
                intro xL3_77 o1_77 o7_77 rL2_77 rL3_77 rL4_77 rL5_77 rL6_77 i0_77 i1_77
                refine pw_iconst d233_77 ?_
                refine pw_goto d233_78 rfl ?_
                exact J82 (xL3_77) (1) _ _ (by omega) (by omega) (by omega) (by omega) (by omega) (by omega) (by first | rfl | omega) (by first | exact Or.inl rfl | exact Or.inr ⟨rfl, i1_77⟩)
              refine pw_iload d233_29 rfl ?_
              refine pw_aload_n d233_31 rfl ?_
              refine pw_getR d233_32 g233_9 hT hA0 rfl rfl (fun t32 => ?_)
              have t32 : τ (ρ a0 1) = some 40 := t32
              refine pw_iconst d233_35 ?_
              refine pw_ialdB d233_36 hT t32 rfl rfl (by omega) (by omega) (fun u36 => ?_)
              have u36 : pv_wok ((0 : Int)) (pv_aI h (ρ a0 1) ((0 : Int)).toNat) := u36
              have vu36 := u36.2.1 (by omega)
              refine pw_icmp_ge d233_37 rfl (by omega) (by omega) (fun c37 => ?_) (fun c37 => ?_)
              · refine pw_iinc d233_116 m233 rfl rfl rfl ?_
                refine pw_goto d233_119 rfl ?_
                exact ih15 (xL3_29) ((xL5_15 + 1)) _ _ _ (by omega) (by omega) (by omega) (by omega) (by first | exact pr_gr.rf | assumption | exact pr_grS (by omega) (by omega) (by unfold pv_r; omega) i0_29 i0_108 ez108 i1_108) (by omega)
              · refine pw_iload d233_40 rfl ?_
                refine pw_iload d233_42 rfl ?_
                refine pw_icmp_eq d233_44 rfl (by omega) (by omega) (fun c44 => ?_) (fun c44 => ?_)
                · exact J81 (xL3_29) _ _ (by omega) (by omega) (by omega) (by omega) (by omega) (by first | rfl | omega)
                · refine pw_iload_n d233_47 rfl ?_
                  refine pw_if_eq d233_48 rfl (by omega) (fun c48 => ?_) (fun c48 => ?_)
                  · refine pw_aload_n d233_66 rfl ?_
                    refine pw_iload d233_67 rfl ?_
                    refine pw_iload d233_69 rfl ?_
                    refine pw_callV2 d233_71 k233_214 hT hA0 rfl rfl rfl (ct218F (τ := τ) (ρ := ρ) hT hA0 (by omega) (by omega)) (fun r71 h71 q71 => ?_)
                    obtain ⟨eh71, z71, ez71, lz71, uz71, pz71_0⟩ := q71
                    subst eh71
                    subst ez71
                    refine pw_if_le d233_74 rfl (by omega) (fun c74 => ?_) (fun c74 => ?_)
                    · exact J81 (xL3_29) _ _ (by omega) (by omega) (by omega) (by omega) (by omega) (by first | rfl | omega)
                    · exact J77 (xL3_29) _ _ (by omega) (by omega) (by omega) (by omega) (by omega) (by first | rfl | omega) (by exact ⟨by omega, by omega, by omega, by omega⟩)
                  · exfalso; omega
          refine pw_iload d233_15 rfl ?_
          refine pw_aload_n d233_17 rfl ?_
          refine pw_getR d233_18 g233_9 hT hA0 rfl rfl (fun t18 => ?_)
          have t18 : τ (ρ a0 1) = some 40 := t18
          refine pw_iconst d233_21 ?_
          refine pw_ialdB d233_22 hT t18 rfl rfl (by omega) (by omega) (fun u22 => ?_)
          have u22 : pv_wok ((0 : Int)) (pv_aI h (ρ a0 1) ((0 : Int)).toNat) := u22
          have vu22 := u22.2.1 (by omega)
          refine pw_icmp_ge d233_23 rfl (by omega) (by omega) (fun c23 => ?_) (fun c23 => ?_)
          · refine pw_iinc d233_122 m233 rfl rfl rfl ?_
            refine pw_goto d233_125 rfl ?_
            exact ih5 (xL3_15) ((xL4_5 + 1)) _ _ _ _ (by omega) (by omega) (by omega) (by first | exact pr_gr.rf | assumption | exact pr_grS (by omega) (by omega) (by unfold pv_r; omega) i0_29 i0_108 ez108 i1_108) (by omega)
          · refine pw_iconst d233_26 ?_
            refine pw_istore d233_27 m233 rfl rfl ?_
            exact L29 _ (xL3_15) (0) _ _ (by omega) (by omega) (by omega) (by omega) (by omega) (by first | exact pr_gr.rf | assumption | exact pr_grS (by omega) (by omega) (by unfold pv_r; omega) i0_29 i0_108 ez108 i1_108) (by omega) (pv_mu _)
      refine pw_iload d233_5 rfl ?_
      refine pw_bipush d233_7 (by decide) ?_
      refine pw_icmp_ge d233_9 rfl (by omega) (by omega) (fun c9 => ?_) (fun c9 => ?_)
      · refine pw_iload_n d233_128 rfl ?_
        exact pw_ireturn d233_129 tt233 ⟨rfl, xL3_5, rfl, (by omega), (by omega), (by assumption)⟩
      · refine pw_iconst d233_12 ?_
        refine pw_istore d233_13 m233 rfl rfl ?_
        exact L15 _ (xL3_5) (0) _ _ _ (by omega) (by omega) (by omega) (by omega) (by first | exact pr_gr.rf | assumption | exact pr_grS (by omega) (by omega) (by unfold pv_r; omega) i0_29 i0_108 ez108 i1_108) (pv_mu _)
  refine pw_iload_n d233_0 rfl ?_
  refine pw_istore_n d233_1 m233 rfl rfl ?_
  refine pw_iconst d233_2 ?_
  refine pw_istore d233_3 m233 rfl rfl ?_
  exact L5 _ (x1) (0) _ _ _ _ (by omega) (by omega) (by omega) (by first | exact pr_gr.rf | assumption | exact pr_grS (by omega) (by omega) (by unfold pv_r; omega) i0_29 i0_108 ez108 i1_108) (pv_mu _)

abbrev Q232F (τ : Nat → Option Nat) (ρ : Nat → Nat → Nat) (h : pv_H) (a0 : Nat) (x1 : Int) (x2 : Int) : Option Value → pv_H → Prop := fun r h' => h = h' ∧ ∃ z : Int, r = some (.int (pv_I z)) ∧ 0 ≤ z ∧ z ≤ 10 ∧ (z = 1 → pr_one (pv_aI h (ρ a0 1)) x1)
set_option maxHeartbeats 4000000 in
set_option maxRecDepth 20000 in
/-- AngleNetModel.partsOf(IZ)I -/
theorem ct232F {τ : Nat → Option Nat} {ρ : Nat → Nat → Nat} {K : Nat → Nat} {h : pv_H} {a0 : Nat} {x1 : Int} {x2 : Int} (hT : pv_Ty τ ρ h) (hA0 : τ a0 = some 7) (hX1 : (-2147483648) ≤ x1 ∧ x1 ≤ 2147483647) (hX2 : 0 ≤ x2 ∧ x2 ≤ 0) : pv_C K 232 [.ref a0, .int (pv_I x1), .int (pv_I x2)] h (Q232F τ ρ h a0 x1 x2) := by
  refine pw_entry 3 ?_
  show pv_T K 232 0 (pv_fl [some (.ref a0), some (.int (pv_I x1)), some (.int (pv_I x2)), none, none, none]) [] h (Q232F τ ρ h a0 x1 x2)
  have hR0_1 : τ (ρ a0 1) = some 40 := hT.rf (t' := 40) hA0 rfl rfl
  have L8 : ∀ (nn : Nat) (xL3_8 xL4_8 xL5_8 : Int) (o1_8 : Option Value), (0 ≤ x2 ∧ x2 ≤ 0) → (0 ≤ xL3_8 ∧ xL3_8 ≤ 10) → ((-2147483648) ≤ xL4_8 ∧ xL4_8 ≤ 2147483647) → (0 ≤ xL5_8 ∧ xL5_8 ≤ 10) → (pr_pi (pv_aI h (ρ a0 1)) x1 xL4_8 xL3_8 xL5_8) → (xL3_8 ≤ xL5_8) → 10 - xL5_8 < nn → pv_T K 232 8 (pv_fl [some (.ref a0), o1_8, some (.int (pv_I x2)), some (.int (pv_I xL3_8)), some (.int (pv_I xL4_8)), some (.int (pv_I xL5_8))]) [] h (Q232F τ ρ h a0 x1 x2) := by
    intro nn
    induction nn with
    | zero => intro xL3_8 xL4_8 xL5_8 o1_8 rL2_8 rL3_8 rL4_8 rL5_8 i0_8 i1_8 hm; exfalso; omega
    | succ nn ih8 =>
      intro xL3_8 xL4_8 xL5_8 o1_8 rL2_8 rL3_8 rL4_8 rL5_8 i0_8 i1_8 hm8
      have J51 : ∀ (xL3_51 xL4_51 : Int) (o1_51 : Option Value), (0 ≤ x2 ∧ x2 ≤ 0) → (0 ≤ xL3_51 ∧ xL3_51 ≤ 10) → ((-2147483648) ≤ xL4_51 ∧ xL4_51 ≤ 2147483647) → (0 ≤ xL5_8 ∧ xL5_8 ≤ 9) → (pr_pi (pv_aI h (ρ a0 1)) x1 xL4_51 xL3_51 (xL5_8 + 1)) → (xL3_51 ≤ xL5_8 + 1) → pv_T K 232 51 (pv_fl [some (.ref a0), o1_51, some (.int (pv_I x2)), some (.int (pv_I xL3_51)), some (.int (pv_I xL4_51)), some (.int (pv_I xL5_8))]) [] h (Q232F τ ρ h a0 x1 x2) := by
        intro xL3_51 xL4_51 o1_51 rL2_51 rL3_51 rL4_51 rL5_51 i0_51 i1_51
        refine pw_iinc d232_51 m232 rfl rfl rfl ?_
        refine pw_goto d232_54 rfl ?_
        exact ih8 (xL3_51) (xL4_51) ((xL5_8 + 1)) _ (by omega) (by omega) (by omega) (by omega) (by first | assumption | exact Or.inl ⟨rfl, rfl, fun x hx h9 => by omega⟩) (by omega) (by omega)
      refine pw_iload d232_8 rfl ?_
      refine pw_aload_n d232_10 rfl ?_
      refine pw_getR d232_11 g232_9 hT hA0 rfl rfl (fun t11 => ?_)
      have t11 : τ (ρ a0 1) = some 40 := t11
      refine pw_iconst d232_14 ?_
      refine pw_ialdB d232_15 hT t11 rfl rfl (by omega) (by omega) (fun u15 => ?_)
      have u15 : pv_wok ((0 : Int)) (pv_aI h (ρ a0 1) ((0 : Int)).toNat) := u15
      have vu15 := u15.2.1 (by omega)
      refine pw_icmp_ge d232_16 rfl (by omega) (by omega) (fun c16 => ?_) (fun c16 => ?_)
      · refine pw_iload_n d232_57 rfl ?_
        exact pw_ireturn d232_58 tt232 ⟨rfl, xL3_8, rfl, (by omega), (by omega), (by intro hz; exact pr_pi.one i0_8 hz (show pv_aI h (ρ a0 1) (0 : Int).toNat ≤ _ by omega))⟩
      · refine pw_iload d232_19 rfl ?_
        refine pw_iload d232_21 rfl ?_
        refine pw_ishr d232_23 (fun z23 hz23 ez23 => ?_)
        refine pw_iconst d232_24 ?_
        refine pw_iand d232_25 (fun z25 hz25 ez25 => ?_)
        have bz25 := pv_and1_b hz25 ez25
        refine pw_if_ne d232_26 rfl (by omega) (fun c26 => ?_) (fun c26 => ?_)
        · refine pw_iload d232_32 rfl ?_
          refine pw_aload_n d232_34 rfl ?_
          refine pw_iconst d232_35 ?_
          refine pw_iload d232_36 rfl ?_
          refine pw_ishl d232_38 (fun z38 hz38 ez38 => ?_)
          have bz38 := pv_shl1_b (n := 9) (m := 512) (y := xL5_8) (by omega) (by omega) (by decide) (by decide) hz38 ez38
          refine pw_iload_n d232_39 rfl ?_
          refine pw_callV2 d232_40 k232_241 hT hA0 rfl rfl rfl (ct233F (τ := τ) (ρ := ρ) hT hA0 (by omega) (by omega)) (fun r40 h40 q40 => ?_)
          obtain ⟨eh40, z40, ez40, lz40, uz40, pz40_0⟩ := q40
          subst eh40
          subst ez40
          refine pw_iconst d232_43 ?_
          refine pw_ixor d232_44 (fun z44 hz44 ez44 => ?_)
          refine pw_iand d232_45 (fun z45 hz45 ez45 => ?_)
          refine pw_istore d232_46 m232 rfl rfl ?_
          refine pw_iinc d232_48 m232 rfl rfl rfl ?_
          exact J51 ((xL3_8 + 1)) (z45) _ (by omega) (by omega) (by omega) (by omega) (by first | exact pr_pi.skip i0_8 (by omega) (by omega) hz25 ez23 ez25 (by omega) | exact pr_pi.take i0_8 (by omega) (by omega) hz25 ez23 ez25 (by omega) hz38 ez38 pz40_0 ez44 ez45 (by omega)) (by omega)
        · refine pw_goto d232_29 rfl ?_
          exact J51 (xL3_8) (xL4_8) _ (by omega) (by omega) (by omega) (by omega) (by first | exact pr_pi.skip i0_8 (by omega) (by omega) hz25 ez23 ez25 (by omega) | exact pr_pi.take i0_8 (by omega) (by omega) hz25 ez23 ez25 (by omega) hz38 ez38 pz40_0 ez44 ez45 (by omega)) (by omega)
  refine pw_iconst d232_0 ?_
  refine pw_istore_n d232_1 m232 rfl rfl ?_
  refine pw_iload_n d232_2 rfl ?_
  refine pw_istore d232_3 m232 rfl rfl ?_
  refine pw_iconst d232_5 ?_
  refine pw_istore d232_6 m232 rfl rfl ?_
  exact L8 _ (0) (x1) (0) _ (by omega) (by omega) (by omega) (by omega) (by first | assumption | exact Or.inl ⟨rfl, rfl, fun x hx h9 => by omega⟩) (by omega) (pv_mu _)
