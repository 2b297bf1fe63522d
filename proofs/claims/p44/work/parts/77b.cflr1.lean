abbrev Q269 (τ : Nat → Option Nat) (ρ : Nat → Nat → Nat) (h : pv_H) (a0 : Nat) (x1 : Int) (x2 : Int) : Option Value → pv_H → Prop := fun r h' => h = h' ∧ ∃ z : Int, r = some (.int (pv_I z)) ∧ 0 ≤ z ∧ z ≤ 17 ∧ (z < pv_aI h (ρ a0 1) (1 : Int).toNat) ∧ (pf_on (pr_c (pv_aI h (ρ a0 1))) (z).toNat x1 x2) ∧ (∀ t, t < (z).toNat → ¬ pf_on (pr_c (pv_aI h (ρ a0 1))) t x1 x2)
set_option maxHeartbeats 4000000 in
set_option maxRecDepth 20000 in
/-- AngleNetModel.lesserThird(II)I -/
theorem ct269 {τ : Nat → Option Nat} {ρ : Nat → Nat → Nat} {K : Nat → Nat} {h : pv_H} {a0 : Nat} {x1 : Int} {x2 : Int} (hT : pv_Ty τ ρ h) (hA0 : τ a0 = some 7) (hX1 : (-2147483648) ≤ x1 ∧ x1 ≤ 2147483647) (hX2 : (-2147483648) ≤ x2 ∧ x2 ≤ 2147483647) (hP0 : ∃ t, t < pr_n (pv_aI h (ρ a0 1)) ∧ pf_on (pr_c (pv_aI h (ρ a0 1))) t x1 x2) : pv_C K 269 [.ref a0, .int (pv_I x1), .int (pv_I x2)] h (Q269 τ ρ h a0 x1 x2) := by
  refine pw_entry 1 ?_
  show pv_T K 269 0 (pv_fl [some (.ref a0), some (.int (pv_I x1)), some (.int (pv_I x2)), none]) [] h (Q269 τ ρ h a0 x1 x2)
  have hR0_1 : τ (ρ a0 1) = some 40 := hT.rf (t' := 40) hA0 rfl rfl
  have L2 : ∀ (nn : Nat) (xL3_2 : Int), ((-2147483648) ≤ x1 ∧ x1 ≤ 2147483647) → ((-2147483648) ≤ x2 ∧ x2 ≤ 2147483647) → (0 ≤ xL3_2 ∧ xL3_2 ≤ 17) → (∃ t, (xL3_2).toNat ≤ t ∧ t < pr_n (pv_aI h (ρ a0 1)) ∧ pf_on (pr_c (pv_aI h (ρ a0 1))) t x1 x2) → (∀ t, t < (xL3_2).toNat → ¬ pf_on (pr_c (pv_aI h (ρ a0 1))) t x1 x2) → 17 - xL3_2 < nn → pv_T K 269 2 (pv_fl [some (.ref a0), some (.int (pv_I x1)), some (.int (pv_I x2)), some (.int (pv_I xL3_2))]) [] h (Q269 τ ρ h a0 x1 x2) := by
    intro nn
    induction nn with
    | zero => intro xL3_2 rL1_2 rL2_2 rL3_2 i0_2 i1_2 hm; exfalso; omega
    | succ nn ih2 =>
      intro xL3_2 rL1_2 rL2_2 rL3_2 i0_2 i1_2 hm2
      have J26 : ∀ (_ : Unit), ((-2147483648) ≤ x1 ∧ x1 ≤ 2147483647) → ((-2147483648) ≤ x2 ∧ x2 ≤ 2147483647) → (0 ≤ xL3_2 ∧ xL3_2 ≤ 17) → (¬ pf_on (pr_c (pv_aI h (ρ a0 1))) (xL3_2).toNat x1 x2) → pv_T K 269 26 (pv_fl [some (.ref a0), some (.int (pv_I x1)), some (.int (pv_I x2)), some (.int (pv_I xL3_2))]) [] h (Q269 τ ρ h a0 x1 x2) := by
        intro _ rL1_26 rL2_26 rL3_26 i0_26
        have hw1 : 0 ≤ pv_aI h (ρ a0 1) (1 : Int).toNat ∧ pv_aI h (ρ a0 1) (1 : Int).toNat ≤ 18 := (hT.wc hR0_1 (j := 1) rfl (by decide)).2.2.1 (by decide)
        have lt26 : xL3_2 + 1 < pv_aI h (ρ a0 1) (1 : Int).toNat := lz_n (lz_s (by omega) i0_2 i0_26)
        refine pw_iinc d269_26 m269 rfl rfl rfl ?_
        refine pw_goto d269_29 rfl ?_
        exact ih2 ((xL3_2 + 1)) (by omega) (by omega) (by omega) (by first | (obtain ⟨t, t1, t2⟩ := hP0; exact ⟨t, Nat.zero_le _, t1, t2⟩) | exact lz_s (by omega) i0_2 i0_26) (by first | (intro t ht; exact absurd ht (Nat.not_lt_zero t)) | exact lz_a (by omega) i1_2 i0_26) (by omega)
      have hw1 : 0 ≤ pv_aI h (ρ a0 1) (1 : Int).toNat ∧ pv_aI h (ρ a0 1) (1 : Int).toNat ≤ 18 := (hT.wc hR0_1 (j := 1) rfl (by decide)).2.2.1 (by decide)
      have lt2 : xL3_2 < pv_aI h (ρ a0 1) (1 : Int).toNat := lz_n i0_2
      refine pw_aload_n d269_2 rfl ?_
      refine pw_getR d269_3 g269_9 hT hA0 rfl rfl (fun t3 => ?_)
      have t3 : τ (ρ a0 1) = some 40 := t3
      refine pw_iload_n d269_6 rfl ?_
      refine pw_iload_n d269_7 rfl ?_
      refine pw_callS3 d269_8 k269_156 rfl rfl (ct205wF (τ := τ) (ρ := ρ) hT t3 (by omega) (by omega)) (fun r8 h8 q8 => ?_)
      obtain ⟨eh8, z8, ez8, lz8, uz8, pz8_0⟩ := q8
      subst eh8
      subst ez8
      refine pw_if_eq d269_11 rfl (by omega) (fun c11 => ?_) (fun c11 => ?_)
      · exact J26 () (by omega) (by omega) (by omega) (by first | (intro g; rcases pz8_0 with q | q; (exfalso; omega); exact q.2 g.1) | (intro g; rcases pz20_0 with q | q; (exfalso; omega); exact q.2 g.2))
      · refine pw_aload_n d269_14 rfl ?_
        refine pw_getR d269_15 g269_9 hT hA0 rfl rfl (fun t15 => ?_)
        have t15 : τ (ρ a0 1) = some 40 := t15
        refine pw_iload_n d269_18 rfl ?_
        refine pw_iload_n d269_19 rfl ?_
        refine pw_callS3 d269_20 k269_156 rfl rfl (ct205wF (τ := τ) (ρ := ρ) hT t15 (by omega) (by omega)) (fun r20 h20 q20 => ?_)
        obtain ⟨eh20, z20, ez20, lz20, uz20, pz20_0⟩ := q20
        subst eh20
        subst ez20
        refine pw_if_ne d269_23 rfl (by omega) (fun c23 => ?_) (fun c23 => ?_)
        · refine pw_iload_n d269_32 rfl ?_
          exact pw_ireturn d269_33 tt269 ⟨rfl, xL3_2, rfl, (by omega), (by omega), (by omega), (by (rcases pz8_0 with q | q; rcases pz20_0 with r | r; exact ⟨q.2, r.2⟩; (exfalso; omega); (exfalso; omega))), (by exact i1_2)⟩
        · exact J26 () (by omega) (by omega) (by omega) (by first | (intro g; rcases pz8_0 with q | q; (exfalso; omega); exact q.2 g.1) | (intro g; rcases pz20_0 with q | q; (exfalso; omega); exact q.2 g.2))
  refine pw_iconst d269_0 ?_
  refine pw_istore_n d269_1 m269 rfl rfl ?_
  exact L2 _ (0) (by omega) (by omega) (by omega) (by first | (obtain ⟨t, t1, t2⟩ := hP0; exact ⟨t, Nat.zero_le _, t1, t2⟩) | exact lz_s (by omega) i0_2 i0_26) (by first | (intro t ht; exact absurd ht (Nat.not_lt_zero t)) | exact lz_a (by omega) i1_2 i0_26) (pv_mu _)

abbrev Q242F (τ : Nat → Option Nat) (ρ : Nat → Nat → Nat) (h : pv_H) (a0 : Nat) (x1 : Int) (x2 : Int) (x3 : Int) : Option Value → pv_H → Prop := fun r h' => h = h' ∧ ∃ z : Int, r = some (.int (pv_I z)) ∧ (-1) ≤ z ∧ z ≤ 17 ∧ ((z = -1 ∧ ∀ v, v < pr_n (pv_aI h (ρ a0 1)) → (v : Int) ≠ x3 → ¬ pf_on (pr_c (pv_aI h (ρ a0 1))) v x1 x2) ∨ (0 ≤ z ∧ z < pv_aI h (ρ a0 1) (1 : Int).toNat ∧ z ≠ x3 ∧ pf_on (pr_c (pv_aI h (ρ a0 1))) (z).toNat x1 x2))
set_option maxHeartbeats 4000000 in
set_option maxRecDepth 20000 in
/-- AngleNetModel.otherThird(III)I -/
theorem ct242F {τ : Nat → Option Nat} {ρ : Nat → Nat → Nat} {K : Nat → Nat} {h : pv_H} {a0 : Nat} {x1 : Int} {x2 : Int} {x3 : Int} (hT : pv_Ty τ ρ h) (hA0 : τ a0 = some 7) (hX1 : (-2147483648) ≤ x1 ∧ x1 ≤ 2147483647) (hX2 : (-2147483648) ≤ x2 ∧ x2 ≤ 2147483647) (hX3 : (-2147483648) ≤ x3 ∧ x3 ≤ 2147483647) : pv_C K 242 [.ref a0, .int (pv_I x1), .int (pv_I x2), .int (pv_I x3)] h (Q242F τ ρ h a0 x1 x2 x3) := by
  refine pw_entry 2 ?_
  show pv_T K 242 0 (pv_fl [some (.ref a0), some (.int (pv_I x1)), some (.int (pv_I x2)), some (.int (pv_I x3)), none, none]) [] h (Q242F τ ρ h a0 x1 x2 x3)
  have hR0_1 : τ (ρ a0 1) = some 40 := hT.rf (t' := 40) hA0 rfl rfl
  have L6 : ∀ (nn : Nat) (xL4_6 xL5_6 : Int), ((-2147483648) ≤ x1 ∧ x1 ≤ 2147483647) → ((-2147483648) ≤ x2 ∧ x2 ≤ 2147483647) → ((-2147483648) ≤ x3 ∧ x3 ≤ 2147483647) → ((-1) ≤ xL4_6 ∧ xL4_6 ≤ 17) → (0 ≤ xL5_6 ∧ xL5_6 ≤ 18) → ((xL4_6 = -1 ∧ ∀ v, v < (xL5_6).toNat → (v : Int) ≠ x3 → ¬ pf_on (pr_c (pv_aI h (ρ a0 1))) v x1 x2) ∨ (0 ≤ xL4_6 ∧ xL4_6 < xL5_6 ∧ xL4_6 ≠ x3 ∧ pf_on (pr_c (pv_aI h (ρ a0 1))) (xL4_6).toNat x1 x2)) → (xL5_6 ≤ pv_aI h (ρ a0 1) (1 : Int).toNat) → 18 - xL5_6 < nn → pv_T K 242 6 (pv_fl [some (.ref a0), some (.int (pv_I x1)), some (.int (pv_I x2)), some (.int (pv_I x3)), some (.int (pv_I xL4_6)), some (.int (pv_I xL5_6))]) [] h (Q242F τ ρ h a0 x1 x2 x3) := by
    intro nn
    induction nn with
    | zero => intro xL4_6 xL5_6 rL1_6 rL2_6 rL3_6 rL4_6 rL5_6 i0_6 i1_6 hm; exfalso; omega
    | succ nn ih6 =>
      intro xL4_6 xL5_6 rL1_6 rL2_6 rL3_6 rL4_6 rL5_6 i0_6 i1_6 hm6
      have J84 : ∀ (xL4_84 : Int), ((-2147483648) ≤ x1 ∧ x1 ≤ 2147483647) → ((-2147483648) ≤ x2 ∧ x2 ≤ 2147483647) → ((-2147483648) ≤ x3 ∧ x3 ≤ 2147483647) → ((-1) ≤ xL4_84 ∧ xL4_84 ≤ 17) → (0 ≤ xL5_6 ∧ xL5_6 ≤ 17) → ((xL4_84 = -1 ∧ ∀ v, v < (xL5_6 + 1).toNat → (v : Int) ≠ x3 → ¬ pf_on (pr_c (pv_aI h (ρ a0 1))) v x1 x2) ∨ (0 ≤ xL4_84 ∧ xL4_84 < xL5_6 + 1 ∧ xL4_84 ≠ x3 ∧ pf_on (pr_c (pv_aI h (ρ a0 1))) (xL4_84).toNat x1 x2)) → (xL5_6 < pv_aI h (ρ a0 1) (1 : Int).toNat) → pv_T K 242 84 (pv_fl [some (.ref a0), some (.int (pv_I x1)), some (.int (pv_I x2)), some (.int (pv_I x3)), some (.int (pv_I xL4_84)), some (.int (pv_I xL5_6))]) [] h (Q242F τ ρ h a0 x1 x2 x3) := by
        intro xL4_84 rL1_84 rL2_84 rL3_84 rL4_84 rL5_84 i0_84 i1_84
        refine pw_iinc d242_84 m242 rfl rfl rfl ?_
        refine pw_goto d242_87 rfl ?_
        exact ih6 (xL4_84) ((xL5_6 + 1)) (by omega) (by omega) (by omega) (by omega) (by omega) (by first | exact Or.inl ⟨rfl, fun v hv => absurd hv (Nat.not_lt_zero v)⟩ | exact i0_84) (by first | exact hw1.1 | omega) (by omega)
      have J82 : ∀ (xS0_82 : Int) (o4_82 : Option Value), ((-2147483648) ≤ x1 ∧ x1 ≤ 2147483647) → ((-2147483648) ≤ x2 ∧ x2 ≤ 2147483647) → ((-2147483648) ≤ x3 ∧ x3 ≤ 2147483647) → (0 ≤ xL5_6 ∧ xL5_6 ≤ 17) → (0 ≤ xS0_82 ∧ xS0_82 ≤ 17) → (0 ≤ xS0_82 ∧ xS0_82 < xL5_6 + 1 ∧ xS0_82 ≠ x3 ∧ pf_on (pr_c (pv_aI h (ρ a0 1))) (xS0_82).toNat x1 x2) → (xL5_6 < pv_aI h (ρ a0 1) (1 : Int).toNat) → pv_T K 242 82 (pv_fl [some (.ref a0), some (.int (pv_I x1)), some (.int (pv_I x2)), some (.int (pv_I x3)), o4_82, some (.int (pv_I xL5_6))]) [.int (pv_I xS0_82)] h (Q242F τ ρ h a0 x1 x2 x3) := by
        intro xS0_82 o4_82 rL1_82 rL2_82 rL3_82 rL5_82 rS0_82 i0_82 i1_82
        refine pw_istore d242_82 m242 rfl rfl ?_
        exact J84 (xS0_82) (by omega) (by omega) (by omega) (by omega) (by omega) (by first | exact Or.inr i0_82 | exact ot_skip (by omega) i0_6 (Or.inl (by omega)) | exact ot_skip (by omega) i0_6 (Or.inr (fun g => by rcases pz28_0 with q | q; (exfalso; omega); exact q.2 g.1)) | exact ot_skip (by omega) i0_6 (Or.inr (fun g => by rcases pz41_0 with q | q; (exfalso; omega); exact q.2 g.2))) (by omega)
      have J75 : ∀ (o4_75 : Option Value), ((-2147483648) ≤ x1 ∧ x1 ≤ 2147483647) → ((-2147483648) ≤ x2 ∧ x2 ≤ 2147483647) → ((-2147483648) ≤ x3 ∧ x3 ≤ 2147483647) → (0 ≤ xL5_6 ∧ xL5_6 ≤ 17) → (pf_on (pr_c (pv_aI h (ρ a0 1))) (xL5_6).toNat x1 x2) → (xL5_6 ≠ x3 ∧ xL5_6 < pv_aI h (ρ a0 1) (1 : Int).toNat) → pv_T K 242 75 (pv_fl [some (.ref a0), some (.int (pv_I x1)), some (.int (pv_I x2)), some (.int (pv_I x3)), o4_75, some (.int (pv_I xL5_6))]) [] h (Q242F τ ρ h a0 x1 x2 x3) := by
        intro o4_75 rL1_75 rL2_75 rL3_75 rL5_75 i0_75 i1_75
        refine pw_iload d242_75 rfl ?_
        refine pw_goto d242_77 rfl ?_
        exact J82 (xL5_6) _ (by omega) (by omega) (by omega) (by omega) (by omega) (by first | exact ⟨by omega, by omega, by omega, i0_75⟩ | (rcases i0_6 with q | q; (exfalso; omega); exact ⟨by omega, by omega, q.2.2.1, q.2.2.2⟩)) (by omega)
      refine pw_iload d242_6 rfl ?_
      refine pw_aload_n d242_8 rfl ?_
      refine pw_callV0 d242_9 k242_216 hT hA0 rfl rfl rfl (ct216 (τ := τ) (ρ := ρ) hT hA0) (fun r9 h9 q9 => ?_)
      obtain ⟨eh9, z9, ez9, lz9, uz9, pz9_0⟩ := q9
      subst eh9
      subst ez9
      refine pw_icmp_ge d242_12 rfl (by omega) (by omega) (fun c12 => ?_) (fun c12 => ?_)
      · refine pw_iload d242_90 rfl ?_
        exact pw_ireturn d242_92 tt242 ⟨rfl, xL4_6, rfl, (by omega), (by omega), (by rcases i0_6 with q | q; exact Or.inl ⟨q.1, fun v hv => q.2 v (Nat.lt_of_lt_of_le hv (show (pv_aI h (ρ a0 1) (1 : Int).toNat).toNat ≤ _ by omega))⟩; exact Or.inr ⟨q.1, by omega, q.2.2.1, q.2.2.2⟩)⟩
      · refine pw_iload d242_15 rfl ?_
        refine pw_iload_n d242_17 rfl ?_
        refine pw_icmp_eq d242_18 rfl (by omega) (by omega) (fun c18 => ?_) (fun c18 => ?_)
        · exact J84 (xL4_6) (by omega) (by omega) (by omega) (by omega) (by omega) (by first | exact Or.inr i0_82 | exact ot_skip (by omega) i0_6 (Or.inl (by omega)) | exact ot_skip (by omega) i0_6 (Or.inr (fun g => by rcases pz28_0 with q | q; (exfalso; omega); exact q.2 g.1)) | exact ot_skip (by omega) i0_6 (Or.inr (fun g => by rcases pz41_0 with q | q; (exfalso; omega); exact q.2 g.2))) (by omega)
        · refine pw_aload_n d242_21 rfl ?_
          refine pw_getR d242_22 g242_9 hT hA0 rfl rfl (fun t22 => ?_)
          have t22 : τ (ρ a0 1) = some 40 := t22
          refine pw_iload d242_25 rfl ?_
          refine pw_iload_n d242_27 rfl ?_
          refine pw_callS3 d242_28 k242_156 rfl rfl (ct205wF (τ := τ) (ρ := ρ) hT t22 (by omega) (by omega)) (fun r28 h28 q28 => ?_)
          obtain ⟨eh28, z28, ez28, lz28, uz28, pz28_0⟩ := q28
          subst eh28
          subst ez28
          refine pw_if_eq d242_31 rfl (by omega) (fun c31 => ?_) (fun c31 => ?_)
          · exact J84 (xL4_6) (by omega) (by omega) (by omega) (by omega) (by omega) (by first | exact Or.inr i0_82 | exact ot_skip (by omega) i0_6 (Or.inl (by omega)) | exact ot_skip (by omega) i0_6 (Or.inr (fun g => by rcases pz28_0 with q | q; (exfalso; omega); exact q.2 g.1)) | exact ot_skip (by omega) i0_6 (Or.inr (fun g => by rcases pz41_0 with q | q; (exfalso; omega); exact q.2 g.2))) (by omega)
          · refine pw_aload_n d242_34 rfl ?_
            refine pw_getR d242_35 g242_9 hT hA0 rfl rfl (fun t35 => ?_)
            have t35 : τ (ρ a0 1) = some 40 := t35
            refine pw_iload d242_38 rfl ?_
            refine pw_iload_n d242_40 rfl ?_
            refine pw_callS3 d242_41 k242_156 rfl rfl (ct205wF (τ := τ) (ρ := ρ) hT t35 (by omega) (by omega)) (fun r41 h41 q41 => ?_)
            obtain ⟨eh41, z41, ez41, lz41, uz41, pz41_0⟩ := q41
            subst eh41
            subst ez41
            refine pw_if_ne d242_44 rfl (by omega) (fun c44 => ?_) (fun c44 => ?_)
            · have on50 : pf_on (pr_c (pv_aI h (ρ a0 1))) (xL5_6).toNat x1 x2 := by rcases pz28_0 with q | q; rcases pz41_0 with r | r; exact ⟨q.2, r.2⟩; (exfalso; omega); (exfalso; omega)
              refine pw_iload d242_50 rfl ?_
              refine pw_iconst d242_52 ?_
              refine pw_icmp_eq d242_53 rfl (by omega) (by omega) (fun c53 => ?_) (fun c53 => ?_)
              · exact J75 _ (by omega) (by omega) (by omega) (by omega) (by exact on50) (by omega)
              · refine pw_aload_n d242_56 rfl ?_
                refine pw_iload d242_57 rfl ?_
                refine pw_iload_n d242_59 rfl ?_
                refine pw_iload_n d242_60 rfl ?_
                refine pw_callV3 d242_61 k242_292 hT hA0 rfl rfl rfl (ct243 (τ := τ) (ρ := ρ) hT hA0 (by omega) (by omega) (by omega)) (fun r61 h61 q61 => ?_)
                obtain ⟨eh61, z61, ez61, lz61, uz61⟩ := q61
                subst eh61
                subst ez61
                refine pw_aload_n d242_64 rfl ?_
                refine pw_iload d242_65 rfl ?_
                refine pw_iload_n d242_67 rfl ?_
                refine pw_iload_n d242_68 rfl ?_
                refine pw_callV3 d242_69 k242_292 hT hA0 rfl rfl rfl (ct243 (τ := τ) (ρ := ρ) hT hA0 (by omega) (by omega) (by omega)) (fun r69 h69 q69 => ?_)
                obtain ⟨eh69, z69, ez69, lz69, uz69⟩ := q69
                subst eh69
                subst ez69
                refine pw_icmp_ge d242_72 rfl (by omega) (by omega) (fun c72 => ?_) (fun c72 => ?_)
                · refine pw_iload d242_80 rfl ?_
                  exact J82 (xL4_6) _ (by omega) (by omega) (by omega) (by omega) (by omega) (by first | exact ⟨by omega, by omega, by omega, i0_75⟩ | (rcases i0_6 with q | q; (exfalso; omega); exact ⟨by omega, by omega, q.2.2.1, q.2.2.2⟩)) (by omega)
                · exact J75 _ (by omega) (by omega) (by omega) (by omega) (by exact on50) (by omega)
            · refine pw_goto d242_47 rfl ?_
              exact J84 (xL4_6) (by omega) (by omega) (by omega) (by omega) (by omega) (by first | exact Or.inr i0_82 | exact ot_skip (by omega) i0_6 (Or.inl (by omega)) | exact ot_skip (by omega) i0_6 (Or.inr (fun g => by rcases pz28_0 with q | q; (exfalso; omega); exact q.2 g.1)) | exact ot_skip (by omega) i0_6 (Or.inr (fun g => by rcases pz41_0 with q | q; (exfalso; omega); exact q.2 g.2))) (by omega)
  have hw1 : 0 ≤ pv_aI h (ρ a0 1) (1 : Int).toNat ∧ pv_aI h (ρ a0 1) (1 : Int).toNat ≤ 18 := (hT.wc hR0_1 (j := 1) rfl (by decide)).2.2.1 (by decide)
  refine pw_iconst d242_0 ?_
  refine pw_istore d242_1 m242 rfl rfl ?_
  refine pw_iconst d242_3 ?_
  refine pw_istore d242_4 m242 rfl rfl ?_
  exact L6 _ ((-1)) (0) (by omega) (by omega) (by omega) (by omega) (by omega) (by first | exact Or.inl ⟨rfl, fun v hv => absurd hv (Nat.not_lt_zero v)⟩ | exact i0_84) (by first | exact hw1.1 | omega) (pv_mu _)

abbrev Q243F9 (τ : Nat → Option Nat) (ρ : Nat → Nat → Nat) (h : pv_H) (a0 : Nat) (x1 : Int) (x2 : Int) (x3 : Int) : Option Value → pv_H → Prop := fun r h' => h = h' ∧ ∃ z : Int, r = some (.int (pv_I z)) ∧ (-18) ≤ z ∧ z ≤ 27 ∧ (z = pf_by (pr_c (pv_aI h (ρ a0 1))) (x1).toNat x2 x3)
set_option maxHeartbeats 4000000 in
set_option maxRecDepth 20000 in
/-- AngleNetModel.beyond(III)I -/
theorem ct243F9 {τ : Nat → Option Nat} {ρ : Nat → Nat → Nat} {K : Nat → Nat} {h : pv_H} {a0 : Nat} {x1 : Int} {x2 : Int} {x3 : Int} (hT : pv_Ty τ ρ h) (hA0 : τ a0 = some 7) (hX1 : 0 ≤ x1 ∧ x1 ≤ 17) (hX2 : 0 ≤ x2 ∧ x2 ≤ 9) (hX3 : 0 ≤ x3 ∧ x3 ≤ 9) : pv_C K 243 [.ref a0, .int (pv_I x1), .int (pv_I x2), .int (pv_I x3)] h (Q243F9 τ ρ h a0 x1 x2 x3) := by
  refine pw_entry 0 ?_
  show pv_T K 243 0 (pv_fl [some (.ref a0), some (.int (pv_I x1)), some (.int (pv_I x2)), some (.int (pv_I x3))]) [] h (Q243F9 τ ρ h a0 x1 x2 x3)
  refine pw_aload_n d243_0 rfl ?_
  refine pw_iload_n d243_1 rfl ?_
  refine pw_iconst d243_2 ?_
  refine pw_callV2 d243_3 k243_219 hT hA0 rfl rfl rfl (ct212 (τ := τ) (ρ := ρ) hT hA0 (by omega) (by omega)) (fun r3 h3 q3 => ?_)
  obtain ⟨eh3, z3, ez3, lz3, uz3, pz3_0, pz3_1⟩ := q3
  subst eh3
  subst ez3
  refine pw_aload_n d243_6 rfl ?_
  refine pw_iload_n d243_7 rfl ?_
  refine pw_iconst d243_8 ?_
  refine pw_callV2 d243_9 k243_219 hT hA0 rfl rfl rfl (ct212 (τ := τ) (ρ := ρ) hT hA0 (by omega) (by omega)) (fun r9 h9 q9 => ?_)
  obtain ⟨eh9, z9, ez9, lz9, uz9, pz9_0, pz9_1⟩ := q9
  subst eh9
  subst ez9
  refine pw_iadd d243_12 ?_
  refine pw_aload_n d243_13 rfl ?_
  refine pw_iload_n d243_14 rfl ?_
  refine pw_iconst d243_15 ?_
  refine pw_callV2 d243_16 k243_219 hT hA0 rfl rfl rfl (ct212 (τ := τ) (ρ := ρ) hT hA0 (by omega) (by omega)) (fun r16 h16 q16 => ?_)
  obtain ⟨eh16, z16, ez16, lz16, uz16, pz16_0, pz16_1⟩ := q16
  subst eh16
  subst ez16
  refine pw_iadd d243_19 ?_
  refine pw_iload_n d243_20 rfl ?_
  refine pw_isub d243_21 ?_
  refine pw_iload_n d243_22 rfl ?_
  refine pw_isub d243_23 ?_
  exact pw_ireturn d243_24 tt243 ⟨rfl, ((((z3 + z9) + z16) - x2) - x3), rfl, (by omega), (by omega), (by unfold pf_by pr_c; rw [show 8 + 4 * (x1).toNat + 0 = (8 + 4 * x1 + 0).toNat by omega, show 8 + 4 * (x1).toNat + 1 = (8 + 4 * x1 + 1).toNat by omega, show 8 + 4 * (x1).toNat + 2 = (8 + 4 * x1 + 2).toNat by omega]; omega)⟩
