abbrev Q220G (τ : Nat → Option Nat) (ρ : Nat → Nat → Nat) (h : pv_H) (a0 : Nat) (x1 : Int) (x2 : Int) : Option Value → pv_H → Prop := fun r h' => h = h' ∧ ∃ z : Int, r = some (.int (pv_I z)) ∧ 0 ≤ z ∧ z ≤ 1 ∧ (z = 1 → 0 ≤ x1 ∧ x1 ≤ 9 ∧ 0 ≤ x2 ∧ x2 ≤ 9 ∧ x1 ≠ x2 ∧ x1 < pv_aI h (ρ a0 1) (0 : Int).toNat ∧ x2 < pv_aI h (ρ a0 1) (0 : Int).toNat) ∧ (z = 0 → x1 < 0 ∨ pv_aI h (ρ a0 1) (0 : Int).toNat ≤ x1 ∨ x2 < 0 ∨ pv_aI h (ρ a0 1) (0 : Int).toNat ≤ x2 ∨ x1 = x2)
set_option maxHeartbeats 4000000 in
set_option maxRecDepth 20000 in
/-- AngleNetModel.areTwo(II)Z -/
theorem ct220G {τ : Nat → Option Nat} {ρ : Nat → Nat → Nat} {K : Nat → Nat} {h : pv_H} {a0 : Nat} {x1 : Int} {x2 : Int} (hT : pv_Ty τ ρ h) (hA0 : τ a0 = some 7) (hX1 : (-2147483648) ≤ x1 ∧ x1 ≤ 2147483647) (hX2 : (-2147483648) ≤ x2 ∧ x2 ≤ 2147483647) : pv_C K 220 [.ref a0, .int (pv_I x1), .int (pv_I x2)] h (Q220G τ ρ h a0 x1 x2) := by
  refine pw_entry 0 ?_
  show pv_T K 220 0 (pv_fl [some (.ref a0), some (.int (pv_I x1)), some (.int (pv_I x2))]) [] h (Q220G τ ρ h a0 x1 x2)
  refine pw_aload_n d220_0 rfl ?_
  refine pw_iload_n d220_1 rfl ?_
  refine pw_callV1 d220_2 k220_77 hT hA0 rfl rfl rfl (ct214 (τ := τ) (ρ := ρ) hT hA0 (by omega)) (fun r2 h2 q2 => ?_)
  obtain ⟨eh2, z2, ez2, lz2, uz2, pz2_0⟩ := q2
  subst eh2
  subst ez2
  refine pw_if_eq d220_5 rfl (by omega) (fun c5 => ?_) (fun c5 => ?_)
  · refine pw_iconst d220_25 ?_
    exact pw_zreturn d220_26 tt220 (by omega) ⟨rfl, 0, rfl, (by omega), (by omega), (by omega), (by omega)⟩
  · refine pw_aload_n d220_8 rfl ?_
    refine pw_iload_n d220_9 rfl ?_
    refine pw_callV1 d220_10 k220_77 hT hA0 rfl rfl rfl (ct214 (τ := τ) (ρ := ρ) hT hA0 (by omega)) (fun r10 h10 q10 => ?_)
    obtain ⟨eh10, z10, ez10, lz10, uz10, pz10_0⟩ := q10
    subst eh10
    subst ez10
    refine pw_if_eq d220_13 rfl (by omega) (fun c13 => ?_) (fun c13 => ?_)
    · refine pw_iconst d220_25 ?_
      exact pw_zreturn d220_26 tt220 (by omega) ⟨rfl, 0, rfl, (by omega), (by omega), (by omega), (by omega)⟩
    · refine pw_iload_n d220_16 rfl ?_
      refine pw_iload_n d220_17 rfl ?_
      refine pw_icmp_eq d220_18 rfl (by omega) (by omega) (fun c18 => ?_) (fun c18 => ?_)
      · refine pw_iconst d220_25 ?_
        exact pw_zreturn d220_26 tt220 (by omega) ⟨rfl, 0, rfl, (by omega), (by omega), (by omega), (by omega)⟩
      · refine pw_iconst d220_21 ?_
        refine pw_goto d220_22 rfl ?_
        exact pw_zreturn d220_26 tt220 (by omega) ⟨rfl, 1, rfl, (by omega), (by omega), (by omega), (by omega)⟩

abbrev Q271 (τ : Nat → Option Nat) (ρ : Nat → Nat → Nat) (h : pv_H) (a0 : Nat) (x1 : Int) (x2 : Int) : Option Value → pv_H → Prop := fun r h' => pv_Ty τ ρ h' ∧ pv_Fr τ [2623] h h' ∧ ∃ z : Int, r = some (.int (pv_I z)) ∧ (-5) ≤ z ∧ z ≤ 99 ∧ (pw_ok (pv_aI h (ρ a0 1)) → pw_ok (pv_aI h' (ρ a0 1))) ∧ (pf_G 10 (pr_n (pv_aI h' (ρ a0 1))) (pr_c (pv_aI h' (ρ a0 1)))) ∧ (0 ≤ x1 → x1 < pv_aI h (ρ a0 1) (0 : Int).toNat → 0 ≤ x2 → x2 < pv_aI h (ρ a0 1) (0 : Int).toNat → pr_s (pv_aI h (ρ a0 1)) x1 x2 → pr_ff (pv_aI h (ρ a0 1)) x1 x2 → pv_aI h (ρ a0 1) (6 : Int).toNat < 99 → 0 ≤ z) ∧ (pv_aI h' (ρ a0 1) (1 : Int).toNat = pv_aI h (ρ a0 1) (1 : Int).toNat ∧ pv_aI h' (ρ a0 1) (0 : Int).toNat = pv_aI h (ρ a0 1) (0 : Int).toNat)
set_option maxHeartbeats 4000000 in
set_option maxRecDepth 20000 in
/-- AngleNetModel.flip(II)I -/
theorem ct271 {τ : Nat → Option Nat} {ρ : Nat → Nat → Nat} {K : Nat → Nat} {h : pv_H} {a0 : Nat} {x1 : Int} {x2 : Int} (hT : pv_Ty τ ρ h) (hA0 : τ a0 = some 7) (hX1 : (-2147483648) ≤ x1 ∧ x1 ≤ 2147483647) (hX2 : (-2147483648) ≤ x2 ∧ x2 ≤ 2147483647) (hP0 : pf_G 10 (pr_n (pv_aI h (ρ a0 1))) (pr_c (pv_aI h (ρ a0 1)))) : pv_C K 271 [.ref a0, .int (pv_I x1), .int (pv_I x2)] h (Q271 τ ρ h a0 x1 x2) := by
  refine pw_entry 0 ?_
  show pv_T K 271 0 (pv_fl [some (.ref a0), some (.int (pv_I x1)), some (.int (pv_I x2))]) [] h (Q271 τ ρ h a0 x1 x2)
  have hR0_1 : τ (ρ a0 1) = some 40 := hT.rf (t' := 40) hA0 rfl rfl
  have hF0 : pv_Fr τ [2623] h h := pv_Fr.rf
  have hw1 : 0 ≤ pv_aI h (ρ a0 1) (1 : Int).toNat ∧ pv_aI h (ρ a0 1) (1 : Int).toNat ≤ 18 := (hT.wc hR0_1 (j := 1) rfl (by decide)).2.2.1 (by decide)
  have hw6 : 0 ≤ pv_aI h (ρ a0 1) (6 : Int).toNat ∧ pv_aI h (ρ a0 1) (6 : Int).toNat ≤ 99 := (hT.wc hR0_1 (j := 6) rfl (by decide)).2.2.2.2.2.2.1 (by decide)
  have hw0 : pv_aI h (ρ a0 1) (0 : Int).toNat ≤ 10 := (hT.wc hR0_1 (j := 0) rfl (by decide)).2.1 (by decide) |>.2
  refine pw_aload_n d271_0 rfl ?_
  refine pw_iload_n d271_1 rfl ?_
  refine pw_iload_n d271_2 rfl ?_
  refine pw_callV2 d271_3 k271_235 hT hA0 rfl rfl rfl (ct220G (τ := τ) (ρ := ρ) hT hA0 (by omega) (by omega)) (fun r3 h3 q3 => ?_)
  obtain ⟨eh3, z3, ez3, lz3, uz3, pz3_0, pz3_1⟩ := q3
  subst eh3
  subst ez3
  refine pw_if_eq d271_6 rfl (by omega) (fun c6 => ?_) (fun c6 => ?_)
  · refine pw_bipush d271_18 (by decide) ?_
    exact pw_ireturn d271_20 tt271 ⟨hT, hF0, (-2), rfl, (by omega), (by omega), (by first | exact id | exact fp_ok (pe_at E55) hw1.2 (by omega) hw0 pz59_0), (by first | exact hP0 | exact fp_G (pe_at E55) (by decide) (show pv_aI h (ρ a0 1) 1 ≤ 18 from hw1.2) hP0 pz59_0), (by first | (intro _ _ _ _ _ _ _; omega) | (intro a1 a2 a3 a4 a5 a6 a7; exfalso; have a8 := a5.1; first | omega | (have := pz24_3 a6; omega) | (rcases pz12_0 with q | q; omega; exact q.2 a5))), (by first | exact ⟨rfl, rfl⟩ | exact tu_1 (pe_at E55) (by decide) pz59_0)⟩
  · refine pw_aload_n d271_9 rfl ?_
    refine pw_iload_n d271_10 rfl ?_
    refine pw_iload_n d271_11 rfl ?_
    refine pw_callV2 d271_12 k271_221 hT hA0 rfl rfl rfl (ct217F (τ := τ) (ρ := ρ) hT hA0 (by omega) (by omega)) (fun r12 h12 q12 => ?_)
    obtain ⟨eh12, z12, ez12, lz12, uz12, pz12_0⟩ := q12
    subst eh12
    subst ez12
    refine pw_if_ne d271_15 rfl (by omega) (fun c15 => ?_) (fun c15 => ?_)
    · refine pw_aload_n d271_21 rfl ?_
      refine pw_iload_n d271_22 rfl ?_
      refine pw_iload_n d271_23 rfl ?_
      refine pw_callV2 d271_24 k271_354 hT hA0 rfl rfl rfl (ct268 (τ := τ) (ρ := ρ) hT hA0 (by omega) (by omega) (by first | assumption | omega)) (fun r24 h24 q24 => ?_)
      obtain ⟨eh24, z24, ez24, lz24, uz24, pz24_0, pz24_1, pz24_2, pz24_3⟩ := q24
      subst eh24
      subst ez24
      refine pw_if_ne d271_27 rfl (by omega) (fun c27 => ?_) (fun c27 => ?_)
      · refine pw_aload_n d271_33 rfl ?_
        refine pw_getR d271_34 g271_9 hT hA0 rfl rfl (fun t34 => ?_)
        have t34 : τ (ρ a0 1) = some 40 := t34
        refine pw_bipush d271_37 (by decide) ?_
        refine pw_ialdB d271_39 hT t34 rfl rfl (by omega) (by omega) (fun u39 => ?_)
        have u39 : pv_wok ((6 : Int)) (pv_aI h (ρ a0 1) ((6 : Int)).toNat) := u39
        have vu39 := u39.2.2.2.2.2.2.1 (by omega)
        refine pw_bipush d271_40 (by decide) ?_
        refine pw_icmp_ne d271_42 rfl (by omega) (by omega) (fun c42 => ?_) (fun c42 => ?_)
        · refine pw_aload_n d271_48 rfl ?_
          refine pw_getR d271_49 g271_9 hT hA0 rfl rfl (fun t49 => ?_)
          have t49 : τ (ρ a0 1) = some 40 := t49
          refine pw_bipush d271_52 (by decide) ?_
          refine pw_iconst d271_54 ?_
          refine pw_iastB d271_55 hT t49 rfl rfl rfl (by omega) (by omega) (by omega) (by show pv_wok _ _; unfold pv_wok; omega) (fun h55 T55 F55 E55 => ?_)
          have f55 := hF0.tr (F55.up (by decide))
          have ff33 := pz24_0 (by omega) (by omega)
          have g56 := nc_G (pe_at E55) (by decide) (show pv_aI h (ρ a0 1) 1 ≤ 18 from hw1.2) hP0
          have ff56 := nc_ff (pe_at E55) (by decide) (show pv_aI h (ρ a0 1) 1 ≤ 18 from hw1.2) ff33
          have e56 : pv_aI h55 (ρ a0 1) (6 : Int).toNat = pv_aI h (ρ a0 1) (6 : Int).toNat := by rw [pe_at E55, if_neg (by decide)]
          refine pw_aload_n d271_56 rfl ?_
          refine pw_iload_n d271_57 rfl ?_
          refine pw_iload_n d271_58 rfl ?_
          refine pw_callV2 d271_59 k271_372 T55 hA0 rfl rfl rfl (ct272 (τ := τ) (ρ := ρ) T55 hA0 (by omega) (by omega) (by first | assumption | omega) (by first | assumption | omega) (by first | assumption | omega)) (fun r59 h59 q59 => ?_)
          obtain ⟨T59, F59, z59, ez59, lz59, uz59, pz59_0, pz59_1⟩ := q59
          subst ez59
          have f59 := f55.tr (F59.up (by decide))
          exact pw_ireturn d271_62 tt271 ⟨T59, f59, z59, rfl, (by omega), (by omega), (by first | exact id | exact fp_ok (pe_at E55) hw1.2 (by omega) hw0 pz59_0), (by first | exact hP0 | exact fp_G (pe_at E55) (by decide) (show pv_aI h (ρ a0 1) 1 ≤ 18 from hw1.2) hP0 pz59_0), (by first | (intro _ _ _ _ _ _ _; omega) | (intro a1 a2 a3 a4 a5 a6 a7; exfalso; have a8 := a5.1; first | omega | (have := pz24_3 a6; omega) | (rcases pz12_0 with q | q; omega; exact q.2 a5))), (by first | exact ⟨rfl, rfl⟩ | exact tu_1 (pe_at E55) (by decide) pz59_0)⟩
        · refine pw_bipush d271_45 (by decide) ?_
          exact pw_ireturn d271_47 tt271 ⟨hT, hF0, (-3), rfl, (by omega), (by omega), (by first | exact id | exact fp_ok (pe_at E55) hw1.2 (by omega) hw0 pz59_0), (by first | exact hP0 | exact fp_G (pe_at E55) (by decide) (show pv_aI h (ρ a0 1) 1 ≤ 18 from hw1.2) hP0 pz59_0), (by first | (intro _ _ _ _ _ _ _; omega) | (intro a1 a2 a3 a4 a5 a6 a7; exfalso; have a8 := a5.1; first | omega | (have := pz24_3 a6; omega) | (rcases pz12_0 with q | q; omega; exact q.2 a5))), (by first | exact ⟨rfl, rfl⟩ | exact tu_1 (pe_at E55) (by decide) pz59_0)⟩
      · refine pw_bipush d271_30 (by decide) ?_
        exact pw_ireturn d271_32 tt271 ⟨hT, hF0, (-5), rfl, (by omega), (by omega), (by first | exact id | exact fp_ok (pe_at E55) hw1.2 (by omega) hw0 pz59_0), (by first | exact hP0 | exact fp_G (pe_at E55) (by decide) (show pv_aI h (ρ a0 1) 1 ≤ 18 from hw1.2) hP0 pz59_0), (by first | (intro _ _ _ _ _ _ _; omega) | (intro a1 a2 a3 a4 a5 a6 a7; exfalso; have a8 := a5.1; first | omega | (have := pz24_3 a6; omega) | (rcases pz12_0 with q | q; omega; exact q.2 a5))), (by first | exact ⟨rfl, rfl⟩ | exact tu_1 (pe_at E55) (by decide) pz59_0)⟩
    · refine pw_bipush d271_18 (by decide) ?_
      exact pw_ireturn d271_20 tt271 ⟨hT, hF0, (-2), rfl, (by omega), (by omega), (by first | exact id | exact fp_ok (pe_at E55) hw1.2 (by omega) hw0 pz59_0), (by first | exact hP0 | exact fp_G (pe_at E55) (by decide) (show pv_aI h (ρ a0 1) 1 ≤ 18 from hw1.2) hP0 pz59_0), (by first | (intro _ _ _ _ _ _ _; omega) | (intro a1 a2 a3 a4 a5 a6 a7; exfalso; have a8 := a5.1; first | omega | (have := pz24_3 a6; omega) | (rcases pz12_0 with q | q; omega; exact q.2 a5))), (by first | exact ⟨rfl, rfl⟩ | exact tu_1 (pe_at E55) (by decide) pz59_0)⟩

abbrev Q276 (τ : Nat → Option Nat) (ρ : Nat → Nat → Nat) (h : pv_H) (a0 : Nat) : Option Value → pv_H → Prop := fun r h' => h = h' ∧ ∃ z : Int, r = some (.int (pv_I z)) ∧ (-1) ≤ z ∧ z ≤ 99 ∧ (z = -1 ∨ (0 ≤ z ∧ z ≤ 99 ∧ z / 10 < pv_aI h (ρ a0 1) (0 : Int).toNat ∧ z % 10 < pv_aI h (ρ a0 1) (0 : Int).toNat ∧ pr_s (pv_aI h (ρ a0 1)) (z / 10) (z % 10) ∧ pr_ff (pv_aI h (ρ a0 1)) (z / 10) (z % 10)))
set_option maxHeartbeats 4000000 in
set_option maxRecDepth 20000 in
/-- AngleNetModel.illegalSide()I -/
theorem ct276 {τ : Nat → Option Nat} {ρ : Nat → Nat → Nat} {K : Nat → Nat} {h : pv_H} {a0 : Nat} (hT : pv_Ty τ ρ h) (hA0 : τ a0 = some 7) (hP0 : pf_G 10 (pr_n (pv_aI h (ρ a0 1))) (pr_c (pv_aI h (ρ a0 1)))) : pv_C K 276 [.ref a0] h (Q276 τ ρ h a0) := by
  refine pw_entry 2 ?_
  show pv_T K 276 0 (pv_fl [some (.ref a0), none, none]) [] h (Q276 τ ρ h a0)
  have hR0_1 : τ (ρ a0 1) = some 40 := hT.rf (t' := 40) hA0 rfl rfl
  have L2 : ∀ (nn : Nat) (xL1_2 : Int) (o2_2 : Option Value), (0 ≤ xL1_2 ∧ xL1_2 ≤ 10) → 10 - xL1_2 < nn → pv_T K 276 2 (pv_fl [some (.ref a0), some (.int (pv_I xL1_2)), o2_2]) [] h (Q276 τ ρ h a0) := by
    intro nn
    induction nn with
    | zero => intro xL1_2 o2_2 rL1_2 hm; exfalso; omega
    | succ nn ih2 =>
      intro xL1_2 o2_2 rL1_2 hm2
      have L16 : ∀ (nn : Nat) (xL2_16 : Int), (0 ≤ xL1_2 ∧ xL1_2 ≤ 9) → (1 ≤ xL2_16 ∧ xL2_16 ≤ 10) → (xL1_2 < xL2_16) → (xL1_2 < pv_aI h (ρ a0 1) (0 : Int).toNat) → 10 - xL2_16 < nn → pv_T K 276 16 (pv_fl [some (.ref a0), some (.int (pv_I xL1_2)), some (.int (pv_I xL2_16))]) [] h (Q276 τ ρ h a0) := by
        intro nn
        induction nn with
        | zero => intro xL2_16 rL1_16 rL2_16 i0_16 i1_16 hm; exfalso; omega
        | succ nn ih16 =>
          intro xL2_16 rL1_16 rL2_16 i0_16 i1_16 hm16
          have J53 : ∀ (_ : Unit), (0 ≤ xL1_2 ∧ xL1_2 ≤ 9) → (1 ≤ xL2_16 ∧ xL2_16 ≤ 9) → (xL1_2 < xL2_16) → (xL2_16 < pv_aI h (ρ a0 1) (0 : Int).toNat) → (xL1_2 < pv_aI h (ρ a0 1) (0 : Int).toNat) → pv_T K 276 53 (pv_fl [some (.ref a0), some (.int (pv_I xL1_2)), some (.int (pv_I xL2_16))]) [] h (Q276 τ ρ h a0) := by
            intro _ rL1_53 rL2_53 i0_53 i1_53 i2_53
            refine pw_iinc d276_53 m276 rfl rfl rfl ?_
            refine pw_goto d276_56 rfl ?_
            exact ih16 ((xL2_16 + 1)) (by omega) (by omega) (by omega) (by omega) (by omega)
          refine pw_iload_n d276_16 rfl ?_
          refine pw_aload_n d276_17 rfl ?_
          refine pw_getR d276_18 g276_9 hT hA0 rfl rfl (fun t18 => ?_)
          have t18 : τ (ρ a0 1) = some 40 := t18
          refine pw_iconst d276_21 ?_
          refine pw_ialdB d276_22 hT t18 rfl rfl (by omega) (by omega) (fun u22 => ?_)
          have u22 : pv_wok ((0 : Int)) (pv_aI h (ρ a0 1) ((0 : Int)).toNat) := u22
          have vu22 := u22.2.1 (by omega)
          refine pw_icmp_ge d276_23 rfl (by omega) (by omega) (fun c23 => ?_) (fun c23 => ?_)
          · refine pw_iinc d276_59 m276 rfl rfl rfl ?_
            refine pw_goto d276_62 rfl ?_
            exact ih2 ((xL1_2 + 1)) _ (by omega) (by omega)
          · refine pw_aload_n d276_26 rfl ?_
            refine pw_iload_n d276_27 rfl ?_
            refine pw_iload_n d276_28 rfl ?_
            refine pw_callV2 d276_29 k276_221 hT hA0 rfl rfl rfl (ct217F (τ := τ) (ρ := ρ) hT hA0 (by omega) (by omega)) (fun r29 h29 q29 => ?_)
            obtain ⟨eh29, z29, ez29, lz29, uz29, pz29_0⟩ := q29
            subst eh29
            subst ez29
            refine pw_if_eq d276_32 rfl (by omega) (fun c32 => ?_) (fun c32 => ?_)
            · exact J53 () (by omega) (by omega) (by omega) (by omega) (by omega)
            · refine pw_aload_n d276_35 rfl ?_
              refine pw_iload_n d276_36 rfl ?_
              refine pw_iload_n d276_37 rfl ?_
              refine pw_callV2 d276_38 k276_361 hT hA0 rfl rfl rfl (ct267 (τ := τ) (ρ := ρ) hT hA0 (by omega) (by omega) (by first | assumption | omega)) (fun r38 h38 q38 => ?_)
              obtain ⟨eh38, z38, ez38, lz38, uz38, pz38_0⟩ := q38
              subst eh38
              subst ez38
              refine pw_bipush d276_41 (by decide) ?_
              refine pw_icmp_ne d276_43 rfl (by omega) (by omega) (fun c43 => ?_) (fun c43 => ?_)
              · exact J53 () (by omega) (by omega) (by omega) (by omega) (by omega)
              · refine pw_bipush d276_46 (by decide) ?_
                refine pw_iload_n d276_48 rfl ?_
                refine pw_imul d276_49 ?_
                refine pw_iload_n d276_50 rfl ?_
                refine pw_iadd d276_51 ?_
                exact pw_ireturn d276_52 tt276 ⟨rfl, ((10 * xL1_2) + xL2_16), rfl, (by omega), (by omega), (by first | exact Or.inl rfl | exact Or.inr ⟨by omega, by omega, by omega, by omega, by rw [(div10 (a := xL1_2) (b := xL2_16) (by omega)).1, (div10 (a := xL1_2) (b := xL2_16) (by omega)).2]; rcases pz29_0 with q | q; exact q.2; (exfalso; omega), by rw [(div10 (a := xL1_2) (b := xL2_16) (by omega)).1, (div10 (a := xL1_2) (b := xL2_16) (by omega)).2]; exact pz38_0 (by omega) (by omega)⟩)⟩
      refine pw_iload_n d276_2 rfl ?_
      refine pw_aload_n d276_3 rfl ?_
      refine pw_getR d276_4 g276_9 hT hA0 rfl rfl (fun t4 => ?_)
      have t4 : τ (ρ a0 1) = some 40 := t4
      refine pw_iconst d276_7 ?_
      refine pw_ialdB d276_8 hT t4 rfl rfl (by omega) (by omega) (fun u8 => ?_)
      have u8 : pv_wok ((0 : Int)) (pv_aI h (ρ a0 1) ((0 : Int)).toNat) := u8
      have vu8 := u8.2.1 (by omega)
      refine pw_icmp_ge d276_9 rfl (by omega) (by omega) (fun c9 => ?_) (fun c9 => ?_)
      · refine pw_iconst d276_65 ?_
        exact pw_ireturn d276_66 tt276 ⟨rfl, (-1), rfl, (by omega), (by omega), (by first | exact Or.inl rfl | exact Or.inr ⟨by omega, by omega, by omega, by omega, by rw [(div10 (a := xL1_2) (b := xL2_16) (by omega)).1, (div10 (a := xL1_2) (b := xL2_16) (by omega)).2]; rcases pz29_0 with q | q; exact q.2; (exfalso; omega), by rw [(div10 (a := xL1_2) (b := xL2_16) (by omega)).1, (div10 (a := xL1_2) (b := xL2_16) (by omega)).2]; exact pz38_0 (by omega) (by omega)⟩)⟩
      · refine pw_iload_n d276_12 rfl ?_
        refine pw_iconst d276_13 ?_
        refine pw_iadd d276_14 ?_
        refine pw_istore_n d276_15 m276 rfl rfl ?_
        exact L16 _ ((xL1_2 + 1)) (by omega) (by omega) (by omega) (by omega) (pv_mu _)
  refine pw_iconst d276_0 ?_
  refine pw_istore_n d276_1 m276 rfl rfl ?_
  exact L2 _ (0) _ (by omega) (pv_mu _)

abbrev Q275 (τ : Nat → Option Nat) (ρ : Nat → Nat → Nat) (h : pv_H) (a0 : Nat) : Option Value → pv_H → Prop := fun r h' => h = h' ∧ ∃ z : Int, r = some (.int (pv_I z)) ∧ (-2) ≤ z ∧ z ≤ 99
set_option maxHeartbeats 4000000 in
set_option maxRecDepth 20000 in
/-- AngleNetModel.illegal()I -/
theorem ct275 {τ : Nat → Option Nat} {ρ : Nat → Nat → Nat} {K : Nat → Nat} {h : pv_H} {a0 : Nat} (hT : pv_Ty τ ρ h) (hA0 : τ a0 = some 7) (hP0 : pf_G 10 (pr_n (pv_aI h (ρ a0 1))) (pr_c (pv_aI h (ρ a0 1)))) : pv_C K 275 [.ref a0] h (Q275 τ ρ h a0) := by
  refine pw_entry 0 ?_
  show pv_T K 275 0 (pv_fl [some (.ref a0)]) [] h (Q275 τ ρ h a0)
  refine pw_aload_n d275_0 rfl ?_
  refine pw_callV0 d275_1 k275_283 hT hA0 rfl rfl rfl (ct224 (τ := τ) (ρ := ρ) hT hA0) (fun r1 h1 q1 => ?_)
  obtain ⟨eh1, z1, ez1, lz1, uz1⟩ := q1
  subst eh1
  subst ez1
  refine pw_if_eq d275_4 rfl (by omega) (fun c4 => ?_) (fun c4 => ?_)
  · refine pw_bipush d275_14 (by decide) ?_
    exact pw_ireturn d275_16 tt275 ⟨rfl, (-2), rfl, (by omega), (by omega)⟩
  · refine pw_aload_n d275_7 rfl ?_
    refine pw_callV0 d275_8 k275_375 hT hA0 rfl rfl rfl (ct276 (τ := τ) (ρ := ρ) hT hA0 (by first | assumption | omega)) (fun r8 h8 q8 => ?_)
    obtain ⟨eh8, z8, ez8, lz8, uz8, pz8_0⟩ := q8
    subst eh8
    subst ez8
    refine pw_goto d275_11 rfl ?_
    exact pw_ireturn d275_16 tt275 ⟨rfl, z8, rfl, (by omega), (by omega)⟩

abbrev Q279 (τ : Nat → Option Nat) (ρ : Nat → Nat → Nat) (h : pv_H) (a0 : Nat) : Option Value → pv_H → Prop := fun r h' => pv_Ty τ ρ h' ∧ pv_Fr τ [2623] h h' ∧ ∃ z : Int, r = some (.int (pv_I z)) ∧ 0 ≤ z ∧ z ≤ 1 ∧ (pw_ok (pv_aI h' (ρ a0 1)))
set_option maxHeartbeats 4000000 in
set_option maxRecDepth 20000 in
/-- AngleNetModel.redo()I -/
theorem ct279 {τ : Nat → Option Nat} {ρ : Nat → Nat → Nat} {K : Nat → Nat} {h : pv_H} {a0 : Nat} (hT : pv_Ty τ ρ h) (hA0 : τ a0 = some 7) (hP0 : pw_ok (pv_aI h (ρ a0 1))) : pv_C K 279 [.ref a0] h (Q279 τ ρ h a0) := by
  refine pw_entry 2 ?_
  show pv_T K 279 0 (pv_fl [some (.ref a0), none, none]) [] h (Q279 τ ρ h a0)
  have hR0_1 : τ (ρ a0 1) = some 40 := hT.rf (t' := 40) hA0 rfl rfl
  have hF0 : pv_Fr τ [2623] h h := pv_Fr.rf
  have hw1 : 0 ≤ pv_aI h (ρ a0 1) (1 : Int).toNat ∧ pv_aI h (ρ a0 1) (1 : Int).toNat ≤ 18 := (hT.wc hR0_1 (j := 1) rfl (by decide)).2.2.1 (by decide)
  have hw6 : 0 ≤ pv_aI h (ρ a0 1) (6 : Int).toNat ∧ pv_aI h (ρ a0 1) (6 : Int).toNat ≤ 99 := (hT.wc hR0_1 (j := 6) rfl (by decide)).2.2.2.2.2.2.1 (by decide)
  have hw0 : pv_aI h (ρ a0 1) (0 : Int).toNat ≤ 10 := (hT.wc hR0_1 (j := 0) rfl (by decide)).2.1 (by decide) |>.2
  have hw7 : 0 ≤ pv_aI h (ρ a0 1) (7 : Int).toNat ∧ pv_aI h (ρ a0 1) (7 : Int).toNat ≤ 99 := (hT.wc hR0_1 (j := 7) rfl (by decide)).2.2.2.2.2.2.2.1 (by decide)
  have hs0 : pv_aI h (ρ a0 1) 6 + pv_aI h (ρ a0 1) 7 ≤ 99 := hP0.1
  have x6 : pv_aI h (ρ a0 1) (6 : Int).toNat = pv_aI h (ρ a0 1) 6 := rfl
  have x7 : pv_aI h (ρ a0 1) (7 : Int).toNat = pv_aI h (ρ a0 1) 7 := rfl
  refine pw_aload_n d279_0 rfl ?_
  refine pw_getR d279_1 g279_9 hT hA0 rfl rfl (fun t1 => ?_)
  have t1 : τ (ρ a0 1) = some 40 := t1
  refine pw_bipush d279_4 (by decide) ?_
  refine pw_ialdB d279_6 hT t1 rfl rfl (by omega) (by omega) (fun u6 => ?_)
  have u6 : pv_wok ((7 : Int)) (pv_aI h (ρ a0 1) ((7 : Int)).toNat) := u6
  have vu6 := u6.2.2.2.2.2.2.2.1 (by omega)
  refine pw_if_ne d279_7 rfl (by omega) (fun c7 => ?_) (fun c7 => ?_)
  · refine pw_aload_n d279_12 rfl ?_
    refine pw_getR d279_13 g279_9 hT hA0 rfl rfl (fun t13 => ?_)
    have t13 : τ (ρ a0 1) = some 40 := t13
    refine pw_bipush d279_16 (by decide) ?_
    refine pw_dup2 d279_18 rfl rfl ?_
    refine pw_ialdB d279_19 hT t13 rfl rfl (by omega) (by omega) (fun u19 => ?_)
    have u19 : pv_wok ((7 : Int)) (pv_aI h (ρ a0 1) ((7 : Int)).toNat) := u19
    have vu19 := u19.2.2.2.2.2.2.2.1 (by omega)
    refine pw_iconst d279_20 ?_
    refine pw_isub d279_21 ?_
    refine pw_iastB d279_22 hT t13 rfl rfl rfl (by omega) (by omega) (by omega) (by show pv_wok _ _; unfold pv_wok; omega) (fun h22 T22 F22 E22 => ?_)
    have f22 := hF0.tr (F22.up (by decide))
    refine pw_sipush d279_23 (by decide) ?_
    refine pw_bipush d279_26 (by decide) ?_
    refine pw_aload_n d279_28 rfl ?_
    refine pw_getR d279_29 g279_9 T22 hA0 rfl rfl (fun t29 => ?_)
    have t29 : τ (ρ a0 1) = some 40 := t29
    refine pw_bipush d279_32 (by decide) ?_
    refine pw_ialdB d279_34 T22 t29 rfl rfl (by omega) (by omega) (fun u34 => ?_)
    have u34 : pv_wok ((6 : Int)) (pv_aI h22 (ρ a0 1) ((6 : Int)).toNat) := u34
    have vu34 := u34.2.2.2.2.2.2.1 (by omega)
    refine pw_imul d279_35 ?_
    refine pw_iadd d279_36 ?_
    refine pw_istore_n d279_37 m279 rfl rfl ?_
    have g38 := nc_G (pe_at E22) (by decide) (show pv_aI h (ρ a0 1) 1 ≤ 18 from hw1.2) (hP0.G hw0)
    have e386 : pv_aI h22 (ρ a0 1) (6 : Int).toNat = pv_aI h (ρ a0 1) (6 : Int).toNat := by rw [pe_at E22, if_neg (by decide)]
    have e38k : pv_aI h22 (ρ a0 1) (220 + 13 * pv_aI h22 (ρ a0 1) (6 : Int).toNat).toNat = pv_aI h (ρ a0 1) (220 + 13 * (pv_aI h (ρ a0 1) 6).toNat) := by rw [pe_at E22, if_neg (by omega), e386, show (220 + 13 * pv_aI h (ρ a0 1) (6 : Int).toNat).toNat = 220 + 13 * (pv_aI h (ρ a0 1) 6).toNat by omega]
    have ff38 := nc_ff (pe_at E22) (by decide) (show pv_aI h (ρ a0 1) 1 ≤ 18 from hw1.2) (rd_ff hP0 hw0 (by omega) (by omega))
    rw [← e38k] at ff38
    refine pw_aload_n d279_38 rfl ?_
    refine pw_aload_n d279_39 rfl ?_
    refine pw_getR d279_40 g279_9 T22 hA0 rfl rfl (fun t40 => ?_)
    have t40 : τ (ρ a0 1) = some 40 := t40
    refine pw_iload_n d279_43 rfl ?_
    refine pw_ialdB d279_44 T22 t40 rfl rfl (by omega) (by omega) (fun u44 => ?_)
    have u44 : pv_wok ((220 + (13 * (pv_aI h22 (ρ a0 1) ((6 : Int)).toNat)))) (pv_aI h22 (ρ a0 1) ((220 + (13 * (pv_aI h22 (ρ a0 1) ((6 : Int)).toNat)))).toNat) := u44
    have vu44 := u44.2.2.2.2.2.2.2.2.2.2.2.2.1 (by omega)
    refine pw_bipush d279_45 (by decide) ?_
    refine pw_idiv d279_47 (by omega) (by omega) (by omega) (by omega) ?_
    refine pw_aload_n d279_48 rfl ?_
    refine pw_getR d279_49 g279_9 T22 hA0 rfl rfl (fun t49 => ?_)
    have t49 : τ (ρ a0 1) = some 40 := t49
    refine pw_iload_n d279_52 rfl ?_
    refine pw_ialdB d279_53 T22 t49 rfl rfl (by omega) (by omega) (fun u53 => ?_)
    have u53 : pv_wok ((220 + (13 * (pv_aI h22 (ρ a0 1) ((6 : Int)).toNat)))) (pv_aI h22 (ρ a0 1) ((220 + (13 * (pv_aI h22 (ρ a0 1) ((6 : Int)).toNat)))).toNat) := u53
    have vu53 := u53.2.2.2.2.2.2.2.2.2.2.2.2.1 (by omega)
    refine pw_bipush d279_54 (by decide) ?_
    refine pw_irem d279_56 (by omega) (by omega) (by omega) (by omega) ?_
    refine pw_callV2 d279_57 k279_372 T22 hA0 rfl rfl rfl (ct272 (τ := τ) (ρ := ρ) T22 hA0 (by omega) (by omega) (by first | assumption | omega) (by first | assumption | omega) (by first | assumption | omega)) (fun r57 h57 q57 => ?_)
    obtain ⟨T57, F57, z57, ez57, lz57, uz57, pz57_0, pz57_1⟩ := q57
    subst ez57
    have f57 := f22.tr (F57.up (by decide))
    refine pw_istore_n d279_60 m279 rfl rfl ?_
    refine pw_iload_n d279_61 rfl ?_
    refine pw_if_ge d279_62 rfl (by omega) (fun c62 => ?_) (fun c62 => ?_)
    · refine pw_iconst d279_69 ?_
      exact pw_ireturn d279_70 tt279 ⟨T57, f57, 1, rfl, (by omega), (by omega), (by first | exact hP0 | exact rd_ok (pe_at E22) (by omega) hw1.2 (by omega) (by omega) (by rw [← e38k]) (by rw [← e38k]) hw0 pz57_0 hP0)⟩
    · exfalso; omega
  · refine pw_iconst d279_10 ?_
    exact pw_ireturn d279_11 tt279 ⟨hT, hF0, 0, rfl, (by omega), (by omega), (by first | exact hP0 | exact rd_ok (pe_at E22) (by omega) hw1.2 (by omega) (by omega) (by rw [← e38k]) (by rw [← e38k]) hw0 pz57_0 hP0)⟩
