abbrev Q271 (τ : Nat → Option Nat) (ρ : Nat → Nat → Nat) (h : pv_H) (a0 : Nat) (x1 : Int) (x2 : Int) : Option Value → pv_H → Prop := fun r h' => pv_Ty τ ρ h' ∧ pv_Fr τ [2623] h h' ∧ ∃ z : Int, r = some (.int (pv_I z)) ∧ (-5) ≤ z ∧ z ≤ 99 ∧ (pw_ok (pv_aI h (ρ a0 1)) → pw_ok (pv_aI h' (ρ a0 1))) ∧ (pf_G 10 (pr_n (pv_aI h' (ρ a0 1))) (pr_c (pv_aI h' (ρ a0 1)))) ∧ (0 ≤ x1 → x1 < pv_aI h (ρ a0 1) (0 : Int).toNat → 0 ≤ x2 → x2 < pv_aI h (ρ a0 1) (0 : Int).toNat → pr_s (pv_aI h (ρ a0 1)) x1 x2 → pr_ff (pv_aI h (ρ a0 1)) x1 x2 → pv_aI h (ρ a0 1) (6 : Int).toNat < 99 → 0 ≤ z)
set_option maxHeartbeats 4000000 in
set_option maxRecDepth 20000 in
/-- AngleNetModel.flip(II)I -/
theorem ct271 {τ : Nat → Option Nat} {ρ : Nat → Nat → Nat} {K : Nat → Nat} {h : pv_H} {a0 : Nat} {x1 : Int} {x2 : Int} (hT : pv_Ty τ ρ h) (hA0 : τ a0 = some 7) (hX1 : (-2147483648) ≤ x1 ∧ x1 ≤ 2147483647) (hX2 : (-2147483648) ≤ x2 ∧ x2 ≤ 2147483647) (hP0 : pf_G 10 (pr_n (pv_aI h (ρ a0 1))) (pr_c (pv_aI h (ρ a0 1)))) : pv_C K 271 [.ref a0, .int (pv_I x1), .int (pv_I x2)] h (Q271 τ ρ h a0 x1 x2) := by
  refine pw_entry 0 ?_
  show pv_T K 271 0 (pv_fl [some (.ref a0), some (.int (pv_I x1)), some (.int (pv_I x2))]) [] h (Q271 τ ρ h a0 x1 x2)
  have hR0_1 : τ (ρ a0 1) = some 40 := hT.rf (t' := 40) hA0 rfl rfl
  have hF0 : pv_Fr τ [2623] h h := pv_Fr.rf
  have hw1 : 0 ≤ pv_aI h (ρ a0 1) (1 : Int).toNat ∧ pv_aI h (ρ a0 1) (1 : Int).toNat ≤ 18 := (hT.wc hR0_1 (j := 1) rfl (by decide)).2.2.1 (by decide)
  have hw6 : 0 ≤ pv_aI h (ρ a0 1) (6 : Int).toNat ∧ pv_aI h (ρ a0 1) (6 : Int).toNat ≤ 99 := (hT.wc hR0_1 (j := 6) rfl (by decide)).2.2.2.2.2.2.1 (by decide)
  refine pw_aload_n d271_0 rfl ?_
  refine pw_iload_n d271_1 rfl ?_
  refine pw_iload_n d271_2 rfl ?_
  refine pw_callV2 d271_3 k271_235 hT hA0 rfl rfl rfl (ct220F (τ := τ) (ρ := ρ) hT hA0 (by omega) (by omega)) (fun r3 h3 q3 => ?_)
  obtain ⟨eh3, z3, ez3, lz3, uz3, pz3_0⟩ := q3
  subst eh3
  subst ez3
  refine pw_if_eq d271_6 rfl (by omega) (fun c6 => ?_) (fun c6 => ?_)
  · refine pw_bipush d271_18 (by decide) ?_
    exact pw_ireturn d271_20 tt271 ⟨hT, hF0, (-2), rfl, (by omega), (by omega), (by first | exact id | exact fp_ok (pe_at E55) hw1.2 (by omega) pz59_0), (by first | exact hP0 | exact fp_G (pe_at E55) (by decide) (show pv_aI h (ρ a0 1) 1 ≤ 18 from hw1.2) hP0 pz59_0), (by first | (intro _ _ _ _ _ _ _; omega) | (intro a1 a2 a3 a4 a5 a6 a7; exfalso; first | omega | (have := pz24_3 a6; omega) | (rcases pz12_0 with q | q; omega; exact q.2 a5) | (have := fl_two pz3_0 a1 a2 a3 a4 a5.1; omega)))⟩
  · refine pw_aload_n d271_9 rfl ?_
    refine pw_iload_n d271_10 rfl ?_
    refine pw_iload_n d271_11 rfl ?_
    refine pw_callV2 d271_12 k271_221 hT hA0 rfl rfl rfl (ct217F (τ := τ) (ρ := ρ) hT hA0 (by omega) (by omega)) (fun r12 h12 q12 => ?_)
    obtain ⟨eh12, z12, ez12, lz12, uz12, pz12_0⟩ := q12
    subst eh12
    subst ez12
    refine pw_if_ne d271_15 rfl (by omega) (fun c15 => ?_) (fun c15 => ?_)
    · refine pw_aload_n d271_21 rfl ?_
      refine pw_iload_n d271_22 rfl ?_
      refine pw_iload_n d271_23 rfl ?_
      refine pw_callV2 d271_24 k271_354 hT hA0 rfl rfl rfl (ct268 (τ := τ) (ρ := ρ) hT hA0 (by omega) (by omega) (by first | assumption | omega)) (fun r24 h24 q24 => ?_)
      obtain ⟨eh24, z24, ez24, lz24, uz24, pz24_0, pz24_1, pz24_2, pz24_3⟩ := q24
      subst eh24
      subst ez24
      refine pw_if_ne d271_27 rfl (by omega) (fun c27 => ?_) (fun c27 => ?_)
      · refine pw_aload_n d271_33 rfl ?_
        refine pw_getR d271_34 g271_9 hT hA0 rfl rfl (fun t34 => ?_)
        have t34 : τ (ρ a0 1) = some 40 := t34
        refine pw_bipush d271_37 (by decide) ?_
        refine pw_ialdB d271_39 hT t34 rfl rfl (by omega) (by omega) (fun u39 => ?_)
        have u39 : pv_wok ((6 : Int)) (pv_aI h (ρ a0 1) ((6 : Int)).toNat) := u39
        have vu39 := u39.2.2.2.2.2.2.1 (by omega)
        refine pw_bipush d271_40 (by decide) ?_
        refine pw_icmp_ne d271_42 rfl (by omega) (by omega) (fun c42 => ?_) (fun c42 => ?_)
        · refine pw_aload_n d271_48 rfl ?_
          refine pw_getR d271_49 g271_9 hT hA0 rfl rfl (fun t49 => ?_)
          have t49 : τ (ρ a0 1) = some 40 := t49
          refine pw_bipush d271_52 (by decide) ?_
          refine pw_iconst d271_54 ?_
          refine pw_iastB d271_55 hT t49 rfl rfl rfl (by omega) (by omega) (by omega) (by show pv_wok _ _; unfold pv_wok; omega) (fun h55 T55 F55 E55 => ?_)
          have f55 := hF0.tr (F55.up (by decide))
          have ff33 := pz24_0 (by omega) (by omega)
          have g56 := nc_G (pe_at E55) (by decide) (show pv_aI h (ρ a0 1) 1 ≤ 18 from hw1.2) hP0
          have ff56 := nc_ff (pe_at E55) (by decide) (show pv_aI h (ρ a0 1) 1 ≤ 18 from hw1.2) ff33
          have e56 : pv_aI h55 (ρ a0 1) (6 : Int).toNat = pv_aI h (ρ a0 1) (6 : Int).toNat := by rw [pe_at E55, if_neg (by decide)]
          refine pw_aload_n d271_56 rfl ?_
          refine pw_iload_n d271_57 rfl ?_
          refine pw_iload_n d271_58 rfl ?_
          refine pw_callV2 d271_59 k271_372 T55 hA0 rfl rfl rfl (ct272 (τ := τ) (ρ := ρ) T55 hA0 (by omega) (by omega) (by first | assumption | omega) (by first | assumption | omega) (by first | assumption | omega)) (fun r59 h59 q59 => ?_)
          obtain ⟨T59, F59, z59, ez59, lz59, uz59, pz59_0, pz59_1⟩ := q59
          subst ez59
          have f59 := f55.tr (F59.up (by decide))
          exact pw_ireturn d271_62 tt271 ⟨T59, f59, z59, rfl, (by omega), (by omega), (by first | exact id | exact fp_ok (pe_at E55) hw1.2 (by omega) pz59_0), (by first | exact hP0 | exact fp_G (pe_at E55) (by decide) (show pv_aI h (ρ a0 1) 1 ≤ 18 from hw1.2) hP0 pz59_0), (by first | (intro _ _ _ _ _ _ _; omega) | (intro a1 a2 a3 a4 a5 a6 a7; exfalso; first | omega | (have := pz24_3 a6; omega) | (rcases pz12_0 with q | q; omega; exact q.2 a5) | (have := fl_two pz3_0 a1 a2 a3 a4 a5.1; omega)))⟩
        · refine pw_bipush d271_45 (by decide) ?_
          exact pw_ireturn d271_47 tt271 ⟨hT, hF0, (-3), rfl, (by omega), (by omega), (by first | exact id | exact fp_ok (pe_at E55) hw1.2 (by omega) pz59_0), (by first | exact hP0 | exact fp_G (pe_at E55) (by decide) (show pv_aI h (ρ a0 1) 1 ≤ 18 from hw1.2) hP0 pz59_0), (by first | (intro _ _ _ _ _ _ _; omega) | (intro a1 a2 a3 a4 a5 a6 a7; exfalso; first | omega | (have := pz24_3 a6; omega) | (rcases pz12_0 with q | q; omega; exact q.2 a5) | (have := fl_two pz3_0 a1 a2 a3 a4 a5.1; omega)))⟩
      · refine pw_bipush d271_30 (by decide) ?_
        exact pw_ireturn d271_32 tt271 ⟨hT, hF0, (-5), rfl, (by omega), (by omega), (by first | exact id | exact fp_ok (pe_at E55) hw1.2 (by omega) pz59_0), (by first | exact hP0 | exact fp_G (pe_at E55) (by decide) (show pv_aI h (ρ a0 1) 1 ≤ 18 from hw1.2) hP0 pz59_0), (by first | (intro _ _ _ _ _ _ _; omega) | (intro a1 a2 a3 a4 a5 a6 a7; exfalso; first | omega | (have := pz24_3 a6; omega) | (rcases pz12_0 with q | q; omega; exact q.2 a5) | (have := fl_two pz3_0 a1 a2 a3 a4 a5.1; omega)))⟩
    · refine pw_bipush d271_18 (by decide) ?_
      exact pw_ireturn d271_20 tt271 ⟨hT, hF0, (-2), rfl, (by omega), (by omega), (by first | exact id | exact fp_ok (pe_at E55) hw1.2 (by omega) pz59_0), (by first | exact hP0 | exact fp_G (pe_at E55) (by decide) (show pv_aI h (ρ a0 1) 1 ≤ 18 from hw1.2) hP0 pz59_0), (by first | (intro _ _ _ _ _ _ _; omega) | (intro a1 a2 a3 a4 a5 a6 a7; exfalso; first | omega | (have := pz24_3 a6; omega) | (rcases pz12_0 with q | q; omega; exact q.2 a5) | (have := fl_two pz3_0 a1 a2 a3 a4 a5.1; omega)))⟩
