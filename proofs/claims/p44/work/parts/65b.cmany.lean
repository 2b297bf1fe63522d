abbrev Q205wF (τ : Nat → Option Nat) (ρ : Nat → Nat → Nat) (h : pv_H) (a0 : Nat) (x1 : Int) (x2 : Int) : Option Value → pv_H → Prop := fun r h' => h = h' ∧ ∃ z : Int, r = some (.int (pv_I z)) ∧ 0 ≤ z ∧ z ≤ 1 ∧ ((z = 1 ∧ pf_has (pr_c (pv_aI h a0)) (x1).toNat x2) ∨ (z = 0 ∧ ¬ pf_has (pr_c (pv_aI h a0)) (x1).toNat x2))
set_option maxHeartbeats 4000000 in
set_option maxRecDepth 20000 in
/-- AngleNetModel.hasPost([III)Z -/
theorem ct205wF {τ : Nat → Option Nat} {ρ : Nat → Nat → Nat} {K : Nat → Nat} {h : pv_H} {a0 : Nat} {x1 : Int} {x2 : Int} (hT : pv_Ty τ ρ h) (hA0 : τ a0 = some 40) (hX1 : 0 ≤ x1 ∧ x1 ≤ 17) (hX2 : (-2147483648) ≤ x2 ∧ x2 ≤ 2147483647) : pv_C K 205 [.ref a0, .int (pv_I x1), .int (pv_I x2)] h (Q205wF τ ρ h a0 x1 x2) := by
  refine pw_entry 0 ?_
  show pv_T K 205 0 (pv_fl [some (.ref a0), some (.int (pv_I x1)), some (.int (pv_I x2))]) [] h (Q205wF τ ρ h a0 x1 x2)
  refine pw_aload_n d205_0 rfl ?_
  refine pw_bipush d205_1 (by decide) ?_
  refine pw_iconst d205_3 ?_
  refine pw_iload_n d205_4 rfl ?_
  refine pw_imul d205_5 ?_
  refine pw_iadd d205_6 ?_
  refine pw_ialdB d205_7 hT hA0 rfl rfl (by omega) (by omega) (fun u7 => ?_)
  have u7 : pv_wok ((8 + (4 * x1))) (pv_aI h a0 ((8 + (4 * x1))).toNat) := u7
  have vu7 := u7.2.2.2.2.2.2.2.2.2.1 (by omega)
  refine pw_iload_n d205_8 rfl ?_
  refine pw_icmp_eq d205_9 rfl (by omega) (by omega) (fun c9 => ?_) (fun c9 => ?_)
  · refine pw_iconst d205_40 ?_
    refine pw_goto d205_41 rfl ?_
    exact pw_zreturn d205_45 tt205 (by omega) ⟨rfl, 1, rfl, (by omega), (by omega), (by unfold pf_has pr_c; rw [show 8 + 4 * (x1).toNat + 0 = (8 + 4 * x1).toNat by omega, show 8 + 4 * (x1).toNat + 1 = (8 + 4 * x1 + 1).toNat by omega, show 8 + 4 * (x1).toNat + 2 = (8 + 4 * x1 + 2).toNat by omega]; omega)⟩
  · refine pw_aload_n d205_12 rfl ?_
    refine pw_bipush d205_13 (by decide) ?_
    refine pw_iconst d205_15 ?_
    refine pw_iload_n d205_16 rfl ?_
    refine pw_imul d205_17 ?_
    refine pw_iadd d205_18 ?_
    refine pw_iconst d205_19 ?_
    refine pw_iadd d205_20 ?_
    refine pw_ialdB d205_21 hT hA0 rfl rfl (by omega) (by omega) (fun u21 => ?_)
    have u21 : pv_wok (((8 + (4 * x1)) + 1)) (pv_aI h a0 (((8 + (4 * x1)) + 1)).toNat) := u21
    have vu21 := u21.2.2.2.2.2.2.2.2.2.1 (by omega)
    refine pw_iload_n d205_22 rfl ?_
    refine pw_icmp_eq d205_23 rfl (by omega) (by omega) (fun c23 => ?_) (fun c23 => ?_)
    · refine pw_iconst d205_40 ?_
      refine pw_goto d205_41 rfl ?_
      exact pw_zreturn d205_45 tt205 (by omega) ⟨rfl, 1, rfl, (by omega), (by omega), (by unfold pf_has pr_c; rw [show 8 + 4 * (x1).toNat + 0 = (8 + 4 * x1).toNat by omega, show 8 + 4 * (x1).toNat + 1 = (8 + 4 * x1 + 1).toNat by omega, show 8 + 4 * (x1).toNat + 2 = (8 + 4 * x1 + 2).toNat by omega]; omega)⟩
    · refine pw_aload_n d205_26 rfl ?_
      refine pw_bipush d205_27 (by decide) ?_
      refine pw_iconst d205_29 ?_
      refine pw_iload_n d205_30 rfl ?_
      refine pw_imul d205_31 ?_
      refine pw_iadd d205_32 ?_
      refine pw_iconst d205_33 ?_
      refine pw_iadd d205_34 ?_
      refine pw_ialdB d205_35 hT hA0 rfl rfl (by omega) (by omega) (fun u35 => ?_)
      have u35 : pv_wok (((8 + (4 * x1)) + 2)) (pv_aI h a0 (((8 + (4 * x1)) + 2)).toNat) := u35
      have vu35 := u35.2.2.2.2.2.2.2.2.2.1 (by omega)
      refine pw_iload_n d205_36 rfl ?_
      refine pw_icmp_ne d205_37 rfl (by omega) (by omega) (fun c37 => ?_) (fun c37 => ?_)
      · refine pw_iconst d205_44 ?_
        exact pw_zreturn d205_45 tt205 (by omega) ⟨rfl, 0, rfl, (by omega), (by omega), (by unfold pf_has pr_c; rw [show 8 + 4 * (x1).toNat + 0 = (8 + 4 * x1).toNat by omega, show 8 + 4 * (x1).toNat + 1 = (8 + 4 * x1 + 1).toNat by omega, show 8 + 4 * (x1).toNat + 2 = (8 + 4 * x1 + 2).toNat by omega]; omega)⟩
      · refine pw_iconst d205_40 ?_
        refine pw_goto d205_41 rfl ?_
        exact pw_zreturn d205_45 tt205 (by omega) ⟨rfl, 1, rfl, (by omega), (by omega), (by unfold pf_has pr_c; rw [show 8 + 4 * (x1).toNat + 0 = (8 + 4 * x1).toNat by omega, show 8 + 4 * (x1).toNat + 1 = (8 + 4 * x1 + 1).toNat by omega, show 8 + 4 * (x1).toNat + 2 = (8 + 4 * x1 + 2).toNat by omega]; omega)⟩

abbrev Q205fF (τ : Nat → Option Nat) (ρ : Nat → Nat → Nat) (h : pv_H) (a0 : Nat) (x1 : Int) (x2 : Int) : Option Value → pv_H → Prop := fun r h' => h = h' ∧ ∃ z : Int, r = some (.int (pv_I z)) ∧ 0 ≤ z ∧ z ≤ 1 ∧ ((z = 1 ∧ pf_has (pr_c (pv_aI h a0)) (x1).toNat x2) ∨ (z = 0 ∧ ¬ pf_has (pr_c (pv_aI h a0)) (x1).toNat x2))
set_option maxHeartbeats 4000000 in
set_option maxRecDepth 20000 in
/-- AngleNetModel.hasPost([III)Z -/
theorem ct205fF {τ : Nat → Option Nat} {ρ : Nat → Nat → Nat} {K : Nat → Nat} {h : pv_H} {a0 : Nat} {x1 : Int} {x2 : Int} (hT : pv_Ty τ ρ h) (hA0 : τ a0 = some 45) (hX1 : 0 ≤ x1 ∧ x1 ≤ 17) (hX2 : (-2147483648) ≤ x2 ∧ x2 ≤ 2147483647) : pv_C K 205 [.ref a0, .int (pv_I x1), .int (pv_I x2)] h (Q205fF τ ρ h a0 x1 x2) := by
  refine pw_entry 0 ?_
  show pv_T K 205 0 (pv_fl [some (.ref a0), some (.int (pv_I x1)), some (.int (pv_I x2))]) [] h (Q205fF τ ρ h a0 x1 x2)
  refine pw_aload_n d205_0 rfl ?_
  refine pw_bipush d205_1 (by decide) ?_
  refine pw_iconst d205_3 ?_
  refine pw_iload_n d205_4 rfl ?_
  refine pw_imul d205_5 ?_
  refine pw_iadd d205_6 ?_
  refine pw_ialdB d205_7 hT hA0 rfl rfl (by omega) (by omega) (fun u7 => ?_)
  have u7 : pv_wok ((8 + (4 * x1))) (pv_aI h a0 ((8 + (4 * x1))).toNat) := u7
  have vu7 := u7.2.2.2.2.2.2.2.2.2.1 (by omega)
  refine pw_iload_n d205_8 rfl ?_
  refine pw_icmp_eq d205_9 rfl (by omega) (by omega) (fun c9 => ?_) (fun c9 => ?_)
  · refine pw_iconst d205_40 ?_
    refine pw_goto d205_41 rfl ?_
    exact pw_zreturn d205_45 tt205 (by omega) ⟨rfl, 1, rfl, (by omega), (by omega), (by unfold pf_has pr_c; rw [show 8 + 4 * (x1).toNat + 0 = (8 + 4 * x1).toNat by omega, show 8 + 4 * (x1).toNat + 1 = (8 + 4 * x1 + 1).toNat by omega, show 8 + 4 * (x1).toNat + 2 = (8 + 4 * x1 + 2).toNat by omega]; omega)⟩
  · refine pw_aload_n d205_12 rfl ?_
    refine pw_bipush d205_13 (by decide) ?_
    refine pw_iconst d205_15 ?_
    refine pw_iload_n d205_16 rfl ?_
    refine pw_imul d205_17 ?_
    refine pw_iadd d205_18 ?_
    refine pw_iconst d205_19 ?_
    refine pw_iadd d205_20 ?_
    refine pw_ialdB d205_21 hT hA0 rfl rfl (by omega) (by omega) (fun u21 => ?_)
    have u21 : pv_wok (((8 + (4 * x1)) + 1)) (pv_aI h a0 (((8 + (4 * x1)) + 1)).toNat) := u21
    have vu21 := u21.2.2.2.2.2.2.2.2.2.1 (by omega)
    refine pw_iload_n d205_22 rfl ?_
    refine pw_icmp_eq d205_23 rfl (by omega) (by omega) (fun c23 => ?_) (fun c23 => ?_)
    · refine pw_iconst d205_40 ?_
      refine pw_goto d205_41 rfl ?_
      exact pw_zreturn d205_45 tt205 (by omega) ⟨rfl, 1, rfl, (by omega), (by omega), (by unfold pf_has pr_c; rw [show 8 + 4 * (x1).toNat + 0 = (8 + 4 * x1).toNat by omega, show 8 + 4 * (x1).toNat + 1 = (8 + 4 * x1 + 1).toNat by omega, show 8 + 4 * (x1).toNat + 2 = (8 + 4 * x1 + 2).toNat by omega]; omega)⟩
    · refine pw_aload_n d205_26 rfl ?_
      refine pw_bipush d205_27 (by decide) ?_
      refine pw_iconst d205_29 ?_
      refine pw_iload_n d205_30 rfl ?_
      refine pw_imul d205_31 ?_
      refine pw_iadd d205_32 ?_
      refine pw_iconst d205_33 ?_
      refine pw_iadd d205_34 ?_
      refine pw_ialdB d205_35 hT hA0 rfl rfl (by omega) (by omega) (fun u35 => ?_)
      have u35 : pv_wok (((8 + (4 * x1)) + 2)) (pv_aI h a0 (((8 + (4 * x1)) + 2)).toNat) := u35
      have vu35 := u35.2.2.2.2.2.2.2.2.2.1 (by omega)
      refine pw_iload_n d205_36 rfl ?_
      refine pw_icmp_ne d205_37 rfl (by omega) (by omega) (fun c37 => ?_) (fun c37 => ?_)
      · refine pw_iconst d205_44 ?_
        exact pw_zreturn d205_45 tt205 (by omega) ⟨rfl, 0, rfl, (by omega), (by omega), (by unfold pf_has pr_c; rw [show 8 + 4 * (x1).toNat + 0 = (8 + 4 * x1).toNat by omega, show 8 + 4 * (x1).toNat + 1 = (8 + 4 * x1 + 1).toNat by omega, show 8 + 4 * (x1).toNat + 2 = (8 + 4 * x1 + 2).toNat by omega]; omega)⟩
      · refine pw_iconst d205_40 ?_
        refine pw_goto d205_41 rfl ?_
        exact pw_zreturn d205_45 tt205 (by omega) ⟨rfl, 1, rfl, (by omega), (by omega), (by unfold pf_has pr_c; rw [show 8 + 4 * (x1).toNat + 0 = (8 + 4 * x1).toNat by omega, show 8 + 4 * (x1).toNat + 1 = (8 + 4 * x1 + 1).toNat by omega, show 8 + 4 * (x1).toNat + 2 = (8 + 4 * x1 + 2).toNat by omega]; omega)⟩

abbrev Q204wF (τ : Nat → Option Nat) (ρ : Nat → Nat → Nat) (h : pv_H) (a0 : Nat) (x1 : Int) (x2 : Int) : Option Value → pv_H → Prop := fun r h' => h = h' ∧ ∃ z : Int, r = some (.int (pv_I z)) ∧ 0 ≤ z ∧ z ≤ 18 ∧ (z = pr_m (pv_aI h a0) x1 x2)
set_option maxHeartbeats 4000000 in
set_option maxRecDepth 20000 in
/-- AngleNetModel.manyWith([III)I -/
theorem ct204wF {τ : Nat → Option Nat} {ρ : Nat → Nat → Nat} {K : Nat → Nat} {h : pv_H} {a0 : Nat} {x1 : Int} {x2 : Int} (hT : pv_Ty τ ρ h) (hA0 : τ a0 = some 40) (hX1 : (-2147483648) ≤ x1 ∧ x1 ≤ 2147483647) (hX2 : (-2147483648) ≤ x2 ∧ x2 ≤ 2147483647) : pv_C K 204 [.ref a0, .int (pv_I x1), .int (pv_I x2)] h (Q204wF τ ρ h a0 x1 x2) := by
  refine pw_entry 2 ?_
  show pv_T K 204 0 (pv_fl [some (.ref a0), some (.int (pv_I x1)), some (.int (pv_I x2)), none, none]) [] h (Q204wF τ ρ h a0 x1 x2)
  have L5 : ∀ (nn : Nat) (xL3_5 xL4_5 : Int), ((-2147483648) ≤ x1 ∧ x1 ≤ 2147483647) → ((-2147483648) ≤ x2 ∧ x2 ≤ 2147483647) → (0 ≤ xL3_5 ∧ xL3_5 ≤ 18) → (0 ≤ xL4_5 ∧ xL4_5 ≤ 18) → (xL3_5 = pd_sum (xL4_5).toNat (fun t => pf_i (pr_c (pv_aI h a0)) t x1 x2)) → (xL4_5 ≤ pv_aI h a0 (1 : Int).toNat) → (xL3_5 ≤ xL4_5) → 18 - xL4_5 < nn → pv_T K 204 5 (pv_fl [some (.ref a0), some (.int (pv_I x1)), some (.int (pv_I x2)), some (.int (pv_I xL3_5)), some (.int (pv_I xL4_5))]) [] h (Q204wF τ ρ h a0 x1 x2) := by
    intro nn
    induction nn with
    | zero => intro xL3_5 xL4_5 rL1_5 rL2_5 rL3_5 rL4_5 i0_5 i1_5 i2_5 hm; exfalso; omega
    | succ nn ih5 =>
      intro xL3_5 xL4_5 rL1_5 rL2_5 rL3_5 rL4_5 i0_5 i1_5 i2_5 hm5
      have J39 : ∀ (xS0_39 : Int) (o3_39 : Option Value), ((-2147483648) ≤ x1 ∧ x1 ≤ 2147483647) → ((-2147483648) ≤ x2 ∧ x2 ≤ 2147483647) → (0 ≤ xL4_5 ∧ xL4_5 ≤ 17) → (0 ≤ xS0_39 ∧ xS0_39 ≤ 1) → (0 ≤ xL3_5 ∧ xL3_5 ≤ 18) → (xS0_39 = pf_i (pr_c (pv_aI h a0)) (xL4_5).toNat x1 x2) → (xL4_5 < pv_aI h a0 (1 : Int).toNat) → pv_T K 204 39 (pv_fl [some (.ref a0), some (.int (pv_I x1)), some (.int (pv_I x2)), o3_39, some (.int (pv_I xL4_5))]) [.int (pv_I xS0_39), .int (pv_I xL3_5)] h (Q204wF τ ρ h a0 x1 x2) := by
        intro xS0_39 o3_39 rL1_39 rL2_39 rL4_39 rS0_39 rS1_39 i0_39 i1_39
        refine pw_iadd d204_39 ?_
        refine pw_istore_n d204_40 m204 rfl rfl ?_
        refine pw_iinc d204_41 m204 rfl rfl rfl ?_
        refine pw_goto d204_44 rfl ?_
        exact ih5 ((xL3_5 + xS0_39)) ((xL4_5 + 1)) (by omega) (by omega) (by omega) (by omega) (by first | rfl | (rw [pd_sum_S (by omega)]; omega)) (by first | exact hw1 | omega) (by omega) (by omega)
      have J38 : ∀ (o3_38 : Option Value), ((-2147483648) ≤ x1 ∧ x1 ≤ 2147483647) → ((-2147483648) ≤ x2 ∧ x2 ≤ 2147483647) → (0 ≤ xL4_5 ∧ xL4_5 ≤ 17) → (0 ≤ xL3_5 ∧ xL3_5 ≤ 18) → (pf_i (pr_c (pv_aI h a0)) (xL4_5).toNat x1 x2 = 0) → (xL4_5 < pv_aI h a0 (1 : Int).toNat) → pv_T K 204 38 (pv_fl [some (.ref a0), some (.int (pv_I x1)), some (.int (pv_I x2)), o3_38, some (.int (pv_I xL4_5))]) [.int (pv_I xL3_5)] h (Q204wF τ ρ h a0 x1 x2) := by
        intro o3_38 rL1_38 rL2_38 rL4_38 rS0_38 i0_38 i1_38
        refine pw_iconst d204_38 ?_
        exact J39 (0) _ (by omega) (by omega) (by omega) (by omega) (by omega) (by first | exact i0_38.symm | exact mi_1 pz18_0 pz28_0 c21 c31) (by omega)
      refine pw_iload d204_5 rfl ?_
      refine pw_aload_n d204_7 rfl ?_
      refine pw_iconst d204_8 ?_
      refine pw_ialdB d204_9 hT hA0 rfl rfl (by omega) (by omega) (fun u9 => ?_)
      have u9 : pv_wok ((1 : Int)) (pv_aI h a0 ((1 : Int)).toNat) := u9
      have vu9 := u9.2.2.1 (by omega)
      refine pw_icmp_ge d204_10 rfl (by omega) (by omega) (fun c10 => ?_) (fun c10 => ?_)
      · refine pw_iload_n d204_47 rfl ?_
        exact pw_ireturn d204_48 tt204 ⟨rfl, xL3_5, rfl, (by omega), (by omega), (by show _ = pd_sum (pv_aI h a0 (1 : Int).toNat).toNat _; rw [show (pv_aI h a0 (1 : Int).toNat).toNat = (xL4_5).toNat by omega]; exact i0_5)⟩
      · refine pw_iload_n d204_13 rfl ?_
        refine pw_aload_n d204_14 rfl ?_
        refine pw_iload d204_15 rfl ?_
        refine pw_iload_n d204_17 rfl ?_
        refine pw_callS3 d204_18 k204_156 rfl rfl (ct205wF (τ := τ) (ρ := ρ) hT hA0 (by omega) (by omega)) (fun r18 h18 q18 => ?_)
        obtain ⟨eh18, z18, ez18, lz18, uz18, pz18_0⟩ := q18
        subst eh18
        subst ez18
        refine pw_if_eq d204_21 rfl (by omega) (fun c21 => ?_) (fun c21 => ?_)
        · exact J38 _ (by omega) (by omega) (by omega) (by omega) (by first | exact mi_2 pz18_0 c21 | exact mi_3 pz28_0 c31) (by omega)
        · refine pw_aload_n d204_24 rfl ?_
          refine pw_iload d204_25 rfl ?_
          refine pw_iload_n d204_27 rfl ?_
          refine pw_callS3 d204_28 k204_156 rfl rfl (ct205wF (τ := τ) (ρ := ρ) hT hA0 (by omega) (by omega)) (fun r28 h28 q28 => ?_)
          obtain ⟨eh28, z28, ez28, lz28, uz28, pz28_0⟩ := q28
          subst eh28
          subst ez28
          refine pw_if_eq d204_31 rfl (by omega) (fun c31 => ?_) (fun c31 => ?_)
          · exact J38 _ (by omega) (by omega) (by omega) (by omega) (by first | exact mi_2 pz18_0 c21 | exact mi_3 pz28_0 c31) (by omega)
          · refine pw_iconst d204_34 ?_
            refine pw_goto d204_35 rfl ?_
            exact J39 (1) _ (by omega) (by omega) (by omega) (by omega) (by omega) (by first | exact i0_38.symm | exact mi_1 pz18_0 pz28_0 c21 c31) (by omega)
  have hw1 : 0 ≤ pv_aI h a0 (1 : Int).toNat := (hT.wc hA0 (j := 1) rfl (by decide)).2.2.1 (by decide) |>.1
  refine pw_iconst d204_0 ?_
  refine pw_istore_n d204_1 m204 rfl rfl ?_
  refine pw_iconst d204_2 ?_
  refine pw_istore d204_3 m204 rfl rfl ?_
  exact L5 _ (0) (0) (by omega) (by omega) (by omega) (by omega) (by first | rfl | (rw [pd_sum_S (by omega)]; omega)) (by first | exact hw1 | omega) (by omega) (pv_mu _)

abbrev Q204fF (τ : Nat → Option Nat) (ρ : Nat → Nat → Nat) (h : pv_H) (a0 : Nat) (x1 : Int) (x2 : Int) : Option Value → pv_H → Prop := fun r h' => h = h' ∧ ∃ z : Int, r = some (.int (pv_I z)) ∧ 0 ≤ z ∧ z ≤ 18 ∧ (z = pr_m (pv_aI h a0) x1 x2)
set_option maxHeartbeats 4000000 in
set_option maxRecDepth 20000 in
/-- AngleNetModel.manyWith([III)I -/
theorem ct204fF {τ : Nat → Option Nat} {ρ : Nat → Nat → Nat} {K : Nat → Nat} {h : pv_H} {a0 : Nat} {x1 : Int} {x2 : Int} (hT : pv_Ty τ ρ h) (hA0 : τ a0 = some 45) (hX1 : (-2147483648) ≤ x1 ∧ x1 ≤ 2147483647) (hX2 : (-2147483648) ≤ x2 ∧ x2 ≤ 2147483647) : pv_C K 204 [.ref a0, .int (pv_I x1), .int (pv_I x2)] h (Q204fF τ ρ h a0 x1 x2) := by
  refine pw_entry 2 ?_
  show pv_T K 204 0 (pv_fl [some (.ref a0), some (.int (pv_I x1)), some (.int (pv_I x2)), none, none]) [] h (Q204fF τ ρ h a0 x1 x2)
  have L5 : ∀ (nn : Nat) (xL3_5 xL4_5 : Int), ((-2147483648) ≤ x1 ∧ x1 ≤ 2147483647) → ((-2147483648) ≤ x2 ∧ x2 ≤ 2147483647) → (0 ≤ xL3_5 ∧ xL3_5 ≤ 18) → (0 ≤ xL4_5 ∧ xL4_5 ≤ 18) → (xL3_5 = pd_sum (xL4_5).toNat (fun t => pf_i (pr_c (pv_aI h a0)) t x1 x2)) → (xL4_5 ≤ pv_aI h a0 (1 : Int).toNat) → (xL3_5 ≤ xL4_5) → 18 - xL4_5 < nn → pv_T K 204 5 (pv_fl [some (.ref a0), some (.int (pv_I x1)), some (.int (pv_I x2)), some (.int (pv_I xL3_5)), some (.int (pv_I xL4_5))]) [] h (Q204fF τ ρ h a0 x1 x2) := by
    intro nn
    induction nn with
    | zero => intro xL3_5 xL4_5 rL1_5 rL2_5 rL3_5 rL4_5 i0_5 i1_5 i2_5 hm; exfalso; omega
    | succ nn ih5 =>
      intro xL3_5 xL4_5 rL1_5 rL2_5 rL3_5 rL4_5 i0_5 i1_5 i2_5 hm5
      have J39 : ∀ (xS0_39 : Int) (o3_39 : Option Value), ((-2147483648) ≤ x1 ∧ x1 ≤ 2147483647) → ((-2147483648) ≤ x2 ∧ x2 ≤ 2147483647) → (0 ≤ xL4_5 ∧ xL4_5 ≤ 17) → (0 ≤ xS0_39 ∧ xS0_39 ≤ 1) → (0 ≤ xL3_5 ∧ xL3_5 ≤ 18) → (xS0_39 = pf_i (pr_c (pv_aI h a0)) (xL4_5).toNat x1 x2) → (xL4_5 < pv_aI h a0 (1 : Int).toNat) → pv_T K 204 39 (pv_fl [some (.ref a0), some (.int (pv_I x1)), some (.int (pv_I x2)), o3_39, some (.int (pv_I xL4_5))]) [.int (pv_I xS0_39), .int (pv_I xL3_5)] h (Q204fF τ ρ h a0 x1 x2) := by
        intro xS0_39 o3_39 rL1_39 rL2_39 rL4_39 rS0_39 rS1_39 i0_39 i1_39
        refine pw_iadd d204_39 ?_
        refine pw_istore_n d204_40 m204 rfl rfl ?_
        refine pw_iinc d204_41 m204 rfl rfl rfl ?_
        refine pw_goto d204_44 rfl ?_
        exact ih5 ((xL3_5 + xS0_39)) ((xL4_5 + 1)) (by omega) (by omega) (by omega) (by omega) (by first | rfl | (rw [pd_sum_S (by omega)]; omega)) (by first | exact hw1 | omega) (by omega) (by omega)
      have J38 : ∀ (o3_38 : Option Value), ((-2147483648) ≤ x1 ∧ x1 ≤ 2147483647) → ((-2147483648) ≤ x2 ∧ x2 ≤ 2147483647) → (0 ≤ xL4_5 ∧ xL4_5 ≤ 17) → (0 ≤ xL3_5 ∧ xL3_5 ≤ 18) → (pf_i (pr_c (pv_aI h a0)) (xL4_5).toNat x1 x2 = 0) → (xL4_5 < pv_aI h a0 (1 : Int).toNat) → pv_T K 204 38 (pv_fl [some (.ref a0), some (.int (pv_I x1)), some (.int (pv_I x2)), o3_38, some (.int (pv_I xL4_5))]) [.int (pv_I xL3_5)] h (Q204fF τ ρ h a0 x1 x2) := by
        intro o3_38 rL1_38 rL2_38 rL4_38 rS0_38 i0_38 i1_38
        refine pw_iconst d204_38 ?_
        exact J39 (0) _ (by omega) (by omega) (by omega) (by omega) (by omega) (by first | exact i0_38.symm | exact mi_1 pz18_0 pz28_0 c21 c31) (by omega)
      refine pw_iload d204_5 rfl ?_
      refine pw_aload_n d204_7 rfl ?_
      refine pw_iconst d204_8 ?_
      refine pw_ialdB d204_9 hT hA0 rfl rfl (by omega) (by omega) (fun u9 => ?_)
      have u9 : pv_wok ((1 : Int)) (pv_aI h a0 ((1 : Int)).toNat) := u9
      have vu9 := u9.2.2.1 (by omega)
      refine pw_icmp_ge d204_10 rfl (by omega) (by omega) (fun c10 => ?_) (fun c10 => ?_)
      · refine pw_iload_n d204_47 rfl ?_
        exact pw_ireturn d204_48 tt204 ⟨rfl, xL3_5, rfl, (by omega), (by omega), (by show _ = pd_sum (pv_aI h a0 (1 : Int).toNat).toNat _; rw [show (pv_aI h a0 (1 : Int).toNat).toNat = (xL4_5).toNat by omega]; exact i0_5)⟩
      · refine pw_iload_n d204_13 rfl ?_
        refine pw_aload_n d204_14 rfl ?_
        refine pw_iload d204_15 rfl ?_
        refine pw_iload_n d204_17 rfl ?_
        refine pw_callS3 d204_18 k204_156 rfl rfl (ct205fF (τ := τ) (ρ := ρ) hT hA0 (by omega) (by omega)) (fun r18 h18 q18 => ?_)
        obtain ⟨eh18, z18, ez18, lz18, uz18, pz18_0⟩ := q18
        subst eh18
        subst ez18
        refine pw_if_eq d204_21 rfl (by omega) (fun c21 => ?_) (fun c21 => ?_)
        · exact J38 _ (by omega) (by omega) (by omega) (by omega) (by first | exact mi_2 pz18_0 c21 | exact mi_3 pz28_0 c31) (by omega)
        · refine pw_aload_n d204_24 rfl ?_
          refine pw_iload d204_25 rfl ?_
          refine pw_iload_n d204_27 rfl ?_
          refine pw_callS3 d204_28 k204_156 rfl rfl (ct205fF (τ := τ) (ρ := ρ) hT hA0 (by omega) (by omega)) (fun r28 h28 q28 => ?_)
          obtain ⟨eh28, z28, ez28, lz28, uz28, pz28_0⟩ := q28
          subst eh28
          subst ez28
          refine pw_if_eq d204_31 rfl (by omega) (fun c31 => ?_) (fun c31 => ?_)
          · exact J38 _ (by omega) (by omega) (by omega) (by omega) (by first | exact mi_2 pz18_0 c21 | exact mi_3 pz28_0 c31) (by omega)
          · refine pw_iconst d204_34 ?_
            refine pw_goto d204_35 rfl ?_
            exact J39 (1) _ (by omega) (by omega) (by omega) (by omega) (by omega) (by first | exact i0_38.symm | exact mi_1 pz18_0 pz28_0 c21 c31) (by omega)
  have hw1 : 0 ≤ pv_aI h a0 (1 : Int).toNat := (hT.wc hA0 (j := 1) rfl (by decide)).2.2.1 (by decide) |>.1
  refine pw_iconst d204_0 ?_
  refine pw_istore_n d204_1 m204 rfl rfl ?_
  refine pw_iconst d204_2 ?_
  refine pw_istore d204_3 m204 rfl rfl ?_
  exact L5 _ (0) (0) (by omega) (by omega) (by omega) (by omega) (by first | rfl | (rw [pd_sum_S (by omega)]; omega)) (by first | exact hw1 | omega) (by omega) (pv_mu _)

abbrev Q218F (τ : Nat → Option Nat) (ρ : Nat → Nat → Nat) (h : pv_H) (a0 : Nat) (x1 : Int) (x2 : Int) : Option Value → pv_H → Prop := fun r h' => h = h' ∧ ∃ z : Int, r = some (.int (pv_I z)) ∧ 0 ≤ z ∧ z ≤ 18 ∧ (z = pr_m (pv_aI h (ρ a0 1)) x1 x2)
set_option maxHeartbeats 4000000 in
set_option maxRecDepth 20000 in
/-- AngleNetModel.many(II)I -/
theorem ct218F {τ : Nat → Option Nat} {ρ : Nat → Nat → Nat} {K : Nat → Nat} {h : pv_H} {a0 : Nat} {x1 : Int} {x2 : Int} (hT : pv_Ty τ ρ h) (hA0 : τ a0 = some 7) (hX1 : (-2147483648) ≤ x1 ∧ x1 ≤ 2147483647) (hX2 : (-2147483648) ≤ x2 ∧ x2 ≤ 2147483647) : pv_C K 218 [.ref a0, .int (pv_I x1), .int (pv_I x2)] h (Q218F τ ρ h a0 x1 x2) := by
  refine pw_entry 0 ?_
  show pv_T K 218 0 (pv_fl [some (.ref a0), some (.int (pv_I x1)), some (.int (pv_I x2))]) [] h (Q218F τ ρ h a0 x1 x2)
  refine pw_aload_n d218_0 rfl ?_
  refine pw_getR d218_1 g218_9 hT hA0 rfl rfl (fun t1 => ?_)
  have t1 : τ (ρ a0 1) = some 40 := t1
  refine pw_iload_n d218_4 rfl ?_
  refine pw_iload_n d218_5 rfl ?_
  refine pw_callS3 d218_6 k218_166 rfl rfl (ct204wF (τ := τ) (ρ := ρ) hT t1 (by omega) (by omega)) (fun r6 h6 q6 => ?_)
  obtain ⟨eh6, z6, ez6, lz6, uz6, pz6_0⟩ := q6
  subst eh6
  subst ez6
  exact pw_ireturn d218_9 tt218 ⟨rfl, z6, rfl, (by omega), (by omega), (by exact pz6_0)⟩

abbrev Q217F (τ : Nat → Option Nat) (ρ : Nat → Nat → Nat) (h : pv_H) (a0 : Nat) (x1 : Int) (x2 : Int) : Option Value → pv_H → Prop := fun r h' => h = h' ∧ ∃ z : Int, r = some (.int (pv_I z)) ∧ 0 ≤ z ∧ z ≤ 1 ∧ ((z = 1 ∧ pr_s (pv_aI h (ρ a0 1)) x1 x2) ∨ (z = 0 ∧ ¬ pr_s (pv_aI h (ρ a0 1)) x1 x2))
set_option maxHeartbeats 4000000 in
set_option maxRecDepth 20000 in
/-- AngleNetModel.isSide(II)Z -/
theorem ct217F {τ : Nat → Option Nat} {ρ : Nat → Nat → Nat} {K : Nat → Nat} {h : pv_H} {a0 : Nat} {x1 : Int} {x2 : Int} (hT : pv_Ty τ ρ h) (hA0 : τ a0 = some 7) (hX1 : (-2147483648) ≤ x1 ∧ x1 ≤ 2147483647) (hX2 : (-2147483648) ≤ x2 ∧ x2 ≤ 2147483647) : pv_C K 217 [.ref a0, .int (pv_I x1), .int (pv_I x2)] h (Q217F τ ρ h a0 x1 x2) := by
  refine pw_entry 0 ?_
  show pv_T K 217 0 (pv_fl [some (.ref a0), some (.int (pv_I x1)), some (.int (pv_I x2))]) [] h (Q217F τ ρ h a0 x1 x2)
  refine pw_iload_n d217_0 rfl ?_
  refine pw_iload_n d217_1 rfl ?_
  refine pw_icmp_eq d217_2 rfl (by omega) (by omega) (fun c2 => ?_) (fun c2 => ?_)
  · refine pw_iconst d217_18 ?_
    exact pw_zreturn d217_19 tt217 (by omega) ⟨rfl, 0, rfl, (by omega), (by omega), (by first | exact Or.inl ⟨rfl, by omega, by omega⟩ | exact Or.inr ⟨rfl, fun q => by have := q.1; have := q.2; omega⟩)⟩
  · refine pw_aload_n d217_5 rfl ?_
    refine pw_iload_n d217_6 rfl ?_
    refine pw_iload_n d217_7 rfl ?_
    refine pw_callV2 d217_8 k217_214 hT hA0 rfl rfl rfl (ct218F (τ := τ) (ρ := ρ) hT hA0 (by omega) (by omega)) (fun r8 h8 q8 => ?_)
    obtain ⟨eh8, z8, ez8, lz8, uz8, pz8_0⟩ := q8
    subst eh8
    subst ez8
    refine pw_if_le d217_11 rfl (by omega) (fun c11 => ?_) (fun c11 => ?_)
    · refine pw_iconst d217_18 ?_
      exact pw_zreturn d217_19 tt217 (by omega) ⟨rfl, 0, rfl, (by omega), (by omega), (by first | exact Or.inl ⟨rfl, by omega, by omega⟩ | exact Or.inr ⟨rfl, fun q => by have := q.1; have := q.2; omega⟩)⟩
    · refine pw_iconst d217_14 ?_
      refine pw_goto d217_15 rfl ?_
      exact pw_zreturn d217_19 tt217 (by omega) ⟨rfl, 1, rfl, (by omega), (by omega), (by first | exact Or.inl ⟨rfl, by omega, by omega⟩ | exact Or.inr ⟨rfl, fun q => by have := q.1; have := q.2; omega⟩)⟩

abbrev Q226F (τ : Nat → Option Nat) (ρ : Nat → Nat → Nat) (h : pv_H) (a0 : Nat) : Option Value → pv_H → Prop := fun r h' => h = h' ∧ ∃ z : Int, r = some (.int (pv_I z)) ∧ 0 ≤ z ∧ z ≤ 1023 ∧ (∀ x : Nat, x < 10 → (pb z x = true ↔ pr_u (pv_aI h (ρ a0 1)) x))
set_option maxHeartbeats 4000000 in
set_option maxRecDepth 20000 in
/-- AngleNetModel.used()I -/
theorem ct226F {τ : Nat → Option Nat} {ρ : Nat → Nat → Nat} {K : Nat → Nat} {h : pv_H} {a0 : Nat} (hT : pv_Ty τ ρ h) (hA0 : τ a0 = some 7) : pv_C K 226 [.ref a0] h (Q226F τ ρ h a0) := by
  refine pw_entry 2 ?_
  show pv_T K 226 0 (pv_fl [some (.ref a0), none, none]) [] h (Q226F τ ρ h a0)
  have hR0_1 : τ (ρ a0 1) = some 40 := hT.rf (t' := 40) hA0 rfl rfl
  have L4 : ∀ (nn : Nat) (xL1_4 xL2_4 : Int), (0 ≤ xL1_4 ∧ xL1_4 ≤ 1023) → (0 ≤ xL2_4 ∧ xL2_4 ≤ 18) → (∀ x : Nat, x < 10 → (pb xL1_4 x = true ↔ ∃ t, t < (xL2_4).toNat ∧ pf_has (pr_c (pv_aI h (ρ a0 1))) t x)) → (xL2_4 ≤ pv_aI h (ρ a0 1) (1 : Int).toNat) → 18 - xL2_4 < nn → pv_T K 226 4 (pv_fl [some (.ref a0), some (.int (pv_I xL1_4)), some (.int (pv_I xL2_4))]) [] h (Q226F τ ρ h a0) := by
    intro nn
    induction nn with
    | zero => intro xL1_4 xL2_4 rL1_4 rL2_4 i0_4 i1_4 hm; exfalso; omega
    | succ nn ih4 =>
      intro xL1_4 xL2_4 rL1_4 rL2_4 i0_4 i1_4 hm4
      refine pw_iload_n d226_4 rfl ?_
      refine pw_aload_n d226_5 rfl ?_
      refine pw_callV0 d226_6 k226_216 hT hA0 rfl rfl rfl (ct216 (τ := τ) (ρ := ρ) hT hA0) (fun r6 h6 q6 => ?_)
      obtain ⟨eh6, z6, ez6, lz6, uz6, pz6_0⟩ := q6
      subst eh6
      subst ez6
      refine pw_icmp_ge d226_9 rfl (by omega) (by omega) (fun c9 => ?_) (fun c9 => ?_)
      · refine pw_iload_n d226_47 rfl ?_
        exact pw_ireturn d226_48 tt226 ⟨rfl, xL1_4, rfl, (by omega), (by omega), (by intro x hx; rw [i0_4 x hx]; unfold pr_u; rw [show pr_n (pv_aI h (ρ a0 1)) = (xL2_4).toNat from (show (pv_aI h (ρ a0 1) (1 : Int).toNat).toNat = _ by omega)])⟩
      · refine pw_iload_n d226_12 rfl ?_
        refine pw_iconst d226_13 ?_
        refine pw_aload_n d226_14 rfl ?_
        refine pw_iload_n d226_15 rfl ?_
        refine pw_iconst d226_16 ?_
        refine pw_callV2 d226_17 k226_219 hT hA0 rfl rfl rfl (ct212 (τ := τ) (ρ := ρ) hT hA0 (by omega) (by omega)) (fun r17 h17 q17 => ?_)
        obtain ⟨eh17, z17, ez17, lz17, uz17, pz17_0, pz17_1⟩ := q17
        subst eh17
        subst ez17
        refine pw_ishl d226_20 (fun z20 hz20 ez20 => ?_)
        have bz20 := pv_shl1_b (n := 9) (m := 512) (y := z17) (by omega) (by omega) (by decide) (by decide) hz20 ez20
        refine pw_iconst d226_21 ?_
        refine pw_aload_n d226_22 rfl ?_
        refine pw_iload_n d226_23 rfl ?_
        refine pw_iconst d226_24 ?_
        refine pw_callV2 d226_25 k226_219 hT hA0 rfl rfl rfl (ct212 (τ := τ) (ρ := ρ) hT hA0 (by omega) (by omega)) (fun r25 h25 q25 => ?_)
        obtain ⟨eh25, z25, ez25, lz25, uz25, pz25_0, pz25_1⟩ := q25
        subst eh25
        subst ez25
        refine pw_ishl d226_28 (fun z28 hz28 ez28 => ?_)
        have bz28 := pv_shl1_b (n := 9) (m := 512) (y := z25) (by omega) (by omega) (by decide) (by decide) hz28 ez28
        refine pw_ior d226_29 (fun z29 hz29 ez29 => ?_)
        have bz29 := pv_or_b (n := 10) (m := 1024) (x := z20) (y := z28) (by omega) (by omega) (by omega) (by omega) (by decide) (by decide) hz29 ez29
        refine pw_iconst d226_30 ?_
        refine pw_aload_n d226_31 rfl ?_
        refine pw_iload_n d226_32 rfl ?_
        refine pw_iconst d226_33 ?_
        refine pw_callV2 d226_34 k226_219 hT hA0 rfl rfl rfl (ct212 (τ := τ) (ρ := ρ) hT hA0 (by omega) (by omega)) (fun r34 h34 q34 => ?_)
        obtain ⟨eh34, z34, ez34, lz34, uz34, pz34_0, pz34_1⟩ := q34
        subst eh34
        subst ez34
        refine pw_ishl d226_37 (fun z37 hz37 ez37 => ?_)
        have bz37 := pv_shl1_b (n := 9) (m := 512) (y := z34) (by omega) (by omega) (by decide) (by decide) hz37 ez37
        refine pw_ior d226_38 (fun z38 hz38 ez38 => ?_)
        have bz38 := pv_or_b (n := 10) (m := 1024) (x := z29) (y := z37) (by omega) (by omega) (by omega) (by omega) (by decide) (by decide) hz38 ez38
        refine pw_ior d226_39 (fun z39 hz39 ez39 => ?_)
        have bz39 := pv_or_b (n := 10) (m := 1024) (x := xL1_4) (y := z38) (by omega) (by omega) (by omega) (by omega) (by decide) (by decide) hz39 ez39
        refine pw_istore_n d226_40 m226 rfl rfl ?_
        refine pw_iinc d226_41 m226 rfl rfl rfl ?_
        refine pw_goto d226_44 rfl ?_
        exact ih4 (z39) ((xL2_4 + 1)) (by omega) (by omega) (by first | exact pu_step0 | exact pu_step (by omega) (by omega) (by omega) (by omega) pz17_0 pz25_0 pz34_0 hz20 hz28 hz37 ez20 ez28 ez29 ez37 ez38 ez39 i0_4) (by first | exact hw1 | omega) (by omega)
  have hw1 : 0 ≤ pv_aI h (ρ a0 1) (1 : Int).toNat := (hT.wc hR0_1 (j := 1) rfl (by decide)).2.2.1 (by decide) |>.1
  refine pw_iconst d226_0 ?_
  refine pw_istore_n d226_1 m226 rfl rfl ?_
  refine pw_iconst d226_2 ?_
  refine pw_istore_n d226_3 m226 rfl rfl ?_
  exact L4 _ (0) (0) (by omega) (by omega) (by first | exact pu_step0 | exact pu_step (by omega) (by omega) (by omega) (by omega) pz17_0 pz25_0 pz34_0 hz20 hz28 hz37 ez20 ez28 ez29 ez37 ez38 ez39 i0_4) (by first | exact hw1 | omega) (pv_mu _)
