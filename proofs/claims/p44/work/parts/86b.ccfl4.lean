abbrev Q128 (τ : Nat → Option Nat) (ρ : Nat → Nat → Nat) (h : pv_H) (a0 : Nat) : Option Value → pv_H → Prop := fun r h' => h = h' ∧ ∃ z : Int, r = some (.int (pv_I z)) ∧ (-1) ≤ z ∧ z ≤ 99 ∧ (z = -1 ∨ (0 ≤ z ∧ z ≤ 99 ∧ z / 10 ≠ z % 10))
set_option maxHeartbeats 4000000 in
set_option maxRecDepth 20000 in
/-- AngleNet$Flips.firstIllegal(LAngleNet$Net;)I -/
theorem ct128 {τ : Nat → Option Nat} {ρ : Nat → Nat → Nat} {K : Nat → Nat} {h : pv_H} {a0 : Nat} (hT : pv_Ty τ ρ h) (hA0 : τ a0 = some 2) (hP0 : nk_ok h ρ a0) : pv_C K 128 [.ref a0] h (Q128 τ ρ h a0) := by
  refine pw_entry 2 ?_
  show pv_T K 128 0 (pv_fl [some (.ref a0), none, none]) [] h (Q128 τ ρ h a0)
  have L2 : ∀ (nn : Nat) (xL1_2 : Int) (o2_2 : Option Value), (0 ≤ xL1_2 ∧ xL1_2 ≤ 10) → 10 - xL1_2 < nn → pv_T K 128 2 (pv_fl [some (.ref a0), some (.int (pv_I xL1_2)), o2_2]) [] h (Q128 τ ρ h a0) := by
    intro nn
    induction nn with
    | zero => intro xL1_2 o2_2 rL1_2 hm; exfalso; omega
    | succ nn ih2 =>
      intro xL1_2 o2_2 rL1_2 hm2
      have L14 : ∀ (nn : Nat) (xL2_14 : Int), (0 ≤ xL1_2 ∧ xL1_2 ≤ 9) → (1 ≤ xL2_14 ∧ xL2_14 ≤ 10) → 10 - xL2_14 < nn → pv_T K 128 14 (pv_fl [some (.ref a0), some (.int (pv_I xL1_2)), some (.int (pv_I xL2_14))]) [] h (Q128 τ ρ h a0) := by
        intro nn
        induction nn with
        | zero => intro xL2_14 rL1_14 rL2_14 hm; exfalso; omega
        | succ nn ih14 =>
          intro xL2_14 rL1_14 rL2_14 hm14
          have J49 : ∀ (_ : Unit), (0 ≤ xL1_2 ∧ xL1_2 ≤ 9) → (1 ≤ xL2_14 ∧ xL2_14 ≤ 9) → pv_T K 128 49 (pv_fl [some (.ref a0), some (.int (pv_I xL1_2)), some (.int (pv_I xL2_14))]) [] h (Q128 τ ρ h a0) := by
            intro _ rL1_49 rL2_49
            refine pw_iinc d128_49 m128 rfl rfl rfl ?_
            refine pw_goto d128_52 rfl ?_
            exact ih14 ((xL2_14 + 1)) (by omega) (by omega) (by omega)
          refine pw_iload_n d128_14 rfl ?_
          refine pw_aload_n d128_15 rfl ?_
          refine pw_getI d128_16 g128_59 hT hA0 rfl rfl (fun u16 vu16 => ?_)
          refine pw_icmp_ge d128_19 rfl (by omega) (by omega) (fun c19 => ?_) (fun c19 => ?_)
          · refine pw_iinc d128_55 m128 rfl rfl rfl ?_
            refine pw_goto d128_58 rfl ?_
            exact ih2 ((xL1_2 + 1)) _ (by omega) (by omega)
          · refine pw_aload_n d128_22 rfl ?_
            refine pw_iload_n d128_23 rfl ?_
            refine pw_iload_n d128_24 rfl ?_
            refine pw_callV2 d128_25 k128_18 hT hA0 rfl rfl rfl (ct47F (τ := τ) (ρ := ρ) hT hA0 (by omega) (by omega)) (fun r25 h25 q25 => ?_)
            obtain ⟨eh25, z25, ez25, lz25, uz25, pz25_0, pz25_1⟩ := q25
            subst eh25
            subst ez25
            refine pw_if_eq d128_28 rfl (by omega) (fun c28 => ?_) (fun c28 => ?_)
            · exact J49 () (by omega) (by omega)
            · refine pw_aload_n d128_31 rfl ?_
              refine pw_iload_n d128_32 rfl ?_
              refine pw_iload_n d128_33 rfl ?_
              refine pw_callS3 d128_34 k128_63 rfl rfl (ct119 (τ := τ) (ρ := ρ) hT hA0 (by omega) (by omega) (by first | assumption | omega) (by first | assumption | omega)) (fun r34 h34 q34 => ?_)
              obtain ⟨eh34, z34, ez34, lz34, uz34⟩ := q34
              subst eh34
              subst ez34
              refine pw_iconst d128_37 ?_
              refine pw_iand d128_38 (fun z38 hz38 ez38 => ?_)
              refine pw_if_eq d128_39 rfl (by omega) (fun c39 => ?_) (fun c39 => ?_)
              · exact J49 () (by omega) (by omega)
              · refine pw_bipush d128_42 (by decide) ?_
                refine pw_iload_n d128_44 rfl ?_
                refine pw_imul d128_45 ?_
                refine pw_iload_n d128_46 rfl ?_
                refine pw_iadd d128_47 ?_
                exact pw_ireturn d128_48 tt128 ⟨rfl, ((10 * xL1_2) + xL2_14), rfl, (by omega), (by omega), (by omega)⟩
      refine pw_iload_n d128_2 rfl ?_
      refine pw_aload_n d128_3 rfl ?_
      refine pw_getI d128_4 g128_59 hT hA0 rfl rfl (fun u4 vu4 => ?_)
      refine pw_icmp_ge d128_7 rfl (by omega) (by omega) (fun c7 => ?_) (fun c7 => ?_)
      · refine pw_iconst d128_61 ?_
        exact pw_ireturn d128_62 tt128 ⟨rfl, (-1), rfl, (by omega), (by omega), (by omega)⟩
      · refine pw_iload_n d128_10 rfl ?_
        refine pw_iconst d128_11 ?_
        refine pw_iadd d128_12 ?_
        refine pw_istore_n d128_13 m128 rfl rfl ?_
        exact L14 _ ((xL1_2 + 1)) (by omega) (by omega) (pv_mu _)
  refine pw_iconst d128_0 ?_
  refine pw_istore_n d128_1 m128 rfl rfl ?_
  exact L2 _ (0) _ (by omega) (pv_mu _)

abbrev Q118 (τ : Nat → Option Nat) (ρ : Nat → Nat → Nat) (h : pv_H) (a0 : Nat) (x1 : Int) (x2 : Int) : Option Value → pv_H → Prop := fun r h' => h = h' ∧ ∃ z : Int, r = some (.int (pv_I z)) ∧ (-2) ≤ z ∧ z ≤ 7
set_option maxHeartbeats 4000000 in
set_option maxRecDepth 20000 in
/-- AngleNet.may(II)I -/
theorem ct118 {τ : Nat → Option Nat} {ρ : Nat → Nat → Nat} {K : Nat → Nat} {h : pv_H} {a0 : Nat} {x1 : Int} {x2 : Int} (hT : pv_Ty τ ρ h) (hA0 : τ a0 = some 0) (hX1 : (-2147483648) ≤ x1 ∧ x1 ≤ 2147483647) (hX2 : (-2147483648) ≤ x2 ∧ x2 ≤ 2147483647) (hP0 : nk_ok h ρ (ρ a0 1)) : pv_C K 118 [.ref a0, .int (pv_I x1), .int (pv_I x2)] h (Q118 τ ρ h a0 x1 x2) := by
  refine pw_entry 0 ?_
  show pv_T K 118 0 (pv_fl [some (.ref a0), some (.int (pv_I x1)), some (.int (pv_I x2))]) [] h (Q118 τ ρ h a0 x1 x2)
  refine pw_aload_n d118_0 rfl ?_
  refine pw_getR d118_1 g118_19 hT hA0 rfl rfl (fun t1 => ?_)
  have t1 : τ (ρ a0 1) = some 2 := t1
  refine pw_iload_n d118_4 rfl ?_
  refine pw_iload_n d118_5 rfl ?_
  refine pw_callV2 d118_6 k118_194 hT t1 rfl rfl rfl (ct47F (τ := τ) (ρ := ρ) hT t1 (by omega) (by omega)) (fun r6 h6 q6 => ?_)
  obtain ⟨eh6, z6, ez6, lz6, uz6, pz6_0, pz6_1⟩ := q6
  subst eh6
  subst ez6
  refine pw_if_ne d118_9 rfl (by omega) (fun c9 => ?_) (fun c9 => ?_)
  · refine pw_aload_n d118_15 rfl ?_
    refine pw_getR d118_16 g118_19 hT hA0 rfl rfl (fun t16 => ?_)
    have t16 : τ (ρ a0 1) = some 2 := t16
    refine pw_iload_n d118_19 rfl ?_
    refine pw_iload_n d118_20 rfl ?_
    refine pw_callS3 d118_21 k118_198 rfl rfl (ct119 (τ := τ) (ρ := ρ) hT t16 (by omega) (by omega) (by first | assumption | omega) (by first | assumption | omega)) (fun r21 h21 q21 => ?_)
    obtain ⟨eh21, z21, ez21, lz21, uz21⟩ := q21
    subst eh21
    subst ez21
    exact pw_ireturn d118_24 tt118 ⟨rfl, z21, rfl, (by omega), (by omega)⟩
  · refine pw_bipush d118_12 (by decide) ?_
    exact pw_ireturn d118_14 tt118 ⟨rfl, (-2), rfl, (by omega), (by omega)⟩

abbrev Q127 (τ : Nat → Option Nat) (ρ : Nat → Nat → Nat) (h : pv_H) (a0 : Nat) : Option Value → pv_H → Prop := fun r h' => h = h' ∧ ∃ z : Int, r = some (.int (pv_I z)) ∧ (-2) ≤ z ∧ z ≤ 99
set_option maxHeartbeats 4000000 in
set_option maxRecDepth 20000 in
/-- AngleNet.illegal()I -/
theorem ct127 {τ : Nat → Option Nat} {ρ : Nat → Nat → Nat} {K : Nat → Nat} {h : pv_H} {a0 : Nat} (hT : pv_Ty τ ρ h) (hA0 : τ a0 = some 0) (hP0 : nk_ok h ρ (ρ a0 1)) : pv_C K 127 [.ref a0] h (Q127 τ ρ h a0) := by
  refine pw_entry 0 ?_
  show pv_T K 127 0 (pv_fl [some (.ref a0)]) [] h (Q127 τ ρ h a0)
  refine pw_aload_n d127_0 rfl ?_
  refine pw_getR d127_1 g127_19 hT hA0 rfl rfl (fun t1 => ?_)
  have t1 : τ (ρ a0 1) = some 2 := t1
  refine pw_callV0 d127_4 k127_129 hT t1 rfl rfl rfl (ct64 (τ := τ) (ρ := ρ) hT t1) (fun r4 h4 q4 => ?_)
  obtain ⟨eh4, z4, ez4, lz4, uz4⟩ := q4
  subst eh4
  subst ez4
  refine pw_if_ne d127_7 rfl (by omega) (fun c7 => ?_) (fun c7 => ?_)
  · refine pw_aload_n d127_13 rfl ?_
    refine pw_getR d127_14 g127_19 hT hA0 rfl rfl (fun t14 => ?_)
    have t14 : τ (ρ a0 1) = some 2 := t14
    refine pw_callS1 d127_17 k127_220 rfl rfl (ct128 (τ := τ) (ρ := ρ) hT t14 (by first | assumption | omega)) (fun r17 h17 q17 => ?_)
    obtain ⟨eh17, z17, ez17, lz17, uz17, pz17_0⟩ := q17
    subst eh17
    subst ez17
    exact pw_ireturn d127_20 tt127 ⟨rfl, z17, rfl, (by omega), (by omega)⟩
  · refine pw_bipush d127_10 (by decide) ?_
    exact pw_ireturn d127_12 tt127 ⟨rfl, (-2), rfl, (by omega), (by omega)⟩
