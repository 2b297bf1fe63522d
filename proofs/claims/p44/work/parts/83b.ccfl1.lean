abbrev Q257F (τ : Nat → Option Nat) (ρ : Nat → Nat → Nat) (h : pv_H) (a0 : Nat) (x1 : Int) (x2 : Int) : Option Value → pv_H → Prop := fun r h' => pv_Ty τ ρ h' ∧ pv_Fr τ [2623] h h' ∧ ∃ z : Int, r = some (.int (pv_I z)) ∧ (-2) ≤ z ∧ z ≤ 9999 ∧ (pw_ok (pv_aI h (ρ a0 1)) → pw_ok (pv_aI h' (ρ a0 1)))
set_option maxHeartbeats 4000000 in
set_option maxRecDepth 20000 in
/-- AngleNetModel.tells(II)I -/
theorem ct257F {τ : Nat → Option Nat} {ρ : Nat → Nat → Nat} {K : Nat → Nat} {h : pv_H} {a0 : Nat} {x1 : Int} {x2 : Int} (hT : pv_Ty τ ρ h) (hA0 : τ a0 = some 7) (hX1 : (-2147483648) ≤ x1 ∧ x1 ≤ 2147483647) (hX2 : (-2147483648) ≤ x2 ∧ x2 ≤ 2147483647) : pv_C K 257 [.ref a0, .int (pv_I x1), .int (pv_I x2)] h (Q257F τ ρ h a0 x1 x2) := by
  refine pw_entry 1 ?_
  show pv_T K 257 0 (pv_fl [some (.ref a0), some (.int (pv_I x1)), some (.int (pv_I x2)), none]) [] h (Q257F τ ρ h a0 x1 x2)
  have hR0_1 : τ (ρ a0 1) = some 40 := hT.rf (t' := 40) hA0 rfl rfl
  have hF0 : pv_Fr τ [2623] h h := pv_Fr.rf
  have J51 : ∀ (xL3_51 xS0_51 xS1_51 : Int) (o0_51 o1_51 o2_51 : Option Value), ((-1) ≤ xL3_51 ∧ xL3_51 ≤ 9999) → ((-1) ≤ xS0_51 ∧ xS0_51 ≤ 3600) → (80 ≤ xS1_51 ∧ xS1_51 ≤ 116) → (80 ≤ xS1_51 ∧ xS1_51 < 120) → pv_T K 257 51 (pv_fl [o0_51, o1_51, o2_51, some (.int (pv_I xL3_51))]) [.int (pv_I xS0_51), .int (pv_I xS1_51), .ref (ρ a0 1)] h (Q257F τ ρ h a0 x1 x2) := by
    intro xL3_51 xS0_51 xS1_51 o0_51 o1_51 o2_51 rL3_51 rS0_51 rS1_51 i0_51
    refine pw_iastB d257_51 hT hR0_1 rfl rfl rfl (by omega) (by omega) (by omega) (by show pv_wok _ _; unfold pv_wok; omega) (fun h51 T51 F51 E51 => ?_)
    have f51 := hF0.tr (F51.up (by decide))
    refine pw_iload_n d257_52 rfl ?_
    exact pw_ireturn d257_53 tt257 ⟨T51, f51, xL3_51, rfl, (by omega), (by omega), (by first | exact id | exact pw_ok.wr (pe_at E51) (by omega) ((hT.wc hR0_1 (j := 1) rfl (by decide)).2.2.1 (by decide) |>.2))⟩
  refine pw_aload_n d257_0 rfl ?_
  refine pw_iload_n d257_1 rfl ?_
  refine pw_callV1 d257_2 k257_77 hT hA0 rfl rfl rfl (ct214 (τ := τ) (ρ := ρ) hT hA0 (by omega)) (fun r2 h2 q2 => ?_)
  obtain ⟨eh2, z2, ez2, lz2, uz2, pz2_0⟩ := q2
  subst eh2
  subst ez2
  refine pw_if_eq d257_5 rfl (by omega) (fun c5 => ?_) (fun c5 => ?_)
  · refine pw_bipush d257_20 (by decide) ?_
    exact pw_ireturn d257_22 tt257 ⟨hT, hF0, (-2), rfl, (by omega), (by omega), (by first | exact id | exact pw_ok.wr (pe_at E51) (by omega) ((hT.wc hR0_1 (j := 1) rfl (by decide)).2.2.1 (by decide) |>.2))⟩
  · refine pw_iload_n d257_8 rfl ?_
    refine pw_i2l d257_9 (by omega) ?_
    refine pw_lconst (z := 0) d257_10 (by decide) ?_
    refine pw_ldc2 (v := pv_J 3600) d257_11 n257_11 ?_
    refine pw_callS3 d257_14 k257_73 rfl rfl (ct184 (τ := τ) (ρ := ρ) (by omega) (by omega) (by omega)) (fun r14 h14 q14 => ?_)
    obtain ⟨eh14, z14, ez14, lz14, uz14, pz14_0⟩ := q14
    subst eh14
    subst ez14
    refine pw_if_ne d257_17 rfl (by omega) (fun c17 => ?_) (fun c17 => ?_)
    · refine pw_aload_n d257_23 rfl ?_
      refine pw_iload_n d257_24 rfl ?_
      refine pw_iconst d257_25 ?_
      refine pw_callV2 d257_26 k257_232 hT hA0 rfl rfl rfl (ct215 (τ := τ) (ρ := ρ) hT hA0 (by omega) (by omega)) (fun r26 h26 q26 => ?_)
      obtain ⟨eh26, z26, ez26, lz26, uz26, pz26_0⟩ := q26
      subst eh26
      subst ez26
      refine pw_istore_n d257_29 m257 rfl rfl ?_
      refine pw_aload_n d257_30 rfl ?_
      refine pw_getR d257_31 g257_9 hT hA0 rfl rfl (fun t31 => ?_)
      have t31 : τ (ρ a0 1) = some 40 := t31
      refine pw_bipush d257_34 (by decide) ?_
      refine pw_iconst d257_36 ?_
      refine pw_iload_n d257_37 rfl ?_
      refine pw_imul d257_38 ?_
      refine pw_iadd d257_39 ?_
      refine pw_iconst d257_40 ?_
      refine pw_iadd d257_41 ?_
      refine pw_iload_n d257_42 rfl ?_
      refine pw_if_ne d257_43 rfl (by omega) (fun c43 => ?_) (fun c43 => ?_)
      · refine pw_iload_n d257_50 rfl ?_
        exact J51 (z26) (x2) (((80 + (4 * x1)) + 0)) _ _ _ (by omega) (by omega) (by omega) (by omega)
      · refine pw_iconst d257_46 ?_
        refine pw_goto d257_47 rfl ?_
        exact J51 (z26) ((-1)) (((80 + (4 * x1)) + 0)) _ _ _ (by omega) (by omega) (by omega) (by omega)
    · refine pw_bipush d257_20 (by decide) ?_
      exact pw_ireturn d257_22 tt257 ⟨hT, hF0, (-2), rfl, (by omega), (by omega), (by first | exact id | exact pw_ok.wr (pe_at E51) (by omega) ((hT.wc hR0_1 (j := 1) rfl (by decide)).2.2.1 (by decide) |>.2))⟩

abbrev Q282F (τ : Nat → Option Nat) (ρ : Nat → Nat → Nat) (h : pv_H) (a0 : Nat) (x1 : Int) (x2 : Int) (x3 : Int) : Option Value → pv_H → Prop := fun r h' => pv_Ty τ ρ h' ∧ pv_Fr τ [2623] h h' ∧ ∃ z : Int, r = some (.int (pv_I z)) ∧ (-2147483648) ≤ z ∧ z ≤ 2147483647 ∧ (pw_ok (pv_aI h (ρ a0 1)) → pw_ok (pv_aI h' (ρ a0 1)))
set_option maxHeartbeats 4000000 in
set_option maxRecDepth 20000 in
/-- AngleNetModel.weigh(III)I -/
theorem ct282F {τ : Nat → Option Nat} {ρ : Nat → Nat → Nat} {K : Nat → Nat} {h : pv_H} {a0 : Nat} {x1 : Int} {x2 : Int} {x3 : Int} (hT : pv_Ty τ ρ h) (hA0 : τ a0 = some 7) (hX1 : (-2147483648) ≤ x1 ∧ x1 ≤ 2147483647) (hX2 : (-2147483648) ≤ x2 ∧ x2 ≤ 2147483647) (hX3 : (-2147483648) ≤ x3 ∧ x3 ≤ 2147483647) : pv_C K 282 [.ref a0, .int (pv_I x1), .int (pv_I x2), .int (pv_I x3)] h (Q282F τ ρ h a0 x1 x2 x3) := by
  refine pw_entry 1 ?_
  show pv_T K 282 0 (pv_fl [some (.ref a0), some (.int (pv_I x1)), some (.int (pv_I x2)), some (.int (pv_I x3)), none]) [] h (Q282F τ ρ h a0 x1 x2 x3)
  have hR0_1 : τ (ρ a0 1) = some 40 := hT.rf (t' := 40) hA0 rfl rfl
  have hF0 : pv_Fr τ [2623] h h := pv_Fr.rf
  refine pw_aload_n d282_0 rfl ?_
  refine pw_iload_n d282_1 rfl ?_
  refine pw_iload_n d282_2 rfl ?_
  refine pw_callV2 d282_3 k282_235 hT hA0 rfl rfl rfl (ct220G (τ := τ) (ρ := ρ) hT hA0 (by omega) (by omega)) (fun r3 h3 q3 => ?_)
  obtain ⟨eh3, z3, ez3, lz3, uz3, pz3_0, pz3_1⟩ := q3
  subst eh3
  subst ez3
  refine pw_if_eq d282_6 rfl (by omega) (fun c6 => ?_) (fun c6 => ?_)
  · refine pw_bipush d282_30 (by decide) ?_
    exact pw_ireturn d282_32 tt282 ⟨hT, hF0, (-2), rfl, (by omega), (by omega), (by first | exact id | exact pw_ok.cg2 (fun j hj => pz45_0 j (by omega)) ((hT.wc hR0_1 (j := 1) rfl (by decide)).2.2.1 (by decide) |>.2))⟩
  · refine pw_aload_n d282_9 rfl ?_
    refine pw_iload_n d282_10 rfl ?_
    refine pw_iload_n d282_11 rfl ?_
    refine pw_callV2 d282_12 k282_221 hT hA0 rfl rfl rfl (ct217F (τ := τ) (ρ := ρ) hT hA0 (by omega) (by omega)) (fun r12 h12 q12 => ?_)
    obtain ⟨eh12, z12, ez12, lz12, uz12, pz12_0⟩ := q12
    subst eh12
    subst ez12
    refine pw_if_eq d282_15 rfl (by omega) (fun c15 => ?_) (fun c15 => ?_)
    · refine pw_bipush d282_30 (by decide) ?_
      exact pw_ireturn d282_32 tt282 ⟨hT, hF0, (-2), rfl, (by omega), (by omega), (by first | exact id | exact pw_ok.cg2 (fun j hj => pz45_0 j (by omega)) ((hT.wc hR0_1 (j := 1) rfl (by decide)).2.2.1 (by decide) |>.2))⟩
    · refine pw_iload_n d282_18 rfl ?_
      refine pw_i2l d282_19 (by omega) ?_
      refine pw_lconst (z := 0) d282_20 (by decide) ?_
      refine pw_ldc2 (v := pv_J 360) d282_21 n282_21 ?_
      refine pw_callS3 d282_24 k282_73 rfl rfl (ct184 (τ := τ) (ρ := ρ) (by omega) (by omega) (by omega)) (fun r24 h24 q24 => ?_)
      obtain ⟨eh24, z24, ez24, lz24, uz24, pz24_0⟩ := q24
      subst eh24
      subst ez24
      refine pw_if_ne d282_27 rfl (by omega) (fun c27 => ?_) (fun c27 => ?_)
      · refine pw_aload_n d282_33 rfl ?_
        refine pw_iload_n d282_34 rfl ?_
        refine pw_iload_n d282_35 rfl ?_
        refine pw_callV2 d282_36 k282_404 hT hA0 rfl rfl rfl (ct283 (τ := τ) (ρ := ρ) hT hA0 (by omega) (by omega)) (fun r36 h36 q36 => ?_)
        obtain ⟨eh36, z36, ez36, lz36, uz36⟩ := q36
        subst eh36
        subst ez36
        refine pw_istore d282_39 m282 rfl rfl ?_
        refine pw_aload_n d282_41 rfl ?_
        refine pw_iload_n d282_42 rfl ?_
        refine pw_iload_n d282_43 rfl ?_
        refine pw_iload_n d282_44 rfl ?_
        refine pw_callV3 d282_45 k282_368 hT hA0 rfl rfl rfl (ct274F (τ := τ) (ρ := ρ) hT hA0 (by omega) (by omega) (by omega)) (fun r45 h45 q45 => ?_)
        obtain ⟨T45, F45, ez45, pz45_0⟩ := q45
        subst ez45
        have f45 := hF0.tr (F45.up (by decide))
        refine pw_iload d282_48 rfl ?_
        exact pw_ireturn d282_50 tt282 ⟨T45, f45, z36, rfl, (by omega), (by omega), (by first | exact id | exact pw_ok.cg2 (fun j hj => pz45_0 j (by omega)) ((hT.wc hR0_1 (j := 1) rfl (by decide)).2.2.1 (by decide) |>.2))⟩
      · refine pw_bipush d282_30 (by decide) ?_
        exact pw_ireturn d282_32 tt282 ⟨hT, hF0, (-2), rfl, (by omega), (by omega), (by first | exact id | exact pw_ok.cg2 (fun j hj => pz45_0 j (by omega)) ((hT.wc hR0_1 (j := 1) rfl (by decide)).2.2.1 (by decide) |>.2))⟩

abbrev Q40F (τ : Nat → Option Nat) (ρ : Nat → Nat → Nat) (h : pv_H) (a0 : Nat) (x1 : Int) : Option Value → pv_H → Prop := fun r h' => h = h' ∧ ∃ z : Int, r = some (.int (pv_I z)) ∧ 0 ≤ z ∧ z ≤ 1023 ∧ (∀ x : Nat, x < 32 → (pb z x = true ↔ pf_has (nk_c h ρ a0) (x1).toNat x))
set_option maxHeartbeats 4000000 in
set_option maxRecDepth 20000 in
/-- AngleNet$Net.postsOf(I)I -/
theorem ct40F {τ : Nat → Option Nat} {ρ : Nat → Nat → Nat} {K : Nat → Nat} {h : pv_H} {a0 : Nat} {x1 : Int} (hT : pv_Ty τ ρ h) (hA0 : τ a0 = some 2) (hX1 : 0 ≤ x1 ∧ x1 ≤ 17) : pv_C K 40 [.ref a0, .int (pv_I x1)] h (Q40F τ ρ h a0 x1) := by
  refine pw_entry 0 ?_
  show pv_T K 40 0 (pv_fl [some (.ref a0), some (.int (pv_I x1))]) [] h (Q40F τ ρ h a0 x1)
  refine pw_iconst d40_0 ?_
  refine pw_aload_n d40_1 rfl ?_
  refine pw_getR d40_2 g40_9 hT hA0 rfl rfl (fun t2 => ?_)
  have t2 : τ (ρ a0 5) = some 20 := t2
  refine pw_iconst d40_5 ?_
  refine pw_iload_n d40_6 rfl ?_
  refine pw_imul d40_7 ?_
  refine pw_iald d40_8 hT t2 rfl rfl (by omega) (by omega) (fun u8 vu8 => ?_)
  refine pw_ishl d40_9 (fun z9 hz9 ez9 => ?_)
  have bz9 := pv_shl1_b (n := 9) (m := 512) (y := (pv_aI h (ρ a0 5) ((3 * x1)).toNat)) (by omega) (by omega) (by decide) (by decide) hz9 ez9
  refine pw_iconst d40_10 ?_
  refine pw_aload_n d40_11 rfl ?_
  refine pw_getR d40_12 g40_9 hT hA0 rfl rfl (fun t12 => ?_)
  have t12 : τ (ρ a0 5) = some 20 := t12
  refine pw_iconst d40_15 ?_
  refine pw_iload_n d40_16 rfl ?_
  refine pw_imul d40_17 ?_
  refine pw_iconst d40_18 ?_
  refine pw_iadd d40_19 ?_
  refine pw_iald d40_20 hT t12 rfl rfl (by omega) (by omega) (fun u20 vu20 => ?_)
  refine pw_ishl d40_21 (fun z21 hz21 ez21 => ?_)
  have bz21 := pv_shl1_b (n := 9) (m := 512) (y := (pv_aI h (ρ a0 5) (((3 * x1) + 1)).toNat)) (by omega) (by omega) (by decide) (by decide) hz21 ez21
  refine pw_ior d40_22 (fun z22 hz22 ez22 => ?_)
  have bz22 := pv_or_b (n := 10) (m := 1024) (x := z9) (y := z21) (by omega) (by omega) (by omega) (by omega) (by decide) (by decide) hz22 ez22
  refine pw_iconst d40_23 ?_
  refine pw_aload_n d40_24 rfl ?_
  refine pw_getR d40_25 g40_9 hT hA0 rfl rfl (fun t25 => ?_)
  have t25 : τ (ρ a0 5) = some 20 := t25
  refine pw_iconst d40_28 ?_
  refine pw_iload_n d40_29 rfl ?_
  refine pw_imul d40_30 ?_
  refine pw_iconst d40_31 ?_
  refine pw_iadd d40_32 ?_
  refine pw_iald d40_33 hT t25 rfl rfl (by omega) (by omega) (fun u33 vu33 => ?_)
  refine pw_ishl d40_34 (fun z34 hz34 ez34 => ?_)
  have bz34 := pv_shl1_b (n := 9) (m := 512) (y := (pv_aI h (ρ a0 5) (((3 * x1) + 2)).toNat)) (by omega) (by omega) (by decide) (by decide) hz34 ez34
  refine pw_ior d40_35 (fun z35 hz35 ez35 => ?_)
  have bz35 := pv_or_b (n := 10) (m := 1024) (x := z22) (y := z34) (by omega) (by omega) (by omega) (by omega) (by decide) (by decide) hz35 ez35
  exact pw_ireturn d40_36 tt40 ⟨rfl, z35, rfl, (by omega), (by omega), (by intro x hx; unfold pf_has nk_c; rw [show 3 * (x1).toNat + 0 = (3 * x1).toNat by omega, show 3 * (x1).toNat + 1 = (3 * x1 + 1).toNat by omega, show 3 * (x1).toNat + 2 = (3 * x1 + 2).toNat by omega]; exact po_bit (by omega) (by omega) (by omega) hz9 hz21 hz34 ez9 ez21 ez22 ez34 ez35 x hx)⟩

abbrev Q88F (τ : Nat → Option Nat) (ρ : Nat → Nat → Nat) (h : pv_H) (a0 : Nat) (x1 : Int) (x2 : Int) (x3 : Int) : Option Value → pv_H → Prop := fun r h' => h = h' ∧ ∃ z : Int, r = some (.int (pv_I z)) ∧ (-1) ≤ z ∧ z ≤ 17 ∧ ((z = -1 ∧ ∀ t : Nat, x3 ≤ (t : Int) → (t : Int) < pv_fI h a0 1 → ¬ pf_on (nk_c h ρ a0) t x1 x2) ∨ (0 ≤ z ∧ x3 ≤ z ∧ z < pv_fI h a0 1 ∧ pf_on (nk_c h ρ a0) (z).toNat x1 x2 ∧ ∀ t : Nat, x3 ≤ (t : Int) → (t : Int) < z → ¬ pf_on (nk_c h ρ a0) t x1 x2))
set_option maxHeartbeats 4000000 in
set_option maxRecDepth 20000 in
/-- AngleNet$Net.thirdOn(III)I -/
theorem ct88F {τ : Nat → Option Nat} {ρ : Nat → Nat → Nat} {K : Nat → Nat} {h : pv_H} {a0 : Nat} {x1 : Int} {x2 : Int} {x3 : Int} (hT : pv_Ty τ ρ h) (hA0 : τ a0 = some 2) (hX1 : 0 ≤ x1 ∧ x1 ≤ 9) (hX2 : 0 ≤ x2 ∧ x2 ≤ 9) (hX3 : (-2147483648) ≤ x3 ∧ x3 ≤ 2147483647) : pv_C K 88 [.ref a0, .int (pv_I x1), .int (pv_I x2), .int (pv_I x3)] h (Q88F τ ρ h a0 x1 x2 x3) := by
  refine pw_entry 2 ?_
  show pv_T K 88 0 (pv_fl [some (.ref a0), some (.int (pv_I x1)), some (.int (pv_I x2)), some (.int (pv_I x3)), none, none]) [] h (Q88F τ ρ h a0 x1 x2 x3)
  have L16 : ∀ (nn : Nat) (xL4_16 xL5_16 : Int) (o1_16 o2_16 o3_16 : Option Value), (0 ≤ xL4_16 ∧ xL4_16 ≤ 1023) → (0 ≤ xL5_16 ∧ xL5_16 ≤ 2147483647) → (∀ t : Nat, x3 ≤ (t : Int) → (t : Int) < xL5_16 → ¬ pf_on (nk_c h ρ a0) t x1 x2) → (x3 ≤ xL5_16) → (∀ x : Nat, x < 32 → (pb xL4_16 x = true ↔ (x1 = x ∨ x2 = x))) → 2147483647 - xL5_16 < nn → pv_T K 88 16 (pv_fl [some (.ref a0), o1_16, o2_16, o3_16, some (.int (pv_I xL4_16)), some (.int (pv_I xL5_16))]) [] h (Q88F τ ρ h a0 x1 x2 x3) := by
    intro nn
    induction nn with
    | zero => intro xL4_16 xL5_16 o1_16 o2_16 o3_16 rL4_16 rL5_16 i0_16 i1_16 i2_16 hm; exfalso; omega
    | succ nn ih16 =>
      intro xL4_16 xL5_16 o1_16 o2_16 o3_16 rL4_16 rL5_16 i0_16 i1_16 i2_16 hm16
      refine pw_iload d88_16 rfl ?_
      refine pw_aload_n d88_18 rfl ?_
      refine pw_getI d88_19 g88_45 hT hA0 rfl rfl (fun u19 vu19 => ?_)
      refine pw_icmp_ge d88_22 rfl (by omega) (by omega) (fun c22 => ?_) (fun c22 => ?_)
      · refine pw_iconst d88_48 ?_
        exact pw_ireturn d88_49 tt88 ⟨rfl, (-1), rfl, (by omega), (by omega), (by first | exact Or.inl ⟨rfl, fun t h1 h2 => i0_16 t h1 (by omega)⟩ | exact Or.inr ⟨by omega, by omega, by omega, th36.1 (by omega), i0_16⟩)⟩
      · refine pw_aload_n d88_25 rfl ?_
        refine pw_iload d88_26 rfl ?_
        refine pw_callV1 d88_28 k88_82 hT hA0 rfl rfl rfl (ct40F (τ := τ) (ρ := ρ) hT hA0 (by omega)) (fun r28 h28 q28 => ?_)
        obtain ⟨eh28, z28, ez28, lz28, uz28, pz28_0⟩ := q28
        subst eh28
        subst ez28
        refine pw_iload d88_31 rfl ?_
        refine pw_iand d88_33 (fun z33 hz33 ez33 => ?_)
        refine pw_iload d88_34 rfl ?_
        have th36 := th_on (by omega) (by omega) pz28_0 i2_16 (by unfold pv_r; omega) hz33 ez33
        refine pw_icmp_ne d88_36 rfl (by omega) (by omega) (fun c36 => ?_) (fun c36 => ?_)
        · refine pw_iinc d88_42 m88 rfl rfl rfl ?_
          refine pw_goto d88_45 rfl ?_
          exact ih16 (xL4_16) ((xL5_16 + 1)) _ _ _ (by omega) (by omega) (by first | exact th_st (by omega) i0_16 (th36.2 (by omega)) | exact th_st (by omega) i0_16 i0_42 | (intro t h1 h2; exfalso; omega)) (by omega) (by first | assumption | exact bo_bit (by omega) (by omega) hz2 hz5 ez2 ez5 ez6) (by omega)
        · refine pw_iload d88_39 rfl ?_
          exact pw_ireturn d88_41 tt88 ⟨rfl, xL5_16, rfl, (by omega), (by omega), (by first | exact Or.inl ⟨rfl, fun t h1 h2 => i0_16 t h1 (by omega)⟩ | exact Or.inr ⟨by omega, by omega, by omega, th36.1 (by omega), i0_16⟩)⟩
  refine pw_iconst d88_0 ?_
  refine pw_iload_n d88_1 rfl ?_
  refine pw_ishl d88_2 (fun z2 hz2 ez2 => ?_)
  have bz2 := pv_shl1_b (n := 9) (m := 512) (y := x1) (by omega) (by omega) (by decide) (by decide) hz2 ez2
  refine pw_iconst d88_3 ?_
  refine pw_iload_n d88_4 rfl ?_
  refine pw_ishl d88_5 (fun z5 hz5 ez5 => ?_)
  have bz5 := pv_shl1_b (n := 9) (m := 512) (y := x2) (by omega) (by omega) (by decide) (by decide) hz5 ez5
  refine pw_ior d88_6 (fun z6 hz6 ez6 => ?_)
  have bz6 := pv_or_b (n := 10) (m := 1024) (x := z2) (y := z5) (by omega) (by omega) (by omega) (by omega) (by decide) (by decide) hz6 ez6
  refine pw_istore d88_7 m88 rfl rfl ?_
  refine pw_iconst d88_9 ?_
  refine pw_iload_n d88_10 rfl ?_
  refine pw_mmax d88_11 k88_100 rfl (by omega) (by omega) (fun z11 pz11 hz11 => ?_)
  refine pw_istore d88_14 m88 rfl rfl ?_
  exact L16 _ (z6) (z11) _ _ _ (by omega) (by omega) (by first | exact th_st (by omega) i0_16 (th36.2 (by omega)) | exact th_st (by omega) i0_16 i0_42 | (intro t h1 h2; exfalso; omega)) (by omega) (by first | assumption | exact bo_bit (by omega) (by omega) hz2 hz5 ez2 ez5 ez6) (pv_mu _)

abbrev Q76F (τ : Nat → Option Nat) (ρ : Nat → Nat → Nat) (h : pv_H) (x0 : Int) : Option Value → pv_H → Prop := fun r h' => h = h' ∧ ∃ z : Int, r = some (.int (pv_I z)) ∧ 0 ≤ z ∧ z ≤ 32 ∧ ((z = 32 ∧ ∀ i : Nat, i < 32 → pb x0 i = false) ∨ (0 ≤ z ∧ z ≤ 31 ∧ pb x0 (z).toNat = true))
set_option maxHeartbeats 4000000 in
set_option maxRecDepth 20000 in
/-- AngleNet.lowestBit(I)I -/
theorem ct76F {τ : Nat → Option Nat} {ρ : Nat → Nat → Nat} {K : Nat → Nat} {h : pv_H} {x0 : Int} (hX0 : (-2147483648) ≤ x0 ∧ x0 ≤ 2147483647) : pv_C K 76 [.int (pv_I x0)] h (Q76F τ ρ h x0) := by
  refine pw_entry 1 ?_
  show pv_T K 76 0 (pv_fl [some (.int (pv_I x0)), none]) [] h (Q76F τ ρ h x0)
  have L2 : ∀ (nn : Nat) (xL1_2 : Int), ((-2147483648) ≤ x0 ∧ x0 ≤ 2147483647) → (0 ≤ xL1_2 ∧ xL1_2 ≤ 32) → (∀ i : Nat, (i : Int) < xL1_2 → pb x0 i = false) → 32 - xL1_2 < nn → pv_T K 76 2 (pv_fl [some (.int (pv_I x0)), some (.int (pv_I xL1_2))]) [] h (Q76F τ ρ h x0) := by
    intro nn
    induction nn with
    | zero => intro xL1_2 rL0_2 rL1_2 i0_2 hm; exfalso; omega
    | succ nn ih2 =>
      intro xL1_2 rL0_2 rL1_2 i0_2 hm2
      refine pw_iload_n d76_2 rfl ?_
      refine pw_bipush d76_3 (by decide) ?_
      refine pw_icmp_ge d76_5 rfl (by omega) (by omega) (fun c5 => ?_) (fun c5 => ?_)
      · refine pw_bipush d76_24 (by decide) ?_
        exact pw_ireturn d76_26 tt76 ⟨rfl, 32, rfl, (by omega), (by omega), (by first | exact Or.inl ⟨rfl, fun i hi => i0_2 i (by omega)⟩ | exact Or.inr ⟨by omega, by omega, by rcases tt13 with q | q; exact q.2; (exfalso; omega)⟩)⟩
      · refine pw_iload_n d76_8 rfl ?_
        refine pw_iload_n d76_9 rfl ?_
        refine pw_ishr d76_10 (fun z10 hz10 ez10 => ?_)
        refine pw_iconst d76_11 ?_
        refine pw_iand d76_12 (fun z12 hz12 ez12 => ?_)
        have bz12 := pv_and1_b hz12 ez12
        have tt13 := pb_tst (x := x0) (i := xL1_2) (by omega) (by omega) hz12 ez10 ez12
        refine pw_if_eq d76_13 rfl (by omega) (fun c13 => ?_) (fun c13 => ?_)
        · refine pw_iinc d76_18 m76 rfl rfl rfl ?_
          refine pw_goto d76_21 rfl ?_
          exact ih2 ((xL1_2 + 1)) (by omega) (by omega) (by first | exact lb_st (by omega) i0_2 (by rcases tt13 with q | q; (exfalso; omega); exact q.2) | (intro i hi; exfalso; omega)) (by omega)
        · refine pw_iload_n d76_16 rfl ?_
          exact pw_ireturn d76_17 tt76 ⟨rfl, xL1_2, rfl, (by omega), (by omega), (by first | exact Or.inl ⟨rfl, fun i hi => i0_2 i (by omega)⟩ | exact Or.inr ⟨by omega, by omega, by rcases tt13 with q | q; exact q.2; (exfalso; omega)⟩)⟩
  refine pw_iconst d76_0 ?_
  refine pw_istore_n d76_1 m76 rfl rfl ?_
  exact L2 _ (0) (by omega) (by omega) (by first | exact lb_st (by omega) i0_2 (by rcases tt13 with q | q; (exfalso; omega); exact q.2) | (intro i hi; exfalso; omega)) (pv_mu _)

abbrev Q90F (τ : Nat → Option Nat) (ρ : Nat → Nat → Nat) (h : pv_H) (a0 : Nat) (x1 : Int) (x2 : Int) (x3 : Int) : Option Value → pv_H → Prop := fun r h' => h = h' ∧ ∃ z : Int, r = some (.int (pv_I z)) ∧ 0 ≤ z ∧ z ≤ 9 ∧ (z = pf_by (nk_c h ρ a0) (x1).toNat x2 x3)
set_option maxHeartbeats 4000000 in
set_option maxRecDepth 20000 in
/-- AngleNet$Net.otherPost(III)I -/
theorem ct90F {τ : Nat → Option Nat} {ρ : Nat → Nat → Nat} {K : Nat → Nat} {h : pv_H} {a0 : Nat} {x1 : Int} {x2 : Int} {x3 : Int} (hT : pv_Ty τ ρ h) (hA0 : τ a0 = some 2) (hX1 : 0 ≤ x1 ∧ x1 ≤ 17) (hX2 : 0 ≤ x2 ∧ x2 ≤ 9) (hX3 : 0 ≤ x3 ∧ x3 ≤ 9) (hP0 : pf_G (pv_fI h a0 0) (nk_n h a0) (nk_c h ρ a0)) (hP1 : x1 < pv_fI h a0 1) (hP2 : pf_on (nk_c h ρ a0) (x1).toNat x2 x3) (hP3 : x2 ≠ x3) (hP4 : pv_fI h a0 0 ≤ 10) : pv_C K 90 [.ref a0, .int (pv_I x1), .int (pv_I x2), .int (pv_I x3)] h (Q90F τ ρ h a0 x1 x2 x3) := by
  refine pw_entry 0 ?_
  show pv_T K 90 0 (pv_fl [some (.ref a0), some (.int (pv_I x1)), some (.int (pv_I x2)), some (.int (pv_I x3))]) [] h (Q90F τ ρ h a0 x1 x2 x3)
  refine pw_aload_n d90_0 rfl ?_
  refine pw_iload_n d90_1 rfl ?_
  refine pw_callV1 d90_2 k90_82 hT hA0 rfl rfl rfl (ct40F (τ := τ) (ρ := ρ) hT hA0 (by omega)) (fun r2 h2 q2 => ?_)
  obtain ⟨eh2, z2, ez2, lz2, uz2, pz2_0⟩ := q2
  subst eh2
  subst ez2
  refine pw_iconst d90_5 ?_
  refine pw_iload_n d90_6 rfl ?_
  refine pw_ishl d90_7 (fun z7 hz7 ez7 => ?_)
  have bz7 := pv_shl1_b (n := 9) (m := 512) (y := x2) (by omega) (by omega) (by decide) (by decide) hz7 ez7
  refine pw_iconst d90_8 ?_
  refine pw_iload_n d90_9 rfl ?_
  refine pw_ishl d90_10 (fun z10 hz10 ez10 => ?_)
  have bz10 := pv_shl1_b (n := 9) (m := 512) (y := x3) (by omega) (by omega) (by decide) (by decide) hz10 ez10
  refine pw_ior d90_11 (fun z11 hz11 ez11 => ?_)
  have bz11 := pv_or_b (n := 10) (m := 1024) (x := z7) (y := z10) (by omega) (by omega) (by omega) (by omega) (by decide) (by decide) hz11 ez11
  refine pw_iconst d90_12 ?_
  refine pw_ixor d90_13 (fun z13 hz13 ez13 => ?_)
  refine pw_iand d90_14 (fun z14 hz14 ez14 => ?_)
  refine pw_callS1 d90_15 k90_106 rfl rfl (ct76F (τ := τ) (ρ := ρ) (by omega)) (fun r15 h15 q15 => ?_)
  obtain ⟨eh15, z15, ez15, lz15, uz15, pz15_0⟩ := q15
  subst eh15
  subst ez15
  have op18 := op_by hP0 (show (x1).toNat < (pv_fI h a0 1).toNat by omega) hP2 hP3 hP4 pz2_0 (bo_bit (by omega) (by omega) hz7 hz10 ez7 ez10 ez11) ez13 ez14 pz15_0
  exact pw_ireturn d90_18 tt90 ⟨rfl, z15, rfl, (by omega), (by omega), (by exact op18.1)⟩

abbrev Q47F (τ : Nat → Option Nat) (ρ : Nat → Nat → Nat) (h : pv_H) (a0 : Nat) (x1 : Int) (x2 : Int) : Option Value → pv_H → Prop := fun r h' => h = h' ∧ ∃ z : Int, r = some (.int (pv_I z)) ∧ 0 ≤ z ∧ z ≤ 1 ∧ (z = 1 → 0 ≤ x1 ∧ x1 ≤ 9 ∧ 0 ≤ x2 ∧ x2 ≤ 9 ∧ x1 ≠ x2) ∧ (z = 0 → 0 ≤ x1 → x1 < pv_fI h a0 0 → 0 ≤ x2 → x2 < pv_fI h a0 0 → x1 ≠ x2 → pv_aI h (ρ a0 12) (10 * x1 + x2).toNat ≤ 0)
set_option maxHeartbeats 4000000 in
set_option maxRecDepth 20000 in
/-- AngleNet$Net.isSide(II)Z -/
theorem ct47F {τ : Nat → Option Nat} {ρ : Nat → Nat → Nat} {K : Nat → Nat} {h : pv_H} {a0 : Nat} {x1 : Int} {x2 : Int} (hT : pv_Ty τ ρ h) (hA0 : τ a0 = some 2) (hX1 : (-2147483648) ≤ x1 ∧ x1 ≤ 2147483647) (hX2 : (-2147483648) ≤ x2 ∧ x2 ≤ 2147483647) : pv_C K 47 [.ref a0, .int (pv_I x1), .int (pv_I x2)] h (Q47F τ ρ h a0 x1 x2) := by
  refine pw_entry 0 ?_
  show pv_T K 47 0 (pv_fl [some (.ref a0), some (.int (pv_I x1)), some (.int (pv_I x2))]) [] h (Q47F τ ρ h a0 x1 x2)
  refine pw_aload_n d47_0 rfl ?_
  refine pw_iload_n d47_1 rfl ?_
  refine pw_callV1 d47_2 k47_78 hT hA0 rfl rfl rfl (ct48 (τ := τ) (ρ := ρ) hT hA0 (by omega)) (fun r2 h2 q2 => ?_)
  obtain ⟨eh2, z2, ez2, lz2, uz2, pz2_0⟩ := q2
  subst eh2
  subst ez2
  refine pw_if_eq d47_5 rfl (by omega) (fun c5 => ?_) (fun c5 => ?_)
  · refine pw_iconst d47_39 ?_
    exact pw_zreturn d47_40 tt47 (by omega) ⟨rfl, 0, rfl, (by omega), (by omega), (by omega), (by omega)⟩
  · refine pw_aload_n d47_8 rfl ?_
    refine pw_iload_n d47_9 rfl ?_
    refine pw_callV1 d47_10 k47_78 hT hA0 rfl rfl rfl (ct48 (τ := τ) (ρ := ρ) hT hA0 (by omega)) (fun r10 h10 q10 => ?_)
    obtain ⟨eh10, z10, ez10, lz10, uz10, pz10_0⟩ := q10
    subst eh10
    subst ez10
    refine pw_if_eq d47_13 rfl (by omega) (fun c13 => ?_) (fun c13 => ?_)
    · refine pw_iconst d47_39 ?_
      exact pw_zreturn d47_40 tt47 (by omega) ⟨rfl, 0, rfl, (by omega), (by omega), (by omega), (by omega)⟩
    · refine pw_iload_n d47_16 rfl ?_
      refine pw_iload_n d47_17 rfl ?_
      refine pw_icmp_eq d47_18 rfl (by omega) (by omega) (fun c18 => ?_) (fun c18 => ?_)
      · refine pw_iconst d47_39 ?_
        exact pw_zreturn d47_40 tt47 (by omega) ⟨rfl, 0, rfl, (by omega), (by omega), (by omega), (by omega)⟩
      · refine pw_aload_n d47_21 rfl ?_
        refine pw_getR d47_22 g47_33 hT hA0 rfl rfl (fun t22 => ?_)
        have t22 : τ (ρ a0 12) = some 27 := t22
        refine pw_bipush d47_25 (by decide) ?_
        refine pw_iload_n d47_27 rfl ?_
        refine pw_imul d47_28 ?_
        refine pw_iload_n d47_29 rfl ?_
        refine pw_iadd d47_30 ?_
        refine pw_iald d47_31 hT t22 rfl rfl (by omega) (by omega) (fun u31 vu31 => ?_)
        refine pw_if_le d47_32 rfl (by omega) (fun c32 => ?_) (fun c32 => ?_)
        · refine pw_iconst d47_39 ?_
          exact pw_zreturn d47_40 tt47 (by omega) ⟨rfl, 0, rfl, (by omega), (by omega), (by omega), (by omega)⟩
        · refine pw_iconst d47_35 ?_
          refine pw_goto d47_36 rfl ?_
          exact pw_zreturn d47_40 tt47 (by omega) ⟨rfl, 1, rfl, (by omega), (by omega), (by omega), (by omega)⟩
