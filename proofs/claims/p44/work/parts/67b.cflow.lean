abbrev Q220F (τ : Nat → Option Nat) (ρ : Nat → Nat → Nat) (h : pv_H) (a0 : Nat) (x1 : Int) (x2 : Int) : Option Value → pv_H → Prop := fun r h' => h = h' ∧ ∃ z : Int, r = some (.int (pv_I z)) ∧ 0 ≤ z ∧ z ≤ 1 ∧ (z = 1 → 0 ≤ x1 ∧ x1 ≤ 9 ∧ 0 ≤ x2 ∧ x2 ≤ 9 ∧ x1 ≠ x2 ∧ x1 < pv_aI h (ρ a0 1) (0 : Int).toNat ∧ x2 < pv_aI h (ρ a0 1) (0 : Int).toNat)
set_option maxHeartbeats 4000000 in
set_option maxRecDepth 20000 in
/-- AngleNetModel.areTwo(II)Z -/
theorem ct220F {τ : Nat → Option Nat} {ρ : Nat → Nat → Nat} {K : Nat → Nat} {h : pv_H} {a0 : Nat} {x1 : Int} {x2 : Int} (hT : pv_Ty τ ρ h) (hA0 : τ a0 = some 7) (hX1 : (-2147483648) ≤ x1 ∧ x1 ≤ 2147483647) (hX2 : (-2147483648) ≤ x2 ∧ x2 ≤ 2147483647) : pv_C K 220 [.ref a0, .int (pv_I x1), .int (pv_I x2)] h (Q220F τ ρ h a0 x1 x2) := by
  refine pw_entry 0 ?_
  show pv_T K 220 0 (pv_fl [some (.ref a0), some (.int (pv_I x1)), some (.int (pv_I x2))]) [] h (Q220F τ ρ h a0 x1 x2)
  refine pw_aload_n d220_0 rfl ?_
  refine pw_iload_n d220_1 rfl ?_
  refine pw_callV1 d220_2 k220_77 hT hA0 rfl rfl rfl (ct214 (τ := τ) (ρ := ρ) hT hA0 (by omega)) (fun r2 h2 q2 => ?_)
  obtain ⟨eh2, z2, ez2, lz2, uz2, pz2_0⟩ := q2
  subst eh2
  subst ez2
  refine pw_if_eq d220_5 rfl (by omega) (fun c5 => ?_) (fun c5 => ?_)
  · refine pw_iconst d220_25 ?_
    exact pw_zreturn d220_26 tt220 (by omega) ⟨rfl, 0, rfl, (by omega), (by omega), (by omega)⟩
  · refine pw_aload_n d220_8 rfl ?_
    refine pw_iload_n d220_9 rfl ?_
    refine pw_callV1 d220_10 k220_77 hT hA0 rfl rfl rfl (ct214 (τ := τ) (ρ := ρ) hT hA0 (by omega)) (fun r10 h10 q10 => ?_)
    obtain ⟨eh10, z10, ez10, lz10, uz10, pz10_0⟩ := q10
    subst eh10
    subst ez10
    refine pw_if_eq d220_13 rfl (by omega) (fun c13 => ?_) (fun c13 => ?_)
    · refine pw_iconst d220_25 ?_
      exact pw_zreturn d220_26 tt220 (by omega) ⟨rfl, 0, rfl, (by omega), (by omega), (by omega)⟩
    · refine pw_iload_n d220_16 rfl ?_
      refine pw_iload_n d220_17 rfl ?_
      refine pw_icmp_eq d220_18 rfl (by omega) (by omega) (fun c18 => ?_) (fun c18 => ?_)
      · refine pw_iconst d220_25 ?_
        exact pw_zreturn d220_26 tt220 (by omega) ⟨rfl, 0, rfl, (by omega), (by omega), (by omega)⟩
      · refine pw_iconst d220_21 ?_
        refine pw_goto d220_22 rfl ?_
        exact pw_zreturn d220_26 tt220 (by omega) ⟨rfl, 1, rfl, (by omega), (by omega), (by omega)⟩

abbrev Q299F (τ : Nat → Option Nat) (ρ : Nat → Nat → Nat) (h : pv_H) (a0 : Nat) (x1 : Int) (x2 : Int) : Option Value → pv_H → Prop := fun r h' => h = h' ∧ ∃ z : Int, r = some (.int (pv_I z)) ∧ 0 ≤ z ∧ z ≤ 1 ∧ (z = 1 → pr_fl (pv_aI h (ρ a0 1)) x1 x2)
set_option maxHeartbeats 4000000 in
set_option maxRecDepth 20000 in
/-- AngleNetModel.isFlow(II)Z -/
theorem ct299F {τ : Nat → Option Nat} {ρ : Nat → Nat → Nat} {K : Nat → Nat} {h : pv_H} {a0 : Nat} {x1 : Int} {x2 : Int} (hT : pv_Ty τ ρ h) (hA0 : τ a0 = some 7) (hX1 : (-2147483648) ≤ x1 ∧ x1 ≤ 2147483647) (hX2 : (-2147483648) ≤ x2 ∧ x2 ≤ 2147483647) : pv_C K 299 [.ref a0, .int (pv_I x1), .int (pv_I x2)] h (Q299F τ ρ h a0 x1 x2) := by
  refine pw_entry 1 ?_
  show pv_T K 299 0 (pv_fl [some (.ref a0), some (.int (pv_I x1)), some (.int (pv_I x2)), none]) [] h (Q299F τ ρ h a0 x1 x2)
  have hR0_1 : τ (ρ a0 1) = some 40 := hT.rf (t' := 40) hA0 rfl rfl
  refine pw_aload_n d299_0 rfl ?_
  refine pw_callV0 d299_1 k299_259 hT hA0 rfl rfl rfl (ct226F (τ := τ) (ρ := ρ) hT hA0) (fun r1 h1 q1 => ?_)
  obtain ⟨eh1, z1, ez1, lz1, uz1, pz1_0⟩ := q1
  subst eh1
  subst ez1
  refine pw_istore_n d299_4 m299 rfl rfl ?_
  refine pw_aload_n d299_5 rfl ?_
  refine pw_iload_n d299_6 rfl ?_
  refine pw_iload_n d299_7 rfl ?_
  refine pw_callV2 d299_8 k299_235 hT hA0 rfl rfl rfl (ct220F (τ := τ) (ρ := ρ) hT hA0 (by omega) (by omega)) (fun r8 h8 q8 => ?_)
  obtain ⟨eh8, z8, ez8, lz8, uz8, pz8_0⟩ := q8
  subst eh8
  subst ez8
  refine pw_if_eq d299_11 rfl (by omega) (fun c11 => ?_) (fun c11 => ?_)
  · refine pw_iconst d299_46 ?_
    exact pw_zreturn d299_47 tt299 (by omega) ⟨rfl, 0, rfl, (by omega), (by omega), (by first | (intro hz; exfalso; omega) | (intro _; exact pr_flI pz1_0 pz35_0 (by omega) (by omega) (by omega) ((hT.wc hR0_1 (j := 0) rfl (by decide)).2.1 (by decide) |>.2) (by omega) (by rcases tt19 with q | q; exact q.2; (exfalso; omega)) (by rcases tt28 with q | q; exact q.2; (exfalso; omega))))⟩
  · refine pw_iload_n d299_14 rfl ?_
    refine pw_iload_n d299_15 rfl ?_
    refine pw_ishr d299_16 (fun z16 hz16 ez16 => ?_)
    refine pw_iconst d299_17 ?_
    refine pw_iand d299_18 (fun z18 hz18 ez18 => ?_)
    have bz18 := pv_and1_b hz18 ez18
    have tt19 := pb_tst (x := z1) (i := x1) (by omega) (by omega) hz18 ez16 ez18
    refine pw_iconst d299_19 ?_
    refine pw_icmp_ne d299_20 rfl (by omega) (by omega) (fun c20 => ?_) (fun c20 => ?_)
    · refine pw_iconst d299_46 ?_
      exact pw_zreturn d299_47 tt299 (by omega) ⟨rfl, 0, rfl, (by omega), (by omega), (by first | (intro hz; exfalso; omega) | (intro _; exact pr_flI pz1_0 pz35_0 (by omega) (by omega) (by omega) ((hT.wc hR0_1 (j := 0) rfl (by decide)).2.1 (by decide) |>.2) (by omega) (by rcases tt19 with q | q; exact q.2; (exfalso; omega)) (by rcases tt28 with q | q; exact q.2; (exfalso; omega))))⟩
    · refine pw_iload_n d299_23 rfl ?_
      refine pw_iload_n d299_24 rfl ?_
      refine pw_ishr d299_25 (fun z25 hz25 ez25 => ?_)
      refine pw_iconst d299_26 ?_
      refine pw_iand d299_27 (fun z27 hz27 ez27 => ?_)
      have bz27 := pv_and1_b hz27 ez27
      have tt28 := pb_tst (x := z1) (i := x2) (by omega) (by omega) hz27 ez25 ez27
      refine pw_iconst d299_28 ?_
      refine pw_icmp_ne d299_29 rfl (by omega) (by omega) (fun c29 => ?_) (fun c29 => ?_)
      · refine pw_iconst d299_46 ?_
        exact pw_zreturn d299_47 tt299 (by omega) ⟨rfl, 0, rfl, (by omega), (by omega), (by first | (intro hz; exfalso; omega) | (intro _; exact pr_flI pz1_0 pz35_0 (by omega) (by omega) (by omega) ((hT.wc hR0_1 (j := 0) rfl (by decide)).2.1 (by decide) |>.2) (by omega) (by rcases tt19 with q | q; exact q.2; (exfalso; omega)) (by rcases tt28 with q | q; exact q.2; (exfalso; omega))))⟩
      · refine pw_aload_n d299_32 rfl ?_
        refine pw_iload_n d299_33 rfl ?_
        refine pw_iconst d299_34 ?_
        refine pw_callV2 d299_35 k299_274 hT hA0 rfl rfl rfl (ct232F (τ := τ) (ρ := ρ) hT hA0 (by omega) (by omega)) (fun r35 h35 q35 => ?_)
        obtain ⟨eh35, z35, ez35, lz35, uz35, pz35_0⟩ := q35
        subst eh35
        subst ez35
        refine pw_iconst d299_38 ?_
        refine pw_icmp_ne d299_39 rfl (by omega) (by omega) (fun c39 => ?_) (fun c39 => ?_)
        · refine pw_iconst d299_46 ?_
          exact pw_zreturn d299_47 tt299 (by omega) ⟨rfl, 0, rfl, (by omega), (by omega), (by first | (intro hz; exfalso; omega) | (intro _; exact pr_flI pz1_0 pz35_0 (by omega) (by omega) (by omega) ((hT.wc hR0_1 (j := 0) rfl (by decide)).2.1 (by decide) |>.2) (by omega) (by rcases tt19 with q | q; exact q.2; (exfalso; omega)) (by rcases tt28 with q | q; exact q.2; (exfalso; omega))))⟩
        · refine pw_iconst d299_42 ?_
          refine pw_goto d299_43 rfl ?_
          exact pw_zreturn d299_47 tt299 (by omega) ⟨rfl, 1, rfl, (by omega), (by omega), (by first | (intro hz; exfalso; omega) | (intro _; exact pr_flI pz1_0 pz35_0 (by omega) (by omega) (by omega) ((hT.wc hR0_1 (j := 0) rfl (by decide)).2.1 (by decide) |>.2) (by omega) (by rcases tt19 with q | q; exact q.2; (exfalso; omega)) (by rcases tt28 with q | q; exact q.2; (exfalso; omega))))⟩

abbrev Q295F (τ : Nat → Option Nat) (ρ : Nat → Nat → Nat) (h : pv_H) (a0 : Nat) (x1 : Int) (x2 : Int) : Option Value → pv_H → Prop := fun r h' => h = h' ∧ ∃ z : Int, r = some (.long (pv_J z)) ∧ (-1) ≤ z ∧ z ≤ 10 ∧ (z = pr_L (pv_aI h (ρ a0 1)) x1 x2)
set_option maxHeartbeats 4000000 in
set_option maxRecDepth 20000 in
/-- AngleNetModel.give(II)J -/
theorem ct295F {τ : Nat → Option Nat} {ρ : Nat → Nat → Nat} {K : Nat → Nat} {h : pv_H} {a0 : Nat} {x1 : Int} {x2 : Int} (hT : pv_Ty τ ρ h) (hA0 : τ a0 = some 7) (hX1 : (-2147483648) ≤ x1 ∧ x1 ≤ 2147483647) (hX2 : (-2147483648) ≤ x2 ∧ x2 ≤ 2147483647) : pv_C K 295 [.ref a0, .int (pv_I x1), .int (pv_I x2)] h (Q295F τ ρ h a0 x1 x2) := by
  refine pw_entry 3 ?_
  show pv_T K 295 0 (pv_fl [some (.ref a0), some (.int (pv_I x1)), some (.int (pv_I x2)), none, none, none]) [] h (Q295F τ ρ h a0 x1 x2)
  have hR0_1 : τ (ρ a0 1) = some 40 := hT.rf (t' := 40) hA0 rfl rfl
  have J45 : ∀ (xL3_45 : Int) (o4_45 o5_45 : Option Value), ((-2147483648) ≤ x1 ∧ x1 ≤ 2147483647) → ((-2147483648) ≤ x2 ∧ x2 ≤ 2147483647) → (0 ≤ xL3_45 ∧ xL3_45 ≤ 10) → (x1 = x2 → xL3_45 = pd_sum (pr_N (pv_aI h (ρ a0 1))) (fun r => if x1 ≠ (r : Int) ∧ 0 < pr_m (pv_aI h (ρ a0 1)) x1 r then 1 else 0)) → pv_T K 295 45 (pv_fl [some (.ref a0), some (.int (pv_I x1)), some (.int (pv_I x2)), some (.long (pv_J xL3_45)), o4_45, o5_45]) [] h (Q295F τ ρ h a0 x1 x2) := by
    intro xL3_45 o4_45 o5_45 rL1_45 rL2_45 rL3_45 i0_45
    refine pw_iload_n d295_45 rfl ?_
    refine pw_iload_n d295_46 rfl ?_
    refine pw_icmp_ne d295_47 rfl (by omega) (by omega) (fun c47 => ?_) (fun c47 => ?_)
    · refine pw_aload_n d295_54 rfl ?_
      refine pw_iload_n d295_55 rfl ?_
      refine pw_iload_n d295_56 rfl ?_
      refine pw_callV2 d295_57 k295_221 hT hA0 rfl rfl rfl (ct217F (τ := τ) (ρ := ρ) hT hA0 (by omega) (by omega)) (fun r57 h57 q57 => ?_)
      obtain ⟨eh57, z57, ez57, lz57, uz57, pz57_0⟩ := q57
      subst eh57
      subst ez57
      refine pw_if_eq d295_60 rfl (by omega) (fun c60 => ?_) (fun c60 => ?_)
      · refine pw_lconst (z := 0) d295_69 (by decide) ?_
        exact pw_lreturn d295_70 tt295 ⟨rfl, 0, rfl, (by omega), (by omega), (by first | exact i0_70 | (unfold pr_L; rw [if_pos (by omega)]; exact i0_45 (by omega)) | exact gv_1 pz57_0 c60 c47 | exact gv_0 pz57_0 c60 c47)⟩
      · refine pw_ldc2 (v := pv_J (-1)) d295_63 n295_63 ?_
        refine pw_goto d295_66 rfl ?_
        exact pw_lreturn d295_70 tt295 ⟨rfl, (-1), rfl, (by omega), (by omega), (by first | exact i0_70 | (unfold pr_L; rw [if_pos (by omega)]; exact i0_45 (by omega)) | exact gv_1 pz57_0 c60 c47 | exact gv_0 pz57_0 c60 c47)⟩
    · refine pw_lload_n d295_50 rfl ?_
      refine pw_goto d295_51 rfl ?_
      exact pw_lreturn d295_70 tt295 ⟨rfl, xL3_45, rfl, (by omega), (by omega), (by first | exact i0_70 | (unfold pr_L; rw [if_pos (by omega)]; exact i0_45 (by omega)) | exact gv_1 pz57_0 c60 c47 | exact gv_0 pz57_0 c60 c47)⟩
  have L5 : ∀ (nn : Nat) (xL3_5 xL5_5 : Int) (o4_5 : Option Value), ((-2147483648) ≤ x1 ∧ x1 ≤ 2147483647) → ((-2147483648) ≤ x2 ∧ x2 ≤ 2147483647) → (0 ≤ xL3_5 ∧ xL3_5 ≤ 10) → (0 ≤ xL5_5 ∧ xL5_5 ≤ 10) → (x1 = x2 → xL3_5 = pd_sum (xL5_5).toNat (fun r => if x1 ≠ (r : Int) ∧ 0 < pr_m (pv_aI h (ρ a0 1)) x1 r then 1 else 0)) → (xL5_5 ≤ pv_aI h (ρ a0 1) (0 : Int).toNat) → (xL3_5 ≤ xL5_5) → 10 - xL5_5 < nn → pv_T K 295 5 (pv_fl [some (.ref a0), some (.int (pv_I x1)), some (.int (pv_I x2)), some (.long (pv_J xL3_5)), o4_5, some (.int (pv_I xL5_5))]) [] h (Q295F τ ρ h a0 x1 x2) := by
    intro nn
    induction nn with
    | zero => intro xL3_5 xL5_5 o4_5 rL1_5 rL2_5 rL3_5 rL5_5 i0_5 i1_5 i2_5 hm; exfalso; omega
    | succ nn ih5 =>
      intro xL3_5 xL5_5 o4_5 rL1_5 rL2_5 rL3_5 rL5_5 i0_5 i1_5 i2_5 hm5
      have J37 : ∀ (xS0_37 : Int) (o3_37 o4_37 : Option Value), ((-2147483648) ≤ x1 ∧ x1 ≤ 2147483647) → ((-2147483648) ≤ x2 ∧ x2 ≤ 2147483647) → (0 ≤ xL5_5 ∧ xL5_5 ≤ 9) → (0 ≤ xS0_37 ∧ xS0_37 ≤ 1) → (0 ≤ xL3_5 ∧ xL3_5 ≤ 10) → ((xS0_37 = 1 ∧ pr_s (pv_aI h (ρ a0 1)) x1 xL5_5) ∨ (xS0_37 = 0 ∧ ¬ pr_s (pv_aI h (ρ a0 1)) x1 xL5_5)) → (xL5_5 < pv_aI h (ρ a0 1) (0 : Int).toNat) → pv_T K 295 37 (pv_fl [some (.ref a0), some (.int (pv_I x1)), some (.int (pv_I x2)), o3_37, o4_37, some (.int (pv_I xL5_5))]) [.long (pv_J xS0_37), .long (pv_J xL3_5)] h (Q295F τ ρ h a0 x1 x2) := by
        intro xS0_37 o3_37 o4_37 rL1_37 rL2_37 rL5_37 rS0_37 rS1_37 i0_37 i1_37
        refine pw_ladd d295_37 ?_
        refine pw_lstore_n d295_38 m295 rfl rfl ?_
        refine pw_iinc d295_39 m295 rfl rfl rfl ?_
        refine pw_goto d295_42 rfl ?_
        exact ih5 ((xL3_5 + xS0_37)) ((xL5_5 + 1)) _ (by omega) (by omega) (by omega) (by omega) (by first | exact (fun _ => rfl) | exact gv_step (by omega) i0_5 i0_37) (by first | exact hw1 | omega) (by omega) (by omega)
      refine pw_iload d295_5 rfl ?_
      refine pw_aload_n d295_7 rfl ?_
      refine pw_getR d295_8 g295_9 hT hA0 rfl rfl (fun t8 => ?_)
      have t8 : τ (ρ a0 1) = some 40 := t8
      refine pw_iconst d295_11 ?_
      refine pw_ialdB d295_12 hT t8 rfl rfl (by omega) (by omega) (fun u12 => ?_)
      have u12 : pv_wok ((0 : Int)) (pv_aI h (ρ a0 1) ((0 : Int)).toNat) := u12
      have vu12 := u12.2.1 (by omega)
      refine pw_icmp_ge d295_13 rfl (by omega) (by omega) (fun c13 => ?_) (fun c13 => ?_)
      · exact J45 (xL3_5) _ _ (by omega) (by omega) (by omega) (by first | (intro e; exfalso; omega) | (rw [show pr_N (pv_aI h (ρ a0 1)) = (xL5_5).toNat from (show (pv_aI h (ρ a0 1) (0 : Int).toNat).toNat = _ by omega)]; exact i0_5))
      · refine pw_iload_n d295_16 rfl ?_
        refine pw_iload_n d295_17 rfl ?_
        refine pw_icmp_ne d295_18 rfl (by omega) (by omega) (fun c18 => ?_) (fun c18 => ?_)
        · exact J45 (xL3_5) _ _ (by omega) (by omega) (by omega) (by first | (intro e; exfalso; omega) | (rw [show pr_N (pv_aI h (ρ a0 1)) = (xL5_5).toNat from (show (pv_aI h (ρ a0 1) (0 : Int).toNat).toNat = _ by omega)]; exact i0_5))
        · refine pw_lload_n d295_21 rfl ?_
          refine pw_aload_n d295_22 rfl ?_
          refine pw_iload_n d295_23 rfl ?_
          refine pw_iload d295_24 rfl ?_
          refine pw_callV2 d295_26 k295_221 hT hA0 rfl rfl rfl (ct217F (τ := τ) (ρ := ρ) hT hA0 (by omega) (by omega)) (fun r26 h26 q26 => ?_)
          obtain ⟨eh26, z26, ez26, lz26, uz26, pz26_0⟩ := q26
          subst eh26
          subst ez26
          refine pw_if_eq d295_29 rfl (by omega) (fun c29 => ?_) (fun c29 => ?_)
          · refine pw_lconst (z := 0) d295_36 (by decide) ?_
            exact J37 (0) _ _ (by omega) (by omega) (by omega) (by omega) (by omega) (by rcases pz26_0 with q | q; (first | exact Or.inl ⟨rfl, q.2⟩ | (exfalso; omega)); (first | exact Or.inr ⟨rfl, q.2⟩ | (exfalso; omega))) (by omega)
          · refine pw_lconst (z := 1) d295_32 (by decide) ?_
            refine pw_goto d295_33 rfl ?_
            exact J37 (1) _ _ (by omega) (by omega) (by omega) (by omega) (by omega) (by rcases pz26_0 with q | q; (first | exact Or.inl ⟨rfl, q.2⟩ | (exfalso; omega)); (first | exact Or.inr ⟨rfl, q.2⟩ | (exfalso; omega))) (by omega)
  have hw1 : 0 ≤ pv_aI h (ρ a0 1) (0 : Int).toNat := (hT.wc hR0_1 (j := 0) rfl (by decide)).2.1 (by decide) |>.1
  refine pw_lconst (z := 0) d295_0 (by decide) ?_
  refine pw_lstore_n d295_1 m295 rfl rfl ?_
  refine pw_iconst d295_2 ?_
  refine pw_istore d295_3 m295 rfl rfl ?_
  exact L5 _ (0) (0) _ (by omega) (by omega) (by omega) (by omega) (by first | exact (fun _ => rfl) | exact gv_step (by omega) i0_5 i0_37) (by first | exact hw1 | omega) (by omega) (pv_mu _)

abbrev Q297F (τ : Nat → Option Nat) (ρ : Nat → Nat → Nat) (h : pv_H) (a0 : Nat) (x1 : Int) (x2 : Int) (x3 : Int) : Option Value → pv_H → Prop := fun r h' => pv_Ty τ ρ h' ∧ pv_Fr τ [3199] h h' ∧ r = none ∧ (∀ j : Nat, (j : Int) < x3 → pv_aJ h' (ρ a0 19) (10 * (x2).toNat + j) = pv_aJ h (ρ a0 19) (10 * (x1).toNat + j))
set_option maxHeartbeats 4000000 in
set_option maxRecDepth 20000 in
/-- AngleNetModel.trades(III)V -/
theorem ct297F {τ : Nat → Option Nat} {ρ : Nat → Nat → Nat} {K : Nat → Nat} {h : pv_H} {a0 : Nat} {x1 : Int} {x2 : Int} {x3 : Int} (hT : pv_Ty τ ρ h) (hA0 : τ a0 = some 7) (hX1 : 0 ≤ x1 ∧ x1 ≤ 9) (hX2 : 0 ≤ x2 ∧ x2 ≤ 9) (hX3 : 0 ≤ x3 ∧ x3 ≤ 10) (hP0 : x1 ≠ x2) : pv_C K 297 [.ref a0, .int (pv_I x1), .int (pv_I x2), .int (pv_I x3)] h (Q297F τ ρ h a0 x1 x2 x3) := by
  refine pw_entry 3 ?_
  show pv_T K 297 0 (pv_fl [some (.ref a0), some (.int (pv_I x1)), some (.int (pv_I x2)), some (.int (pv_I x3)), none, none, none]) [] h (Q297F τ ρ h a0 x1 x2 x3)
  have hR0_19 : τ (ρ a0 19) = some 49 := hT.rf (t' := 49) hA0 rfl rfl
  have hF0 : pv_Fr τ [3199] h h := pv_Fr.rf
  have L3 : ∀ (nn : Nat) (h_3 : pv_H) (xL4_3 : Int) (o5_3 o6_3 : Option Value), (pv_Ty τ ρ h_3) → (pv_Fr τ [3199] h h_3) → (0 ≤ x1 ∧ x1 ≤ 9) → (0 ≤ x2 ∧ x2 ≤ 9) → (0 ≤ x3 ∧ x3 ≤ 10) → (0 ≤ xL4_3 ∧ xL4_3 ≤ 10) → (∀ j : Nat, (j : Int) < xL4_3 → pv_aJ h_3 (ρ a0 19) (10 * (x2).toNat + j) = pv_aJ h (ρ a0 19) (10 * (x1).toNat + j)) → (∀ j : Nat, xL4_3 ≤ (j : Int) → j < 10 → pv_aJ h_3 (ρ a0 19) (10 * (x1).toNat + j) = pv_aJ h (ρ a0 19) (10 * (x1).toNat + j)) → 10 - xL4_3 < nn → pv_T K 297 3 (pv_fl [some (.ref a0), some (.int (pv_I x1)), some (.int (pv_I x2)), some (.int (pv_I x3)), some (.int (pv_I xL4_3)), o5_3, o6_3]) [] h_3 (Q297F τ ρ h a0 x1 x2 x3) := by
    intro nn
    induction nn with
    | zero => intro h_3 xL4_3 o5_3 o6_3 hT_3 hF_3 rL1_3 rL2_3 rL3_3 rL4_3 i0_3 i1_3 hm; exfalso; omega
    | succ nn ih3 =>
      intro h_3 xL4_3 o5_3 o6_3 hT_3 hF_3 rL1_3 rL2_3 rL3_3 rL4_3 i0_3 i1_3 hm3
      refine pw_iload d297_3 rfl ?_
      refine pw_iload_n d297_5 rfl ?_
      refine pw_icmp_ge d297_6 rfl (by omega) (by omega) (fun c6 => ?_) (fun c6 => ?_)
      · exact pw_return d297_67 tt297 ⟨hT_3, hF_3, rfl, (by intro j hj; exact i0_3 j (by omega))⟩
      · refine pw_aload_n d297_9 rfl ?_
        refine pw_getR d297_10 g297_43 hT_3 hA0 rfl rfl (fun t10 => ?_)
        have t10 : τ (ρ a0 19) = some 49 := t10
        refine pw_bipush d297_13 (by decide) ?_
        refine pw_iload_n d297_15 rfl ?_
        refine pw_imul d297_16 ?_
        refine pw_iload d297_17 rfl ?_
        refine pw_iadd d297_19 ?_
        refine pw_lald d297_20 hT_3 t10 rfl rfl (by omega) (by omega) (fun u20 => ?_)
        refine pw_lstore d297_21 m297 rfl rfl ?_
        refine pw_aload_n d297_23 rfl ?_
        refine pw_getR d297_24 g297_43 hT_3 hA0 rfl rfl (fun t24 => ?_)
        have t24 : τ (ρ a0 19) = some 49 := t24
        refine pw_bipush d297_27 (by decide) ?_
        refine pw_iload_n d297_29 rfl ?_
        refine pw_imul d297_30 ?_
        refine pw_iload d297_31 rfl ?_
        refine pw_iadd d297_33 ?_
        refine pw_aload_n d297_34 rfl ?_
        refine pw_getR d297_35 g297_43 hT_3 hA0 rfl rfl (fun t35 => ?_)
        have t35 : τ (ρ a0 19) = some 49 := t35
        refine pw_bipush d297_38 (by decide) ?_
        refine pw_iload_n d297_40 rfl ?_
        refine pw_imul d297_41 ?_
        refine pw_iload d297_42 rfl ?_
        refine pw_iadd d297_44 ?_
        refine pw_lald d297_45 hT_3 t35 rfl rfl (by omega) (by omega) (fun u45 => ?_)
        refine pw_last d297_46 hT_3 t35 rfl rfl rfl (by omega) (by omega) (by omega) (fun h46 T46 F46 E46 => ?_)
        have f46 := hF_3.tr (F46.up (by decide))
        refine pw_aload_n d297_47 rfl ?_
        refine pw_getR d297_48 g297_43 T46 hA0 rfl rfl (fun t48 => ?_)
        have t48 : τ (ρ a0 19) = some 49 := t48
        refine pw_bipush d297_51 (by decide) ?_
        refine pw_iload_n d297_53 rfl ?_
        refine pw_imul d297_54 ?_
        refine pw_iload d297_55 rfl ?_
        refine pw_iadd d297_57 ?_
        refine pw_lload d297_58 rfl ?_
        refine pw_last d297_60 T46 t48 rfl rfl rfl (by omega) (by omega) (by omega) (fun h60 T60 F60 E60 => ?_)
        have f60 := f46.tr (F60.up (by decide))
        refine pw_iinc d297_61 m297 rfl rfl rfl ?_
        refine pw_goto d297_64 rfl ?_
        exact ih3 h60 ((xL4_3 + 1)) _ _ T60 f60 (by omega) (by omega) (by omega) (by omega) (by first | (intro j hj; exfalso; omega) | exact (tr_step (by omega) (by omega) hP0 (by omega) rfl (pe_at E46) (pe_at E60) i0_3 i1_3).1) (by first | (intro j hj _; rfl) | exact (tr_step (by omega) (by omega) hP0 (by omega) rfl (pe_at E46) (pe_at E60) i0_3 i1_3).2) (by omega)
  refine pw_iconst d297_0 ?_
  refine pw_istore d297_1 m297 rfl rfl ?_
  exact L3 _ h (0) _ _ hT hF0 (by omega) (by omega) (by omega) (by omega) (by first | (intro j hj; exfalso; omega) | exact (tr_step (by omega) (by omega) hP0 (by omega) rfl (pe_at E46) (pe_at E60) i0_3 i1_3).1) (by first | (intro j hj _; rfl) | exact (tr_step (by omega) (by omega) hP0 (by omega) rfl (pe_at E46) (pe_at E60) i0_3 i1_3).2) (pv_mu _)
