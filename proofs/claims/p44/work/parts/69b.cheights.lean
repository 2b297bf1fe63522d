abbrev Q294 (τ : Nat → Option Nat) (ρ : Nat → Nat → Nat) (h : pv_H) (a0 : Nat) (x1 : Int) : Option Value → pv_H → Prop := fun r h' => pv_Ty τ ρ h' ∧ pv_Fr τ [469, 3263] h h' ∧ r = none ∧ (pr_pk (pv_aI h (ρ a0 1)) x1 (pr_N (pv_aI h (ρ a0 1))) (pv_fI h' a0 21).toNat (pv_aI h' (ρ a0 20)))
set_option maxHeartbeats 4000000 in
set_option maxRecDepth 20000 in
/-- AngleNetModel.picksBut(I)V -/
theorem ct294 {τ : Nat → Option Nat} {ρ : Nat → Nat → Nat} {K : Nat → Nat} {h : pv_H} {a0 : Nat} {x1 : Int} (hT : pv_Ty τ ρ h) (hA0 : τ a0 = some 7) (hX1 : (-2147483648) ≤ x1 ∧ x1 ≤ 2147483647) : pv_C K 294 [.ref a0, .int (pv_I x1)] h (Q294 τ ρ h a0 x1) := by
  refine pw_entry 1 ?_
  show pv_T K 294 0 (pv_fl [some (.ref a0), some (.int (pv_I x1)), none]) [] h (Q294 τ ρ h a0 x1)
  have hR0_1 : τ (ρ a0 1) = some 40 := hT.rf (t' := 40) hA0 rfl rfl
  have hR0_20 : τ (ρ a0 20) = some 50 := hT.rf (t' := 50) hA0 rfl rfl
  have hF0 : pv_Fr τ [469, 3263] h h := pv_Fr.rf
  have L7 : ∀ (nn : Nat) (h_7 : pv_H) (xL2_7 : Int), (pv_Ty τ ρ h_7) → (pv_Fr τ [469, 3263] h h_7) → ((-2147483648) ≤ x1 ∧ x1 ≤ 2147483647) → (0 ≤ xL2_7 ∧ xL2_7 ≤ 10) → (pr_pk (pv_aI h (ρ a0 1)) x1 (xL2_7).toNat (pv_fI h_7 a0 21).toNat (pv_aI h_7 (ρ a0 20))) → (pv_fI h_7 a0 21 ≤ xL2_7) → (xL2_7 ≤ pv_aI h (ρ a0 1) (0 : Int).toNat) → 10 - xL2_7 < nn → pv_T K 294 7 (pv_fl [some (.ref a0), some (.int (pv_I x1)), some (.int (pv_I xL2_7))]) [] h_7 (Q294 τ ρ h a0 x1) := by
    intro nn
    induction nn with
    | zero => intro h_7 xL2_7 hT_7 hF_7 rL1_7 rL2_7 i0_7 i1_7 i2_7 hm; exfalso; omega
    | succ nn ih7 =>
      intro h_7 xL2_7 hT_7 hF_7 rL1_7 rL2_7 i0_7 i1_7 i2_7 hm7
      have J56 : ∀ (h_56 : pv_H), (pv_Ty τ ρ h_56) → (pv_Fr τ [469, 3263] h h_56) → ((-2147483648) ≤ x1 ∧ x1 ≤ 2147483647) → (0 ≤ xL2_7 ∧ xL2_7 ≤ 9) → (pr_pk (pv_aI h (ρ a0 1)) x1 (xL2_7 + 1).toNat (pv_fI h_56 a0 21).toNat (pv_aI h_56 (ρ a0 20))) → (pv_fI h_56 a0 21 ≤ xL2_7 + 1) → (xL2_7 < pv_aI h (ρ a0 1) (0 : Int).toNat) → pv_T K 294 56 (pv_fl [some (.ref a0), some (.int (pv_I x1)), some (.int (pv_I xL2_7))]) [] h_56 (Q294 τ ρ h a0 x1) := by
        intro h_56 hT_56 hF_56 rL1_56 rL2_56 i0_56 i1_56 i2_56
        have ew56 : pv_aI h_56 (ρ a0 1) = pv_aI h (ρ a0 1) := hF_56.aeq hR0_1 (by decide)
        refine pw_iinc d294_56 m294 rfl rfl rfl ?_
        refine pw_goto d294_59 rfl ?_
        exact ih7 h_56 ((xL2_7 + 1)) hT_56 hF_56 (by omega) (by omega) (by first | (rw [E2]; exact pr_pk.zero) | exact i0_56) (by omega) (by first | exact hw1 | omega) (by omega)
      have ew7 : pv_aI h_7 (ρ a0 1) = pv_aI h (ρ a0 1) := hF_7.aeq hR0_1 (by decide)
      refine pw_iload_n d294_7 rfl ?_
      refine pw_aload_n d294_8 rfl ?_
      refine pw_getR d294_9 g294_9 hT_7 hA0 rfl rfl (fun t9 => ?_)
      have t9 : τ (ρ a0 1) = some 40 := t9
      refine pw_iconst d294_12 ?_
      refine pw_ialdB d294_13 hT_7 t9 rfl rfl (by omega) (by omega) (fun u13 => ?_)
      have u13 : pv_wok ((0 : Int)) (pv_aI h_7 (ρ a0 1) ((0 : Int)).toNat) := u13
      have vu13 := u13.2.1 (by omega)
      refine pw_icmp_ge d294_14 rfl (by omega) (by omega) (fun c14 => ?_) (fun c14 => ?_)
      · exact pw_return d294_62 tt294 ⟨hT_7, hF_7, rfl, (by rw [show pr_N (pv_aI h (ρ a0 1)) = (xL2_7).toNat from (show (pv_aI h (ρ a0 1) (0 : Int).toNat).toNat = _ by have := congrFun ew7 (0 : Int).toNat; omega)]; exact i0_7)⟩
      · refine pw_iload_n d294_17 rfl ?_
        refine pw_iload_n d294_18 rfl ?_
        refine pw_icmp_eq d294_19 rfl (by omega) (by omega) (fun c19 => ?_) (fun c19 => ?_)
        · exact J56 h_7 hT_7 hF_7 (by omega) (by omega) (by first | exact pk_skip i0_7 (by omega) (Or.inl (by omega)) | exact pk_skip i0_7 (by omega) (Or.inr (by rcases tt30 with q | q; (exfalso; omega); exact q.2)) | exact pk_take (m := pv_fI h_7 a0 21) i0_7 (by omega) (by omega) (by omega) (by omega) (by rcases tt30 with q | q; exact q.2; (exfalso; omega)) (by rw [F53.aeq (by assumption) (by decide)]; exact pe_at E45)) (by omega) (by (have := congrFun ew7 (0 : Int).toNat; omega))
        · refine pw_aload_n d294_22 rfl ?_
          refine pw_callV0 d294_23 k294_259 hT_7 hA0 rfl rfl rfl (ct226F (τ := τ) (ρ := ρ) hT_7 hA0) (fun r23 h23 q23 => ?_)
          obtain ⟨eh23, z23, ez23, lz23, uz23, pz23_0⟩ := q23
          subst eh23
          subst ez23
          refine pw_iload_n d294_26 rfl ?_
          refine pw_ishr d294_27 (fun z27 hz27 ez27 => ?_)
          refine pw_iconst d294_28 ?_
          refine pw_iand d294_29 (fun z29 hz29 ez29 => ?_)
          have bz29 := pv_and1_b hz29 ez29
          have tt30 := us_bit pz23_0 (by omega) hz29 ez27 ez29
          rw [ew7] at tt30
          refine pw_if_ne d294_30 rfl (by omega) (fun c30 => ?_) (fun c30 => ?_)
          · refine pw_aload_n d294_36 rfl ?_
            refine pw_getR d294_37 g294_47 hT_7 hA0 rfl rfl (fun t37 => ?_)
            have t37 : τ (ρ a0 20) = some 50 := t37
            refine pw_aload_n d294_40 rfl ?_
            refine pw_getI d294_41 g294_429 hT_7 hA0 rfl rfl (fun u41 vu41 => ?_)
            refine pw_iload_n d294_44 rfl ?_
            refine pw_iast d294_45 hT_7 t37 rfl rfl rfl (by omega) (by omega) (by omega) (by omega) (fun h45 T45 F45 E45 => ?_)
            have f45 := hF_7.tr (F45.up (by decide))
            have q45 := ((F45 a0 7 hA0).1 21 (by decide)).1
            refine pw_aload_n d294_46 rfl ?_
            refine pw_dup d294_47 rfl ?_
            refine pw_getI d294_48 g294_429 T45 hA0 rfl rfl (fun u48 vu48 => ?_)
            refine pw_iconst d294_51 ?_
            refine pw_iadd d294_52 ?_
            refine pw_putI d294_53 g294_429 w7_21 T45 hA0 rfl rfl rfl (by omega) (by omega) (fun h53 T53 F53 E53 => ?_)
            have f53 := f45.tr (F53.up (by decide))
            exact J56 h53 T53 f53 (by omega) (by omega) (by first | exact pk_skip i0_7 (by omega) (Or.inl (by omega)) | exact pk_skip i0_7 (by omega) (Or.inr (by rcases tt30 with q | q; (exfalso; omega); exact q.2)) | exact pk_take (m := pv_fI h_7 a0 21) i0_7 (by omega) (by omega) (by omega) (by omega) (by rcases tt30 with q | q; exact q.2; (exfalso; omega)) (by rw [F53.aeq (by assumption) (by decide)]; exact pe_at E45)) (by omega) (by (have := congrFun ew7 (0 : Int).toNat; omega))
          · refine pw_goto d294_33 rfl ?_
            exact J56 h_7 hT_7 hF_7 (by omega) (by omega) (by first | exact pk_skip i0_7 (by omega) (Or.inl (by omega)) | exact pk_skip i0_7 (by omega) (Or.inr (by rcases tt30 with q | q; (exfalso; omega); exact q.2)) | exact pk_take (m := pv_fI h_7 a0 21) i0_7 (by omega) (by omega) (by omega) (by omega) (by rcases tt30 with q | q; exact q.2; (exfalso; omega)) (by rw [F53.aeq (by assumption) (by decide)]; exact pe_at E45)) (by omega) (by (have := congrFun ew7 (0 : Int).toNat; omega))
  have hw1 : 0 ≤ pv_aI h (ρ a0 1) (0 : Int).toNat := (hT.wc hR0_1 (j := 0) rfl (by decide)).2.1 (by decide) |>.1
  refine pw_aload_n d294_0 rfl ?_
  refine pw_iconst d294_1 ?_
  refine pw_putI d294_2 g294_429 w7_21 hT hA0 rfl rfl rfl (by omega) (by omega) (fun h2 T2 F2 E2 => ?_)
  have f2 := hF0.tr (F2.up (by decide))
  refine pw_iconst d294_5 ?_
  refine pw_istore_n d294_6 m294 rfl rfl ?_
  exact L7 _ h2 (0) T2 f2 (by omega) (by omega) (by first | (rw [E2]; exact pr_pk.zero) | exact i0_56) (by omega) (by first | exact hw1 | omega) (pv_mu _)

abbrev Q300 (τ : Nat → Option Nat) (ρ : Nat → Nat → Nat) (h : pv_H) (a0 : Nat) (x1 : Int) (x2 : Int) (x3 : Int) : Option Value → pv_H → Prop := fun r h' => pv_Ty τ ρ h' ∧ pv_Fr τ [469, 3199, 3263] h h' ∧ ∃ z : Int, r = some (.long (pv_J z)) ∧ (-9223372036854775808) ≤ z ∧ z ≤ 9223372036854775807 ∧ (x3 = x2 → z = 0) ∧ (pr_fl (pv_aI h (ρ a0 1)) x1 x2 → x1 = x3 → x3 ≠ x2 → z ≠ 0)
set_option maxHeartbeats 4000000 in
set_option maxRecDepth 20000 in
/-- AngleNetModel.heightOf(III)J -/
theorem ct300 {τ : Nat → Option Nat} {ρ : Nat → Nat → Nat} {K : Nat → Nat} {h : pv_H} {a0 : Nat} {x1 : Int} {x2 : Int} {x3 : Int} (hT : pv_Ty τ ρ h) (hA0 : τ a0 = some 7) (hX1 : (-2147483648) ≤ x1 ∧ x1 ≤ 2147483647) (hX2 : (-2147483648) ≤ x2 ∧ x2 ≤ 2147483647) (hX3 : (-2147483648) ≤ x3 ∧ x3 ≤ 2147483647) : pv_C K 300 [.ref a0, .int (pv_I x1), .int (pv_I x2), .int (pv_I x3)] h (Q300 τ ρ h a0 x1 x2 x3) := by
  refine pw_entry 2 ?_
  show pv_T K 300 0 (pv_fl [some (.ref a0), some (.int (pv_I x1)), some (.int (pv_I x2)), some (.int (pv_I x3)), none, none]) [] h (Q300 τ ρ h a0 x1 x2 x3)
  have hR0_1 : τ (ρ a0 1) = some 40 := hT.rf (t' := 40) hA0 rfl rfl
  have hR0_19 : τ (ρ a0 19) = some 49 := hT.rf (t' := 49) hA0 rfl rfl
  have hR0_20 : τ (ρ a0 20) = some 50 := hT.rf (t' := 50) hA0 rfl rfl
  have hF0 : pv_Fr τ [469, 3199, 3263] h h := pv_Fr.rf
  have L15 : ∀ (nn : Nat) (h_15 : pv_H) (xL4_15 : Int) (o2_15 o5_15 : Option Value), (pv_Ty τ ρ h_15) → (pv_Fr τ [469, 3199, 3263] h h_15) → ((-2147483648) ≤ x1 ∧ x1 ≤ 2147483647) → ((-2147483648) ≤ x3 ∧ x3 ≤ 2147483647) → (0 ≤ xL4_15 ∧ xL4_15 ≤ 10) → (pr_pk (pv_aI h (ρ a0 1)) x2 (pr_N (pv_aI h (ρ a0 1))) (pv_fI h_15 a0 21).toNat (pv_aI h_15 (ρ a0 20))) → (hw_r (pv_aI h (ρ a0 1)) x1 x3 (pv_aI h_15 (ρ a0 20)) (pv_fI h_15 a0 21).toNat (fun i j => pv_aJ h_15 (ρ a0 19) (10 * i + j)) (xL4_15).toNat 0) → (x3 ≠ x2) → 10 - xL4_15 < nn → pv_T K 300 15 (pv_fl [some (.ref a0), some (.int (pv_I x1)), o2_15, some (.int (pv_I x3)), some (.int (pv_I xL4_15)), o5_15]) [] h_15 (Q300 τ ρ h a0 x1 x2 x3) := by
    intro nn
    induction nn with
    | zero => intro h_15 xL4_15 o2_15 o5_15 hT_15 hF_15 rL1_15 rL3_15 rL4_15 i0_15 i1_15 i2_15 hm; exfalso; omega
    | succ nn ih15 =>
      intro h_15 xL4_15 o2_15 o5_15 hT_15 hF_15 rL1_15 rL3_15 rL4_15 i0_15 i1_15 i2_15 hm15
      have L27 : ∀ (nn : Nat) (h_27 : pv_H) (xL5_27 : Int) (o2_27 : Option Value), (pv_Ty τ ρ h_27) → (pv_Fr τ [469, 3199, 3263] h h_27) → ((-2147483648) ≤ x1 ∧ x1 ≤ 2147483647) → ((-2147483648) ≤ x3 ∧ x3 ≤ 2147483647) → (0 ≤ xL4_15 ∧ xL4_15 ≤ 9) → (0 ≤ xL5_27 ∧ xL5_27 ≤ 10) → (pr_pk (pv_aI h (ρ a0 1)) x2 (pr_N (pv_aI h (ρ a0 1))) (pv_fI h_27 a0 21).toNat (pv_aI h_27 (ρ a0 20))) → (hw_r (pv_aI h (ρ a0 1)) x1 x3 (pv_aI h_27 (ρ a0 20)) (pv_fI h_27 a0 21).toNat (fun i j => pv_aJ h_27 (ρ a0 19) (10 * i + j)) (xL4_15).toNat (xL5_27).toNat) → (x3 ≠ x2) → 10 - xL5_27 < nn → pv_T K 300 27 (pv_fl [some (.ref a0), some (.int (pv_I x1)), o2_27, some (.int (pv_I x3)), some (.int (pv_I xL4_15)), some (.int (pv_I xL5_27))]) [] h_27 (Q300 τ ρ h a0 x1 x2 x3) := by
        intro nn
        induction nn with
        | zero => intro h_27 xL5_27 o2_27 hT_27 hF_27 rL1_27 rL3_27 rL4_27 rL5_27 i0_27 i1_27 i2_27 hm; exfalso; omega
        | succ nn ih27 =>
          intro h_27 xL5_27 o2_27 hT_27 hF_27 rL1_27 rL3_27 rL4_27 rL5_27 i0_27 i1_27 i2_27 hm27
          have J96 : ∀ (h_96 : pv_H) (xS0_96 xS1_96 : Int) (o2_96 : Option Value), (pv_Ty τ ρ h_96) → (pv_Fr τ [469, 3199, 3263] h h_96) → ((-2147483648) ≤ x1 ∧ x1 ≤ 2147483647) → ((-2147483648) ≤ x3 ∧ x3 ≤ 2147483647) → (0 ≤ xL4_15 ∧ xL4_15 ≤ 9) → (0 ≤ xL5_27 ∧ xL5_27 ≤ 9) → ((-1) ≤ xS0_96 ∧ xS0_96 ≤ 10) → (0 ≤ xS1_96 ∧ xS1_96 ≤ 99) → (xS0_96 = if pv_aI h_27 (ρ a0 20) (xL5_27).toNat = x3 then (if pv_aI h_27 (ρ a0 20) (xL4_15).toNat = x1 then 1 else 0) else pr_L (pv_aI h (ρ a0 1)) (pv_aI h_27 (ρ a0 20) (xL4_15).toNat) (pv_aI h_27 (ρ a0 20) (xL5_27).toNat)) → (xS1_96 = 10 * xL4_15 + xL5_27) → (xL5_27 < pv_fI h_27 a0 21 ∧ pv_fI h_27 a0 21 ≤ 10) → (h_96 = h_27) → pv_T K 300 96 (pv_fl [some (.ref a0), some (.int (pv_I x1)), o2_96, some (.int (pv_I x3)), some (.int (pv_I xL4_15)), some (.int (pv_I xL5_27))]) [.long (pv_J xS0_96), .int (pv_I xS1_96), .ref (ρ a0 19)] h_96 (Q300 τ ρ h a0 x1 x2 x3) := by
            intro h_96 xS0_96 xS1_96 o2_96 hT_96 hF_96 rL1_96 rL3_96 rL4_96 rL5_96 rS0_96 rS1_96 i0_96 i1_96 i2_96 i3_96
            have i3_96 := i3_96.symm
            subst i3_96
            refine pw_last d300_96 hT_96 hR0_19 rfl rfl rfl (by omega) (by omega) (by omega) (fun h96 T96 F96 E96 => ?_)
            have f96 := hF_96.tr (F96.up (by decide))
            have q96 := ((F96 a0 7 hA0).1 21 (by decide)).1
            refine pw_iinc d300_97 m300 rfl rfl rfl ?_
            refine pw_goto d300_100 rfl ?_
            exact ih27 h96 ((xL5_27 + 1)) _ T96 f96 (by omega) (by omega) (by omega) (by omega) (by first | exact i0_15 | (rw [F96.aeq hR0_20 (by decide), q96]; exact i0_27)) (by first | exact i1_15 | (rw [F96.aeq hR0_20 (by decide), q96]; exact hw_r.cell i1_27 (by omega) (by omega) (by omega) (by omega) i0_96 (by rw [show (10 * xL4_15 + xL5_27).toNat = (xS1_96).toNat by omega]; exact pe_at E96))) (by omega) (by omega)
          have ew27 : pv_aI h_27 (ρ a0 1) = pv_aI h (ρ a0 1) := hF_27.aeq hR0_1 (by decide)
          refine pw_iload d300_27 rfl ?_
          refine pw_aload_n d300_29 rfl ?_
          refine pw_getI d300_30 g300_429 hT_27 hA0 rfl rfl (fun u30 vu30 => ?_)
          refine pw_icmp_ge d300_33 rfl (by omega) (by omega) (fun c33 => ?_) (fun c33 => ?_)
          · refine pw_iinc d300_103 m300 rfl rfl rfl ?_
            refine pw_goto d300_106 rfl ?_
            exact ih15 h_27 ((xL4_15 + 1)) _ _ hT_27 hF_27 (by omega) (by omega) (by omega) (by first | exact pz9_0 | exact i0_27) (by first | exact hw_r.zero | exact hw_rowS i1_27 (by omega) (by omega)) (by omega) (by omega)
          · refine pw_aload_n d300_36 rfl ?_
            refine pw_getR d300_37 g300_43 hT_27 hA0 rfl rfl (fun t37 => ?_)
            have t37 : τ (ρ a0 19) = some 49 := t37
            refine pw_bipush d300_40 (by decide) ?_
            refine pw_iload d300_42 rfl ?_
            refine pw_imul d300_44 ?_
            refine pw_iload d300_45 rfl ?_
            refine pw_iadd d300_47 ?_
            refine pw_aload_n d300_48 rfl ?_
            refine pw_getR d300_49 g300_47 hT_27 hA0 rfl rfl (fun t49 => ?_)
            have t49 : τ (ρ a0 20) = some 50 := t49
            refine pw_iload d300_52 rfl ?_
            refine pw_iald d300_54 hT_27 t49 rfl rfl (by omega) (by omega) (fun u54 vu54 => ?_)
            refine pw_iload_n d300_55 rfl ?_
            refine pw_icmp_ne d300_56 rfl (by omega) (by omega) (fun c56 => ?_) (fun c56 => ?_)
            · refine pw_aload_n d300_78 rfl ?_
              refine pw_aload_n d300_79 rfl ?_
              refine pw_getR d300_80 g300_47 hT_27 hA0 rfl rfl (fun t80 => ?_)
              have t80 : τ (ρ a0 20) = some 50 := t80
              refine pw_iload d300_83 rfl ?_
              refine pw_iald d300_85 hT_27 t80 rfl rfl (by omega) (by omega) (fun u85 vu85 => ?_)
              refine pw_aload_n d300_86 rfl ?_
              refine pw_getR d300_87 g300_47 hT_27 hA0 rfl rfl (fun t87 => ?_)
              have t87 : τ (ρ a0 20) = some 50 := t87
              refine pw_iload d300_90 rfl ?_
              refine pw_iald d300_92 hT_27 t87 rfl rfl (by omega) (by omega) (fun u92 vu92 => ?_)
              refine pw_callV2 d300_93 k300_435 hT_27 hA0 rfl rfl rfl (ct295F (τ := τ) (ρ := ρ) hT_27 hA0 (by omega) (by omega)) (fun r93 h93 q93 => ?_)
              obtain ⟨eh93, z93, ez93, lz93, uz93, pz93_0⟩ := q93
              subst eh93
              subst ez93
              exact J96 h_27 (z93) (((10 * xL4_15) + xL5_27)) _ hT_27 hF_27 (by omega) (by omega) (by omega) (by omega) (by omega) (by omega) (by first | (rw [if_pos (by omega), if_pos (by omega)]; done) | (rw [if_pos (by omega), if_neg (by omega)]; done) | (rw [if_neg (by omega), ← ew27]; exact pz93_0)) (by omega) (by omega) (by rfl)
            · refine pw_aload_n d300_59 rfl ?_
              refine pw_getR d300_60 g300_47 hT_27 hA0 rfl rfl (fun t60 => ?_)
              have t60 : τ (ρ a0 20) = some 50 := t60
              refine pw_iload d300_63 rfl ?_
              refine pw_iald d300_65 hT_27 t60 rfl rfl (by omega) (by omega) (fun u65 vu65 => ?_)
              refine pw_iload_n d300_66 rfl ?_
              refine pw_icmp_ne d300_67 rfl (by omega) (by omega) (fun c67 => ?_) (fun c67 => ?_)
              · refine pw_lconst (z := 0) d300_74 (by decide) ?_
                refine pw_goto d300_75 rfl ?_
                exact J96 h_27 (0) (((10 * xL4_15) + xL5_27)) _ hT_27 hF_27 (by omega) (by omega) (by omega) (by omega) (by omega) (by omega) (by first | (rw [if_pos (by omega), if_pos (by omega)]; done) | (rw [if_pos (by omega), if_neg (by omega)]; done) | (rw [if_neg (by omega), ← ew27]; exact pz93_0)) (by omega) (by omega) (by rfl)
              · refine pw_lconst (z := 1) d300_70 (by decide) ?_
                refine pw_goto d300_71 rfl ?_
                exact J96 h_27 (1) (((10 * xL4_15) + xL5_27)) _ hT_27 hF_27 (by omega) (by omega) (by omega) (by omega) (by omega) (by omega) (by first | (rw [if_pos (by omega), if_pos (by omega)]; done) | (rw [if_pos (by omega), if_neg (by omega)]; done) | (rw [if_neg (by omega), ← ew27]; exact pz93_0)) (by omega) (by omega) (by rfl)
      refine pw_iload d300_15 rfl ?_
      refine pw_aload_n d300_17 rfl ?_
      refine pw_getI d300_18 g300_429 hT_15 hA0 rfl rfl (fun u18 vu18 => ?_)
      refine pw_icmp_ge d300_21 rfl (by omega) (by omega) (fun c21 => ?_) (fun c21 => ?_)
      · refine pw_aload_n d300_109 rfl ?_
        refine pw_aload_n d300_110 rfl ?_
        refine pw_getI d300_111 g300_429 hT_15 hA0 rfl rfl (fun u111 vu111 => ?_)
        refine pw_callV1 d300_114 k300_439 hT_15 hA0 rfl rfl rfl (ct296 (τ := τ) (ρ := ρ) hT_15 hA0 (by omega)) (fun r114 h114 q114 => ?_)
        obtain ⟨T114, F114, z114, ez114, lz114, uz114, pz114_0⟩ := q114
        subst ez114
        have f114 := hF_15.tr (F114.up (by decide))
        have q114b := ((F114 a0 7 hA0).1 21 (by decide)).1
        exact pw_lreturn d300_117 tt300 ⟨T114, f114, z114, rfl, (by omega), (by omega), (by first | (intro _; rfl) | (intro e; exfalso; omega)), (by first | (intro _ _ e; exfalso; omega) | (intro hf e _; exact ht_end i0_15 i1_15 (by omega) pz114_0 hf e))⟩
      · refine pw_iconst d300_24 ?_
        refine pw_istore d300_25 m300 rfl rfl ?_
        exact L27 _ h_15 (0) _ hT_15 hF_15 (by omega) (by omega) (by omega) (by omega) (by first | exact i0_15 | (rw [F96.aeq hR0_20 (by decide), q96]; exact i0_27)) (by first | exact i1_15 | (rw [F96.aeq hR0_20 (by decide), q96]; exact hw_r.cell i1_27 (by omega) (by omega) (by omega) (by omega) i0_96 (by rw [show (10 * xL4_15 + xL5_27).toNat = (xS1_96).toNat by omega]; exact pe_at E96))) (by omega) (pv_mu _)
  refine pw_iload_n d300_0 rfl ?_
  refine pw_iload_n d300_1 rfl ?_
  refine pw_icmp_ne d300_2 rfl (by omega) (by omega) (fun c2 => ?_) (fun c2 => ?_)
  · refine pw_aload_n d300_7 rfl ?_
    refine pw_iload_n d300_8 rfl ?_
    refine pw_callV1 d300_9 k300_432 hT hA0 rfl rfl rfl (ct294 (τ := τ) (ρ := ρ) hT hA0 (by omega)) (fun r9 h9 q9 => ?_)
    obtain ⟨T9, F9, ez9, pz9_0⟩ := q9
    subst ez9
    have f9 := hF0.tr (F9.up (by decide))
    refine pw_iconst d300_12 ?_
    refine pw_istore d300_13 m300 rfl rfl ?_
    exact L15 _ h9 (0) _ _ T9 f9 (by omega) (by omega) (by omega) (by first | exact pz9_0 | exact i0_27) (by first | exact hw_r.zero | exact hw_rowS i1_27 (by omega) (by omega)) (by omega) (pv_mu _)
  · refine pw_lconst (z := 0) d300_5 (by decide) ?_
    exact pw_lreturn d300_6 tt300 ⟨hT, hF0, 0, rfl, (by omega), (by omega), (by first | (intro _; rfl) | (intro e; exfalso; omega)), (by first | (intro _ _ e; exfalso; omega) | (intro hf e _; exact ht_end i0_15 i1_15 (by omega) pz114_0 hf e))⟩

abbrev Q302 (τ : Nat → Option Nat) (ρ : Nat → Nat → Nat) (h : pv_H) (a0 : Nat) (x1 : Int) (x2 : Int) : Option Value → pv_H → Prop := fun r h' => pv_Ty τ ρ h' ∧ pv_Fr τ [469, 3199, 3263, 3327] h h' ∧ r = none ∧ (pr_fl (pv_aI h (ρ a0 1)) x1 x2 → pv_aJ h' (ρ a0 22) (x1).toNat ≠ 0 ∧ pv_aJ h' (ρ a0 22) (x2).toNat = 0)
set_option maxHeartbeats 4000000 in
set_option maxRecDepth 20000 in
/-- AngleNetModel.fillHeights(II)V -/
theorem ct302 {τ : Nat → Option Nat} {ρ : Nat → Nat → Nat} {K : Nat → Nat} {h : pv_H} {a0 : Nat} {x1 : Int} {x2 : Int} (hT : pv_Ty τ ρ h) (hA0 : τ a0 = some 7) (hX1 : (-2147483648) ≤ x1 ∧ x1 ≤ 2147483647) (hX2 : (-2147483648) ≤ x2 ∧ x2 ≤ 2147483647) : pv_C K 302 [.ref a0, .int (pv_I x1), .int (pv_I x2)] h (Q302 τ ρ h a0 x1 x2) := by
  refine pw_entry 1 ?_
  show pv_T K 302 0 (pv_fl [some (.ref a0), some (.int (pv_I x1)), some (.int (pv_I x2)), none]) [] h (Q302 τ ρ h a0 x1 x2)
  have hR0_1 : τ (ρ a0 1) = some 40 := hT.rf (t' := 40) hA0 rfl rfl
  have hR0_22 : τ (ρ a0 22) = some 51 := hT.rf (t' := 51) hA0 rfl rfl
  have hF0 : pv_Fr τ [469, 3199, 3263, 3327] h h := pv_Fr.rf
  have L2 : ∀ (nn : Nat) (h_2 : pv_H) (xL3_2 : Int), (pv_Ty τ ρ h_2) → (pv_Fr τ [469, 3199, 3263, 3327] h h_2) → ((-2147483648) ≤ x1 ∧ x1 ≤ 2147483647) → ((-2147483648) ≤ x2 ∧ x2 ≤ 2147483647) → (0 ≤ xL3_2 ∧ xL3_2 ≤ 10) → (pr_fl (pv_aI h (ρ a0 1)) x1 x2 → (x1 < xL3_2 → pv_aJ h_2 (ρ a0 22) (x1).toNat ≠ 0) ∧ (x2 < xL3_2 → pv_aJ h_2 (ρ a0 22) (x2).toNat = 0)) → 10 - xL3_2 < nn → pv_T K 302 2 (pv_fl [some (.ref a0), some (.int (pv_I x1)), some (.int (pv_I x2)), some (.int (pv_I xL3_2))]) [] h_2 (Q302 τ ρ h a0 x1 x2) := by
    intro nn
    induction nn with
    | zero => intro h_2 xL3_2 hT_2 hF_2 rL1_2 rL2_2 rL3_2 i0_2 hm; exfalso; omega
    | succ nn ih2 =>
      intro h_2 xL3_2 hT_2 hF_2 rL1_2 rL2_2 rL3_2 i0_2 hm2
      have J40 : ∀ (h_40 : pv_H) (xS0_40 : Int), (pv_Ty τ ρ h_40) → (pv_Fr τ [469, 3199, 3263, 3327] h h_40) → ((-2147483648) ≤ x1 ∧ x1 ≤ 2147483647) → ((-2147483648) ≤ x2 ∧ x2 ≤ 2147483647) → (0 ≤ xL3_2 ∧ xL3_2 ≤ 9) → ((-9223372036854775808) ≤ xS0_40 ∧ xS0_40 ≤ 9223372036854775807) → (0 ≤ xL3_2 ∧ xL3_2 ≤ 9) → (pv_aJ h_40 (ρ a0 22) = pv_aJ h_2 (ρ a0 22)) → (pr_fl (pv_aI h (ρ a0 1)) x1 x2 → (xL3_2 = x1 → xS0_40 ≠ 0) ∧ (xL3_2 = x2 → xS0_40 = 0)) → (xL3_2 = xL3_2) → pv_T K 302 40 (pv_fl [some (.ref a0), some (.int (pv_I x1)), some (.int (pv_I x2)), some (.int (pv_I xL3_2))]) [.long (pv_J xS0_40), .int (pv_I xL3_2), .ref (ρ a0 22)] h_40 (Q302 τ ρ h a0 x1 x2) := by
        intro h_40 xS0_40 hT_40 hF_40 rL1_40 rL2_40 rL3_40 rS0_40 rS1_40 i0_40 i1_40 i2_40
        refine pw_last d302_40 hT_40 hR0_22 rfl rfl rfl (by omega) (by omega) (by omega) (fun h40 T40 F40 E40 => ?_)
        have f40 := hF_40.tr (F40.up (by decide))
        refine pw_iinc d302_41 m302 rfl rfl rfl ?_
        refine pw_goto d302_44 rfl ?_
        exact ih2 h40 ((xL3_2 + 1)) T40 f40 (by omega) (by omega) (by omega) (by first | (intro hf; have r := hf.2.1; exact ⟨fun _ => by omega, fun _ => by omega⟩) | exact fh_step i0_2 i0_40 i1_40 i2_40 (by omega) (pe_at E40)) (by omega)
      have ew2 : pv_aI h_2 (ρ a0 1) = pv_aI h (ρ a0 1) := hF_2.aeq hR0_1 (by decide)
      refine pw_iload_n d302_2 rfl ?_
      refine pw_aload_n d302_3 rfl ?_
      refine pw_getR d302_4 g302_9 hT_2 hA0 rfl rfl (fun t4 => ?_)
      have t4 : τ (ρ a0 1) = some 40 := t4
      refine pw_iconst d302_7 ?_
      refine pw_ialdB d302_8 hT_2 t4 rfl rfl (by omega) (by omega) (fun u8 => ?_)
      have u8 : pv_wok ((0 : Int)) (pv_aI h_2 (ρ a0 1) ((0 : Int)).toNat) := u8
      have vu8 := u8.2.1 (by omega)
      refine pw_icmp_ge d302_9 rfl (by omega) (by omega) (fun c9 => ?_) (fun c9 => ?_)
      · exact pw_return d302_47 tt302 ⟨hT_2, hF_2, rfl, (by exact fh_end i0_2 (by rw [← ew2]; omega))⟩
      · refine pw_aload_n d302_12 rfl ?_
        refine pw_getR d302_13 g302_50 hT_2 hA0 rfl rfl (fun t13 => ?_)
        have t13 : τ (ρ a0 22) = some 51 := t13
        refine pw_iload_n d302_16 rfl ?_
        refine pw_aload_n d302_17 rfl ?_
        refine pw_callV0 d302_18 k302_259 hT_2 hA0 rfl rfl rfl (ct226F (τ := τ) (ρ := ρ) hT_2 hA0) (fun r18 h18 q18 => ?_)
        obtain ⟨eh18, z18, ez18, lz18, uz18, pz18_0⟩ := q18
        subst eh18
        subst ez18
        refine pw_iload_n d302_21 rfl ?_
        refine pw_ishr d302_22 (fun z22 hz22 ez22 => ?_)
        refine pw_iconst d302_23 ?_
        refine pw_iand d302_24 (fun z24 hz24 ez24 => ?_)
        have bz24 := pv_and1_b hz24 ez24
        have tt25 := us_bit pz18_0 (by omega) hz24 ez22 ez24
        rw [ew2] at tt25
        refine pw_iconst d302_25 ?_
        refine pw_icmp_ne d302_26 rfl (by omega) (by omega) (fun c26 => ?_) (fun c26 => ?_)
        · refine pw_lconst (z := 0) d302_39 (by decide) ?_
          exact J40 h_2 (0) hT_2 hF_2 (by omega) (by omega) (by omega) (by omega) (by omega) (by first | rfl | exact F33.aeqJ hR0_22 (by decide)) (by first | (intro hf; exact ⟨fun e => pz33_1 (by rw [ew2]; exact hf) (by omega) (by have := hf.2.2.1; omega), fun e => pz33_0 (by omega)⟩) | (intro hf; exact ⟨fun e => by rcases tt25 with q | q; (exfalso; omega); exact absurd hf.2.2.2.1 (by rw [← e]; exact q.2), fun _ => rfl⟩)) (by first | rfl | omega)
        · refine pw_aload_n d302_29 rfl ?_
          refine pw_iload_n d302_30 rfl ?_
          refine pw_iload_n d302_31 rfl ?_
          refine pw_iload_n d302_32 rfl ?_
          refine pw_callV3 d302_33 k302_449 hT_2 hA0 rfl rfl rfl (ct300 (τ := τ) (ρ := ρ) hT_2 hA0 (by omega) (by omega) (by omega)) (fun r33 h33 q33 => ?_)
          obtain ⟨T33, F33, z33, ez33, lz33, uz33, pz33_0, pz33_1⟩ := q33
          subst ez33
          have f33 := hF_2.tr (F33.up (by decide))
          refine pw_goto d302_36 rfl ?_
          exact J40 h33 (z33) T33 f33 (by omega) (by omega) (by omega) (by omega) (by omega) (by first | rfl | exact F33.aeqJ hR0_22 (by decide)) (by first | (intro hf; exact ⟨fun e => pz33_1 (by rw [ew2]; exact hf) (by omega) (by have := hf.2.2.1; omega), fun e => pz33_0 (by omega)⟩) | (intro hf; exact ⟨fun e => by rcases tt25 with q | q; (exfalso; omega); exact absurd hf.2.2.2.1 (by rw [← e]; exact q.2), fun _ => rfl⟩)) (by first | rfl | omega)
  refine pw_iconst d302_0 ?_
  refine pw_istore_n d302_1 m302 rfl rfl ?_
  exact L2 _ h (0) hT hF0 (by omega) (by omega) (by omega) (by first | (intro hf; have r := hf.2.1; exact ⟨fun _ => by omega, fun _ => by omega⟩) | exact fh_step i0_2 i0_40 i1_40 i2_40 (by omega) (pe_at E40)) (pv_mu _)

abbrev Q304 (τ : Nat → Option Nat) (ρ : Nat → Nat → Nat) (h : pv_H) (x0 : Int) (x1 : Int) : Option Value → pv_H → Prop := fun r h' => h = h' ∧ ∃ z : Int, r = some (.long (pv_J z)) ∧ (-9223372036854775808) ≤ z ∧ z ≤ 9223372036854775807 ∧ (x0 ≠ 0 ∨ x1 ≠ 0 → z ≠ 0)
set_option maxHeartbeats 4000000 in
set_option maxRecDepth 20000 in
/-- AngleNetModel.divisor(JJ)J -/
theorem ct304 {τ : Nat → Option Nat} {ρ : Nat → Nat → Nat} {K : Nat → Nat} {h : pv_H} {x0 : Int} {x1 : Int} (hX0 : (-9223372036854775808) ≤ x0 ∧ x0 ≤ 9223372036854775807) (hX1 : (-9223372036854775808) ≤ x1 ∧ x1 ≤ 9223372036854775807) : pv_C K 304 [.long (pv_J x0), .long (pv_J x1)] h (Q304 τ ρ h x0 x1) := by
  refine pw_entry 6 ?_
  show pv_T K 304 0 (pv_fl [some (.long (pv_J x0)), none, some (.long (pv_J x1)), none, none, none, none, none, none, none]) [] h (Q304 τ ρ h x0 x1)
  have L6 : ∀ (nn : Nat) (xL4_6 xL6_6 : Int) (o0_6 o1_6 o2_6 o3_6 o5_6 o7_6 o8_6 o9_6 : Option Value), ((-9223372036854775808) ≤ xL4_6 ∧ xL4_6 ≤ 9223372036854775807) → ((-9223372036854775808) ≤ xL6_6 ∧ xL6_6 ≤ 9223372036854775807) → (x0 ≠ 0 ∨ x1 ≠ 0 → xL4_6 ≠ 0 ∨ xL6_6 ≠ 0) → ((xL6_6).natAbs : Int) < nn → pv_T K 304 6 (pv_fl [o0_6, o1_6, o2_6, o3_6, some (.long (pv_J xL4_6)), o5_6, some (.long (pv_J xL6_6)), o7_6, o8_6, o9_6]) [] h (Q304 τ ρ h x0 x1) := by
    intro nn
    induction nn with
    | zero => intro xL4_6 xL6_6 o0_6 o1_6 o2_6 o3_6 o5_6 o7_6 o8_6 o9_6 rL4_6 rL6_6 i0_6 hm; exfalso; omega
    | succ nn ih6 =>
      intro xL4_6 xL6_6 o0_6 o1_6 o2_6 o3_6 o5_6 o7_6 o8_6 o9_6 rL4_6 rL6_6 i0_6 hm6
      refine pw_lload d304_6 rfl ?_
      refine pw_lconst (z := 0) d304_8 (by decide) ?_
      refine pw_lcmp d304_9 (by omega) (by omega) (fun z9 ez9 => ?_)
      refine pw_if_eq d304_10 rfl (by omega) (fun c10 => ?_) (fun c10 => ?_)
      · refine pw_lload d304_31 rfl ?_
        exact pw_lreturn d304_33 tt304 ⟨rfl, xL4_6, rfl, (by omega), (by omega), (by omega)⟩
      · refine pw_lload d304_13 rfl ?_
        refine pw_lload d304_15 rfl ?_
        refine pw_lremU d304_17 (by omega) (by omega) (fun z17 hz17 ez17 => ?_)
        have dv18 := dv_rem (by unfold pv_q; omega) (by unfold pv_q; omega) hz17 (by omega) ez17
        refine pw_lstore d304_18 m304 rfl rfl ?_
        refine pw_lload d304_20 rfl ?_
        refine pw_lstore d304_22 m304 rfl rfl ?_
        refine pw_lload d304_24 rfl ?_
        refine pw_lstore d304_26 m304 rfl rfl ?_
        refine pw_goto d304_28 rfl ?_
        exact ih6 (xL6_6) (z17) _ _ _ _ _ _ _ _ (by omega) (by omega) (by omega) (by omega)
  refine pw_lload_n d304_0 rfl ?_
  refine pw_lstore d304_1 m304 rfl rfl ?_
  refine pw_lload_n d304_3 rfl ?_
  refine pw_lstore d304_4 m304 rfl rfl ?_
  exact L6 _ (x0) (x1) _ _ _ _ _ _ _ _ (by omega) (by omega) (by omega) (pv_mu _)

abbrev Q303 (τ : Nat → Option Nat) (ρ : Nat → Nat → Nat) (h : pv_H) (a0 : Nat) : Option Value → pv_H → Prop := fun r h' => h = h' ∧ ∃ z : Int, r = some (.long (pv_J z)) ∧ (-9223372036854775808) ≤ z ∧ z ≤ 9223372036854775807 ∧ ((∃ p q : Nat, q < p ∧ p < pr_N (pv_aI h (ρ a0 1)) ∧ pr_s (pv_aI h (ρ a0 1)) p q ∧ pv_aJ h (ρ a0 22) p ≠ pv_aJ h (ρ a0 22) q) → z ≠ 0)
set_option maxHeartbeats 4000000 in
set_option maxRecDepth 20000 in
/-- AngleNetModel.flowDivisor()J -/
theorem ct303 {τ : Nat → Option Nat} {ρ : Nat → Nat → Nat} {K : Nat → Nat} {h : pv_H} {a0 : Nat} (hT : pv_Ty τ ρ h) (hA0 : τ a0 = some 7) : pv_C K 303 [.ref a0] h (Q303 τ ρ h a0) := by
  refine pw_entry 4 ?_
  show pv_T K 303 0 (pv_fl [some (.ref a0), none, none, none, none]) [] h (Q303 τ ρ h a0)
  have hR0_1 : τ (ρ a0 1) = some 40 := hT.rf (t' := 40) hA0 rfl rfl
  have hR0_22 : τ (ρ a0 22) = some 51 := hT.rf (t' := 51) hA0 rfl rfl
  have L4 : ∀ (nn : Nat) (xL1_4 xL3_4 : Int) (o2_4 o4_4 : Option Value), ((-9223372036854775808) ≤ xL1_4 ∧ xL1_4 ≤ 9223372036854775807) → (0 ≤ xL3_4 ∧ xL3_4 ≤ 10) → (pd_dv (pv_aI h (ρ a0 1)) (pv_aJ h (ρ a0 22)) xL3_4 0 xL1_4) → 10 - xL3_4 < nn → pv_T K 303 4 (pv_fl [some (.ref a0), some (.long (pv_J xL1_4)), o2_4, some (.int (pv_I xL3_4)), o4_4]) [] h (Q303 τ ρ h a0) := by
    intro nn
    induction nn with
    | zero => intro xL1_4 xL3_4 o2_4 o4_4 rL1_4 rL3_4 i0_4 hm; exfalso; omega
    | succ nn ih4 =>
      intro xL1_4 xL3_4 o2_4 o4_4 rL1_4 rL3_4 i0_4 hm4
      have L17 : ∀ (nn : Nat) (xL1_17 xL4_17 : Int) (o2_17 : Option Value), ((-9223372036854775808) ≤ xL1_17 ∧ xL1_17 ≤ 9223372036854775807) → (0 ≤ xL3_4 ∧ xL3_4 ≤ 9) → (0 ≤ xL4_17 ∧ xL4_17 ≤ 10) → (pd_dv (pv_aI h (ρ a0 1)) (pv_aJ h (ρ a0 22)) xL3_4 xL4_17 xL1_17) → 10 - xL4_17 < nn → pv_T K 303 17 (pv_fl [some (.ref a0), some (.long (pv_J xL1_17)), o2_17, some (.int (pv_I xL3_4)), some (.int (pv_I xL4_17))]) [] h (Q303 τ ρ h a0) := by
        intro nn
        induction nn with
        | zero => intro xL1_17 xL4_17 o2_17 rL1_17 rL3_17 rL4_17 i0_17 hm; exfalso; omega
        | succ nn ih17 =>
          intro xL1_17 xL4_17 o2_17 rL1_17 rL3_17 rL4_17 i0_17 hm17
          have J58 : ∀ (xS0_58 : Int) (o1_58 o2_58 : Option Value), (1 ≤ xL3_4 ∧ xL3_4 ≤ 9) → (0 ≤ xL4_17 ∧ xL4_17 ≤ 9) → ((-9223372036854775808) ≤ xS0_58 ∧ xS0_58 ≤ 9223372036854775807) → (pd_dv (pv_aI h (ρ a0 1)) (pv_aJ h (ρ a0 22)) xL3_4 (xL4_17 + 1) xS0_58) → pv_T K 303 58 (pv_fl [some (.ref a0), o1_58, o2_58, some (.int (pv_I xL3_4)), some (.int (pv_I xL4_17))]) [.long (pv_J xS0_58)] h (Q303 τ ρ h a0) := by
            intro xS0_58 o1_58 o2_58 rL3_58 rL4_58 rS0_58 i0_58
            refine pw_lstore_n d303_58 m303 rfl rfl ?_
            refine pw_iinc d303_59 m303 rfl rfl rfl ?_
            refine pw_goto d303_62 rfl ?_
            exact ih17 (xS0_58) ((xL4_17 + 1)) _ (by omega) (by omega) (by omega) (by first | exact i0_4 | exact i0_58) (by omega)
          refine pw_iload d303_17 rfl ?_
          refine pw_iload_n d303_19 rfl ?_
          refine pw_icmp_ge d303_20 rfl (by omega) (by omega) (fun c20 => ?_) (fun c20 => ?_)
          · refine pw_iinc d303_65 m303 rfl rfl rfl ?_
            refine pw_goto d303_68 rfl ?_
            exact ih4 (xL1_17) ((xL3_4 + 1)) _ _ (by omega) (by omega) (by first | exact pd_dv.zero | exact pd_dv.row i0_17 (by omega)) (by omega)
          · refine pw_aload_n d303_23 rfl ?_
            refine pw_iload_n d303_24 rfl ?_
            refine pw_iload d303_25 rfl ?_
            refine pw_callV2 d303_27 k303_221 hT hA0 rfl rfl rfl (ct217F (τ := τ) (ρ := ρ) hT hA0 (by omega) (by omega)) (fun r27 h27 q27 => ?_)
            obtain ⟨eh27, z27, ez27, lz27, uz27, pz27_0⟩ := q27
            subst eh27
            subst ez27
            refine pw_if_eq d303_30 rfl (by omega) (fun c30 => ?_) (fun c30 => ?_)
            · refine pw_lload_n d303_57 rfl ?_
              exact J58 (xL1_17) _ _ (by omega) (by omega) (by omega) (by first | exact pd_dv.div i0_17 (by omega) (by omega) u39 u46 ez48 pz51_0 | exact pd_dv.side i0_17 (by rcases pz27_0 with q | q; (exfalso; omega); exact q.2) (by omega))
            · refine pw_lload_n d303_33 rfl ?_
              refine pw_aload_n d303_34 rfl ?_
              refine pw_getR d303_35 g303_50 hT hA0 rfl rfl (fun t35 => ?_)
              have t35 : τ (ρ a0 22) = some 51 := t35
              refine pw_iload_n d303_38 rfl ?_
              refine pw_lald d303_39 hT t35 rfl rfl (by omega) (by omega) (fun u39 => ?_)
              refine pw_aload_n d303_40 rfl ?_
              refine pw_getR d303_41 g303_50 hT hA0 rfl rfl (fun t41 => ?_)
              have t41 : τ (ρ a0 22) = some 51 := t41
              refine pw_iload d303_44 rfl ?_
              refine pw_lald d303_46 hT t41 rfl rfl (by omega) (by omega) (fun u46 => ?_)
              refine pw_lsub d303_47 ?_
              refine pw_mabs d303_48 k303_453 rfl (fun z48 hz48 ez48 => ?_)
              refine pw_callS2 d303_51 k303_457 rfl rfl (ct304 (τ := τ) (ρ := ρ) (by omega) (by omega)) (fun r51 h51 q51 => ?_)
              obtain ⟨eh51, z51, ez51, lz51, uz51, pz51_0⟩ := q51
              subst eh51
              subst ez51
              refine pw_goto d303_54 rfl ?_
              exact J58 (z51) _ _ (by omega) (by omega) (by omega) (by first | exact pd_dv.div i0_17 (by omega) (by omega) u39 u46 ez48 pz51_0 | exact pd_dv.side i0_17 (by rcases pz27_0 with q | q; (exfalso; omega); exact q.2) (by omega))
      refine pw_iload_n d303_4 rfl ?_
      refine pw_aload_n d303_5 rfl ?_
      refine pw_getR d303_6 g303_9 hT hA0 rfl rfl (fun t6 => ?_)
      have t6 : τ (ρ a0 1) = some 40 := t6
      refine pw_iconst d303_9 ?_
      refine pw_ialdB d303_10 hT t6 rfl rfl (by omega) (by omega) (fun u10 => ?_)
      have u10 : pv_wok ((0 : Int)) (pv_aI h (ρ a0 1) ((0 : Int)).toNat) := u10
      have vu10 := u10.2.1 (by omega)
      refine pw_icmp_ge d303_11 rfl (by omega) (by omega) (fun c11 => ?_) (fun c11 => ?_)
      · refine pw_lload_n d303_71 rfl ?_
        exact pw_lreturn d303_72 tt303 ⟨rfl, xL1_4, rfl, (by omega), (by omega), (by exact pd_dv.fin i0_4 (show pv_aI h (ρ a0 1) (0 : Int).toNat ≤ _ by omega))⟩
      · refine pw_iconst d303_14 ?_
        refine pw_istore d303_15 m303 rfl rfl ?_
        exact L17 _ (xL1_4) (0) _ (by omega) (by omega) (by omega) (by first | exact i0_4 | exact i0_58) (pv_mu _)
  refine pw_lconst (z := 0) d303_0 (by decide) ?_
  refine pw_lstore_n d303_1 m303 rfl rfl ?_
  refine pw_iconst d303_2 ?_
  refine pw_istore_n d303_3 m303 rfl rfl ?_
  exact L4 _ (0) (0) _ _ (by omega) (by omega) (by first | exact pd_dv.zero | exact pd_dv.row i0_17 (by omega)) (pv_mu _)

abbrev Q293 (τ : Nat → Option Nat) (ρ : Nat → Nat → Nat) (h : pv_H) (a0 : Nat) : Option Value → pv_H → Prop := fun r h' => pv_Ty τ ρ h' ∧ pv_Fr τ [469, 3199, 3263] h h' ∧ ∃ z : Int, r = some (.long (pv_J z)) ∧ (-9223372036854775808) ≤ z ∧ z ≤ 9223372036854775807
set_option maxHeartbeats 4000000 in
set_option maxRecDepth 20000 in
/-- AngleNetModel.treesOf()J -/
theorem ct293 {τ : Nat → Option Nat} {ρ : Nat → Nat → Nat} {K : Nat → Nat} {h : pv_H} {a0 : Nat} (hT : pv_Ty τ ρ h) (hA0 : τ a0 = some 7) : pv_C K 293 [.ref a0] h (Q293 τ ρ h a0) := by
  refine pw_entry 2 ?_
  show pv_T K 293 0 (pv_fl [some (.ref a0), none, none]) [] h (Q293 τ ρ h a0)
  have hF0 : pv_Fr τ [469, 3199, 3263] h h := pv_Fr.rf
  have L34 : ∀ (nn : Nat) (h_34 : pv_H) (xL1_34 : Int) (o2_34 : Option Value), (pv_Ty τ ρ h_34) → (pv_Fr τ [469, 3199, 3263] h h_34) → (0 ≤ xL1_34 ∧ xL1_34 ≤ 10) → 10 - xL1_34 < nn → pv_T K 293 34 (pv_fl [some (.ref a0), some (.int (pv_I xL1_34)), o2_34]) [] h_34 (Q293 τ ρ h a0) := by
    intro nn
    induction nn with
    | zero => intro h_34 xL1_34 o2_34 hT_34 hF_34 rL1_34 hm; exfalso; omega
    | succ nn ih34 =>
      intro h_34 xL1_34 o2_34 hT_34 hF_34 rL1_34 hm34
      have L44 : ∀ (nn : Nat) (h_44 : pv_H) (xL2_44 : Int), (pv_Ty τ ρ h_44) → (pv_Fr τ [469, 3199, 3263] h h_44) → (0 ≤ xL1_34 ∧ xL1_34 ≤ 9) → (0 ≤ xL2_44 ∧ xL2_44 ≤ 10) → 10 - xL2_44 < nn → pv_T K 293 44 (pv_fl [some (.ref a0), some (.int (pv_I xL1_34)), some (.int (pv_I xL2_44))]) [] h_44 (Q293 τ ρ h a0) := by
        intro nn
        induction nn with
        | zero => intro h_44 xL2_44 hT_44 hF_44 rL1_44 rL2_44 hm; exfalso; omega
        | succ nn ih44 =>
          intro h_44 xL2_44 hT_44 hF_44 rL1_44 rL2_44 hm44
          refine pw_iload_n d293_44 rfl ?_
          refine pw_aload_n d293_45 rfl ?_
          refine pw_getI d293_46 g293_429 hT_44 hA0 rfl rfl (fun u46 vu46 => ?_)
          refine pw_icmp_ge d293_49 rfl (by omega) (by omega) (fun c49 => ?_) (fun c49 => ?_)
          · refine pw_iinc d293_85 m293 rfl rfl rfl ?_
            refine pw_goto d293_88 rfl ?_
            exact ih34 h_44 ((xL1_34 + 1)) _ hT_44 hF_44 (by omega) (by omega)
          · refine pw_aload_n d293_52 rfl ?_
            refine pw_getR d293_53 g293_43 hT_44 hA0 rfl rfl (fun t53 => ?_)
            have t53 : τ (ρ a0 19) = some 49 := t53
            refine pw_bipush d293_56 (by decide) ?_
            refine pw_iload_n d293_58 rfl ?_
            refine pw_imul d293_59 ?_
            refine pw_iload_n d293_60 rfl ?_
            refine pw_iadd d293_61 ?_
            refine pw_aload_n d293_62 rfl ?_
            refine pw_aload_n d293_63 rfl ?_
            refine pw_getR d293_64 g293_47 hT_44 hA0 rfl rfl (fun t64 => ?_)
            have t64 : τ (ρ a0 20) = some 50 := t64
            refine pw_iload_n d293_67 rfl ?_
            refine pw_iald d293_68 hT_44 t64 rfl rfl (by omega) (by omega) (fun u68 vu68 => ?_)
            refine pw_aload_n d293_69 rfl ?_
            refine pw_getR d293_70 g293_47 hT_44 hA0 rfl rfl (fun t70 => ?_)
            have t70 : τ (ρ a0 20) = some 50 := t70
            refine pw_iload_n d293_73 rfl ?_
            refine pw_iald d293_74 hT_44 t70 rfl rfl (by omega) (by omega) (fun u74 vu74 => ?_)
            refine pw_callV2 d293_75 k293_435 hT_44 hA0 rfl rfl rfl (ct295F (τ := τ) (ρ := ρ) hT_44 hA0 (by omega) (by omega)) (fun r75 h75 q75 => ?_)
            obtain ⟨eh75, z75, ez75, lz75, uz75, pz75_0⟩ := q75
            subst eh75
            subst ez75
            refine pw_last d293_78 hT_44 t53 rfl rfl rfl (by omega) (by omega) (by omega) (fun h78 T78 F78 E78 => ?_)
            have f78 := hF_44.tr (F78.up (by decide))
            have q78 := ((F78 a0 7 hA0).1 21 (by decide)).1
            refine pw_iinc d293_79 m293 rfl rfl rfl ?_
            refine pw_goto d293_82 rfl ?_
            exact ih44 h78 ((xL2_44 + 1)) T78 f78 (by omega) (by omega) (by omega)
      refine pw_iload_n d293_34 rfl ?_
      refine pw_aload_n d293_35 rfl ?_
      refine pw_getI d293_36 g293_429 hT_34 hA0 rfl rfl (fun u36 vu36 => ?_)
      refine pw_icmp_ge d293_39 rfl (by omega) (by omega) (fun c39 => ?_) (fun c39 => ?_)
      · refine pw_aload_n d293_91 rfl ?_
        refine pw_aload_n d293_92 rfl ?_
        refine pw_getI d293_93 g293_429 hT_34 hA0 rfl rfl (fun u93 vu93 => ?_)
        refine pw_callV1 d293_96 k293_439 hT_34 hA0 rfl rfl rfl (ct296 (τ := τ) (ρ := ρ) hT_34 hA0 (by omega)) (fun r96 h96 q96 => ?_)
        obtain ⟨T96, F96, z96, ez96, lz96, uz96, pz96_0⟩ := q96
        subst ez96
        have f96 := hF_34.tr (F96.up (by decide))
        have q96b := ((F96 a0 7 hA0).1 21 (by decide)).1
        exact pw_lreturn d293_99 tt293 ⟨T96, f96, z96, rfl, (by omega), (by omega)⟩
      · refine pw_iconst d293_42 ?_
        refine pw_istore_n d293_43 m293 rfl rfl ?_
        exact L44 _ h_34 (0) hT_34 hF_34 (by omega) (by omega) (pv_mu _)
  refine pw_aload_n d293_0 rfl ?_
  refine pw_callV0 d293_1 k293_216 hT hA0 rfl rfl rfl (ct216 (τ := τ) (ρ := ρ) hT hA0) (fun r1 h1 q1 => ?_)
  obtain ⟨eh1, z1, ez1, lz1, uz1, pz1_0⟩ := q1
  subst eh1
  subst ez1
  refine pw_if_eq d293_4 rfl (by omega) (fun c4 => ?_) (fun c4 => ?_)
  · refine pw_lconst (z := 0) d293_20 (by decide) ?_
    exact pw_lreturn d293_21 tt293 ⟨hT, hF0, 0, rfl, (by omega), (by omega)⟩
  · refine pw_aload_n d293_7 rfl ?_
    refine pw_aload_n d293_8 rfl ?_
    refine pw_callV0 d293_9 k293_259 hT hA0 rfl rfl rfl (ct226F (τ := τ) (ρ := ρ) hT hA0) (fun r9 h9 q9 => ?_)
    obtain ⟨eh9, z9, ez9, lz9, uz9, pz9_0⟩ := q9
    subst eh9
    subst ez9
    refine pw_iconst d293_12 ?_
    refine pw_callV2 d293_13 k293_274 hT hA0 rfl rfl rfl (ct232F (τ := τ) (ρ := ρ) hT hA0 (by omega) (by omega)) (fun r13 h13 q13 => ?_)
    obtain ⟨eh13, z13, ez13, lz13, uz13, pz13_0⟩ := q13
    subst eh13
    subst ez13
    refine pw_iconst d293_16 ?_
    refine pw_icmp_eq d293_17 rfl (by omega) (by omega) (fun c17 => ?_) (fun c17 => ?_)
    · refine pw_aload_n d293_22 rfl ?_
      refine pw_aload_n d293_23 rfl ?_
      refine pw_iconst d293_24 ?_
      refine pw_iconst d293_25 ?_
      refine pw_callV2 d293_26 k293_219 hT hA0 rfl rfl rfl (ct212 (τ := τ) (ρ := ρ) hT hA0 (by omega) (by omega)) (fun r26 h26 q26 => ?_)
      obtain ⟨eh26, z26, ez26, lz26, uz26, pz26_0, pz26_1⟩ := q26
      subst eh26
      subst ez26
      refine pw_callV1 d293_29 k293_432 hT hA0 rfl rfl rfl (ct294 (τ := τ) (ρ := ρ) hT hA0 (by omega)) (fun r29 h29 q29 => ?_)
      obtain ⟨T29, F29, ez29, pz29_0⟩ := q29
      subst ez29
      have f29 := hF0.tr (F29.up (by decide))
      refine pw_iconst d293_32 ?_
      refine pw_istore_n d293_33 m293 rfl rfl ?_
      exact L34 _ h29 (0) _ T29 f29 (by omega) (pv_mu _)
    · refine pw_lconst (z := 0) d293_20 (by decide) ?_
      exact pw_lreturn d293_21 tt293 ⟨hT, hF0, 0, rfl, (by omega), (by omega)⟩

abbrev Q292 (τ : Nat → Option Nat) (ρ : Nat → Nat → Nat) (h : pv_H) (a0 : Nat) : Option Value → pv_H → Prop := fun r h' => pv_Ty τ ρ h' ∧ pv_Fr τ [469, 3199, 3263] h h' ∧ ∃ z : Int, r = some (.long (pv_J z)) ∧ (-9223372036854775808) ≤ z ∧ z ≤ 9223372036854775807
set_option maxHeartbeats 4000000 in
set_option maxRecDepth 20000 in
/-- AngleNetModel.trees()J -/
theorem ct292 {τ : Nat → Option Nat} {ρ : Nat → Nat → Nat} {K : Nat → Nat} {h : pv_H} {a0 : Nat} (hT : pv_Ty τ ρ h) (hA0 : τ a0 = some 7) : pv_C K 292 [.ref a0] h (Q292 τ ρ h a0) := by
  refine pw_entry 0 ?_
  show pv_T K 292 0 (pv_fl [some (.ref a0)]) [] h (Q292 τ ρ h a0)
  have hF0 : pv_Fr τ [469, 3199, 3263] h h := pv_Fr.rf
  refine pw_aload_n d292_0 rfl ?_
  refine pw_callV0 d292_1 k292_283 hT hA0 rfl rfl rfl (ct224 (τ := τ) (ρ := ρ) hT hA0) (fun r1 h1 q1 => ?_)
  obtain ⟨eh1, z1, ez1, lz1, uz1⟩ := q1
  subst eh1
  subst ez1
  refine pw_if_eq d292_4 rfl (by omega) (fun c4 => ?_) (fun c4 => ?_)
  · refine pw_ldc2 (v := pv_J (-2)) d292_14 n292_14 ?_
    exact pw_lreturn d292_17 tt292 ⟨hT, hF0, (-2), rfl, (by omega), (by omega)⟩
  · refine pw_aload_n d292_7 rfl ?_
    refine pw_callV0 d292_8 k292_443 hT hA0 rfl rfl rfl (ct293 (τ := τ) (ρ := ρ) hT hA0) (fun r8 h8 q8 => ?_)
    obtain ⟨T8, F8, z8, ez8, lz8, uz8⟩ := q8
    subst ez8
    have f8 := hF0.tr (F8.up (by decide))
    refine pw_goto d292_11 rfl ?_
    exact pw_lreturn d292_17 tt292 ⟨T8, f8, z8, rfl, (by omega), (by omega)⟩

abbrev Q298 (τ : Nat → Option Nat) (ρ : Nat → Nat → Nat) (h : pv_H) (a0 : Nat) (x1 : Int) (x2 : Int) (x3 : Int) : Option Value → pv_H → Prop := fun r h' => pv_Ty τ ρ h' ∧ pv_Fr τ [469, 3199, 3263] h h' ∧ ∃ z : Int, r = some (.long (pv_J z)) ∧ (-9223372036854775808) ≤ z ∧ z ≤ 9223372036854775807
set_option maxHeartbeats 4000000 in
set_option maxRecDepth 20000 in
/-- AngleNetModel.height(III)J -/
theorem ct298 {τ : Nat → Option Nat} {ρ : Nat → Nat → Nat} {K : Nat → Nat} {h : pv_H} {a0 : Nat} {x1 : Int} {x2 : Int} {x3 : Int} (hT : pv_Ty τ ρ h) (hA0 : τ a0 = some 7) (hX1 : (-2147483648) ≤ x1 ∧ x1 ≤ 2147483647) (hX2 : (-2147483648) ≤ x2 ∧ x2 ≤ 2147483647) (hX3 : (-2147483648) ≤ x3 ∧ x3 ≤ 2147483647) : pv_C K 298 [.ref a0, .int (pv_I x1), .int (pv_I x2), .int (pv_I x3)] h (Q298 τ ρ h a0 x1 x2 x3) := by
  refine pw_entry 0 ?_
  show pv_T K 298 0 (pv_fl [some (.ref a0), some (.int (pv_I x1)), some (.int (pv_I x2)), some (.int (pv_I x3))]) [] h (Q298 τ ρ h a0 x1 x2 x3)
  have hF0 : pv_Fr τ [469, 3199, 3263] h h := pv_Fr.rf
  refine pw_aload_n d298_0 rfl ?_
  refine pw_iload_n d298_1 rfl ?_
  refine pw_iload_n d298_2 rfl ?_
  refine pw_callV2 d298_3 k298_461 hT hA0 rfl rfl rfl (ct299F (τ := τ) (ρ := ρ) hT hA0 (by omega) (by omega)) (fun r3 h3 q3 => ?_)
  obtain ⟨eh3, z3, ez3, lz3, uz3, pz3_0⟩ := q3
  subst eh3
  subst ez3
  refine pw_if_eq d298_6 rfl (by omega) (fun c6 => ?_) (fun c6 => ?_)
  · refine pw_ldc2 (v := pv_J (-2)) d298_28 n298_28 ?_
    exact pw_lreturn d298_31 tt298 ⟨hT, hF0, (-2), rfl, (by omega), (by omega)⟩
  · refine pw_aload_n d298_9 rfl ?_
    refine pw_iload_n d298_10 rfl ?_
    refine pw_callV1 d298_11 k298_77 hT hA0 rfl rfl rfl (ct214 (τ := τ) (ρ := ρ) hT hA0 (by omega)) (fun r11 h11 q11 => ?_)
    obtain ⟨eh11, z11, ez11, lz11, uz11, pz11_0⟩ := q11
    subst eh11
    subst ez11
    refine pw_if_eq d298_14 rfl (by omega) (fun c14 => ?_) (fun c14 => ?_)
    · refine pw_ldc2 (v := pv_J (-2)) d298_28 n298_28 ?_
      exact pw_lreturn d298_31 tt298 ⟨hT, hF0, (-2), rfl, (by omega), (by omega)⟩
    · refine pw_aload_n d298_17 rfl ?_
      refine pw_callV0 d298_18 k298_259 hT hA0 rfl rfl rfl (ct226F (τ := τ) (ρ := ρ) hT hA0) (fun r18 h18 q18 => ?_)
      obtain ⟨eh18, z18, ez18, lz18, uz18, pz18_0⟩ := q18
      subst eh18
      subst ez18
      refine pw_iload_n d298_21 rfl ?_
      refine pw_ishr d298_22 (fun z22 hz22 ez22 => ?_)
      refine pw_iconst d298_23 ?_
      refine pw_iand d298_24 (fun z24 hz24 ez24 => ?_)
      have bz24 := pv_and1_b hz24 ez24
      refine pw_if_ne d298_25 rfl (by omega) (fun c25 => ?_) (fun c25 => ?_)
      · refine pw_aload_n d298_32 rfl ?_
        refine pw_iload_n d298_33 rfl ?_
        refine pw_iload_n d298_34 rfl ?_
        refine pw_iload_n d298_35 rfl ?_
        refine pw_callV3 d298_36 k298_449 hT hA0 rfl rfl rfl (ct300 (τ := τ) (ρ := ρ) hT hA0 (by omega) (by omega) (by omega)) (fun r36 h36 q36 => ?_)
        obtain ⟨T36, F36, z36, ez36, lz36, uz36, pz36_0, pz36_1⟩ := q36
        subst ez36
        have f36 := hF0.tr (F36.up (by decide))
        exact pw_lreturn d298_39 tt298 ⟨T36, f36, z36, rfl, (by omega), (by omega)⟩
      · refine pw_ldc2 (v := pv_J (-2)) d298_28 n298_28 ?_
        exact pw_lreturn d298_31 tt298 ⟨hT, hF0, (-2), rfl, (by omega), (by omega)⟩

abbrev Q301 (τ : Nat → Option Nat) (ρ : Nat → Nat → Nat) (h : pv_H) (a0 : Nat) (x1 : Int) (x2 : Int) (x3 : Int) : Option Value → pv_H → Prop := fun r h' => pv_Ty τ ρ h' ∧ pv_Fr τ [469, 3199, 3263, 3327] h h' ∧ ∃ z : Int, r = some (.long (pv_J z)) ∧ (-9223372036854775808) ≤ z ∧ z ≤ 9223372036854775807
set_option maxHeartbeats 4000000 in
set_option maxRecDepth 20000 in
/-- AngleNetModel.flow(III)J -/
theorem ct301 {τ : Nat → Option Nat} {ρ : Nat → Nat → Nat} {K : Nat → Nat} {h : pv_H} {a0 : Nat} {x1 : Int} {x2 : Int} {x3 : Int} (hT : pv_Ty τ ρ h) (hA0 : τ a0 = some 7) (hX1 : (-2147483648) ≤ x1 ∧ x1 ≤ 2147483647) (hX2 : (-2147483648) ≤ x2 ∧ x2 ≤ 2147483647) (hX3 : (-2147483648) ≤ x3 ∧ x3 ≤ 2147483647) : pv_C K 301 [.ref a0, .int (pv_I x1), .int (pv_I x2), .int (pv_I x3)] h (Q301 τ ρ h a0 x1 x2 x3) := by
  refine pw_entry 4 ?_
  show pv_T K 301 0 (pv_fl [some (.ref a0), some (.int (pv_I x1)), some (.int (pv_I x2)), some (.int (pv_I x3)), none, none, none, none]) [] h (Q301 τ ρ h a0 x1 x2 x3)
  have hF0 : pv_Fr τ [469, 3199, 3263, 3327] h h := pv_Fr.rf
  have L56 : ∀ (nn : Nat) (h_56 : pv_H) (xL4_56 xL6_56 : Int) (o1_56 o2_56 o3_56 o5_56 o7_56 : Option Value), (pv_Ty τ ρ h_56) → (pv_Fr τ [469, 3199, 3263, 3327] h h_56) → ((-9223372036854775808) ≤ xL4_56 ∧ xL4_56 ≤ 9223372036854775807) → (0 ≤ xL6_56 ∧ xL6_56 ≤ 10) → 10 - xL6_56 < nn → pv_T K 301 56 (pv_fl [some (.ref a0), o1_56, o2_56, o3_56, some (.long (pv_J xL4_56)), o5_56, some (.int (pv_I xL6_56)), o7_56]) [] h_56 (Q301 τ ρ h a0 x1 x2 x3) := by
    intro nn
    induction nn with
    | zero => intro h_56 xL4_56 xL6_56 o1_56 o2_56 o3_56 o5_56 o7_56 hT_56 hF_56 rL4_56 rL6_56 hm; exfalso; omega
    | succ nn ih56 =>
      intro h_56 xL4_56 xL6_56 o1_56 o2_56 o3_56 o5_56 o7_56 hT_56 hF_56 rL4_56 rL6_56 hm56
      have L70 : ∀ (nn : Nat) (xL4_70 xL7_70 : Int) (o1_70 o2_70 o3_70 o5_70 : Option Value), ((-9223372036854775808) ≤ xL4_70 ∧ xL4_70 ≤ 9223372036854775807) → (0 ≤ xL6_56 ∧ xL6_56 ≤ 9) → (0 ≤ xL7_70 ∧ xL7_70 ≤ 10) → 10 - xL7_70 < nn → pv_T K 301 70 (pv_fl [some (.ref a0), o1_70, o2_70, o3_70, some (.long (pv_J xL4_70)), o5_70, some (.int (pv_I xL6_56)), some (.int (pv_I xL7_70))]) [] h_56 (Q301 τ ρ h a0 x1 x2 x3) := by
        intro nn
        induction nn with
        | zero => intro xL4_70 xL7_70 o1_70 o2_70 o3_70 o5_70 rL4_70 rL6_70 rL7_70 hm; exfalso; omega
        | succ nn ih70 =>
          intro xL4_70 xL7_70 o1_70 o2_70 o3_70 o5_70 rL4_70 rL6_70 rL7_70 hm70
          have J113 : ∀ (xS0_113 xS1_113 : Int) (o1_113 o2_113 o3_113 o4_113 o5_113 : Option Value), (1 ≤ xL6_56 ∧ xL6_56 ≤ 9) → (0 ≤ xL7_70 ∧ xL7_70 ≤ 9) → (0 ≤ xS0_113 ∧ xS0_113 ≤ 1) → ((-9223372036854775808) ≤ xS1_113 ∧ xS1_113 ≤ 9223372036854775807) → pv_T K 301 113 (pv_fl [some (.ref a0), o1_113, o2_113, o3_113, o4_113, o5_113, some (.int (pv_I xL6_56)), some (.int (pv_I xL7_70))]) [.long (pv_J xS0_113), .long (pv_J xS1_113)] h_56 (Q301 τ ρ h a0 x1 x2 x3) := by
            intro xS0_113 xS1_113 o1_113 o2_113 o3_113 o4_113 o5_113 rL6_113 rL7_113 rS0_113 rS1_113
            refine pw_ladd d301_113 ?_
            refine pw_anyl (fun z114 hz114 ez114 => ?_)
            refine pw_lstore d301_114 m301 rfl rfl ?_
            refine pw_iinc d301_116 m301 rfl rfl rfl ?_
            refine pw_goto d301_119 rfl ?_
            exact ih70 (z114) ((xL7_70 + 1)) _ _ _ _ (by omega) (by omega) (by omega) (by omega)
          have J112 : ∀ (xS0_112 : Int) (o1_112 o2_112 o3_112 o4_112 o5_112 : Option Value), (1 ≤ xL6_56 ∧ xL6_56 ≤ 9) → (0 ≤ xL7_70 ∧ xL7_70 ≤ 9) → ((-9223372036854775808) ≤ xS0_112 ∧ xS0_112 ≤ 9223372036854775807) → pv_T K 301 112 (pv_fl [some (.ref a0), o1_112, o2_112, o3_112, o4_112, o5_112, some (.int (pv_I xL6_56)), some (.int (pv_I xL7_70))]) [.long (pv_J xS0_112)] h_56 (Q301 τ ρ h a0 x1 x2 x3) := by
            intro xS0_112 o1_112 o2_112 o3_112 o4_112 o5_112 rL6_112 rL7_112 rS0_112
            refine pw_lconst (z := 0) d301_112 (by decide) ?_
            exact J113 (0) (xS0_112) _ _ _ _ _ (by omega) (by omega) (by omega) (by omega)
          refine pw_iload d301_70 rfl ?_
          refine pw_iload d301_72 rfl ?_
          refine pw_icmp_ge d301_74 rfl (by omega) (by omega) (fun c74 => ?_) (fun c74 => ?_)
          · refine pw_iinc d301_122 m301 rfl rfl rfl ?_
            refine pw_goto d301_125 rfl ?_
            exact ih56 h_56 (xL4_70) ((xL6_56 + 1)) _ _ _ _ _ hT_56 hF_56 (by omega) (by omega) (by omega)
          · refine pw_lload d301_77 rfl ?_
            refine pw_aload_n d301_79 rfl ?_
            refine pw_iload d301_80 rfl ?_
            refine pw_iload d301_82 rfl ?_
            refine pw_callV2 d301_84 k301_221 hT_56 hA0 rfl rfl rfl (ct217F (τ := τ) (ρ := ρ) hT_56 hA0 (by omega) (by omega)) (fun r84 h84 q84 => ?_)
            obtain ⟨eh84, z84, ez84, lz84, uz84, pz84_0⟩ := q84
            subst eh84
            subst ez84
            refine pw_if_eq d301_87 rfl (by omega) (fun c87 => ?_) (fun c87 => ?_)
            · exact J112 (xL4_70) _ _ _ _ _ (by omega) (by omega) (by omega)
            · refine pw_aload_n d301_90 rfl ?_
              refine pw_getR d301_91 g301_50 hT_56 hA0 rfl rfl (fun t91 => ?_)
              have t91 : τ (ρ a0 22) = some 51 := t91
              refine pw_iload d301_94 rfl ?_
              refine pw_lald d301_96 hT_56 t91 rfl rfl (by omega) (by omega) (fun u96 => ?_)
              refine pw_aload_n d301_97 rfl ?_
              refine pw_getR d301_98 g301_50 hT_56 hA0 rfl rfl (fun t98 => ?_)
              have t98 : τ (ρ a0 22) = some 51 := t98
              refine pw_iload d301_101 rfl ?_
              refine pw_lald d301_103 hT_56 t98 rfl rfl (by omega) (by omega) (fun u103 => ?_)
              refine pw_lcmp d301_104 (by omega) (by omega) (fun z104 ez104 => ?_)
              refine pw_if_ne d301_105 rfl (by omega) (fun c105 => ?_) (fun c105 => ?_)
              · exact J112 (xL4_70) _ _ _ _ _ (by omega) (by omega) (by omega)
              · refine pw_lconst (z := 1) d301_108 (by decide) ?_
                refine pw_goto d301_109 rfl ?_
                exact J113 (1) (xL4_70) _ _ _ _ _ (by omega) (by omega) (by omega) (by omega)
      refine pw_iload d301_56 rfl ?_
      refine pw_aload_n d301_58 rfl ?_
      refine pw_getR d301_59 g301_9 hT_56 hA0 rfl rfl (fun t59 => ?_)
      have t59 : τ (ρ a0 1) = some 40 := t59
      refine pw_iconst d301_62 ?_
      refine pw_ialdB d301_63 hT_56 t59 rfl rfl (by omega) (by omega) (fun u63 => ?_)
      have u63 : pv_wok ((0 : Int)) (pv_aI h_56 (ρ a0 1) ((0 : Int)).toNat) := u63
      have vu63 := u63.2.1 (by omega)
      refine pw_icmp_ge d301_64 rfl (by omega) (by omega) (fun c64 => ?_) (fun c64 => ?_)
      · refine pw_lload d301_128 rfl ?_
        exact pw_lreturn d301_130 tt301 ⟨hT_56, hF_56, xL4_56, rfl, (by omega), (by omega)⟩
      · refine pw_iconst d301_67 ?_
        refine pw_istore d301_68 m301 rfl rfl ?_
        exact L70 _ (xL4_56) (0) _ _ _ _ (by omega) (by omega) (by omega) (pv_mu _)
  refine pw_aload_n d301_0 rfl ?_
  refine pw_iload_n d301_1 rfl ?_
  refine pw_iload_n d301_2 rfl ?_
  refine pw_callV2 d301_3 k301_461 hT hA0 rfl rfl rfl (ct299F (τ := τ) (ρ := ρ) hT hA0 (by omega) (by omega)) (fun r3 h3 q3 => ?_)
  obtain ⟨eh3, z3, ez3, lz3, uz3, pz3_0⟩ := q3
  subst eh3
  subst ez3
  refine pw_if_eq d301_6 rfl (by omega) (fun c6 => ?_) (fun c6 => ?_)
  · refine pw_ldc2 (v := pv_J (-2)) d301_21 n301_21 ?_
    exact pw_lreturn d301_24 tt301 ⟨hT, hF0, (-2), rfl, (by omega), (by omega)⟩
  · refine pw_iload_n d301_9 rfl ?_
    refine pw_i2l d301_10 (by omega) ?_
    refine pw_lconst (z := 0) d301_11 (by decide) ?_
    refine pw_ldc2 (v := pv_J 2) d301_12 n301_12 ?_
    refine pw_callS3 d301_15 k301_73 rfl rfl (ct184 (τ := τ) (ρ := ρ) (by omega) (by omega) (by omega)) (fun r15 h15 q15 => ?_)
    obtain ⟨eh15, z15, ez15, lz15, uz15, pz15_0⟩ := q15
    subst eh15
    subst ez15
    refine pw_if_ne d301_18 rfl (by omega) (fun c18 => ?_) (fun c18 => ?_)
    · refine pw_iload_n d301_25 rfl ?_
      refine pw_if_ne d301_26 rfl (by omega) (fun c26 => ?_) (fun c26 => ?_)
      · refine pw_aload_n d301_34 rfl ?_
        refine pw_iload_n d301_35 rfl ?_
        refine pw_iload_n d301_36 rfl ?_
        refine pw_callV2 d301_37 k301_464 hT hA0 rfl rfl rfl (ct302 (τ := τ) (ρ := ρ) hT hA0 (by omega) (by omega)) (fun r37 h37 q37 => ?_)
        obtain ⟨T37, F37, ez37, pz37_0⟩ := q37
        subst ez37
        have f37 := hF0.tr (F37.up (by decide))
        refine pw_iload_n d301_40 rfl ?_
        refine pw_iconst d301_41 ?_
        refine pw_icmp_ne d301_42 rfl (by omega) (by omega) (fun c42 => ?_) (fun c42 => ?_)
        · refine pw_lconst (z := 0) d301_50 (by decide) ?_
          refine pw_lstore d301_51 m301 rfl rfl ?_
          refine pw_iconst d301_53 ?_
          refine pw_istore d301_54 m301 rfl rfl ?_
          exact L56 _ h37 (0) (0) _ _ _ _ _ T37 f37 (by omega) (by omega) (pv_mu _)
        · refine pw_aload_n d301_45 rfl ?_
          refine pw_callV0 d301_46 k301_468 T37 hA0 rfl rfl rfl (ct303 (τ := τ) (ρ := ρ) T37 hA0) (fun r46 h46 q46 => ?_)
          obtain ⟨eh46, z46, ez46, lz46, uz46, pz46_0⟩ := q46
          subst eh46
          subst ez46
          exact pw_lreturn d301_49 tt301 ⟨T37, f37, z46, rfl, (by omega), (by omega)⟩
      · refine pw_aload_n d301_29 rfl ?_
        refine pw_callV0 d301_30 k301_443 hT hA0 rfl rfl rfl (ct293 (τ := τ) (ρ := ρ) hT hA0) (fun r30 h30 q30 => ?_)
        obtain ⟨T30, F30, z30, ez30, lz30, uz30⟩ := q30
        subst ez30
        have f30 := hF0.tr (F30.up (by decide))
        exact pw_lreturn d301_33 tt301 ⟨T30, f30, z30, rfl, (by omega), (by omega)⟩
    · refine pw_ldc2 (v := pv_J (-2)) d301_21 n301_21 ?_
      exact pw_lreturn d301_24 tt301 ⟨hT, hF0, (-2), rfl, (by omega), (by omega)⟩

abbrev Q305 (τ : Nat → Option Nat) (ρ : Nat → Nat → Nat) (h : pv_H) (a0 : Nat) (x1 : Int) (x2 : Int) (x3 : Int) (x4 : Int) : Option Value → pv_H → Prop := fun r h' => pv_Ty τ ρ h' ∧ pv_Fr τ [469, 3199, 3263, 3327] h h' ∧ ∃ z : Int, r = some (.long (pv_J z)) ∧ (-9223372036854775808) ≤ z ∧ z ≤ 9223372036854775807
set_option maxHeartbeats 4000000 in
set_option maxRecDepth 20000 in
/-- AngleNetModel.through(IIII)J -/
theorem ct305 {τ : Nat → Option Nat} {ρ : Nat → Nat → Nat} {K : Nat → Nat} {h : pv_H} {a0 : Nat} {x1 : Int} {x2 : Int} {x3 : Int} {x4 : Int} (hT : pv_Ty τ ρ h) (hA0 : τ a0 = some 7) (hX1 : (-2147483648) ≤ x1 ∧ x1 ≤ 2147483647) (hX2 : (-2147483648) ≤ x2 ∧ x2 ≤ 2147483647) (hX3 : (-2147483648) ≤ x3 ∧ x3 ≤ 2147483647) (hX4 : (-2147483648) ≤ x4 ∧ x4 ≤ 2147483647) : pv_C K 305 [.ref a0, .int (pv_I x1), .int (pv_I x2), .int (pv_I x3), .int (pv_I x4)] h (Q305 τ ρ h a0 x1 x2 x3 x4) := by
  refine pw_entry 0 ?_
  show pv_T K 305 0 (pv_fl [some (.ref a0), some (.int (pv_I x1)), some (.int (pv_I x2)), some (.int (pv_I x3)), some (.int (pv_I x4))]) [] h (Q305 τ ρ h a0 x1 x2 x3 x4)
  have hR0_1 : τ (ρ a0 1) = some 40 := hT.rf (t' := 40) hA0 rfl rfl
  have hF0 : pv_Fr τ [469, 3199, 3263, 3327] h h := pv_Fr.rf
  refine pw_aload_n d305_0 rfl ?_
  refine pw_iload_n d305_1 rfl ?_
  refine pw_iload_n d305_2 rfl ?_
  refine pw_callV2 d305_3 k305_461 hT hA0 rfl rfl rfl (ct299F (τ := τ) (ρ := ρ) hT hA0 (by omega) (by omega)) (fun r3 h3 q3 => ?_)
  obtain ⟨eh3, z3, ez3, lz3, uz3, pz3_0⟩ := q3
  subst eh3
  subst ez3
  refine pw_if_eq d305_6 rfl (by omega) (fun c6 => ?_) (fun c6 => ?_)
  · refine pw_ldc2 (v := pv_J (-1000000)) d305_29 n305_29 ?_
    exact pw_lreturn d305_32 tt305 ⟨hT, hF0, (-1000000), rfl, (by omega), (by omega)⟩
  · refine pw_aload_n d305_9 rfl ?_
    refine pw_iload_n d305_10 rfl ?_
    refine pw_iload d305_11 rfl ?_
    refine pw_callV2 d305_13 k305_235 hT hA0 rfl rfl rfl (ct220F (τ := τ) (ρ := ρ) hT hA0 (by omega) (by omega)) (fun r13 h13 q13 => ?_)
    obtain ⟨eh13, z13, ez13, lz13, uz13, pz13_0⟩ := q13
    subst eh13
    subst ez13
    refine pw_if_eq d305_16 rfl (by omega) (fun c16 => ?_) (fun c16 => ?_)
    · refine pw_ldc2 (v := pv_J (-1000000)) d305_29 n305_29 ?_
      exact pw_lreturn d305_32 tt305 ⟨hT, hF0, (-1000000), rfl, (by omega), (by omega)⟩
    · refine pw_aload_n d305_19 rfl ?_
      refine pw_iload_n d305_20 rfl ?_
      refine pw_iload d305_21 rfl ?_
      refine pw_callV2 d305_23 k305_221 hT hA0 rfl rfl rfl (ct217F (τ := τ) (ρ := ρ) hT hA0 (by omega) (by omega)) (fun r23 h23 q23 => ?_)
      obtain ⟨eh23, z23, ez23, lz23, uz23, pz23_0⟩ := q23
      subst eh23
      subst ez23
      refine pw_if_ne d305_26 rfl (by omega) (fun c26 => ?_) (fun c26 => ?_)
      · refine pw_aload_n d305_33 rfl ?_
        refine pw_iload_n d305_34 rfl ?_
        refine pw_iload_n d305_35 rfl ?_
        refine pw_callV2 d305_36 k305_464 hT hA0 rfl rfl rfl (ct302 (τ := τ) (ρ := ρ) hT hA0 (by omega) (by omega)) (fun r36 h36 q36 => ?_)
        obtain ⟨T36, F36, ez36, pz36_0⟩ := q36
        subst ez36
        have f36 := hF0.tr (F36.up (by decide))
        refine pw_aload_n d305_39 rfl ?_
        refine pw_getR d305_40 g305_50 T36 hA0 rfl rfl (fun t40 => ?_)
        have t40 : τ (ρ a0 22) = some 51 := t40
        refine pw_iload_n d305_43 rfl ?_
        refine pw_lald d305_44 T36 t40 rfl rfl (by omega) (by omega) (fun u44 => ?_)
        refine pw_aload_n d305_45 rfl ?_
        refine pw_getR d305_46 g305_50 T36 hA0 rfl rfl (fun t46 => ?_)
        have t46 : τ (ρ a0 22) = some 51 := t46
        refine pw_iload d305_49 rfl ?_
        refine pw_lald d305_51 T36 t46 rfl rfl (by omega) (by omega) (fun u51 => ?_)
        refine pw_lsub d305_52 ?_
        refine pw_aload_n d305_53 rfl ?_
        refine pw_callV0 d305_54 k305_468 T36 hA0 rfl rfl rfl (ct303 (τ := τ) (ρ := ρ) T36 hA0) (fun r54 h54 q54 => ?_)
        obtain ⟨eh54, z54, ez54, lz54, uz54, pz54_0⟩ := q54
        subst eh54
        subst ez54
        have nz57 : z54 ≠ 0 := pz54_0 (by rw [F36.aeq hR0_1 (by decide)]; exact pr_fl.diff (pz3_0 (by omega)) (pz36_0 (pz3_0 (by omega))).1 (pz36_0 (pz3_0 (by omega))).2)
        refine pw_ldivU d305_57 (by omega) (by omega) (fun z57 hz57 ez57 => ?_)
        exact pw_lreturn d305_58 tt305 ⟨T36, f36, z57, rfl, (by omega), (by omega)⟩
      · refine pw_ldc2 (v := pv_J (-1000000)) d305_29 n305_29 ?_
        exact pw_lreturn d305_32 tt305 ⟨hT, hF0, (-1000000), rfl, (by omega), (by omega)⟩
