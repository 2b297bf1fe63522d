abbrev Q124W (τ : Nat → Option Nat) (ρ : Nat → Nat → Nat) (h : pv_H) (a0 : Nat) (x1 : Int) (x2 : Int) : Option Value → pv_H → Prop := fun r h' => pv_Ty τ ρ h' ∧ pv_Fr τ [142, 1343, 1407, 1727, 1791, 1855] h h' ∧ ∃ z : Int, r = some (.int (pv_I z)) ∧ (-1) ≤ z ∧ z ≤ 99 ∧ (nk_w τ ρ h')
set_option maxHeartbeats 4000000 in
set_option maxRecDepth 20000 in
/-- AngleNet$Flips.apply(LAngleNet$Net;II)I -/
theorem ct124W {τ : Nat → Option Nat} {ρ : Nat → Nat → Nat} {K : Nat → Nat} {h : pv_H} {a0 : Nat} {x1 : Int} {x2 : Int} (hT : pv_Ty τ ρ h) (hA0 : τ a0 = some 2) (hX1 : 0 ≤ x1 ∧ x1 ≤ 9) (hX2 : 0 ≤ x2 ∧ x2 ≤ 9) (hP0 : nk_w τ ρ h) (hP1 : x1 ≠ x2) : pv_C K 124 [.ref a0, .int (pv_I x1), .int (pv_I x2)] h (Q124W τ ρ h a0 x1 x2) := by
  refine (nk_wrap (Qf := fun τ' => Q124 τ' ρ h a0 x1 x2) (nk_S ρ a0) hT (nk_S_clo hT hA0) (fun τ' hT' e => ct124 hT' ((e a0 (nk_S_t.mpr (Or.inl rfl))).trans hA0) hX1 hX2 (hP0.2 _ hA0) hP1) (fun τ' r h' q => q.2.1) (by decide)).mono (fun r h' q => ?_)
  obtain ⟨⟨q1, q2, z, q3, q4, q5, q6⟩, s⟩ := q
  have w := nk_w.one (S := nk_S ρ a0) hP0 q6 (fun b hb hne => nk_S_no hT hP0.1 hA0 hb hne) s
  exact ⟨q1, q2, z, q3, q4, q5, w⟩

abbrev Q131W (τ : Nat → Option Nat) (ρ : Nat → Nat → Nat) (h : pv_H) (a0 : Nat) : Option Value → pv_H → Prop := fun r h' => pv_Ty τ ρ h' ∧ pv_Fr τ [142, 1343, 1407, 1727, 1791] h h' ∧ ∃ z : Int, r = some (.int (pv_I z)) ∧ 0 ≤ z ∧ z ≤ 1 ∧ (nk_w τ ρ h')
set_option maxHeartbeats 4000000 in
set_option maxRecDepth 20000 in
/-- AngleNet$Flips.takeBack(LAngleNet$Net;)Z -/
theorem ct131W {τ : Nat → Option Nat} {ρ : Nat → Nat → Nat} {K : Nat → Nat} {h : pv_H} {a0 : Nat} (hT : pv_Ty τ ρ h) (hA0 : τ a0 = some 2) (hP0 : nk_w τ ρ h) : pv_C K 131 [.ref a0] h (Q131W τ ρ h a0) := by
  refine (nk_wrap (Qf := fun τ' => Q131 τ' ρ h a0 ) (nk_S ρ a0) hT (nk_S_clo hT hA0) (fun τ' hT' e => ct131 hT' ((e a0 (nk_S_t.mpr (Or.inl rfl))).trans hA0)  (hP0.2 _ hA0)) (fun τ' r h' q => q.2.1) (by decide)).mono (fun r h' q => ?_)
  obtain ⟨⟨q1, q2, z, q3, q4, q5, q6⟩, s⟩ := q
  have w := nk_w.one (S := nk_S ρ a0) hP0 q6 (fun b hb hne => nk_S_no hT hP0.1 hA0 hb hne) s
  exact ⟨q1, q2, z, q3, q4, q5, w⟩

abbrev Q134W (τ : Nat → Option Nat) (ρ : Nat → Nat → Nat) (h : pv_H) (a0 : Nat) : Option Value → pv_H → Prop := fun r h' => pv_Ty τ ρ h' ∧ pv_Fr τ [142, 1343, 1407, 1727, 1791, 1855] h h' ∧ ∃ z : Int, r = some (.int (pv_I z)) ∧ 0 ≤ z ∧ z ≤ 1 ∧ (nk_w τ ρ h')
set_option maxHeartbeats 4000000 in
set_option maxRecDepth 20000 in
/-- AngleNet$Flips.applyAgain(LAngleNet$Net;)Z -/
theorem ct134W {τ : Nat → Option Nat} {ρ : Nat → Nat → Nat} {K : Nat → Nat} {h : pv_H} {a0 : Nat} (hT : pv_Ty τ ρ h) (hA0 : τ a0 = some 2) (hP0 : nk_w τ ρ h) : pv_C K 134 [.ref a0] h (Q134W τ ρ h a0) := by
  refine (nk_wrap (Qf := fun τ' => Q134 τ' ρ h a0 ) (nk_S ρ a0) hT (nk_S_clo hT hA0) (fun τ' hT' e => ct134 hT' ((e a0 (nk_S_t.mpr (Or.inl rfl))).trans hA0)  (hP0.2 _ hA0)) (fun τ' r h' q => q.2.1) (by decide)).mono (fun r h' q => ?_)
  obtain ⟨⟨q1, q2, z, q3, q4, q5, q6⟩, s⟩ := q
  have w := nk_w.one (S := nk_S ρ a0) hP0 q6 (fun b hb hne => nk_S_no hT hP0.1 hA0 hb hne) s
  exact ⟨q1, q2, z, q3, q4, q5, w⟩

abbrev Q15F (τ : Nat → Option Nat) (ρ : Nat → Nat → Nat) (h : pv_H) (a0 : Nat) : Option Value → pv_H → Prop := fun r h' => pv_Ty τ ρ h' ∧ pv_Fr τ [142, 143] h h' ∧ r = none ∧ (nk_k h' ρ a0)
set_option maxHeartbeats 4000000 in
set_option maxRecDepth 20000 in
/-- AngleNet$Net.forgetFlips()V -/
theorem ct15F {τ : Nat → Option Nat} {ρ : Nat → Nat → Nat} {K : Nat → Nat} {h : pv_H} {a0 : Nat} (hT : pv_Ty τ ρ h) (hA0 : τ a0 = some 2) (hP0 : nk_ok h ρ a0) : pv_C K 15 [.ref a0] h (Q15F τ ρ h a0) := by
  refine pw_entry 0 ?_
  show pv_T K 15 0 (pv_fl [some (.ref a0)]) [] h (Q15F τ ρ h a0)
  have hR0_5 : τ (ρ a0 5) = some 20 := hT.rf (t' := 20) hA0 rfl rfl
  have hR0_12 : τ (ρ a0 12) = some 27 := hT.rf (t' := 27) hA0 rfl rfl
  have hF0 : pv_Fr τ [142, 143] h h := pv_Fr.rf
  refine pw_aload_n d15_0 rfl ?_
  refine pw_iconst d15_1 ?_
  refine pw_putI d15_2 g15_66 w2_14 hT hA0 rfl rfl rfl (by omega) (by omega) (fun h2 T2 F2 E2 => ?_)
  have f2 := hF0.tr (F2.up (by decide))
  refine pw_aload_n d15_5 rfl ?_
  refine pw_iconst d15_6 ?_
  refine pw_putI d15_7 g15_69 w2_15 T2 hA0 rfl rfl rfl (by omega) (by omega) (fun h7 T7 F7 E7 => ?_)
  have f7 := f2.tr (F7.up (by decide))
  have q7 := ((F7 a0 2 hA0).1 14 (by decide)).1
  exact pw_return d15_10 tt15 ⟨T7, f7, rfl, (by exact nk_k.non hP0 (by rw [((F7 a0 2 hA0).1 0 (by decide)).1, ((F2 a0 2 hA0).1 0 (by decide)).1]) (by rw [((F7 a0 2 hA0).1 1 (by decide)).1, ((F2 a0 2 hA0).1 1 (by decide)).1]) (by rw [((F7 a0 2 hA0).1 14 (by decide)).1]; exact E2) E7 ((F7.aeq hR0_5 (by decide)).trans (F2.aeq hR0_5 (by decide))) ((F7.aeq hR0_12 (by decide)).trans (F2.aeq hR0_12 (by decide))))⟩

abbrev Q15W (τ : Nat → Option Nat) (ρ : Nat → Nat → Nat) (h : pv_H) (a0 : Nat) : Option Value → pv_H → Prop := fun r h' => pv_Ty τ ρ h' ∧ pv_Fr τ [142, 143] h h' ∧ r = none ∧ (nk_w τ ρ h')
set_option maxHeartbeats 4000000 in
set_option maxRecDepth 20000 in
/-- AngleNet$Net.forgetFlips()V -/
theorem ct15W {τ : Nat → Option Nat} {ρ : Nat → Nat → Nat} {K : Nat → Nat} {h : pv_H} {a0 : Nat} (hT : pv_Ty τ ρ h) (hA0 : τ a0 = some 2) (hP0 : nk_w τ ρ h) : pv_C K 15 [.ref a0] h (Q15W τ ρ h a0) := by
  refine (nk_wrap (Qf := fun τ' => Q15F τ' ρ h a0 ) (nk_S ρ a0) hT (nk_S_clo hT hA0) (fun τ' hT' e => ct15F hT' ((e a0 (nk_S_t.mpr (Or.inl rfl))).trans hA0)  (hP0.2 _ hA0).1) (fun τ' r h' q => q.2.1) (by decide)).mono (fun r h' q => ?_)
  obtain ⟨⟨q1, q2, q3, q6⟩, s⟩ := q
  have w := nk_w.one (S := nk_S ρ a0) hP0 q6 (fun b hb hne => nk_S_no hT hP0.1 hA0 hb hne) s
  exact ⟨q1, q2, q3, w⟩

abbrev Q52W (τ : Nat → Option Nat) (ρ : Nat → Nat → Nat) (h : pv_H) (a0 : Nat) (a1 : Nat) : Option Value → pv_H → Prop := fun r h' => pv_Ty τ ρ h' ∧ pv_Fr τ [128, 129, 130, 131, 132, 142, 143, 1343, 1407, 1471, 1535, 1599, 1663, 1727, 1791, 1855] h h' ∧ r = none ∧ (nk_w τ ρ h')
set_option maxHeartbeats 4000000 in
set_option maxRecDepth 20000 in
/-- AngleNet$Net.copyFrom(LAngleNet$Net;)V -/
theorem ct52W {τ : Nat → Option Nat} {ρ : Nat → Nat → Nat} {K : Nat → Nat} {h : pv_H} {a0 : Nat} {a1 : Nat} (hT : pv_Ty τ ρ h) (hA0 : τ a0 = some 2) (hA1 : τ a1 = some 2) (hP0 : nk_w τ ρ h) : pv_C K 52 [.ref a0, .ref a1] h (Q52W τ ρ h a0 a1) := by
  refine pw_entry 0 ?_
  show pv_T K 52 0 (pv_fl [some (.ref a0), some (.ref a1)]) [] h (Q52W τ ρ h a0 a1)
  have hR1_5 : τ (ρ a1 5) = some 20 := hT.rf (t' := 20) hA1 rfl rfl
  have hR1_12 : τ (ρ a1 12) = some 27 := hT.rf (t' := 27) hA1 rfl rfl
  have hR1_13 : τ (ρ a1 13) = some 28 := hT.rf (t' := 28) hA1 rfl rfl
  have hF0 : pv_Fr τ [128, 129, 130, 131, 132, 142, 143, 1343, 1407, 1471, 1535, 1599, 1663, 1727, 1791, 1855] h h := pv_Fr.rf
  refine pw_aload_n d52_0 rfl ?_
  refine pw_aload_n d52_1 rfl ?_
  refine pw_getI d52_2 g52_41 hT hA1 rfl rfl (fun u2 vu2 => ?_)
  refine pw_putIA d52_5 g52_41 w2_0 hT hA0 rfl rfl rfl (by omega) (by omega) (fun h5 T5 F5 E5 => ?_)
  have f5 := hF0.tr (F5.up (by decide))
  refine pw_aload_n d52_8 rfl ?_
  refine pw_aload_n d52_9 rfl ?_
  refine pw_getI d52_10 g52_45 T5 hA1 rfl rfl (fun u10 vu10 => ?_)
  refine pw_putIA d52_13 g52_45 w2_1 T5 hA0 rfl rfl rfl (by omega) (by omega) (fun h13 T13 F13 E13 => ?_)
  have f13 := f5.tr (F13.up (by decide))
  have q13 := ((F13 a0 2 hA0).1 0 (by decide)).1
  have q13b := ((F13 a1 2 hA1).1 0 (by decide)).1
  refine pw_aload_n d52_16 rfl ?_
  refine pw_aload_n d52_17 rfl ?_
  refine pw_getI d52_18 g52_48 T13 hA1 rfl rfl (fun u18 vu18 => ?_)
  refine pw_putIA d52_21 g52_48 w2_2 T13 hA0 rfl rfl rfl (by omega) (by omega) (fun h21 T21 F21 E21 => ?_)
  have f21 := f13.tr (F21.up (by decide))
  have q21 := ((F21 a0 2 hA0).1 0 (by decide)).1
  have q21b := ((F21 a0 2 hA0).1 1 (by decide)).1
  have q21c := ((F21 a1 2 hA1).1 0 (by decide)).1
  have q21d := ((F21 a1 2 hA1).1 1 (by decide)).1
  refine pw_aload_n d52_24 rfl ?_
  refine pw_aload_n d52_25 rfl ?_
  refine pw_getI d52_26 g52_51 T21 hA1 rfl rfl (fun u26 vu26 => ?_)
  refine pw_putIA d52_29 g52_51 w2_3 T21 hA0 rfl rfl rfl (by omega) (by omega) (fun h29 T29 F29 E29 => ?_)
  have f29 := f21.tr (F29.up (by decide))
  have q29 := ((F29 a0 2 hA0).1 0 (by decide)).1
  have q29b := ((F29 a0 2 hA0).1 1 (by decide)).1
  have q29c := ((F29 a0 2 hA0).1 2 (by decide)).1
  have q29d := ((F29 a1 2 hA1).1 0 (by decide)).1
  have q29e := ((F29 a1 2 hA1).1 1 (by decide)).1
  have q29f := ((F29 a1 2 hA1).1 2 (by decide)).1
  refine pw_aload_n d52_32 rfl ?_
  refine pw_aload_n d52_33 rfl ?_
  refine pw_getI d52_34 g52_54 T29 hA1 rfl rfl (fun u34 vu34 => ?_)
  refine pw_putIA d52_37 g52_54 w2_4 T29 hA0 rfl rfl rfl (by omega) (by omega) (fun h37 T37 F37 E37 => ?_)
  have f37 := f29.tr (F37.up (by decide))
  have q37 := ((F37 a0 2 hA0).1 0 (by decide)).1
  have q37b := ((F37 a0 2 hA0).1 1 (by decide)).1
  have q37c := ((F37 a0 2 hA0).1 2 (by decide)).1
  have q37d := ((F37 a0 2 hA0).1 3 (by decide)).1
  have q37e := ((F37 a1 2 hA1).1 0 (by decide)).1
  have q37f := ((F37 a1 2 hA1).1 1 (by decide)).1
  have q37g := ((F37 a1 2 hA1).1 2 (by decide)).1
  have q37h := ((F37 a1 2 hA1).1 3 (by decide)).1
  refine pw_aload_n d52_40 rfl ?_
  refine pw_aload_n d52_41 rfl ?_
  refine pw_getI d52_42 g52_66 T37 hA1 rfl rfl (fun u42 vu42 => ?_)
  refine pw_putIA d52_45 g52_66 w2_14 T37 hA0 rfl rfl rfl (by omega) (by omega) (fun h45 T45 F45 E45 => ?_)
  have f45 := f37.tr (F45.up (by decide))
  have q45 := ((F45 a0 2 hA0).1 0 (by decide)).1
  have q45b := ((F45 a0 2 hA0).1 1 (by decide)).1
  have q45c := ((F45 a0 2 hA0).1 2 (by decide)).1
  have q45d := ((F45 a0 2 hA0).1 3 (by decide)).1
  have q45e := ((F45 a0 2 hA0).1 4 (by decide)).1
  have q45f := ((F45 a1 2 hA1).1 0 (by decide)).1
  have q45g := ((F45 a1 2 hA1).1 1 (by decide)).1
  have q45h := ((F45 a1 2 hA1).1 2 (by decide)).1
  have q45i := ((F45 a1 2 hA1).1 3 (by decide)).1
  have q45j := ((F45 a1 2 hA1).1 4 (by decide)).1
  refine pw_aload_n d52_48 rfl ?_
  refine pw_aload_n d52_49 rfl ?_
  refine pw_getI d52_50 g52_69 T45 hA1 rfl rfl (fun u50 vu50 => ?_)
  refine pw_putIA d52_53 g52_69 w2_15 T45 hA0 rfl rfl rfl (by omega) (by omega) (fun h53 T53 F53 E53 => ?_)
  have f53 := f45.tr (F53.up (by decide))
  have q53 := ((F53 a0 2 hA0).1 0 (by decide)).1
  have q53b := ((F53 a0 2 hA0).1 1 (by decide)).1
  have q53c := ((F53 a0 2 hA0).1 2 (by decide)).1
  have q53d := ((F53 a0 2 hA0).1 3 (by decide)).1
  have q53e := ((F53 a0 2 hA0).1 4 (by decide)).1
  have q53f := ((F53 a0 2 hA0).1 14 (by decide)).1
  have q53g := ((F53 a1 2 hA1).1 0 (by decide)).1
  have q53h := ((F53 a1 2 hA1).1 1 (by decide)).1
  have q53i := ((F53 a1 2 hA1).1 2 (by decide)).1
  have q53j := ((F53 a1 2 hA1).1 3 (by decide)).1
  have q53k := ((F53 a1 2 hA1).1 4 (by decide)).1
  have q53l := ((F53 a1 2 hA1).1 14 (by decide)).1
  refine pw_aload_n d52_56 rfl ?_
  refine pw_getR d52_57 g52_9 T53 hA1 rfl rfl (fun t57 => ?_)
  have t57 : τ (ρ a1 5) = some 20 := t57
  refine pw_iconst d52_60 ?_
  refine pw_aload_n d52_61 rfl ?_
  refine pw_getR d52_62 g52_9 T53 hA0 rfl rfl (fun t62 => ?_)
  have t62 : τ (ρ a0 5) = some 20 := t62
  refine pw_iconst d52_65 ?_
  refine pw_aload_n d52_66 rfl ?_
  refine pw_getR d52_67 g52_9 T53 hA0 rfl rfl (fun t67 => ?_)
  have t67 : τ (ρ a0 5) = some 20 := t67
  refine pw_alen d52_70 T53 t67 rfl (by decide) ?_
  refine pw_copyT d52_71 k52_72 T53 t57 t67 rfl rfl rfl rfl (by omega) (by omega) (fun h71 T71 F71 E71 => ?_)
  have f71 := f53.tr (F71.up (by decide))
  have q71 := ((F71 a0 2 hA0).1 0 (by decide)).1
  have q71b := ((F71 a0 2 hA0).1 1 (by decide)).1
  have q71c := ((F71 a0 2 hA0).1 2 (by decide)).1
  have q71d := ((F71 a0 2 hA0).1 3 (by decide)).1
  have q71e := ((F71 a0 2 hA0).1 4 (by decide)).1
  have q71f := ((F71 a0 2 hA0).1 14 (by decide)).1
  have q71g := ((F71 a0 2 hA0).1 15 (by decide)).1
  have q71h := ((F71 a1 2 hA1).1 0 (by decide)).1
  have q71i := ((F71 a1 2 hA1).1 1 (by decide)).1
  have q71j := ((F71 a1 2 hA1).1 2 (by decide)).1
  have q71k := ((F71 a1 2 hA1).1 3 (by decide)).1
  have q71l := ((F71 a1 2 hA1).1 4 (by decide)).1
  have q71m := ((F71 a1 2 hA1).1 14 (by decide)).1
  have q71n := ((F71 a1 2 hA1).1 15 (by decide)).1
  refine pw_aload_n d52_74 rfl ?_
  refine pw_getR d52_75 g52_15 T71 hA1 rfl rfl (fun t75 => ?_)
  have t75 : τ (ρ a1 6) = some 21 := t75
  refine pw_iconst d52_78 ?_
  refine pw_aload_n d52_79 rfl ?_
  refine pw_getR d52_80 g52_15 T71 hA0 rfl rfl (fun t80 => ?_)
  have t80 : τ (ρ a0 6) = some 21 := t80
  refine pw_iconst d52_83 ?_
  refine pw_aload_n d52_84 rfl ?_
  refine pw_getR d52_85 g52_15 T71 hA0 rfl rfl (fun t85 => ?_)
  have t85 : τ (ρ a0 6) = some 21 := t85
  refine pw_alen d52_88 T71 t85 rfl (by decide) ?_
  refine pw_copyT d52_89 k52_72 T71 t75 t85 rfl rfl rfl rfl (by omega) (by omega) (fun h89 T89 F89 E89 => ?_)
  have f89 := f71.tr (F89.up (by decide))
  have q89 := ((F89 a0 2 hA0).1 0 (by decide)).1
  have q89b := ((F89 a0 2 hA0).1 1 (by decide)).1
  have q89c := ((F89 a0 2 hA0).1 2 (by decide)).1
  have q89d := ((F89 a0 2 hA0).1 3 (by decide)).1
  have q89e := ((F89 a0 2 hA0).1 4 (by decide)).1
  have q89f := ((F89 a0 2 hA0).1 14 (by decide)).1
  have q89g := ((F89 a0 2 hA0).1 15 (by decide)).1
  have q89h := ((F89 a1 2 hA1).1 0 (by decide)).1
  have q89i := ((F89 a1 2 hA1).1 1 (by decide)).1
  have q89j := ((F89 a1 2 hA1).1 2 (by decide)).1
  have q89k := ((F89 a1 2 hA1).1 3 (by decide)).1
  have q89l := ((F89 a1 2 hA1).1 4 (by decide)).1
  have q89m := ((F89 a1 2 hA1).1 14 (by decide)).1
  have q89n := ((F89 a1 2 hA1).1 15 (by decide)).1
  refine pw_aload_n d52_92 rfl ?_
  refine pw_getR d52_93 g52_18 T89 hA1 rfl rfl (fun t93 => ?_)
  have t93 : τ (ρ a1 7) = some 22 := t93
  refine pw_iconst d52_96 ?_
  refine pw_aload_n d52_97 rfl ?_
  refine pw_getR d52_98 g52_18 T89 hA0 rfl rfl (fun t98 => ?_)
  have t98 : τ (ρ a0 7) = some 22 := t98
  refine pw_iconst d52_101 ?_
  refine pw_aload_n d52_102 rfl ?_
  refine pw_getR d52_103 g52_18 T89 hA0 rfl rfl (fun t103 => ?_)
  have t103 : τ (ρ a0 7) = some 22 := t103
  refine pw_alen d52_106 T89 t103 rfl (by decide) ?_
  refine pw_copyT d52_107 k52_72 T89 t93 t103 rfl rfl rfl rfl (by omega) (by omega) (fun h107 T107 F107 E107 => ?_)
  have f107 := f89.tr (F107.up (by decide))
  have q107 := ((F107 a0 2 hA0).1 0 (by decide)).1
  have q107b := ((F107 a0 2 hA0).1 1 (by decide)).1
  have q107c := ((F107 a0 2 hA0).1 2 (by decide)).1
  have q107d := ((F107 a0 2 hA0).1 3 (by decide)).1
  have q107e := ((F107 a0 2 hA0).1 4 (by decide)).1
  have q107f := ((F107 a0 2 hA0).1 14 (by decide)).1
  have q107g := ((F107 a0 2 hA0).1 15 (by decide)).1
  have q107h := ((F107 a1 2 hA1).1 0 (by decide)).1
  have q107i := ((F107 a1 2 hA1).1 1 (by decide)).1
  have q107j := ((F107 a1 2 hA1).1 2 (by decide)).1
  have q107k := ((F107 a1 2 hA1).1 3 (by decide)).1
  have q107l := ((F107 a1 2 hA1).1 4 (by decide)).1
  have q107m := ((F107 a1 2 hA1).1 14 (by decide)).1
  have q107n := ((F107 a1 2 hA1).1 15 (by decide)).1
  refine pw_aload_n d52_110 rfl ?_
  refine pw_getR d52_111 g52_21 T107 hA1 rfl rfl (fun t111 => ?_)
  have t111 : τ (ρ a1 8) = some 23 := t111
  refine pw_iconst d52_114 ?_
  refine pw_aload_n d52_115 rfl ?_
  refine pw_getR d52_116 g52_21 T107 hA0 rfl rfl (fun t116 => ?_)
  have t116 : τ (ρ a0 8) = some 23 := t116
  refine pw_iconst d52_119 ?_
  refine pw_aload_n d52_120 rfl ?_
  refine pw_getR d52_121 g52_21 T107 hA0 rfl rfl (fun t121 => ?_)
  have t121 : τ (ρ a0 8) = some 23 := t121
  refine pw_alen d52_124 T107 t121 rfl (by decide) ?_
  refine pw_copyT d52_125 k52_72 T107 t111 t121 rfl rfl rfl rfl (by omega) (by omega) (fun h125 T125 F125 E125 => ?_)
  have f125 := f107.tr (F125.up (by decide))
  have q125 := ((F125 a0 2 hA0).1 0 (by decide)).1
  have q125b := ((F125 a0 2 hA0).1 1 (by decide)).1
  have q125c := ((F125 a0 2 hA0).1 2 (by decide)).1
  have q125d := ((F125 a0 2 hA0).1 3 (by decide)).1
  have q125e := ((F125 a0 2 hA0).1 4 (by decide)).1
  have q125f := ((F125 a0 2 hA0).1 14 (by decide)).1
  have q125g := ((F125 a0 2 hA0).1 15 (by decide)).1
  have q125h := ((F125 a1 2 hA1).1 0 (by decide)).1
  have q125i := ((F125 a1 2 hA1).1 1 (by decide)).1
  have q125j := ((F125 a1 2 hA1).1 2 (by decide)).1
  have q125k := ((F125 a1 2 hA1).1 3 (by decide)).1
  have q125l := ((F125 a1 2 hA1).1 4 (by decide)).1
  have q125m := ((F125 a1 2 hA1).1 14 (by decide)).1
  have q125n := ((F125 a1 2 hA1).1 15 (by decide)).1
  refine pw_aload_n d52_128 rfl ?_
  refine pw_getR d52_129 g52_24 T125 hA1 rfl rfl (fun t129 => ?_)
  have t129 : τ (ρ a1 9) = some 24 := t129
  refine pw_iconst d52_132 ?_
  refine pw_aload_n d52_133 rfl ?_
  refine pw_getR d52_134 g52_24 T125 hA0 rfl rfl (fun t134 => ?_)
  have t134 : τ (ρ a0 9) = some 24 := t134
  refine pw_iconst d52_137 ?_
  refine pw_aload_n d52_138 rfl ?_
  refine pw_getR d52_139 g52_24 T125 hA0 rfl rfl (fun t139 => ?_)
  have t139 : τ (ρ a0 9) = some 24 := t139
  refine pw_alen d52_142 T125 t139 rfl (by decide) ?_
  refine pw_copyT d52_143 k52_72 T125 t129 t139 rfl rfl rfl rfl (by omega) (by omega) (fun h143 T143 F143 E143 => ?_)
  have f143 := f125.tr (F143.up (by decide))
  have q143 := ((F143 a0 2 hA0).1 0 (by decide)).1
  have q143b := ((F143 a0 2 hA0).1 1 (by decide)).1
  have q143c := ((F143 a0 2 hA0).1 2 (by decide)).1
  have q143d := ((F143 a0 2 hA0).1 3 (by decide)).1
  have q143e := ((F143 a0 2 hA0).1 4 (by decide)).1
  have q143f := ((F143 a0 2 hA0).1 14 (by decide)).1
  have q143g := ((F143 a0 2 hA0).1 15 (by decide)).1
  have q143h := ((F143 a1 2 hA1).1 0 (by decide)).1
  have q143i := ((F143 a1 2 hA1).1 1 (by decide)).1
  have q143j := ((F143 a1 2 hA1).1 2 (by decide)).1
  have q143k := ((F143 a1 2 hA1).1 3 (by decide)).1
  have q143l := ((F143 a1 2 hA1).1 4 (by decide)).1
  have q143m := ((F143 a1 2 hA1).1 14 (by decide)).1
  have q143n := ((F143 a1 2 hA1).1 15 (by decide)).1
  refine pw_aload_n d52_146 rfl ?_
  refine pw_getR d52_147 g52_27 T143 hA1 rfl rfl (fun t147 => ?_)
  have t147 : τ (ρ a1 10) = some 25 := t147
  refine pw_iconst d52_150 ?_
  refine pw_aload_n d52_151 rfl ?_
  refine pw_getR d52_152 g52_27 T143 hA0 rfl rfl (fun t152 => ?_)
  have t152 : τ (ρ a0 10) = some 25 := t152
  refine pw_iconst d52_155 ?_
  refine pw_aload_n d52_156 rfl ?_
  refine pw_getR d52_157 g52_27 T143 hA0 rfl rfl (fun t157 => ?_)
  have t157 : τ (ρ a0 10) = some 25 := t157
  refine pw_alen d52_160 T143 t157 rfl (by decide) ?_
  refine pw_copyT d52_161 k52_72 T143 t147 t157 rfl rfl rfl rfl (by omega) (by omega) (fun h161 T161 F161 E161 => ?_)
  have f161 := f143.tr (F161.up (by decide))
  have q161 := ((F161 a0 2 hA0).1 0 (by decide)).1
  have q161b := ((F161 a0 2 hA0).1 1 (by decide)).1
  have q161c := ((F161 a0 2 hA0).1 2 (by decide)).1
  have q161d := ((F161 a0 2 hA0).1 3 (by decide)).1
  have q161e := ((F161 a0 2 hA0).1 4 (by decide)).1
  have q161f := ((F161 a0 2 hA0).1 14 (by decide)).1
  have q161g := ((F161 a0 2 hA0).1 15 (by decide)).1
  have q161h := ((F161 a1 2 hA1).1 0 (by decide)).1
  have q161i := ((F161 a1 2 hA1).1 1 (by decide)).1
  have q161j := ((F161 a1 2 hA1).1 2 (by decide)).1
  have q161k := ((F161 a1 2 hA1).1 3 (by decide)).1
  have q161l := ((F161 a1 2 hA1).1 4 (by decide)).1
  have q161m := ((F161 a1 2 hA1).1 14 (by decide)).1
  have q161n := ((F161 a1 2 hA1).1 15 (by decide)).1
  refine pw_aload_n d52_164 rfl ?_
  refine pw_getR d52_165 g52_30 T161 hA1 rfl rfl (fun t165 => ?_)
  have t165 : τ (ρ a1 11) = some 26 := t165
  refine pw_iconst d52_168 ?_
  refine pw_aload_n d52_169 rfl ?_
  refine pw_getR d52_170 g52_30 T161 hA0 rfl rfl (fun t170 => ?_)
  have t170 : τ (ρ a0 11) = some 26 := t170
  refine pw_iconst d52_173 ?_
  refine pw_aload_n d52_174 rfl ?_
  refine pw_getR d52_175 g52_30 T161 hA0 rfl rfl (fun t175 => ?_)
  have t175 : τ (ρ a0 11) = some 26 := t175
  refine pw_alen d52_178 T161 t175 rfl (by decide) ?_
  refine pw_copyT d52_179 k52_72 T161 t165 t175 rfl rfl rfl rfl (by omega) (by omega) (fun h179 T179 F179 E179 => ?_)
  have f179 := f161.tr (F179.up (by decide))
  have q179 := ((F179 a0 2 hA0).1 0 (by decide)).1
  have q179b := ((F179 a0 2 hA0).1 1 (by decide)).1
  have q179c := ((F179 a0 2 hA0).1 2 (by decide)).1
  have q179d := ((F179 a0 2 hA0).1 3 (by decide)).1
  have q179e := ((F179 a0 2 hA0).1 4 (by decide)).1
  have q179f := ((F179 a0 2 hA0).1 14 (by decide)).1
  have q179g := ((F179 a0 2 hA0).1 15 (by decide)).1
  have q179h := ((F179 a1 2 hA1).1 0 (by decide)).1
  have q179i := ((F179 a1 2 hA1).1 1 (by decide)).1
  have q179j := ((F179 a1 2 hA1).1 2 (by decide)).1
  have q179k := ((F179 a1 2 hA1).1 3 (by decide)).1
  have q179l := ((F179 a1 2 hA1).1 4 (by decide)).1
  have q179m := ((F179 a1 2 hA1).1 14 (by decide)).1
  have q179n := ((F179 a1 2 hA1).1 15 (by decide)).1
  refine pw_aload_n d52_182 rfl ?_
  refine pw_getR d52_183 g52_33 T179 hA1 rfl rfl (fun t183 => ?_)
  have t183 : τ (ρ a1 12) = some 27 := t183
  refine pw_iconst d52_186 ?_
  refine pw_aload_n d52_187 rfl ?_
  refine pw_getR d52_188 g52_33 T179 hA0 rfl rfl (fun t188 => ?_)
  have t188 : τ (ρ a0 12) = some 27 := t188
  refine pw_iconst d52_191 ?_
  refine pw_aload_n d52_192 rfl ?_
  refine pw_getR d52_193 g52_33 T179 hA0 rfl rfl (fun t193 => ?_)
  have t193 : τ (ρ a0 12) = some 27 := t193
  refine pw_alen d52_196 T179 t193 rfl (by decide) ?_
  refine pw_copyT d52_197 k52_72 T179 t183 t193 rfl rfl rfl rfl (by omega) (by omega) (fun h197 T197 F197 E197 => ?_)
  have f197 := f179.tr (F197.up (by decide))
  have q197 := ((F197 a0 2 hA0).1 0 (by decide)).1
  have q197b := ((F197 a0 2 hA0).1 1 (by decide)).1
  have q197c := ((F197 a0 2 hA0).1 2 (by decide)).1
  have q197d := ((F197 a0 2 hA0).1 3 (by decide)).1
  have q197e := ((F197 a0 2 hA0).1 4 (by decide)).1
  have q197f := ((F197 a0 2 hA0).1 14 (by decide)).1
  have q197g := ((F197 a0 2 hA0).1 15 (by decide)).1
  have q197h := ((F197 a1 2 hA1).1 0 (by decide)).1
  have q197i := ((F197 a1 2 hA1).1 1 (by decide)).1
  have q197j := ((F197 a1 2 hA1).1 2 (by decide)).1
  have q197k := ((F197 a1 2 hA1).1 3 (by decide)).1
  have q197l := ((F197 a1 2 hA1).1 4 (by decide)).1
  have q197m := ((F197 a1 2 hA1).1 14 (by decide)).1
  have q197n := ((F197 a1 2 hA1).1 15 (by decide)).1
  refine pw_aload_n d52_200 rfl ?_
  refine pw_getR d52_201 g52_38 T197 hA1 rfl rfl (fun t201 => ?_)
  have t201 : τ (ρ a1 13) = some 28 := t201
  refine pw_iconst d52_204 ?_
  refine pw_aload_n d52_205 rfl ?_
  refine pw_getR d52_206 g52_38 T197 hA0 rfl rfl (fun t206 => ?_)
  have t206 : τ (ρ a0 13) = some 28 := t206
  refine pw_iconst d52_209 ?_
  refine pw_aload_n d52_210 rfl ?_
  refine pw_getR d52_211 g52_38 T197 hA0 rfl rfl (fun t211 => ?_)
  have t211 : τ (ρ a0 13) = some 28 := t211
  refine pw_alen d52_214 T197 t211 rfl (by decide) ?_
  refine pw_copyT d52_215 k52_72 T197 t201 t211 rfl rfl rfl rfl (by omega) (by omega) (fun h215 T215 F215 E215 => ?_)
  have f215 := f197.tr (F215.up (by decide))
  have q215 := ((F215 a0 2 hA0).1 0 (by decide)).1
  have q215b := ((F215 a0 2 hA0).1 1 (by decide)).1
  have q215c := ((F215 a0 2 hA0).1 2 (by decide)).1
  have q215d := ((F215 a0 2 hA0).1 3 (by decide)).1
  have q215e := ((F215 a0 2 hA0).1 4 (by decide)).1
  have q215f := ((F215 a0 2 hA0).1 14 (by decide)).1
  have q215g := ((F215 a0 2 hA0).1 15 (by decide)).1
  have q215h := ((F215 a1 2 hA1).1 0 (by decide)).1
  have q215i := ((F215 a1 2 hA1).1 1 (by decide)).1
  have q215j := ((F215 a1 2 hA1).1 2 (by decide)).1
  have q215k := ((F215 a1 2 hA1).1 3 (by decide)).1
  have q215l := ((F215 a1 2 hA1).1 4 (by decide)).1
  have q215m := ((F215 a1 2 hA1).1 14 (by decide)).1
  have q215n := ((F215 a1 2 hA1).1 15 (by decide)).1
  exact pw_return d52_218 tt52 ⟨T215, f215, rfl, (by exact cf_end hP0 hT hA0 hA1 (fun c hc => by rw [((F215 c 2 hc).1 0 (by decide)).1, ((F197 c 2 hc).1 0 (by decide)).1, ((F179 c 2 hc).1 0 (by decide)).1, ((F161 c 2 hc).1 0 (by decide)).1, ((F143 c 2 hc).1 0 (by decide)).1, ((F125 c 2 hc).1 0 (by decide)).1, ((F107 c 2 hc).1 0 (by decide)).1, ((F89 c 2 hc).1 0 (by decide)).1, ((F71 c 2 hc).1 0 (by decide)).1]; simp [E53, E45, E37, E29, E21, E13, E5]) (fun c hc => by rw [((F215 c 2 hc).1 1 (by decide)).1, ((F197 c 2 hc).1 1 (by decide)).1, ((F179 c 2 hc).1 1 (by decide)).1, ((F161 c 2 hc).1 1 (by decide)).1, ((F143 c 2 hc).1 1 (by decide)).1, ((F125 c 2 hc).1 1 (by decide)).1, ((F107 c 2 hc).1 1 (by decide)).1, ((F89 c 2 hc).1 1 (by decide)).1, ((F71 c 2 hc).1 1 (by decide)).1]; simp [E53, E45, E37, E29, E21, E13, E5]) (fun c hc => by rw [((F215 c 2 hc).1 14 (by decide)).1, ((F197 c 2 hc).1 14 (by decide)).1, ((F179 c 2 hc).1 14 (by decide)).1, ((F161 c 2 hc).1 14 (by decide)).1, ((F143 c 2 hc).1 14 (by decide)).1, ((F125 c 2 hc).1 14 (by decide)).1, ((F107 c 2 hc).1 14 (by decide)).1, ((F89 c 2 hc).1 14 (by decide)).1, ((F71 c 2 hc).1 14 (by decide)).1]; simp [E53, E45, E37, E29, E21, E13, E5]) (fun c hc => by rw [((F215 c 2 hc).1 15 (by decide)).1, ((F197 c 2 hc).1 15 (by decide)).1, ((F179 c 2 hc).1 15 (by decide)).1, ((F161 c 2 hc).1 15 (by decide)).1, ((F143 c 2 hc).1 15 (by decide)).1, ((F125 c 2 hc).1 15 (by decide)).1, ((F107 c 2 hc).1 15 (by decide)).1, ((F89 c 2 hc).1 15 (by decide)).1, ((F71 c 2 hc).1 15 (by decide)).1]; simp [E53, E45, E37, E29, E21, E13, E5]) (fun c hc j => by rw [show pv_aI h215 c = pv_aI h71 c from (F215.aeq hc (by decide)).trans ((F197.aeq hc (by decide)).trans ((F179.aeq hc (by decide)).trans ((F161.aeq hc (by decide)).trans ((F143.aeq hc (by decide)).trans ((F125.aeq hc (by decide)).trans ((F107.aeq hc (by decide)).trans (F89.aeq hc (by decide)))))))), E71, show pv_aI h53 (ρ a1 5) = pv_aI h (ρ a1 5) from (F53.aeq hR1_5 (by decide)).trans ((F45.aeq hR1_5 (by decide)).trans ((F37.aeq hR1_5 (by decide)).trans ((F29.aeq hR1_5 (by decide)).trans ((F21.aeq hR1_5 (by decide)).trans ((F13.aeq hR1_5 (by decide)).trans (F5.aeq hR1_5 (by decide))))))), show pv_aI h53 c = pv_aI h c from (F53.aeq hc (by decide)).trans ((F45.aeq hc (by decide)).trans ((F37.aeq hc (by decide)).trans ((F29.aeq hc (by decide)).trans ((F21.aeq hc (by decide)).trans ((F13.aeq hc (by decide)).trans (F5.aeq hc (by decide)))))))]; rfl) (fun c hc j => by rw [show pv_aI h215 c = pv_aI h197 c from F215.aeq hc (by decide), E197, show pv_aI h179 (ρ a1 12) = pv_aI h (ρ a1 12) from (F179.aeq hR1_12 (by decide)).trans ((F161.aeq hR1_12 (by decide)).trans ((F143.aeq hR1_12 (by decide)).trans ((F125.aeq hR1_12 (by decide)).trans ((F107.aeq hR1_12 (by decide)).trans ((F89.aeq hR1_12 (by decide)).trans ((F71.aeq hR1_12 (by decide)).trans ((F53.aeq hR1_12 (by decide)).trans ((F45.aeq hR1_12 (by decide)).trans ((F37.aeq hR1_12 (by decide)).trans ((F29.aeq hR1_12 (by decide)).trans ((F21.aeq hR1_12 (by decide)).trans ((F13.aeq hR1_12 (by decide)).trans (F5.aeq hR1_12 (by decide)))))))))))))), show pv_aI h179 c = pv_aI h c from (F179.aeq hc (by decide)).trans ((F161.aeq hc (by decide)).trans ((F143.aeq hc (by decide)).trans ((F125.aeq hc (by decide)).trans ((F107.aeq hc (by decide)).trans ((F89.aeq hc (by decide)).trans ((F71.aeq hc (by decide)).trans ((F53.aeq hc (by decide)).trans ((F45.aeq hc (by decide)).trans ((F37.aeq hc (by decide)).trans ((F29.aeq hc (by decide)).trans ((F21.aeq hc (by decide)).trans ((F13.aeq hc (by decide)).trans (F5.aeq hc (by decide))))))))))))))]; rfl) (fun c hc j => by rw [show pv_aI h215 c = pv_aI h215 c from rfl, E215, show pv_aI h197 (ρ a1 13) = pv_aI h (ρ a1 13) from (F197.aeq hR1_13 (by decide)).trans ((F179.aeq hR1_13 (by decide)).trans ((F161.aeq hR1_13 (by decide)).trans ((F143.aeq hR1_13 (by decide)).trans ((F125.aeq hR1_13 (by decide)).trans ((F107.aeq hR1_13 (by decide)).trans ((F89.aeq hR1_13 (by decide)).trans ((F71.aeq hR1_13 (by decide)).trans ((F53.aeq hR1_13 (by decide)).trans ((F45.aeq hR1_13 (by decide)).trans ((F37.aeq hR1_13 (by decide)).trans ((F29.aeq hR1_13 (by decide)).trans ((F21.aeq hR1_13 (by decide)).trans ((F13.aeq hR1_13 (by decide)).trans (F5.aeq hR1_13 (by decide))))))))))))))), show pv_aI h197 c = pv_aI h c from (F197.aeq hc (by decide)).trans ((F179.aeq hc (by decide)).trans ((F161.aeq hc (by decide)).trans ((F143.aeq hc (by decide)).trans ((F125.aeq hc (by decide)).trans ((F107.aeq hc (by decide)).trans ((F89.aeq hc (by decide)).trans ((F71.aeq hc (by decide)).trans ((F53.aeq hc (by decide)).trans ((F45.aeq hc (by decide)).trans ((F37.aeq hc (by decide)).trans ((F29.aeq hc (by decide)).trans ((F21.aeq hc (by decide)).trans ((F13.aeq hc (by decide)).trans (F5.aeq hc (by decide)))))))))))))))]; rfl))⟩

abbrev Q123 (τ : Nat → Option Nat) (ρ : Nat → Nat → Nat) (h : pv_H) (a0 : Nat) (x1 : Int) (x2 : Int) : Option Value → pv_H → Prop := fun r h' => pv_Ty τ ρ h' ∧ pv_Fr τ [142, 143, 1343, 1407, 1727, 1791, 1855] h h' ∧ ∃ z : Int, r = some (.int (pv_I z)) ∧ (-1) ≤ z ∧ z ≤ 99 ∧ (nk_w τ ρ h')
set_option maxHeartbeats 4000000 in
set_option maxRecDepth 20000 in
/-- AngleNet.flipAnew(II)I -/
theorem ct123 {τ : Nat → Option Nat} {ρ : Nat → Nat → Nat} {K : Nat → Nat} {h : pv_H} {a0 : Nat} {x1 : Int} {x2 : Int} (hT : pv_Ty τ ρ h) (hA0 : τ a0 = some 0) (hX1 : 0 ≤ x1 ∧ x1 ≤ 9) (hX2 : 0 ≤ x2 ∧ x2 ≤ 9) (hP0 : nk_w τ ρ h) (hP1 : x1 ≠ x2) : pv_C K 123 [.ref a0, .int (pv_I x1), .int (pv_I x2)] h (Q123 τ ρ h a0 x1 x2) := by
  refine pw_entry 1 ?_
  show pv_T K 123 0 (pv_fl [some (.ref a0), some (.int (pv_I x1)), some (.int (pv_I x2)), none]) [] h (Q123 τ ρ h a0 x1 x2)
  have hR0_1 : τ (ρ a0 1) = some 2 := hT.rf (t' := 2) hA0 rfl rfl
  have hF0 : pv_Fr τ [142, 143, 1343, 1407, 1727, 1791, 1855] h h := pv_Fr.rf
  refine pw_aload_n d123_0 rfl ?_
  refine pw_getR d123_1 g123_19 hT hA0 rfl rfl (fun t1 => ?_)
  have t1 : τ (ρ a0 1) = some 2 := t1
  refine pw_iload_n d123_4 rfl ?_
  refine pw_iload_n d123_5 rfl ?_
  refine pw_callS3 d123_6 k123_214 rfl rfl (ct124W (τ := τ) (ρ := ρ) hT t1 (by omega) (by omega) (by first | assumption | omega) (by first | assumption | omega)) (fun r6 h6 q6 => ?_)
  obtain ⟨T6, F6, z6, ez6, lz6, uz6, pz6_0⟩ := q6
  subst ez6
  have f6 := hF0.tr (F6.up (by decide))
  refine pw_istore_n d123_9 m123 rfl rfl ?_
  refine pw_aload_n d123_10 rfl ?_
  refine pw_getR d123_11 g123_19 T6 hA0 rfl rfl (fun t11 => ?_)
  have t11 : τ (ρ a0 1) = some 2 := t11
  refine pw_aload_n d123_14 rfl ?_
  refine pw_getR d123_15 g123_19 T6 hA0 rfl rfl (fun t15 => ?_)
  have t15 : τ (ρ a0 1) = some 2 := t15
  refine pw_getI d123_18 g123_207 T6 t15 rfl rfl (fun u18 vu18 => ?_)
  refine pw_putIA d123_21 g123_217 w2_15 T6 t15 rfl rfl rfl (by omega) (by omega) (fun h21 T21 F21 E21 => ?_)
  have f21 := f6.tr (F21.up (by decide))
  have q21 := ((F21 (ρ a0 1) 2 t15).1 14 (by decide)).1
  refine pw_iload_n d123_24 rfl ?_
  exact pw_ireturn d123_25 tt123 ⟨T21, f21, z6, rfl, (by omega), (by omega), (by exact fa_end pz6_0 T6 F21 E21)⟩

abbrev Q122 (τ : Nat → Option Nat) (ρ : Nat → Nat → Nat) (h : pv_H) (a0 : Nat) (x1 : Int) (x2 : Int) : Option Value → pv_H → Prop := fun r h' => pv_Ty τ ρ h' ∧ pv_Fr τ [142, 143, 1343, 1407, 1727, 1791, 1855] h h' ∧ ∃ z : Int, r = some (.int (pv_I z)) ∧ (-5) ≤ z ∧ z ≤ 99 ∧ (nk_w τ ρ h')
set_option maxHeartbeats 4000000 in
set_option maxRecDepth 20000 in
/-- AngleNet.flip(II)I -/
theorem ct122 {τ : Nat → Option Nat} {ρ : Nat → Nat → Nat} {K : Nat → Nat} {h : pv_H} {a0 : Nat} {x1 : Int} {x2 : Int} (hT : pv_Ty τ ρ h) (hA0 : τ a0 = some 0) (hX1 : (-2147483648) ≤ x1 ∧ x1 ≤ 2147483647) (hX2 : (-2147483648) ≤ x2 ∧ x2 ≤ 2147483647) (hP0 : nk_w τ ρ h) : pv_C K 122 [.ref a0, .int (pv_I x1), .int (pv_I x2)] h (Q122 τ ρ h a0 x1 x2) := by
  refine pw_entry 0 ?_
  show pv_T K 122 0 (pv_fl [some (.ref a0), some (.int (pv_I x1)), some (.int (pv_I x2))]) [] h (Q122 τ ρ h a0 x1 x2)
  have hR0_1 : τ (ρ a0 1) = some 2 := hT.rf (t' := 2) hA0 rfl rfl
  have hF0 : pv_Fr τ [142, 143, 1343, 1407, 1727, 1791, 1855] h h := pv_Fr.rf
  refine pw_aload_n d122_0 rfl ?_
  refine pw_getR d122_1 g122_19 hT hA0 rfl rfl (fun t1 => ?_)
  have t1 : τ (ρ a0 1) = some 2 := t1
  refine pw_iload_n d122_4 rfl ?_
  refine pw_iload_n d122_5 rfl ?_
  refine pw_callV2 d122_6 k122_194 hT t1 rfl rfl rfl (ct47F (τ := τ) (ρ := ρ) hT t1 (by omega) (by omega)) (fun r6 h6 q6 => ?_)
  obtain ⟨eh6, z6, ez6, lz6, uz6, pz6_0, pz6_1⟩ := q6
  subst eh6
  subst ez6
  refine pw_if_ne d122_9 rfl (by omega) (fun c9 => ?_) (fun c9 => ?_)
  · have ok15 := (hP0.2 _ hR0_1).1
    refine pw_aload_n d122_15 rfl ?_
    refine pw_getR d122_16 g122_19 hT hA0 rfl rfl (fun t16 => ?_)
    have t16 : τ (ρ a0 1) = some 2 := t16
    refine pw_iload_n d122_19 rfl ?_
    refine pw_iload_n d122_20 rfl ?_
    refine pw_callS3 d122_21 k122_203 rfl rfl (ct120 (τ := τ) (ρ := ρ) hT t16 (by omega) (by omega) (by first | assumption | omega) (by first | assumption | omega)) (fun r21 h21 q21 => ?_)
    obtain ⟨eh21, z21, ez21, lz21, uz21, pz21_0⟩ := q21
    subst eh21
    subst ez21
    refine pw_if_ne d122_24 rfl (by omega) (fun c24 => ?_) (fun c24 => ?_)
    · refine pw_aload_n d122_30 rfl ?_
      refine pw_getR d122_31 g122_19 hT hA0 rfl rfl (fun t31 => ?_)
      have t31 : τ (ρ a0 1) = some 2 := t31
      refine pw_getI d122_34 g122_207 hT t31 rfl rfl (fun u34 vu34 => ?_)
      refine pw_bipush d122_37 (by decide) ?_
      refine pw_icmp_lt d122_39 rfl (by omega) (by omega) (fun c39 => ?_) (fun c39 => ?_)
      · refine pw_aload_n d122_45 rfl ?_
        refine pw_iload_n d122_46 rfl ?_
        refine pw_iload_n d122_47 rfl ?_
        refine pw_callV2 d122_48 k122_210 hT hA0 rfl rfl rfl (ct123 (τ := τ) (ρ := ρ) hT hA0 (by omega) (by omega) (by first | assumption | omega) (by first | assumption | omega)) (fun r48 h48 q48 => ?_)
        obtain ⟨T48, F48, z48, ez48, lz48, uz48, pz48_0⟩ := q48
        subst ez48
        have f48 := hF0.tr (F48.up (by decide))
        exact pw_ireturn d122_51 tt122 ⟨T48, f48, z48, rfl, (by omega), (by omega), (by first | exact hP0 | assumption)⟩
      · refine pw_bipush d122_42 (by decide) ?_
        exact pw_ireturn d122_44 tt122 ⟨hT, hF0, (-3), rfl, (by omega), (by omega), (by first | exact hP0 | assumption)⟩
    · refine pw_bipush d122_27 (by decide) ?_
      exact pw_ireturn d122_29 tt122 ⟨hT, hF0, (-5), rfl, (by omega), (by omega), (by first | exact hP0 | assumption)⟩
  · refine pw_bipush d122_12 (by decide) ?_
    exact pw_ireturn d122_14 tt122 ⟨hT, hF0, (-2), rfl, (by omega), (by omega), (by first | exact hP0 | assumption)⟩

abbrev Q129 (τ : Nat → Option Nat) (ρ : Nat → Nat → Nat) (h : pv_H) (a0 : Nat) (x1 : Int) : Option Value → pv_H → Prop := fun r h' => pv_Ty τ ρ h' ∧ pv_Fr τ [142, 143, 1343, 1407, 1727, 1791, 1855] h h' ∧ ∃ z : Int, r = some (.int (pv_I z)) ∧ (-2) ≤ z ∧ z ≤ 99 ∧ (nk_w τ ρ h')
set_option maxHeartbeats 4000000 in
set_option maxRecDepth 20000 in
/-- AngleNet.legal(I)I -/
theorem ct129 {τ : Nat → Option Nat} {ρ : Nat → Nat → Nat} {K : Nat → Nat} {h : pv_H} {a0 : Nat} {x1 : Int} (hT : pv_Ty τ ρ h) (hA0 : τ a0 = some 0) (hX1 : (-2147483648) ≤ x1 ∧ x1 ≤ 2147483647) (hP0 : nk_w τ ρ h) : pv_C K 129 [.ref a0, .int (pv_I x1)] h (Q129 τ ρ h a0 x1) := by
  refine pw_entry 2 ?_
  show pv_T K 129 0 (pv_fl [some (.ref a0), some (.int (pv_I x1)), none, none]) [] h (Q129 τ ρ h a0 x1)
  have hR0_1 : τ (ρ a0 1) = some 2 := hT.rf (t' := 2) hA0 rfl rfl
  have hF0 : pv_Fr τ [142, 143, 1343, 1407, 1727, 1791, 1855] h h := pv_Fr.rf
  have L26 : ∀ (nn : Nat) (h_26 : pv_H) (xL2_26 : Int) (o3_26 : Option Value), (pv_Ty τ ρ h_26) → (pv_Fr τ [142, 143, 1343, 1407, 1727, 1791, 1855] h h_26) → (1 ≤ x1 ∧ x1 ≤ 99) → (0 ≤ xL2_26 ∧ xL2_26 ≤ 99) → (nk_w τ ρ h_26) → 99 - xL2_26 < nn → pv_T K 129 26 (pv_fl [some (.ref a0), some (.int (pv_I x1)), some (.int (pv_I xL2_26)), o3_26]) [] h_26 (Q129 τ ρ h a0 x1) := by
    intro nn
    induction nn with
    | zero => intro h_26 xL2_26 o3_26 hT_26 hF_26 rL1_26 rL2_26 i0_26 hm; exfalso; omega
    | succ nn ih26 =>
      intro h_26 xL2_26 o3_26 hT_26 hF_26 rL1_26 rL2_26 i0_26 hm26
      have J54 : ∀ (h_54 : pv_H) (xS0_54 : Int) (o3_54 : Option Value), (pv_Ty τ ρ h_54) → (pv_Fr τ [142, 143, 1343, 1407, 1727, 1791, 1855] h h_54) → (1 ≤ x1 ∧ x1 ≤ 99) → (0 ≤ xL2_26 ∧ xL2_26 ≤ 98) → ((-1) ≤ xS0_54 ∧ xS0_54 ≤ 99) → (nk_w τ ρ h_54) → (xS0_54 = -1 ∨ (0 ≤ xS0_54 ∧ xS0_54 ≤ 99 ∧ xS0_54 / 10 ≠ xS0_54 % 10)) → pv_T K 129 54 (pv_fl [some (.ref a0), some (.int (pv_I x1)), some (.int (pv_I xL2_26)), o3_54]) [.int (pv_I xS0_54)] h_54 (Q129 τ ρ h a0 x1) := by
        intro h_54 xS0_54 o3_54 hT_54 hF_54 rL1_54 rL2_54 rS0_54 i0_54 i1_54
        refine pw_istore_n d129_54 m129 rfl rfl ?_
        refine pw_iload_n d129_55 rfl ?_
        refine pw_iconst d129_56 ?_
        refine pw_icmp_ne d129_57 rfl (by omega) (by omega) (fun c57 => ?_) (fun c57 => ?_)
        · refine pw_aload_n d129_62 rfl ?_
          refine pw_iload_n d129_63 rfl ?_
          refine pw_bipush d129_64 (by decide) ?_
          refine pw_idiv d129_66 (by omega) (by omega) (by omega) (by omega) ?_
          refine pw_iload_n d129_67 rfl ?_
          refine pw_bipush d129_68 (by decide) ?_
          refine pw_irem d129_70 (by omega) (by omega) (by omega) (by omega) ?_
          refine pw_callV2 d129_71 k129_210 hT_54 hA0 rfl rfl rfl (ct123 (τ := τ) (ρ := ρ) hT_54 hA0 (by omega) (by omega) (by first | assumption | omega) (by first | assumption | omega)) (fun r71 h71 q71 => ?_)
          obtain ⟨T71, F71, z71, ez71, lz71, uz71, pz71_0⟩ := q71
          subst ez71
          have f71 := hF_54.tr (F71.up (by decide))
          refine pw_pop d129_74 rfl ?_
          refine pw_iinc d129_75 m129 rfl rfl rfl ?_
          refine pw_goto d129_78 rfl ?_
          exact ih26 h71 ((xL2_26 + 1)) _ T71 f71 (by omega) (by omega) (by first | assumption) (by omega)
        · refine pw_iload_n d129_60 rfl ?_
          exact pw_ireturn d129_61 tt129 ⟨hT_54, hF_54, xL2_26, rfl, (by omega), (by omega), (by first | exact hP0 | assumption)⟩
      refine pw_iload_n d129_26 rfl ?_
      refine pw_iload_n d129_27 rfl ?_
      refine pw_icmp_ge d129_28 rfl (by omega) (by omega) (fun c28 => ?_) (fun c28 => ?_)
      · refine pw_iload_n d129_81 rfl ?_
        exact pw_ireturn d129_82 tt129 ⟨hT_26, hF_26, x1, rfl, (by omega), (by omega), (by first | exact hP0 | assumption)⟩
      · have ok31 := (i0_26.2 _ hR0_1).1
        refine pw_aload_n d129_31 rfl ?_
        refine pw_getR d129_32 g129_19 hT_26 hA0 rfl rfl (fun t32 => ?_)
        have t32 : τ (ρ a0 1) = some 2 := t32
        refine pw_getI d129_35 g129_207 hT_26 t32 rfl rfl (fun u35 vu35 => ?_)
        refine pw_bipush d129_38 (by decide) ?_
        refine pw_icmp_ge d129_40 rfl (by omega) (by omega) (fun c40 => ?_) (fun c40 => ?_)
        · refine pw_iconst d129_53 ?_
          exact J54 h_26 ((-1)) _ hT_26 hF_26 (by omega) (by omega) (by omega) (by first | assumption) (by omega)
        · refine pw_aload_n d129_43 rfl ?_
          refine pw_getR d129_44 g129_19 hT_26 hA0 rfl rfl (fun t44 => ?_)
          have t44 : τ (ρ a0 1) = some 2 := t44
          refine pw_callS1 d129_47 k129_220 rfl rfl (ct128 (τ := τ) (ρ := ρ) hT_26 t44 (by first | assumption | omega)) (fun r47 h47 q47 => ?_)
          obtain ⟨eh47, z47, ez47, lz47, uz47, pz47_0⟩ := q47
          subst eh47
          subst ez47
          refine pw_goto d129_50 rfl ?_
          exact J54 h_26 (z47) _ hT_26 hF_26 (by omega) (by omega) (by omega) (by first | assumption) (by omega)
  refine pw_aload_n d129_0 rfl ?_
  refine pw_getR d129_1 g129_19 hT hA0 rfl rfl (fun t1 => ?_)
  have t1 : τ (ρ a0 1) = some 2 := t1
  refine pw_callV0 d129_4 k129_129 hT t1 rfl rfl rfl (ct64 (τ := τ) (ρ := ρ) hT t1) (fun r4 h4 q4 => ?_)
  obtain ⟨eh4, z4, ez4, lz4, uz4⟩ := q4
  subst eh4
  subst ez4
  refine pw_if_eq d129_7 rfl (by omega) (fun c7 => ?_) (fun c7 => ?_)
  · refine pw_bipush d129_21 (by decide) ?_
    exact pw_ireturn d129_23 tt129 ⟨hT, hF0, (-2), rfl, (by omega), (by omega), (by first | exact hP0 | assumption)⟩
  · refine pw_iload_n d129_10 rfl ?_
    refine pw_iconst d129_11 ?_
    refine pw_icmp_lt d129_12 rfl (by omega) (by omega) (fun c12 => ?_) (fun c12 => ?_)
    · refine pw_bipush d129_21 (by decide) ?_
      exact pw_ireturn d129_23 tt129 ⟨hT, hF0, (-2), rfl, (by omega), (by omega), (by first | exact hP0 | assumption)⟩
    · refine pw_iload_n d129_15 rfl ?_
      refine pw_bipush d129_16 (by decide) ?_
      refine pw_icmp_le d129_18 rfl (by omega) (by omega) (fun c18 => ?_) (fun c18 => ?_)
      · refine pw_iconst d129_24 ?_
        refine pw_istore_n d129_25 m129 rfl rfl ?_
        exact L26 _ h (0) _ hT hF0 (by omega) (by omega) (by first | assumption) (pv_mu _)
      · refine pw_bipush d129_21 (by decide) ?_
        exact pw_ireturn d129_23 tt129 ⟨hT, hF0, (-2), rfl, (by omega), (by omega), (by first | exact hP0 | assumption)⟩

abbrev Q130 (τ : Nat → Option Nat) (ρ : Nat → Nat → Nat) (h : pv_H) (a0 : Nat) : Option Value → pv_H → Prop := fun r h' => pv_Ty τ ρ h' ∧ pv_Fr τ [142, 1343, 1407, 1727, 1791] h h' ∧ ∃ z : Int, r = some (.int (pv_I z)) ∧ 0 ≤ z ∧ z ≤ 1 ∧ (nk_w τ ρ h')
set_option maxHeartbeats 4000000 in
set_option maxRecDepth 20000 in
/-- AngleNet.undo()I -/
theorem ct130 {τ : Nat → Option Nat} {ρ : Nat → Nat → Nat} {K : Nat → Nat} {h : pv_H} {a0 : Nat} (hT : pv_Ty τ ρ h) (hA0 : τ a0 = some 0) (hP0 : nk_w τ ρ h) : pv_C K 130 [.ref a0] h (Q130 τ ρ h a0) := by
  refine pw_entry 0 ?_
  show pv_T K 130 0 (pv_fl [some (.ref a0)]) [] h (Q130 τ ρ h a0)
  have hR0_1 : τ (ρ a0 1) = some 2 := hT.rf (t' := 2) hA0 rfl rfl
  have hF0 : pv_Fr τ [142, 1343, 1407, 1727, 1791] h h := pv_Fr.rf
  refine pw_aload_n d130_0 rfl ?_
  refine pw_getR d130_1 g130_19 hT hA0 rfl rfl (fun t1 => ?_)
  have t1 : τ (ρ a0 1) = some 2 := t1
  refine pw_callS1 d130_4 k130_223 rfl rfl (ct131W (τ := τ) (ρ := ρ) hT t1 (by first | assumption | omega)) (fun r4 h4 q4 => ?_)
  obtain ⟨T4, F4, z4, ez4, lz4, uz4, pz4_0⟩ := q4
  subst ez4
  have f4 := hF0.tr (F4.up (by decide))
  refine pw_if_eq d130_7 rfl (by omega) (fun c7 => ?_) (fun c7 => ?_)
  · refine pw_iconst d130_14 ?_
    exact pw_ireturn d130_15 tt130 ⟨T4, f4, 0, rfl, (by omega), (by omega), (by first | exact hP0 | assumption)⟩
  · refine pw_iconst d130_10 ?_
    refine pw_goto d130_11 rfl ?_
    exact pw_ireturn d130_15 tt130 ⟨T4, f4, 1, rfl, (by omega), (by omega), (by first | exact hP0 | assumption)⟩

abbrev Q133 (τ : Nat → Option Nat) (ρ : Nat → Nat → Nat) (h : pv_H) (a0 : Nat) : Option Value → pv_H → Prop := fun r h' => pv_Ty τ ρ h' ∧ pv_Fr τ [142, 1343, 1407, 1727, 1791, 1855] h h' ∧ ∃ z : Int, r = some (.int (pv_I z)) ∧ 0 ≤ z ∧ z ≤ 1 ∧ (nk_w τ ρ h')
set_option maxHeartbeats 4000000 in
set_option maxRecDepth 20000 in
/-- AngleNet.redo()I -/
theorem ct133 {τ : Nat → Option Nat} {ρ : Nat → Nat → Nat} {K : Nat → Nat} {h : pv_H} {a0 : Nat} (hT : pv_Ty τ ρ h) (hA0 : τ a0 = some 0) (hP0 : nk_w τ ρ h) : pv_C K 133 [.ref a0] h (Q133 τ ρ h a0) := by
  refine pw_entry 0 ?_
  show pv_T K 133 0 (pv_fl [some (.ref a0)]) [] h (Q133 τ ρ h a0)
  have hR0_1 : τ (ρ a0 1) = some 2 := hT.rf (t' := 2) hA0 rfl rfl
  have hF0 : pv_Fr τ [142, 1343, 1407, 1727, 1791, 1855] h h := pv_Fr.rf
  refine pw_aload_n d133_0 rfl ?_
  refine pw_getR d133_1 g133_19 hT hA0 rfl rfl (fun t1 => ?_)
  have t1 : τ (ρ a0 1) = some 2 := t1
  refine pw_callS1 d133_4 k133_226 rfl rfl (ct134W (τ := τ) (ρ := ρ) hT t1 (by first | assumption | omega)) (fun r4 h4 q4 => ?_)
  obtain ⟨T4, F4, z4, ez4, lz4, uz4, pz4_0⟩ := q4
  subst ez4
  have f4 := hF0.tr (F4.up (by decide))
  refine pw_if_eq d133_7 rfl (by omega) (fun c7 => ?_) (fun c7 => ?_)
  · refine pw_iconst d133_14 ?_
    exact pw_ireturn d133_15 tt133 ⟨T4, f4, 0, rfl, (by omega), (by omega), (by first | exact hP0 | assumption)⟩
  · refine pw_iconst d133_10 ?_
    refine pw_goto d133_11 rfl ?_
    exact pw_ireturn d133_15 tt133 ⟨T4, f4, 1, rfl, (by omega), (by omega), (by first | exact hP0 | assumption)⟩

abbrev Q62F (τ : Nat → Option Nat) (ρ : Nat → Nat → Nat) (h : pv_H) (a0 : Nat) (x1 : Int) : Option Value → pv_H → Prop := fun r h' => h = h' ∧ ∃ z : Int, r = some (.int (pv_I z)) ∧ (-1) ≤ z ∧ z ≤ 99 ∧ (z = -1 ∨ (0 ≤ z ∧ z ≤ 99 ∧ z / 10 ≠ z % 10))
set_option maxHeartbeats 4000000 in
set_option maxRecDepth 20000 in
/-- AngleNet$Net.sideNumbered(I)I -/
theorem ct62F {τ : Nat → Option Nat} {ρ : Nat → Nat → Nat} {K : Nat → Nat} {h : pv_H} {a0 : Nat} {x1 : Int} (hT : pv_Ty τ ρ h) (hA0 : τ a0 = some 2) (hX1 : (-2147483648) ≤ x1 ∧ x1 ≤ 2147483647) : pv_C K 62 [.ref a0, .int (pv_I x1)] h (Q62F τ ρ h a0 x1) := by
  refine pw_entry 3 ?_
  show pv_T K 62 0 (pv_fl [some (.ref a0), some (.int (pv_I x1)), none, none, none]) [] h (Q62F τ ρ h a0 x1)
  have L4 : ∀ (nn : Nat) (xL2_4 xL3_4 : Int) (o4_4 : Option Value), ((-2147483648) ≤ x1 ∧ x1 ≤ 2147483647) → ((-2147483648) ≤ xL2_4 ∧ xL2_4 ≤ 2147483647) → (0 ≤ xL3_4 ∧ xL3_4 ≤ 10) → 10 - xL3_4 < nn → pv_T K 62 4 (pv_fl [some (.ref a0), some (.int (pv_I x1)), some (.int (pv_I xL2_4)), some (.int (pv_I xL3_4)), o4_4]) [] h (Q62F τ ρ h a0 x1) := by
    intro nn
    induction nn with
    | zero => intro xL2_4 xL3_4 o4_4 rL1_4 rL2_4 rL3_4 hm; exfalso; omega
    | succ nn ih4 =>
      intro xL2_4 xL3_4 o4_4 rL1_4 rL2_4 rL3_4 hm4
      have L17 : ∀ (nn : Nat) (xL2_17 xL4_17 : Int), ((-2147483648) ≤ x1 ∧ x1 ≤ 2147483647) → ((-2147483648) ≤ xL2_17 ∧ xL2_17 ≤ 2147483647) → (0 ≤ xL3_4 ∧ xL3_4 ≤ 9) → (1 ≤ xL4_17 ∧ xL4_17 ≤ 10) → 10 - xL4_17 < nn → pv_T K 62 17 (pv_fl [some (.ref a0), some (.int (pv_I x1)), some (.int (pv_I xL2_17)), some (.int (pv_I xL3_4)), some (.int (pv_I xL4_17))]) [] h (Q62F τ ρ h a0 x1) := by
        intro nn
        induction nn with
        | zero => intro xL2_17 xL4_17 rL1_17 rL2_17 rL3_17 rL4_17 hm; exfalso; omega
        | succ nn ih17 =>
          intro xL2_17 xL4_17 rL1_17 rL2_17 rL3_17 rL4_17 hm17
          have J52 : ∀ (xL2_52 : Int), ((-2147483648) ≤ x1 ∧ x1 ≤ 2147483647) → ((-2147483648) ≤ xL2_52 ∧ xL2_52 ≤ 2147483647) → (0 ≤ xL3_4 ∧ xL3_4 ≤ 9) → (1 ≤ xL4_17 ∧ xL4_17 ≤ 9) → pv_T K 62 52 (pv_fl [some (.ref a0), some (.int (pv_I x1)), some (.int (pv_I xL2_52)), some (.int (pv_I xL3_4)), some (.int (pv_I xL4_17))]) [] h (Q62F τ ρ h a0 x1) := by
            intro xL2_52 rL1_52 rL2_52 rL3_52 rL4_52
            refine pw_iinc d62_52 m62 rfl rfl rfl ?_
            refine pw_goto d62_55 rfl ?_
            exact ih17 (xL2_52) ((xL4_17 + 1)) (by omega) (by omega) (by omega) (by omega) (by omega)
          refine pw_iload d62_17 rfl ?_
          refine pw_aload_n d62_19 rfl ?_
          refine pw_getI d62_20 g62_41 hT hA0 rfl rfl (fun u20 vu20 => ?_)
          refine pw_icmp_ge d62_23 rfl (by omega) (by omega) (fun c23 => ?_) (fun c23 => ?_)
          · refine pw_iinc d62_58 m62 rfl rfl rfl ?_
            refine pw_goto d62_61 rfl ?_
            exact ih4 (xL2_17) ((xL3_4 + 1)) _ (by omega) (by omega) (by omega) (by omega)
          · refine pw_aload_n d62_26 rfl ?_
            refine pw_iload_n d62_27 rfl ?_
            refine pw_iload d62_28 rfl ?_
            refine pw_callV2 d62_30 k62_94 hT hA0 rfl rfl rfl (ct47F (τ := τ) (ρ := ρ) hT hA0 (by omega) (by omega)) (fun r30 h30 q30 => ?_)
            obtain ⟨eh30, z30, ez30, lz30, uz30, pz30_0, pz30_1⟩ := q30
            subst eh30
            subst ez30
            refine pw_if_eq d62_33 rfl (by omega) (fun c33 => ?_) (fun c33 => ?_)
            · exact J52 (xL2_17) (by omega) (by omega) (by omega) (by omega)
            · refine pw_iload_n d62_36 rfl ?_
              refine pw_iload_n d62_37 rfl ?_
              refine pw_icmp_ne d62_38 rfl (by omega) (by omega) (fun c38 => ?_) (fun c38 => ?_)
              · refine pw_iincU d62_49 m62 rfl rfl rfl (fun z49 hz49 => ?_)
                exact J52 (z49) (by omega) (by omega) (by omega) (by omega)
              · refine pw_bipush d62_41 (by decide) ?_
                refine pw_iload_n d62_43 rfl ?_
                refine pw_imul d62_44 ?_
                refine pw_iload d62_45 rfl ?_
                refine pw_iadd d62_47 ?_
                exact pw_ireturn d62_48 tt62 ⟨rfl, ((10 * xL3_4) + xL4_17), rfl, (by omega), (by omega), (by omega)⟩
      refine pw_iload_n d62_4 rfl ?_
      refine pw_aload_n d62_5 rfl ?_
      refine pw_getI d62_6 g62_41 hT hA0 rfl rfl (fun u6 vu6 => ?_)
      refine pw_icmp_ge d62_9 rfl (by omega) (by omega) (fun c9 => ?_) (fun c9 => ?_)
      · refine pw_iconst d62_64 ?_
        exact pw_ireturn d62_65 tt62 ⟨rfl, (-1), rfl, (by omega), (by omega), (by omega)⟩
      · refine pw_iload_n d62_12 rfl ?_
        refine pw_iconst d62_13 ?_
        refine pw_iadd d62_14 ?_
        refine pw_istore d62_15 m62 rfl rfl ?_
        exact L17 _ (xL2_4) ((xL3_4 + 1)) (by omega) (by omega) (by omega) (by omega) (pv_mu _)
  refine pw_iconst d62_0 ?_
  refine pw_istore_n d62_1 m62 rfl rfl ?_
  refine pw_iconst d62_2 ?_
  refine pw_istore_n d62_3 m62 rfl rfl ?_
  exact L4 _ (0) (0) _ (by omega) (by omega) (by omega) (pv_mu _)

abbrev Q135 (τ : Nat → Option Nat) (ρ : Nat → Nat → Nat) (h : pv_H) (a0 : Nat) (x1 : Int) (x2 : Int) : Option Value → pv_H → Prop := fun r h' => pv_Ty τ ρ h' ∧ pv_Fr τ [142, 143, 1343, 1407, 1727, 1791, 1855] h h' ∧ ∃ z : Int, r = some (.int (pv_I z)) ∧ (-2147483648) ≤ z ∧ z ≤ 2147483647 ∧ (nk_w τ ρ h')
set_option maxHeartbeats 4000000 in
set_option maxRecDepth 20000 in
/-- AngleNet.flips(II)I -/
theorem ct135 {τ : Nat → Option Nat} {ρ : Nat → Nat → Nat} {K : Nat → Nat} {h : pv_H} {a0 : Nat} {x1 : Int} {x2 : Int} (hT : pv_Ty τ ρ h) (hA0 : τ a0 = some 0) (hX1 : (-2147483648) ≤ x1 ∧ x1 ≤ 2147483647) (hX2 : (-2147483648) ≤ x2 ∧ x2 ≤ 2147483647) (hP0 : nk_w τ ρ h) : pv_C K 135 [.ref a0, .int (pv_I x1), .int (pv_I x2)] h (Q135 τ ρ h a0 x1 x2) := by
  refine pw_entry 8 ?_
  show pv_T K 135 0 (pv_fl [some (.ref a0), some (.int (pv_I x1)), some (.int (pv_I x2)), none, none, none, none, none, none, none, none]) [] h (Q135 τ ρ h a0 x1 x2)
  have hR0_1 : τ (ρ a0 1) = some 2 := hT.rf (t' := 2) hA0 rfl rfl
  have hF0 : pv_Fr τ [142, 143, 1343, 1407, 1727, 1791, 1855] h h := pv_Fr.rf
  have L46 : ∀ (nn : Nat) (h_46 : pv_H) (xL3_46 xL4_46 xL6_46 xL7_46 : Int) (o1_46 o5_46 o8_46 o9_46 o10_46 : Option Value), (pv_Ty τ ρ h_46) → (pv_Fr τ [142, 143, 1343, 1407, 1727, 1791, 1855] h h_46) → (1 ≤ x2 ∧ x2 ≤ 40) → ((-1073741824) ≤ xL3_46 ∧ xL3_46 ≤ 1073741823) → (0 ≤ xL4_46 ∧ xL4_46 ≤ 2147483647) → ((-2147483648) ≤ xL6_46 ∧ xL6_46 ≤ 2147483647) → (0 ≤ xL7_46 ∧ xL7_46 ≤ 53) → (nk_w τ ρ h_46) → (xL3_46 ≠ 0) → 53 - xL7_46 < nn → pv_T K 135 46 (pv_fl [some (.ref a0), o1_46, some (.int (pv_I x2)), some (.int (pv_I xL3_46)), some (.long (pv_J xL4_46)), o5_46, some (.int (pv_I xL6_46)), some (.int (pv_I xL7_46)), o8_46, o9_46, o10_46]) [] h_46 (Q135 τ ρ h a0 x1 x2) := by
    intro nn
    induction nn with
    | zero => intro h_46 xL3_46 xL4_46 xL6_46 xL7_46 o1_46 o5_46 o8_46 o9_46 o10_46 hT_46 hF_46 rL2_46 rL3_46 rL4_46 rL6_46 rL7_46 i0_46 i1_46 hm; exfalso; omega
    | succ nn ih46 =>
      intro h_46 xL3_46 xL4_46 xL6_46 xL7_46 o1_46 o5_46 o8_46 o9_46 o10_46 hT_46 hF_46 rL2_46 rL3_46 rL4_46 rL6_46 rL7_46 i0_46 i1_46 hm46
      have J145 : ∀ (h_145 : pv_H) (xL4_145 xL6_145 : Int) (o1_145 o5_145 o8_145 o9_145 o10_145 : Option Value), (pv_Ty τ ρ h_145) → (pv_Fr τ [142, 143, 1343, 1407, 1727, 1791, 1855] h h_145) → (1 ≤ x2 ∧ x2 ≤ 40) → ((-1073741824) ≤ xL3_46 ∧ xL3_46 ≤ 1073741823) → (0 ≤ xL4_145 ∧ xL4_145 ≤ 2147483647) → ((-2147483648) ≤ xL6_145 ∧ xL6_145 ≤ 2147483647) → (0 ≤ xL7_46 ∧ xL7_46 ≤ 45) → (nk_w τ ρ h_145) → pv_T K 135 145 (pv_fl [some (.ref a0), o1_145, some (.int (pv_I x2)), some (.int (pv_I xL3_46)), some (.long (pv_J xL4_145)), o5_145, some (.int (pv_I xL6_145)), some (.int (pv_I xL7_46)), o8_145, o9_145, o10_145]) [] h_145 (Q135 τ ρ h a0 x1 x2) := by
        intro h_145 xL4_145 xL6_145 o1_145 o5_145 o8_145 o9_145 o10_145 hT_145 hF_145 rL2_145 rL3_145 rL4_145 rL6_145 rL7_145 i0_145
        refine pw_iinc d135_145 m135 rfl rfl rfl ?_
        refine pw_goto d135_148 rfl ?_
        exact ih46 h_145 (xL3_46) (xL4_145) (xL6_145) ((xL7_46 + 1)) _ _ _ _ _ hT_145 hF_145 (by omega) (by omega) (by omega) (by omega) (by omega) (by first | assumption) (by omega) (by omega)
      refine pw_iload d135_46 rfl ?_
      refine pw_iload_n d135_48 rfl ?_
      refine pw_icmp_ge d135_49 rfl (by omega) (by omega) (fun c49 => ?_) (fun c49 => ?_)
      · refine pw_iload d135_151 rfl ?_
        exact pw_ireturn d135_153 tt135 ⟨hT_46, hF_46, xL6_46, rfl, (by omega), (by omega), (by first | exact hP0 | assumption)⟩
      · refine pw_ldc2 (v := pv_J 1103515245) d135_52 n135_52 ?_
        refine pw_lload d135_55 rfl ?_
        refine pw_lmul d135_57 ?_
        refine pw_ldc2 (v := pv_J 12345) d135_58 n135_58 ?_
        refine pw_ladd d135_61 ?_
        refine pw_ldc2 (v := pv_J 2147483648) d135_62 n135_62 ?_
        refine pw_lrem d135_65 (by omega) (by omega) (by omega) (by omega) ?_
        refine pw_lstore d135_66 m135 rfl rfl ?_
        refine pw_aload_n d135_68 rfl ?_
        refine pw_getR d135_69 g135_19 hT_46 hA0 rfl rfl (fun t69 => ?_)
        have t69 : τ (ρ a0 1) = some 2 := t69
        refine pw_lload d135_72 rfl ?_
        refine pw_ldc2 (v := pv_J 65536) d135_74 n135_74 ?_
        refine pw_ldiv d135_77 (by omega) (by omega) (by omega) (by omega) ?_
        refine pw_iload_n d135_78 rfl ?_
        refine pw_i2l d135_79 (by omega) ?_
        refine pw_lremU d135_80 (by omega) (by omega) (fun z80 hz80 ez80 => ?_)
        refine pw_l2i d135_81 ?_
        refine pw_any (fun z81 hz81 ez81 => ?_)
        refine pw_callV1 d135_82 k135_126 hT_46 t69 rfl rfl rfl (ct62F (τ := τ) (ρ := ρ) hT_46 t69 (by omega)) (fun r82 h82 q82 => ?_)
        obtain ⟨eh82, z82, ez82, lz82, uz82, pz82_0⟩ := q82
        subst eh82
        subst ez82
        refine pw_istore d135_85 m135 rfl rfl ?_
        refine pw_iload d135_87 rfl ?_
        refine pw_bipush d135_89 (by decide) ?_
        refine pw_idivT d135_91 (by omega) (by omega) (by omega) (fun z91 hz91 ez91 => ?_)
        refine pw_istore d135_92 m135 rfl rfl ?_
        refine pw_iload d135_94 rfl ?_
        refine pw_bipush d135_96 (by decide) ?_
        refine pw_iremT d135_98 (by omega) (by omega) (by omega) (fun z98 hz98 ez98 => ?_)
        refine pw_istore d135_99 m135 rfl rfl ?_
        refine pw_iload d135_101 rfl ?_
        refine pw_iconst d135_103 ?_
        refine pw_icmp_eq d135_104 rfl (by omega) (by omega) (fun c104 => ?_) (fun c104 => ?_)
        · exact J145 h_46 ((((1103515245 * xL4_46) + 12345) % 2147483648)) (xL6_46) _ _ _ _ _ hT_46 hF_46 (by omega) (by omega) (by omega) (by omega) (by omega) (by first | assumption)
        · refine pw_aload_n d135_107 rfl ?_
          refine pw_getR d135_108 g135_19 hT_46 hA0 rfl rfl (fun t108 => ?_)
          have t108 : τ (ρ a0 1) = some 2 := t108
          refine pw_getI d135_111 g135_207 hT_46 t108 rfl rfl (fun u111 vu111 => ?_)
          refine pw_bipush d135_114 (by decide) ?_
          refine pw_icmp_ge d135_116 rfl (by omega) (by omega) (fun c116 => ?_) (fun c116 => ?_)
          · exact J145 h_46 ((((1103515245 * xL4_46) + 12345) % 2147483648)) (xL6_46) _ _ _ _ _ hT_46 hF_46 (by omega) (by omega) (by omega) (by omega) (by omega) (by first | assumption)
          · have ok119 := (i0_46.2 _ hR0_1).1
            refine pw_aload_n d135_119 rfl ?_
            refine pw_getR d135_120 g135_19 hT_46 hA0 rfl rfl (fun t120 => ?_)
            have t120 : τ (ρ a0 1) = some 2 := t120
            refine pw_iload d135_123 rfl ?_
            refine pw_iload d135_125 rfl ?_
            refine pw_callS3 d135_127 k135_203 rfl rfl (ct120 (τ := τ) (ρ := ρ) hT_46 t120 (by omega) (by omega) (by first | assumption | omega) (by first | assumption | omega)) (fun r127 h127 q127 => ?_)
            obtain ⟨eh127, z127, ez127, lz127, uz127, pz127_0⟩ := q127
            subst eh127
            subst ez127
            refine pw_if_eq d135_130 rfl (by omega) (fun c130 => ?_) (fun c130 => ?_)
            · exact J145 h_46 ((((1103515245 * xL4_46) + 12345) % 2147483648)) (xL6_46) _ _ _ _ _ hT_46 hF_46 (by omega) (by omega) (by omega) (by omega) (by omega) (by first | assumption)
            · refine pw_aload_n d135_133 rfl ?_
              refine pw_iload d135_134 rfl ?_
              refine pw_iload d135_136 rfl ?_
              refine pw_callV2 d135_138 k135_210 hT_46 hA0 rfl rfl rfl (ct123 (τ := τ) (ρ := ρ) hT_46 hA0 (by omega) (by omega) (by first | assumption | omega) (by first | assumption | omega)) (fun r138 h138 q138 => ?_)
              obtain ⟨T138, F138, z138, ez138, lz138, uz138, pz138_0⟩ := q138
              subst ez138
              have f138 := hF_46.tr (F138.up (by decide))
              refine pw_pop d135_141 rfl ?_
              refine pw_iincU d135_142 m135 rfl rfl rfl (fun z142 hz142 => ?_)
              exact J145 h138 ((((1103515245 * xL4_46) + 12345) % 2147483648)) (z142) _ _ _ _ _ T138 f138 (by omega) (by omega) (by omega) (by omega) (by omega) (by first | assumption)
  refine pw_aload_n d135_0 rfl ?_
  refine pw_getR d135_1 g135_19 hT hA0 rfl rfl (fun t1 => ?_)
  have t1 : τ (ρ a0 1) = some 2 := t1
  refine pw_callV0 d135_4 k135_229 hT t1 rfl rfl rfl (ct68 (τ := τ) (ρ := ρ) hT t1) (fun r4 h4 q4 => ?_)
  obtain ⟨eh4, z4, ez4, lz4, uz4⟩ := q4
  subst eh4
  subst ez4
  refine pw_istore_n d135_7 m135 rfl rfl ?_
  refine pw_iload_n d135_8 rfl ?_
  refine pw_if_lt d135_9 rfl (by omega) (fun c9 => ?_) (fun c9 => ?_)
  · refine pw_bipush d135_33 (by decide) ?_
    exact pw_ireturn d135_35 tt135 ⟨hT, hF0, (-2), rfl, (by omega), (by omega), (by first | exact hP0 | assumption)⟩
  · refine pw_iload_n d135_12 rfl ?_
    refine pw_ldc (v := pv_I 2000000000) d135_13 n135_13 ?_
    refine pw_icmp_gt d135_15 rfl (by omega) (by omega) (fun c15 => ?_) (fun c15 => ?_)
    · refine pw_bipush d135_33 (by decide) ?_
      exact pw_ireturn d135_35 tt135 ⟨hT, hF0, (-2), rfl, (by omega), (by omega), (by first | exact hP0 | assumption)⟩
    · refine pw_iload_n d135_18 rfl ?_
      refine pw_iconst d135_19 ?_
      refine pw_icmp_lt d135_20 rfl (by omega) (by omega) (fun c20 => ?_) (fun c20 => ?_)
      · refine pw_bipush d135_33 (by decide) ?_
        exact pw_ireturn d135_35 tt135 ⟨hT, hF0, (-2), rfl, (by omega), (by omega), (by first | exact hP0 | assumption)⟩
      · refine pw_iload_n d135_23 rfl ?_
        refine pw_bipush d135_24 (by decide) ?_
        refine pw_icmp_gt d135_26 rfl (by omega) (by omega) (fun c26 => ?_) (fun c26 => ?_)
        · refine pw_bipush d135_33 (by decide) ?_
          exact pw_ireturn d135_35 tt135 ⟨hT, hF0, (-2), rfl, (by omega), (by omega), (by first | exact hP0 | assumption)⟩
        · refine pw_iload_n d135_29 rfl ?_
          refine pw_if_ne d135_30 rfl (by omega) (fun c30 => ?_) (fun c30 => ?_)
          · refine pw_iload_n d135_36 rfl ?_
            refine pw_i2l d135_37 (by omega) ?_
            refine pw_lstore d135_38 m135 rfl rfl ?_
            refine pw_iconst d135_40 ?_
            refine pw_istore d135_41 m135 rfl rfl ?_
            refine pw_iconst d135_43 ?_
            refine pw_istore d135_44 m135 rfl rfl ?_
            exact L46 _ h (z4) (x1) (0) (0) _ _ _ _ _ hT hF0 (by omega) (by omega) (by omega) (by omega) (by omega) (by first | assumption) (by omega) (pv_mu _)
          · refine pw_bipush d135_33 (by decide) ?_
            exact pw_ireturn d135_35 tt135 ⟨hT, hF0, (-2), rfl, (by omega), (by omega), (by first | exact hP0 | assumption)⟩

abbrev Q166 (τ : Nat → Option Nat) (ρ : Nat → Nat → Nat) (h : pv_H) (a0 : Nat) (x1 : Int) : Option Value → pv_H → Prop := fun r h' => pv_Ty τ ρ h' ∧ pv_Fr τ [142, 1343, 1407, 1727, 1791, 1855] h h' ∧ ∃ z : Int, r = some (.int (pv_I z)) ∧ 0 ≤ z ∧ z ≤ 1 ∧ (nk_w τ ρ h')
set_option maxHeartbeats 4000000 in
set_option maxRecDepth 20000 in
/-- AngleNet.flipInThought(J)Z -/
theorem ct166 {τ : Nat → Option Nat} {ρ : Nat → Nat → Nat} {K : Nat → Nat} {h : pv_H} {a0 : Nat} {x1 : Int} (hT : pv_Ty τ ρ h) (hA0 : τ a0 = some 0) (hX1 : (-9223372036854775808) ≤ x1 ∧ x1 ≤ 9223372036854775807) (hP0 : nk_w τ ρ h) : pv_C K 166 [.ref a0, .long (pv_J x1)] h (Q166 τ ρ h a0 x1) := by
  refine pw_entry 2 ?_
  show pv_T K 166 0 (pv_fl [some (.ref a0), some (.long (pv_J x1)), none, none, none]) [] h (Q166 τ ρ h a0 x1)
  have hR0_2 : τ (ρ a0 2) = some 2 := hT.rf (t' := 2) hA0 rfl rfl
  have hF0 : pv_Fr τ [142, 1343, 1407, 1727, 1791, 1855] h h := pv_Fr.rf
  refine pw_lload_n d166_0 rfl ?_
  refine pw_lconst (z := 0) d166_1 (by decide) ?_
  refine pw_lcmp d166_2 (by omega) (by omega) (fun z2 ez2 => ?_)
  refine pw_if_lt d166_3 rfl (by omega) (fun c3 => ?_) (fun c3 => ?_)
  · refine pw_iconst d166_14 ?_
    exact pw_zreturn d166_15 tt166 (by omega) ⟨hT, hF0, 0, rfl, (by omega), (by omega), (by first | exact hP0 | assumption)⟩
  · refine pw_lload_n d166_6 rfl ?_
    refine pw_ldc2 (v := pv_J 100) d166_7 n166_7 ?_
    refine pw_lcmp d166_10 (by omega) (by omega) (fun z10 ez10 => ?_)
    refine pw_if_lt d166_11 rfl (by omega) (fun c11 => ?_) (fun c11 => ?_)
    · refine pw_lload_n d166_16 rfl ?_
      refine pw_l2i d166_17 ?_
      refine pw_any (fun z17 hz17 ez17 => ?_)
      refine pw_bipush d166_18 (by decide) ?_
      refine pw_idivT d166_20 (by omega) (by omega) (by omega) (fun z20 hz20 ez20 => ?_)
      refine pw_istore_n d166_21 m166 rfl rfl ?_
      refine pw_lload_n d166_22 rfl ?_
      refine pw_l2i d166_23 ?_
      refine pw_any (fun z23 hz23 ez23 => ?_)
      refine pw_bipush d166_24 (by decide) ?_
      refine pw_iremT d166_26 (by omega) (by omega) (by omega) (fun z26 hz26 ez26 => ?_)
      refine pw_istore d166_27 m166 rfl rfl ?_
      refine pw_aload_n d166_29 rfl ?_
      refine pw_getR d166_30 g166_23 hT hA0 rfl rfl (fun t30 => ?_)
      have t30 : τ (ρ a0 2) = some 2 := t30
      refine pw_iload_n d166_33 rfl ?_
      refine pw_iload d166_34 rfl ?_
      refine pw_callV2 d166_36 k166_194 hT t30 rfl rfl rfl (ct47F (τ := τ) (ρ := ρ) hT t30 (by omega) (by omega)) (fun r36 h36 q36 => ?_)
      obtain ⟨eh36, z36, ez36, lz36, uz36, pz36_0, pz36_1⟩ := q36
      subst eh36
      subst ez36
      refine pw_if_eq d166_39 rfl (by omega) (fun c39 => ?_) (fun c39 => ?_)
      · refine pw_iconst d166_55 ?_
        exact pw_zreturn d166_56 tt166 (by omega) ⟨hT, hF0, 0, rfl, (by omega), (by omega), (by first | exact hP0 | assumption)⟩
      · have ok42 := (hP0.2 _ hR0_2).1
        refine pw_aload_n d166_42 rfl ?_
        refine pw_getR d166_43 g166_23 hT hA0 rfl rfl (fun t43 => ?_)
        have t43 : τ (ρ a0 2) = some 2 := t43
        refine pw_iload_n d166_46 rfl ?_
        refine pw_iload d166_47 rfl ?_
        refine pw_callS3 d166_49 k166_203 rfl rfl (ct120 (τ := τ) (ρ := ρ) hT t43 (by omega) (by omega) (by first | assumption | omega) (by first | assumption | omega)) (fun r49 h49 q49 => ?_)
        obtain ⟨eh49, z49, ez49, lz49, uz49, pz49_0⟩ := q49
        subst eh49
        subst ez49
        refine pw_if_ne d166_52 rfl (by omega) (fun c52 => ?_) (fun c52 => ?_)
        · refine pw_aload_n d166_57 rfl ?_
          refine pw_getR d166_58 g166_23 hT hA0 rfl rfl (fun t58 => ?_)
          have t58 : τ (ρ a0 2) = some 2 := t58
          refine pw_iload_n d166_61 rfl ?_
          refine pw_iload d166_62 rfl ?_
          refine pw_callS3 d166_64 k166_214 rfl rfl (ct124W (τ := τ) (ρ := ρ) hT t58 (by omega) (by omega) (by first | assumption | omega) (by first | assumption | omega)) (fun r64 h64 q64 => ?_)
          obtain ⟨T64, F64, z64, ez64, lz64, uz64, pz64_0⟩ := q64
          subst ez64
          have f64 := hF0.tr (F64.up (by decide))
          refine pw_iconst d166_67 ?_
          refine pw_icmp_eq d166_68 rfl (by omega) (by omega) (fun c68 => ?_) (fun c68 => ?_)
          · refine pw_iconst d166_75 ?_
            exact pw_zreturn d166_76 tt166 (by omega) ⟨T64, f64, 0, rfl, (by omega), (by omega), (by first | exact hP0 | assumption)⟩
          · refine pw_iconst d166_71 ?_
            refine pw_goto d166_72 rfl ?_
            exact pw_zreturn d166_76 tt166 (by omega) ⟨T64, f64, 1, rfl, (by omega), (by omega), (by first | exact hP0 | assumption)⟩
        · refine pw_iconst d166_55 ?_
          exact pw_zreturn d166_56 tt166 (by omega) ⟨hT, hF0, 0, rfl, (by omega), (by omega), (by first | exact hP0 | assumption)⟩
    · refine pw_iconst d166_14 ?_
      exact pw_zreturn d166_15 tt166 (by omega) ⟨hT, hF0, 0, rfl, (by omega), (by omega), (by first | exact hP0 | assumption)⟩

abbrev Q164 (τ : Nat → Option Nat) (ρ : Nat → Nat → Nat) (h : pv_H) (a0 : Nat) (x1 : Int) : Option Value → pv_H → Prop := fun r h' => pv_Ty τ ρ h' ∧ pv_Fr τ [128, 129, 130, 131, 132, 142, 143, 1343, 1407, 1471, 1535, 1599, 1663, 1727, 1791, 1855] h h' ∧ ∃ z : Int, r = some (.int (pv_I z)) ∧ (-6) ≤ z ∧ z ≤ 60 ∧ (nk_w τ ρ h')
set_option maxHeartbeats 4000000 in
set_option maxRecDepth 20000 in
/-- AngleNet.judge(I)I -/
theorem ct164 {τ : Nat → Option Nat} {ρ : Nat → Nat → Nat} {K : Nat → Nat} {h : pv_H} {a0 : Nat} {x1 : Int} (hT : pv_Ty τ ρ h) (hA0 : τ a0 = some 0) (hX1 : (-2147483648) ≤ x1 ∧ x1 ≤ 2147483647) (hP0 : nk_w τ ρ h) : pv_C K 164 [.ref a0, .int (pv_I x1)] h (Q164 τ ρ h a0 x1) := by
  refine pw_entry 2 ?_
  show pv_T K 164 0 (pv_fl [some (.ref a0), some (.int (pv_I x1)), none, none]) [] h (Q164 τ ρ h a0 x1)
  have hR0_1 : τ (ρ a0 1) = some 2 := hT.rf (t' := 2) hA0 rfl rfl
  have hR0_2 : τ (ρ a0 2) = some 2 := hT.rf (t' := 2) hA0 rfl rfl
  have hF0 : pv_Fr τ [128, 129, 130, 131, 132, 142, 143, 1343, 1407, 1471, 1535, 1599, 1663, 1727, 1791, 1855] h h := pv_Fr.rf
  have L57 : ∀ (nn : Nat) (h_57 : pv_H) (xL3_57 : Int) (o1_57 : Option Value), (pv_Ty τ ρ h_57) → (pv_Fr τ [128, 129, 130, 131, 132, 142, 143, 1343, 1407, 1471, 1535, 1599, 1663, 1727, 1791, 1855] h h_57) → (0 ≤ xL3_57 ∧ xL3_57 ≤ 60) → (τ (ρ (ρ a0 5) (x1).toNat) = some 3) → (nk_w τ ρ h_57) → 60 - xL3_57 < nn → pv_T K 164 57 (pv_fl [some (.ref a0), o1_57, some (.ref (ρ (ρ a0 5) (x1).toNat)), some (.int (pv_I xL3_57))]) [] h_57 (Q164 τ ρ h a0 x1) := by
    intro nn
    induction nn with
    | zero => intro h_57 xL3_57 o1_57 hT_57 hF_57 rL3_57 t_57_ρρa05x1toNat i0_57 hm; exfalso; omega
    | succ nn ih57 =>
      intro h_57 xL3_57 o1_57 hT_57 hF_57 rL3_57 t_57_ρρa05x1toNat i0_57 hm57
      refine pw_iload_n d164_57 rfl ?_
      refine pw_aload_n d164_58 rfl ?_
      refine pw_getI d164_59 g164_316 hT_57 t_57_ρρa05x1toNat rfl rfl (fun u59 vu59 => ?_)
      refine pw_icmp_ge d164_62 rfl (by omega) (by omega) (fun c62 => ?_) (fun c62 => ?_)
      · refine pw_aload_n d164_86 rfl ?_
        refine pw_getI d164_87 g164_316 hT_57 t_57_ρρa05x1toNat rfl rfl (fun u87 vu87 => ?_)
        exact pw_ireturn d164_90 tt164 ⟨hT_57, hF_57, (pv_fI h_57 (ρ (ρ a0 5) (x1).toNat) 2), rfl, (by omega), (by omega), (by first | exact hP0 | assumption)⟩
      · refine pw_aload_n d164_65 rfl ?_
        refine pw_aload_n d164_66 rfl ?_
        refine pw_getR d164_67 g164_317 hT_57 t_57_ρρa05x1toNat rfl rfl (fun t67 => ?_)
        have t67 : τ (ρ (ρ (ρ a0 5) (x1).toNat) 3) = some 31 := t67
        refine pw_iload_n d164_70 rfl ?_
        refine pw_lald d164_71 hT_57 t67 rfl rfl (by omega) (by omega) (fun u71 => ?_)
        refine pw_callV1 d164_72 k164_320 hT_57 hA0 rfl rfl rfl (ct166 (τ := τ) (ρ := ρ) hT_57 hA0 (by omega) (by first | assumption | omega)) (fun r72 h72 q72 => ?_)
        obtain ⟨T72, F72, z72, ez72, lz72, uz72, pz72_0⟩ := q72
        subst ez72
        have f72 := hF_57.tr (F72.up (by decide))
        have q72b := ((F72 (ρ (ρ a0 5) (x1).toNat) 3 t_57_ρρa05x1toNat).1 2 (by decide)).1
        refine pw_if_ne d164_75 rfl (by omega) (fun c75 => ?_) (fun c75 => ?_)
        · refine pw_iinc d164_80 m164 rfl rfl rfl ?_
          refine pw_goto d164_83 rfl ?_
          exact ih57 h72 ((xL3_57 + 1)) _ T72 f72 (by omega) t_57_ρρa05x1toNat (by first | assumption) (by omega)
        · refine pw_iload_n d164_78 rfl ?_
          exact pw_ireturn d164_79 tt164 ⟨T72, f72, xL3_57, rfl, (by omega), (by omega), (by first | exact hP0 | assumption)⟩
  refine pw_iload_n d164_0 rfl ?_
  refine pw_callS1 d164_1 k164_306 rfl rfl (ct165 (τ := τ) (ρ := ρ) (by omega)) (fun r1 h1 q1 => ?_)
  obtain ⟨eh1, z1, ez1, lz1, uz1, pz1_0⟩ := q1
  subst eh1
  subst ez1
  refine pw_if_eq d164_4 rfl (by omega) (fun c4 => ?_) (fun c4 => ?_)
  · refine pw_bipush d164_17 (by decide) ?_
    exact pw_ireturn d164_19 tt164 ⟨hT, hF0, (-2), rfl, (by omega), (by omega), (by first | exact hP0 | assumption)⟩
  · refine pw_aload_n d164_7 rfl ?_
    refine pw_getR d164_8 g164_19 hT hA0 rfl rfl (fun t8 => ?_)
    have t8 : τ (ρ a0 1) = some 2 := t8
    refine pw_callV0 d164_11 k164_129 hT t8 rfl rfl rfl (ct64 (τ := τ) (ρ := ρ) hT t8) (fun r11 h11 q11 => ?_)
    obtain ⟨eh11, z11, ez11, lz11, uz11⟩ := q11
    subst eh11
    subst ez11
    refine pw_if_ne d164_14 rfl (by omega) (fun c14 => ?_) (fun c14 => ?_)
    · refine pw_aload_n d164_20 rfl ?_
      refine pw_getR d164_21 g164_36 hT hA0 rfl rfl (fun t21 => ?_)
      have t21 : τ (ρ a0 5) = some 12 := t21
      refine pw_iload_n d164_24 rfl ?_
      refine pw_aald d164_25 hT t21 rfl (by decide) rfl (by omega) (by omega) (fun u25 => ?_)
      have u25 : τ (ρ (ρ a0 5) (x1).toNat) = some 3 := u25
      refine pw_astore_n d164_26 m164 rfl rfl ?_
      refine pw_aload_n d164_27 rfl ?_
      refine pw_getI d164_28 g164_309 hT u25 rfl rfl (fun u28 vu28 => ?_)
      refine pw_if_ne d164_31 rfl (by omega) (fun c31 => ?_) (fun c31 => ?_)
      · refine pw_aload_n d164_37 rfl ?_
        refine pw_getR d164_38 g164_23 hT hA0 rfl rfl (fun t38 => ?_)
        have t38 : τ (ρ a0 2) = some 2 := t38
        refine pw_aload_n d164_41 rfl ?_
        refine pw_getR d164_42 g164_19 hT hA0 rfl rfl (fun t42 => ?_)
        have t42 : τ (ρ a0 1) = some 2 := t42
        refine pw_callV1 d164_45 k164_77 hT t38 rfl rfl rfl (ct52W (τ := τ) (ρ := ρ) hT t38 t42 (by first | assumption | omega)) (fun r45 h45 q45 => ?_)
        obtain ⟨T45, F45, ez45, pz45_0⟩ := q45
        subst ez45
        have f45 := hF0.tr (F45.up (by decide))
        have q45b := ((F45 (ρ (ρ a0 5) (x1).toNat) 3 u25).1 0 (by decide)).1
        refine pw_aload_n d164_48 rfl ?_
        refine pw_getR d164_49 g164_23 T45 hA0 rfl rfl (fun t49 => ?_)
        have t49 : τ (ρ a0 2) = some 2 := t49
        refine pw_callV0 d164_52 k164_313 T45 t49 rfl rfl rfl (ct15W (τ := τ) (ρ := ρ) T45 t49 (by first | assumption | omega)) (fun r52 h52 q52 => ?_)
        obtain ⟨T52, F52, ez52, pz52_0⟩ := q52
        subst ez52
        have f52 := f45.tr (F52.up (by decide))
        have q52b := ((F52 (ρ (ρ a0 5) (x1).toNat) 3 u25).1 0 (by decide)).1
        refine pw_iconst d164_55 ?_
        refine pw_istore_n d164_56 m164 rfl rfl ?_
        exact L57 _ h52 (0) _ T52 f52 (by omega) u25 (by first | assumption) (pv_mu _)
      · refine pw_bipush d164_34 (by decide) ?_
        exact pw_ireturn d164_36 tt164 ⟨hT, hF0, (-6), rfl, (by omega), (by omega), (by first | exact hP0 | assumption)⟩
    · refine pw_bipush d164_17 (by decide) ?_
      exact pw_ireturn d164_19 tt164 ⟨hT, hF0, (-2), rfl, (by omega), (by omega), (by first | exact hP0 | assumption)⟩

abbrev Q174W (τ : Nat → Option Nat) (ρ : Nat → Nat → Nat) (h : pv_H) (a0 : Nat) (x1 : Int) : Option Value → pv_H → Prop := fun r h' => pv_Ty τ ρ h' ∧ pv_Fr τ [128, 129, 130, 131, 132, 142, 143, 767, 1343, 1407, 1471, 1535, 1599, 1663, 1727, 1791, 1855] h h' ∧ ∃ z : Int, r = some (.int (pv_I z)) ∧ (-2) ≤ z ∧ z ≤ 0 ∧ (nk_w τ ρ h')
set_option maxHeartbeats 4000000 in
set_option maxRecDepth 20000 in
/-- AngleNet.keep(I)I -/
theorem ct174W {τ : Nat → Option Nat} {ρ : Nat → Nat → Nat} {K : Nat → Nat} {h : pv_H} {a0 : Nat} {x1 : Int} (hT : pv_Ty τ ρ h) (hA0 : τ a0 = some 0) (hX1 : (-2147483648) ≤ x1 ∧ x1 ≤ 2147483647) (hP0 : nk_w τ ρ h) : pv_C K 174 [.ref a0, .int (pv_I x1)] h (Q174W τ ρ h a0 x1) := by
  refine pw_entry 0 ?_
  show pv_T K 174 0 (pv_fl [some (.ref a0), some (.int (pv_I x1))]) [] h (Q174W τ ρ h a0 x1)
  have hR0_1 : τ (ρ a0 1) = some 2 := hT.rf (t' := 2) hA0 rfl rfl
  have hF0 : pv_Fr τ [128, 129, 130, 131, 132, 142, 143, 767, 1343, 1407, 1471, 1535, 1599, 1663, 1727, 1791, 1855] h h := pv_Fr.rf
  refine pw_iload_n d174_0 rfl ?_
  refine pw_if_lt d174_1 rfl (by omega) (fun c1 => ?_) (fun c1 => ?_)
  · refine pw_bipush d174_9 (by decide) ?_
    exact pw_ireturn d174_11 tt174 ⟨hT, hF0, (-2), rfl, (by omega), (by omega), (by first | exact hP0 | exact pz22_0.fr T22 F31 (by decide))⟩
  · refine pw_iload_n d174_4 rfl ?_
    refine pw_iconst d174_5 ?_
    refine pw_icmp_lt d174_6 rfl (by omega) (by omega) (fun c6 => ?_) (fun c6 => ?_)
    · refine pw_aload_n d174_12 rfl ?_
      refine pw_getR d174_13 g174_26 hT hA0 rfl rfl (fun t13 => ?_)
      have t13 : τ (ρ a0 3) = some 10 := t13
      refine pw_iload_n d174_16 rfl ?_
      refine pw_aald d174_17 hT t13 rfl (by decide) rfl (by omega) (by omega) (fun u17 => ?_)
      have u17 : τ (ρ (ρ a0 3) (x1).toNat) = some 2 := u17
      refine pw_aload_n d174_18 rfl ?_
      refine pw_getR d174_19 g174_19 hT hA0 rfl rfl (fun t19 => ?_)
      have t19 : τ (ρ a0 1) = some 2 := t19
      refine pw_callV1 d174_22 k174_77 hT u17 rfl rfl rfl (ct52W (τ := τ) (ρ := ρ) hT u17 t19 (by first | assumption | omega)) (fun r22 h22 q22 => ?_)
      obtain ⟨T22, F22, ez22, pz22_0⟩ := q22
      subst ez22
      have f22 := hF0.tr (F22.up (by decide))
      refine pw_aload_n d174_25 rfl ?_
      refine pw_getR d174_26 g174_30 T22 hA0 rfl rfl (fun t26 => ?_)
      have t26 : τ (ρ a0 4) = some 11 := t26
      refine pw_iload_n d174_29 rfl ?_
      refine pw_iconst d174_30 ?_
      refine pw_bastZ d174_31 T22 t26 rfl rfl rfl (by omega) (by omega) (by omega) (fun h31 T31 F31 E31 => ?_)
      have f31 := f22.tr (F31.up (by decide))
      refine pw_iconst d174_32 ?_
      exact pw_ireturn d174_33 tt174 ⟨T31, f31, 0, rfl, (by omega), (by omega), (by first | exact hP0 | exact pz22_0.fr T22 F31 (by decide))⟩
    · refine pw_bipush d174_9 (by decide) ?_
      exact pw_ireturn d174_11 tt174 ⟨hT, hF0, (-2), rfl, (by omega), (by omega), (by first | exact hP0 | exact pz22_0.fr T22 F31 (by decide))⟩

abbrev Q175W (τ : Nat → Option Nat) (ρ : Nat → Nat → Nat) (h : pv_H) (a0 : Nat) (x1 : Int) : Option Value → pv_H → Prop := fun r h' => pv_Ty τ ρ h' ∧ pv_Fr τ [128, 129, 130, 131, 132, 142, 143, 1343, 1407, 1471, 1535, 1599, 1663, 1727, 1791, 1855] h h' ∧ ∃ z : Int, r = some (.int (pv_I z)) ∧ (-6) ≤ z ∧ z ≤ 0 ∧ (nk_w τ ρ h')
set_option maxHeartbeats 4000000 in
set_option maxRecDepth 20000 in
/-- AngleNet.back(I)I -/
theorem ct175W {τ : Nat → Option Nat} {ρ : Nat → Nat → Nat} {K : Nat → Nat} {h : pv_H} {a0 : Nat} {x1 : Int} (hT : pv_Ty τ ρ h) (hA0 : τ a0 = some 0) (hX1 : (-2147483648) ≤ x1 ∧ x1 ≤ 2147483647) (hP0 : nk_w τ ρ h) : pv_C K 175 [.ref a0, .int (pv_I x1)] h (Q175W τ ρ h a0 x1) := by
  refine pw_entry 0 ?_
  show pv_T K 175 0 (pv_fl [some (.ref a0), some (.int (pv_I x1))]) [] h (Q175W τ ρ h a0 x1)
  have hR0_1 : τ (ρ a0 1) = some 2 := hT.rf (t' := 2) hA0 rfl rfl
  have hF0 : pv_Fr τ [128, 129, 130, 131, 132, 142, 143, 1343, 1407, 1471, 1535, 1599, 1663, 1727, 1791, 1855] h h := pv_Fr.rf
  refine pw_iload_n d175_0 rfl ?_
  refine pw_if_lt d175_1 rfl (by omega) (fun c1 => ?_) (fun c1 => ?_)
  · refine pw_bipush d175_9 (by decide) ?_
    exact pw_ireturn d175_11 tt175 ⟨hT, hF0, (-2), rfl, (by omega), (by omega), (by first | exact hP0 | assumption)⟩
  · refine pw_iload_n d175_4 rfl ?_
    refine pw_iconst d175_5 ?_
    refine pw_icmp_lt d175_6 rfl (by omega) (by omega) (fun c6 => ?_) (fun c6 => ?_)
    · refine pw_aload_n d175_12 rfl ?_
      refine pw_getR d175_13 g175_30 hT hA0 rfl rfl (fun t13 => ?_)
      have t13 : τ (ρ a0 4) = some 11 := t13
      refine pw_iload_n d175_16 rfl ?_
      refine pw_bald d175_17 hT t13 rfl (by decide) rfl (by omega) (by omega) (fun u17 vu17 => ?_)
      refine pw_if_ne d175_18 rfl (by omega) (fun c18 => ?_) (fun c18 => ?_)
      · refine pw_aload_n d175_24 rfl ?_
        refine pw_getR d175_25 g175_19 hT hA0 rfl rfl (fun t25 => ?_)
        have t25 : τ (ρ a0 1) = some 2 := t25
        refine pw_aload_n d175_28 rfl ?_
        refine pw_getR d175_29 g175_26 hT hA0 rfl rfl (fun t29 => ?_)
        have t29 : τ (ρ a0 3) = some 10 := t29
        refine pw_iload_n d175_32 rfl ?_
        refine pw_aald d175_33 hT t29 rfl (by decide) rfl (by omega) (by omega) (fun u33 => ?_)
        have u33 : τ (ρ (ρ a0 3) (x1).toNat) = some 2 := u33
        refine pw_callV1 d175_34 k175_77 hT t25 rfl rfl rfl (ct52W (τ := τ) (ρ := ρ) hT t25 u33 (by first | assumption | omega)) (fun r34 h34 q34 => ?_)
        obtain ⟨T34, F34, ez34, pz34_0⟩ := q34
        subst ez34
        have f34 := hF0.tr (F34.up (by decide))
        refine pw_iconst d175_37 ?_
        exact pw_ireturn d175_38 tt175 ⟨T34, f34, 0, rfl, (by omega), (by omega), (by first | exact hP0 | assumption)⟩
      · refine pw_bipush d175_21 (by decide) ?_
        exact pw_ireturn d175_23 tt175 ⟨hT, hF0, (-6), rfl, (by omega), (by omega), (by first | exact hP0 | assumption)⟩
    · refine pw_bipush d175_9 (by decide) ?_
      exact pw_ireturn d175_11 tt175 ⟨hT, hF0, (-2), rfl, (by omega), (by omega), (by first | exact hP0 | assumption)⟩
