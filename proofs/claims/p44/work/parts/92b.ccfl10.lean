abbrev Q14v27F (τ : Nat → Option Nat) (ρ : Nat → Nat → Nat) (h : pv_H) (a0 : Nat) (x1 : Int) : Option Value → pv_H → Prop := fun r h' => pv_Ty τ ρ h' ∧ pv_Fr τ [1791] h h' ∧ r = none ∧ (∀ j : Nat, j < 100 → pv_aI h' a0 j = x1)
set_option maxHeartbeats 4000000 in
set_option maxRecDepth 20000 in
/-- java/util/Arrays.fill([II)V -/
theorem ct14v27F {τ : Nat → Option Nat} {ρ : Nat → Nat → Nat} {K : Nat → Nat} {h : pv_H} {a0 : Nat} {x1 : Int} (hT : pv_Ty τ ρ h) (hA0 : τ a0 = some 27) (hX1 : 0 ≤ x1 ∧ x1 ≤ 0) : pv_C K 14 [.ref a0, .int (pv_I x1)] h (Q14v27F τ ρ h a0 x1) := by
  refine pw_entry 2 ?_
  show pv_T K 14 0 (pv_fl [some (.ref a0), some (.int (pv_I x1)), none, none]) [] h (Q14v27F τ ρ h a0 x1)
  have hF0 : pv_Fr τ [1791] h h := pv_Fr.rf
  have L5 : ∀ (nn : Nat) (h_5 : pv_H) (xL2_5 xL3_5 : Int), (pv_Ty τ ρ h_5) → (pv_Fr τ [1791] h h_5) → (0 ≤ x1 ∧ x1 ≤ 0) → (0 ≤ xL2_5 ∧ xL2_5 ≤ 100) → (100 ≤ xL3_5 ∧ xL3_5 ≤ 100) → (∀ j : Nat, (j : Int) < xL2_5 → pv_aI h_5 a0 j = x1) → 100 - xL2_5 < nn → pv_T K 14 5 (pv_fl [some (.ref a0), some (.int (pv_I x1)), some (.int (pv_I xL2_5)), some (.int (pv_I xL3_5))]) [] h_5 (Q14v27F τ ρ h a0 x1) := by
    intro nn
    induction nn with
    | zero => intro h_5 xL2_5 xL3_5 hT_5 hF_5 rL1_5 rL2_5 rL3_5 i0_5 hm; exfalso; omega
    | succ nn ih5 =>
      intro h_5 xL2_5 xL3_5 hT_5 hF_5 rL1_5 rL2_5 rL3_5 i0_5 hm5
      refine pw_iload_n d14_5 rfl ?_
      refine pw_iload_n d14_6 rfl ?_
      refine pw_icmp_ge d14_7 rfl (by omega) (by omega) (fun c7 => ?_) (fun c7 => ?_)
      · exact pw_return d14_20 tt14 ⟨hT_5, hF_5, rfl, (by intro j hj; exact i0_5 j (by omega))⟩
      · refine pw_aload_n d14_10 rfl ?_
        refine pw_iload_n d14_11 rfl ?_
        refine pw_iload_n d14_12 rfl ?_
        refine pw_iast d14_13 hT_5 hA0 rfl rfl rfl (by omega) (by omega) (by omega) (by omega) (fun h13 T13 F13 E13 => ?_)
        have f13 := hF_5.tr (F13.up (by decide))
        refine pw_iinc d14_14 m14 rfl rfl rfl ?_
        refine pw_goto d14_17 rfl ?_
        exact ih5 h13 ((xL2_5 + 1)) (xL3_5) T13 f13 (by omega) (by omega) (by omega) (by first | (intro j hj; exfalso; omega) | exact fl_s (by omega) i0_5 (pe_at E13)) (by omega)
  refine pw_iconst d14_0 ?_
  refine pw_istore_n d14_1 m14 rfl rfl ?_
  refine pw_aload_n d14_2 rfl ?_
  refine pw_alen d14_3 hT hA0 rfl (by decide) ?_
  refine pw_istore_n d14_4 m14 rfl rfl ?_
  exact L5 _ h (0) (((100 : Nat) : Int)) hT hF0 (by omega) (by omega) (by omega) (by first | (intro j hj; exfalso; omega) | exact fl_s (by omega) i0_5 (pe_at E13)) (pv_mu _)

abbrev Q15Z (τ : Nat → Option Nat) (ρ : Nat → Nat → Nat) (h : pv_H) (a0 : Nat) : Option Value → pv_H → Prop := fun r h' => pv_Ty τ ρ h' ∧ pv_Fr τ [142, 143] h h' ∧ r = none ∧ (pv_fI h' a0 14 = 0) ∧ (pv_fI h' a0 15 = 0)
set_option maxHeartbeats 4000000 in
set_option maxRecDepth 20000 in
/-- AngleNet$Net.forgetFlips()V -/
theorem ct15Z {τ : Nat → Option Nat} {ρ : Nat → Nat → Nat} {K : Nat → Nat} {h : pv_H} {a0 : Nat} (hT : pv_Ty τ ρ h) (hA0 : τ a0 = some 2) : pv_C K 15 [.ref a0] h (Q15Z τ ρ h a0) := by
  refine pw_entry 0 ?_
  show pv_T K 15 0 (pv_fl [some (.ref a0)]) [] h (Q15Z τ ρ h a0)
  have hF0 : pv_Fr τ [142, 143] h h := pv_Fr.rf
  refine pw_aload_n d15_0 rfl ?_
  refine pw_iconst d15_1 ?_
  refine pw_putI d15_2 g15_66 w2_14 hT hA0 rfl rfl rfl (by omega) (by omega) (fun h2 T2 F2 E2 => ?_)
  have f2 := hF0.tr (F2.up (by decide))
  refine pw_aload_n d15_5 rfl ?_
  refine pw_iconst d15_6 ?_
  refine pw_putI d15_7 g15_69 w2_15 T2 hA0 rfl rfl rfl (by omega) (by omega) (fun h7 T7 F7 E7 => ?_)
  have f7 := f2.tr (F7.up (by decide))
  have q7 := ((F7 a0 2 hA0).1 14 (by decide)).1
  exact pw_return d15_10 tt15 ⟨T7, f7, rfl, (by rw [((F7 a0 2 hA0).1 14 (by decide)).1]; exact E2), (by exact E7)⟩

abbrev Q13F (τ : Nat → Option Nat) (ρ : Nat → Nat → Nat) (h : pv_H) (a0 : Nat) : Option Value → pv_H → Prop := fun r h' => pv_Ty τ ρ h' ∧ pv_Fr τ [128, 129, 130, 131, 132, 142, 143, 1471, 1535, 1599, 1663, 1727, 1791] h h' ∧ r = none ∧ (nd h' ρ a0) ∧ (pv_fI h' a0 1 = 0) ∧ (pv_fI h' a0 2 = 0)
set_option maxHeartbeats 4000000 in
set_option maxRecDepth 20000 in
/-- AngleNet$Net.clear()V -/
theorem ct13F {τ : Nat → Option Nat} {ρ : Nat → Nat → Nat} {K : Nat → Nat} {h : pv_H} {a0 : Nat} (hT : pv_Ty τ ρ h) (hA0 : τ a0 = some 2) : pv_C K 13 [.ref a0] h (Q13F τ ρ h a0) := by
  refine pw_entry 0 ?_
  show pv_T K 13 0 (pv_fl [some (.ref a0)]) [] h (Q13F τ ρ h a0)
  have hR0_12 : τ (ρ a0 12) = some 27 := hT.rf (t' := 27) hA0 rfl rfl
  have hF0 : pv_Fr τ [128, 129, 130, 131, 132, 142, 143, 1471, 1535, 1599, 1663, 1727, 1791] h h := pv_Fr.rf
  refine pw_aload_n d13_0 rfl ?_
  refine pw_iconst d13_1 ?_
  refine pw_putI d13_2 g13_41 w2_0 hT hA0 rfl rfl rfl (by omega) (by omega) (fun h2 T2 F2 E2 => ?_)
  have f2 := hF0.tr (F2.up (by decide))
  refine pw_aload_n d13_5 rfl ?_
  refine pw_iconst d13_6 ?_
  refine pw_putI d13_7 g13_45 w2_1 T2 hA0 rfl rfl rfl (by omega) (by omega) (fun h7 T7 F7 E7 => ?_)
  have f7 := f2.tr (F7.up (by decide))
  have q7 := ((F7 a0 2 hA0).1 0 (by decide)).1
  refine pw_aload_n d13_10 rfl ?_
  refine pw_iconst d13_11 ?_
  refine pw_putI d13_12 g13_48 w2_2 T7 hA0 rfl rfl rfl (by omega) (by omega) (fun h12 T12 F12 E12 => ?_)
  have f12 := f7.tr (F12.up (by decide))
  have q12 := ((F12 a0 2 hA0).1 0 (by decide)).1
  have q12b := ((F12 a0 2 hA0).1 1 (by decide)).1
  refine pw_aload_n d13_15 rfl ?_
  refine pw_iconst d13_16 ?_
  refine pw_putI d13_17 g13_51 w2_3 T12 hA0 rfl rfl rfl (by omega) (by omega) (fun h17 T17 F17 E17 => ?_)
  have f17 := f12.tr (F17.up (by decide))
  have q17 := ((F17 a0 2 hA0).1 0 (by decide)).1
  have q17b := ((F17 a0 2 hA0).1 1 (by decide)).1
  have q17c := ((F17 a0 2 hA0).1 2 (by decide)).1
  refine pw_aload_n d13_20 rfl ?_
  refine pw_iconst d13_21 ?_
  refine pw_putI d13_22 g13_54 w2_4 T17 hA0 rfl rfl rfl (by omega) (by omega) (fun h22 T22 F22 E22 => ?_)
  have f22 := f17.tr (F22.up (by decide))
  have q22 := ((F22 a0 2 hA0).1 0 (by decide)).1
  have q22b := ((F22 a0 2 hA0).1 1 (by decide)).1
  have q22c := ((F22 a0 2 hA0).1 2 (by decide)).1
  have q22d := ((F22 a0 2 hA0).1 3 (by decide)).1
  refine pw_aload_n d13_25 rfl ?_
  refine pw_getR d13_26 g13_18 T22 hA0 rfl rfl (fun t26 => ?_)
  have t26 : τ (ρ a0 7) = some 22 := t26
  refine pw_iconst d13_29 ?_
  refine pw_callS2 d13_30 k13_57 rfl rfl (ct14v22 (τ := τ) (ρ := ρ) T22 t26 (by omega)) (fun r30 h30 q30 => ?_)
  obtain ⟨T30, F30, ez30⟩ := q30
  subst ez30
  have f30 := f22.tr (F30.up (by decide))
  have q30b := ((F30 a0 2 hA0).1 0 (by decide)).1
  have q30c := ((F30 a0 2 hA0).1 1 (by decide)).1
  have q30d := ((F30 a0 2 hA0).1 2 (by decide)).1
  have q30e := ((F30 a0 2 hA0).1 3 (by decide)).1
  have q30f := ((F30 a0 2 hA0).1 4 (by decide)).1
  refine pw_aload_n d13_33 rfl ?_
  refine pw_getR d13_34 g13_21 T30 hA0 rfl rfl (fun t34 => ?_)
  have t34 : τ (ρ a0 8) = some 23 := t34
  refine pw_iconst d13_37 ?_
  refine pw_callS2 d13_38 k13_57 rfl rfl (ct14v23 (τ := τ) (ρ := ρ) T30 t34 (by omega)) (fun r38 h38 q38 => ?_)
  obtain ⟨T38, F38, ez38⟩ := q38
  subst ez38
  have f38 := f30.tr (F38.up (by decide))
  have q38b := ((F38 a0 2 hA0).1 0 (by decide)).1
  have q38c := ((F38 a0 2 hA0).1 1 (by decide)).1
  have q38d := ((F38 a0 2 hA0).1 2 (by decide)).1
  have q38e := ((F38 a0 2 hA0).1 3 (by decide)).1
  have q38f := ((F38 a0 2 hA0).1 4 (by decide)).1
  refine pw_aload_n d13_41 rfl ?_
  refine pw_getR d13_42 g13_24 T38 hA0 rfl rfl (fun t42 => ?_)
  have t42 : τ (ρ a0 9) = some 24 := t42
  refine pw_iconst d13_45 ?_
  refine pw_callS2 d13_46 k13_57 rfl rfl (ct14v24 (τ := τ) (ρ := ρ) T38 t42 (by omega)) (fun r46 h46 q46 => ?_)
  obtain ⟨T46, F46, ez46⟩ := q46
  subst ez46
  have f46 := f38.tr (F46.up (by decide))
  have q46b := ((F46 a0 2 hA0).1 0 (by decide)).1
  have q46c := ((F46 a0 2 hA0).1 1 (by decide)).1
  have q46d := ((F46 a0 2 hA0).1 2 (by decide)).1
  have q46e := ((F46 a0 2 hA0).1 3 (by decide)).1
  have q46f := ((F46 a0 2 hA0).1 4 (by decide)).1
  refine pw_aload_n d13_49 rfl ?_
  refine pw_getR d13_50 g13_27 T46 hA0 rfl rfl (fun t50 => ?_)
  have t50 : τ (ρ a0 10) = some 25 := t50
  refine pw_iconst d13_53 ?_
  refine pw_callS2 d13_54 k13_57 rfl rfl (ct14v25 (τ := τ) (ρ := ρ) T46 t50 (by omega)) (fun r54 h54 q54 => ?_)
  obtain ⟨T54, F54, ez54⟩ := q54
  subst ez54
  have f54 := f46.tr (F54.up (by decide))
  have q54b := ((F54 a0 2 hA0).1 0 (by decide)).1
  have q54c := ((F54 a0 2 hA0).1 1 (by decide)).1
  have q54d := ((F54 a0 2 hA0).1 2 (by decide)).1
  have q54e := ((F54 a0 2 hA0).1 3 (by decide)).1
  have q54f := ((F54 a0 2 hA0).1 4 (by decide)).1
  refine pw_aload_n d13_57 rfl ?_
  refine pw_getR d13_58 g13_30 T54 hA0 rfl rfl (fun t58 => ?_)
  have t58 : τ (ρ a0 11) = some 26 := t58
  refine pw_iconst d13_61 ?_
  refine pw_callS2 d13_62 k13_57 rfl rfl (ct14v26 (τ := τ) (ρ := ρ) T54 t58 (by omega)) (fun r62 h62 q62 => ?_)
  obtain ⟨T62, F62, ez62⟩ := q62
  subst ez62
  have f62 := f54.tr (F62.up (by decide))
  have q62b := ((F62 a0 2 hA0).1 0 (by decide)).1
  have q62c := ((F62 a0 2 hA0).1 1 (by decide)).1
  have q62d := ((F62 a0 2 hA0).1 2 (by decide)).1
  have q62e := ((F62 a0 2 hA0).1 3 (by decide)).1
  have q62f := ((F62 a0 2 hA0).1 4 (by decide)).1
  refine pw_aload_n d13_65 rfl ?_
  refine pw_getR d13_66 g13_33 T62 hA0 rfl rfl (fun t66 => ?_)
  have t66 : τ (ρ a0 12) = some 27 := t66
  refine pw_iconst d13_69 ?_
  refine pw_callS2 d13_70 k13_57 rfl rfl (ct14v27F (τ := τ) (ρ := ρ) T62 t66 (by omega)) (fun r70 h70 q70 => ?_)
  obtain ⟨T70, F70, ez70, pz70_0⟩ := q70
  subst ez70
  have f70 := f62.tr (F70.up (by decide))
  have q70b := ((F70 a0 2 hA0).1 0 (by decide)).1
  have q70c := ((F70 a0 2 hA0).1 1 (by decide)).1
  have q70d := ((F70 a0 2 hA0).1 2 (by decide)).1
  have q70e := ((F70 a0 2 hA0).1 3 (by decide)).1
  have q70f := ((F70 a0 2 hA0).1 4 (by decide)).1
  refine pw_aload_n d13_73 rfl ?_
  refine pw_callV0 d13_74 k13_63 T70 hA0 rfl rfl rfl (ct15Z (τ := τ) (ρ := ρ) T70 hA0) (fun r74 h74 q74 => ?_)
  obtain ⟨T74, F74, ez74, pz74_0, pz74_1⟩ := q74
  subst ez74
  have f74 := f70.tr (F74.up (by decide))
  have q74b := ((F74 a0 2 hA0).1 0 (by decide)).1
  have q74c := ((F74 a0 2 hA0).1 1 (by decide)).1
  have q74d := ((F74 a0 2 hA0).1 2 (by decide)).1
  have q74e := ((F74 a0 2 hA0).1 3 (by decide)).1
  have q74f := ((F74 a0 2 hA0).1 4 (by decide)).1
  have t77 : pv_fI h74 a0 1 = 0 := by rw [((F74 a0 2 hA0).1 1 (by decide)).1, ((F70 a0 2 hA0).1 1 (by decide)).1, ((F62 a0 2 hA0).1 1 (by decide)).1, ((F54 a0 2 hA0).1 1 (by decide)).1, ((F46 a0 2 hA0).1 1 (by decide)).1, ((F38 a0 2 hA0).1 1 (by decide)).1, ((F30 a0 2 hA0).1 1 (by decide)).1, ((F22 a0 2 hA0).1 1 (by decide)).1, ((F17 a0 2 hA0).1 1 (by decide)).1, ((F12 a0 2 hA0).1 1 (by decide)).1]; exact E7
  exact pw_return d13_77 tt13 ⟨T74, f74, rfl, (by exact nd_clear t77 pz74_0 pz74_1 (fun j hj => by rw [F74.aeq hR0_12 (by decide)]; exact pz70_0 j hj)), (by exact t77), (by rw [((F74 a0 2 hA0).1 2 (by decide)).1, ((F70 a0 2 hA0).1 2 (by decide)).1, ((F62 a0 2 hA0).1 2 (by decide)).1, ((F54 a0 2 hA0).1 2 (by decide)).1, ((F46 a0 2 hA0).1 2 (by decide)).1, ((F38 a0 2 hA0).1 2 (by decide)).1, ((F30 a0 2 hA0).1 2 (by decide)).1, ((F22 a0 2 hA0).1 2 (by decide)).1, ((F17 a0 2 hA0).1 2 (by decide)).1]; exact E12)⟩

abbrev Q36F (τ : Nat → Option Nat) (ρ : Nat → Nat → Nat) (h : pv_H) (a0 : Nat) (x1 : Int) : Option Value → pv_H → Prop := fun r h' => pv_Ty τ ρ h' ∧ pv_Fr τ [128, 131, 132] h h' ∧ r = none ∧ (nd h' ρ a0)
set_option maxHeartbeats 4000000 in
set_option maxRecDepth 20000 in
/-- AngleNet$Net.begin(I)V -/
theorem ct36F {τ : Nat → Option Nat} {ρ : Nat → Nat → Nat} {K : Nat → Nat} {h : pv_H} {a0 : Nat} {x1 : Int} (hT : pv_Ty τ ρ h) (hA0 : τ a0 = some 2) (hX1 : 0 ≤ x1 ∧ x1 ≤ 10) (hP0 : nd h ρ a0) (hP1 : pv_fI h a0 1 = 0) : pv_C K 36 [.ref a0, .int (pv_I x1)] h (Q36F τ ρ h a0 x1) := by
  refine pw_entry 0 ?_
  show pv_T K 36 0 (pv_fl [some (.ref a0), some (.int (pv_I x1))]) [] h (Q36F τ ρ h a0 x1)
  have hR0_12 : τ (ρ a0 12) = some 27 := hT.rf (t' := 27) hA0 rfl rfl
  have hF0 : pv_Fr τ [128, 131, 132] h h := pv_Fr.rf
  refine pw_aload_n d36_0 rfl ?_
  refine pw_iload_n d36_1 rfl ?_
  refine pw_putI d36_2 g36_41 w2_0 hT hA0 rfl rfl rfl (by omega) (by omega) (fun h2 T2 F2 E2 => ?_)
  have f2 := hF0.tr (F2.up (by decide))
  refine pw_aload_n d36_5 rfl ?_
  refine pw_iconst d36_6 ?_
  refine pw_putI d36_7 g36_51 w2_3 T2 hA0 rfl rfl rfl (by omega) (by omega) (fun h7 T7 F7 E7 => ?_)
  have f7 := f2.tr (F7.up (by decide))
  have q7 := ((F7 a0 2 hA0).1 0 (by decide)).1
  refine pw_aload_n d36_10 rfl ?_
  refine pw_sipush d36_11 (by decide) ?_
  refine pw_putI d36_14 g36_54 w2_4 T7 hA0 rfl rfl rfl (by omega) (by omega) (fun h14 T14 F14 E14 => ?_)
  have f14 := f7.tr (F14.up (by decide))
  have q14 := ((F14 a0 2 hA0).1 0 (by decide)).1
  have q14b := ((F14 a0 2 hA0).1 3 (by decide)).1
  exact pw_return d36_17 tt36 ⟨T14, f14, rfl, (by exact nd_begin hP0 hP1 (by rw [((F14 a0 2 hA0).1 1 (by decide)).1, ((F7 a0 2 hA0).1 1 (by decide)).1, ((F2 a0 2 hA0).1 1 (by decide)).1]) (by rw [((F14 a0 2 hA0).1 14 (by decide)).1, ((F7 a0 2 hA0).1 14 (by decide)).1, ((F2 a0 2 hA0).1 14 (by decide)).1]) (by rw [((F14 a0 2 hA0).1 15 (by decide)).1, ((F7 a0 2 hA0).1 15 (by decide)).1, ((F2 a0 2 hA0).1 15 (by decide)).1]) ((F14.aeq hR0_12 (by decide)).trans ((F7.aeq hR0_12 (by decide)).trans (F2.aeq hR0_12 (by decide)))))⟩

abbrev Q38F (τ : Nat → Option Nat) (ρ : Nat → Nat → Nat) (h : pv_H) (a0 : Nat) : Option Value → pv_H → Prop := fun r h' => pv_Ty τ ρ h' ∧ pv_Fr τ [65, 66, 69, 70, 71, 72, 73] h h' ∧ ∃ z : Int, r = some (.int (pv_I z)) ∧ 0 ≤ z ∧ z ≤ 1 ∧ (z = 1 → 0 ≤ pv_fI h' a0 8 ∧ pv_fI h' a0 8 ≤ 9) ∧ (z = 1 → pv_fI h' a0 8 < pv_fI h (ρ a0 3) 0)
set_option maxHeartbeats 4000000 in
set_option maxRecDepth 20000 in
/-- AngleNet$Tape.takePost()Z -/
theorem ct38F {τ : Nat → Option Nat} {ρ : Nat → Nat → Nat} {K : Nat → Nat} {h : pv_H} {a0 : Nat} (hT : pv_Ty τ ρ h) (hA0 : τ a0 = some 1) : pv_C K 38 [.ref a0] h (Q38F τ ρ h a0) := by
  refine pw_entry 0 ?_
  show pv_T K 38 0 (pv_fl [some (.ref a0)]) [] h (Q38F τ ρ h a0)
  have hF0 : pv_Fr τ [65, 66, 69, 70, 71, 72, 73] h h := pv_Fr.rf
  refine pw_aload_n d38_0 rfl ?_
  refine pw_iconst d38_1 ?_
  refine pw_aload_n d38_2 rfl ?_
  refine pw_getR d38_3 g38_18 hT hA0 rfl rfl (fun t3 => ?_)
  have t3 : τ (ρ a0 3) = some 2 := t3
  refine pw_getI d38_6 g38_89 hT t3 rfl rfl (fun u6 vu6 => ?_)
  refine pw_iconst d38_9 ?_
  refine pw_isub d38_10 ?_
  refine pw_callV2 d38_11 k38_92 hT hA0 rfl rfl rfl (ct33 (τ := τ) (ρ := ρ) hT hA0 (by omega) (by omega)) (fun r11 h11 q11 => ?_)
  obtain ⟨T11, F11, z11, ez11, lz11, uz11, pz11_0⟩ := q11
  subst ez11
  have f11 := hF0.tr (F11.up (by decide))
  have q11b := ((F11 (ρ a0 3) 2 t3).1 0 (by decide)).1
  exact pw_zreturn d38_14 tt38 (by omega) ⟨T11, f11, z11, rfl, (by omega), (by omega), (by omega), (by omega)⟩

abbrev Q39F (τ : Nat → Option Nat) (ρ : Nat → Nat → Nat) (h : pv_H) (a0 : Nat) (x1 : Int) (x2 : Int) (x3 : Int) : Option Value → pv_H → Prop := fun r h' => h = h' ∧ ∃ z : Int, r = some (.int (pv_I z)) ∧ 0 ≤ z ∧ z ≤ 1 ∧ (z = 1 → ∀ t : Nat, (t : Int) < pv_fI h a0 1 → ¬ (pf_has (nk_c h ρ a0) t x1 ∧ pf_has (nk_c h ρ a0) t x2 ∧ pf_has (nk_c h ρ a0) t x3))
set_option maxHeartbeats 4000000 in
set_option maxRecDepth 20000 in
/-- AngleNet$Net.takesThird(III)Z -/
theorem ct39F {τ : Nat → Option Nat} {ρ : Nat → Nat → Nat} {K : Nat → Nat} {h : pv_H} {a0 : Nat} {x1 : Int} {x2 : Int} {x3 : Int} (hT : pv_Ty τ ρ h) (hA0 : τ a0 = some 2) (hX1 : 0 ≤ x1 ∧ x1 ≤ 9) (hX2 : 0 ≤ x2 ∧ x2 ≤ 9) (hX3 : 0 ≤ x3 ∧ x3 ≤ 9) (hP0 : pf_G (pv_fI h a0 0) (nk_n h a0) (nk_c h ρ a0)) (hP1 : x1 ≠ x2 ∧ x1 ≠ x3 ∧ x2 ≠ x3) : pv_C K 39 [.ref a0, .int (pv_I x1), .int (pv_I x2), .int (pv_I x3)] h (Q39F τ ρ h a0 x1 x2 x3) := by
  refine pw_entry 2 ?_
  show pv_T K 39 0 (pv_fl [some (.ref a0), some (.int (pv_I x1)), some (.int (pv_I x2)), some (.int (pv_I x3)), none, none]) [] h (Q39F τ ρ h a0 x1 x2 x3)
  have L16 : ∀ (nn : Nat) (xL4_16 xL5_16 : Int), (0 ≤ x1 ∧ x1 ≤ 9) → (0 ≤ x2 ∧ x2 ≤ 9) → (0 ≤ x3 ∧ x3 ≤ 9) → (0 ≤ xL4_16 ∧ xL4_16 ≤ 1023) → (0 ≤ xL5_16 ∧ xL5_16 ≤ 18) → (∀ t : Nat, (t : Int) < xL5_16 → ¬ (pf_has (nk_c h ρ a0) t x1 ∧ pf_has (nk_c h ρ a0) t x2 ∧ pf_has (nk_c h ρ a0) t x3)) → (∀ x : Nat, x < 32 → (pb xL4_16 x = true ↔ (x1 = x ∨ x2 = x ∨ x3 = x))) → (pv_r xL4_16) → 18 - xL5_16 < nn → pv_T K 39 16 (pv_fl [some (.ref a0), some (.int (pv_I x1)), some (.int (pv_I x2)), some (.int (pv_I x3)), some (.int (pv_I xL4_16)), some (.int (pv_I xL5_16))]) [] h (Q39F τ ρ h a0 x1 x2 x3) := by
    intro nn
    induction nn with
    | zero => intro xL4_16 xL5_16 rL1_16 rL2_16 rL3_16 rL4_16 rL5_16 i0_16 i1_16 i2_16 hm; exfalso; omega
    | succ nn ih16 =>
      intro xL4_16 xL5_16 rL1_16 rL2_16 rL3_16 rL4_16 rL5_16 i0_16 i1_16 i2_16 hm16
      refine pw_iload d39_16 rfl ?_
      refine pw_aload_n d39_18 rfl ?_
      refine pw_getI d39_19 g39_45 hT hA0 rfl rfl (fun u19 vu19 => ?_)
      refine pw_icmp_ge d39_22 rfl (by omega) (by omega) (fun c22 => ?_) (fun c22 => ?_)
      · refine pw_aload_n d39_44 rfl ?_
        refine pw_getR d39_45 g39_33 hT hA0 rfl rfl (fun t45 => ?_)
        have t45 : τ (ρ a0 12) = some 27 := t45
        refine pw_bipush d39_48 (by decide) ?_
        refine pw_iload_n d39_50 rfl ?_
        refine pw_imul d39_51 ?_
        refine pw_iload_n d39_52 rfl ?_
        refine pw_iadd d39_53 ?_
        refine pw_iald d39_54 hT t45 rfl rfl (by omega) (by omega) (fun u54 vu54 => ?_)
        refine pw_iconst d39_55 ?_
        refine pw_icmp_ge d39_56 rfl (by omega) (by omega) (fun c56 => ?_) (fun c56 => ?_)
        · refine pw_iconst d39_93 ?_
          exact pw_zreturn d39_94 tt39 (by omega) ⟨rfl, 0, rfl, (by omega), (by omega), (by first | (intro e; exfalso; omega) | assumption | (intro _ t ht; exact i0_16 t (by omega)))⟩
        · refine pw_aload_n d39_59 rfl ?_
          refine pw_getR d39_60 g39_33 hT hA0 rfl rfl (fun t60 => ?_)
          have t60 : τ (ρ a0 12) = some 27 := t60
          refine pw_bipush d39_63 (by decide) ?_
          refine pw_iload_n d39_65 rfl ?_
          refine pw_imul d39_66 ?_
          refine pw_iload_n d39_67 rfl ?_
          refine pw_iadd d39_68 ?_
          refine pw_iald d39_69 hT t60 rfl rfl (by omega) (by omega) (fun u69 vu69 => ?_)
          refine pw_iconst d39_70 ?_
          refine pw_icmp_ge d39_71 rfl (by omega) (by omega) (fun c71 => ?_) (fun c71 => ?_)
          · refine pw_iconst d39_93 ?_
            exact pw_zreturn d39_94 tt39 (by omega) ⟨rfl, 0, rfl, (by omega), (by omega), (by first | (intro e; exfalso; omega) | assumption | (intro _ t ht; exact i0_16 t (by omega)))⟩
          · refine pw_aload_n d39_74 rfl ?_
            refine pw_getR d39_75 g39_33 hT hA0 rfl rfl (fun t75 => ?_)
            have t75 : τ (ρ a0 12) = some 27 := t75
            refine pw_bipush d39_78 (by decide) ?_
            refine pw_iload_n d39_80 rfl ?_
            refine pw_imul d39_81 ?_
            refine pw_iload_n d39_82 rfl ?_
            refine pw_iadd d39_83 ?_
            refine pw_iald d39_84 hT t75 rfl rfl (by omega) (by omega) (fun u84 vu84 => ?_)
            refine pw_iconst d39_85 ?_
            refine pw_icmp_ge d39_86 rfl (by omega) (by omega) (fun c86 => ?_) (fun c86 => ?_)
            · refine pw_iconst d39_93 ?_
              exact pw_zreturn d39_94 tt39 (by omega) ⟨rfl, 0, rfl, (by omega), (by omega), (by first | (intro e; exfalso; omega) | assumption | (intro _ t ht; exact i0_16 t (by omega)))⟩
            · refine pw_iconst d39_89 ?_
              refine pw_goto d39_90 rfl ?_
              exact pw_zreturn d39_94 tt39 (by omega) ⟨rfl, 1, rfl, (by omega), (by omega), (by first | (intro e; exfalso; omega) | assumption | (intro _ t ht; exact i0_16 t (by omega)))⟩
      · refine pw_aload_n d39_25 rfl ?_
        refine pw_iload d39_26 rfl ?_
        refine pw_callV1 d39_28 k39_82 hT hA0 rfl rfl rfl (ct40F (τ := τ) (ρ := ρ) hT hA0 (by omega)) (fun r28 h28 q28 => ?_)
        obtain ⟨eh28, z28, ez28, lz28, uz28, pz28_0⟩ := q28
        subst eh28
        subst ez28
        refine pw_iload d39_31 rfl ?_
        refine pw_icmp_ne d39_33 rfl (by omega) (by omega) (fun c33 => ?_) (fun c33 => ?_)
        · refine pw_iinc d39_38 m39 rfl rfl rfl ?_
          refine pw_goto d39_41 rfl ?_
          exact ih16 (xL4_16) ((xL5_16 + 1)) (by omega) (by omega) (by omega) (by omega) (by omega) (by first | (intro t ht; exfalso; omega) | exact tk_s (by omega) i0_16 (tk_no (hP0.1 _ (show (xL5_16).toNat < (pv_fI h a0 1).toNat by omega)).2 hP1 pz28_0 i1_16 (by unfold pv_r; omega) i2_16 (by omega))) (by first | assumption | exact po_bit (by omega) (by omega) (by omega) hz2 hz5 hz9 ez2 ez5 ez6 ez9 ez10) (by first | assumption | (unfold pv_r; omega)) (by omega)
        · refine pw_iconst d39_36 ?_
          exact pw_zreturn d39_37 tt39 (by omega) ⟨rfl, 0, rfl, (by omega), (by omega), (by first | (intro e; exfalso; omega) | assumption | (intro _ t ht; exact i0_16 t (by omega)))⟩
  refine pw_iconst d39_0 ?_
  refine pw_iload_n d39_1 rfl ?_
  refine pw_ishl d39_2 (fun z2 hz2 ez2 => ?_)
  have bz2 := pv_shl1_b (n := 9) (m := 512) (y := x1) (by omega) (by omega) (by decide) (by decide) hz2 ez2
  refine pw_iconst d39_3 ?_
  refine pw_iload_n d39_4 rfl ?_
  refine pw_ishl d39_5 (fun z5 hz5 ez5 => ?_)
  have bz5 := pv_shl1_b (n := 9) (m := 512) (y := x2) (by omega) (by omega) (by decide) (by decide) hz5 ez5
  refine pw_ior d39_6 (fun z6 hz6 ez6 => ?_)
  have bz6 := pv_or_b (n := 10) (m := 1024) (x := z2) (y := z5) (by omega) (by omega) (by omega) (by omega) (by decide) (by decide) hz6 ez6
  refine pw_iconst d39_7 ?_
  refine pw_iload_n d39_8 rfl ?_
  refine pw_ishl d39_9 (fun z9 hz9 ez9 => ?_)
  have bz9 := pv_shl1_b (n := 9) (m := 512) (y := x3) (by omega) (by omega) (by decide) (by decide) hz9 ez9
  refine pw_ior d39_10 (fun z10 hz10 ez10 => ?_)
  have bz10 := pv_or_b (n := 10) (m := 1024) (x := z6) (y := z9) (by omega) (by omega) (by omega) (by omega) (by decide) (by decide) hz10 ez10
  refine pw_istore d39_11 m39 rfl rfl ?_
  refine pw_iconst d39_13 ?_
  refine pw_istore d39_14 m39 rfl rfl ?_
  exact L16 _ (z10) (0) (by omega) (by omega) (by omega) (by omega) (by omega) (by first | (intro t ht; exfalso; omega) | exact tk_s (by omega) i0_16 (tk_no (hP0.1 _ (show (xL5_16).toNat < (pv_fI h a0 1).toNat by omega)).2 hP1 pz28_0 i1_16 (by unfold pv_r; omega) i2_16 (by omega))) (by first | assumption | exact po_bit (by omega) (by omega) (by omega) hz2 hz5 hz9 ez2 ez5 ez6 ez9 ez10) (by first | assumption | (unfold pv_r; omega)) (pv_mu _)

abbrev Q41F (τ : Nat → Option Nat) (ρ : Nat → Nat → Nat) (h : pv_H) (a0 : Nat) (x1 : Int) (x2 : Int) (x3 : Int) : Option Value → pv_H → Prop := fun r h' => pv_Ty τ ρ h' ∧ pv_Fr τ [65, 66, 69, 70, 71, 72, 73, 129, 1343, 1407, 1791] h h' ∧ ∃ z : Int, r = some (.int (pv_I z)) ∧ 0 ≤ z ∧ z ≤ 1 ∧ (nd h' ρ (ρ a0 3))
set_option maxHeartbeats 4000000 in
set_option maxRecDepth 20000 in
/-- AngleNet$Tape.readSum(III)Z -/
theorem ct41F {τ : Nat → Option Nat} {ρ : Nat → Nat → Nat} {K : Nat → Nat} {h : pv_H} {a0 : Nat} {x1 : Int} {x2 : Int} {x3 : Int} (hK : pv_Kok K) (hT : pv_Ty τ ρ h) (hA0 : τ a0 = some 1) (hX1 : 0 ≤ x1 ∧ x1 ≤ 9) (hX2 : 0 ≤ x2 ∧ x2 ≤ 9) (hX3 : 0 ≤ x3 ∧ x3 ≤ 9) (hP0 : rs_P h ρ (ρ a0 3) x1 x2 x3) (hP1 : x1 ≠ x2 ∧ x1 ≠ x3 ∧ x2 ≠ x3) : pv_C K 41 [.ref a0, .int (pv_I x1), .int (pv_I x2), .int (pv_I x3)] h (Q41F τ ρ h a0 x1 x2 x3) := by
  refine pw_entry 1 ?_
  show pv_T K 41 0 (pv_fl [some (.ref a0), some (.int (pv_I x1)), some (.int (pv_I x2)), some (.int (pv_I x3)), none]) [] h (Q41F τ ρ h a0 x1 x2 x3)
  have hR0_3 : τ (ρ a0 3) = some 2 := hT.rf (t' := 2) hA0 rfl rfl
  have hF0 : pv_Fr τ [65, 66, 69, 70, 71, 72, 73, 129, 1343, 1407, 1791] h h := pv_Fr.rf
  have J33 : ∀ (h_33 : pv_H) (xL4_33 : Int), (pv_Ty τ ρ h_33) → (pv_Fr τ [65, 66, 69, 70, 71, 72, 73, 129, 1343, 1407, 1791] h h_33) → (0 ≤ x1 ∧ x1 ≤ 9) → (0 ≤ x2 ∧ x2 ≤ 9) → (0 ≤ x3 ∧ x3 ≤ 9) → (3 ≤ xL4_33 ∧ xL4_33 ≤ 540) → (rs_P h_33 ρ (ρ a0 3) x1 x2 x3) → pv_T K 41 33 (pv_fl [some (.ref a0), some (.int (pv_I x1)), some (.int (pv_I x2)), some (.int (pv_I x3)), some (.int (pv_I xL4_33))]) [] h_33 (Q41F τ ρ h a0 x1 x2 x3) := by
    intro h_33 xL4_33 hT_33 hF_33 rL1_33 rL2_33 rL3_33 rL4_33 i0_33
    have b33 := i0_33.2.1
    have sx33 : ∀ j : Nat, j < 100 → -1000 ≤ pv_aI h_33 (ρ (ρ a0 3) 12) j ∧ pv_aI h_33 (ρ (ρ a0 3) 12) j ≤ 1000 := sh_1000 (i0_33.1.1.b (nk_18 hT_33 hR0_3)) (by decide) (by decide)
    have z33 := (hT_33.fI (k := 1) hR0_3 rfl rfl).1
    have n5_33 := (hT_33.net hR0_3).1.1
    have n12_33 := (hT_33.net hR0_3).2.2.2.1
    refine pw_aload_n d41_33 rfl ?_
    refine pw_getR d41_34 g41_18 hT_33 hA0 rfl rfl (fun t34 => ?_)
    have t34 : τ (ρ a0 3) = some 2 := t34
    refine pw_aload_n d41_37 rfl ?_
    refine pw_getR d41_38 g41_18 hT_33 hA0 rfl rfl (fun t38 => ?_)
    have t38 : τ (ρ a0 3) = some 2 := t38
    refine pw_getI d41_41 g41_105 hT_33 t38 rfl rfl (fun u41 vu41 => ?_)
    refine pw_iload_n d41_44 rfl ?_
    refine pw_iload_n d41_45 rfl ?_
    refine pw_iload_n d41_46 rfl ?_
    refine pw_iload d41_47 rfl ?_
    refine pw_callV5 d41_49 k41_151 hT_33 t38 rfl rfl rfl (ct42F (τ := τ) (ρ := ρ) hT_33 t38 (by omega) (by omega) (by omega) (by omega) (by omega) (by first | assumption | omega)) (fun r49 h49 q49 => ?_)
    obtain ⟨T49, F49, ez49, pz49_0, pz49_1⟩ := q49
    subst ez49
    have f49 := hF_33.tr (F49.up (by decide))
    have q49b := ((F49 (ρ a0 3) 2 t38).1 1 (by decide)).1
    refine pw_aload_n d41_52 rfl ?_
    refine pw_getR d41_53 g41_18 T49 hA0 rfl rfl (fun t53 => ?_)
    have t53 : τ (ρ a0 3) = some 2 := t53
    refine pw_dup d41_56 rfl ?_
    refine pw_getI d41_57 g41_105 T49 t53 rfl rfl (fun u57 vu57 => ?_)
    refine pw_iconst d41_60 ?_
    refine pw_iadd d41_61 ?_
    refine pw_putI d41_62 g41_105 w2_1 T49 t53 rfl rfl rfl (by omega) (by omega) (fun h62 T62 F62 E62 => ?_)
    have f62 := f49.tr (F62.up (by decide))
    have ec62 : nk_c h62 ρ (ρ a0 3) = nk_c h49 ρ (ρ a0 3) := by unfold nk_c; rw [F62.aeq n5_33 (by decide)]
    have es62 : pv_aI h62 (ρ (ρ a0 3) 12) = pv_aI h49 (ρ (ρ a0 3) 12) := F62.aeq n12_33 (by decide)
    refine pw_iconst d41_65 ?_
    exact pw_zreturn d41_66 tt41 (by omega) ⟨T62, f62, 1, rfl, (by omega), (by omega), (by first | assumption | exact rs_end i0_33.1 z33 hP1 ⟨by omega, i0_33.2.2.1.1⟩ ⟨by omega, i0_33.2.2.1.2.1⟩ ⟨by omega, i0_33.2.2.1.2.2⟩ i0_33.2.2.2 (by rw [ec62]; exact pz49_0) (by rw [ec62, es62]; exact pz49_1) (by rw [((F62 (ρ a0 3) 2 hR0_3).1 0 (by decide)).1, ((F49 (ρ a0 3) 2 hR0_3).1 0 (by decide)).1]) (by rw [E62, ((F49 (ρ a0 3) 2 hR0_3).1 1 (by decide)).1]) (by rw [((F62 (ρ a0 3) 2 hR0_3).1 14 (by decide)).1, ((F49 (ρ a0 3) 2 hR0_3).1 14 (by decide)).1]) (by rw [((F62 (ρ a0 3) 2 hR0_3).1 15 (by decide)).1, ((F49 (ρ a0 3) 2 hR0_3).1 15 (by decide)).1]))⟩
  refine pw_sipush d41_0 (by decide) ?_
  refine pw_istore d41_3 m41 rfl rfl ?_
  refine pw_aload_n d41_5 rfl ?_
  refine pw_ldcS d41_6 n41_6.1 n41_6.2 ?_
  refine pw_callV1 d41_8 k41_96 hT hA0 rfl rfl rfl (ct20 (τ := τ) (ρ := ρ) hK hT hA0 (by decide)) (fun r8 h8 q8 => ?_)
  obtain ⟨T8, F8, z8, ez8, lz8, uz8⟩ := q8
  subst ez8
  have f8 := hF0.tr (F8.up (by decide))
  have q8b := ((F8 (ρ a0 3) 2 hR0_3).1 1 (by decide)).1
  have d8 := hP0.fr hT hR0_3 F8 (by decide)
  refine pw_if_eq d41_11 rfl (by omega) (fun c11 => ?_) (fun c11 => ?_)
  · exact J33 h8 (180) T8 f8 (by omega) (by omega) (by omega) (by omega) (by assumption)
  · refine pw_aload_n d41_14 rfl ?_
    refine pw_iconst d41_15 ?_
    refine pw_sipush d41_16 (by decide) ?_
    refine pw_callV2 d41_19 k41_92 T8 hA0 rfl rfl rfl (ct33 (τ := τ) (ρ := ρ) T8 hA0 (by omega) (by omega)) (fun r19 h19 q19 => ?_)
    obtain ⟨T19, F19, z19, ez19, lz19, uz19, pz19_0⟩ := q19
    subst ez19
    have f19 := f8.tr (F19.up (by decide))
    have q19b := ((F19 (ρ a0 3) 2 hR0_3).1 1 (by decide)).1
    have d19 := d8.fr T8 hR0_3 F19 (by decide)
    have e19 := d19.1
    refine pw_if_ne d41_22 rfl (by omega) (fun c22 => ?_) (fun c22 => ?_)
    · refine pw_aload_n d41_27 rfl ?_
      refine pw_getI d41_28 g41_83 T19 hA0 rfl rfl (fun u28 vu28 => ?_)
      refine pw_istore d41_31 m41 rfl rfl ?_
      exact J33 h19 ((pv_fI h19 a0 8)) T19 f19 (by omega) (by omega) (by omega) (by omega) (by assumption)
    · refine pw_iconst d41_25 ?_
      exact pw_zreturn d41_26 tt41 (by omega) ⟨T19, f19, 0, rfl, (by omega), (by omega), (by first | assumption | exact rs_end i0_33.1 z33 hP1 ⟨by omega, i0_33.2.2.1.1⟩ ⟨by omega, i0_33.2.2.1.2.1⟩ ⟨by omega, i0_33.2.2.1.2.2⟩ i0_33.2.2.2 (by rw [ec62]; exact pz49_0) (by rw [ec62, es62]; exact pz49_1) (by rw [((F62 (ρ a0 3) 2 hR0_3).1 0 (by decide)).1, ((F49 (ρ a0 3) 2 hR0_3).1 0 (by decide)).1]) (by rw [E62, ((F49 (ρ a0 3) 2 hR0_3).1 1 (by decide)).1]) (by rw [((F62 (ρ a0 3) 2 hR0_3).1 14 (by decide)).1, ((F49 (ρ a0 3) 2 hR0_3).1 14 (by decide)).1]) (by rw [((F62 (ρ a0 3) 2 hR0_3).1 15 (by decide)).1, ((F49 (ρ a0 3) 2 hR0_3).1 15 (by decide)).1]))⟩

abbrev Q37F (τ : Nat → Option Nat) (ρ : Nat → Nat → Nat) (h : pv_H) (a0 : Nat) : Option Value → pv_H → Prop := fun r h' => pv_Ty τ ρ h' ∧ pv_Fr τ [65, 66, 69, 70, 71, 72, 73, 129, 1343, 1407, 1791] h h' ∧ ∃ z : Int, r = some (.int (pv_I z)) ∧ 0 ≤ z ∧ z ≤ 1 ∧ (nd h' ρ (ρ a0 3))
set_option maxHeartbeats 4000000 in
set_option maxRecDepth 20000 in
/-- AngleNet$Tape.readThird()Z -/
theorem ct37F {τ : Nat → Option Nat} {ρ : Nat → Nat → Nat} {K : Nat → Nat} {h : pv_H} {a0 : Nat} (hK : pv_Kok K) (hT : pv_Ty τ ρ h) (hA0 : τ a0 = some 1) (hP0 : nd h ρ (ρ a0 3)) (hP1 : pv_fI h (ρ a0 3) 1 ≤ 17) : pv_C K 37 [.ref a0] h (Q37F τ ρ h a0) := by
  refine pw_entry 3 ?_
  show pv_T K 37 0 (pv_fl [some (.ref a0), none, none, none]) [] h (Q37F τ ρ h a0)
  have hR0_3 : τ (ρ a0 3) = some 2 := hT.rf (t' := 2) hA0 rfl rfl
  have hF0 : pv_Fr τ [65, 66, 69, 70, 71, 72, 73, 129, 1343, 1407, 1791] h h := pv_Fr.rf
  have J80 : ∀ (h_80 : pv_H) (o1_80 o2_80 o3_80 : Option Value), (pv_Ty τ ρ h_80) → (pv_Fr τ [65, 66, 69, 70, 71, 72, 73, 129, 1343, 1407, 1791] h h_80) → (nd h_80 ρ (ρ a0 3)) → pv_T K 37 80 (pv_fl [some (.ref a0), o1_80, o2_80, o3_80]) [] h_80 (Q37F τ ρ h a0) := by
    intro h_80 o1_80 o2_80 o3_80 hT_80 hF_80 i0_80
    refine pw_aload_n d37_80 rfl ?_
    refine pw_iconst d37_81 ?_
    refine pw_aload_n d37_82 rfl ?_
    refine pw_getI d37_83 g37_86 hT_80 hA0 rfl rfl (fun u83 vu83 => ?_)
    refine pw_callV2 d37_86 k37_55 hT_80 hA0 rfl rfl rfl (ct34 (τ := τ) (ρ := ρ) hT_80 hA0 (by omega) (by omega)) (fun r86 h86 q86 => ?_)
    obtain ⟨T86, F86, z86, ez86, lz86, uz86, pz86_0⟩ := q86
    subst ez86
    have f86 := hF_80.tr (F86.up (by decide))
    have q86b := ((F86 (ρ a0 3) 2 hR0_3).1 1 (by decide)).1
    have q86c := ((F86 a0 1 hA0).1 9 (by decide)).1
    have d86 := i0_80.fr hT_80 hR0_3 F86 (by decide)
    exact pw_zreturn d37_89 tt37 (by omega) ⟨T86, f86, z86, rfl, (by omega), (by omega), (by first | assumption)⟩
  refine pw_aload_n d37_0 rfl ?_
  refine pw_callV0 d37_1 k37_139 hT hA0 rfl rfl rfl (ct38F (τ := τ) (ρ := ρ) hT hA0) (fun r1 h1 q1 => ?_)
  obtain ⟨T1, F1, z1, ez1, lz1, uz1, pz1_0, pz1_1⟩ := q1
  subst ez1
  have f1 := hF0.tr (F1.up (by decide))
  have q1b := ((F1 (ρ a0 3) 2 hR0_3).1 1 (by decide)).1
  have d1 := hP0.fr hT hR0_3 F1 (by decide)
  refine pw_if_ne d37_4 rfl (by omega) (fun c4 => ?_) (fun c4 => ?_)
  · refine pw_aload_n d37_9 rfl ?_
    refine pw_getI d37_10 g37_83 T1 hA0 rfl rfl (fun u10 vu10 => ?_)
    refine pw_istore_n d37_13 m37 rfl rfl ?_
    refine pw_aload_n d37_14 rfl ?_
    refine pw_callV0 d37_15 k37_139 T1 hA0 rfl rfl rfl (ct38F (τ := τ) (ρ := ρ) T1 hA0) (fun r15 h15 q15 => ?_)
    obtain ⟨T15, F15, z15, ez15, lz15, uz15, pz15_0, pz15_1⟩ := q15
    subst ez15
    have f15 := f1.tr (F15.up (by decide))
    have q15b := ((F15 (ρ a0 3) 2 hR0_3).1 1 (by decide)).1
    have d15 := d1.fr T1 hR0_3 F15 (by decide)
    refine pw_if_ne d37_18 rfl (by omega) (fun c18 => ?_) (fun c18 => ?_)
    · refine pw_aload_n d37_23 rfl ?_
      refine pw_getI d37_24 g37_83 T15 hA0 rfl rfl (fun u24 vu24 => ?_)
      refine pw_istore_n d37_27 m37 rfl rfl ?_
      refine pw_iload_n d37_28 rfl ?_
      refine pw_iload_n d37_29 rfl ?_
      refine pw_icmp_ne d37_30 rfl (by omega) (by omega) (fun c30 => ?_) (fun c30 => ?_)
      · refine pw_aload_n d37_43 rfl ?_
        refine pw_callV0 d37_44 k37_139 T15 hA0 rfl rfl rfl (ct38F (τ := τ) (ρ := ρ) T15 hA0) (fun r44 h44 q44 => ?_)
        obtain ⟨T44, F44, z44, ez44, lz44, uz44, pz44_0, pz44_1⟩ := q44
        subst ez44
        have f44 := f15.tr (F44.up (by decide))
        have q44b := ((F44 (ρ a0 3) 2 hR0_3).1 1 (by decide)).1
        have d44 := d15.fr T15 hR0_3 F44 (by decide)
        refine pw_if_ne d37_47 rfl (by omega) (fun c47 => ?_) (fun c47 => ?_)
        · refine pw_aload_n d37_52 rfl ?_
          refine pw_getI d37_53 g37_83 T44 hA0 rfl rfl (fun u53 vu53 => ?_)
          refine pw_istore_n d37_56 m37 rfl rfl ?_
          refine pw_iload_n d37_57 rfl ?_
          refine pw_iload_n d37_58 rfl ?_
          refine pw_icmp_eq d37_59 rfl (by omega) (by omega) (fun c59 => ?_) (fun c59 => ?_)
          · exact J80 h44 _ _ _ T44 f44 (by assumption)
          · refine pw_iload_n d37_62 rfl ?_
            refine pw_iload_n d37_63 rfl ?_
            refine pw_icmp_eq d37_64 rfl (by omega) (by omega) (fun c64 => ?_) (fun c64 => ?_)
            · exact J80 h44 _ _ _ T44 f44 (by assumption)
            · have g67 := d44.2.1
              have u67 : (pv_fI h1 a0 8) ≠ (pv_fI h15 a0 8) ∧ (pv_fI h1 a0 8) ≠ (pv_fI h44 a0 8) ∧ (pv_fI h15 a0 8) ≠ (pv_fI h44 a0 8) := by omega
              refine pw_aload_n d37_67 rfl ?_
              refine pw_getR d37_68 g37_18 T44 hA0 rfl rfl (fun t68 => ?_)
              have t68 : τ (ρ a0 3) = some 2 := t68
              refine pw_iload_n d37_71 rfl ?_
              refine pw_iload_n d37_72 rfl ?_
              refine pw_iload_n d37_73 rfl ?_
              refine pw_callV3 d37_74 k37_142 T44 t68 rfl rfl rfl (ct39F (τ := τ) (ρ := ρ) T44 t68 (by omega) (by omega) (by omega) (by first | assumption | omega) (by first | assumption | omega)) (fun r74 h74 q74 => ?_)
              obtain ⟨eh74, z74, ez74, lz74, uz74, pz74_0⟩ := q74
              subst eh74
              subst ez74
              refine pw_if_ne d37_77 rfl (by omega) (fun c77 => ?_) (fun c77 => ?_)
              · have a90 := pz1_1 (by omega)
                have b90 := pz15_1 (by omega)
                have c90 := pz44_1 (by omega)
                have p90 : rs_P h44 ρ (ρ a0 3) (pv_fI h1 a0 8) (pv_fI h15 a0 8) (pv_fI h44 a0 8) := ⟨d44, by rw [((F44 (ρ a0 3) 2 hR0_3).1 1 (by decide)).1, ((F15 (ρ a0 3) 2 hR0_3).1 1 (by decide)).1, ((F1 (ρ a0 3) 2 hR0_3).1 1 (by decide)).1]; exact hP1, ⟨by rw [((F44 (ρ a0 3) 2 hR0_3).1 0 (by decide)).1, ((F15 (ρ a0 3) 2 hR0_3).1 0 (by decide)).1, ((F1 (ρ a0 3) 2 hR0_3).1 0 (by decide)).1]; exact a90, by rw [((F44 (ρ a0 3) 2 hR0_3).1 0 (by decide)).1, ((F15 (ρ a0 3) 2 hR0_3).1 0 (by decide)).1]; exact b90, by rw [((F44 (ρ a0 3) 2 hR0_3).1 0 (by decide)).1]; exact c90⟩, pz74_0 (by omega)⟩
                refine pw_aload_n d37_90 rfl ?_
                refine pw_iload_n d37_91 rfl ?_
                refine pw_iload_n d37_92 rfl ?_
                refine pw_iload_n d37_93 rfl ?_
                refine pw_callV3 d37_94 k37_146 T44 hA0 rfl rfl rfl (ct41F (τ := τ) (ρ := ρ) hK T44 hA0 (by omega) (by omega) (by omega) (by first | assumption | omega) (by first | assumption | omega)) (fun r94 h94 q94 => ?_)
                obtain ⟨T94, F94, z94, ez94, lz94, uz94, pz94_0⟩ := q94
                subst ez94
                have f94 := f44.tr (F94.up (by decide))
                exact pw_zreturn d37_97 tt37 (by omega) ⟨T94, f94, z94, rfl, (by omega), (by omega), (by first | assumption)⟩
              · exact J80 h44 _ _ _ T44 f44 (by assumption)
        · refine pw_iconst d37_50 ?_
          exact pw_zreturn d37_51 tt37 (by omega) ⟨T44, f44, 0, rfl, (by omega), (by omega), (by first | assumption)⟩
      · refine pw_aload_n d37_33 rfl ?_
        refine pw_iconst d37_34 ?_
        refine pw_aload_n d37_35 rfl ?_
        refine pw_getI d37_36 g37_86 T15 hA0 rfl rfl (fun u36 vu36 => ?_)
        refine pw_callV2 d37_39 k37_55 T15 hA0 rfl rfl rfl (ct34 (τ := τ) (ρ := ρ) T15 hA0 (by omega) (by omega)) (fun r39 h39 q39 => ?_)
        obtain ⟨T39, F39, z39, ez39, lz39, uz39, pz39_0⟩ := q39
        subst ez39
        have f39 := f15.tr (F39.up (by decide))
        have q39b := ((F39 (ρ a0 3) 2 hR0_3).1 1 (by decide)).1
        have q39c := ((F39 a0 1 hA0).1 8 (by decide)).1
        have q39d := ((F39 a0 1 hA0).1 9 (by decide)).1
        have d39 := d15.fr T15 hR0_3 F39 (by decide)
        exact pw_zreturn d37_42 tt37 (by omega) ⟨T39, f39, z39, rfl, (by omega), (by omega), (by first | assumption)⟩
    · refine pw_iconst d37_21 ?_
      exact pw_zreturn d37_22 tt37 (by omega) ⟨T15, f15, 0, rfl, (by omega), (by omega), (by first | assumption)⟩
  · refine pw_iconst d37_7 ?_
    exact pw_zreturn d37_8 tt37 (by omega) ⟨T1, f1, 0, rfl, (by omega), (by omega), (by first | assumption)⟩

abbrev Q32F (τ : Nat → Option Nat) (ρ : Nat → Nat → Nat) (h : pv_H) (a0 : Nat) : Option Value → pv_H → Prop := fun r h' => pv_Ty τ ρ h' ∧ pv_Fr τ [65, 66, 69, 70, 71, 72, 73, 128, 131, 132] h h' ∧ ∃ z : Int, r = some (.int (pv_I z)) ∧ 0 ≤ z ∧ z ≤ 1 ∧ (nd h' ρ (ρ a0 3))
set_option maxHeartbeats 4000000 in
set_option maxRecDepth 20000 in
/-- AngleNet$Tape.readPosts()Z -/
theorem ct32F {τ : Nat → Option Nat} {ρ : Nat → Nat → Nat} {K : Nat → Nat} {h : pv_H} {a0 : Nat} (hT : pv_Ty τ ρ h) (hA0 : τ a0 = some 1) (hP0 : nd h ρ (ρ a0 3)) (hP1 : pv_fI h (ρ a0 3) 1 = 0) : pv_C K 32 [.ref a0] h (Q32F τ ρ h a0) := by
  refine pw_entry 0 ?_
  show pv_T K 32 0 (pv_fl [some (.ref a0)]) [] h (Q32F τ ρ h a0)
  have hR0_3 : τ (ρ a0 3) = some 2 := hT.rf (t' := 2) hA0 rfl rfl
  have hF0 : pv_Fr τ [65, 66, 69, 70, 71, 72, 73, 128, 131, 132] h h := pv_Fr.rf
  refine pw_aload_n d32_0 rfl ?_
  refine pw_iconst d32_1 ?_
  refine pw_bipush d32_2 (by decide) ?_
  refine pw_callV2 d32_4 k32_92 hT hA0 rfl rfl rfl (ct33 (τ := τ) (ρ := ρ) hT hA0 (by omega) (by omega)) (fun r4 h4 q4 => ?_)
  obtain ⟨T4, F4, z4, ez4, lz4, uz4, pz4_0⟩ := q4
  subst ez4
  have f4 := hF0.tr (F4.up (by decide))
  have d4 := hP0.fr hT hR0_3 F4 (by decide)
  have t4 : pv_fI h4 (ρ a0 3) 1 = 0 := by rw [((F4 (ρ a0 3) 2 hR0_3).1 1 (by decide)).1]; exact hP1
  refine pw_if_ne d32_7 rfl (by omega) (fun c7 => ?_) (fun c7 => ?_)
  · refine pw_aload_n d32_12 rfl ?_
    refine pw_getR d32_13 g32_18 T4 hA0 rfl rfl (fun t13 => ?_)
    have t13 : τ (ρ a0 3) = some 2 := t13
    refine pw_aload_n d32_16 rfl ?_
    refine pw_getI d32_17 g32_83 T4 hA0 rfl rfl (fun u17 vu17 => ?_)
    refine pw_callV1 d32_20 k32_135 T4 t13 rfl rfl rfl (ct36F (τ := τ) (ρ := ρ) T4 t13 (by omega) (by first | assumption | omega) (by first | assumption | omega)) (fun r20 h20 q20 => ?_)
    obtain ⟨T20, F20, ez20, pz20_0⟩ := q20
    subst ez20
    have f20 := f4.tr (F20.up (by decide))
    have q20b := ((F20 a0 1 hA0).1 8 (by decide)).1
    refine pw_iconst d32_23 ?_
    exact pw_zreturn d32_24 tt32 (by omega) ⟨T20, f20, 1, rfl, (by omega), (by omega), (by assumption)⟩
  · refine pw_iconst d32_10 ?_
    exact pw_zreturn d32_11 tt32 (by omega) ⟨T4, f4, 0, rfl, (by omega), (by omega), (by assumption)⟩

abbrev Q19F (τ : Nat → Option Nat) (ρ : Nat → Nat → Nat) (h : pv_H) (a0 : Nat) : Option Value → pv_H → Prop := fun r h' => pv_Ty τ ρ h' ∧ pv_Fr τ [65, 66, 69, 70, 71, 72, 73, 74, 128, 129, 131, 132, 1343, 1407, 1471, 1535, 1599, 1663, 1727, 1791] h h' ∧ ∃ z : Int, r = some (.int (pv_I z)) ∧ 0 ≤ z ∧ z ≤ 1 ∧ (nd h' ρ (ρ a0 3))
set_option maxHeartbeats 4000000 in
set_option maxRecDepth 20000 in
/-- AngleNet$Tape.readLine()Z -/
theorem ct19F {τ : Nat → Option Nat} {ρ : Nat → Nat → Nat} {K : Nat → Nat} {h : pv_H} {a0 : Nat} (hK : pv_Kok K) (hT : pv_Ty τ ρ h) (hA0 : τ a0 = some 1) (hP0 : nd h ρ (ρ a0 3)) (hP1 : pv_fI h (ρ a0 3) 2 = 0 → pv_fI h (ρ a0 3) 1 = 0) : pv_C K 19 [.ref a0] h (Q19F τ ρ h a0) := by
  refine pw_entry 1 ?_
  show pv_T K 19 0 (pv_fl [some (.ref a0), none]) [] h (Q19F τ ρ h a0)
  have hR0_3 : τ (ρ a0 3) = some 2 := hT.rf (t' := 2) hA0 rfl rfl
  have hF0 : pv_Fr τ [65, 66, 69, 70, 71, 72, 73, 74, 128, 129, 131, 132, 1343, 1407, 1471, 1535, 1599, 1663, 1727, 1791] h h := pv_Fr.rf
  refine pw_aload_n d19_0 rfl ?_
  refine pw_getI d19_1 g19_52 hT hA0 rfl rfl (fun u1 vu1 => ?_)
  refine pw_istore_n d19_4 m19 rfl rfl ?_
  refine pw_aload_n d19_5 rfl ?_
  refine pw_getR d19_6 g19_18 hT hA0 rfl rfl (fun t6 => ?_)
  have t6 : τ (ρ a0 3) = some 2 := t6
  refine pw_getI d19_9 g19_59 hT t6 rfl rfl (fun u9 vu9 => ?_)
  refine pw_if_ne d19_12 rfl (by omega) (fun c12 => ?_) (fun c12 => ?_)
  · refine pw_aload_n d19_38 rfl ?_
    refine pw_ldcS d19_39 n19_39.1 n19_39.2 ?_
    refine pw_callV1 d19_41 k19_96 hT hA0 rfl rfl rfl (ct20 (τ := τ) (ρ := ρ) hK hT hA0 (by decide)) (fun r41 h41 q41 => ?_)
    obtain ⟨T41, F41, z41, ez41, lz41, uz41⟩ := q41
    subst ez41
    have f41 := hF0.tr (F41.up (by decide))
    have q41b := ((F41 (ρ a0 3) 2 t6).1 2 (by decide)).1
    have d41 := hP0.fr hT hR0_3 F41 (by decide)
    refine pw_if_eq d19_44 rfl (by omega) (fun c44 => ?_) (fun c44 => ?_)
    · refine pw_aload_n d19_73 rfl ?_
      refine pw_ldcS d19_74 n19_74.1 n19_74.2 ?_
      refine pw_callV1 d19_76 k19_96 T41 hA0 rfl rfl rfl (ct20 (τ := τ) (ρ := ρ) hK T41 hA0 (by decide)) (fun r76 h76 q76 => ?_)
      obtain ⟨T76, F76, z76, ez76, lz76, uz76⟩ := q76
      subst ez76
      have f76 := f41.tr (F76.up (by decide))
      have q76b := ((F76 (ρ a0 3) 2 t6).1 2 (by decide)).1
      have d76 := d41.fr T41 hR0_3 F76 (by decide)
      refine pw_if_eq d19_79 rfl (by omega) (fun c79 => ?_) (fun c79 => ?_)
      · refine pw_aload_n d19_87 rfl ?_
        refine pw_ldcS d19_88 n19_88.1 n19_88.2 ?_
        refine pw_callV1 d19_90 k19_96 T76 hA0 rfl rfl rfl (ct20 (τ := τ) (ρ := ρ) hK T76 hA0 (by decide)) (fun r90 h90 q90 => ?_)
        obtain ⟨T90, F90, z90, ez90, lz90, uz90⟩ := q90
        subst ez90
        have f90 := f76.tr (F90.up (by decide))
        have q90b := ((F90 (ρ a0 3) 2 t6).1 2 (by decide)).1
        have d90 := d76.fr T76 hR0_3 F90 (by decide)
        refine pw_if_eq d19_93 rfl (by omega) (fun c93 => ?_) (fun c93 => ?_)
        · refine pw_aload_n d19_117 rfl ?_
          refine pw_ldcS d19_118 n19_118.1 n19_118.2 ?_
          refine pw_callV1 d19_120 k19_96 T90 hA0 rfl rfl rfl (ct20 (τ := τ) (ρ := ρ) hK T90 hA0 (by decide)) (fun r120 h120 q120 => ?_)
          obtain ⟨T120, F120, z120, ez120, lz120, uz120⟩ := q120
          subst ez120
          have f120 := f90.tr (F120.up (by decide))
          have q120b := ((F120 (ρ a0 3) 2 t6).1 2 (by decide)).1
          have d120 := d90.fr T90 hR0_3 F120 (by decide)
          refine pw_if_eq d19_123 rfl (by omega) (fun c123 => ?_) (fun c123 => ?_)
          · refine pw_aload_n d19_131 rfl ?_
            refine pw_ldcS d19_132 n19_132.1 n19_132.2 ?_
            refine pw_callV1 d19_134 k19_96 T120 hA0 rfl rfl rfl (ct20 (τ := τ) (ρ := ρ) hK T120 hA0 (by decide)) (fun r134 h134 q134 => ?_)
            obtain ⟨T134, F134, z134, ez134, lz134, uz134⟩ := q134
            subst ez134
            have f134 := f120.tr (F134.up (by decide))
            have q134b := ((F134 (ρ a0 3) 2 t6).1 2 (by decide)).1
            have d134 := d120.fr T120 hR0_3 F134 (by decide)
            refine pw_if_eq d19_137 rfl (by omega) (fun c137 => ?_) (fun c137 => ?_)
            · refine pw_aload_n d19_145 rfl ?_
              refine pw_ldcS d19_146 n19_146.1 n19_146.2 ?_
              refine pw_callV1 d19_148 k19_96 T134 hA0 rfl rfl rfl (ct20 (τ := τ) (ρ := ρ) hK T134 hA0 (by decide)) (fun r148 h148 q148 => ?_)
              obtain ⟨T148, F148, z148, ez148, lz148, uz148⟩ := q148
              subst ez148
              have f148 := f134.tr (F148.up (by decide))
              have q148b := ((F148 (ρ a0 3) 2 t6).1 2 (by decide)).1
              have d148 := d134.fr T134 hR0_3 F148 (by decide)
              refine pw_if_eq d19_151 rfl (by omega) (fun c151 => ?_) (fun c151 => ?_)
              · refine pw_aload_n d19_161 rfl ?_
                refine pw_iconst d19_162 ?_
                refine pw_iload_n d19_163 rfl ?_
                refine pw_callV2 d19_164 k19_55 T148 hA0 rfl rfl rfl (ct34 (τ := τ) (ρ := ρ) T148 hA0 (by omega) (by omega)) (fun r164 h164 q164 => ?_)
                obtain ⟨T164, F164, z164, ez164, lz164, uz164, pz164_0⟩ := q164
                subst ez164
                have f164 := f148.tr (F164.up (by decide))
                have q164b := ((F164 (ρ a0 3) 2 t6).1 2 (by decide)).1
                have q164c := ((F164 a0 1 hA0).1 5 (by decide)).1
                exact pw_zreturn d19_167 tt19 (by omega) ⟨T164, f164, z164, rfl, (by omega), (by omega), (by first | assumption | exact d18.fr T18 hR0_3 F34 (by decide) | exact d41.fr T41 hR0_3 F69 (by decide) | exact d76.fr T76 hR0_3 F83 (by decide) | exact d90.fr T90 hR0_3 F106 (by decide) | exact d90.fr T90 hR0_3 F113 (by decide) | exact d120.fr T120 hR0_3 F127 (by decide) | exact d134.fr T134 hR0_3 F141 (by decide) | exact d148.fr T148 hR0_3 F155 (by decide) | exact d148.fr T148 hR0_3 F164 (by decide))⟩
              · refine pw_aload_n d19_154 rfl ?_
                refine pw_callV0 d19_155 k19_132 T148 hA0 rfl rfl rfl (ct51 (τ := τ) (ρ := ρ) T148 hA0) (fun r155 h155 q155 => ?_)
                obtain ⟨T155, F155, z155, ez155, lz155, uz155⟩ := q155
                subst ez155
                have f155 := f148.tr (F155.up (by decide))
                have q155b := ((F155 (ρ a0 3) 2 t6).1 2 (by decide)).1
                refine pw_goto d19_158 rfl ?_
                exact pw_zreturn d19_167 tt19 (by omega) ⟨T155, f155, z155, rfl, (by omega), (by omega), (by first | assumption | exact d18.fr T18 hR0_3 F34 (by decide) | exact d41.fr T41 hR0_3 F69 (by decide) | exact d76.fr T76 hR0_3 F83 (by decide) | exact d90.fr T90 hR0_3 F106 (by decide) | exact d90.fr T90 hR0_3 F113 (by decide) | exact d120.fr T120 hR0_3 F127 (by decide) | exact d134.fr T134 hR0_3 F141 (by decide) | exact d148.fr T148 hR0_3 F155 (by decide) | exact d148.fr T148 hR0_3 F164 (by decide))⟩
            · refine pw_aload_n d19_140 rfl ?_
              refine pw_callV0 d19_141 k19_127 T134 hA0 rfl rfl rfl (ct50 (τ := τ) (ρ := ρ) T134 hA0) (fun r141 h141 q141 => ?_)
              obtain ⟨T141, F141, z141, ez141, lz141, uz141⟩ := q141
              subst ez141
              have f141 := f134.tr (F141.up (by decide))
              have q141b := ((F141 (ρ a0 3) 2 t6).1 2 (by decide)).1
              exact pw_zreturn d19_144 tt19 (by omega) ⟨T141, f141, z141, rfl, (by omega), (by omega), (by first | assumption | exact d18.fr T18 hR0_3 F34 (by decide) | exact d41.fr T41 hR0_3 F69 (by decide) | exact d76.fr T76 hR0_3 F83 (by decide) | exact d90.fr T90 hR0_3 F106 (by decide) | exact d90.fr T90 hR0_3 F113 (by decide) | exact d120.fr T120 hR0_3 F127 (by decide) | exact d134.fr T134 hR0_3 F141 (by decide) | exact d148.fr T148 hR0_3 F155 (by decide) | exact d148.fr T148 hR0_3 F164 (by decide))⟩
          · refine pw_aload_n d19_126 rfl ?_
            refine pw_callV0 d19_127 k19_123 T120 hA0 rfl rfl rfl (ct46 (τ := τ) (ρ := ρ) T120 hA0) (fun r127 h127 q127 => ?_)
            obtain ⟨T127, F127, z127, ez127, lz127, uz127⟩ := q127
            subst ez127
            have f127 := f120.tr (F127.up (by decide))
            have q127b := ((F127 (ρ a0 3) 2 t6).1 2 (by decide)).1
            exact pw_zreturn d19_130 tt19 (by omega) ⟨T127, f127, z127, rfl, (by omega), (by omega), (by first | assumption | exact d18.fr T18 hR0_3 F34 (by decide) | exact d41.fr T41 hR0_3 F69 (by decide) | exact d76.fr T76 hR0_3 F83 (by decide) | exact d90.fr T90 hR0_3 F106 (by decide) | exact d90.fr T90 hR0_3 F113 (by decide) | exact d120.fr T120 hR0_3 F127 (by decide) | exact d134.fr T134 hR0_3 F141 (by decide) | exact d148.fr T148 hR0_3 F155 (by decide) | exact d148.fr T148 hR0_3 F164 (by decide))⟩
        · refine pw_aload_n d19_96 rfl ?_
          refine pw_getI d19_97 g19_38 T90 hA0 rfl rfl (fun u97 vu97 => ?_)
          refine pw_if_eq d19_100 rfl (by omega) (fun c100 => ?_) (fun c100 => ?_)
          · refine pw_aload_n d19_112 rfl ?_
            refine pw_callV0 d19_113 k19_118 T90 hA0 rfl rfl rfl (ct45 (τ := τ) (ρ := ρ) hK T90 hA0) (fun r113 h113 q113 => ?_)
            obtain ⟨T113, F113, z113, ez113, lz113, uz113⟩ := q113
            subst ez113
            have f113 := f90.tr (F113.up (by decide))
            have q113b := ((F113 (ρ a0 3) 2 t6).1 2 (by decide)).1
            exact pw_zreturn d19_116 tt19 (by omega) ⟨T113, f113, z113, rfl, (by omega), (by omega), (by first | assumption | exact d18.fr T18 hR0_3 F34 (by decide) | exact d41.fr T41 hR0_3 F69 (by decide) | exact d76.fr T76 hR0_3 F83 (by decide) | exact d90.fr T90 hR0_3 F106 (by decide) | exact d90.fr T90 hR0_3 F113 (by decide) | exact d120.fr T120 hR0_3 F127 (by decide) | exact d134.fr T134 hR0_3 F141 (by decide) | exact d148.fr T148 hR0_3 F155 (by decide) | exact d148.fr T148 hR0_3 F164 (by decide))⟩
          · refine pw_aload_n d19_103 rfl ?_
            refine pw_iconst d19_104 ?_
            refine pw_iload_n d19_105 rfl ?_
            refine pw_callV2 d19_106 k19_55 T90 hA0 rfl rfl rfl (ct34 (τ := τ) (ρ := ρ) T90 hA0 (by omega) (by omega)) (fun r106 h106 q106 => ?_)
            obtain ⟨T106, F106, z106, ez106, lz106, uz106, pz106_0⟩ := q106
            subst ez106
            have f106 := f90.tr (F106.up (by decide))
            have q106b := ((F106 (ρ a0 3) 2 t6).1 2 (by decide)).1
            have q106c := ((F106 a0 1 hA0).1 5 (by decide)).1
            have q106d := ((F106 a0 1 hA0).1 10 (by decide)).1
            refine pw_goto d19_109 rfl ?_
            exact pw_zreturn d19_116 tt19 (by omega) ⟨T106, f106, z106, rfl, (by omega), (by omega), (by first | assumption | exact d18.fr T18 hR0_3 F34 (by decide) | exact d41.fr T41 hR0_3 F69 (by decide) | exact d76.fr T76 hR0_3 F83 (by decide) | exact d90.fr T90 hR0_3 F106 (by decide) | exact d90.fr T90 hR0_3 F113 (by decide) | exact d120.fr T120 hR0_3 F127 (by decide) | exact d134.fr T134 hR0_3 F141 (by decide) | exact d148.fr T148 hR0_3 F155 (by decide) | exact d148.fr T148 hR0_3 F164 (by decide))⟩
      · refine pw_aload_n d19_82 rfl ?_
        refine pw_callV0 d19_83 k19_113 T76 hA0 rfl rfl rfl (ct44 (τ := τ) (ρ := ρ) T76 hA0) (fun r83 h83 q83 => ?_)
        obtain ⟨T83, F83, z83, ez83, lz83, uz83⟩ := q83
        subst ez83
        have f83 := f76.tr (F83.up (by decide))
        have q83b := ((F83 (ρ a0 3) 2 t6).1 2 (by decide)).1
        exact pw_zreturn d19_86 tt19 (by omega) ⟨T83, f83, z83, rfl, (by omega), (by omega), (by first | assumption | exact d18.fr T18 hR0_3 F34 (by decide) | exact d41.fr T41 hR0_3 F69 (by decide) | exact d76.fr T76 hR0_3 F83 (by decide) | exact d90.fr T90 hR0_3 F106 (by decide) | exact d90.fr T90 hR0_3 F113 (by decide) | exact d120.fr T120 hR0_3 F127 (by decide) | exact d134.fr T134 hR0_3 F141 (by decide) | exact d148.fr T148 hR0_3 F155 (by decide) | exact d148.fr T148 hR0_3 F164 (by decide))⟩
    · refine pw_aload_n d19_47 rfl ?_
      refine pw_getR d19_48 g19_18 T41 hA0 rfl rfl (fun t48 => ?_)
      have t48 : τ (ρ a0 3) = some 2 := t48
      refine pw_getI d19_51 g19_105 T41 t48 rfl rfl (fun u51 vu51 => ?_)
      refine pw_bipush d19_54 (by decide) ?_
      refine pw_icmp_ge d19_56 rfl (by omega) (by omega) (fun c56 => ?_) (fun c56 => ?_)
      · refine pw_aload_n d19_66 rfl ?_
        refine pw_iconst d19_67 ?_
        refine pw_iload_n d19_68 rfl ?_
        refine pw_callV2 d19_69 k19_55 T41 hA0 rfl rfl rfl (ct34 (τ := τ) (ρ := ρ) T41 hA0 (by omega) (by omega)) (fun r69 h69 q69 => ?_)
        obtain ⟨T69, F69, z69, ez69, lz69, uz69, pz69_0⟩ := q69
        subst ez69
        have f69 := f41.tr (F69.up (by decide))
        have q69b := ((F69 (ρ a0 3) 2 t48).1 1 (by decide)).1
        have q69c := ((F69 (ρ a0 3) 2 t48).1 2 (by decide)).1
        have q69d := ((F69 a0 1 hA0).1 5 (by decide)).1
        exact pw_zreturn d19_72 tt19 (by omega) ⟨T69, f69, z69, rfl, (by omega), (by omega), (by first | assumption | exact d18.fr T18 hR0_3 F34 (by decide) | exact d41.fr T41 hR0_3 F69 (by decide) | exact d76.fr T76 hR0_3 F83 (by decide) | exact d90.fr T90 hR0_3 F106 (by decide) | exact d90.fr T90 hR0_3 F113 (by decide) | exact d120.fr T120 hR0_3 F127 (by decide) | exact d134.fr T134 hR0_3 F141 (by decide) | exact d148.fr T148 hR0_3 F155 (by decide) | exact d148.fr T148 hR0_3 F164 (by decide))⟩
      · refine pw_aload_n d19_59 rfl ?_
        refine pw_callV0 d19_60 k19_108 T41 hA0 rfl rfl rfl (ct37F (τ := τ) (ρ := ρ) hK T41 hA0 (by first | assumption | omega) (by first | assumption | omega)) (fun r60 h60 q60 => ?_)
        obtain ⟨T60, F60, z60, ez60, lz60, uz60, pz60_0⟩ := q60
        subst ez60
        have f60 := f41.tr (F60.up (by decide))
        have q60b := ((F60 (ρ a0 3) 2 t48).1 2 (by decide)).1
        refine pw_goto d19_63 rfl ?_
        exact pw_zreturn d19_72 tt19 (by omega) ⟨T60, f60, z60, rfl, (by omega), (by omega), (by first | assumption | exact d18.fr T18 hR0_3 F34 (by decide) | exact d41.fr T41 hR0_3 F69 (by decide) | exact d76.fr T76 hR0_3 F83 (by decide) | exact d90.fr T90 hR0_3 F106 (by decide) | exact d90.fr T90 hR0_3 F113 (by decide) | exact d120.fr T120 hR0_3 F127 (by decide) | exact d134.fr T134 hR0_3 F141 (by decide) | exact d148.fr T148 hR0_3 F155 (by decide) | exact d148.fr T148 hR0_3 F164 (by decide))⟩
  · have t15 := hP1 (by omega)
    refine pw_aload_n d19_15 rfl ?_
    refine pw_ldcS d19_16 n19_16.1 n19_16.2 ?_
    refine pw_callV1 d19_18 k19_96 hT hA0 rfl rfl rfl (ct20 (τ := τ) (ρ := ρ) hK hT hA0 (by decide)) (fun r18 h18 q18 => ?_)
    obtain ⟨T18, F18, z18, ez18, lz18, uz18⟩ := q18
    subst ez18
    have f18 := hF0.tr (F18.up (by decide))
    have q18b := ((F18 (ρ a0 3) 2 t6).1 2 (by decide)).1
    have d18 := hP0.fr hT hR0_3 F18 (by decide)
    have t18 : pv_fI h18 (ρ a0 3) 1 = 0 := by rw [((F18 (ρ a0 3) 2 hR0_3).1 1 (by decide)).1]; exact t15
    refine pw_if_eq d19_21 rfl (by omega) (fun c21 => ?_) (fun c21 => ?_)
    · refine pw_aload_n d19_31 rfl ?_
      refine pw_iconst d19_32 ?_
      refine pw_iload_n d19_33 rfl ?_
      refine pw_callV2 d19_34 k19_55 T18 hA0 rfl rfl rfl (ct34 (τ := τ) (ρ := ρ) T18 hA0 (by omega) (by omega)) (fun r34 h34 q34 => ?_)
      obtain ⟨T34, F34, z34, ez34, lz34, uz34, pz34_0⟩ := q34
      subst ez34
      have f34 := f18.tr (F34.up (by decide))
      have q34b := ((F34 (ρ a0 3) 2 t6).1 2 (by decide)).1
      have q34c := ((F34 a0 1 hA0).1 5 (by decide)).1
      exact pw_zreturn d19_37 tt19 (by omega) ⟨T34, f34, z34, rfl, (by omega), (by omega), (by first | assumption | exact d18.fr T18 hR0_3 F34 (by decide) | exact d41.fr T41 hR0_3 F69 (by decide) | exact d76.fr T76 hR0_3 F83 (by decide) | exact d90.fr T90 hR0_3 F106 (by decide) | exact d90.fr T90 hR0_3 F113 (by decide) | exact d120.fr T120 hR0_3 F127 (by decide) | exact d134.fr T134 hR0_3 F141 (by decide) | exact d148.fr T148 hR0_3 F155 (by decide) | exact d148.fr T148 hR0_3 F164 (by decide))⟩
    · refine pw_aload_n d19_24 rfl ?_
      refine pw_callV0 d19_25 k19_100 T18 hA0 rfl rfl rfl (ct32F (τ := τ) (ρ := ρ) T18 hA0 (by first | assumption | omega) (by first | assumption | omega)) (fun r25 h25 q25 => ?_)
      obtain ⟨T25, F25, z25, ez25, lz25, uz25, pz25_0⟩ := q25
      subst ez25
      have f25 := f18.tr (F25.up (by decide))
      have q25b := ((F25 (ρ a0 3) 2 t6).1 2 (by decide)).1
      refine pw_goto d19_28 rfl ?_
      exact pw_zreturn d19_37 tt19 (by omega) ⟨T25, f25, z25, rfl, (by omega), (by omega), (by first | assumption | exact d18.fr T18 hR0_3 F34 (by decide) | exact d41.fr T41 hR0_3 F69 (by decide) | exact d76.fr T76 hR0_3 F83 (by decide) | exact d90.fr T90 hR0_3 F106 (by decide) | exact d90.fr T90 hR0_3 F113 (by decide) | exact d120.fr T120 hR0_3 F127 (by decide) | exact d134.fr T134 hR0_3 F141 (by decide) | exact d148.fr T148 hR0_3 F155 (by decide) | exact d148.fr T148 hR0_3 F164 (by decide))⟩

abbrev Q12F (τ : Nat → Option Nat) (ρ : Nat → Nat → Nat) (h : pv_H) (a0 : Nat) : Option Value → pv_H → Prop := fun r h' => pv_Ty τ ρ h' ∧ pv_Fr τ [65, 66, 69, 70, 71, 72, 73, 74, 128, 129, 130, 131, 132, 142, 143, 1343, 1407, 1471, 1535, 1599, 1663, 1727, 1791] h h' ∧ ∃ z : Int, r = some (.int (pv_I z)) ∧ 0 ≤ z ∧ z ≤ 1 ∧ (nd h' ρ (ρ a0 3))
set_option maxHeartbeats 4000000 in
set_option maxRecDepth 20000 in
/-- AngleNet$Tape.readAll()Z -/
theorem ct12F {τ : Nat → Option Nat} {ρ : Nat → Nat → Nat} {K : Nat → Nat} {h : pv_H} {a0 : Nat} (hK : pv_Kok K) (hT : pv_Ty τ ρ h) (hA0 : τ a0 = some 1) : pv_C K 12 [.ref a0] h (Q12F τ ρ h a0) := by
  refine pw_entry 1 ?_
  show pv_T K 12 0 (pv_fl [some (.ref a0), none]) [] h (Q12F τ ρ h a0)
  have hR0_3 : τ (ρ a0 3) = some 2 := hT.rf (t' := 2) hA0 rfl rfl
  have hF0 : pv_Fr τ [65, 66, 69, 70, 71, 72, 73, 74, 128, 129, 130, 131, 132, 142, 143, 1343, 1407, 1471, 1535, 1599, 1663, 1727, 1791] h h := pv_Fr.rf
  have L33 : ∀ (nn : Nat) (h_33 : pv_H) (xL1_33 : Int), (pv_Ty τ ρ h_33) → (pv_Fr τ [65, 66, 69, 70, 71, 72, 73, 74, 128, 129, 130, 131, 132, 142, 143, 1343, 1407, 1471, 1535, 1599, 1663, 1727, 1791] h h_33) → (0 ≤ xL1_33 ∧ xL1_33 ≤ 1600) → (nd h_33 ρ (ρ a0 3)) → (pv_fI h_33 (ρ a0 3) 2 = xL1_33) → (xL1_33 = 0 → pv_fI h_33 (ρ a0 3) 1 = 0) → 1600 - xL1_33 < nn → pv_T K 12 33 (pv_fl [some (.ref a0), some (.int (pv_I xL1_33))]) [] h_33 (Q12F τ ρ h a0) := by
    intro nn
    induction nn with
    | zero => intro h_33 xL1_33 hT_33 hF_33 rL1_33 i0_33 i1_33 i2_33 hm; exfalso; omega
    | succ nn ih33 =>
      intro h_33 xL1_33 hT_33 hF_33 rL1_33 i0_33 i1_33 i2_33 hm33
      refine pw_iload_n d12_33 rfl ?_
      refine pw_sipush d12_34 (by decide) ?_
      refine pw_icmp_ge d12_37 rfl (by omega) (by omega) (fun c37 => ?_) (fun c37 => ?_)
      · refine pw_iconst d12_97 ?_
        exact pw_zreturn d12_98 tt12 (by omega) ⟨hT_33, hF_33, 1, rfl, (by omega), (by omega), (by first | assumption)⟩
      · refine pw_aload_n d12_40 rfl ?_
        refine pw_getI d12_41 g12_45 hT_33 hA0 rfl rfl (fun u41 vu41 => ?_)
        refine pw_if_eq d12_44 rfl (by omega) (fun c44 => ?_) (fun c44 => ?_)
        · refine pw_iconst d12_97 ?_
          exact pw_zreturn d12_98 tt12 (by omega) ⟨hT_33, hF_33, 1, rfl, (by omega), (by omega), (by first | assumption)⟩
        · have p47 : pv_fI h_33 (ρ a0 3) 2 = 0 → pv_fI h_33 (ρ a0 3) 1 = 0 := fun e => i2_33 (by omega)
          refine pw_aload_n d12_47 rfl ?_
          refine pw_callV0 d12_48 k12_48 hT_33 hA0 rfl rfl rfl (ct19F (τ := τ) (ρ := ρ) hK hT_33 hA0 (by first | assumption | omega) (by first | assumption | omega)) (fun r48 h48 q48 => ?_)
          obtain ⟨T48, F48, z48, ez48, lz48, uz48, pz48_0⟩ := q48
          subst ez48
          have f48 := hF_33.tr (F48.up (by decide))
          refine pw_if_ne d12_51 rfl (by omega) (fun c51 => ?_) (fun c51 => ?_)
          · refine pw_aload_n d12_56 rfl ?_
            refine pw_getI d12_57 g12_45 T48 hA0 rfl rfl (fun u57 vu57 => ?_)
            refine pw_iconst d12_60 ?_
            refine pw_icmp_eq d12_61 rfl (by omega) (by omega) (fun c61 => ?_) (fun c61 => ?_)
            · refine pw_aload_n d12_74 rfl ?_
              refine pw_callV0 d12_75 k12_42 T48 hA0 rfl rfl rfl (ct16 (τ := τ) (ρ := ρ) T48 hA0) (fun r75 h75 q75 => ?_)
              obtain ⟨T75, F75, ez75⟩ := q75
              subst ez75
              have f75 := f48.tr (F75.up (by decide))
              have d75 := pz48_0.fr T48 hR0_3 F75 (by decide)
              have l75 : pv_fI h75 (ρ a0 3) 2 = xL1_33 := by rw [((F75 (ρ a0 3) 2 hR0_3).1 2 (by decide)).1, ((F48 (ρ a0 3) 2 hR0_3).1 2 (by decide)).1]; exact i1_33
              refine pw_aload_n d12_78 rfl ?_
              refine pw_getR d12_79 g12_18 T75 hA0 rfl rfl (fun t79 => ?_)
              have t79 : τ (ρ a0 3) = some 2 := t79
              refine pw_dup d12_82 rfl ?_
              refine pw_getI d12_83 g12_59 T75 t79 rfl rfl (fun u83 vu83 => ?_)
              have b83 : 0 ≤ pv_fI h75 (ρ a0 3) 2 ∧ pv_fI h75 (ρ a0 3) 2 ≤ 1599 := by omega
              refine pw_iconst d12_86 ?_
              refine pw_iadd d12_87 ?_
              refine pw_putI d12_88 g12_59 w2_2 T75 t79 rfl rfl rfl (by omega) (by omega) (fun h88 T88 F88 E88 => ?_)
              have f88 := f75.tr (F88.up (by decide))
              have q88 := ((F88 a0 1 hA0).1 7 (by decide)).1
              refine pw_iinc d12_91 m12 rfl rfl rfl ?_
              refine pw_goto d12_94 rfl ?_
              exact ih33 h88 ((xL1_33 + 1)) T88 f88 (by omega) (by first | assumption | exact d75.fr T75 hR0_3 F88 (by decide)) (by first | assumption | (rw [E88, l75]; done)) (by first | (intro _; exact t28) | (intro e; exfalso; omega)) (by omega)
            · refine pw_aload_n d12_64 rfl ?_
              refine pw_iconst d12_65 ?_
              refine pw_aload_n d12_66 rfl ?_
              refine pw_getI d12_67 g12_52 T48 hA0 rfl rfl (fun u67 vu67 => ?_)
              refine pw_callV2 d12_70 k12_55 T48 hA0 rfl rfl rfl (ct34 (τ := τ) (ρ := ρ) T48 hA0 (by omega) (by omega)) (fun r70 h70 q70 => ?_)
              obtain ⟨T70, F70, z70, ez70, lz70, uz70, pz70_0⟩ := q70
              subst ez70
              have f70 := f48.tr (F70.up (by decide))
              have q70b := ((F70 a0 1 hA0).1 5 (by decide)).1
              have q70c := ((F70 a0 1 hA0).1 7 (by decide)).1
              have d70 := pz48_0.fr T48 hR0_3 F70 (by decide)
              exact pw_zreturn d12_73 tt12 (by omega) ⟨T70, f70, z70, rfl, (by omega), (by omega), (by first | assumption)⟩
          · refine pw_iconst d12_54 ?_
            exact pw_zreturn d12_55 tt12 (by omega) ⟨T48, f48, 0, rfl, (by omega), (by omega), (by first | assumption)⟩
  refine pw_aload_n d12_0 rfl ?_
  refine pw_getR d12_1 g12_18 hT hA0 rfl rfl (fun t1 => ?_)
  have t1 : τ (ρ a0 3) = some 2 := t1
  refine pw_callV0 d12_4 k12_29 hT t1 rfl rfl rfl (ct13F (τ := τ) (ρ := ρ) hT t1) (fun r4 h4 q4 => ?_)
  obtain ⟨T4, F4, ez4, pz4_0, pz4_1, pz4_2⟩ := q4
  subst ez4
  have f4 := hF0.tr (F4.up (by decide))
  refine pw_aload_n d12_7 rfl ?_
  refine pw_iconst d12_8 ?_
  refine pw_putI d12_9 g12_32 w1_1 T4 hA0 rfl rfl rfl (by omega) (by omega) (fun h9 T9 F9 E9 => ?_)
  have f9 := f4.tr (F9.up (by decide))
  refine pw_aload_n d12_12 rfl ?_
  refine pw_iconst d12_13 ?_
  refine pw_putI d12_14 g12_9 w1_2 T9 hA0 rfl rfl rfl (by omega) (by omega) (fun h14 T14 F14 E14 => ?_)
  have f14 := f9.tr (F14.up (by decide))
  have q14 := ((F14 a0 1 hA0).1 1 (by decide)).1
  refine pw_aload_n d12_17 rfl ?_
  refine pw_iconst d12_18 ?_
  refine pw_putI d12_19 g12_35 w1_6 T14 hA0 rfl rfl rfl (by omega) (by omega) (fun h19 T19 F19 E19 => ?_)
  have f19 := f14.tr (F19.up (by decide))
  have q19 := ((F19 a0 1 hA0).1 1 (by decide)).1
  have q19b := ((F19 a0 1 hA0).1 2 (by decide)).1
  refine pw_aload_n d12_22 rfl ?_
  refine pw_iconst d12_23 ?_
  refine pw_putZ d12_24 g12_38 w1_10 T19 hA0 rfl rfl rfl (by omega) (by omega) (fun h24 T24 F24 E24 => ?_)
  have f24 := f19.tr (F24.up (by decide))
  have q24 := ((F24 a0 1 hA0).1 1 (by decide)).1
  have q24b := ((F24 a0 1 hA0).1 2 (by decide)).1
  have q24c := ((F24 a0 1 hA0).1 6 (by decide)).1
  refine pw_aload_n d12_27 rfl ?_
  refine pw_callV0 d12_28 k12_42 T24 hA0 rfl rfl rfl (ct16 (τ := τ) (ρ := ρ) T24 hA0) (fun r28 h28 q28 => ?_)
  obtain ⟨T28, F28, ez28⟩ := q28
  subst ez28
  have f28 := f24.tr (F28.up (by decide))
  have q28b := ((F28 a0 1 hA0).1 1 (by decide)).1
  have q28c := ((F28 a0 1 hA0).1 2 (by decide)).1
  have q28d := ((F28 a0 1 hA0).1 10 (by decide)).1
  have d28 := ((((pz4_0.fr T4 hR0_3 F9 (by decide)).fr T9 hR0_3 F14 (by decide)).fr T14 hR0_3 F19 (by decide)).fr T19 hR0_3 F24 (by decide)).fr T24 hR0_3 F28 (by decide)
  have l28 : pv_fI h28 (ρ a0 3) 2 = 0 := by rw [((F28 (ρ a0 3) 2 hR0_3).1 2 (by decide)).1, ((F24 (ρ a0 3) 2 hR0_3).1 2 (by decide)).1, ((F19 (ρ a0 3) 2 hR0_3).1 2 (by decide)).1, ((F14 (ρ a0 3) 2 hR0_3).1 2 (by decide)).1, ((F9 (ρ a0 3) 2 hR0_3).1 2 (by decide)).1]; exact pz4_2
  have t28 : pv_fI h28 (ρ a0 3) 1 = 0 := by rw [((F28 (ρ a0 3) 2 hR0_3).1 1 (by decide)).1, ((F24 (ρ a0 3) 2 hR0_3).1 1 (by decide)).1, ((F19 (ρ a0 3) 2 hR0_3).1 1 (by decide)).1, ((F14 (ρ a0 3) 2 hR0_3).1 1 (by decide)).1, ((F9 (ρ a0 3) 2 hR0_3).1 1 (by decide)).1]; exact pz4_1
  refine pw_iconst d12_31 ?_
  refine pw_istore_n d12_32 m12 rfl rfl ?_
  exact L33 _ h28 (0) T28 f28 (by omega) (by first | assumption | exact d75.fr T75 hR0_3 F88 (by decide)) (by first | assumption | (rw [E88, l75]; done)) (by first | (intro _; exact t28) | (intro e; exfalso; omega)) (pv_mu _)

abbrev Q12W (τ : Nat → Option Nat) (ρ : Nat → Nat → Nat) (h : pv_H) (a0 : Nat) : Option Value → pv_H → Prop := fun r h' => pv_Ty τ ρ h' ∧ pv_Fr τ [65, 66, 69, 70, 71, 72, 73, 74, 128, 129, 130, 131, 132, 142, 143, 1343, 1407, 1471, 1535, 1599, 1663, 1727, 1791] h h' ∧ ∃ z : Int, r = some (.int (pv_I z)) ∧ 0 ≤ z ∧ z ≤ 1 ∧ (nk_w τ ρ h')
set_option maxHeartbeats 4000000 in
set_option maxRecDepth 20000 in
/-- AngleNet$Tape.readAll()Z -/
theorem ct12W {τ : Nat → Option Nat} {ρ : Nat → Nat → Nat} {K : Nat → Nat} {h : pv_H} {a0 : Nat} (hK : pv_Kok K) (hT : pv_Ty τ ρ h) (hA0 : τ a0 = some 1) (hP0 : nk_w τ ρ h) : pv_C K 12 [.ref a0] h (Q12W τ ρ h a0) := by
  refine (nk_wrap (Qf := fun τ' => Q12F τ' ρ h a0) (tp_S ρ a0) hT (tp_S_clo hT hA0) (fun τ' hT' e => ct12F hK hT' ((e a0 (tp_S_t.mpr (Or.inl rfl))).trans hA0)) (fun τ' r h' q => q.2.1) (by decide)).mono (fun r h' q => ?_)
  obtain ⟨⟨q1, q2, z, q3, q4, q5, q6⟩, s⟩ := q
  have w := nk_w.one (S := tp_S ρ a0) hP0 q6.k (fun b hb hne => tp_S_no hT hP0.1 hA0 hb hne) s
  exact ⟨q1, q2, z, q3, q4, q5, w⟩

abbrev Q11W (τ : Nat → Option Nat) (ρ : Nat → Nat → Nat) (h : pv_H) (a0 : Nat) : Option Value → pv_H → Prop := fun r h' => pv_Ty τ ρ h' ∧ pv_Fr τ [64, 65, 66, 69, 70, 71, 72, 73, 74, 128, 129, 130, 131, 132, 142, 143, 1343, 1407, 1471, 1535, 1599, 1663, 1727, 1791, 1855] h h' ∧ ∃ z : Int, r = some (.int (pv_I z)) ∧ (-2147483648) ≤ z ∧ z ≤ 2147483647 ∧ (nk_w τ ρ h')
set_option maxHeartbeats 4000000 in
set_option maxRecDepth 20000 in
/-- AngleNet.net()I -/
theorem ct11W {τ : Nat → Option Nat} {ρ : Nat → Nat → Nat} {K : Nat → Nat} {h : pv_H} {a0 : Nat} (hK : pv_Kok K) (hT : pv_Ty τ ρ h) (hA0 : τ a0 = some 0) (hP0 : nk_w τ ρ h) : pv_C K 11 [.ref a0] h (Q11W τ ρ h a0) := by
  refine pw_entry 0 ?_
  show pv_T K 11 0 (pv_fl [some (.ref a0)]) [] h (Q11W τ ρ h a0)
  have hR0_1 : τ (ρ a0 1) = some 2 := hT.rf (t' := 2) hA0 rfl rfl
  have hF0 : pv_Fr τ [64, 65, 66, 69, 70, 71, 72, 73, 74, 128, 129, 130, 131, 132, 142, 143, 1343, 1407, 1471, 1535, 1599, 1663, 1727, 1791, 1855] h h := pv_Fr.rf
  refine pw_aload_n d11_0 rfl ?_
  refine pw_getR d11_1 g11_10 hT hA0 rfl rfl (fun t1 => ?_)
  have t1 : τ (ρ a0 0) = some 1 := t1
  refine pw_callV0 d11_4 k11_70 hT t1 rfl rfl rfl (ct12W (τ := τ) (ρ := ρ) hK hT t1 (by first | assumption | omega)) (fun r4 h4 q4 => ?_)
  obtain ⟨T4, F4, z4, ez4, lz4, uz4, pz4_0⟩ := q4
  subst ez4
  have f4 := hF0.tr (F4.up (by decide))
  refine pw_if_ne d11_7 rfl (by omega) (fun c7 => ?_) (fun c7 => ?_)
  · refine pw_aload_n d11_13 rfl ?_
    refine pw_getR d11_14 g11_10 T4 hA0 rfl rfl (fun t14 => ?_)
    have t14 : τ (ρ a0 0) = some 1 := t14
    refine pw_iconst d11_17 ?_
    refine pw_putI d11_18 g11_62 w1_0 T4 t14 rfl rfl rfl (by omega) (by omega) (fun h18 T18 F18 E18 => ?_)
    have f18 := f4.tr (F18.up (by decide))
    have w21 := pz4_0.fr T4 F18 (by decide)
    refine pw_aload_n d11_21 rfl ?_
    refine pw_getR d11_22 g11_19 T18 hA0 rfl rfl (fun t22 => ?_)
    have t22 : τ (ρ a0 1) = some 2 := t22
    refine pw_aload_n d11_25 rfl ?_
    refine pw_getR d11_26 g11_10 T18 hA0 rfl rfl (fun t26 => ?_)
    have t26 : τ (ρ a0 0) = some 1 := t26
    refine pw_getR d11_29 g11_74 T18 t26 rfl rfl (fun t29 => ?_)
    have t29 : τ (ρ (ρ a0 0) 3) = some 2 := t29
    refine pw_callV1 d11_32 k11_77 T18 t22 rfl rfl rfl (ct52W (τ := τ) (ρ := ρ) T18 t22 t29 (by first | assumption | omega)) (fun r32 h32 q32 => ?_)
    obtain ⟨T32, F32, ez32, pz32_0⟩ := q32
    subst ez32
    have f32 := f18.tr (F32.up (by decide))
    have q32b := ((F32 (ρ a0 0) 1 t26).1 0 (by decide)).1
    refine pw_aload_n d11_35 rfl ?_
    refine pw_getR d11_36 g11_19 T32 hA0 rfl rfl (fun t36 => ?_)
    have t36 : τ (ρ a0 1) = some 2 := t36
    refine pw_getI d11_39 g11_81 T32 t36 rfl rfl (fun u39 vu39 => ?_)
    exact pw_ireturn d11_42 tt11 ⟨T32, f32, (pv_fI h32 (ρ a0 1) 2), rfl, (by omega), (by omega), (by first | assumption)⟩
  · refine pw_bipush d11_10 (by decide) ?_
    exact pw_ireturn d11_12 tt11 ⟨T4, f4, (-4), rfl, (by omega), (by omega), (by first | assumption)⟩
