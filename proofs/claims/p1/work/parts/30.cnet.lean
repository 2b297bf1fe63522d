abbrev Q64 (τ : Nat → Option Nat) (ρ : Nat → Nat → Nat) (h : pv_H) (a0 : Nat) : Option Value → pv_H → Prop := fun r h' => h = h' ∧ ∃ z : Int, r = some (.int (pv_I z)) ∧ 0 ≤ z ∧ z ≤ 0
set_option maxHeartbeats 4000000 in
set_option maxRecDepth 20000 in
/-- AngleNet$Net.isThere()Z -/
theorem ct64 {τ : Nat → Option Nat} {ρ : Nat → Nat → Nat} {K : Nat → Nat} {h : pv_H} {a0 : Nat} (hT : pv_Ty τ ρ h) (hA0 : τ a0 = some 2) (hP0 : pv_fI h a0 0 = 0) : pv_C K 64 [.ref a0] h (Q64 τ ρ h a0) := by
  refine pw_entry 0 ?_
  show pv_T K 64 0 (pv_fl [some (.ref a0)]) [] h (Q64 τ ρ h a0)
  refine pw_aload_n d64_0 rfl ?_
  refine pw_getI d64_1 g64_41 hT hA0 rfl rfl (fun u1 vu1 => ?_)
  refine pw_if_le d64_4 rfl (by omega) (fun c4 => ?_) (fun c4 => ?_)
  · refine pw_iconst d64_11 ?_
    exact pw_zreturn d64_12 tt64 (by omega) ⟨rfl, 0, rfl, (by omega), (by omega)⟩
  · exfalso; omega

abbrev Q48 (τ : Nat → Option Nat) (ρ : Nat → Nat → Nat) (h : pv_H) (a0 : Nat) (x1 : Int) : Option Value → pv_H → Prop := fun r h' => h = h' ∧ ∃ z : Int, r = some (.int (pv_I z)) ∧ 0 ≤ z ∧ z ≤ 0
set_option maxHeartbeats 4000000 in
set_option maxRecDepth 20000 in
/-- AngleNet$Net.isPost(I)Z -/
theorem ct48 {τ : Nat → Option Nat} {ρ : Nat → Nat → Nat} {K : Nat → Nat} {h : pv_H} {a0 : Nat} {x1 : Int} (hT : pv_Ty τ ρ h) (hA0 : τ a0 = some 2) (hX1 : (-2147483648) ≤ x1 ∧ x1 ≤ 2147483647) (hP0 : pv_fI h a0 0 = 0) : pv_C K 48 [.ref a0, .int (pv_I x1)] h (Q48 τ ρ h a0 x1) := by
  refine pw_entry 0 ?_
  show pv_T K 48 0 (pv_fl [some (.ref a0), some (.int (pv_I x1))]) [] h (Q48 τ ρ h a0 x1)
  refine pw_iload_n d48_0 rfl ?_
  refine pw_if_lt d48_1 rfl (by omega) (fun c1 => ?_) (fun c1 => ?_)
  · refine pw_iconst d48_16 ?_
    exact pw_zreturn d48_17 tt48 (by omega) ⟨rfl, 0, rfl, (by omega), (by omega)⟩
  · refine pw_iload_n d48_4 rfl ?_
    refine pw_aload_n d48_5 rfl ?_
    refine pw_getI d48_6 g48_41 hT hA0 rfl rfl (fun u6 vu6 => ?_)
    refine pw_icmp_ge d48_9 rfl (by omega) (by omega) (fun c9 => ?_) (fun c9 => ?_)
    · refine pw_iconst d48_16 ?_
      exact pw_zreturn d48_17 tt48 (by omega) ⟨rfl, 0, rfl, (by omega), (by omega)⟩
    · exfalso; omega

abbrev Q55 (τ : Nat → Option Nat) (ρ : Nat → Nat → Nat) (h : pv_H) (a0 : Nat) (x1 : Int) : Option Value → pv_H → Prop := fun r h' => h = h' ∧ ∃ z : Int, r = some (.int (pv_I z)) ∧ 0 ≤ z ∧ z ≤ 0
set_option maxHeartbeats 4000000 in
set_option maxRecDepth 20000 in
/-- AngleNet$Net.isThird(I)Z -/
theorem ct55 {τ : Nat → Option Nat} {ρ : Nat → Nat → Nat} {K : Nat → Nat} {h : pv_H} {a0 : Nat} {x1 : Int} (hT : pv_Ty τ ρ h) (hA0 : τ a0 = some 2) (hX1 : (-2147483648) ≤ x1 ∧ x1 ≤ 2147483647) (hP0 : pv_fI h a0 1 = 0) : pv_C K 55 [.ref a0, .int (pv_I x1)] h (Q55 τ ρ h a0 x1) := by
  refine pw_entry 0 ?_
  show pv_T K 55 0 (pv_fl [some (.ref a0), some (.int (pv_I x1))]) [] h (Q55 τ ρ h a0 x1)
  refine pw_iload_n d55_0 rfl ?_
  refine pw_if_lt d55_1 rfl (by omega) (fun c1 => ?_) (fun c1 => ?_)
  · refine pw_iconst d55_16 ?_
    exact pw_zreturn d55_17 tt55 (by omega) ⟨rfl, 0, rfl, (by omega), (by omega)⟩
  · refine pw_iload_n d55_4 rfl ?_
    refine pw_aload_n d55_5 rfl ?_
    refine pw_getI d55_6 g55_45 hT hA0 rfl rfl (fun u6 vu6 => ?_)
    refine pw_icmp_ge d55_9 rfl (by omega) (by omega) (fun c9 => ?_) (fun c9 => ?_)
    · refine pw_iconst d55_16 ?_
      exact pw_zreturn d55_17 tt55 (by omega) ⟨rfl, 0, rfl, (by omega), (by omega)⟩
    · exfalso; omega

abbrev Q47 (τ : Nat → Option Nat) (ρ : Nat → Nat → Nat) (h : pv_H) (a0 : Nat) (x1 : Int) (x2 : Int) : Option Value → pv_H → Prop := fun r h' => h = h' ∧ ∃ z : Int, r = some (.int (pv_I z)) ∧ 0 ≤ z ∧ z ≤ 0
set_option maxHeartbeats 4000000 in
set_option maxRecDepth 20000 in
/-- AngleNet$Net.isSide(II)Z -/
theorem ct47 {τ : Nat → Option Nat} {ρ : Nat → Nat → Nat} {K : Nat → Nat} {h : pv_H} {a0 : Nat} {x1 : Int} {x2 : Int} (hT : pv_Ty τ ρ h) (hA0 : τ a0 = some 2) (hX1 : (-2147483648) ≤ x1 ∧ x1 ≤ 2147483647) (hX2 : (-2147483648) ≤ x2 ∧ x2 ≤ 2147483647) (hP0 : pv_fI h a0 0 = 0) : pv_C K 47 [.ref a0, .int (pv_I x1), .int (pv_I x2)] h (Q47 τ ρ h a0 x1 x2) := by
  refine pw_entry 0 ?_
  show pv_T K 47 0 (pv_fl [some (.ref a0), some (.int (pv_I x1)), some (.int (pv_I x2))]) [] h (Q47 τ ρ h a0 x1 x2)
  refine pw_aload_n d47_0 rfl ?_
  refine pw_iload_n d47_1 rfl ?_
  refine pw_callV1 d47_2 k47_78 hT hA0 rfl rfl rfl (ct48 (τ := τ) (ρ := ρ) hT hA0 (by omega) (by first | assumption | omega)) (fun r2 h2 q2 => ?_)
  obtain ⟨eh2, z2, ez2, lz2, uz2⟩ := q2
  subst eh2
  subst ez2
  refine pw_if_eq d47_5 rfl (by omega) (fun c5 => ?_) (fun c5 => ?_)
  · refine pw_iconst d47_39 ?_
    exact pw_zreturn d47_40 tt47 (by omega) ⟨rfl, 0, rfl, (by omega), (by omega)⟩
  · exfalso; omega

abbrev Q112 (τ : Nat → Option Nat) (ρ : Nat → Nat → Nat) (h : pv_H) (a0 : Nat) (x1 : Int) : Option Value → pv_H → Prop := fun r h' => h = h' ∧ ∃ z : Int, r = some (.int (pv_I z)) ∧ 0 ≤ z ∧ z ≤ 0
set_option maxHeartbeats 4000000 in
set_option maxRecDepth 20000 in
/-- AngleNet$Net.hasPlace(I)Z -/
theorem ct112 {τ : Nat → Option Nat} {ρ : Nat → Nat → Nat} {K : Nat → Nat} {h : pv_H} {a0 : Nat} {x1 : Int} (hT : pv_Ty τ ρ h) (hA0 : τ a0 = some 2) (hX1 : (-2147483648) ≤ x1 ∧ x1 ≤ 2147483647) (hP0 : pv_fI h a0 0 = 0) : pv_C K 112 [.ref a0, .int (pv_I x1)] h (Q112 τ ρ h a0 x1) := by
  refine pw_entry 0 ?_
  show pv_T K 112 0 (pv_fl [some (.ref a0), some (.int (pv_I x1))]) [] h (Q112 τ ρ h a0 x1)
  refine pw_aload_n d112_0 rfl ?_
  refine pw_iload_n d112_1 rfl ?_
  refine pw_callV1 d112_2 k112_78 hT hA0 rfl rfl rfl (ct48 (τ := τ) (ρ := ρ) hT hA0 (by omega) (by first | assumption | omega)) (fun r2 h2 q2 => ?_)
  obtain ⟨eh2, z2, ez2, lz2, uz2⟩ := q2
  subst eh2
  subst ez2
  refine pw_if_eq d112_5 rfl (by omega) (fun c5 => ?_) (fun c5 => ?_)
  · refine pw_iconst d112_22 ?_
    exact pw_zreturn d112_23 tt112 (by omega) ⟨rfl, 0, rfl, (by omega), (by omega)⟩
  · exfalso; omega

abbrev Q62 (τ : Nat → Option Nat) (ρ : Nat → Nat → Nat) (h : pv_H) (a0 : Nat) (x1 : Int) : Option Value → pv_H → Prop := fun r h' => h = h' ∧ ∃ z : Int, r = some (.int (pv_I z)) ∧ (-1) ≤ z ∧ z ≤ (-1)
set_option maxHeartbeats 4000000 in
set_option maxRecDepth 20000 in
/-- AngleNet$Net.sideNumbered(I)I -/
theorem ct62 {τ : Nat → Option Nat} {ρ : Nat → Nat → Nat} {K : Nat → Nat} {h : pv_H} {a0 : Nat} {x1 : Int} (hT : pv_Ty τ ρ h) (hA0 : τ a0 = some 2) (hX1 : (-2147483648) ≤ x1 ∧ x1 ≤ 2147483647) (hP0 : pv_fI h a0 0 = 0) : pv_C K 62 [.ref a0, .int (pv_I x1)] h (Q62 τ ρ h a0 x1) := by
  refine pw_entry 3 ?_
  show pv_T K 62 0 (pv_fl [some (.ref a0), some (.int (pv_I x1)), none, none, none]) [] h (Q62 τ ρ h a0 x1)
  have L4 : ∀ (nn : Nat) (xL2_4 xL3_4 : Int) (o4_4 : Option Value), ((-2147483648) ≤ x1 ∧ x1 ≤ 2147483647) → (0 ≤ xL2_4 ∧ xL2_4 ≤ 0) → (0 ≤ xL3_4 ∧ xL3_4 ≤ 0) → (0 : Int) < nn → pv_T K 62 4 (pv_fl [some (.ref a0), some (.int (pv_I x1)), some (.int (pv_I xL2_4)), some (.int (pv_I xL3_4)), o4_4]) [] h (Q62 τ ρ h a0 x1) := by
    intro nn
    induction nn with
    | zero => intro xL2_4 xL3_4 o4_4 rL1_4 rL2_4 rL3_4 hm; exfalso; omega
    | succ nn ih4 =>
      intro xL2_4 xL3_4 o4_4 rL1_4 rL2_4 rL3_4 hm4
      refine pw_iload_n d62_4 rfl ?_
      refine pw_aload_n d62_5 rfl ?_
      refine pw_getI d62_6 g62_41 hT hA0 rfl rfl (fun u6 vu6 => ?_)
      refine pw_icmp_ge d62_9 rfl (by omega) (by omega) (fun c9 => ?_) (fun c9 => ?_)
      · refine pw_iconst d62_64 ?_
        exact pw_ireturn d62_65 tt62 ⟨rfl, (-1), rfl, (by omega), (by omega)⟩
      · exfalso; omega
  refine pw_iconst d62_0 ?_
  refine pw_istore_n d62_1 m62 rfl rfl ?_
  refine pw_iconst d62_2 ?_
  refine pw_istore_n d62_3 m62 rfl rfl ?_
  exact L4 _ (0) (0) _ (by omega) (by omega) (by omega) (pv_mu _)

abbrev Q68 (τ : Nat → Option Nat) (ρ : Nat → Nat → Nat) (h : pv_H) (a0 : Nat) : Option Value → pv_H → Prop := fun r h' => h = h' ∧ ∃ z : Int, r = some (.int (pv_I z)) ∧ 0 ≤ z ∧ z ≤ 0
set_option maxHeartbeats 4000000 in
set_option maxRecDepth 20000 in
/-- AngleNet$Net.sideCount()I -/
theorem ct68 {τ : Nat → Option Nat} {ρ : Nat → Nat → Nat} {K : Nat → Nat} {h : pv_H} {a0 : Nat} (hT : pv_Ty τ ρ h) (hA0 : τ a0 = some 2) (hP0 : pv_fI h a0 0 = 0) : pv_C K 68 [.ref a0] h (Q68 τ ρ h a0) := by
  refine pw_entry 2 ?_
  show pv_T K 68 0 (pv_fl [some (.ref a0), none, none]) [] h (Q68 τ ρ h a0)
  have L4 : ∀ (nn : Nat) (xL1_4 xL2_4 : Int), (0 ≤ xL1_4 ∧ xL1_4 ≤ 0) → (0 ≤ xL2_4 ∧ xL2_4 ≤ 0) → (0 : Int) < nn → pv_T K 68 4 (pv_fl [some (.ref a0), some (.int (pv_I xL1_4)), some (.int (pv_I xL2_4))]) [] h (Q68 τ ρ h a0) := by
    intro nn
    induction nn with
    | zero => intro xL1_4 xL2_4 rL1_4 rL2_4 hm; exfalso; omega
    | succ nn ih4 =>
      intro xL1_4 xL2_4 rL1_4 rL2_4 hm4
      refine pw_iload_n d68_4 rfl ?_
      refine pw_aload_n d68_5 rfl ?_
      refine pw_getI d68_6 g68_41 hT hA0 rfl rfl (fun u6 vu6 => ?_)
      refine pw_icmp_ge d68_9 rfl (by omega) (by omega) (fun c9 => ?_) (fun c9 => ?_)
      · refine pw_iload_n d68_26 rfl ?_
        refine pw_iconst d68_27 ?_
        refine pw_idiv d68_28 (by omega) (by omega) (by omega) (by omega) ?_
        exact pw_ireturn d68_29 tt68 ⟨rfl, (xL1_4 / 2), rfl, (by omega), (by omega)⟩
      · exfalso; omega
  refine pw_iconst d68_0 ?_
  refine pw_istore_n d68_1 m68 rfl rfl ?_
  refine pw_iconst d68_2 ?_
  refine pw_istore_n d68_3 m68 rfl rfl ?_
  exact L4 _ (0) (0) (by omega) (by omega) (pv_mu _)

abbrev Q172 (τ : Nat → Option Nat) (ρ : Nat → Nat → Nat) (h : pv_H) (a0 : Nat) : Option Value → pv_H → Prop := fun r h' => h = h' ∧ ∃ z : Int, r = some (.int (pv_I z)) ∧ 0 ≤ z ∧ z ≤ 0
set_option maxHeartbeats 4000000 in
set_option maxRecDepth 20000 in
/-- AngleNet$Net.placedPosts()I -/
theorem ct172 {τ : Nat → Option Nat} {ρ : Nat → Nat → Nat} {K : Nat → Nat} {h : pv_H} {a0 : Nat} (hT : pv_Ty τ ρ h) (hA0 : τ a0 = some 2) (hP0 : pv_fI h a0 0 = 0) : pv_C K 172 [.ref a0] h (Q172 τ ρ h a0) := by
  refine pw_entry 2 ?_
  show pv_T K 172 0 (pv_fl [some (.ref a0), none, none]) [] h (Q172 τ ρ h a0)
  have L4 : ∀ (nn : Nat) (xL1_4 xL2_4 : Int), (0 ≤ xL1_4 ∧ xL1_4 ≤ 0) → (0 ≤ xL2_4 ∧ xL2_4 ≤ 0) → (0 : Int) < nn → pv_T K 172 4 (pv_fl [some (.ref a0), some (.int (pv_I xL1_4)), some (.int (pv_I xL2_4))]) [] h (Q172 τ ρ h a0) := by
    intro nn
    induction nn with
    | zero => intro xL1_4 xL2_4 rL1_4 rL2_4 hm; exfalso; omega
    | succ nn ih4 =>
      intro xL1_4 xL2_4 rL1_4 rL2_4 hm4
      refine pw_iload_n d172_4 rfl ?_
      refine pw_aload_n d172_5 rfl ?_
      refine pw_getI d172_6 g172_41 hT hA0 rfl rfl (fun u6 vu6 => ?_)
      refine pw_icmp_ge d172_9 rfl (by omega) (by omega) (fun c9 => ?_) (fun c9 => ?_)
      · refine pw_iload_n d172_38 rfl ?_
        exact pw_ireturn d172_39 tt172 ⟨rfl, xL1_4, rfl, (by omega), (by omega)⟩
      · exfalso; omega
  refine pw_iconst d172_0 ?_
  refine pw_istore_n d172_1 m172 rfl rfl ?_
  refine pw_iconst d172_2 ?_
  refine pw_istore_n d172_3 m172 rfl rfl ?_
  exact L4 _ (0) (0) (by omega) (by omega) (pv_mu _)

abbrev Q131 (τ : Nat → Option Nat) (ρ : Nat → Nat → Nat) (h : pv_H) (a0 : Nat) : Option Value → pv_H → Prop := fun r h' => h = h' ∧ ∃ z : Int, r = some (.int (pv_I z)) ∧ 0 ≤ z ∧ z ≤ 0
set_option maxHeartbeats 4000000 in
set_option maxRecDepth 20000 in
/-- AngleNet$Flips.takeBack(LAngleNet$Net;)Z -/
theorem ct131 {τ : Nat → Option Nat} {ρ : Nat → Nat → Nat} {K : Nat → Nat} {h : pv_H} {a0 : Nat} (hT : pv_Ty τ ρ h) (hA0 : τ a0 = some 2) (hP0 : pv_fI h a0 14 = 0) : pv_C K 131 [.ref a0] h (Q131 τ ρ h a0) := by
  refine pw_entry 2 ?_
  show pv_T K 131 0 (pv_fl [some (.ref a0), none, none]) [] h (Q131 τ ρ h a0)
  refine pw_aload_n d131_0 rfl ?_
  refine pw_getI d131_1 g131_67 hT hA0 rfl rfl (fun u1 vu1 => ?_)
  refine pw_if_gt d131_4 rfl (by omega) (fun c4 => ?_) (fun c4 => ?_)
  · exfalso; omega
  · refine pw_iconst d131_7 ?_
    exact pw_zreturn d131_8 tt131 (by omega) ⟨rfl, 0, rfl, (by omega), (by omega)⟩

abbrev Q134 (τ : Nat → Option Nat) (ρ : Nat → Nat → Nat) (h : pv_H) (a0 : Nat) : Option Value → pv_H → Prop := fun r h' => h = h' ∧ ∃ z : Int, r = some (.int (pv_I z)) ∧ 0 ≤ z ∧ z ≤ 0
set_option maxHeartbeats 4000000 in
set_option maxRecDepth 20000 in
/-- AngleNet$Flips.applyAgain(LAngleNet$Net;)Z -/
theorem ct134 {τ : Nat → Option Nat} {ρ : Nat → Nat → Nat} {K : Nat → Nat} {h : pv_H} {a0 : Nat} (hT : pv_Ty τ ρ h) (hA0 : τ a0 = some 2) (hP0 : pv_fI h a0 14 = 0) (hP1 : pv_fI h a0 15 = 0) : pv_C K 134 [.ref a0] h (Q134 τ ρ h a0) := by
  refine pw_entry 1 ?_
  show pv_T K 134 0 (pv_fl [some (.ref a0), none]) [] h (Q134 τ ρ h a0)
  refine pw_aload_n d134_0 rfl ?_
  refine pw_getI d134_1 g134_67 hT hA0 rfl rfl (fun u1 vu1 => ?_)
  refine pw_aload_n d134_4 rfl ?_
  refine pw_getI d134_5 g134_109 hT hA0 rfl rfl (fun u5 vu5 => ?_)
  refine pw_icmp_lt d134_8 rfl (by omega) (by omega) (fun c8 => ?_) (fun c8 => ?_)
  · exfalso; omega
  · refine pw_iconst d134_11 ?_
    exact pw_zreturn d134_12 tt134 (by omega) ⟨rfl, 0, rfl, (by omega), (by omega)⟩

abbrev Q14v22 (τ : Nat → Option Nat) (ρ : Nat → Nat → Nat) (h : pv_H) (a0 : Nat) (x1 : Int) : Option Value → pv_H → Prop := fun r h' => pv_Ty τ ρ h' ∧ pv_Fr τ [1471] h h' ∧ r = none
set_option maxHeartbeats 4000000 in
set_option maxRecDepth 20000 in
/-- java/util/Arrays.fill([II)V -/
theorem ct14v22 {τ : Nat → Option Nat} {ρ : Nat → Nat → Nat} {K : Nat → Nat} {h : pv_H} {a0 : Nat} {x1 : Int} (hT : pv_Ty τ ρ h) (hA0 : τ a0 = some 22) (hX1 : (-1) ≤ x1 ∧ x1 ≤ (-1)) : pv_C K 14 [.ref a0, .int (pv_I x1)] h (Q14v22 τ ρ h a0 x1) := by
  refine pw_entry 2 ?_
  show pv_T K 14 0 (pv_fl [some (.ref a0), some (.int (pv_I x1)), none, none]) [] h (Q14v22 τ ρ h a0 x1)
  have hF0 : pv_Fr τ [1471] h h := pv_Fr.rf
  have L5 : ∀ (nn : Nat) (h_5 : pv_H) (xL2_5 xL3_5 : Int), (pv_Ty τ ρ h_5) → (pv_Fr τ [1471] h h_5) → ((-1) ≤ x1 ∧ x1 ≤ (-1)) → (0 ≤ xL2_5 ∧ xL2_5 ≤ 10) → (10 ≤ xL3_5 ∧ xL3_5 ≤ 10) → 10 - xL2_5 < nn → pv_T K 14 5 (pv_fl [some (.ref a0), some (.int (pv_I x1)), some (.int (pv_I xL2_5)), some (.int (pv_I xL3_5))]) [] h_5 (Q14v22 τ ρ h a0 x1) := by
    intro nn
    induction nn with
    | zero => intro h_5 xL2_5 xL3_5 hT_5 hF_5 rL1_5 rL2_5 rL3_5 hm; exfalso; omega
    | succ nn ih5 =>
      intro h_5 xL2_5 xL3_5 hT_5 hF_5 rL1_5 rL2_5 rL3_5 hm5
      refine pw_iload_n d14_5 rfl ?_
      refine pw_iload_n d14_6 rfl ?_
      refine pw_icmp_ge d14_7 rfl (by omega) (by omega) (fun c7 => ?_) (fun c7 => ?_)
      · exact pw_return d14_20 tt14 ⟨hT_5, hF_5, rfl⟩
      · refine pw_aload_n d14_10 rfl ?_
        refine pw_iload_n d14_11 rfl ?_
        refine pw_iload_n d14_12 rfl ?_
        refine pw_iast d14_13 hT_5 hA0 rfl rfl rfl (by omega) (by omega) (by omega) (by omega) (fun h13 T13 F13 E13 => ?_)
        have f13 := hF_5.tr (F13.up (by decide))
        refine pw_iinc d14_14 m14 rfl rfl rfl ?_
        refine pw_goto d14_17 rfl ?_
        exact ih5 h13 ((xL2_5 + 1)) (xL3_5) T13 f13 (by omega) (by omega) (by omega) (by omega)
  refine pw_iconst d14_0 ?_
  refine pw_istore_n d14_1 m14 rfl rfl ?_
  refine pw_aload_n d14_2 rfl ?_
  refine pw_alen d14_3 hT hA0 rfl (by decide) ?_
  refine pw_istore_n d14_4 m14 rfl rfl ?_
  exact L5 _ h (0) (((10 : Nat) : Int)) hT hF0 (by omega) (by omega) (by omega) (pv_mu _)

abbrev Q14v23 (τ : Nat → Option Nat) (ρ : Nat → Nat → Nat) (h : pv_H) (a0 : Nat) (x1 : Int) : Option Value → pv_H → Prop := fun r h' => pv_Ty τ ρ h' ∧ pv_Fr τ [1535] h h' ∧ r = none
set_option maxHeartbeats 4000000 in
set_option maxRecDepth 20000 in
/-- java/util/Arrays.fill([II)V -/
theorem ct14v23 {τ : Nat → Option Nat} {ρ : Nat → Nat → Nat} {K : Nat → Nat} {h : pv_H} {a0 : Nat} {x1 : Int} (hT : pv_Ty τ ρ h) (hA0 : τ a0 = some 23) (hX1 : (-1) ≤ x1 ∧ x1 ≤ (-1)) : pv_C K 14 [.ref a0, .int (pv_I x1)] h (Q14v23 τ ρ h a0 x1) := by
  refine pw_entry 2 ?_
  show pv_T K 14 0 (pv_fl [some (.ref a0), some (.int (pv_I x1)), none, none]) [] h (Q14v23 τ ρ h a0 x1)
  have hF0 : pv_Fr τ [1535] h h := pv_Fr.rf
  have L5 : ∀ (nn : Nat) (h_5 : pv_H) (xL2_5 xL3_5 : Int), (pv_Ty τ ρ h_5) → (pv_Fr τ [1535] h h_5) → ((-1) ≤ x1 ∧ x1 ≤ (-1)) → (0 ≤ xL2_5 ∧ xL2_5 ≤ 10) → (10 ≤ xL3_5 ∧ xL3_5 ≤ 10) → 10 - xL2_5 < nn → pv_T K 14 5 (pv_fl [some (.ref a0), some (.int (pv_I x1)), some (.int (pv_I xL2_5)), some (.int (pv_I xL3_5))]) [] h_5 (Q14v23 τ ρ h a0 x1) := by
    intro nn
    induction nn with
    | zero => intro h_5 xL2_5 xL3_5 hT_5 hF_5 rL1_5 rL2_5 rL3_5 hm; exfalso; omega
    | succ nn ih5 =>
      intro h_5 xL2_5 xL3_5 hT_5 hF_5 rL1_5 rL2_5 rL3_5 hm5
      refine pw_iload_n d14_5 rfl ?_
      refine pw_iload_n d14_6 rfl ?_
      refine pw_icmp_ge d14_7 rfl (by omega) (by omega) (fun c7 => ?_) (fun c7 => ?_)
      · exact pw_return d14_20 tt14 ⟨hT_5, hF_5, rfl⟩
      · refine pw_aload_n d14_10 rfl ?_
        refine pw_iload_n d14_11 rfl ?_
        refine pw_iload_n d14_12 rfl ?_
        refine pw_iast d14_13 hT_5 hA0 rfl rfl rfl (by omega) (by omega) (by omega) (by omega) (fun h13 T13 F13 E13 => ?_)
        have f13 := hF_5.tr (F13.up (by decide))
        refine pw_iinc d14_14 m14 rfl rfl rfl ?_
        refine pw_goto d14_17 rfl ?_
        exact ih5 h13 ((xL2_5 + 1)) (xL3_5) T13 f13 (by omega) (by omega) (by omega) (by omega)
  refine pw_iconst d14_0 ?_
  refine pw_istore_n d14_1 m14 rfl rfl ?_
  refine pw_aload_n d14_2 rfl ?_
  refine pw_alen d14_3 hT hA0 rfl (by decide) ?_
  refine pw_istore_n d14_4 m14 rfl rfl ?_
  exact L5 _ h (0) (((10 : Nat) : Int)) hT hF0 (by omega) (by omega) (by omega) (pv_mu _)

abbrev Q14v24 (τ : Nat → Option Nat) (ρ : Nat → Nat → Nat) (h : pv_H) (a0 : Nat) (x1 : Int) : Option Value → pv_H → Prop := fun r h' => pv_Ty τ ρ h' ∧ pv_Fr τ [1599] h h' ∧ r = none
set_option maxHeartbeats 4000000 in
set_option maxRecDepth 20000 in
/-- java/util/Arrays.fill([II)V -/
theorem ct14v24 {τ : Nat → Option Nat} {ρ : Nat → Nat → Nat} {K : Nat → Nat} {h : pv_H} {a0 : Nat} {x1 : Int} (hT : pv_Ty τ ρ h) (hA0 : τ a0 = some 24) (hX1 : (-1) ≤ x1 ∧ x1 ≤ (-1)) : pv_C K 14 [.ref a0, .int (pv_I x1)] h (Q14v24 τ ρ h a0 x1) := by
  refine pw_entry 2 ?_
  show pv_T K 14 0 (pv_fl [some (.ref a0), some (.int (pv_I x1)), none, none]) [] h (Q14v24 τ ρ h a0 x1)
  have hF0 : pv_Fr τ [1599] h h := pv_Fr.rf
  have L5 : ∀ (nn : Nat) (h_5 : pv_H) (xL2_5 xL3_5 : Int), (pv_Ty τ ρ h_5) → (pv_Fr τ [1599] h h_5) → ((-1) ≤ x1 ∧ x1 ≤ (-1)) → (0 ≤ xL2_5 ∧ xL2_5 ≤ 10) → (10 ≤ xL3_5 ∧ xL3_5 ≤ 10) → 10 - xL2_5 < nn → pv_T K 14 5 (pv_fl [some (.ref a0), some (.int (pv_I x1)), some (.int (pv_I xL2_5)), some (.int (pv_I xL3_5))]) [] h_5 (Q14v24 τ ρ h a0 x1) := by
    intro nn
    induction nn with
    | zero => intro h_5 xL2_5 xL3_5 hT_5 hF_5 rL1_5 rL2_5 rL3_5 hm; exfalso; omega
    | succ nn ih5 =>
      intro h_5 xL2_5 xL3_5 hT_5 hF_5 rL1_5 rL2_5 rL3_5 hm5
      refine pw_iload_n d14_5 rfl ?_
      refine pw_iload_n d14_6 rfl ?_
      refine pw_icmp_ge d14_7 rfl (by omega) (by omega) (fun c7 => ?_) (fun c7 => ?_)
      · exact pw_return d14_20 tt14 ⟨hT_5, hF_5, rfl⟩
      · refine pw_aload_n d14_10 rfl ?_
        refine pw_iload_n d14_11 rfl ?_
        refine pw_iload_n d14_12 rfl ?_
        refine pw_iast d14_13 hT_5 hA0 rfl rfl rfl (by omega) (by omega) (by omega) (by omega) (fun h13 T13 F13 E13 => ?_)
        have f13 := hF_5.tr (F13.up (by decide))
        refine pw_iinc d14_14 m14 rfl rfl rfl ?_
        refine pw_goto d14_17 rfl ?_
        exact ih5 h13 ((xL2_5 + 1)) (xL3_5) T13 f13 (by omega) (by omega) (by omega) (by omega)
  refine pw_iconst d14_0 ?_
  refine pw_istore_n d14_1 m14 rfl rfl ?_
  refine pw_aload_n d14_2 rfl ?_
  refine pw_alen d14_3 hT hA0 rfl (by decide) ?_
  refine pw_istore_n d14_4 m14 rfl rfl ?_
  exact L5 _ h (0) (((10 : Nat) : Int)) hT hF0 (by omega) (by omega) (by omega) (pv_mu _)

abbrev Q14v25 (τ : Nat → Option Nat) (ρ : Nat → Nat → Nat) (h : pv_H) (a0 : Nat) (x1 : Int) : Option Value → pv_H → Prop := fun r h' => pv_Ty τ ρ h' ∧ pv_Fr τ [1663] h h' ∧ r = none
set_option maxHeartbeats 4000000 in
set_option maxRecDepth 20000 in
/-- java/util/Arrays.fill([II)V -/
theorem ct14v25 {τ : Nat → Option Nat} {ρ : Nat → Nat → Nat} {K : Nat → Nat} {h : pv_H} {a0 : Nat} {x1 : Int} (hT : pv_Ty τ ρ h) (hA0 : τ a0 = some 25) (hX1 : (-1) ≤ x1 ∧ x1 ≤ (-1)) : pv_C K 14 [.ref a0, .int (pv_I x1)] h (Q14v25 τ ρ h a0 x1) := by
  refine pw_entry 2 ?_
  show pv_T K 14 0 (pv_fl [some (.ref a0), some (.int (pv_I x1)), none, none]) [] h (Q14v25 τ ρ h a0 x1)
  have hF0 : pv_Fr τ [1663] h h := pv_Fr.rf
  have L5 : ∀ (nn : Nat) (h_5 : pv_H) (xL2_5 xL3_5 : Int), (pv_Ty τ ρ h_5) → (pv_Fr τ [1663] h h_5) → ((-1) ≤ x1 ∧ x1 ≤ (-1)) → (0 ≤ xL2_5 ∧ xL2_5 ≤ 10) → (10 ≤ xL3_5 ∧ xL3_5 ≤ 10) → 10 - xL2_5 < nn → pv_T K 14 5 (pv_fl [some (.ref a0), some (.int (pv_I x1)), some (.int (pv_I xL2_5)), some (.int (pv_I xL3_5))]) [] h_5 (Q14v25 τ ρ h a0 x1) := by
    intro nn
    induction nn with
    | zero => intro h_5 xL2_5 xL3_5 hT_5 hF_5 rL1_5 rL2_5 rL3_5 hm; exfalso; omega
    | succ nn ih5 =>
      intro h_5 xL2_5 xL3_5 hT_5 hF_5 rL1_5 rL2_5 rL3_5 hm5
      refine pw_iload_n d14_5 rfl ?_
      refine pw_iload_n d14_6 rfl ?_
      refine pw_icmp_ge d14_7 rfl (by omega) (by omega) (fun c7 => ?_) (fun c7 => ?_)
      · exact pw_return d14_20 tt14 ⟨hT_5, hF_5, rfl⟩
      · refine pw_aload_n d14_10 rfl ?_
        refine pw_iload_n d14_11 rfl ?_
        refine pw_iload_n d14_12 rfl ?_
        refine pw_iast d14_13 hT_5 hA0 rfl rfl rfl (by omega) (by omega) (by omega) (by omega) (fun h13 T13 F13 E13 => ?_)
        have f13 := hF_5.tr (F13.up (by decide))
        refine pw_iinc d14_14 m14 rfl rfl rfl ?_
        refine pw_goto d14_17 rfl ?_
        exact ih5 h13 ((xL2_5 + 1)) (xL3_5) T13 f13 (by omega) (by omega) (by omega) (by omega)
  refine pw_iconst d14_0 ?_
  refine pw_istore_n d14_1 m14 rfl rfl ?_
  refine pw_aload_n d14_2 rfl ?_
  refine pw_alen d14_3 hT hA0 rfl (by decide) ?_
  refine pw_istore_n d14_4 m14 rfl rfl ?_
  exact L5 _ h (0) (((10 : Nat) : Int)) hT hF0 (by omega) (by omega) (by omega) (pv_mu _)

abbrev Q14v26 (τ : Nat → Option Nat) (ρ : Nat → Nat → Nat) (h : pv_H) (a0 : Nat) (x1 : Int) : Option Value → pv_H → Prop := fun r h' => pv_Ty τ ρ h' ∧ pv_Fr τ [1727] h h' ∧ r = none
set_option maxHeartbeats 4000000 in
set_option maxRecDepth 20000 in
/-- java/util/Arrays.fill([II)V -/
theorem ct14v26 {τ : Nat → Option Nat} {ρ : Nat → Nat → Nat} {K : Nat → Nat} {h : pv_H} {a0 : Nat} {x1 : Int} (hT : pv_Ty τ ρ h) (hA0 : τ a0 = some 26) (hX1 : 0 ≤ x1 ∧ x1 ≤ 0) : pv_C K 14 [.ref a0, .int (pv_I x1)] h (Q14v26 τ ρ h a0 x1) := by
  refine pw_entry 2 ?_
  show pv_T K 14 0 (pv_fl [some (.ref a0), some (.int (pv_I x1)), none, none]) [] h (Q14v26 τ ρ h a0 x1)
  have hF0 : pv_Fr τ [1727] h h := pv_Fr.rf
  have L5 : ∀ (nn : Nat) (h_5 : pv_H) (xL2_5 xL3_5 : Int), (pv_Ty τ ρ h_5) → (pv_Fr τ [1727] h h_5) → (0 ≤ x1 ∧ x1 ≤ 0) → (0 ≤ xL2_5 ∧ xL2_5 ≤ 100) → (100 ≤ xL3_5 ∧ xL3_5 ≤ 100) → 100 - xL2_5 < nn → pv_T K 14 5 (pv_fl [some (.ref a0), some (.int (pv_I x1)), some (.int (pv_I xL2_5)), some (.int (pv_I xL3_5))]) [] h_5 (Q14v26 τ ρ h a0 x1) := by
    intro nn
    induction nn with
    | zero => intro h_5 xL2_5 xL3_5 hT_5 hF_5 rL1_5 rL2_5 rL3_5 hm; exfalso; omega
    | succ nn ih5 =>
      intro h_5 xL2_5 xL3_5 hT_5 hF_5 rL1_5 rL2_5 rL3_5 hm5
      refine pw_iload_n d14_5 rfl ?_
      refine pw_iload_n d14_6 rfl ?_
      refine pw_icmp_ge d14_7 rfl (by omega) (by omega) (fun c7 => ?_) (fun c7 => ?_)
      · exact pw_return d14_20 tt14 ⟨hT_5, hF_5, rfl⟩
      · refine pw_aload_n d14_10 rfl ?_
        refine pw_iload_n d14_11 rfl ?_
        refine pw_iload_n d14_12 rfl ?_
        refine pw_iast d14_13 hT_5 hA0 rfl rfl rfl (by omega) (by omega) (by omega) (by omega) (fun h13 T13 F13 E13 => ?_)
        have f13 := hF_5.tr (F13.up (by decide))
        refine pw_iinc d14_14 m14 rfl rfl rfl ?_
        refine pw_goto d14_17 rfl ?_
        exact ih5 h13 ((xL2_5 + 1)) (xL3_5) T13 f13 (by omega) (by omega) (by omega) (by omega)
  refine pw_iconst d14_0 ?_
  refine pw_istore_n d14_1 m14 rfl rfl ?_
  refine pw_aload_n d14_2 rfl ?_
  refine pw_alen d14_3 hT hA0 rfl (by decide) ?_
  refine pw_istore_n d14_4 m14 rfl rfl ?_
  exact L5 _ h (0) (((100 : Nat) : Int)) hT hF0 (by omega) (by omega) (by omega) (pv_mu _)

abbrev Q14v27 (τ : Nat → Option Nat) (ρ : Nat → Nat → Nat) (h : pv_H) (a0 : Nat) (x1 : Int) : Option Value → pv_H → Prop := fun r h' => pv_Ty τ ρ h' ∧ pv_Fr τ [1791] h h' ∧ r = none
set_option maxHeartbeats 4000000 in
set_option maxRecDepth 20000 in
/-- java/util/Arrays.fill([II)V -/
theorem ct14v27 {τ : Nat → Option Nat} {ρ : Nat → Nat → Nat} {K : Nat → Nat} {h : pv_H} {a0 : Nat} {x1 : Int} (hT : pv_Ty τ ρ h) (hA0 : τ a0 = some 27) (hX1 : 0 ≤ x1 ∧ x1 ≤ 0) : pv_C K 14 [.ref a0, .int (pv_I x1)] h (Q14v27 τ ρ h a0 x1) := by
  refine pw_entry 2 ?_
  show pv_T K 14 0 (pv_fl [some (.ref a0), some (.int (pv_I x1)), none, none]) [] h (Q14v27 τ ρ h a0 x1)
  have hF0 : pv_Fr τ [1791] h h := pv_Fr.rf
  have L5 : ∀ (nn : Nat) (h_5 : pv_H) (xL2_5 xL3_5 : Int), (pv_Ty τ ρ h_5) → (pv_Fr τ [1791] h h_5) → (0 ≤ x1 ∧ x1 ≤ 0) → (0 ≤ xL2_5 ∧ xL2_5 ≤ 100) → (100 ≤ xL3_5 ∧ xL3_5 ≤ 100) → 100 - xL2_5 < nn → pv_T K 14 5 (pv_fl [some (.ref a0), some (.int (pv_I x1)), some (.int (pv_I xL2_5)), some (.int (pv_I xL3_5))]) [] h_5 (Q14v27 τ ρ h a0 x1) := by
    intro nn
    induction nn with
    | zero => intro h_5 xL2_5 xL3_5 hT_5 hF_5 rL1_5 rL2_5 rL3_5 hm; exfalso; omega
    | succ nn ih5 =>
      intro h_5 xL2_5 xL3_5 hT_5 hF_5 rL1_5 rL2_5 rL3_5 hm5
      refine pw_iload_n d14_5 rfl ?_
      refine pw_iload_n d14_6 rfl ?_
      refine pw_icmp_ge d14_7 rfl (by omega) (by omega) (fun c7 => ?_) (fun c7 => ?_)
      · exact pw_return d14_20 tt14 ⟨hT_5, hF_5, rfl⟩
      · refine pw_aload_n d14_10 rfl ?_
        refine pw_iload_n d14_11 rfl ?_
        refine pw_iload_n d14_12 rfl ?_
        refine pw_iast d14_13 hT_5 hA0 rfl rfl rfl (by omega) (by omega) (by omega) (by omega) (fun h13 T13 F13 E13 => ?_)
        have f13 := hF_5.tr (F13.up (by decide))
        refine pw_iinc d14_14 m14 rfl rfl rfl ?_
        refine pw_goto d14_17 rfl ?_
        exact ih5 h13 ((xL2_5 + 1)) (xL3_5) T13 f13 (by omega) (by omega) (by omega) (by omega)
  refine pw_iconst d14_0 ?_
  refine pw_istore_n d14_1 m14 rfl rfl ?_
  refine pw_aload_n d14_2 rfl ?_
  refine pw_alen d14_3 hT hA0 rfl (by decide) ?_
  refine pw_istore_n d14_4 m14 rfl rfl ?_
  exact L5 _ h (0) (((100 : Nat) : Int)) hT hF0 (by omega) (by omega) (by omega) (pv_mu _)

abbrev Q148v31 (τ : Nat → Option Nat) (ρ : Nat → Nat → Nat) (h : pv_H) (a0 : Nat) (x1 : Int) : Option Value → pv_H → Prop := fun r h' => pv_Ty τ ρ h' ∧ pv_Fr τ [2047] h h' ∧ r = none
set_option maxHeartbeats 4000000 in
set_option maxRecDepth 20000 in
/-- java/util/Arrays.fill([JJ)V -/
theorem ct148v31 {τ : Nat → Option Nat} {ρ : Nat → Nat → Nat} {K : Nat → Nat} {h : pv_H} {a0 : Nat} {x1 : Int} (hT : pv_Ty τ ρ h) (hA0 : τ a0 = some 31) (hX1 : (-9223372036854775808) ≤ x1 ∧ x1 ≤ 9223372036854775807) : pv_C K 148 [.ref a0, .long (pv_J x1)] h (Q148v31 τ ρ h a0 x1) := by
  refine pw_entry 2 ?_
  show pv_T K 148 0 (pv_fl [some (.ref a0), some (.long (pv_J x1)), none, none, none]) [] h (Q148v31 τ ρ h a0 x1)
  have hF0 : pv_Fr τ [2047] h h := pv_Fr.rf
  have L6 : ∀ (nn : Nat) (h_6 : pv_H) (xL3_6 xL4_6 : Int) (o2_6 : Option Value), (pv_Ty τ ρ h_6) → (pv_Fr τ [2047] h h_6) → ((-9223372036854775808) ≤ x1 ∧ x1 ≤ 9223372036854775807) → (0 ≤ xL3_6 ∧ xL3_6 ≤ 60) → (60 ≤ xL4_6 ∧ xL4_6 ≤ 60) → 60 - xL3_6 < nn → pv_T K 148 6 (pv_fl [some (.ref a0), some (.long (pv_J x1)), o2_6, some (.int (pv_I xL3_6)), some (.int (pv_I xL4_6))]) [] h_6 (Q148v31 τ ρ h a0 x1) := by
    intro nn
    induction nn with
    | zero => intro h_6 xL3_6 xL4_6 o2_6 hT_6 hF_6 rL1_6 rL3_6 rL4_6 hm; exfalso; omega
    | succ nn ih6 =>
      intro h_6 xL3_6 xL4_6 o2_6 hT_6 hF_6 rL1_6 rL3_6 rL4_6 hm6
      refine pw_iload_n d148_6 rfl ?_
      refine pw_iload d148_7 rfl ?_
      refine pw_icmp_ge d148_9 rfl (by omega) (by omega) (fun c9 => ?_) (fun c9 => ?_)
      · exact pw_return d148_22 tt148 ⟨hT_6, hF_6, rfl⟩
      · refine pw_aload_n d148_12 rfl ?_
        refine pw_iload_n d148_13 rfl ?_
        refine pw_lload_n d148_14 rfl ?_
        refine pw_last d148_15 hT_6 hA0 rfl rfl rfl (by omega) (by omega) (by omega) (fun h15 T15 F15 E15 => ?_)
        have f15 := hF_6.tr (F15.up (by decide))
        refine pw_iinc d148_16 m148 rfl rfl rfl ?_
        refine pw_goto d148_19 rfl ?_
        exact ih6 h15 ((xL3_6 + 1)) (xL4_6) _ T15 f15 (by omega) (by omega) (by omega) (by omega)
  refine pw_iconst d148_0 ?_
  refine pw_istore_n d148_1 m148 rfl rfl ?_
  refine pw_aload_n d148_2 rfl ?_
  refine pw_alen d148_3 hT hA0 rfl (by decide) ?_
  refine pw_istore d148_4 m148 rfl rfl ?_
  exact L6 _ h (0) (((60 : Nat) : Int)) _ hT hF0 (by omega) (by omega) (by omega) (pv_mu _)

abbrev Q15 (τ : Nat → Option Nat) (ρ : Nat → Nat → Nat) (h : pv_H) (a0 : Nat) : Option Value → pv_H → Prop := fun r h' => pv_Ty τ ρ h' ∧ pv_Fr τ [142, 143] h h' ∧ r = none
set_option maxHeartbeats 4000000 in
set_option maxRecDepth 20000 in
/-- AngleNet$Net.forgetFlips()V -/
theorem ct15 {τ : Nat → Option Nat} {ρ : Nat → Nat → Nat} {K : Nat → Nat} {h : pv_H} {a0 : Nat} (hT : pv_Ty τ ρ h) (hA0 : τ a0 = some 2) : pv_C K 15 [.ref a0] h (Q15 τ ρ h a0) := by
  refine pw_entry 0 ?_
  show pv_T K 15 0 (pv_fl [some (.ref a0)]) [] h (Q15 τ ρ h a0)
  have hF0 : pv_Fr τ [142, 143] h h := pv_Fr.rf
  refine pw_aload_n d15_0 rfl ?_
  refine pw_iconst d15_1 ?_
  refine pw_putI d15_2 g15_66 w2_14 hT hA0 rfl rfl rfl (by omega) (by omega) (fun h2 T2 F2 E2 => ?_)
  have f2 := hF0.tr (F2.up (by decide))
  refine pw_aload_n d15_5 rfl ?_
  refine pw_iconst d15_6 ?_
  refine pw_putI d15_7 g15_69 w2_15 T2 hA0 rfl rfl rfl (by omega) (by omega) (fun h7 T7 F7 E7 => ?_)
  have f7 := f2.tr (F7.up (by decide))
  have q7 := ((F7 a0 2 hA0).1 14 (by decide)).1
  exact pw_return d15_10 tt15 ⟨T7, f7, rfl⟩

abbrev Q13 (τ : Nat → Option Nat) (ρ : Nat → Nat → Nat) (h : pv_H) (a0 : Nat) : Option Value → pv_H → Prop := fun r h' => pv_Ty τ ρ h' ∧ pv_Fr τ [128, 129, 130, 131, 132, 142, 143, 1471, 1535, 1599, 1663, 1727, 1791] h h' ∧ r = none ∧ (pv_fI h' a0 2 = 0)
set_option maxHeartbeats 4000000 in
set_option maxRecDepth 20000 in
/-- AngleNet$Net.clear()V -/
theorem ct13 {τ : Nat → Option Nat} {ρ : Nat → Nat → Nat} {K : Nat → Nat} {h : pv_H} {a0 : Nat} (hT : pv_Ty τ ρ h) (hA0 : τ a0 = some 2) : pv_C K 13 [.ref a0] h (Q13 τ ρ h a0) := by
  refine pw_entry 0 ?_
  show pv_T K 13 0 (pv_fl [some (.ref a0)]) [] h (Q13 τ ρ h a0)
  have hF0 : pv_Fr τ [128, 129, 130, 131, 132, 142, 143, 1471, 1535, 1599, 1663, 1727, 1791] h h := pv_Fr.rf
  refine pw_aload_n d13_0 rfl ?_
  refine pw_iconst d13_1 ?_
  refine pw_putI d13_2 g13_41 w2_0 hT hA0 rfl rfl rfl (by omega) (by omega) (fun h2 T2 F2 E2 => ?_)
  have f2 := hF0.tr (F2.up (by decide))
  refine pw_aload_n d13_5 rfl ?_
  refine pw_iconst d13_6 ?_
  refine pw_putI d13_7 g13_45 w2_1 T2 hA0 rfl rfl rfl (by omega) (by omega) (fun h7 T7 F7 E7 => ?_)
  have f7 := f2.tr (F7.up (by decide))
  have q7 := ((F7 a0 2 hA0).1 0 (by decide)).1
  refine pw_aload_n d13_10 rfl ?_
  refine pw_iconst d13_11 ?_
  refine pw_putI d13_12 g13_48 w2_2 T7 hA0 rfl rfl rfl (by omega) (by omega) (fun h12 T12 F12 E12 => ?_)
  have f12 := f7.tr (F12.up (by decide))
  have q12 := ((F12 a0 2 hA0).1 0 (by decide)).1
  have q12b := ((F12 a0 2 hA0).1 1 (by decide)).1
  refine pw_aload_n d13_15 rfl ?_
  refine pw_iconst d13_16 ?_
  refine pw_putI d13_17 g13_51 w2_3 T12 hA0 rfl rfl rfl (by omega) (by omega) (fun h17 T17 F17 E17 => ?_)
  have f17 := f12.tr (F17.up (by decide))
  have q17 := ((F17 a0 2 hA0).1 0 (by decide)).1
  have q17b := ((F17 a0 2 hA0).1 1 (by decide)).1
  have q17c := ((F17 a0 2 hA0).1 2 (by decide)).1
  refine pw_aload_n d13_20 rfl ?_
  refine pw_iconst d13_21 ?_
  refine pw_putI d13_22 g13_54 w2_4 T17 hA0 rfl rfl rfl (by omega) (by omega) (fun h22 T22 F22 E22 => ?_)
  have f22 := f17.tr (F22.up (by decide))
  have q22 := ((F22 a0 2 hA0).1 0 (by decide)).1
  have q22b := ((F22 a0 2 hA0).1 1 (by decide)).1
  have q22c := ((F22 a0 2 hA0).1 2 (by decide)).1
  have q22d := ((F22 a0 2 hA0).1 3 (by decide)).1
  refine pw_aload_n d13_25 rfl ?_
  refine pw_getR d13_26 g13_18 T22 hA0 rfl rfl (fun t26 => ?_)
  have t26 : τ (ρ a0 7) = some 22 := t26
  refine pw_iconst d13_29 ?_
  refine pw_callS2 d13_30 k13_57 rfl rfl (ct14v22 (τ := τ) (ρ := ρ) T22 t26 (by omega)) (fun r30 h30 q30 => ?_)
  obtain ⟨T30, F30, ez30⟩ := q30
  subst ez30
  have f30 := f22.tr (F30.up (by decide))
  have q30b := ((F30 a0 2 hA0).1 0 (by decide)).1
  have q30c := ((F30 a0 2 hA0).1 1 (by decide)).1
  have q30d := ((F30 a0 2 hA0).1 2 (by decide)).1
  have q30e := ((F30 a0 2 hA0).1 3 (by decide)).1
  have q30f := ((F30 a0 2 hA0).1 4 (by decide)).1
  refine pw_aload_n d13_33 rfl ?_
  refine pw_getR d13_34 g13_21 T30 hA0 rfl rfl (fun t34 => ?_)
  have t34 : τ (ρ a0 8) = some 23 := t34
  refine pw_iconst d13_37 ?_
  refine pw_callS2 d13_38 k13_57 rfl rfl (ct14v23 (τ := τ) (ρ := ρ) T30 t34 (by omega)) (fun r38 h38 q38 => ?_)
  obtain ⟨T38, F38, ez38⟩ := q38
  subst ez38
  have f38 := f30.tr (F38.up (by decide))
  have q38b := ((F38 a0 2 hA0).1 0 (by decide)).1
  have q38c := ((F38 a0 2 hA0).1 1 (by decide)).1
  have q38d := ((F38 a0 2 hA0).1 2 (by decide)).1
  have q38e := ((F38 a0 2 hA0).1 3 (by decide)).1
  have q38f := ((F38 a0 2 hA0).1 4 (by decide)).1
  refine pw_aload_n d13_41 rfl ?_
  refine pw_getR d13_42 g13_24 T38 hA0 rfl rfl (fun t42 => ?_)
  have t42 : τ (ρ a0 9) = some 24 := t42
  refine pw_iconst d13_45 ?_
  refine pw_callS2 d13_46 k13_57 rfl rfl (ct14v24 (τ := τ) (ρ := ρ) T38 t42 (by omega)) (fun r46 h46 q46 => ?_)
  obtain ⟨T46, F46, ez46⟩ := q46
  subst ez46
  have f46 := f38.tr (F46.up (by decide))
  have q46b := ((F46 a0 2 hA0).1 0 (by decide)).1
  have q46c := ((F46 a0 2 hA0).1 1 (by decide)).1
  have q46d := ((F46 a0 2 hA0).1 2 (by decide)).1
  have q46e := ((F46 a0 2 hA0).1 3 (by decide)).1
  have q46f := ((F46 a0 2 hA0).1 4 (by decide)).1
  refine pw_aload_n d13_49 rfl ?_
  refine pw_getR d13_50 g13_27 T46 hA0 rfl rfl (fun t50 => ?_)
  have t50 : τ (ρ a0 10) = some 25 := t50
  refine pw_iconst d13_53 ?_
  refine pw_callS2 d13_54 k13_57 rfl rfl (ct14v25 (τ := τ) (ρ := ρ) T46 t50 (by omega)) (fun r54 h54 q54 => ?_)
  obtain ⟨T54, F54, ez54⟩ := q54
  subst ez54
  have f54 := f46.tr (F54.up (by decide))
  have q54b := ((F54 a0 2 hA0).1 0 (by decide)).1
  have q54c := ((F54 a0 2 hA0).1 1 (by decide)).1
  have q54d := ((F54 a0 2 hA0).1 2 (by decide)).1
  have q54e := ((F54 a0 2 hA0).1 3 (by decide)).1
  have q54f := ((F54 a0 2 hA0).1 4 (by decide)).1
  refine pw_aload_n d13_57 rfl ?_
  refine pw_getR d13_58 g13_30 T54 hA0 rfl rfl (fun t58 => ?_)
  have t58 : τ (ρ a0 11) = some 26 := t58
  refine pw_iconst d13_61 ?_
  refine pw_callS2 d13_62 k13_57 rfl rfl (ct14v26 (τ := τ) (ρ := ρ) T54 t58 (by omega)) (fun r62 h62 q62 => ?_)
  obtain ⟨T62, F62, ez62⟩ := q62
  subst ez62
  have f62 := f54.tr (F62.up (by decide))
  have q62b := ((F62 a0 2 hA0).1 0 (by decide)).1
  have q62c := ((F62 a0 2 hA0).1 1 (by decide)).1
  have q62d := ((F62 a0 2 hA0).1 2 (by decide)).1
  have q62e := ((F62 a0 2 hA0).1 3 (by decide)).1
  have q62f := ((F62 a0 2 hA0).1 4 (by decide)).1
  refine pw_aload_n d13_65 rfl ?_
  refine pw_getR d13_66 g13_33 T62 hA0 rfl rfl (fun t66 => ?_)
  have t66 : τ (ρ a0 12) = some 27 := t66
  refine pw_iconst d13_69 ?_
  refine pw_callS2 d13_70 k13_57 rfl rfl (ct14v27 (τ := τ) (ρ := ρ) T62 t66 (by omega)) (fun r70 h70 q70 => ?_)
  obtain ⟨T70, F70, ez70⟩ := q70
  subst ez70
  have f70 := f62.tr (F70.up (by decide))
  have q70b := ((F70 a0 2 hA0).1 0 (by decide)).1
  have q70c := ((F70 a0 2 hA0).1 1 (by decide)).1
  have q70d := ((F70 a0 2 hA0).1 2 (by decide)).1
  have q70e := ((F70 a0 2 hA0).1 3 (by decide)).1
  have q70f := ((F70 a0 2 hA0).1 4 (by decide)).1
  refine pw_aload_n d13_73 rfl ?_
  refine pw_callV0 d13_74 k13_63 T70 hA0 rfl rfl rfl (ct15 (τ := τ) (ρ := ρ) T70 hA0) (fun r74 h74 q74 => ?_)
  obtain ⟨T74, F74, ez74⟩ := q74
  subst ez74
  have f74 := f70.tr (F74.up (by decide))
  have q74b := ((F74 a0 2 hA0).1 0 (by decide)).1
  have q74c := ((F74 a0 2 hA0).1 1 (by decide)).1
  have q74d := ((F74 a0 2 hA0).1 2 (by decide)).1
  have q74e := ((F74 a0 2 hA0).1 3 (by decide)).1
  have q74f := ((F74 a0 2 hA0).1 4 (by decide)).1
  exact pw_return d13_77 tt13 ⟨T74, f74, rfl, (by omega)⟩

abbrev Q52 (τ : Nat → Option Nat) (ρ : Nat → Nat → Nat) (h : pv_H) (a0 : Nat) (a1 : Nat) : Option Value → pv_H → Prop := fun r h' => pv_Ty τ ρ h' ∧ pv_Fr τ [128, 129, 130, 131, 132, 142, 143, 1343, 1407, 1471, 1535, 1599, 1663, 1727, 1791, 1855] h h' ∧ r = none ∧ (pv_fI h' a0 2 = pv_fI h a1 2)
set_option maxHeartbeats 4000000 in
set_option maxRecDepth 20000 in
/-- AngleNet$Net.copyFrom(LAngleNet$Net;)V -/
theorem ct52 {τ : Nat → Option Nat} {ρ : Nat → Nat → Nat} {K : Nat → Nat} {h : pv_H} {a0 : Nat} {a1 : Nat} (hT : pv_Ty τ ρ h) (hA0 : τ a0 = some 2) (hA1 : τ a1 = some 2) : pv_C K 52 [.ref a0, .ref a1] h (Q52 τ ρ h a0 a1) := by
  refine pw_entry 0 ?_
  show pv_T K 52 0 (pv_fl [some (.ref a0), some (.ref a1)]) [] h (Q52 τ ρ h a0 a1)
  have hF0 : pv_Fr τ [128, 129, 130, 131, 132, 142, 143, 1343, 1407, 1471, 1535, 1599, 1663, 1727, 1791, 1855] h h := pv_Fr.rf
  refine pw_aload_n d52_0 rfl ?_
  refine pw_aload_n d52_1 rfl ?_
  refine pw_getI d52_2 g52_41 hT hA1 rfl rfl (fun u2 vu2 => ?_)
  refine pw_putI d52_5 g52_41 w2_0 hT hA0 rfl rfl rfl (by omega) (by omega) (fun h5 T5 F5 E5 => ?_)
  have f5 := hF0.tr (F5.up (by decide))
  have q5 := ((F5 a1 2 hA1).1 2 (by decide)).1
  refine pw_aload_n d52_8 rfl ?_
  refine pw_aload_n d52_9 rfl ?_
  refine pw_getI d52_10 g52_45 T5 hA1 rfl rfl (fun u10 vu10 => ?_)
  refine pw_putI d52_13 g52_45 w2_1 T5 hA0 rfl rfl rfl (by omega) (by omega) (fun h13 T13 F13 E13 => ?_)
  have f13 := f5.tr (F13.up (by decide))
  have q13 := ((F13 a0 2 hA0).1 0 (by decide)).1
  have q13b := ((F13 a1 2 hA1).1 0 (by decide)).1
  have q13c := ((F13 a1 2 hA1).1 2 (by decide)).1
  refine pw_aload_n d52_16 rfl ?_
  refine pw_aload_n d52_17 rfl ?_
  refine pw_getI d52_18 g52_48 T13 hA1 rfl rfl (fun u18 vu18 => ?_)
  refine pw_putI d52_21 g52_48 w2_2 T13 hA0 rfl rfl rfl (by omega) (by omega) (fun h21 T21 F21 E21 => ?_)
  have f21 := f13.tr (F21.up (by decide))
  have q21 := ((F21 a0 2 hA0).1 0 (by decide)).1
  have q21b := ((F21 a0 2 hA0).1 1 (by decide)).1
  have q21c := ((F21 a1 2 hA1).1 0 (by decide)).1
  have q21d := ((F21 a1 2 hA1).1 1 (by decide)).1
  refine pw_aload_n d52_24 rfl ?_
  refine pw_aload_n d52_25 rfl ?_
  refine pw_getI d52_26 g52_51 T21 hA1 rfl rfl (fun u26 vu26 => ?_)
  refine pw_putI d52_29 g52_51 w2_3 T21 hA0 rfl rfl rfl (by omega) (by omega) (fun h29 T29 F29 E29 => ?_)
  have f29 := f21.tr (F29.up (by decide))
  have q29 := ((F29 a0 2 hA0).1 0 (by decide)).1
  have q29b := ((F29 a0 2 hA0).1 1 (by decide)).1
  have q29c := ((F29 a0 2 hA0).1 2 (by decide)).1
  have q29d := ((F29 a1 2 hA1).1 0 (by decide)).1
  have q29e := ((F29 a1 2 hA1).1 1 (by decide)).1
  have q29f := ((F29 a1 2 hA1).1 2 (by decide)).1
  refine pw_aload_n d52_32 rfl ?_
  refine pw_aload_n d52_33 rfl ?_
  refine pw_getI d52_34 g52_54 T29 hA1 rfl rfl (fun u34 vu34 => ?_)
  refine pw_putI d52_37 g52_54 w2_4 T29 hA0 rfl rfl rfl (by omega) (by omega) (fun h37 T37 F37 E37 => ?_)
  have f37 := f29.tr (F37.up (by decide))
  have q37 := ((F37 a0 2 hA0).1 0 (by decide)).1
  have q37b := ((F37 a0 2 hA0).1 1 (by decide)).1
  have q37c := ((F37 a0 2 hA0).1 2 (by decide)).1
  have q37d := ((F37 a0 2 hA0).1 3 (by decide)).1
  have q37e := ((F37 a1 2 hA1).1 0 (by decide)).1
  have q37f := ((F37 a1 2 hA1).1 1 (by decide)).1
  have q37g := ((F37 a1 2 hA1).1 2 (by decide)).1
  have q37h := ((F37 a1 2 hA1).1 3 (by decide)).1
  refine pw_aload_n d52_40 rfl ?_
  refine pw_aload_n d52_41 rfl ?_
  refine pw_getI d52_42 g52_66 T37 hA1 rfl rfl (fun u42 vu42 => ?_)
  refine pw_putI d52_45 g52_66 w2_14 T37 hA0 rfl rfl rfl (by omega) (by omega) (fun h45 T45 F45 E45 => ?_)
  have f45 := f37.tr (F45.up (by decide))
  have q45 := ((F45 a0 2 hA0).1 0 (by decide)).1
  have q45b := ((F45 a0 2 hA0).1 1 (by decide)).1
  have q45c := ((F45 a0 2 hA0).1 2 (by decide)).1
  have q45d := ((F45 a0 2 hA0).1 3 (by decide)).1
  have q45e := ((F45 a0 2 hA0).1 4 (by decide)).1
  have q45f := ((F45 a1 2 hA1).1 0 (by decide)).1
  have q45g := ((F45 a1 2 hA1).1 1 (by decide)).1
  have q45h := ((F45 a1 2 hA1).1 2 (by decide)).1
  have q45i := ((F45 a1 2 hA1).1 3 (by decide)).1
  have q45j := ((F45 a1 2 hA1).1 4 (by decide)).1
  refine pw_aload_n d52_48 rfl ?_
  refine pw_aload_n d52_49 rfl ?_
  refine pw_getI d52_50 g52_69 T45 hA1 rfl rfl (fun u50 vu50 => ?_)
  refine pw_putI d52_53 g52_69 w2_15 T45 hA0 rfl rfl rfl (by omega) (by omega) (fun h53 T53 F53 E53 => ?_)
  have f53 := f45.tr (F53.up (by decide))
  have q53 := ((F53 a0 2 hA0).1 0 (by decide)).1
  have q53b := ((F53 a0 2 hA0).1 1 (by decide)).1
  have q53c := ((F53 a0 2 hA0).1 2 (by decide)).1
  have q53d := ((F53 a0 2 hA0).1 3 (by decide)).1
  have q53e := ((F53 a0 2 hA0).1 4 (by decide)).1
  have q53f := ((F53 a0 2 hA0).1 14 (by decide)).1
  have q53g := ((F53 a1 2 hA1).1 0 (by decide)).1
  have q53h := ((F53 a1 2 hA1).1 1 (by decide)).1
  have q53i := ((F53 a1 2 hA1).1 2 (by decide)).1
  have q53j := ((F53 a1 2 hA1).1 3 (by decide)).1
  have q53k := ((F53 a1 2 hA1).1 4 (by decide)).1
  have q53l := ((F53 a1 2 hA1).1 14 (by decide)).1
  refine pw_aload_n d52_56 rfl ?_
  refine pw_getR d52_57 g52_9 T53 hA1 rfl rfl (fun t57 => ?_)
  have t57 : τ (ρ a1 5) = some 20 := t57
  refine pw_iconst d52_60 ?_
  refine pw_aload_n d52_61 rfl ?_
  refine pw_getR d52_62 g52_9 T53 hA0 rfl rfl (fun t62 => ?_)
  have t62 : τ (ρ a0 5) = some 20 := t62
  refine pw_iconst d52_65 ?_
  refine pw_aload_n d52_66 rfl ?_
  refine pw_getR d52_67 g52_9 T53 hA0 rfl rfl (fun t67 => ?_)
  have t67 : τ (ρ a0 5) = some 20 := t67
  refine pw_alen d52_70 T53 t67 rfl (by decide) ?_
  refine pw_copyT d52_71 k52_72 T53 t57 t67 rfl rfl rfl rfl (by omega) (by omega) (fun h71 T71 F71 E71 => ?_)
  have f71 := f53.tr (F71.up (by decide))
  have q71 := ((F71 a0 2 hA0).1 0 (by decide)).1
  have q71b := ((F71 a0 2 hA0).1 1 (by decide)).1
  have q71c := ((F71 a0 2 hA0).1 2 (by decide)).1
  have q71d := ((F71 a0 2 hA0).1 3 (by decide)).1
  have q71e := ((F71 a0 2 hA0).1 4 (by decide)).1
  have q71f := ((F71 a0 2 hA0).1 14 (by decide)).1
  have q71g := ((F71 a0 2 hA0).1 15 (by decide)).1
  have q71h := ((F71 a1 2 hA1).1 0 (by decide)).1
  have q71i := ((F71 a1 2 hA1).1 1 (by decide)).1
  have q71j := ((F71 a1 2 hA1).1 2 (by decide)).1
  have q71k := ((F71 a1 2 hA1).1 3 (by decide)).1
  have q71l := ((F71 a1 2 hA1).1 4 (by decide)).1
  have q71m := ((F71 a1 2 hA1).1 14 (by decide)).1
  have q71n := ((F71 a1 2 hA1).1 15 (by decide)).1
  refine pw_aload_n d52_74 rfl ?_
  refine pw_getR d52_75 g52_15 T71 hA1 rfl rfl (fun t75 => ?_)
  have t75 : τ (ρ a1 6) = some 21 := t75
  refine pw_iconst d52_78 ?_
  refine pw_aload_n d52_79 rfl ?_
  refine pw_getR d52_80 g52_15 T71 hA0 rfl rfl (fun t80 => ?_)
  have t80 : τ (ρ a0 6) = some 21 := t80
  refine pw_iconst d52_83 ?_
  refine pw_aload_n d52_84 rfl ?_
  refine pw_getR d52_85 g52_15 T71 hA0 rfl rfl (fun t85 => ?_)
  have t85 : τ (ρ a0 6) = some 21 := t85
  refine pw_alen d52_88 T71 t85 rfl (by decide) ?_
  refine pw_copyT d52_89 k52_72 T71 t75 t85 rfl rfl rfl rfl (by omega) (by omega) (fun h89 T89 F89 E89 => ?_)
  have f89 := f71.tr (F89.up (by decide))
  have q89 := ((F89 a0 2 hA0).1 0 (by decide)).1
  have q89b := ((F89 a0 2 hA0).1 1 (by decide)).1
  have q89c := ((F89 a0 2 hA0).1 2 (by decide)).1
  have q89d := ((F89 a0 2 hA0).1 3 (by decide)).1
  have q89e := ((F89 a0 2 hA0).1 4 (by decide)).1
  have q89f := ((F89 a0 2 hA0).1 14 (by decide)).1
  have q89g := ((F89 a0 2 hA0).1 15 (by decide)).1
  have q89h := ((F89 a1 2 hA1).1 0 (by decide)).1
  have q89i := ((F89 a1 2 hA1).1 1 (by decide)).1
  have q89j := ((F89 a1 2 hA1).1 2 (by decide)).1
  have q89k := ((F89 a1 2 hA1).1 3 (by decide)).1
  have q89l := ((F89 a1 2 hA1).1 4 (by decide)).1
  have q89m := ((F89 a1 2 hA1).1 14 (by decide)).1
  have q89n := ((F89 a1 2 hA1).1 15 (by decide)).1
  refine pw_aload_n d52_92 rfl ?_
  refine pw_getR d52_93 g52_18 T89 hA1 rfl rfl (fun t93 => ?_)
  have t93 : τ (ρ a1 7) = some 22 := t93
  refine pw_iconst d52_96 ?_
  refine pw_aload_n d52_97 rfl ?_
  refine pw_getR d52_98 g52_18 T89 hA0 rfl rfl (fun t98 => ?_)
  have t98 : τ (ρ a0 7) = some 22 := t98
  refine pw_iconst d52_101 ?_
  refine pw_aload_n d52_102 rfl ?_
  refine pw_getR d52_103 g52_18 T89 hA0 rfl rfl (fun t103 => ?_)
  have t103 : τ (ρ a0 7) = some 22 := t103
  refine pw_alen d52_106 T89 t103 rfl (by decide) ?_
  refine pw_copyT d52_107 k52_72 T89 t93 t103 rfl rfl rfl rfl (by omega) (by omega) (fun h107 T107 F107 E107 => ?_)
  have f107 := f89.tr (F107.up (by decide))
  have q107 := ((F107 a0 2 hA0).1 0 (by decide)).1
  have q107b := ((F107 a0 2 hA0).1 1 (by decide)).1
  have q107c := ((F107 a0 2 hA0).1 2 (by decide)).1
  have q107d := ((F107 a0 2 hA0).1 3 (by decide)).1
  have q107e := ((F107 a0 2 hA0).1 4 (by decide)).1
  have q107f := ((F107 a0 2 hA0).1 14 (by decide)).1
  have q107g := ((F107 a0 2 hA0).1 15 (by decide)).1
  have q107h := ((F107 a1 2 hA1).1 0 (by decide)).1
  have q107i := ((F107 a1 2 hA1).1 1 (by decide)).1
  have q107j := ((F107 a1 2 hA1).1 2 (by decide)).1
  have q107k := ((F107 a1 2 hA1).1 3 (by decide)).1
  have q107l := ((F107 a1 2 hA1).1 4 (by decide)).1
  have q107m := ((F107 a1 2 hA1).1 14 (by decide)).1
  have q107n := ((F107 a1 2 hA1).1 15 (by decide)).1
  refine pw_aload_n d52_110 rfl ?_
  refine pw_getR d52_111 g52_21 T107 hA1 rfl rfl (fun t111 => ?_)
  have t111 : τ (ρ a1 8) = some 23 := t111
  refine pw_iconst d52_114 ?_
  refine pw_aload_n d52_115 rfl ?_
  refine pw_getR d52_116 g52_21 T107 hA0 rfl rfl (fun t116 => ?_)
  have t116 : τ (ρ a0 8) = some 23 := t116
  refine pw_iconst d52_119 ?_
  refine pw_aload_n d52_120 rfl ?_
  refine pw_getR d52_121 g52_21 T107 hA0 rfl rfl (fun t121 => ?_)
  have t121 : τ (ρ a0 8) = some 23 := t121
  refine pw_alen d52_124 T107 t121 rfl (by decide) ?_
  refine pw_copyT d52_125 k52_72 T107 t111 t121 rfl rfl rfl rfl (by omega) (by omega) (fun h125 T125 F125 E125 => ?_)
  have f125 := f107.tr (F125.up (by decide))
  have q125 := ((F125 a0 2 hA0).1 0 (by decide)).1
  have q125b := ((F125 a0 2 hA0).1 1 (by decide)).1
  have q125c := ((F125 a0 2 hA0).1 2 (by decide)).1
  have q125d := ((F125 a0 2 hA0).1 3 (by decide)).1
  have q125e := ((F125 a0 2 hA0).1 4 (by decide)).1
  have q125f := ((F125 a0 2 hA0).1 14 (by decide)).1
  have q125g := ((F125 a0 2 hA0).1 15 (by decide)).1
  have q125h := ((F125 a1 2 hA1).1 0 (by decide)).1
  have q125i := ((F125 a1 2 hA1).1 1 (by decide)).1
  have q125j := ((F125 a1 2 hA1).1 2 (by decide)).1
  have q125k := ((F125 a1 2 hA1).1 3 (by decide)).1
  have q125l := ((F125 a1 2 hA1).1 4 (by decide)).1
  have q125m := ((F125 a1 2 hA1).1 14 (by decide)).1
  have q125n := ((F125 a1 2 hA1).1 15 (by decide)).1
  refine pw_aload_n d52_128 rfl ?_
  refine pw_getR d52_129 g52_24 T125 hA1 rfl rfl (fun t129 => ?_)
  have t129 : τ (ρ a1 9) = some 24 := t129
  refine pw_iconst d52_132 ?_
  refine pw_aload_n d52_133 rfl ?_
  refine pw_getR d52_134 g52_24 T125 hA0 rfl rfl (fun t134 => ?_)
  have t134 : τ (ρ a0 9) = some 24 := t134
  refine pw_iconst d52_137 ?_
  refine pw_aload_n d52_138 rfl ?_
  refine pw_getR d52_139 g52_24 T125 hA0 rfl rfl (fun t139 => ?_)
  have t139 : τ (ρ a0 9) = some 24 := t139
  refine pw_alen d52_142 T125 t139 rfl (by decide) ?_
  refine pw_copyT d52_143 k52_72 T125 t129 t139 rfl rfl rfl rfl (by omega) (by omega) (fun h143 T143 F143 E143 => ?_)
  have f143 := f125.tr (F143.up (by decide))
  have q143 := ((F143 a0 2 hA0).1 0 (by decide)).1
  have q143b := ((F143 a0 2 hA0).1 1 (by decide)).1
  have q143c := ((F143 a0 2 hA0).1 2 (by decide)).1
  have q143d := ((F143 a0 2 hA0).1 3 (by decide)).1
  have q143e := ((F143 a0 2 hA0).1 4 (by decide)).1
  have q143f := ((F143 a0 2 hA0).1 14 (by decide)).1
  have q143g := ((F143 a0 2 hA0).1 15 (by decide)).1
  have q143h := ((F143 a1 2 hA1).1 0 (by decide)).1
  have q143i := ((F143 a1 2 hA1).1 1 (by decide)).1
  have q143j := ((F143 a1 2 hA1).1 2 (by decide)).1
  have q143k := ((F143 a1 2 hA1).1 3 (by decide)).1
  have q143l := ((F143 a1 2 hA1).1 4 (by decide)).1
  have q143m := ((F143 a1 2 hA1).1 14 (by decide)).1
  have q143n := ((F143 a1 2 hA1).1 15 (by decide)).1
  refine pw_aload_n d52_146 rfl ?_
  refine pw_getR d52_147 g52_27 T143 hA1 rfl rfl (fun t147 => ?_)
  have t147 : τ (ρ a1 10) = some 25 := t147
  refine pw_iconst d52_150 ?_
  refine pw_aload_n d52_151 rfl ?_
  refine pw_getR d52_152 g52_27 T143 hA0 rfl rfl (fun t152 => ?_)
  have t152 : τ (ρ a0 10) = some 25 := t152
  refine pw_iconst d52_155 ?_
  refine pw_aload_n d52_156 rfl ?_
  refine pw_getR d52_157 g52_27 T143 hA0 rfl rfl (fun t157 => ?_)
  have t157 : τ (ρ a0 10) = some 25 := t157
  refine pw_alen d52_160 T143 t157 rfl (by decide) ?_
  refine pw_copyT d52_161 k52_72 T143 t147 t157 rfl rfl rfl rfl (by omega) (by omega) (fun h161 T161 F161 E161 => ?_)
  have f161 := f143.tr (F161.up (by decide))
  have q161 := ((F161 a0 2 hA0).1 0 (by decide)).1
  have q161b := ((F161 a0 2 hA0).1 1 (by decide)).1
  have q161c := ((F161 a0 2 hA0).1 2 (by decide)).1
  have q161d := ((F161 a0 2 hA0).1 3 (by decide)).1
  have q161e := ((F161 a0 2 hA0).1 4 (by decide)).1
  have q161f := ((F161 a0 2 hA0).1 14 (by decide)).1
  have q161g := ((F161 a0 2 hA0).1 15 (by decide)).1
  have q161h := ((F161 a1 2 hA1).1 0 (by decide)).1
  have q161i := ((F161 a1 2 hA1).1 1 (by decide)).1
  have q161j := ((F161 a1 2 hA1).1 2 (by decide)).1
  have q161k := ((F161 a1 2 hA1).1 3 (by decide)).1
  have q161l := ((F161 a1 2 hA1).1 4 (by decide)).1
  have q161m := ((F161 a1 2 hA1).1 14 (by decide)).1
  have q161n := ((F161 a1 2 hA1).1 15 (by decide)).1
  refine pw_aload_n d52_164 rfl ?_
  refine pw_getR d52_165 g52_30 T161 hA1 rfl rfl (fun t165 => ?_)
  have t165 : τ (ρ a1 11) = some 26 := t165
  refine pw_iconst d52_168 ?_
  refine pw_aload_n d52_169 rfl ?_
  refine pw_getR d52_170 g52_30 T161 hA0 rfl rfl (fun t170 => ?_)
  have t170 : τ (ρ a0 11) = some 26 := t170
  refine pw_iconst d52_173 ?_
  refine pw_aload_n d52_174 rfl ?_
  refine pw_getR d52_175 g52_30 T161 hA0 rfl rfl (fun t175 => ?_)
  have t175 : τ (ρ a0 11) = some 26 := t175
  refine pw_alen d52_178 T161 t175 rfl (by decide) ?_
  refine pw_copyT d52_179 k52_72 T161 t165 t175 rfl rfl rfl rfl (by omega) (by omega) (fun h179 T179 F179 E179 => ?_)
  have f179 := f161.tr (F179.up (by decide))
  have q179 := ((F179 a0 2 hA0).1 0 (by decide)).1
  have q179b := ((F179 a0 2 hA0).1 1 (by decide)).1
  have q179c := ((F179 a0 2 hA0).1 2 (by decide)).1
  have q179d := ((F179 a0 2 hA0).1 3 (by decide)).1
  have q179e := ((F179 a0 2 hA0).1 4 (by decide)).1
  have q179f := ((F179 a0 2 hA0).1 14 (by decide)).1
  have q179g := ((F179 a0 2 hA0).1 15 (by decide)).1
  have q179h := ((F179 a1 2 hA1).1 0 (by decide)).1
  have q179i := ((F179 a1 2 hA1).1 1 (by decide)).1
  have q179j := ((F179 a1 2 hA1).1 2 (by decide)).1
  have q179k := ((F179 a1 2 hA1).1 3 (by decide)).1
  have q179l := ((F179 a1 2 hA1).1 4 (by decide)).1
  have q179m := ((F179 a1 2 hA1).1 14 (by decide)).1
  have q179n := ((F179 a1 2 hA1).1 15 (by decide)).1
  refine pw_aload_n d52_182 rfl ?_
  refine pw_getR d52_183 g52_33 T179 hA1 rfl rfl (fun t183 => ?_)
  have t183 : τ (ρ a1 12) = some 27 := t183
  refine pw_iconst d52_186 ?_
  refine pw_aload_n d52_187 rfl ?_
  refine pw_getR d52_188 g52_33 T179 hA0 rfl rfl (fun t188 => ?_)
  have t188 : τ (ρ a0 12) = some 27 := t188
  refine pw_iconst d52_191 ?_
  refine pw_aload_n d52_192 rfl ?_
  refine pw_getR d52_193 g52_33 T179 hA0 rfl rfl (fun t193 => ?_)
  have t193 : τ (ρ a0 12) = some 27 := t193
  refine pw_alen d52_196 T179 t193 rfl (by decide) ?_
  refine pw_copyT d52_197 k52_72 T179 t183 t193 rfl rfl rfl rfl (by omega) (by omega) (fun h197 T197 F197 E197 => ?_)
  have f197 := f179.tr (F197.up (by decide))
  have q197 := ((F197 a0 2 hA0).1 0 (by decide)).1
  have q197b := ((F197 a0 2 hA0).1 1 (by decide)).1
  have q197c := ((F197 a0 2 hA0).1 2 (by decide)).1
  have q197d := ((F197 a0 2 hA0).1 3 (by decide)).1
  have q197e := ((F197 a0 2 hA0).1 4 (by decide)).1
  have q197f := ((F197 a0 2 hA0).1 14 (by decide)).1
  have q197g := ((F197 a0 2 hA0).1 15 (by decide)).1
  have q197h := ((F197 a1 2 hA1).1 0 (by decide)).1
  have q197i := ((F197 a1 2 hA1).1 1 (by decide)).1
  have q197j := ((F197 a1 2 hA1).1 2 (by decide)).1
  have q197k := ((F197 a1 2 hA1).1 3 (by decide)).1
  have q197l := ((F197 a1 2 hA1).1 4 (by decide)).1
  have q197m := ((F197 a1 2 hA1).1 14 (by decide)).1
  have q197n := ((F197 a1 2 hA1).1 15 (by decide)).1
  refine pw_aload_n d52_200 rfl ?_
  refine pw_getR d52_201 g52_38 T197 hA1 rfl rfl (fun t201 => ?_)
  have t201 : τ (ρ a1 13) = some 28 := t201
  refine pw_iconst d52_204 ?_
  refine pw_aload_n d52_205 rfl ?_
  refine pw_getR d52_206 g52_38 T197 hA0 rfl rfl (fun t206 => ?_)
  have t206 : τ (ρ a0 13) = some 28 := t206
  refine pw_iconst d52_209 ?_
  refine pw_aload_n d52_210 rfl ?_
  refine pw_getR d52_211 g52_38 T197 hA0 rfl rfl (fun t211 => ?_)
  have t211 : τ (ρ a0 13) = some 28 := t211
  refine pw_alen d52_214 T197 t211 rfl (by decide) ?_
  refine pw_copyT d52_215 k52_72 T197 t201 t211 rfl rfl rfl rfl (by omega) (by omega) (fun h215 T215 F215 E215 => ?_)
  have f215 := f197.tr (F215.up (by decide))
  have q215 := ((F215 a0 2 hA0).1 0 (by decide)).1
  have q215b := ((F215 a0 2 hA0).1 1 (by decide)).1
  have q215c := ((F215 a0 2 hA0).1 2 (by decide)).1
  have q215d := ((F215 a0 2 hA0).1 3 (by decide)).1
  have q215e := ((F215 a0 2 hA0).1 4 (by decide)).1
  have q215f := ((F215 a0 2 hA0).1 14 (by decide)).1
  have q215g := ((F215 a0 2 hA0).1 15 (by decide)).1
  have q215h := ((F215 a1 2 hA1).1 0 (by decide)).1
  have q215i := ((F215 a1 2 hA1).1 1 (by decide)).1
  have q215j := ((F215 a1 2 hA1).1 2 (by decide)).1
  have q215k := ((F215 a1 2 hA1).1 3 (by decide)).1
  have q215l := ((F215 a1 2 hA1).1 4 (by decide)).1
  have q215m := ((F215 a1 2 hA1).1 14 (by decide)).1
  have q215n := ((F215 a1 2 hA1).1 15 (by decide)).1
  exact pw_return d52_218 tt52 ⟨T215, f215, rfl, (by omega)⟩

abbrev Q9 (τ : Nat → Option Nat) (ρ : Nat → Nat → Nat) (h : pv_H) (a0 : Nat) (x1 : Int) : Option Value → pv_H → Prop := fun r h' => pv_Ty τ ρ h' ∧ pv_Fr τ [64, 1983] h h' ∧ r = none ∧ (pv_fI h' a0 0 = pv_fI h a0 0 + 4)
set_option maxHeartbeats 4000000 in
set_option maxRecDepth 20000 in
/-- AngleNet$Tape.append(I)V -/
theorem ct9 {τ : Nat → Option Nat} {ρ : Nat → Nat → Nat} {K : Nat → Nat} {h : pv_H} {a0 : Nat} {x1 : Int} (hT : pv_Ty τ ρ h) (hA0 : τ a0 = some 1) (hX1 : (-2147483648) ≤ x1 ∧ x1 ≤ 2147483647) (hP0 : pv_fI h a0 0 ≤ 1596) : pv_C K 9 [.ref a0, .int (pv_I x1)] h (Q9 τ ρ h a0 x1) := by
  refine pw_entry 1 ?_
  show pv_T K 9 0 (pv_fl [some (.ref a0), some (.int (pv_I x1)), none]) [] h (Q9 τ ρ h a0 x1)
  have hF0 : pv_Fr τ [64, 1983] h h := pv_Fr.rf
  have L3 : ∀ (nn : Nat) (h_3 : pv_H) (xL2_3 : Int), (pv_Ty τ ρ h_3) → (pv_Fr τ [64, 1983] h h_3) → ((-2147483648) ≤ x1 ∧ x1 ≤ 2147483647) → ((-9) ≤ xL2_3 ∧ xL2_3 ≤ 24) → (8 * pv_fI h_3 a0 0 + xL2_3 = 8 * pv_fI h a0 0 + 24) → xL2_3 - (-9) < nn → pv_T K 9 3 (pv_fl [some (.ref a0), some (.int (pv_I x1)), some (.int (pv_I xL2_3))]) [] h_3 (Q9 τ ρ h a0 x1) := by
    intro nn
    induction nn with
    | zero => intro h_3 xL2_3 hT_3 hF_3 rL1_3 rL2_3 i0_3 hm; exfalso; omega
    | succ nn ih3 =>
      intro h_3 xL2_3 hT_3 hF_3 rL1_3 rL2_3 i0_3 hm3
      refine pw_iload_n d9_3 rfl ?_
      refine pw_if_lt d9_4 rfl (by omega) (fun c4 => ?_) (fun c4 => ?_)
      · exact pw_return d9_46 tt9 ⟨hT_3, hF_3, rfl, (by omega)⟩
      · refine pw_aload_n d9_7 rfl ?_
        refine pw_getI d9_8 g9_26 hT_3 hA0 rfl rfl (fun u8 vu8 => ?_)
        refine pw_sipush d9_11 (by decide) ?_
        refine pw_icmp_ge d9_14 rfl (by omega) (by omega) (fun c14 => ?_) (fun c14 => ?_)
        · exact pw_return d9_46 tt9 ⟨hT_3, hF_3, rfl, (by omega)⟩
        · refine pw_aload_n d9_17 rfl ?_
          refine pw_getR d9_18 g9_22 hT_3 hA0 rfl rfl (fun t18 => ?_)
          have t18 : τ (ρ a0 4) = some 30 := t18
          refine pw_aload_n d9_21 rfl ?_
          refine pw_getI d9_22 g9_26 hT_3 hA0 rfl rfl (fun u22 vu22 => ?_)
          refine pw_iload_n d9_25 rfl ?_
          refine pw_iload_n d9_26 rfl ?_
          refine pw_ishr d9_27 (fun z27 hz27 ez27 => ?_)
          refine pw_i2b d9_28 (fun z28 hz28 gz28 ez28 => ?_)
          refine pw_bastB d9_29 hT_3 t18 rfl rfl rfl (by omega) (by omega) (fun h29 T29 F29 E29 => ?_)
          have f29 := hF_3.tr (F29.up (by decide))
          have q29 := ((F29 a0 1 hA0).1 0 (by decide)).1
          refine pw_aload_n d9_30 rfl ?_
          refine pw_dup d9_31 rfl ?_
          refine pw_getI d9_32 g9_26 T29 hA0 rfl rfl (fun u32 vu32 => ?_)
          refine pw_iconst d9_35 ?_
          refine pw_iadd d9_36 ?_
          refine pw_putI d9_37 g9_26 w1_0 T29 hA0 rfl rfl rfl (by omega) (by omega) (fun h37 T37 F37 E37 => ?_)
          have f37 := f29.tr (F37.up (by decide))
          refine pw_iinc d9_40 m9 rfl rfl rfl ?_
          refine pw_goto d9_43 rfl ?_
          exact ih3 h37 ((xL2_3 + (-8))) T37 f37 (by omega) (by omega) (by omega) (by omega)
  refine pw_bipush d9_0 (by decide) ?_
  refine pw_istore_n d9_2 m9 rfl rfl ?_
  exact L3 _ h (24) hT hF0 (by omega) (by omega) (by omega) (pv_mu _)

abbrev Q17 (τ : Nat → Option Nat) (ρ : Nat → Nat → Nat) (h : pv_H) (x0 : Int) : Option Value → pv_H → Prop := fun r h' => h = h' ∧ ∃ z : Int, r = some (.int (pv_I z)) ∧ 0 ≤ z ∧ z ≤ 1
set_option maxHeartbeats 4000000 in
set_option maxRecDepth 20000 in
/-- AngleNet$Tape.isBlank(B)Z -/
theorem ct17 {τ : Nat → Option Nat} {ρ : Nat → Nat → Nat} {K : Nat → Nat} {h : pv_H} {x0 : Int} (hX0 : (-128) ≤ x0 ∧ x0 ≤ 127) : pv_C K 17 [.int (pv_I x0)] h (Q17 τ ρ h x0) := by
  refine pw_entry 0 ?_
  show pv_T K 17 0 (pv_fl [some (.int (pv_I x0))]) [] h (Q17 τ ρ h x0)
  refine pw_iload_n d17_0 rfl ?_
  refine pw_bipush d17_1 (by decide) ?_
  refine pw_icmp_eq d17_3 rfl (by omega) (by omega) (fun c3 => ?_) (fun c3 => ?_)
  · refine pw_iconst d17_12 ?_
    refine pw_goto d17_13 rfl ?_
    exact pw_zreturn d17_17 tt17 (by omega) ⟨rfl, 1, rfl, (by omega), (by omega)⟩
  · refine pw_iload_n d17_6 rfl ?_
    refine pw_bipush d17_7 (by decide) ?_
    refine pw_icmp_ne d17_9 rfl (by omega) (by omega) (fun c9 => ?_) (fun c9 => ?_)
    · refine pw_iconst d17_16 ?_
      exact pw_zreturn d17_17 tt17 (by omega) ⟨rfl, 0, rfl, (by omega), (by omega)⟩
    · refine pw_iconst d17_12 ?_
      refine pw_goto d17_13 rfl ?_
      exact pw_zreturn d17_17 tt17 (by omega) ⟨rfl, 1, rfl, (by omega), (by omega)⟩

abbrev Q18 (τ : Nat → Option Nat) (ρ : Nat → Nat → Nat) (h : pv_H) (x0 : Int) : Option Value → pv_H → Prop := fun r h' => h = h' ∧ ∃ z : Int, r = some (.int (pv_I z)) ∧ 1 ≤ z ∧ z ≤ 4
set_option maxHeartbeats 4000000 in
set_option maxRecDepth 20000 in
/-- AngleNet$Tape.kindOf(B)I -/
theorem ct18 {τ : Nat → Option Nat} {ρ : Nat → Nat → Nat} {K : Nat → Nat} {h : pv_H} {x0 : Int} (hX0 : (-128) ≤ x0 ∧ x0 ≤ 127) : pv_C K 18 [.int (pv_I x0)] h (Q18 τ ρ h x0) := by
  refine pw_entry 0 ?_
  show pv_T K 18 0 (pv_fl [some (.int (pv_I x0))]) [] h (Q18 τ ρ h x0)
  have J28 : ∀ (_ : Unit), ((-128) ≤ x0 ∧ x0 ≤ 127) → pv_T K 18 28 (pv_fl [some (.int (pv_I x0))]) [] h (Q18 τ ρ h x0) := by
    intro _ rL0_28
    refine pw_iload_n d18_28 rfl ?_
    refine pw_bipush d18_29 (by decide) ?_
    refine pw_icmp_ne d18_31 rfl (by omega) (by omega) (fun c31 => ?_) (fun c31 => ?_)
    · refine pw_iconst d18_38 ?_
      exact pw_ireturn d18_39 tt18 ⟨rfl, 4, rfl, (by omega), (by omega)⟩
    · refine pw_iconst d18_34 ?_
      refine pw_goto d18_35 rfl ?_
      exact pw_ireturn d18_39 tt18 ⟨rfl, 3, rfl, (by omega), (by omega)⟩
  have J14 : ∀ (_ : Unit), ((-128) ≤ x0 ∧ x0 ≤ 127) → pv_T K 18 14 (pv_fl [some (.int (pv_I x0))]) [] h (Q18 τ ρ h x0) := by
    intro _ rL0_14
    refine pw_iload_n d18_14 rfl ?_
    refine pw_bipush d18_15 (by decide) ?_
    refine pw_icmp_lt d18_17 rfl (by omega) (by omega) (fun c17 => ?_) (fun c17 => ?_)
    · exact J28 () (by omega)
    · refine pw_iload_n d18_20 rfl ?_
      refine pw_bipush d18_21 (by decide) ?_
      refine pw_icmp_gt d18_23 rfl (by omega) (by omega) (fun c23 => ?_) (fun c23 => ?_)
      · exact J28 () (by omega)
      · refine pw_iconst d18_26 ?_
        exact pw_ireturn d18_27 tt18 ⟨rfl, 2, rfl, (by omega), (by omega)⟩
  refine pw_iload_n d18_0 rfl ?_
  refine pw_bipush d18_1 (by decide) ?_
  refine pw_icmp_lt d18_3 rfl (by omega) (by omega) (fun c3 => ?_) (fun c3 => ?_)
  · exact J14 () (by omega)
  · refine pw_iload_n d18_6 rfl ?_
    refine pw_bipush d18_7 (by decide) ?_
    refine pw_icmp_gt d18_9 rfl (by omega) (by omega) (fun c9 => ?_) (fun c9 => ?_)
    · exact J14 () (by omega)
    · refine pw_iconst d18_12 ?_
      exact pw_ireturn d18_13 tt18 ⟨rfl, 1, rfl, (by omega), (by omega)⟩

abbrev Q16 (τ : Nat → Option Nat) (ρ : Nat → Nat → Nat) (h : pv_H) (a0 : Nat) : Option Value → pv_H → Prop := fun r h' => pv_Ty τ ρ h' ∧ pv_Fr τ [69, 70, 71] h h' ∧ r = none ∧ (pv_fI h' a0 7 = 0)
set_option maxHeartbeats 4000000 in
set_option maxRecDepth 20000 in
/-- AngleNet$Tape.advance()V -/
theorem ct16 {τ : Nat → Option Nat} {ρ : Nat → Nat → Nat} {K : Nat → Nat} {h : pv_H} {a0 : Nat} (hT : pv_Ty τ ρ h) (hA0 : τ a0 = some 1) (hP0 : pv_fI h a0 0 = 0) (hP1 : pv_fI h a0 6 = 0) : pv_C K 16 [.ref a0] h (Q16 τ ρ h a0) := by
  refine pw_entry 0 ?_
  show pv_T K 16 0 (pv_fl [some (.ref a0)]) [] h (Q16 τ ρ h a0)
  have hF0 : pv_Fr τ [69, 70, 71] h h := pv_Fr.rf
  have J47 : ∀ (h_47 : pv_H), (pv_Ty τ ρ h_47) → (pv_Fr τ [69, 70, 71] h h_47) → (pv_fI h_47 a0 0 = 0) → (pv_fI h_47 a0 5 = 0) → pv_T K 16 47 (pv_fl [some (.ref a0)]) [] h_47 (Q16 τ ρ h a0) := by
    intro h_47 hT_47 hF_47 i0_47 i1_47
    refine pw_aload_n d16_47 rfl ?_
    refine pw_getI d16_48 g16_52 hT_47 hA0 rfl rfl (fun u48 vu48 => ?_)
    refine pw_aload_n d16_51 rfl ?_
    refine pw_getI d16_52 g16_26 hT_47 hA0 rfl rfl (fun u52 vu52 => ?_)
    refine pw_icmp_lt d16_55 rfl (by omega) (by omega) (fun c55 => ?_) (fun c55 => ?_)
    · exfalso; omega
    · refine pw_aload_n d16_58 rfl ?_
      refine pw_iconst d16_59 ?_
      refine pw_putI d16_60 g16_45 w1_7 hT_47 hA0 rfl rfl rfl (by omega) (by omega) (fun h60 T60 F60 E60 => ?_)
      have f60 := hF_47.tr (F60.up (by decide))
      have q60 := ((F60 a0 1 hA0).1 0 (by decide)).1
      have q60b := ((F60 a0 1 hA0).1 5 (by decide)).1
      have q60c := ((F60 a0 1 hA0).1 6 (by decide)).1
      refine pw_aload_n d16_63 rfl ?_
      refine pw_aload_n d16_64 rfl ?_
      refine pw_getI d16_65 g16_52 T60 hA0 rfl rfl (fun u65 vu65 => ?_)
      refine pw_putI d16_68 g16_35 w1_6 T60 hA0 rfl rfl rfl (by omega) (by omega) (fun h68 T68 F68 E68 => ?_)
      have f68 := f60.tr (F68.up (by decide))
      have q68 := ((F68 a0 1 hA0).1 0 (by decide)).1
      have q68b := ((F68 a0 1 hA0).1 5 (by decide)).1
      have q68c := ((F68 a0 1 hA0).1 7 (by decide)).1
      exact pw_return d16_71 tt16 ⟨T68, f68, rfl, (by omega)⟩
  have L8 : ∀ (nn : Nat) (h_8 : pv_H), (pv_Ty τ ρ h_8) → (pv_Fr τ [69, 70, 71] h h_8) → (pv_fI h_8 a0 0 = 0) → (pv_fI h_8 a0 5 = 0) → (0 : Int) < nn → pv_T K 16 8 (pv_fl [some (.ref a0)]) [] h_8 (Q16 τ ρ h a0) := by
    intro nn
    induction nn with
    | zero => intro h_8 hT_8 hF_8 i0_8 i1_8 hm; exfalso; omega
    | succ nn ih8 =>
      intro h_8 hT_8 hF_8 i0_8 i1_8 hm8
      refine pw_aload_n d16_8 rfl ?_
      refine pw_getI d16_9 g16_52 hT_8 hA0 rfl rfl (fun u9 vu9 => ?_)
      refine pw_aload_n d16_12 rfl ?_
      refine pw_getI d16_13 g16_26 hT_8 hA0 rfl rfl (fun u13 vu13 => ?_)
      refine pw_icmp_ge d16_16 rfl (by omega) (by omega) (fun c16 => ?_) (fun c16 => ?_)
      · exact J47 h_8 hT_8 hF_8 (by omega) (by omega)
      · exfalso; omega
  refine pw_aload_n d16_0 rfl ?_
  refine pw_aload_n d16_1 rfl ?_
  refine pw_getI d16_2 g16_35 hT hA0 rfl rfl (fun u2 vu2 => ?_)
  refine pw_putI d16_5 g16_52 w1_5 hT hA0 rfl rfl rfl (by omega) (by omega) (fun h5 T5 F5 E5 => ?_)
  have f5 := hF0.tr (F5.up (by decide))
  have q5 := ((F5 a0 1 hA0).1 0 (by decide)).1
  have q5b := ((F5 a0 1 hA0).1 6 (by decide)).1
  exact L8 _ h5 T5 f5 (by omega) (by omega) (pv_mu _)

abbrev Q12 (τ : Nat → Option Nat) (ρ : Nat → Nat → Nat) (h : pv_H) (a0 : Nat) : Option Value → pv_H → Prop := fun r h' => pv_Ty τ ρ h' ∧ pv_Fr τ [65, 66, 69, 70, 71, 74, 128, 129, 130, 131, 132, 142, 143, 1471, 1535, 1599, 1663, 1727, 1791] h h' ∧ ∃ z : Int, r = some (.int (pv_I z)) ∧ 1 ≤ z ∧ z ≤ 1 ∧ (pv_fI h' (ρ a0 3) 2 = 0)
set_option maxHeartbeats 4000000 in
set_option maxRecDepth 20000 in
/-- AngleNet$Tape.readAll()Z -/
theorem ct12 {τ : Nat → Option Nat} {ρ : Nat → Nat → Nat} {K : Nat → Nat} {h : pv_H} {a0 : Nat} (hT : pv_Ty τ ρ h) (hA0 : τ a0 = some 1) (hP0 : pv_fI h a0 0 = 0) : pv_C K 12 [.ref a0] h (Q12 τ ρ h a0) := by
  refine pw_entry 1 ?_
  show pv_T K 12 0 (pv_fl [some (.ref a0), none]) [] h (Q12 τ ρ h a0)
  have hR0_3 : τ (ρ a0 3) = some 2 := hT.rf (t' := 2) hA0 rfl rfl
  have hF0 : pv_Fr τ [65, 66, 69, 70, 71, 74, 128, 129, 130, 131, 132, 142, 143, 1471, 1535, 1599, 1663, 1727, 1791] h h := pv_Fr.rf
  have L33 : ∀ (nn : Nat) (h_33 : pv_H) (xL1_33 : Int), (pv_Ty τ ρ h_33) → (pv_Fr τ [65, 66, 69, 70, 71, 74, 128, 129, 130, 131, 132, 142, 143, 1471, 1535, 1599, 1663, 1727, 1791] h h_33) → (0 ≤ xL1_33 ∧ xL1_33 ≤ 0) → (pv_fI h_33 a0 7 = 0) → (pv_fI h_33 (ρ a0 3) 2 = 0) → (0 : Int) < nn → pv_T K 12 33 (pv_fl [some (.ref a0), some (.int (pv_I xL1_33))]) [] h_33 (Q12 τ ρ h a0) := by
    intro nn
    induction nn with
    | zero => intro h_33 xL1_33 hT_33 hF_33 rL1_33 i0_33 i1_33 hm; exfalso; omega
    | succ nn ih33 =>
      intro h_33 xL1_33 hT_33 hF_33 rL1_33 i0_33 i1_33 hm33
      refine pw_iload_n d12_33 rfl ?_
      refine pw_sipush d12_34 (by decide) ?_
      refine pw_icmp_ge d12_37 rfl (by omega) (by omega) (fun c37 => ?_) (fun c37 => ?_)
      · exfalso; omega
      · refine pw_aload_n d12_40 rfl ?_
        refine pw_getI d12_41 g12_45 hT_33 hA0 rfl rfl (fun u41 vu41 => ?_)
        refine pw_if_eq d12_44 rfl (by omega) (fun c44 => ?_) (fun c44 => ?_)
        · refine pw_iconst d12_97 ?_
          exact pw_zreturn d12_98 tt12 (by omega) ⟨hT_33, hF_33, 1, rfl, (by omega), (by omega), (by omega)⟩
        · exfalso; omega
  refine pw_aload_n d12_0 rfl ?_
  refine pw_getR d12_1 g12_18 hT hA0 rfl rfl (fun t1 => ?_)
  have t1 : τ (ρ a0 3) = some 2 := t1
  refine pw_callV0 d12_4 k12_29 hT t1 rfl rfl rfl (ct13 (τ := τ) (ρ := ρ) hT t1) (fun r4 h4 q4 => ?_)
  obtain ⟨T4, F4, ez4, pz4_0⟩ := q4
  subst ez4
  have f4 := hF0.tr (F4.up (by decide))
  have q4b := ((F4 a0 1 hA0).1 0 (by decide)).1
  have q4c := ((F4 a0 1 hA0).1 6 (by decide)).1
  have q4d := ((F4 a0 1 hA0).1 7 (by decide)).1
  refine pw_aload_n d12_7 rfl ?_
  refine pw_iconst d12_8 ?_
  refine pw_putI d12_9 g12_32 w1_1 T4 hA0 rfl rfl rfl (by omega) (by omega) (fun h9 T9 F9 E9 => ?_)
  have f9 := f4.tr (F9.up (by decide))
  have q9 := ((F9 (ρ a0 3) 2 t1).1 2 (by decide)).1
  have q9b := ((F9 a0 1 hA0).1 0 (by decide)).1
  have q9c := ((F9 a0 1 hA0).1 6 (by decide)).1
  have q9d := ((F9 a0 1 hA0).1 7 (by decide)).1
  refine pw_aload_n d12_12 rfl ?_
  refine pw_iconst d12_13 ?_
  refine pw_putI d12_14 g12_9 w1_2 T9 hA0 rfl rfl rfl (by omega) (by omega) (fun h14 T14 F14 E14 => ?_)
  have f14 := f9.tr (F14.up (by decide))
  have q14 := ((F14 (ρ a0 3) 2 t1).1 2 (by decide)).1
  have q14b := ((F14 a0 1 hA0).1 0 (by decide)).1
  have q14c := ((F14 a0 1 hA0).1 1 (by decide)).1
  have q14d := ((F14 a0 1 hA0).1 6 (by decide)).1
  have q14e := ((F14 a0 1 hA0).1 7 (by decide)).1
  refine pw_aload_n d12_17 rfl ?_
  refine pw_iconst d12_18 ?_
  refine pw_putI d12_19 g12_35 w1_6 T14 hA0 rfl rfl rfl (by omega) (by omega) (fun h19 T19 F19 E19 => ?_)
  have f19 := f14.tr (F19.up (by decide))
  have q19 := ((F19 (ρ a0 3) 2 t1).1 2 (by decide)).1
  have q19b := ((F19 a0 1 hA0).1 0 (by decide)).1
  have q19c := ((F19 a0 1 hA0).1 1 (by decide)).1
  have q19d := ((F19 a0 1 hA0).1 2 (by decide)).1
  have q19e := ((F19 a0 1 hA0).1 7 (by decide)).1
  refine pw_aload_n d12_22 rfl ?_
  refine pw_iconst d12_23 ?_
  refine pw_putZ d12_24 g12_38 w1_10 T19 hA0 rfl rfl rfl (by omega) (by omega) (fun h24 T24 F24 E24 => ?_)
  have f24 := f19.tr (F24.up (by decide))
  have q24 := ((F24 (ρ a0 3) 2 t1).1 2 (by decide)).1
  have q24b := ((F24 a0 1 hA0).1 0 (by decide)).1
  have q24c := ((F24 a0 1 hA0).1 1 (by decide)).1
  have q24d := ((F24 a0 1 hA0).1 2 (by decide)).1
  have q24e := ((F24 a0 1 hA0).1 6 (by decide)).1
  have q24f := ((F24 a0 1 hA0).1 7 (by decide)).1
  refine pw_aload_n d12_27 rfl ?_
  refine pw_callV0 d12_28 k12_42 T24 hA0 rfl rfl rfl (ct16 (τ := τ) (ρ := ρ) T24 hA0 (by first | assumption | omega) (by first | assumption | omega)) (fun r28 h28 q28 => ?_)
  obtain ⟨T28, F28, ez28, pz28_0⟩ := q28
  subst ez28
  have f28 := f24.tr (F28.up (by decide))
  have q28b := ((F28 (ρ a0 3) 2 t1).1 2 (by decide)).1
  have q28c := ((F28 a0 1 hA0).1 0 (by decide)).1
  have q28d := ((F28 a0 1 hA0).1 1 (by decide)).1
  have q28e := ((F28 a0 1 hA0).1 2 (by decide)).1
  have q28f := ((F28 a0 1 hA0).1 10 (by decide)).1
  refine pw_iconst d12_31 ?_
  refine pw_istore_n d12_32 m12 rfl rfl ?_
  exact L33 _ h28 (0) T28 f28 (by omega) (by omega) (by omega) (pv_mu _)
