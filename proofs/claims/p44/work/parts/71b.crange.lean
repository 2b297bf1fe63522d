abbrev Q256F (τ : Nat → Option Nat) (ρ : Nat → Nat → Nat) (h : pv_H) (a0 : Nat) (x1 : Int) (x2 : Int) : Option Value → pv_H → Prop := fun r h' => pv_Ty τ ρ h' ∧ pv_Fr τ [3071, 3135] h h' ∧ ∃ z : Int, r = some (.int (pv_I z)) ∧ 0 ≤ z ∧ z ≤ 1 ∧ ((z = 1 ∧ pl_v (pv_aI h (ρ a0 1)) x1 x2) ∨ (z = 0 ∧ ¬ pl_v (pv_aI h (ρ a0 1)) x1 x2))
set_option maxHeartbeats 4000000 in
set_option maxRecDepth 20000 in
/-- AngleNetModel.canBe(II)Z -/
theorem ct256F {τ : Nat → Option Nat} {ρ : Nat → Nat → Nat} {K : Nat → Nat} {h : pv_H} {a0 : Nat} {x1 : Int} {x2 : Int} (hT : pv_Ty τ ρ h) (hA0 : τ a0 = some 7) (hX1 : 0 ≤ x1 ∧ x1 ≤ 53) (hX2 : 0 ≤ x2 ∧ x2 ≤ 360) (hP0 : x1 < 3 * pv_aI h (ρ a0 1) (1 : Int).toNat) : pv_C K 256 [.ref a0, .int (pv_I x1), .int (pv_I x2)] h (Q256F τ ρ h a0 x1 x2) := by
  refine pw_entry 0 ?_
  show pv_T K 256 0 (pv_fl [some (.ref a0), some (.int (pv_I x1)), some (.int (pv_I x2))]) [] h (Q256F τ ρ h a0 x1 x2)
  have hR0_1 : τ (ρ a0 1) = some 40 := hT.rf (t' := 40) hA0 rfl rfl
  have hR0_16 : τ (ρ a0 16) = some 47 := hT.rf (t' := 47) hA0 rfl rfl
  have hR0_17 : τ (ρ a0 17) = some 48 := hT.rf (t' := 48) hA0 rfl rfl
  have hF0 : pv_Fr τ [3071, 3135] h h := pv_Fr.rf
  have hw0 : pv_aI h (ρ a0 1) (0 : Int).toNat ≤ 10 := (hT.wc hR0_1 (j := 0) rfl (by decide)).2.1 (by decide) |>.2
  have hw3 : 0 ≤ pv_aI h (ρ a0 1) (3 : Int).toNat ∧ pv_aI h (ρ a0 1) (3 : Int).toNat ≤ 360 := (hT.wc hR0_1 (j := 3) rfl (by decide)).2.2.2.1 (by decide)
  have hw4 : 0 ≤ pv_aI h (ρ a0 1) (4 : Int).toNat ∧ pv_aI h (ρ a0 1) (4 : Int).toNat ≤ 360 := (hT.wc hR0_1 (j := 4) rfl (by decide)).2.2.2.2.1 (by decide)
  refine pw_aload_n d256_0 rfl ?_
  refine pw_callV0 d256_1 k256_320 hT hA0 rfl rfl rfl (ct248F (τ := τ) (ρ := ρ) hT hA0) (fun r1 h1 q1 => ?_)
  obtain ⟨T1, F1, ez1, pz1_0⟩ := q1
  subst ez1
  have f1 := hF0.tr (F1.up (by decide))
  refine pw_aload_n d256_4 rfl ?_
  refine pw_getR d256_5 g256_37 T1 hA0 rfl rfl (fun t5 => ?_)
  have t5 : τ (ρ a0 16) = some 47 := t5
  refine pw_iload_n d256_8 rfl ?_
  refine pw_iload_n d256_9 rfl ?_
  refine pw_iast d256_10 T1 t5 rfl rfl rfl (by omega) (by omega) (by omega) (by omega) (fun h10 T10 F10 E10 => ?_)
  have f10 := f1.tr (F10.up (by decide))
  refine pw_aload_n d256_11 rfl ?_
  refine pw_getR d256_12 g256_40 T10 hA0 rfl rfl (fun t12 => ?_)
  have t12 : τ (ρ a0 17) = some 48 := t12
  refine pw_iload_n d256_15 rfl ?_
  refine pw_iload_n d256_16 rfl ?_
  refine pw_iast d256_17 T10 t12 rfl rfl rfl (by omega) (by omega) (by omega) (by omega) (fun h17 T17 F17 E17 => ?_)
  have f17 := f10.tr (F17.up (by decide))
  have ew18 : pv_aI h17 (ρ a0 1) = pv_aI h (ρ a0 1) := f17.aeq hR0_1 (by decide)
  have el18 : ∀ j, pv_aI h17 (ρ a0 16) j = if j = (x1).toNat then x2 else pv_aI h1 (ρ a0 16) j := by rw [F17.aeq hR0_16 (by decide)]; exact pe_at E10
  have eh18 : ∀ j, pv_aI h17 (ρ a0 17) j = if j = (x1).toNat then x2 else pv_aI h1 (ρ a0 17) j := by rw [← F10.aeq hR0_17 (by decide)]; exact pe_at E17
  have hb18 : pl_b (pv_aI h17 (ρ a0 1)) (pv_aI h17 (ρ a0 16)) (pv_aI h17 (ρ a0 17)) := by rw [ew18]; exact cb_b pz1_0 (by omega) (by omega) hw3 hw4 el18 eh18
  refine pw_aload_n d256_18 rfl ?_
  refine pw_callV0 d256_19 k256_323 T17 hA0 rfl rfl rfl (ct249F (τ := τ) (ρ := ρ) T17 hA0 (by first | assumption | omega)) (fun r19 h19 q19 => ?_)
  obtain ⟨eh19, z19, ez19, lz19, uz19, pz19_0⟩ := q19
  subst eh19
  subst ez19
  exact pw_zreturn d256_22 tt256 (by omega) ⟨T17, f17, z19, rfl, (by omega), (by omega), (by exact cb_post hw0 pz1_0 el18 eh18 ew18 pz19_0)⟩

abbrev Q255 (τ : Nat → Option Nat) (ρ : Nat → Nat → Nat) (h : pv_H) (a0 : Nat) (x1 : Int) (x2 : Int) (x3 : Int) : Option Value → pv_H → Prop := fun r h' => pv_Ty τ ρ h' ∧ pv_Fr τ [3071, 3135] h h' ∧ ∃ z : Int, r = some (.int (pv_I z)) ∧ (-2) ≤ z ∧ z ≤ 360
set_option maxHeartbeats 4000000 in
set_option maxRecDepth 20000 in
/-- AngleNetModel.range(III)I -/
theorem ct255 {τ : Nat → Option Nat} {ρ : Nat → Nat → Nat} {K : Nat → Nat} {h : pv_H} {a0 : Nat} {x1 : Int} {x2 : Int} {x3 : Int} (hT : pv_Ty τ ρ h) (hA0 : τ a0 = some 7) (hX1 : (-2147483648) ≤ x1 ∧ x1 ≤ 2147483647) (hX2 : (-2147483648) ≤ x2 ∧ x2 ≤ 2147483647) (hX3 : (-2147483648) ≤ x3 ∧ x3 ≤ 2147483647) : pv_C K 255 [.ref a0, .int (pv_I x1), .int (pv_I x2), .int (pv_I x3)] h (Q255 τ ρ h a0 x1 x2 x3) := by
  refine pw_entry 1 ?_
  show pv_T K 255 0 (pv_fl [some (.ref a0), some (.int (pv_I x1)), some (.int (pv_I x2)), some (.int (pv_I x3)), none]) [] h (Q255 τ ρ h a0 x1 x2 x3)
  have hR0_1 : τ (ρ a0 1) = some 40 := hT.rf (t' := 40) hA0 rfl rfl
  have hR0_16 : τ (ρ a0 16) = some 47 := hT.rf (t' := 47) hA0 rfl rfl
  have hR0_17 : τ (ρ a0 17) = some 48 := hT.rf (t' := 48) hA0 rfl rfl
  have hF0 : pv_Fr τ [3071, 3135] h h := pv_Fr.rf
  have L67 : ∀ (nn : Nat) (h_67 : pv_H) (xL4_67 : Int), (pv_Ty τ ρ h_67) → (pv_Fr τ [3071, 3135] h h_67) → (0 ≤ x1 ∧ x1 ≤ 17) → (0 ≤ x2 ∧ x2 ≤ 2) → (0 ≤ x3 ∧ x3 ≤ 1) → (0 ≤ xL4_67 ∧ xL4_67 ≤ 360) → (∃ v : Int, pv_aI h (ρ a0 1) (3 : Int).toNat ≤ v ∧ v ≤ pv_aI h (ρ a0 1) (4 : Int).toNat ∧ pl_v (pv_aI h (ρ a0 1)) (3 * x1 + x2) v ∧ (x3 = 0 → xL4_67 ≤ v) ∧ (x3 = 1 → v ≤ xL4_67)) → (pv_aI h (ρ a0 1) (3 : Int).toNat ≤ xL4_67 ∧ xL4_67 ≤ pv_aI h (ρ a0 1) (4 : Int).toNat) → (0 ≤ x1 ∧ x1 ≤ 17 ∧ x1 < pv_aI h (ρ a0 1) (1 : Int).toNat ∧ 0 ≤ x2 ∧ x2 ≤ 2 ∧ 0 ≤ x3 ∧ x3 ≤ 1) → (if x3 = 0 then 360 - xL4_67 else xL4_67) < nn → pv_T K 255 67 (pv_fl [some (.ref a0), some (.int (pv_I x1)), some (.int (pv_I x2)), some (.int (pv_I x3)), some (.int (pv_I xL4_67))]) [] h_67 (Q255 τ ρ h a0 x1 x2 x3) := by
    intro nn
    induction nn with
    | zero => intro h_67 xL4_67 hT_67 hF_67 rL1_67 rL2_67 rL3_67 rL4_67 i0_67 i1_67 i2_67 hm; exfalso; omega
    | succ nn ih67 =>
      intro h_67 xL4_67 hT_67 hF_67 rL1_67 rL2_67 rL3_67 rL4_67 i0_67 i1_67 i2_67 hm67
      have J92 : ∀ (h_92 : pv_H) (xS0_92 : Int) (o4_92 : Option Value), (pv_Ty τ ρ h_92) → (pv_Fr τ [3071, 3135] h h_92) → (0 ≤ x1 ∧ x1 ≤ 17) → (0 ≤ x2 ∧ x2 ≤ 2) → (0 ≤ x3 ∧ x3 ≤ 1) → ((-1) ≤ xS0_92 ∧ xS0_92 ≤ 1) → (0 ≤ xL4_67 ∧ xL4_67 ≤ 360) → ((xS0_92 = 1 ∧ x3 = 0) ∨ (xS0_92 = -1 ∧ x3 = 1)) → (xL4_67 = xL4_67) → (¬ pl_v (pv_aI h (ρ a0 1)) (3 * x1 + x2) xL4_67) → pv_T K 255 92 (pv_fl [some (.ref a0), some (.int (pv_I x1)), some (.int (pv_I x2)), some (.int (pv_I x3)), o4_92]) [.int (pv_I xS0_92), .int (pv_I xL4_67)] h_92 (Q255 τ ρ h a0 x1 x2 x3) := by
        intro h_92 xS0_92 o4_92 hT_92 hF_92 rL1_92 rL2_92 rL3_92 rS0_92 rS1_92 i0_92 i1_92 i2_92
        have q92 := rg_in (rg_step i0_67 i2_92 i0_92 i1_92)
        have hw3 : 0 ≤ pv_aI h (ρ a0 1) (3 : Int).toNat ∧ pv_aI h (ρ a0 1) (3 : Int).toNat ≤ 360 := (hT.wc hR0_1 (j := 3) rfl (by decide)).2.2.2.1 (by decide)
        have hw4 : 0 ≤ pv_aI h (ρ a0 1) (4 : Int).toNat ∧ pv_aI h (ρ a0 1) (4 : Int).toNat ≤ 360 := (hT.wc hR0_1 (j := 4) rfl (by decide)).2.2.2.2.1 (by decide)
        refine pw_iadd d255_92 ?_
        refine pw_istore d255_93 m255 rfl rfl ?_
        refine pw_goto d255_95 rfl ?_
        exact ih67 h_92 ((xL4_67 + xS0_92)) hT_92 hF_92 (by omega) (by omega) (by omega) (by omega) (by first | exact rg_0 i0_65 i1_65 | exact rg_step i0_67 i2_92 i0_92 i1_92) (by first | (have q := rg_in (rg_0 i0_65 i1_65); obtain ⟨v, v1, v2, v3⟩ := i0_65; omega) | (have q := rg_in (rg_step i0_67 i2_92 i0_92 i1_92); omega)) (by omega) (by omega)
      have ew67 : pv_aI h_67 (ρ a0 1) = pv_aI h (ρ a0 1) := hF_67.aeq hR0_1 (by decide)
      have ew671 := congrFun ew67 (1 : Int).toNat
      refine pw_aload_n d255_67 rfl ?_
      refine pw_iconst d255_68 ?_
      refine pw_iload_n d255_69 rfl ?_
      refine pw_imul d255_70 ?_
      refine pw_iload_n d255_71 rfl ?_
      refine pw_iadd d255_72 ?_
      refine pw_iload d255_73 rfl ?_
      refine pw_callV2 d255_75 k255_329 hT_67 hA0 rfl rfl rfl (ct256F (τ := τ) (ρ := ρ) hT_67 hA0 (by omega) (by omega) (by first | assumption | omega)) (fun r75 h75 q75 => ?_)
      obtain ⟨T75, F75, z75, ez75, lz75, uz75, pz75_0⟩ := q75
      subst ez75
      have f75 := hF_67.tr (F75.up (by decide))
      refine pw_if_ne d255_78 rfl (by omega) (fun c78 => ?_) (fun c78 => ?_)
      · refine pw_iload d255_98 rfl ?_
        exact pw_ireturn d255_100 tt255 ⟨T75, f75, xL4_67, rfl, (by omega), (by omega)⟩
      · refine pw_iload d255_81 rfl ?_
        refine pw_iload_n d255_83 rfl ?_
        refine pw_if_ne d255_84 rfl (by omega) (fun c84 => ?_) (fun c84 => ?_)
        · refine pw_iconst d255_91 ?_
          exact J92 h75 ((-1)) _ T75 f75 (by omega) (by omega) (by omega) (by omega) (by omega) (by first | exact Or.inl ⟨rfl, by omega⟩ | exact Or.inr ⟨rfl, by omega⟩) (by first | rfl | omega) (by rw [← ew67]; rcases pz75_0 with q | q; (exfalso; omega); exact q.2)
        · refine pw_iconst d255_87 ?_
          refine pw_goto d255_88 rfl ?_
          exact J92 h75 (1) _ T75 f75 (by omega) (by omega) (by omega) (by omega) (by omega) (by first | exact Or.inl ⟨rfl, by omega⟩ | exact Or.inr ⟨rfl, by omega⟩) (by first | rfl | omega) (by rw [← ew67]; rcases pz75_0 with q | q; (exfalso; omega); exact q.2)
  have J65 : ∀ (h_65 : pv_H) (xS0_65 : Int) (o4_65 : Option Value), (pv_Ty τ ρ h_65) → (pv_Fr τ [3071, 3135] h h_65) → (0 ≤ x1 ∧ x1 ≤ 17) → (0 ≤ x2 ∧ x2 ≤ 2) → (0 ≤ x3 ∧ x3 ≤ 1) → (0 ≤ xS0_65 ∧ xS0_65 ≤ 360) → (∃ v : Int, pv_aI h (ρ a0 1) (3 : Int).toNat ≤ v ∧ v ≤ pv_aI h (ρ a0 1) (4 : Int).toNat ∧ pl_v (pv_aI h (ρ a0 1)) (3 * x1 + x2) v) → ((xS0_65 = pv_aI h (ρ a0 1) (3 : Int).toNat ∧ x3 = 0) ∨ (xS0_65 = pv_aI h (ρ a0 1) (4 : Int).toNat ∧ x3 = 1)) → (0 ≤ x1 ∧ x1 ≤ 17 ∧ x1 < pv_aI h (ρ a0 1) (1 : Int).toNat ∧ 0 ≤ x2 ∧ x2 ≤ 2 ∧ 0 ≤ x3 ∧ x3 ≤ 1) → pv_T K 255 65 (pv_fl [some (.ref a0), some (.int (pv_I x1)), some (.int (pv_I x2)), some (.int (pv_I x3)), o4_65]) [.int (pv_I xS0_65)] h_65 (Q255 τ ρ h a0 x1 x2 x3) := by
    intro h_65 xS0_65 o4_65 hT_65 hF_65 rL1_65 rL2_65 rL3_65 rS0_65 i0_65 i1_65 i2_65
    refine pw_istore d255_65 m255 rfl rfl ?_
    exact L67 _ h_65 (xS0_65) hT_65 hF_65 (by omega) (by omega) (by omega) (by omega) (by first | exact rg_0 i0_65 i1_65 | exact rg_step i0_67 i2_92 i0_92 i1_92) (by first | (have q := rg_in (rg_0 i0_65 i1_65); obtain ⟨v, v1, v2, v3⟩ := i0_65; omega) | (have q := rg_in (rg_step i0_67 i2_92 i0_92 i1_92); omega)) (by omega) (pv_mu _)
  refine pw_aload_n d255_0 rfl ?_
  refine pw_iload_n d255_1 rfl ?_
  refine pw_callV1 d255_2 k255_225 hT hA0 rfl rfl rfl (ct211 (τ := τ) (ρ := ρ) hT hA0 (by omega)) (fun r2 h2 q2 => ?_)
  obtain ⟨eh2, z2, ez2, lz2, uz2, pz2_0⟩ := q2
  subst eh2
  subst ez2
  refine pw_if_eq d255_5 rfl (by omega) (fun c5 => ?_) (fun c5 => ?_)
  · refine pw_bipush d255_30 (by decide) ?_
    exact pw_ireturn d255_32 tt255 ⟨hT, hF0, (-2), rfl, (by omega), (by omega)⟩
  · refine pw_iload_n d255_8 rfl ?_
    refine pw_i2l d255_9 (by omega) ?_
    refine pw_lconst (z := 0) d255_10 (by decide) ?_
    refine pw_ldc2 (v := pv_J 2) d255_11 n255_11 ?_
    refine pw_callS3 d255_14 k255_73 rfl rfl (ct184 (τ := τ) (ρ := ρ) (by omega) (by omega) (by omega)) (fun r14 h14 q14 => ?_)
    obtain ⟨eh14, z14, ez14, lz14, uz14, pz14_0⟩ := q14
    subst eh14
    subst ez14
    refine pw_if_eq d255_17 rfl (by omega) (fun c17 => ?_) (fun c17 => ?_)
    · refine pw_bipush d255_30 (by decide) ?_
      exact pw_ireturn d255_32 tt255 ⟨hT, hF0, (-2), rfl, (by omega), (by omega)⟩
    · refine pw_iload_n d255_20 rfl ?_
      refine pw_i2l d255_21 (by omega) ?_
      refine pw_lconst (z := 0) d255_22 (by decide) ?_
      refine pw_lconst (z := 1) d255_23 (by decide) ?_
      refine pw_callS3 d255_24 k255_73 rfl rfl (ct184 (τ := τ) (ρ := ρ) (by omega) (by omega) (by omega)) (fun r24 h24 q24 => ?_)
      obtain ⟨eh24, z24, ez24, lz24, uz24, pz24_0⟩ := q24
      subst eh24
      subst ez24
      refine pw_if_ne d255_27 rfl (by omega) (fun c27 => ?_) (fun c27 => ?_)
      · refine pw_aload_n d255_33 rfl ?_
        refine pw_callV0 d255_34 k255_320 hT hA0 rfl rfl rfl (ct248F (τ := τ) (ρ := ρ) hT hA0) (fun r34 h34 q34 => ?_)
        obtain ⟨T34, F34, ez34, pz34_0⟩ := q34
        subst ez34
        have f34 := hF0.tr (F34.up (by decide))
        have ew37 : pv_aI h34 (ρ a0 1) = pv_aI h (ρ a0 1) := f34.aeq hR0_1 (by decide)
        have hw3 : 0 ≤ pv_aI h (ρ a0 1) (3 : Int).toNat ∧ pv_aI h (ρ a0 1) (3 : Int).toNat ≤ 360 := (hT.wc hR0_1 (j := 3) rfl (by decide)).2.2.2.1 (by decide)
        have hw4 : 0 ≤ pv_aI h (ρ a0 1) (4 : Int).toNat ∧ pv_aI h (ρ a0 1) (4 : Int).toNat ≤ 360 := (hT.wc hR0_1 (j := 4) rfl (by decide)).2.2.2.2.1 (by decide)
        have hb37 : pl_b (pv_aI h34 (ρ a0 1)) (pv_aI h34 (ρ a0 16)) (pv_aI h34 (ρ a0 17)) := by rw [ew37]; intro c hc; rw [(pz34_0 c hc).1, (pz34_0 c hc).2]; exact ⟨hw3, hw4⟩
        refine pw_aload_n d255_37 rfl ?_
        refine pw_callV0 d255_38 k255_323 T34 hA0 rfl rfl rfl (ct249F (τ := τ) (ρ := ρ) T34 hA0 (by first | assumption | omega)) (fun r38 h38 q38 => ?_)
        obtain ⟨eh38, z38, ez38, lz38, uz38, pz38_0⟩ := q38
        subst eh38
        subst ez38
        refine pw_if_ne d255_41 rfl (by omega) (fun c41 => ?_) (fun c41 => ?_)
        · have hw0 : pv_aI h (ρ a0 1) (0 : Int).toNat ≤ 10 := (hT.wc hR0_1 (j := 0) rfl (by decide)).2.1 (by decide) |>.2
          have ex46 : ∃ v : Int, pv_aI h (ρ a0 1) (3 : Int).toNat ≤ v ∧ v ≤ pv_aI h (ρ a0 1) (4 : Int).toNat ∧ pl_v (pv_aI h (ρ a0 1)) (3 * x1 + x2) v := rg_ex hw0 pz34_0 ew37 pz38_0 (by omega) (by omega) (by omega)
          refine pw_iload_n d255_46 rfl ?_
          refine pw_if_ne d255_47 rfl (by omega) (fun c47 => ?_) (fun c47 => ?_)
          · refine pw_aload_n d255_59 rfl ?_
            refine pw_getR d255_60 g255_9 T34 hA0 rfl rfl (fun t60 => ?_)
            have t60 : τ (ρ a0 1) = some 40 := t60
            refine pw_iconst d255_63 ?_
            refine pw_ialdB d255_64 T34 t60 rfl rfl (by omega) (by omega) (fun u64 => ?_)
            have u64 : pv_wok ((4 : Int)) (pv_aI h34 (ρ a0 1) ((4 : Int)).toNat) := u64
            have vu64 := u64.2.2.2.2.1 (by omega)
            exact J65 h34 ((pv_aI h34 (ρ a0 1) ((4 : Int)).toNat)) _ T34 f34 (by omega) (by omega) (by omega) (by omega) (by exact ex46) (by first | exact Or.inl ⟨by rw [ew37], by omega⟩ | exact Or.inr ⟨by rw [ew37], by omega⟩) (by omega)
          · refine pw_aload_n d255_50 rfl ?_
            refine pw_getR d255_51 g255_9 T34 hA0 rfl rfl (fun t51 => ?_)
            have t51 : τ (ρ a0 1) = some 40 := t51
            refine pw_iconst d255_54 ?_
            refine pw_ialdB d255_55 T34 t51 rfl rfl (by omega) (by omega) (fun u55 => ?_)
            have u55 : pv_wok ((3 : Int)) (pv_aI h34 (ρ a0 1) ((3 : Int)).toNat) := u55
            have vu55 := u55.2.2.2.1 (by omega)
            refine pw_goto d255_56 rfl ?_
            exact J65 h34 ((pv_aI h34 (ρ a0 1) ((3 : Int)).toNat)) _ T34 f34 (by omega) (by omega) (by omega) (by omega) (by exact ex46) (by first | exact Or.inl ⟨by rw [ew37], by omega⟩ | exact Or.inr ⟨by rw [ew37], by omega⟩) (by omega)
        · refine pw_iconst d255_44 ?_
          exact pw_ireturn d255_45 tt255 ⟨T34, f34, (-1), rfl, (by omega), (by omega)⟩
      · refine pw_bipush d255_30 (by decide) ?_
        exact pw_ireturn d255_32 tt255 ⟨hT, hF0, (-2), rfl, (by omega), (by omega)⟩
