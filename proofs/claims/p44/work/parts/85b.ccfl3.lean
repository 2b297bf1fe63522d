abbrev Q121 (τ : Nat → Option Nat) (ρ : Nat → Nat → Nat) (h : pv_H) (a0 : Nat) (x1 : Int) (x2 : Int) (x3 : Int) (x4 : Int) : Option Value → pv_H → Prop := fun r h' => h = h' ∧ ∃ z : Int, r = some (.int (pv_I z)) ∧ 0 ≤ z ∧ z ≤ 1
set_option maxHeartbeats 4000000 in
set_option maxRecDepth 20000 in
/-- AngleNet$Flips.isKeen(LAngleNet$Net;IIII)Z -/
theorem ct121 {τ : Nat → Option Nat} {ρ : Nat → Nat → Nat} {K : Nat → Nat} {h : pv_H} {a0 : Nat} {x1 : Int} {x2 : Int} {x3 : Int} {x4 : Int} (hT : pv_Ty τ ρ h) (hA0 : τ a0 = some 2) (hX1 : 0 ≤ x1 ∧ x1 ≤ 9) (hX2 : 0 ≤ x2 ∧ x2 ≤ 9) (hX3 : 0 ≤ x3 ∧ x3 ≤ 9) (hX4 : 0 ≤ x4 ∧ x4 ≤ 9) : pv_C K 121 [.ref a0, .int (pv_I x1), .int (pv_I x2), .int (pv_I x3), .int (pv_I x4)] h (Q121 τ ρ h a0 x1 x2 x3 x4) := by
  refine pw_entry 1 ?_
  show pv_T K 121 0 (pv_fl [some (.ref a0), some (.int (pv_I x1)), some (.int (pv_I x2)), some (.int (pv_I x3)), some (.int (pv_I x4)), none]) [] h (Q121 τ ρ h a0 x1 x2 x3 x4)
  refine pw_aload_n d121_0 rfl ?_
  refine pw_iload_n d121_1 rfl ?_
  refine pw_iload_n d121_2 rfl ?_
  refine pw_iload_n d121_3 rfl ?_
  refine pw_callS4 d121_4 k121_51 rfl rfl (ct113 (τ := τ) (ρ := ρ) hT hA0 (by omega) (by omega) (by omega)) (fun r4 h4 q4 => ?_)
  obtain ⟨eh4, z4, ez4, lz4, uz4⟩ := q4
  subst eh4
  subst ez4
  refine pw_i2l d121_7 (by omega) ?_
  refine pw_callS1 d121_8 k121_55 rfl rfl (ct117 (τ := τ) (ρ := ρ) (by omega)) (fun r8 h8 q8 => ?_)
  obtain ⟨eh8, z8, ez8, lz8, uz8⟩ := q8
  subst eh8
  subst ez8
  refine pw_istore d121_11 m121 rfl rfl ?_
  refine pw_iload d121_13 rfl ?_
  refine pw_if_eq d121_15 rfl (by omega) (fun c15 => ?_) (fun c15 => ?_)
  · refine pw_iconst d121_73 ?_
    exact pw_zreturn d121_74 tt121 (by omega) ⟨rfl, 0, rfl, (by omega), (by omega)⟩
  · refine pw_aload_n d121_18 rfl ?_
    refine pw_iload_n d121_19 rfl ?_
    refine pw_iload_n d121_20 rfl ?_
    refine pw_iload d121_21 rfl ?_
    refine pw_callS4 d121_23 k121_51 rfl rfl (ct113 (τ := τ) (ρ := ρ) hT hA0 (by omega) (by omega) (by omega)) (fun r23 h23 q23 => ?_)
    obtain ⟨eh23, z23, ez23, lz23, uz23⟩ := q23
    subst eh23
    subst ez23
    refine pw_i2l d121_26 (by omega) ?_
    refine pw_callS1 d121_27 k121_55 rfl rfl (ct117 (τ := τ) (ρ := ρ) (by omega)) (fun r27 h27 q27 => ?_)
    obtain ⟨eh27, z27, ez27, lz27, uz27⟩ := q27
    subst eh27
    subst ez27
    refine pw_iload d121_30 rfl ?_
    refine pw_icmp_ne d121_32 rfl (by omega) (by omega) (fun c32 => ?_) (fun c32 => ?_)
    · refine pw_iconst d121_73 ?_
      exact pw_zreturn d121_74 tt121 (by omega) ⟨rfl, 0, rfl, (by omega), (by omega)⟩
    · refine pw_aload_n d121_35 rfl ?_
      refine pw_iload_n d121_36 rfl ?_
      refine pw_iload d121_37 rfl ?_
      refine pw_iload_n d121_39 rfl ?_
      refine pw_callS4 d121_40 k121_51 rfl rfl (ct113 (τ := τ) (ρ := ρ) hT hA0 (by omega) (by omega) (by omega)) (fun r40 h40 q40 => ?_)
      obtain ⟨eh40, z40, ez40, lz40, uz40⟩ := q40
      subst eh40
      subst ez40
      refine pw_i2l d121_43 (by omega) ?_
      refine pw_callS1 d121_44 k121_55 rfl rfl (ct117 (τ := τ) (ρ := ρ) (by omega)) (fun r44 h44 q44 => ?_)
      obtain ⟨eh44, z44, ez44, lz44, uz44⟩ := q44
      subst eh44
      subst ez44
      refine pw_iload d121_47 rfl ?_
      refine pw_icmp_ne d121_49 rfl (by omega) (by omega) (fun c49 => ?_) (fun c49 => ?_)
      · refine pw_iconst d121_73 ?_
        exact pw_zreturn d121_74 tt121 (by omega) ⟨rfl, 0, rfl, (by omega), (by omega)⟩
      · refine pw_aload_n d121_52 rfl ?_
        refine pw_iload_n d121_53 rfl ?_
        refine pw_iload_n d121_54 rfl ?_
        refine pw_iload d121_55 rfl ?_
        refine pw_callS4 d121_57 k121_51 rfl rfl (ct113 (τ := τ) (ρ := ρ) hT hA0 (by omega) (by omega) (by omega)) (fun r57 h57 q57 => ?_)
        obtain ⟨eh57, z57, ez57, lz57, uz57⟩ := q57
        subst eh57
        subst ez57
        refine pw_i2l d121_60 (by omega) ?_
        refine pw_callS1 d121_61 k121_55 rfl rfl (ct117 (τ := τ) (ρ := ρ) (by omega)) (fun r61 h61 q61 => ?_)
        obtain ⟨eh61, z61, ez61, lz61, uz61⟩ := q61
        subst eh61
        subst ez61
        refine pw_iload d121_64 rfl ?_
        refine pw_icmp_ne d121_66 rfl (by omega) (by omega) (fun c66 => ?_) (fun c66 => ?_)
        · refine pw_iconst d121_73 ?_
          exact pw_zreturn d121_74 tt121 (by omega) ⟨rfl, 0, rfl, (by omega), (by omega)⟩
        · refine pw_iconst d121_69 ?_
          refine pw_goto d121_70 rfl ?_
          exact pw_zreturn d121_74 tt121 (by omega) ⟨rfl, 1, rfl, (by omega), (by omega)⟩

abbrev Q119 (τ : Nat → Option Nat) (ρ : Nat → Nat → Nat) (h : pv_H) (a0 : Nat) (x1 : Int) (x2 : Int) : Option Value → pv_H → Prop := fun r h' => h = h' ∧ ∃ z : Int, r = some (.int (pv_I z)) ∧ 0 ≤ z ∧ z ≤ 7
set_option maxHeartbeats 4000000 in
set_option maxRecDepth 20000 in
/-- AngleNet$Flips.standing(LAngleNet$Net;II)I -/
theorem ct119 {τ : Nat → Option Nat} {ρ : Nat → Nat → Nat} {K : Nat → Nat} {h : pv_H} {a0 : Nat} {x1 : Int} {x2 : Int} (hT : pv_Ty τ ρ h) (hA0 : τ a0 = some 2) (hX1 : 0 ≤ x1 ∧ x1 ≤ 9) (hX2 : 0 ≤ x2 ∧ x2 ≤ 9) (hP0 : nk_ok h ρ a0) (hP1 : x1 ≠ x2) : pv_C K 119 [.ref a0, .int (pv_I x1), .int (pv_I x2)] h (Q119 τ ρ h a0 x1 x2) := by
  refine pw_entry 5 ?_
  show pv_T K 119 0 (pv_fl [some (.ref a0), some (.int (pv_I x1)), some (.int (pv_I x2)), none, none, none, none, none]) [] h (Q119 τ ρ h a0 x1 x2)
  refine pw_aload_n d119_0 rfl ?_
  refine pw_iload_n d119_1 rfl ?_
  refine pw_iload_n d119_2 rfl ?_
  refine pw_callS3 d119_3 k119_22 rfl rfl (ct120 (τ := τ) (ρ := ρ) hT hA0 (by omega) (by omega) (by first | assumption | omega) (by first | assumption | omega)) (fun r3 h3 q3 => ?_)
  obtain ⟨eh3, z3, ez3, lz3, uz3, pz3_0⟩ := q3
  subst eh3
  subst ez3
  refine pw_if_ne d119_6 rfl (by omega) (fun c6 => ?_) (fun c6 => ?_)
  · refine pw_iload_n d119_11 rfl ?_
    refine pw_iload_n d119_12 rfl ?_
    refine pw_mmin d119_13 k119_28 rfl (by omega) (by omega) (fun z13 pz13 hz13 => ?_)
    refine pw_istore_n d119_16 m119 rfl rfl ?_
    refine pw_iload_n d119_17 rfl ?_
    refine pw_iload_n d119_18 rfl ?_
    refine pw_mmax d119_19 k119_34 rfl (by omega) (by omega) (fun z19 pz19 hz19 => ?_)
    have np : 0 ≤ pv_fI h a0 0 ∧ pv_fI h a0 0 ≤ 10 := hT.fI hA0 rfl rfl
    have np2 := np.2
    have g22 := hP0.G
    have f22 := (pz3_0 (by omega)).mm (x := z13) (y := z19) (by omega) (by omega) (by omega) (by omega)
    have n22 : z13 ≠ z19 := by omega
    refine pw_istore d119_22 m119 rfl rfl ?_
    refine pw_aload_n d119_24 rfl ?_
    refine pw_iload_n d119_25 rfl ?_
    refine pw_iload d119_26 rfl ?_
    refine pw_iconst d119_28 ?_
    refine pw_callV3 d119_29 k119_9 hT hA0 rfl rfl rfl (ct88F (τ := τ) (ρ := ρ) hT hA0 (by omega) (by omega) (by omega)) (fun r29 h29 q29 => ?_)
    obtain ⟨eh29, z29, ez29, lz29, uz29, pz29_0⟩ := q29
    subst eh29
    subst ez29
    have t32 : 0 ≤ z29 ∧ z29 < pv_fI h a0 1 ∧ pf_on (nk_c h ρ a0) (z29).toNat z13 z19 := f22.t pz29_0
    have o32 := t32.2.2
    have l32 := t32.2.1
    have m32 := t32.1
    refine pw_istore d119_32 m119 rfl rfl ?_
    refine pw_aload_n d119_34 rfl ?_
    refine pw_iload d119_35 rfl ?_
    refine pw_iload_n d119_37 rfl ?_
    refine pw_iload d119_38 rfl ?_
    refine pw_callV3 d119_40 k119_15 hT hA0 rfl rfl rfl (ct90F (τ := τ) (ρ := ρ) hT hA0 (by omega) (by omega) (by omega) (by first | assumption | omega) (by first | assumption | omega) (by first | assumption | omega) (by first | assumption | omega) (by first | assumption | omega)) (fun r40 h40 q40 => ?_)
    obtain ⟨eh40, z40, ez40, lz40, uz40, pz40_0⟩ := q40
    subst eh40
    subst ez40
    refine pw_istore d119_43 m119 rfl rfl ?_
    refine pw_aload_n d119_45 rfl ?_
    refine pw_aload_n d119_46 rfl ?_
    refine pw_iload_n d119_47 rfl ?_
    refine pw_iload d119_48 rfl ?_
    refine pw_iload d119_50 rfl ?_
    refine pw_iconst d119_52 ?_
    refine pw_iadd d119_53 ?_
    refine pw_callV3 d119_54 k119_9 hT hA0 rfl rfl rfl (ct88F (τ := τ) (ρ := ρ) hT hA0 (by omega) (by omega) (by omega)) (fun r54 h54 q54 => ?_)
    obtain ⟨eh54, z54, ez54, lz54, uz54, pz54_0⟩ := q54
    subst eh54
    subst ez54
    have t57 : 0 ≤ z54 ∧ z54 < pv_fI h a0 1 ∧ pf_on (nk_c h ρ a0) (z54).toNat z13 z19 := f22.u pz29_0 pz54_0
    have o57 := t57.2.2
    have l57 := t57.2.1
    have m57 := t57.1
    refine pw_iload_n d119_57 rfl ?_
    refine pw_iload d119_58 rfl ?_
    refine pw_callV3 d119_60 k119_15 hT hA0 rfl rfl rfl (ct90F (τ := τ) (ρ := ρ) hT hA0 (by omega) (by omega) (by omega) (by first | assumption | omega) (by first | assumption | omega) (by first | assumption | omega) (by first | assumption | omega) (by first | assumption | omega)) (fun r60 h60 q60 => ?_)
    obtain ⟨eh60, z60, ez60, lz60, uz60, pz60_0⟩ := q60
    subst eh60
    subst ez60
    refine pw_istore d119_63 m119 rfl rfl ?_
    refine pw_aload_n d119_65 rfl ?_
    refine pw_iload_n d119_66 rfl ?_
    refine pw_callV1 d119_67 k119_37 hT hA0 rfl rfl rfl (ct112 (τ := τ) (ρ := ρ) hT hA0 (by omega)) (fun r67 h67 q67 => ?_)
    obtain ⟨eh67, z67, ez67, lz67, uz67, pz67_0⟩ := q67
    subst eh67
    subst ez67
    refine pw_if_eq d119_70 rfl (by omega) (fun c70 => ?_) (fun c70 => ?_)
    · refine pw_iconst d119_100 ?_
      exact pw_ireturn d119_101 tt119 ⟨rfl, 1, rfl, (by omega), (by omega)⟩
    · refine pw_aload_n d119_73 rfl ?_
      refine pw_iload d119_74 rfl ?_
      refine pw_callV1 d119_76 k119_37 hT hA0 rfl rfl rfl (ct112 (τ := τ) (ρ := ρ) hT hA0 (by omega)) (fun r76 h76 q76 => ?_)
      obtain ⟨eh76, z76, ez76, lz76, uz76, pz76_0⟩ := q76
      subst eh76
      subst ez76
      refine pw_if_eq d119_79 rfl (by omega) (fun c79 => ?_) (fun c79 => ?_)
      · refine pw_iconst d119_100 ?_
        exact pw_ireturn d119_101 tt119 ⟨rfl, 1, rfl, (by omega), (by omega)⟩
      · refine pw_aload_n d119_82 rfl ?_
        refine pw_iload d119_83 rfl ?_
        refine pw_callV1 d119_85 k119_37 hT hA0 rfl rfl rfl (ct112 (τ := τ) (ρ := ρ) hT hA0 (by omega)) (fun r85 h85 q85 => ?_)
        obtain ⟨eh85, z85, ez85, lz85, uz85, pz85_0⟩ := q85
        subst eh85
        subst ez85
        refine pw_if_eq d119_88 rfl (by omega) (fun c88 => ?_) (fun c88 => ?_)
        · refine pw_iconst d119_100 ?_
          exact pw_ireturn d119_101 tt119 ⟨rfl, 1, rfl, (by omega), (by omega)⟩
        · refine pw_aload_n d119_91 rfl ?_
          refine pw_iload d119_92 rfl ?_
          refine pw_callV1 d119_94 k119_37 hT hA0 rfl rfl rfl (ct112 (τ := τ) (ρ := ρ) hT hA0 (by omega)) (fun r94 h94 q94 => ?_)
          obtain ⟨eh94, z94, ez94, lz94, uz94, pz94_0⟩ := q94
          subst eh94
          subst ez94
          refine pw_if_ne d119_97 rfl (by omega) (fun c97 => ?_) (fun c97 => ?_)
          · refine pw_aload_n d119_102 rfl ?_
            refine pw_iload_n d119_103 rfl ?_
            refine pw_iload d119_104 rfl ?_
            refine pw_iload d119_106 rfl ?_
            refine pw_iload d119_108 rfl ?_
            refine pw_callS5 d119_110 k119_41 rfl rfl (ct121 (τ := τ) (ρ := ρ) hT hA0 (by omega) (by omega) (by omega) (by omega)) (fun r110 h110 q110 => ?_)
            obtain ⟨eh110, z110, ez110, lz110, uz110⟩ := q110
            subst eh110
            subst ez110
            refine pw_if_ne d119_113 rfl (by omega) (fun c113 => ?_) (fun c113 => ?_)
            · refine pw_aload_n d119_118 rfl ?_
              refine pw_iload_n d119_119 rfl ?_
              refine pw_iload d119_120 rfl ?_
              refine pw_iload d119_122 rfl ?_
              refine pw_iload d119_124 rfl ?_
              refine pw_callS5 d119_126 k119_45 rfl rfl (ct115 (τ := τ) (ρ := ρ) hT hA0 (by omega) (by omega) (by omega) (by omega)) (fun r126 h126 q126 => ?_)
              obtain ⟨eh126, z126, ez126, lz126, uz126⟩ := q126
              subst eh126
              subst ez126
              refine pw_if_le d119_129 rfl (by omega) (fun c129 => ?_) (fun c129 => ?_)
              · refine pw_iconst d119_137 ?_
                exact pw_ireturn d119_138 tt119 ⟨rfl, 3, rfl, (by omega), (by omega)⟩
              · refine pw_bipush d119_132 (by decide) ?_
                refine pw_goto d119_134 rfl ?_
                exact pw_ireturn d119_138 tt119 ⟨rfl, 7, rfl, (by omega), (by omega)⟩
            · refine pw_iconst d119_116 ?_
              exact pw_ireturn d119_117 tt119 ⟨rfl, 1, rfl, (by omega), (by omega)⟩
          · refine pw_iconst d119_100 ?_
            exact pw_ireturn d119_101 tt119 ⟨rfl, 1, rfl, (by omega), (by omega)⟩
  · refine pw_iconst d119_9 ?_
    exact pw_ireturn d119_10 tt119 ⟨rfl, 0, rfl, (by omega), (by omega)⟩
