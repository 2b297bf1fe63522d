abbrev Q268 (τ : Nat → Option Nat) (ρ : Nat → Nat → Nat) (h : pv_H) (a0 : Nat) (x1 : Int) (x2 : Int) : Option Value → pv_H → Prop := fun r h' => h = h' ∧ ∃ z : Int, r = some (.int (pv_I z)) ∧ 0 ≤ z ∧ z ≤ 1 ∧ (z = 1 → x1 ≠ x2 → pr_ff (pv_aI h (ρ a0 1)) x1 x2) ∧ (z = 1 → 0 ≤ x1 ∧ x1 ≤ 9 ∧ 0 ≤ x2 ∧ x2 ≤ 9 ∧ ∃ t, t < pr_n (pv_aI h (ρ a0 1)) ∧ pf_on (pr_c (pv_aI h (ρ a0 1))) t x1 x2) ∧ (z = 1 → pr_m (pv_aI h (ρ a0 1)) x1 x2 = 2) ∧ (pr_ff (pv_aI h (ρ a0 1)) x1 x2 → z = 1)
set_option maxHeartbeats 4000000 in
set_option maxRecDepth 20000 in
/-- AngleNetModel.mayFlip(II)Z -/
theorem ct268 {τ : Nat → Option Nat} {ρ : Nat → Nat → Nat} {K : Nat → Nat} {h : pv_H} {a0 : Nat} {x1 : Int} {x2 : Int} (hT : pv_Ty τ ρ h) (hA0 : τ a0 = some 7) (hX1 : (-2147483648) ≤ x1 ∧ x1 ≤ 2147483647) (hX2 : (-2147483648) ≤ x2 ∧ x2 ≤ 2147483647) (hP0 : pf_G 10 (pr_n (pv_aI h (ρ a0 1))) (pr_c (pv_aI h (ρ a0 1)))) : pv_C K 268 [.ref a0, .int (pv_I x1), .int (pv_I x2)] h (Q268 τ ρ h a0 x1 x2) := by
  refine pw_entry 2 ?_
  show pv_T K 268 0 (pv_fl [some (.ref a0), some (.int (pv_I x1)), some (.int (pv_I x2)), none, none]) [] h (Q268 τ ρ h a0 x1 x2)
  have hR0_1 : τ (ρ a0 1) = some 40 := hT.rf (t' := 40) hA0 rfl rfl
  refine pw_aload_n d268_0 rfl ?_
  refine pw_iload_n d268_1 rfl ?_
  refine pw_iload_n d268_2 rfl ?_
  refine pw_callV2 d268_3 k268_214 hT hA0 rfl rfl rfl (ct218F (τ := τ) (ρ := ρ) hT hA0 (by omega) (by omega)) (fun r3 h3 q3 => ?_)
  obtain ⟨eh3, z3, ez3, lz3, uz3, pz3_0⟩ := q3
  subst eh3
  subst ez3
  refine pw_iconst d268_6 ?_
  refine pw_icmp_eq d268_7 rfl (by omega) (by omega) (fun c7 => ?_) (fun c7 => ?_)
  · have hw1 : 0 ≤ pv_aI h (ρ a0 1) (1 : Int).toNat ∧ pv_aI h (ρ a0 1) (1 : Int).toNat ≤ 18 := (hT.wc hR0_1 (j := 1) rfl (by decide)).2.2.1 (by decide)
    have ex12 : ∃ t, t < pr_n (pv_aI h (ρ a0 1)) ∧ pf_on (pr_c (pv_aI h (ρ a0 1))) t x1 x2 := pr_m_pos.mp (by omega)
    have rr12 := mf_rg hP0 ex12
    refine pw_aload_n d268_12 rfl ?_
    refine pw_iload_n d268_13 rfl ?_
    refine pw_iload_n d268_14 rfl ?_
    refine pw_callV2 d268_15 k268_351 hT hA0 rfl rfl rfl (ct269 (τ := τ) (ρ := ρ) hT hA0 (by omega) (by omega) (by first | assumption | omega)) (fun r15 h15 q15 => ?_)
    obtain ⟨eh15, z15, ez15, lz15, uz15, pz15_0, pz15_1, pz15_2⟩ := q15
    subst eh15
    subst ez15
    refine pw_istore_n d268_18 m268 rfl rfl ?_
    refine pw_aload_n d268_19 rfl ?_
    refine pw_iload_n d268_20 rfl ?_
    refine pw_iload_n d268_21 rfl ?_
    refine pw_iload_n d268_22 rfl ?_
    refine pw_callV3 d268_23 k268_298 hT hA0 rfl rfl rfl (ct242F (τ := τ) (ρ := ρ) hT hA0 (by omega) (by omega) (by omega)) (fun r23 h23 q23 => ?_)
    obtain ⟨eh23, z23, ez23, lz23, uz23, pz23_0⟩ := q23
    subst eh23
    subst ez23
    refine pw_istore d268_26 m268 rfl rfl ?_
    have uu27 : 0 ≤ z23 := mf_u hP0 (by omega) (by omega) pz15_1 pz23_0
    refine pw_aload_n d268_28 rfl ?_
    refine pw_aload_n d268_29 rfl ?_
    refine pw_iload_n d268_30 rfl ?_
    refine pw_iload_n d268_31 rfl ?_
    refine pw_iload_n d268_32 rfl ?_
    refine pw_callV3 d268_33 k268_292 hT hA0 rfl rfl rfl (ct243F9 (τ := τ) (ρ := ρ) hT hA0 (by omega) (by omega) (by omega)) (fun r33 h33 q33 => ?_)
    obtain ⟨eh33, z33, ez33, lz33, uz33, pz33_0⟩ := q33
    subst eh33
    subst ez33
    refine pw_aload_n d268_36 rfl ?_
    refine pw_iload d268_37 rfl ?_
    refine pw_iload_n d268_39 rfl ?_
    refine pw_iload_n d268_40 rfl ?_
    refine pw_callV3 d268_41 k268_292 hT hA0 rfl rfl rfl (ct243F9 (τ := τ) (ρ := ρ) hT hA0 (by omega) (by omega) (by omega)) (fun r41 h41 q41 => ?_)
    obtain ⟨eh41, z41, ez41, lz41, uz41, pz41_0⟩ := q41
    subst eh41
    subst ez41
    refine pw_callV2 d268_44 k268_221 hT hA0 rfl rfl rfl (ct217F (τ := τ) (ρ := ρ) hT hA0 (by omega) (by omega)) (fun r44 h44 q44 => ?_)
    obtain ⟨eh44, z44, ez44, lz44, uz44, pz44_0⟩ := q44
    subst eh44
    subst ez44
    refine pw_if_ne d268_47 rfl (by omega) (fun c47 => ?_) (fun c47 => ?_)
    · refine pw_iconst d268_54 ?_
      exact pw_zreturn d268_55 tt268 (by omega) ⟨rfl, 0, rfl, (by omega), (by omega), (by first | (intro e; exfalso; omega) | (intro _ hne; exact mf_ff hP0 (by omega) hne (by omega) pz15_1 pz15_2 pz23_0 pz33_0 (fun _ => pz41_0) (by rcases pz44_0 with q | q; (exfalso; omega); exact q.2))), (by first | (intro e; exfalso; omega) | (intro _; exact ⟨by omega, by omega, by omega, by omega, ex12⟩)), (by first | (intro e; exfalso; omega) | (intro _; omega)), (by first | (intro _; rfl) | (intro f9; have := f9.m; exfalso; omega) | (intro f9; exfalso; have n9 := mf_no f9 (by omega) pz15_1 pz15_2 pz23_0 pz33_0 pz41_0; rcases pz44_0 with q | q; exact n9 q.2; omega))⟩
    · refine pw_iconst d268_50 ?_
      refine pw_goto d268_51 rfl ?_
      exact pw_zreturn d268_55 tt268 (by omega) ⟨rfl, 1, rfl, (by omega), (by omega), (by first | (intro e; exfalso; omega) | (intro _ hne; exact mf_ff hP0 (by omega) hne (by omega) pz15_1 pz15_2 pz23_0 pz33_0 (fun _ => pz41_0) (by rcases pz44_0 with q | q; (exfalso; omega); exact q.2))), (by first | (intro e; exfalso; omega) | (intro _; exact ⟨by omega, by omega, by omega, by omega, ex12⟩)), (by first | (intro e; exfalso; omega) | (intro _; omega)), (by first | (intro _; rfl) | (intro f9; have := f9.m; exfalso; omega) | (intro f9; exfalso; have n9 := mf_no f9 (by omega) pz15_1 pz15_2 pz23_0 pz33_0 pz41_0; rcases pz44_0 with q | q; exact n9 q.2; omega))⟩
  · refine pw_iconst d268_10 ?_
    exact pw_zreturn d268_11 tt268 (by omega) ⟨rfl, 0, rfl, (by omega), (by omega), (by first | (intro e; exfalso; omega) | (intro _ hne; exact mf_ff hP0 (by omega) hne (by omega) pz15_1 pz15_2 pz23_0 pz33_0 (fun _ => pz41_0) (by rcases pz44_0 with q | q; (exfalso; omega); exact q.2))), (by first | (intro e; exfalso; omega) | (intro _; exact ⟨by omega, by omega, by omega, by omega, ex12⟩)), (by first | (intro e; exfalso; omega) | (intro _; omega)), (by first | (intro _; rfl) | (intro f9; have := f9.m; exfalso; omega) | (intro f9; exfalso; have n9 := mf_no f9 (by omega) pz15_1 pz15_2 pz23_0 pz33_0 pz41_0; rcases pz44_0 with q | q; exact n9 q.2; omega))⟩

abbrev Q267 (τ : Nat → Option Nat) (ρ : Nat → Nat → Nat) (h : pv_H) (a0 : Nat) (x1 : Int) (x2 : Int) : Option Value → pv_H → Prop := fun r h' => h = h' ∧ ∃ z : Int, r = some (.int (pv_I z)) ∧ 0 ≤ z ∧ z ≤ 7 ∧ (z = 7 → x1 ≠ x2 → pr_ff (pv_aI h (ρ a0 1)) x1 x2)
set_option maxHeartbeats 4000000 in
set_option maxRecDepth 20000 in
/-- AngleNetModel.mayOf(II)I -/
theorem ct267 {τ : Nat → Option Nat} {ρ : Nat → Nat → Nat} {K : Nat → Nat} {h : pv_H} {a0 : Nat} {x1 : Int} {x2 : Int} (hT : pv_Ty τ ρ h) (hA0 : τ a0 = some 7) (hX1 : (-2147483648) ≤ x1 ∧ x1 ≤ 2147483647) (hX2 : (-2147483648) ≤ x2 ∧ x2 ≤ 2147483647) (hP0 : pf_G 10 (pr_n (pv_aI h (ρ a0 1))) (pr_c (pv_aI h (ρ a0 1)))) : pv_C K 267 [.ref a0, .int (pv_I x1), .int (pv_I x2)] h (Q267 τ ρ h a0 x1 x2) := by
  refine pw_entry 6 ?_
  show pv_T K 267 0 (pv_fl [some (.ref a0), some (.int (pv_I x1)), some (.int (pv_I x2)), none, none, none, none, none, none]) [] h (Q267 τ ρ h a0 x1 x2)
  refine pw_aload_n d267_0 rfl ?_
  refine pw_iload_n d267_1 rfl ?_
  refine pw_iload_n d267_2 rfl ?_
  refine pw_callV2 d267_3 k267_354 hT hA0 rfl rfl rfl (ct268 (τ := τ) (ρ := ρ) hT hA0 (by omega) (by omega) (by first | assumption | omega)) (fun r3 h3 q3 => ?_)
  obtain ⟨eh3, z3, ez3, lz3, uz3, pz3_0, pz3_1, pz3_2, pz3_3⟩ := q3
  subst eh3
  subst ez3
  refine pw_if_ne d267_6 rfl (by omega) (fun c6 => ?_) (fun c6 => ?_)
  · refine pw_iload_n d267_11 rfl ?_
    refine pw_iload_n d267_12 rfl ?_
    refine pw_mmin d267_13 k267_112 rfl (by omega) (by omega) (fun z13 pz13 hz13 => ?_)
    refine pw_istore_n d267_16 m267 rfl rfl ?_
    refine pw_iload_n d267_17 rfl ?_
    refine pw_iload_n d267_18 rfl ?_
    refine pw_mmax d267_19 k267_301 rfl (by omega) (by omega) (fun z19 pz19 hz19 => ?_)
    refine pw_istore d267_22 m267 rfl rfl ?_
    have ex23 := mo_ex (pz3_1 (by omega)).2.2.2.2 pz13 hz13 pz19 hz19
    have em23 := mo_m (pz3_2 (by omega)) pz13 hz13 pz19 hz19
    refine pw_aload_n d267_24 rfl ?_
    refine pw_iload_n d267_25 rfl ?_
    refine pw_iload d267_26 rfl ?_
    refine pw_callV2 d267_28 k267_351 hT hA0 rfl rfl rfl (ct269 (τ := τ) (ρ := ρ) hT hA0 (by omega) (by omega) (by first | assumption | omega)) (fun r28 h28 q28 => ?_)
    obtain ⟨eh28, z28, ez28, lz28, uz28, pz28_0, pz28_1, pz28_2⟩ := q28
    subst eh28
    subst ez28
    refine pw_istore d267_31 m267 rfl rfl ?_
    refine pw_aload_n d267_33 rfl ?_
    refine pw_iload d267_34 rfl ?_
    refine pw_iload_n d267_36 rfl ?_
    refine pw_iload d267_37 rfl ?_
    refine pw_callV3 d267_39 k267_292 hT hA0 rfl rfl rfl (ct243F9 (τ := τ) (ρ := ρ) hT hA0 (by omega) (by omega) (by omega)) (fun r39 h39 q39 => ?_)
    obtain ⟨eh39, z39, ez39, lz39, uz39, pz39_0⟩ := q39
    subst eh39
    subst ez39
    refine pw_istore d267_42 m267 rfl rfl ?_
    refine pw_aload_n d267_44 rfl ?_
    refine pw_aload_n d267_45 rfl ?_
    refine pw_iload_n d267_46 rfl ?_
    refine pw_iload d267_47 rfl ?_
    refine pw_iload d267_49 rfl ?_
    refine pw_callV3 d267_51 k267_298 hT hA0 rfl rfl rfl (ct242F (τ := τ) (ρ := ρ) hT hA0 (by omega) (by omega) (by omega)) (fun r51 h51 q51 => ?_)
    obtain ⟨eh51, z51, ez51, lz51, uz51, pz51_0⟩ := q51
    subst eh51
    subst ez51
    have uu54 : 0 ≤ z51 := mf_u hP0 em23 (by omega) pz28_1 pz51_0
    refine pw_iload_n d267_54 rfl ?_
    refine pw_iload d267_55 rfl ?_
    refine pw_callV3 d267_57 k267_292 hT hA0 rfl rfl rfl (ct243F9 (τ := τ) (ρ := ρ) hT hA0 (by omega) (by omega) (by omega)) (fun r57 h57 q57 => ?_)
    obtain ⟨eh57, z57, ez57, lz57, uz57, pz57_0⟩ := q57
    subst eh57
    subst ez57
    refine pw_istore d267_60 m267 rfl rfl ?_
    refine pw_aload_n d267_62 rfl ?_
    refine pw_iload_n d267_63 rfl ?_
    refine pw_callV1 d267_64 k267_334 hT hA0 rfl rfl rfl (ct261 (τ := τ) (ρ := ρ) hT hA0 (by omega)) (fun r64 h64 q64 => ?_)
    obtain ⟨eh64, z64, ez64, lz64, uz64, pz64_0⟩ := q64
    subst eh64
    subst ez64
    refine pw_if_eq d267_67 rfl (by omega) (fun c67 => ?_) (fun c67 => ?_)
    · refine pw_iconst d267_101 ?_
      refine pw_istore d267_102 m267 rfl rfl ?_
      refine pw_iload d267_104 rfl ?_
      refine pw_if_eq d267_106 rfl (by omega) (fun c106 => ?_) (fun c106 => ?_)
      · refine pw_iconst d267_152 ?_
        exact pw_ireturn d267_153 tt267 ⟨rfl, 1, rfl, (by omega), (by omega), (by first | (intro e; exfalso; omega) | (intro _ hne; exact pz3_0 (by omega) hne))⟩
      · exfalso; omega
    · refine pw_aload_n d267_70 rfl ?_
      refine pw_iload d267_71 rfl ?_
      refine pw_callV1 d267_73 k267_334 hT hA0 rfl rfl rfl (ct261 (τ := τ) (ρ := ρ) hT hA0 (by omega)) (fun r73 h73 q73 => ?_)
      obtain ⟨eh73, z73, ez73, lz73, uz73, pz73_0⟩ := q73
      subst eh73
      subst ez73
      refine pw_if_eq d267_76 rfl (by omega) (fun c76 => ?_) (fun c76 => ?_)
      · refine pw_iconst d267_101 ?_
        refine pw_istore d267_102 m267 rfl rfl ?_
        refine pw_iload d267_104 rfl ?_
        refine pw_if_eq d267_106 rfl (by omega) (fun c106 => ?_) (fun c106 => ?_)
        · refine pw_iconst d267_152 ?_
          exact pw_ireturn d267_153 tt267 ⟨rfl, 1, rfl, (by omega), (by omega), (by first | (intro e; exfalso; omega) | (intro _ hne; exact pz3_0 (by omega) hne))⟩
        · exfalso; omega
      · refine pw_aload_n d267_79 rfl ?_
        refine pw_iload d267_80 rfl ?_
        refine pw_callV1 d267_82 k267_334 hT hA0 rfl rfl rfl (ct261 (τ := τ) (ρ := ρ) hT hA0 (by omega)) (fun r82 h82 q82 => ?_)
        obtain ⟨eh82, z82, ez82, lz82, uz82, pz82_0⟩ := q82
        subst eh82
        subst ez82
        refine pw_if_eq d267_85 rfl (by omega) (fun c85 => ?_) (fun c85 => ?_)
        · refine pw_iconst d267_101 ?_
          refine pw_istore d267_102 m267 rfl rfl ?_
          refine pw_iload d267_104 rfl ?_
          refine pw_if_eq d267_106 rfl (by omega) (fun c106 => ?_) (fun c106 => ?_)
          · refine pw_iconst d267_152 ?_
            exact pw_ireturn d267_153 tt267 ⟨rfl, 1, rfl, (by omega), (by omega), (by first | (intro e; exfalso; omega) | (intro _ hne; exact pz3_0 (by omega) hne))⟩
          · exfalso; omega
        · refine pw_aload_n d267_88 rfl ?_
          refine pw_iload d267_89 rfl ?_
          refine pw_callV1 d267_91 k267_334 hT hA0 rfl rfl rfl (ct261 (τ := τ) (ρ := ρ) hT hA0 (by omega)) (fun r91 h91 q91 => ?_)
          obtain ⟨eh91, z91, ez91, lz91, uz91, pz91_0⟩ := q91
          subst eh91
          subst ez91
          refine pw_if_eq d267_94 rfl (by omega) (fun c94 => ?_) (fun c94 => ?_)
          · refine pw_iconst d267_101 ?_
            refine pw_istore d267_102 m267 rfl rfl ?_
            refine pw_iload d267_104 rfl ?_
            refine pw_if_eq d267_106 rfl (by omega) (fun c106 => ?_) (fun c106 => ?_)
            · refine pw_iconst d267_152 ?_
              exact pw_ireturn d267_153 tt267 ⟨rfl, 1, rfl, (by omega), (by omega), (by first | (intro e; exfalso; omega) | (intro _ hne; exact pz3_0 (by omega) hne))⟩
            · exfalso; omega
          · refine pw_iconst d267_97 ?_
            refine pw_goto d267_98 rfl ?_
            refine pw_istore d267_102 m267 rfl rfl ?_
            refine pw_iload d267_104 rfl ?_
            refine pw_if_eq d267_106 rfl (by omega) (fun c106 => ?_) (fun c106 => ?_)
            · exfalso; omega
            · refine pw_aload_n d267_109 rfl ?_
              refine pw_iload_n d267_110 rfl ?_
              refine pw_iload d267_111 rfl ?_
              refine pw_iload d267_113 rfl ?_
              refine pw_callV3 d267_115 k267_340 hT hA0 rfl rfl rfl (ct262 (τ := τ) (ρ := ρ) hT hA0 (by omega) (by omega) (by omega)) (fun r115 h115 q115 => ?_)
              obtain ⟨eh115, z115, ez115, lz115, uz115⟩ := q115
              subst eh115
              subst ez115
              refine pw_aload_n d267_118 rfl ?_
              refine pw_iload d267_119 rfl ?_
              refine pw_iload_n d267_121 rfl ?_
              refine pw_iload d267_122 rfl ?_
              refine pw_callV3 d267_124 k267_340 hT hA0 rfl rfl rfl (ct262 (τ := τ) (ρ := ρ) hT hA0 (by omega) (by omega) (by omega)) (fun r124 h124 q124 => ?_)
              obtain ⟨eh124, z124, ez124, lz124, uz124⟩ := q124
              subst eh124
              subst ez124
              refine pw_aload_n d267_127 rfl ?_
              refine pw_iload_n d267_128 rfl ?_
              refine pw_iload d267_129 rfl ?_
              refine pw_iload d267_131 rfl ?_
              refine pw_callV3 d267_133 k267_340 hT hA0 rfl rfl rfl (ct262 (τ := τ) (ρ := ρ) hT hA0 (by omega) (by omega) (by omega)) (fun r133 h133 q133 => ?_)
              obtain ⟨eh133, z133, ez133, lz133, uz133⟩ := q133
              subst eh133
              subst ez133
              refine pw_aload_n d267_136 rfl ?_
              refine pw_iload d267_137 rfl ?_
              refine pw_iload d267_139 rfl ?_
              refine pw_iload d267_141 rfl ?_
              refine pw_callV3 d267_143 k267_340 hT hA0 rfl rfl rfl (ct262 (τ := τ) (ρ := ρ) hT hA0 (by omega) (by omega) (by omega)) (fun r143 h143 q143 => ?_)
              obtain ⟨eh143, z143, ez143, lz143, uz143⟩ := q143
              subst eh143
              subst ez143
              refine pw_callS4 d267_146 k267_357 rfl rfl (ct270 (τ := τ) (ρ := ρ) (by omega) (by omega) (by omega) (by omega)) (fun r146 h146 q146 => ?_)
              obtain ⟨eh146, z146, ez146, lz146, uz146⟩ := q146
              subst eh146
              subst ez146
              refine pw_if_ne d267_149 rfl (by omega) (fun c149 => ?_) (fun c149 => ?_)
              · refine pw_aload_n d267_154 rfl ?_
                refine pw_iload_n d267_155 rfl ?_
                refine pw_iload d267_156 rfl ?_
                refine pw_iload d267_158 rfl ?_
                refine pw_iload d267_160 rfl ?_
                refine pw_callV4 d267_162 k267_347 hT hA0 rfl rfl rfl (ct264 (τ := τ) (ρ := ρ) hT hA0 (by omega) (by omega) (by omega) (by omega)) (fun r162 h162 q162 => ?_)
                obtain ⟨eh162, z162, ez162, lz162, uz162⟩ := q162
                subst eh162
                subst ez162
                refine pw_if_le d267_165 rfl (by omega) (fun c165 => ?_) (fun c165 => ?_)
                · refine pw_iconst d267_173 ?_
                  exact pw_ireturn d267_174 tt267 ⟨rfl, 3, rfl, (by omega), (by omega), (by first | (intro e; exfalso; omega) | (intro _ hne; exact pz3_0 (by omega) hne))⟩
                · refine pw_bipush d267_168 (by decide) ?_
                  refine pw_goto d267_170 rfl ?_
                  exact pw_ireturn d267_174 tt267 ⟨rfl, 7, rfl, (by omega), (by omega), (by first | (intro e; exfalso; omega) | (intro _ hne; exact pz3_0 (by omega) hne))⟩
              · refine pw_iconst d267_152 ?_
                exact pw_ireturn d267_153 tt267 ⟨rfl, 1, rfl, (by omega), (by omega), (by first | (intro e; exfalso; omega) | (intro _ hne; exact pz3_0 (by omega) hne))⟩
  · refine pw_iconst d267_9 ?_
    exact pw_ireturn d267_10 tt267 ⟨rfl, 0, rfl, (by omega), (by omega), (by first | (intro e; exfalso; omega) | (intro _ hne; exact pz3_0 (by omega) hne))⟩

abbrev Q266 (τ : Nat → Option Nat) (ρ : Nat → Nat → Nat) (h : pv_H) (a0 : Nat) (x1 : Int) (x2 : Int) : Option Value → pv_H → Prop := fun r h' => h = h' ∧ ∃ z : Int, r = some (.int (pv_I z)) ∧ (-2) ≤ z ∧ z ≤ 7
set_option maxHeartbeats 4000000 in
set_option maxRecDepth 20000 in
/-- AngleNetModel.may(II)I -/
theorem ct266 {τ : Nat → Option Nat} {ρ : Nat → Nat → Nat} {K : Nat → Nat} {h : pv_H} {a0 : Nat} {x1 : Int} {x2 : Int} (hT : pv_Ty τ ρ h) (hA0 : τ a0 = some 7) (hX1 : (-2147483648) ≤ x1 ∧ x1 ≤ 2147483647) (hX2 : (-2147483648) ≤ x2 ∧ x2 ≤ 2147483647) (hP0 : pf_G 10 (pr_n (pv_aI h (ρ a0 1))) (pr_c (pv_aI h (ρ a0 1)))) : pv_C K 266 [.ref a0, .int (pv_I x1), .int (pv_I x2)] h (Q266 τ ρ h a0 x1 x2) := by
  refine pw_entry 0 ?_
  show pv_T K 266 0 (pv_fl [some (.ref a0), some (.int (pv_I x1)), some (.int (pv_I x2))]) [] h (Q266 τ ρ h a0 x1 x2)
  refine pw_aload_n d266_0 rfl ?_
  refine pw_iload_n d266_1 rfl ?_
  refine pw_iload_n d266_2 rfl ?_
  refine pw_callV2 d266_3 k266_235 hT hA0 rfl rfl rfl (ct220F (τ := τ) (ρ := ρ) hT hA0 (by omega) (by omega)) (fun r3 h3 q3 => ?_)
  obtain ⟨eh3, z3, ez3, lz3, uz3, pz3_0⟩ := q3
  subst eh3
  subst ez3
  refine pw_if_eq d266_6 rfl (by omega) (fun c6 => ?_) (fun c6 => ?_)
  · refine pw_bipush d266_27 (by decide) ?_
    exact pw_ireturn d266_29 tt266 ⟨rfl, (-2), rfl, (by omega), (by omega)⟩
  · refine pw_aload_n d266_9 rfl ?_
    refine pw_iload_n d266_10 rfl ?_
    refine pw_iload_n d266_11 rfl ?_
    refine pw_callV2 d266_12 k266_221 hT hA0 rfl rfl rfl (ct217F (τ := τ) (ρ := ρ) hT hA0 (by omega) (by omega)) (fun r12 h12 q12 => ?_)
    obtain ⟨eh12, z12, ez12, lz12, uz12, pz12_0⟩ := q12
    subst eh12
    subst ez12
    refine pw_if_eq d266_15 rfl (by omega) (fun c15 => ?_) (fun c15 => ?_)
    · refine pw_bipush d266_27 (by decide) ?_
      exact pw_ireturn d266_29 tt266 ⟨rfl, (-2), rfl, (by omega), (by omega)⟩
    · refine pw_aload_n d266_18 rfl ?_
      refine pw_iload_n d266_19 rfl ?_
      refine pw_iload_n d266_20 rfl ?_
      refine pw_callV2 d266_21 k266_361 hT hA0 rfl rfl rfl (ct267 (τ := τ) (ρ := ρ) hT hA0 (by omega) (by omega) (by first | assumption | omega)) (fun r21 h21 q21 => ?_)
      obtain ⟨eh21, z21, ez21, lz21, uz21, pz21_0⟩ := q21
      subst eh21
      subst ez21
      refine pw_goto d266_24 rfl ?_
      exact pw_ireturn d266_29 tt266 ⟨rfl, z21, rfl, (by omega), (by omega)⟩

abbrev Q273 (τ : Nat → Option Nat) (ρ : Nat → Nat → Nat) (h : pv_H) (a0 : Nat) (x1 : Int) (x2 : Int) (x3 : Int) (x4 : Int) (x5 : Int) : Option Value → pv_H → Prop := fun r h' => pv_Ty τ ρ h' ∧ pv_Fr τ [2623] h h' ∧ r = none ∧ (∀ j, pv_aI h' (ρ a0 1) j = if j = (8 + 4 * x1 + 3).toNat then x5 else if j = (8 + 4 * x1 + 2).toNat then x4 else if j = (8 + 4 * x1 + 1).toNat then x3 else if j = (8 + 4 * x1).toNat then x2 else pv_aI h (ρ a0 1) j)
set_option maxHeartbeats 4000000 in
set_option maxRecDepth 20000 in
/-- AngleNetModel.setThird(IIIII)V -/
theorem ct273 {τ : Nat → Option Nat} {ρ : Nat → Nat → Nat} {K : Nat → Nat} {h : pv_H} {a0 : Nat} {x1 : Int} {x2 : Int} {x3 : Int} {x4 : Int} {x5 : Int} (hT : pv_Ty τ ρ h) (hA0 : τ a0 = some 7) (hX1 : 0 ≤ x1 ∧ x1 ≤ 17) (hX2 : 0 ≤ x2 ∧ x2 ≤ 9) (hX3 : 0 ≤ x3 ∧ x3 ≤ 9) (hX4 : 0 ≤ x4 ∧ x4 ≤ 9) (hX5 : 0 ≤ x5 ∧ x5 ≤ 540) : pv_C K 273 [.ref a0, .int (pv_I x1), .int (pv_I x2), .int (pv_I x3), .int (pv_I x4), .int (pv_I x5)] h (Q273 τ ρ h a0 x1 x2 x3 x4 x5) := by
  refine pw_entry 0 ?_
  show pv_T K 273 0 (pv_fl [some (.ref a0), some (.int (pv_I x1)), some (.int (pv_I x2)), some (.int (pv_I x3)), some (.int (pv_I x4)), some (.int (pv_I x5))]) [] h (Q273 τ ρ h a0 x1 x2 x3 x4 x5)
  have hR0_1 : τ (ρ a0 1) = some 40 := hT.rf (t' := 40) hA0 rfl rfl
  have hF0 : pv_Fr τ [2623] h h := pv_Fr.rf
  refine pw_aload_n d273_0 rfl ?_
  refine pw_getR d273_1 g273_9 hT hA0 rfl rfl (fun t1 => ?_)
  have t1 : τ (ρ a0 1) = some 40 := t1
  refine pw_bipush d273_4 (by decide) ?_
  refine pw_iconst d273_6 ?_
  refine pw_iload_n d273_7 rfl ?_
  refine pw_imul d273_8 ?_
  refine pw_iadd d273_9 ?_
  refine pw_iload_n d273_10 rfl ?_
  refine pw_iastB d273_11 hT t1 rfl rfl rfl (by omega) (by omega) (by omega) (by show pv_wok _ _; unfold pv_wok; omega) (fun h11 T11 F11 E11 => ?_)
  have f11 := hF0.tr (F11.up (by decide))
  refine pw_aload_n d273_12 rfl ?_
  refine pw_getR d273_13 g273_9 T11 hA0 rfl rfl (fun t13 => ?_)
  have t13 : τ (ρ a0 1) = some 40 := t13
  refine pw_bipush d273_16 (by decide) ?_
  refine pw_iconst d273_18 ?_
  refine pw_iload_n d273_19 rfl ?_
  refine pw_imul d273_20 ?_
  refine pw_iadd d273_21 ?_
  refine pw_iconst d273_22 ?_
  refine pw_iadd d273_23 ?_
  refine pw_iload_n d273_24 rfl ?_
  refine pw_iastB d273_25 T11 t13 rfl rfl rfl (by omega) (by omega) (by omega) (by show pv_wok _ _; unfold pv_wok; omega) (fun h25 T25 F25 E25 => ?_)
  have f25 := f11.tr (F25.up (by decide))
  refine pw_aload_n d273_26 rfl ?_
  refine pw_getR d273_27 g273_9 T25 hA0 rfl rfl (fun t27 => ?_)
  have t27 : τ (ρ a0 1) = some 40 := t27
  refine pw_bipush d273_30 (by decide) ?_
  refine pw_iconst d273_32 ?_
  refine pw_iload_n d273_33 rfl ?_
  refine pw_imul d273_34 ?_
  refine pw_iadd d273_35 ?_
  refine pw_iconst d273_36 ?_
  refine pw_iadd d273_37 ?_
  refine pw_iload d273_38 rfl ?_
  refine pw_iastB d273_40 T25 t27 rfl rfl rfl (by omega) (by omega) (by omega) (by show pv_wok _ _; unfold pv_wok; omega) (fun h40 T40 F40 E40 => ?_)
  have f40 := f25.tr (F40.up (by decide))
  refine pw_aload_n d273_41 rfl ?_
  refine pw_getR d273_42 g273_9 T40 hA0 rfl rfl (fun t42 => ?_)
  have t42 : τ (ρ a0 1) = some 40 := t42
  refine pw_bipush d273_45 (by decide) ?_
  refine pw_iconst d273_47 ?_
  refine pw_iload_n d273_48 rfl ?_
  refine pw_imul d273_49 ?_
  refine pw_iadd d273_50 ?_
  refine pw_iconst d273_51 ?_
  refine pw_iadd d273_52 ?_
  refine pw_iload d273_53 rfl ?_
  refine pw_iastB d273_55 T40 t42 rfl rfl rfl (by omega) (by omega) (by omega) (by show pv_wok _ _; unfold pv_wok; omega) (fun h55 T55 F55 E55 => ?_)
  have f55 := f40.tr (F55.up (by decide))
  exact pw_return d273_56 tt273 ⟨T55, f55, rfl, (by intro j; rw [pe_at E55, pe_at E40, pe_at E25, pe_at E11])⟩

abbrev Q274F (τ : Nat → Option Nat) (ρ : Nat → Nat → Nat) (h : pv_H) (a0 : Nat) (x1 : Int) (x2 : Int) (x3 : Int) : Option Value → pv_H → Prop := fun r h' => pv_Ty τ ρ h' ∧ pv_Fr τ [2623] h h' ∧ r = none ∧ (∀ j : Nat, j < 120 ∨ 220 ≤ j → pv_aI h' (ρ a0 1) j = pv_aI h (ρ a0 1) j)
set_option maxHeartbeats 4000000 in
set_option maxRecDepth 20000 in
/-- AngleNetModel.setWeight(III)V -/
theorem ct274F {τ : Nat → Option Nat} {ρ : Nat → Nat → Nat} {K : Nat → Nat} {h : pv_H} {a0 : Nat} {x1 : Int} {x2 : Int} {x3 : Int} (hT : pv_Ty τ ρ h) (hA0 : τ a0 = some 7) (hX1 : 0 ≤ x1 ∧ x1 ≤ 9) (hX2 : 0 ≤ x2 ∧ x2 ≤ 9) (hX3 : 0 ≤ x3 ∧ x3 ≤ 360) : pv_C K 274 [.ref a0, .int (pv_I x1), .int (pv_I x2), .int (pv_I x3)] h (Q274F τ ρ h a0 x1 x2 x3) := by
  refine pw_entry 0 ?_
  show pv_T K 274 0 (pv_fl [some (.ref a0), some (.int (pv_I x1)), some (.int (pv_I x2)), some (.int (pv_I x3))]) [] h (Q274F τ ρ h a0 x1 x2 x3)
  have hR0_1 : τ (ρ a0 1) = some 40 := hT.rf (t' := 40) hA0 rfl rfl
  have hF0 : pv_Fr τ [2623] h h := pv_Fr.rf
  refine pw_aload_n d274_0 rfl ?_
  refine pw_getR d274_1 g274_9 hT hA0 rfl rfl (fun t1 => ?_)
  have t1 : τ (ρ a0 1) = some 40 := t1
  refine pw_bipush d274_4 (by decide) ?_
  refine pw_bipush d274_6 (by decide) ?_
  refine pw_iload_n d274_8 rfl ?_
  refine pw_imul d274_9 ?_
  refine pw_iadd d274_10 ?_
  refine pw_iload_n d274_11 rfl ?_
  refine pw_iadd d274_12 ?_
  refine pw_iload_n d274_13 rfl ?_
  refine pw_iastB d274_14 hT t1 rfl rfl rfl (by omega) (by omega) (by omega) (by show pv_wok _ _; unfold pv_wok; omega) (fun h14 T14 F14 E14 => ?_)
  have f14 := hF0.tr (F14.up (by decide))
  refine pw_aload_n d274_15 rfl ?_
  refine pw_getR d274_16 g274_9 T14 hA0 rfl rfl (fun t16 => ?_)
  have t16 : τ (ρ a0 1) = some 40 := t16
  refine pw_bipush d274_19 (by decide) ?_
  refine pw_bipush d274_21 (by decide) ?_
  refine pw_iload_n d274_23 rfl ?_
  refine pw_imul d274_24 ?_
  refine pw_iadd d274_25 ?_
  refine pw_iload_n d274_26 rfl ?_
  refine pw_iadd d274_27 ?_
  refine pw_iload_n d274_28 rfl ?_
  refine pw_iastB d274_29 T14 t16 rfl rfl rfl (by omega) (by omega) (by omega) (by show pv_wok _ _; unfold pv_wok; omega) (fun h29 T29 F29 E29 => ?_)
  have f29 := f14.tr (F29.up (by decide))
  exact pw_return d274_30 tt274 ⟨T29, f29, rfl, (by intro j hj; rw [pe_at E29, if_neg (by omega), pe_at E14, if_neg (by omega)])⟩

abbrev Q272 (τ : Nat → Option Nat) (ρ : Nat → Nat → Nat) (h : pv_H) (a0 : Nat) (x1 : Int) (x2 : Int) : Option Value → pv_H → Prop := fun r h' => pv_Ty τ ρ h' ∧ pv_Fr τ [2623] h h' ∧ ∃ z : Int, r = some (.int (pv_I z)) ∧ 0 ≤ z ∧ z ≤ 99 ∧ (pr_tu (pv_aI h (ρ a0 1)) (pv_aI h' (ρ a0 1)) x1 x2) ∧ (0 ≤ z)
set_option maxHeartbeats 4000000 in
set_option maxRecDepth 20000 in
/-- AngleNetModel.turnsSide(II)I -/
theorem ct272 {τ : Nat → Option Nat} {ρ : Nat → Nat → Nat} {K : Nat → Nat} {h : pv_H} {a0 : Nat} {x1 : Int} {x2 : Int} (hT : pv_Ty τ ρ h) (hA0 : τ a0 = some 7) (hX1 : 0 ≤ x1 ∧ x1 ≤ 9) (hX2 : 0 ≤ x2 ∧ x2 ≤ 9) (hP0 : pf_G 10 (pr_n (pv_aI h (ρ a0 1))) (pr_c (pv_aI h (ρ a0 1)))) (hP1 : pr_ff (pv_aI h (ρ a0 1)) x1 x2) (hP2 : pv_aI h (ρ a0 1) (6 : Int).toNat ≤ 98) : pv_C K 272 [.ref a0, .int (pv_I x1), .int (pv_I x2)] h (Q272 τ ρ h a0 x1 x2) := by
  refine pw_entry 8 ?_
  show pv_T K 272 0 (pv_fl [some (.ref a0), some (.int (pv_I x1)), some (.int (pv_I x2)), none, none, none, none, none, none, none, none]) [] h (Q272 τ ρ h a0 x1 x2)
  have hR0_1 : τ (ρ a0 1) = some 40 := hT.rf (t' := 40) hA0 rfl rfl
  have hF0 : pv_Fr τ [2623] h h := pv_Fr.rf
  have L158 : ∀ (nn : Nat) (h_158 : pv_H) (xL3_158 xL4_158 xL5_158 xL6_158 xL7_158 xL8_158 xL9_158 xL10_158 : Int) (o1_158 o2_158 : Option Value), (pv_Ty τ ρ h_158) → (pv_Fr τ [2623] h h_158) → (0 ≤ xL3_158 ∧ xL3_158 ≤ 9) → (0 ≤ xL4_158 ∧ xL4_158 ≤ 9) → (0 ≤ xL5_158 ∧ xL5_158 ≤ 17) → (0 ≤ xL6_158 ∧ xL6_158 ≤ 17) → (0 ≤ xL7_158 ∧ xL7_158 ≤ 9) → (0 ≤ xL8_158 ∧ xL8_158 ≤ 9) → (220 ≤ xL9_158 ∧ xL9_158 ≤ 1494) → (0 ≤ xL10_158 ∧ xL10_158 ≤ 4) → (tu_f (pv_aI h (ρ a0 1)) xL3_158 xL4_158 xL5_158 xL6_158 xL7_158 xL8_158) → (tu_l (pv_aI h (ρ a0 1)) (pv_aI h_158 (ρ a0 1)) xL3_158 xL4_158 xL5_158 xL6_158 xL9_158 xL10_158) → (xL9_158 = 220 + 13 * pv_aI h (ρ a0 1) (6 : Int).toNat) → (xL3_158 = min x1 x2 ∧ xL4_158 = max x1 x2) → (0 ≤ pv_aI h (ρ a0 1) (6 : Int).toNat) → 4 - xL10_158 < nn → pv_T K 272 158 (pv_fl [some (.ref a0), o1_158, o2_158, some (.int (pv_I xL3_158)), some (.int (pv_I xL4_158)), some (.int (pv_I xL5_158)), some (.int (pv_I xL6_158)), some (.int (pv_I xL7_158)), some (.int (pv_I xL8_158)), some (.int (pv_I xL9_158)), some (.int (pv_I xL10_158))]) [] h_158 (Q272 τ ρ h a0 x1 x2) := by
    intro nn
    induction nn with
    | zero => intro h_158 xL3_158 xL4_158 xL5_158 xL6_158 xL7_158 xL8_158 xL9_158 xL10_158 o1_158 o2_158 hT_158 hF_158 rL3_158 rL4_158 rL5_158 rL6_158 rL7_158 rL8_158 rL9_158 rL10_158 i0_158 i1_158 i2_158 i3_158 i4_158 hm; exfalso; omega
    | succ nn ih158 =>
      intro h_158 xL3_158 xL4_158 xL5_158 xL6_158 xL7_158 xL8_158 xL9_158 xL10_158 o1_158 o2_158 hT_158 hF_158 rL3_158 rL4_158 rL5_158 rL6_158 rL7_158 rL8_158 rL9_158 rL10_158 i0_158 i1_158 i2_158 i3_158 i4_158 hm158
      refine pw_iload d272_158 rfl ?_
      refine pw_iconst d272_160 ?_
      refine pw_icmp_ge d272_161 rfl (by omega) (by omega) (fun c161 => ?_) (fun c161 => ?_)
      · have hw1 : 0 ≤ pv_aI h (ρ a0 1) (1 : Int).toNat ∧ pv_aI h (ρ a0 1) (1 : Int).toNat ≤ 18 := (hT.wc hR0_1 (j := 1) rfl (by decide)).2.2.1 (by decide)
        refine pw_aload_n d272_211 rfl ?_
        refine pw_getR d272_212 g272_9 hT_158 hA0 rfl rfl (fun t212 => ?_)
        have t212 : τ (ρ a0 1) = some 40 := t212
        refine pw_iload d272_215 rfl ?_
        refine pw_bipush d272_217 (by decide) ?_
        refine pw_iadd d272_219 ?_
        refine pw_bipush d272_220 (by decide) ?_
        refine pw_iload d272_222 rfl ?_
        refine pw_imul d272_224 ?_
        refine pw_iload d272_225 rfl ?_
        refine pw_iadd d272_227 ?_
        refine pw_iastB d272_228 hT_158 t212 rfl rfl rfl (by omega) (by omega) (by omega) (by show pv_wok _ _; unfold pv_wok; omega) (fun h228 T228 F228 E228 => ?_)
        have f228 := hF_158.tr (F228.up (by decide))
        refine pw_aload_n d272_229 rfl ?_
        refine pw_iload d272_230 rfl ?_
        refine pw_iload_n d272_232 rfl ?_
        refine pw_iload d272_233 rfl ?_
        refine pw_iload d272_235 rfl ?_
        refine pw_sipush d272_237 (by decide) ?_
        refine pw_callV5 d272_240 k272_364 T228 hA0 rfl rfl rfl (ct273 (τ := τ) (ρ := ρ) T228 hA0 (by omega) (by omega) (by omega) (by omega) (by omega)) (fun r240 h240 q240 => ?_)
        obtain ⟨T240, F240, ez240, pz240_0⟩ := q240
        subst ez240
        have f240 := f228.tr (F240.up (by decide))
        refine pw_aload_n d272_243 rfl ?_
        refine pw_iload d272_244 rfl ?_
        refine pw_iload d272_246 rfl ?_
        refine pw_iload d272_248 rfl ?_
        refine pw_iload d272_250 rfl ?_
        refine pw_sipush d272_252 (by decide) ?_
        refine pw_callV5 d272_255 k272_364 T240 hA0 rfl rfl rfl (ct273 (τ := τ) (ρ := ρ) T240 hA0 (by omega) (by omega) (by omega) (by omega) (by omega)) (fun r255 h255 q255 => ?_)
        obtain ⟨T255, F255, ez255, pz255_0⟩ := q255
        subst ez255
        have f255 := f240.tr (F255.up (by decide))
        refine pw_aload_n d272_258 rfl ?_
        refine pw_iload_n d272_259 rfl ?_
        refine pw_iload d272_260 rfl ?_
        refine pw_iconst d272_262 ?_
        refine pw_callV3 d272_263 k272_368 T255 hA0 rfl rfl rfl (ct274F (τ := τ) (ρ := ρ) T255 hA0 (by omega) (by omega) (by omega)) (fun r263 h263 q263 => ?_)
        obtain ⟨T263, F263, ez263, pz263_0⟩ := q263
        subst ez263
        have f263 := f255.tr (F263.up (by decide))
        refine pw_aload_n d272_266 rfl ?_
        refine pw_iload d272_267 rfl ?_
        refine pw_iload d272_269 rfl ?_
        refine pw_iconst d272_271 ?_
        refine pw_callV3 d272_272 k272_368 T263 hA0 rfl rfl rfl (ct274F (τ := τ) (ρ := ρ) T263 hA0 (by omega) (by omega) (by omega)) (fun r272 h272 q272 => ?_)
        obtain ⟨T272, F272, ez272, pz272_0⟩ := q272
        subst ez272
        have f272 := f263.tr (F272.up (by decide))
        refine pw_aload_n d272_275 rfl ?_
        refine pw_getR d272_276 g272_9 T272 hA0 rfl rfl (fun t276 => ?_)
        have t276 : τ (ρ a0 1) = some 40 := t276
        refine pw_bipush d272_279 (by decide) ?_
        refine pw_dup2 d272_281 rfl rfl ?_
        have e282 : pv_aI h272 (ρ a0 1) (6 : Int).toNat = pv_aI h (ρ a0 1) (6 : Int).toNat := by rw [pz272_0 _ (by decide), pz263_0 _ (by decide), pz255_0, if_neg (by omega), if_neg (by omega), if_neg (by omega), if_neg (by omega), pz240_0, if_neg (by omega), if_neg (by omega), if_neg (by omega), if_neg (by omega), pe_at E228, if_neg (by omega), i1_158.1 _ (by decide)]
        refine pw_ialdB d272_282 T272 t276 rfl rfl (by omega) (by omega) (fun u282 => ?_)
        have u282 : pv_wok ((6 : Int)) (pv_aI h272 (ρ a0 1) ((6 : Int)).toNat) := u282
        have vu282 := u282.2.2.2.2.2.2.1 (by omega)
        refine pw_iconst d272_283 ?_
        refine pw_iadd d272_284 ?_
        refine pw_iastB d272_285 T272 t276 rfl rfl rfl (by omega) (by omega) (by omega) (by show pv_wok _ _; unfold pv_wok; omega) (fun h285 T285 F285 E285 => ?_)
        have f285 := f272.tr (F285.up (by decide))
        refine pw_bipush d272_286 (by decide) ?_
        refine pw_iload d272_288 rfl ?_
        refine pw_imul d272_290 ?_
        refine pw_iload d272_291 rfl ?_
        refine pw_iadd d272_293 ?_
        exact pw_ireturn d272_294 tt272 ⟨T285, f285, ((10 * xL7_158) + xL8_158), rfl, (by omega), (by omega), (by exact tu_end hP0 hw1 i4_158 i3_158 i0_158 i1_158 (by omega) i2_158 (pe_at E228) pz240_0 pz255_0 pz263_0 pz272_0 (pe_at E285) (by omega)), (by omega)⟩
      · refine pw_aload_n d272_164 rfl ?_
        refine pw_getR d272_165 g272_9 hT_158 hA0 rfl rfl (fun t165 => ?_)
        have t165 : τ (ρ a0 1) = some 40 := t165
        refine pw_iload d272_168 rfl ?_
        refine pw_iconst d272_170 ?_
        refine pw_iadd d272_171 ?_
        refine pw_iload d272_172 rfl ?_
        refine pw_iadd d272_174 ?_
        refine pw_aload_n d272_175 rfl ?_
        refine pw_iload d272_176 rfl ?_
        refine pw_iload d272_178 rfl ?_
        refine pw_callV2 d272_180 k272_219 hT_158 hA0 rfl rfl rfl (ct212 (τ := τ) (ρ := ρ) hT_158 hA0 (by omega) (by omega)) (fun r180 h180 q180 => ?_)
        obtain ⟨eh180, z180, ez180, lz180, uz180, pz180_0, pz180_1⟩ := q180
        subst eh180
        subst ez180
        refine pw_iastB d272_183 hT_158 t165 rfl rfl rfl (by omega) (by omega) (by omega) (by show pv_wok _ _; unfold pv_wok; omega) (fun h183 T183 F183 E183 => ?_)
        have f183 := hF_158.tr (F183.up (by decide))
        refine pw_aload_n d272_184 rfl ?_
        refine pw_getR d272_185 g272_9 T183 hA0 rfl rfl (fun t185 => ?_)
        have t185 : τ (ρ a0 1) = some 40 := t185
        refine pw_iload d272_188 rfl ?_
        refine pw_bipush d272_190 (by decide) ?_
        refine pw_iadd d272_192 ?_
        refine pw_iload d272_193 rfl ?_
        refine pw_iadd d272_195 ?_
        refine pw_aload_n d272_196 rfl ?_
        refine pw_iload d272_197 rfl ?_
        refine pw_iload d272_199 rfl ?_
        refine pw_callV2 d272_201 k272_219 T183 hA0 rfl rfl rfl (ct212 (τ := τ) (ρ := ρ) T183 hA0 (by omega) (by omega)) (fun r201 h201 q201 => ?_)
        obtain ⟨eh201, z201, ez201, lz201, uz201, pz201_0, pz201_1⟩ := q201
        subst eh201
        subst ez201
        refine pw_iastB d272_204 T183 t185 rfl rfl rfl (by omega) (by omega) (by omega) (by show pv_wok _ _; unfold pv_wok; omega) (fun h204 T204 F204 E204 => ?_)
        have f204 := f183.tr (F204.up (by decide))
        refine pw_iinc d272_205 m272 rfl rfl rfl ?_
        refine pw_goto d272_208 rfl ?_
        exact ih158 h204 (xL3_158) (xL4_158) (xL5_158) (xL6_158) (xL7_158) (xL8_158) (xL9_158) ((xL10_158 + 1)) _ _ T204 f204 (by omega) (by omega) (by omega) (by omega) (by omega) (by omega) (by omega) (by omega) (by first | exact tf79 | assumption) (by first | exact tu_l.step i1_158 (by omega) (by omega) (by omega) (by omega) pz180_0 (pe_at E183) pz201_0 (pe_at E204) | exact tu_l.start (by omega) (pe_at E108) rfl (pe_at E132) (pe_at E143) (pe_at E154)) (by omega) (by first | assumption | exact tu_mm pz2 hz2 pz8 hz8) (by omega) (by omega)
  refine pw_iload_n d272_0 rfl ?_
  refine pw_iload_n d272_1 rfl ?_
  refine pw_mmin d272_2 k272_112 rfl (by omega) (by omega) (fun z2 pz2 hz2 => ?_)
  refine pw_istore_n d272_5 m272 rfl rfl ?_
  refine pw_iload_n d272_6 rfl ?_
  refine pw_iload_n d272_7 rfl ?_
  refine pw_mmax d272_8 k272_301 rfl (by omega) (by omega) (fun z8 pz8 hz8 => ?_)
  refine pw_istore d272_11 m272 rfl rfl ?_
  have hw1 : 0 ≤ pv_aI h (ρ a0 1) (1 : Int).toNat ∧ pv_aI h (ρ a0 1) (1 : Int).toNat ≤ 18 := (hT.wc hR0_1 (j := 1) rfl (by decide)).2.2.1 (by decide)
  have hw6 : 0 ≤ pv_aI h (ρ a0 1) (6 : Int).toNat ∧ pv_aI h (ρ a0 1) (6 : Int).toNat ≤ 99 := (hT.wc hR0_1 (j := 6) rfl (by decide)).2.2.2.2.2.2.1 (by decide)
  have ff13 := tu_ff hP1 pz2 hz2 pz8 hz8
  have ex13 := ff13.1.ex
  refine pw_aload_n d272_13 rfl ?_
  refine pw_iload_n d272_14 rfl ?_
  refine pw_iload d272_15 rfl ?_
  refine pw_callV2 d272_17 k272_351 hT hA0 rfl rfl rfl (ct269 (τ := τ) (ρ := ρ) hT hA0 (by omega) (by omega) (by first | assumption | omega)) (fun r17 h17 q17 => ?_)
  obtain ⟨eh17, z17, ez17, lz17, uz17, pz17_0, pz17_1, pz17_2⟩ := q17
  subst eh17
  subst ez17
  refine pw_istore d272_20 m272 rfl rfl ?_
  refine pw_aload_n d272_22 rfl ?_
  refine pw_iload_n d272_23 rfl ?_
  refine pw_iload d272_24 rfl ?_
  refine pw_iload d272_26 rfl ?_
  refine pw_callV3 d272_28 k272_298 hT hA0 rfl rfl rfl (ct242F (τ := τ) (ρ := ρ) hT hA0 (by omega) (by omega) (by omega)) (fun r28 h28 q28 => ?_)
  obtain ⟨eh28, z28, ez28, lz28, uz28, pz28_0⟩ := q28
  subst eh28
  subst ez28
  refine pw_istore d272_31 m272 rfl rfl ?_
  have uu33 : 0 ≤ z28 := tu_u ff13.1 pz28_0
  refine pw_aload_n d272_33 rfl ?_
  refine pw_iload d272_34 rfl ?_
  refine pw_iload_n d272_36 rfl ?_
  refine pw_iload d272_37 rfl ?_
  refine pw_callV3 d272_39 k272_292 hT hA0 rfl rfl rfl (ct243F9 (τ := τ) (ρ := ρ) hT hA0 (by omega) (by omega) (by omega)) (fun r39 h39 q39 => ?_)
  obtain ⟨eh39, z39, ez39, lz39, uz39, pz39_0⟩ := q39
  subst eh39
  subst ez39
  refine pw_aload_n d272_42 rfl ?_
  refine pw_iload d272_43 rfl ?_
  refine pw_iload_n d272_45 rfl ?_
  refine pw_iload d272_46 rfl ?_
  refine pw_callV3 d272_48 k272_292 hT hA0 rfl rfl rfl (ct243F9 (τ := τ) (ρ := ρ) hT hA0 (by omega) (by omega) (by omega)) (fun r48 h48 q48 => ?_)
  obtain ⟨eh48, z48, ez48, lz48, uz48, pz48_0⟩ := q48
  subst eh48
  subst ez48
  refine pw_mmin d272_51 k272_112 rfl (by omega) (by omega) (fun z51 pz51 hz51 => ?_)
  refine pw_istore d272_54 m272 rfl rfl ?_
  refine pw_aload_n d272_56 rfl ?_
  refine pw_iload d272_57 rfl ?_
  refine pw_iload_n d272_59 rfl ?_
  refine pw_iload d272_60 rfl ?_
  refine pw_callV3 d272_62 k272_292 hT hA0 rfl rfl rfl (ct243F9 (τ := τ) (ρ := ρ) hT hA0 (by omega) (by omega) (by omega)) (fun r62 h62 q62 => ?_)
  obtain ⟨eh62, z62, ez62, lz62, uz62, pz62_0⟩ := q62
  subst eh62
  subst ez62
  refine pw_aload_n d272_65 rfl ?_
  refine pw_iload d272_66 rfl ?_
  refine pw_iload_n d272_68 rfl ?_
  refine pw_iload d272_69 rfl ?_
  refine pw_callV3 d272_71 k272_292 hT hA0 rfl rfl rfl (ct243F9 (τ := τ) (ρ := ρ) hT hA0 (by omega) (by omega) (by omega)) (fun r71 h71 q71 => ?_)
  obtain ⟨eh71, z71, ez71, lz71, uz71, pz71_0⟩ := q71
  subst eh71
  subst ez71
  refine pw_mmax d272_74 k272_301 rfl (by omega) (by omega) (fun z74 pz74 hz74 => ?_)
  refine pw_istore d272_77 m272 rfl rfl ?_
  have tf79 := tu_facts (c := z51) (d := z74) ff13.1 ff13.2 (by omega) pz17_1 pz17_2 pz28_0 pz39_0 pz48_0 pz51 hz51 (by omega) (by omega)
  have rg79 := tf79.rg hP0
  refine pw_sipush d272_79 (by decide) ?_
  refine pw_bipush d272_82 (by decide) ?_
  refine pw_aload_n d272_84 rfl ?_
  refine pw_getR d272_85 g272_9 hT hA0 rfl rfl (fun t85 => ?_)
  have t85 : τ (ρ a0 1) = some 40 := t85
  refine pw_bipush d272_88 (by decide) ?_
  refine pw_ialdB d272_90 hT t85 rfl rfl (by omega) (by omega) (fun u90 => ?_)
  have u90 : pv_wok ((6 : Int)) (pv_aI h (ρ a0 1) ((6 : Int)).toNat) := u90
  have vu90 := u90.2.2.2.2.2.2.1 (by omega)
  refine pw_imul d272_91 ?_
  refine pw_iadd d272_92 ?_
  refine pw_istore d272_93 m272 rfl rfl ?_
  refine pw_aload_n d272_95 rfl ?_
  refine pw_getR d272_96 g272_9 hT hA0 rfl rfl (fun t96 => ?_)
  have t96 : τ (ρ a0 1) = some 40 := t96
  refine pw_iload d272_99 rfl ?_
  refine pw_bipush d272_101 (by decide) ?_
  refine pw_iload_n d272_103 rfl ?_
  refine pw_imul d272_104 ?_
  refine pw_iload d272_105 rfl ?_
  refine pw_iadd d272_107 ?_
  refine pw_iastB d272_108 hT t96 rfl rfl rfl (by omega) (by omega) (by omega) (by show pv_wok _ _; unfold pv_wok; omega) (fun h108 T108 F108 E108 => ?_)
  have f108 := hF0.tr (F108.up (by decide))
  refine pw_aload_n d272_109 rfl ?_
  refine pw_getR d272_110 g272_9 T108 hA0 rfl rfl (fun t110 => ?_)
  have t110 : τ (ρ a0 1) = some 40 := t110
  refine pw_iload d272_113 rfl ?_
  refine pw_iconst d272_115 ?_
  refine pw_iadd d272_116 ?_
  refine pw_aload_n d272_117 rfl ?_
  refine pw_getR d272_118 g272_9 T108 hA0 rfl rfl (fun t118 => ?_)
  have t118 : τ (ρ a0 1) = some 40 := t118
  refine pw_bipush d272_121 (by decide) ?_
  refine pw_bipush d272_123 (by decide) ?_
  refine pw_iload_n d272_125 rfl ?_
  refine pw_imul d272_126 ?_
  refine pw_iadd d272_127 ?_
  refine pw_iload d272_128 rfl ?_
  refine pw_iadd d272_130 ?_
  refine pw_ialdB d272_131 T108 t118 rfl rfl (by omega) (by omega) (fun u131 => ?_)
  have u131 : pv_wok (((120 + (10 * z2)) + z8)) (pv_aI h108 (ρ a0 1) (((120 + (10 * z2)) + z8)).toNat) := u131
  have vu131 := u131.2.2.2.2.2.2.2.2.2.2.2.1 (by omega)
  refine pw_iastB d272_132 T108 t118 rfl rfl rfl (by omega) (by omega) (by omega) (by show pv_wok _ _; unfold pv_wok; omega) (fun h132 T132 F132 E132 => ?_)
  have f132 := f108.tr (F132.up (by decide))
  refine pw_aload_n d272_133 rfl ?_
  refine pw_getR d272_134 g272_9 T132 hA0 rfl rfl (fun t134 => ?_)
  have t134 : τ (ρ a0 1) = some 40 := t134
  refine pw_iload d272_137 rfl ?_
  refine pw_iconst d272_139 ?_
  refine pw_iadd d272_140 ?_
  refine pw_iload d272_141 rfl ?_
  refine pw_iastB d272_143 T132 t134 rfl rfl rfl (by omega) (by omega) (by omega) (by show pv_wok _ _; unfold pv_wok; omega) (fun h143 T143 F143 E143 => ?_)
  have f143 := f132.tr (F143.up (by decide))
  refine pw_aload_n d272_144 rfl ?_
  refine pw_getR d272_145 g272_9 T143 hA0 rfl rfl (fun t145 => ?_)
  have t145 : τ (ρ a0 1) = some 40 := t145
  refine pw_iload d272_148 rfl ?_
  refine pw_iconst d272_150 ?_
  refine pw_iadd d272_151 ?_
  refine pw_iload d272_152 rfl ?_
  refine pw_iastB d272_154 T143 t145 rfl rfl rfl (by omega) (by omega) (by omega) (by show pv_wok _ _; unfold pv_wok; omega) (fun h154 T154 F154 E154 => ?_)
  have f154 := f143.tr (F154.up (by decide))
  refine pw_iconst d272_155 ?_
  refine pw_istore d272_156 m272 rfl rfl ?_
  exact L158 _ h154 (z2) (z8) (z17) (z28) (z51) (z74) ((220 + (13 * (pv_aI h (ρ a0 1) ((6 : Int)).toNat)))) (0) _ _ T154 f154 (by omega) (by omega) (by omega) (by omega) (by omega) (by omega) (by omega) (by omega) (by first | exact tf79 | assumption) (by first | exact tu_l.step i1_158 (by omega) (by omega) (by omega) (by omega) pz180_0 (pe_at E183) pz201_0 (pe_at E204) | exact tu_l.start (by omega) (pe_at E108) rfl (pe_at E132) (pe_at E143) (pe_at E154)) (by omega) (by first | assumption | exact tu_mm pz2 hz2 pz8 hz8) (by omega) (pv_mu _)
