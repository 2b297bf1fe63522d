abbrev Q94 (τ : Nat → Option Nat) (ρ : Nat → Nat → Nat) (h : pv_H) (a0 : Nat) : Option Value → pv_H → Prop := fun r h' => h = h' ∧ ∃ z : Int, r = some (.int (pv_I z)) ∧ (-2147483648) ≤ z ∧ z ≤ 2147483647
set_option maxHeartbeats 4000000 in
set_option maxRecDepth 20000 in
/-- AngleNet$Laying.told(LAngleNet$Net;)I -/
theorem c94 {τ : Nat → Option Nat} {ρ : Nat → Nat → Nat} {K : Nat → Nat} {h : pv_H} {a0 : Nat} (hT : pv_Ty τ ρ h) (hA0 : τ a0 = some 2) : pv_C K 94 [.ref a0] h (Q94 τ ρ h a0) := by
  refine pw_entry 2 ?_
  show pv_T K 94 0 (pv_fl [some (.ref a0), none, none]) [] h (Q94 τ ρ h a0)
  have L4 : ∀ (nn : Nat) (xL1_4 xL2_4 : Int), ((-2147483648) ≤ xL1_4 ∧ xL1_4 ≤ 2147483647) → (0 ≤ xL2_4 ∧ xL2_4 ≤ 10) → 10 - xL2_4 < nn → pv_T K 94 4 (pv_fl [some (.ref a0), some (.int (pv_I xL1_4)), some (.int (pv_I xL2_4))]) [] h (Q94 τ ρ h a0) := by
    intro nn
    induction nn with
    | zero => intro xL1_4 xL2_4 rL1_4 rL2_4 hm; exfalso; omega
    | succ nn ih4 =>
      intro xL1_4 xL2_4 rL1_4 rL2_4 hm4
      have J30 : ∀ (xS0_30 : Int) (o1_30 : Option Value), (0 ≤ xL2_4 ∧ xL2_4 ≤ 9) → ((-2147483648) ≤ xS0_30 ∧ xS0_30 ≤ 2147483647) → ((-2147483648) ≤ xL1_4 ∧ xL1_4 ≤ 2147483647) → pv_T K 94 30 (pv_fl [some (.ref a0), o1_30, some (.int (pv_I xL2_4))]) [.int (pv_I xS0_30), .int (pv_I xL1_4)] h (Q94 τ ρ h a0) := by
        intro xS0_30 o1_30 rL2_30 rS0_30 rS1_30
        refine pw_ior d94_30 (fun z15001 hz15001 ez15001 => ?_)
        refine pw_istore_n d94_31 m94 rfl rfl ?_
        refine pw_iinc d94_32 m94 rfl rfl rfl ?_
        refine pw_goto d94_35 rfl ?_
        exact ih4 (z15001) ((xL2_4 + 1)) (by omega) (by omega) (by omega)
      refine pw_iload_n d94_4 rfl ?_
      refine pw_aload_n d94_5 rfl ?_
      refine pw_getI d94_6 g94_21 hT hA0 rfl rfl (fun u15002 vu15002 => ?_)
      refine pw_icmp_ge d94_9 rfl (by omega) (by omega) (fun c15003 => ?_) (fun c15003 => ?_)
      · refine pw_iload_n d94_38 rfl ?_
        exact pw_ireturn d94_39 t94 ⟨rfl, xL1_4, rfl, (by omega), (by omega)⟩
      · refine pw_iload_n d94_12 rfl ?_
        refine pw_aload_n d94_13 rfl ?_
        refine pw_getR d94_14 g94_27 hT hA0 rfl rfl (fun t15004 => ?_)
        have t15004 : τ (ρ a0 7) = some 22 := t15004
        refine pw_iload_n d94_17 rfl ?_
        refine pw_iald d94_18 hT t15004 rfl rfl (by omega) (by omega) (fun u15005 vu15005 => ?_)
        refine pw_iconst d94_19 ?_
        refine pw_icmp_eq d94_20 rfl (by omega) (by omega) (fun c15006 => ?_) (fun c15006 => ?_)
        · refine pw_iconst d94_29 ?_
          exact J30 (0) _ (by omega) (by omega) (by omega)
        · refine pw_iconst d94_23 ?_
          refine pw_iload_n d94_24 rfl ?_
          refine pw_ishl d94_25 (fun z15007 hz15007 ez15007 => ?_)
          refine pw_goto d94_26 rfl ?_
          exact J30 (z15007) _ (by omega) (by omega) (by omega)
  refine pw_iconst d94_0 ?_
  refine pw_istore_n d94_1 m94 rfl rfl ?_
  refine pw_iconst d94_2 ?_
  refine pw_istore_n d94_3 m94 rfl rfl ?_
  exact L4 _ (0) (0) (by omega) (by omega) (pv_mu _)

abbrev Q96 (τ : Nat → Option Nat) (ρ : Nat → Nat → Nat) (h : pv_H) (a0 : Nat) (x1 : Int) (x2 : Int) : Option Value → pv_H → Prop := fun r h' => h = h' ∧ ∃ z : Int, r = some (.int (pv_I z)) ∧ (-2147483648) ≤ z ∧ z ≤ 2147483647
set_option maxHeartbeats 4000000 in
set_option maxRecDepth 20000 in
/-- AngleNet$Laying.mostOf(LAngleNet$Net;II)I -/
theorem c96 {τ : Nat → Option Nat} {ρ : Nat → Nat → Nat} {K : Nat → Nat} {h : pv_H} {a0 : Nat} {x1 : Int} {x2 : Int} (hT : pv_Ty τ ρ h) (hA0 : τ a0 = some 2) (hX1 : 0 ≤ x1 ∧ x1 ≤ 17) (hX2 : (-2147483648) ≤ x2 ∧ x2 ≤ 2147483647) : pv_C K 96 [.ref a0, .int (pv_I x1), .int (pv_I x2)] h (Q96 τ ρ h a0 x1 x2) := by
  refine pw_entry 0 ?_
  show pv_T K 96 0 (pv_fl [some (.ref a0), some (.int (pv_I x1)), some (.int (pv_I x2))]) [] h (Q96 τ ρ h a0 x1 x2)
  refine pw_aload_n d96_0 rfl ?_
  refine pw_getI d96_1 g96_65 hT hA0 rfl rfl (fun u15024 vu15024 => ?_)
  refine pw_iload_n d96_4 rfl ?_
  refine pw_imul d96_5 ?_
  refine pw_any (fun z15025 hz15025 ez15025 => ?_)
  refine pw_aload_n d96_6 rfl ?_
  refine pw_getR d96_7 g96_66 hT hA0 rfl rfl (fun t15026 => ?_)
  have t15026 : τ (ρ a0 6) = some 21 := t15026
  refine pw_iload_n d96_10 rfl ?_
  refine pw_iald d96_11 hT t15026 rfl rfl (by omega) (by omega) (fun u15027 vu15027 => ?_)
  refine pw_aload_n d96_12 rfl ?_
  refine pw_getI d96_13 g96_69 hT hA0 rfl rfl (fun u15028 vu15028 => ?_)
  refine pw_iconst d96_16 ?_
  refine pw_iload_n d96_17 rfl ?_
  refine pw_isub d96_18 ?_
  refine pw_imul d96_19 ?_
  refine pw_any (fun z15029 hz15029 ez15029 => ?_)
  refine pw_isub d96_20 ?_
  refine pw_any (fun z15030 hz15030 ez15030 => ?_)
  refine pw_mmin d96_21 k96_70 rfl (by omega) (by omega) (fun z15031 pz15031 hz15031 => ?_)
  exact pw_ireturn d96_24 t96 ⟨rfl, z15031, rfl, (by omega), (by omega)⟩

abbrev Q98 (τ : Nat → Option Nat) (ρ : Nat → Nat → Nat) (h : pv_H) (a0 : Nat) (x1 : Int) (x2 : Int) : Option Value → pv_H → Prop := fun r h' => h = h' ∧ ∃ z : Int, r = some (.int (pv_I z)) ∧ (-2147483648) ≤ z ∧ z ≤ 2147483647
set_option maxHeartbeats 4000000 in
set_option maxRecDepth 20000 in
/-- AngleNet$Laying.leastOf(LAngleNet$Net;II)I -/
theorem c98 {τ : Nat → Option Nat} {ρ : Nat → Nat → Nat} {K : Nat → Nat} {h : pv_H} {a0 : Nat} {x1 : Int} {x2 : Int} (hT : pv_Ty τ ρ h) (hA0 : τ a0 = some 2) (hX1 : 0 ≤ x1 ∧ x1 ≤ 17) (hX2 : (-2147483648) ≤ x2 ∧ x2 ≤ 2147483647) : pv_C K 98 [.ref a0, .int (pv_I x1), .int (pv_I x2)] h (Q98 τ ρ h a0 x1 x2) := by
  refine pw_entry 0 ?_
  show pv_T K 98 0 (pv_fl [some (.ref a0), some (.int (pv_I x1)), some (.int (pv_I x2))]) [] h (Q98 τ ρ h a0 x1 x2)
  refine pw_aload_n d98_0 rfl ?_
  refine pw_getI d98_1 g98_69 hT hA0 rfl rfl (fun u15048 vu15048 => ?_)
  refine pw_iload_n d98_4 rfl ?_
  refine pw_imul d98_5 ?_
  refine pw_any (fun z15049 hz15049 ez15049 => ?_)
  refine pw_aload_n d98_6 rfl ?_
  refine pw_getR d98_7 g98_66 hT hA0 rfl rfl (fun t15050 => ?_)
  have t15050 : τ (ρ a0 6) = some 21 := t15050
  refine pw_iload_n d98_10 rfl ?_
  refine pw_iald d98_11 hT t15050 rfl rfl (by omega) (by omega) (fun u15051 vu15051 => ?_)
  refine pw_aload_n d98_12 rfl ?_
  refine pw_getI d98_13 g98_65 hT hA0 rfl rfl (fun u15052 vu15052 => ?_)
  refine pw_iconst d98_16 ?_
  refine pw_iload_n d98_17 rfl ?_
  refine pw_isub d98_18 ?_
  refine pw_imul d98_19 ?_
  refine pw_any (fun z15053 hz15053 ez15053 => ?_)
  refine pw_isub d98_20 ?_
  refine pw_any (fun z15054 hz15054 ez15054 => ?_)
  refine pw_mmax d98_21 k98_76 rfl (by omega) (by omega) (fun z15055 pz15055 hz15055 => ?_)
  exact pw_ireturn d98_24 t98 ⟨rfl, z15055, rfl, (by omega), (by omega)⟩

abbrev Q95 (τ : Nat → Option Nat) (ρ : Nat → Nat → Nat) (h : pv_H) (a0 : Nat) (a1 : Nat) (x2 : Int) : Option Value → pv_H → Prop := fun r h' => pv_Ty τ ρ h' ∧ pv_Fr τ [323, 324, 325, 326, 327, 2239, 2303, 2367] h h' ∧ ∃ z : Int, r = some (.int (pv_I z)) ∧ (-2147483648) ≤ z ∧ z ≤ 2147483647
set_option maxHeartbeats 4000000 in
set_option maxRecDepth 20000 in
/-- AngleNet$Laying.begin(LAngleNet$Net;I)I -/
theorem c95 {τ : Nat → Option Nat} {ρ : Nat → Nat → Nat} {K : Nat → Nat} {h : pv_H} {a0 : Nat} {a1 : Nat} {x2 : Int} (hT : pv_Ty τ ρ h) (hA0 : τ a0 = some 5) (hA1 : τ a1 = some 2) (hX2 : (-2147483648) ≤ x2 ∧ x2 ≤ 2147483647) : pv_C K 95 [.ref a0, .ref a1, .int (pv_I x2)] h (Q95 τ ρ h a0 a1 x2) := by
  refine pw_entry 1 ?_
  show pv_T K 95 0 (pv_fl [some (.ref a0), some (.ref a1), some (.int (pv_I x2)), none]) [] h (Q95 τ ρ h a0 a1 x2)
  have hF0 : pv_Fr τ [323, 324, 325, 326, 327, 2239, 2303, 2367] h h := pv_Fr.rf
  have L71 : ∀ (nn : Nat) (h_71 : pv_H) (xL3_71 : Int) (o2_71 : Option Value), (pv_Ty τ ρ h_71) → (pv_Fr τ [323, 324, 325, 326, 327, 2239, 2303, 2367] h h_71) → (0 ≤ xL3_71 ∧ xL3_71 ≤ 18) → 18 - xL3_71 < nn → pv_T K 95 71 (pv_fl [some (.ref a0), some (.ref a1), o2_71, some (.int (pv_I xL3_71))]) [] h_71 (Q95 τ ρ h a0 a1 x2) := by
    intro nn
    induction nn with
    | zero => intro h_71 xL3_71 o2_71 hT_71 hF_71 rL3_71 hm; exfalso; omega
    | succ nn ih71 =>
      intro h_71 xL3_71 o2_71 hT_71 hF_71 rL3_71 hm71
      refine pw_iload_n d95_71 rfl ?_
      refine pw_aload_n d95_72 rfl ?_
      refine pw_getI d95_73 g95_45 hT_71 hA1 rfl rfl (fun u16212 vu16212 => ?_)
      refine pw_icmp_ge d95_76 rfl (by omega) (by omega) (fun c16213 => ?_) (fun c16213 => ?_)
      · refine pw_iconst d95_133 ?_
        refine pw_aload_n d95_134 rfl ?_
        refine pw_getI d95_135 g95_30 hT_71 hA0 rfl rfl (fun u16214 vu16214 => ?_)
        refine pw_ishl d95_138 (fun z16215 hz16215 ez16215 => ?_)
        exact pw_ireturn d95_139 t95 ⟨hT_71, hF_71, z16215, rfl, (by omega), (by omega)⟩
      · refine pw_aload_n d95_79 rfl ?_
        refine pw_getR d95_80 g95_15 hT_71 hA0 rfl rfl (fun t16216 => ?_)
        have t16216 : τ (ρ a0 1) = some 35 := t16216
        refine pw_iload_n d95_83 rfl ?_
        refine pw_aload_n d95_84 rfl ?_
        refine pw_iload_n d95_85 rfl ?_
        refine pw_callV1 d95_86 k95_48 hT_71 hA1 rfl rfl rfl (c40 (τ := τ) (ρ := ρ) hT_71 hA1 (by omega)) (fun r16217 h16218 q16219 => ?_)
        obtain ⟨eh16218, z16222, ez16222, lz16222, uz16222⟩ := q16219
        subst eh16218
        subst ez16222
        refine pw_iast d95_89 hT_71 t16216 rfl rfl rfl (by omega) (by omega) (by omega) (by omega) (fun h16223 T16224 F16225 E16226 => ?_)
        have f16227 := hF_71.tr (F16225.up (by decide))
        have q16228 := ((F16225 a1 2 hA1).1 1 (by decide)).1
        refine pw_aload_n d95_90 rfl ?_
        refine pw_getR d95_91 g95_18 T16224 hA0 rfl rfl (fun t16229 => ?_)
        have t16229 : τ (ρ a0 2) = some 36 := t16229
        refine pw_iload_n d95_94 rfl ?_
        refine pw_iconst d95_95 ?_
        refine pw_iast d95_96 T16224 t16229 rfl rfl rfl (by omega) (by omega) (by omega) (by omega) (fun h16230 T16231 F16232 E16233 => ?_)
        have f16234 := f16227.tr (F16232.up (by decide))
        have q16235 := ((F16232 a1 2 hA1).1 1 (by decide)).1
        refine pw_aload_n d95_97 rfl ?_
        refine pw_dup d95_98 rfl ?_
        refine pw_getI d95_99 g95_36 T16231 hA0 rfl rfl (fun u16236 vu16236 => ?_)
        refine pw_aload_n d95_102 rfl ?_
        refine pw_iload_n d95_103 rfl ?_
        refine pw_iconst d95_104 ?_
        refine pw_callS3 d95_105 k95_51 rfl rfl (c96 (τ := τ) (ρ := ρ) T16231 hA1 (by omega) (by omega)) (fun r16237 h16238 q16239 => ?_)
        obtain ⟨eh16238, z16242, ez16242, lz16242, uz16242⟩ := q16239
        subst eh16238
        subst ez16242
        refine pw_iadd d95_108 ?_
        refine pw_any (fun z16243 hz16243 ez16243 => ?_)
        refine pw_putI d95_109 g95_36 w5_5 T16231 hA0 rfl rfl rfl (by omega) (by omega) (fun h16244 T16245 F16246 E16247 => ?_)
        have f16248 := f16234.tr (F16246.up (by decide))
        have q16249 := ((F16246 a1 2 hA1).1 1 (by decide)).1
        refine pw_aload_n d95_112 rfl ?_
        refine pw_dup d95_113 rfl ?_
        refine pw_getI d95_114 g95_39 T16245 hA0 rfl rfl (fun u16250 vu16250 => ?_)
        refine pw_aload_n d95_117 rfl ?_
        refine pw_iload_n d95_118 rfl ?_
        refine pw_iconst d95_119 ?_
        refine pw_callS3 d95_120 k95_55 rfl rfl (c98 (τ := τ) (ρ := ρ) T16245 hA1 (by omega) (by omega)) (fun r16251 h16252 q16253 => ?_)
        obtain ⟨eh16252, z16256, ez16256, lz16256, uz16256⟩ := q16253
        subst eh16252
        subst ez16256
        refine pw_iadd d95_123 ?_
        refine pw_any (fun z16257 hz16257 ez16257 => ?_)
        refine pw_putI d95_124 g95_39 w5_6 T16245 hA0 rfl rfl rfl (by omega) (by omega) (fun h16258 T16259 F16260 E16261 => ?_)
        have f16262 := f16248.tr (F16260.up (by decide))
        have q16263 := ((F16260 a0 5 hA0).1 5 (by decide)).1
        have q16264 := ((F16260 a1 2 hA1).1 1 (by decide)).1
        refine pw_iinc d95_127 m95 rfl rfl rfl ?_
        refine pw_goto d95_130 rfl ?_
        exact ih71 h16258 ((xL3_71 + 1)) _ T16259 f16262 (by omega) (by omega)
  have L7 : ∀ (nn : Nat) (h_7 : pv_H) (xL3_7 : Int), (pv_Ty τ ρ h_7) → (pv_Fr τ [323, 324, 325, 326, 327, 2239, 2303, 2367] h h_7) → ((-2147483648) ≤ x2 ∧ x2 ≤ 2147483647) → (0 ≤ xL3_7 ∧ xL3_7 ≤ 10) → (pv_fI h_7 a0 3 ≤ xL3_7) → 10 - xL3_7 < nn → pv_T K 95 7 (pv_fl [some (.ref a0), some (.ref a1), some (.int (pv_I x2)), some (.int (pv_I xL3_7))]) [] h_7 (Q95 τ ρ h a0 a1 x2) := by
    intro nn
    induction nn with
    | zero => intro h_7 xL3_7 hT_7 hF_7 rL2_7 rL3_7 i0_7 hm; exfalso; omega
    | succ nn ih7 =>
      intro h_7 xL3_7 hT_7 hF_7 rL2_7 rL3_7 i0_7 hm7
      have J43 : ∀ (h_43 : pv_H), (pv_Ty τ ρ h_43) → (pv_Fr τ [323, 324, 325, 326, 327, 2239, 2303, 2367] h h_43) → ((-2147483648) ≤ x2 ∧ x2 ≤ 2147483647) → (0 ≤ xL3_7 ∧ xL3_7 ≤ 9) → (pv_fI h_43 a0 3 ≤ xL3_7 + 1) → pv_T K 95 43 (pv_fl [some (.ref a0), some (.ref a1), some (.int (pv_I x2)), some (.int (pv_I xL3_7))]) [] h_43 (Q95 τ ρ h a0 a1 x2) := by
        intro h_43 hT_43 hF_43 rL2_43 rL3_43 i0_43
        refine pw_iinc d95_43 m95 rfl rfl rfl ?_
        refine pw_goto d95_46 rfl ?_
        exact ih7 h_43 ((xL3_7 + 1)) hT_43 hF_43 (by omega) (by omega) (by omega) (by omega)
      refine pw_iload_n d95_7 rfl ?_
      refine pw_aload_n d95_8 rfl ?_
      refine pw_getI d95_9 g95_21 hT_7 hA1 rfl rfl (fun u16265 vu16265 => ?_)
      refine pw_icmp_ge d95_12 rfl (by omega) (by omega) (fun c16266 => ?_) (fun c16266 => ?_)
      · refine pw_aload_n d95_49 rfl ?_
        refine pw_iconst d95_50 ?_
        refine pw_putI d95_51 g95_33 w5_4 hT_7 hA0 rfl rfl rfl (by omega) (by omega) (fun h16267 T16268 F16269 E16270 => ?_)
        have f16271 := hF_7.tr (F16269.up (by decide))
        have q16272 := ((F16269 a1 2 hA1).1 0 (by decide)).1
        refine pw_aload_n d95_54 rfl ?_
        refine pw_iconst d95_55 ?_
        refine pw_putI d95_56 g95_36 w5_5 T16268 hA0 rfl rfl rfl (by omega) (by omega) (fun h16273 T16274 F16275 E16276 => ?_)
        have f16277 := f16271.tr (F16275.up (by decide))
        have q16278 := ((F16275 a0 5 hA0).1 4 (by decide)).1
        have q16279 := ((F16275 a1 2 hA1).1 0 (by decide)).1
        refine pw_aload_n d95_59 rfl ?_
        refine pw_iconst d95_60 ?_
        refine pw_putI d95_61 g95_39 w5_6 T16274 hA0 rfl rfl rfl (by omega) (by omega) (fun h16280 T16281 F16282 E16283 => ?_)
        have f16284 := f16277.tr (F16282.up (by decide))
        have q16285 := ((F16282 a0 5 hA0).1 4 (by decide)).1
        have q16286 := ((F16282 a0 5 hA0).1 5 (by decide)).1
        have q16287 := ((F16282 a1 2 hA1).1 0 (by decide)).1
        refine pw_aload_n d95_64 rfl ?_
        refine pw_iconst d95_65 ?_
        refine pw_putI d95_66 g95_42 w5_7 T16281 hA0 rfl rfl rfl (by omega) (by omega) (fun h16288 T16289 F16290 E16291 => ?_)
        have f16292 := f16284.tr (F16290.up (by decide))
        have q16293 := ((F16290 a0 5 hA0).1 4 (by decide)).1
        have q16294 := ((F16290 a0 5 hA0).1 5 (by decide)).1
        have q16295 := ((F16290 a0 5 hA0).1 6 (by decide)).1
        have q16296 := ((F16290 a1 2 hA1).1 0 (by decide)).1
        refine pw_iconst d95_69 ?_
        refine pw_istore_n d95_70 m95 rfl rfl ?_
        exact L71 _ h16288 (0) _ T16289 f16292 (by omega) (pv_mu _)
      · refine pw_iload_n d95_15 rfl ?_
        refine pw_iload_n d95_16 rfl ?_
        refine pw_ishr d95_17 (fun z16297 hz16297 ez16297 => ?_)
        refine pw_iconst d95_18 ?_
        refine pw_iand d95_19 (fun z16298 hz16298 ez16298 => ?_)
        refine pw_if_eq d95_20 rfl (by omega) (fun c16299 => ?_) (fun c16299 => ?_)
        · exact J43 h_7 hT_7 hF_7 (by omega) (by omega) (by omega)
        · refine pw_aload_n d95_23 rfl ?_
          refine pw_getR d95_24 g95_9 hT_7 hA0 rfl rfl (fun t16300 => ?_)
          have t16300 : τ (ρ a0 0) = some 34 := t16300
          refine pw_aload_n d95_27 rfl ?_
          refine pw_getI d95_28 g95_30 hT_7 hA0 rfl rfl (fun u16301 vu16301 => ?_)
          refine pw_iload_n d95_31 rfl ?_
          refine pw_iast d95_32 hT_7 t16300 rfl rfl rfl (by omega) (by omega) (by omega) (by omega) (fun h16302 T16303 F16304 E16305 => ?_)
          have f16306 := hF_7.tr (F16304.up (by decide))
          have q16307 := ((F16304 a0 5 hA0).1 3 (by decide)).1
          have q16308 := ((F16304 a1 2 hA1).1 0 (by decide)).1
          refine pw_aload_n d95_33 rfl ?_
          refine pw_dup d95_34 rfl ?_
          refine pw_getI d95_35 g95_30 T16303 hA0 rfl rfl (fun u16309 vu16309 => ?_)
          refine pw_iconst d95_38 ?_
          refine pw_iadd d95_39 ?_
          refine pw_putI d95_40 g95_30 w5_3 T16303 hA0 rfl rfl rfl (by omega) (by omega) (fun h16310 T16311 F16312 E16313 => ?_)
          have f16314 := f16306.tr (F16312.up (by decide))
          have q16315 := ((F16312 a1 2 hA1).1 0 (by decide)).1
          exact J43 h16310 T16311 f16314 (by omega) (by omega) (by omega)
  refine pw_aload_n d95_0 rfl ?_
  refine pw_iconst d95_1 ?_
  refine pw_putI d95_2 g95_30 w5_3 hT hA0 rfl rfl rfl (by omega) (by omega) (fun h16316 T16317 F16318 E16319 => ?_)
  have f16320 := hF0.tr (F16318.up (by decide))
  refine pw_iconst d95_5 ?_
  refine pw_istore_n d95_6 m95 rfl rfl ?_
  exact L7 _ h16316 (0) T16317 f16320 (by omega) (by omega) (by omega) (pv_mu _)

abbrev Q100 (τ : Nat → Option Nat) (ρ : Nat → Nat → Nat) (h : pv_H) (a0 : Nat) (a1 : Nat) (x2 : Int) (x3 : Int) : Option Value → pv_H → Prop := fun r h' => pv_Ty τ ρ h' ∧ pv_Fr τ [325, 326, 2367] h h' ∧ r = none
set_option maxHeartbeats 4000000 in
set_option maxRecDepth 20000 in
/-- AngleNet$Laying.move(LAngleNet$Net;II)V -/
theorem c100 {τ : Nat → Option Nat} {ρ : Nat → Nat → Nat} {K : Nat → Nat} {h : pv_H} {a0 : Nat} {a1 : Nat} {x2 : Int} {x3 : Int} (hT : pv_Ty τ ρ h) (hA0 : τ a0 = some 5) (hA1 : τ a1 = some 2) (hX2 : (-2147483648) ≤ x2 ∧ x2 ≤ 2147483647) (hX3 : (-2147483648) ≤ x3 ∧ x3 ≤ 2147483647) : pv_C K 100 [.ref a0, .ref a1, .int (pv_I x2), .int (pv_I x3)] h (Q100 τ ρ h a0 a1 x2 x3) := by
  refine pw_entry 2 ?_
  show pv_T K 100 0 (pv_fl [some (.ref a0), some (.ref a1), some (.int (pv_I x2)), some (.int (pv_I x3)), none, none]) [] h (Q100 τ ρ h a0 a1 x2 x3)
  have hF0 : pv_Fr τ [325, 326, 2367] h h := pv_Fr.rf
  have L3 : ∀ (nn : Nat) (h_3 : pv_H) (xL4_3 : Int) (o5_3 : Option Value), (pv_Ty τ ρ h_3) → (pv_Fr τ [325, 326, 2367] h h_3) → ((-2147483648) ≤ x2 ∧ x2 ≤ 2147483647) → ((-2147483648) ≤ x3 ∧ x3 ≤ 2147483647) → (0 ≤ xL4_3 ∧ xL4_3 ≤ 18) → 18 - xL4_3 < nn → pv_T K 100 3 (pv_fl [some (.ref a0), some (.ref a1), some (.int (pv_I x2)), some (.int (pv_I x3)), some (.int (pv_I xL4_3)), o5_3]) [] h_3 (Q100 τ ρ h a0 a1 x2 x3) := by
    intro nn
    induction nn with
    | zero => intro h_3 xL4_3 o5_3 hT_3 hF_3 rL2_3 rL3_3 rL4_3 hm; exfalso; omega
    | succ nn ih3 =>
      intro h_3 xL4_3 o5_3 hT_3 hF_3 rL2_3 rL3_3 rL4_3 hm3
      have J102 : ∀ (h_102 : pv_H) (o5_102 : Option Value), (pv_Ty τ ρ h_102) → (pv_Fr τ [325, 326, 2367] h h_102) → ((-2147483648) ≤ x2 ∧ x2 ≤ 2147483647) → ((-2147483648) ≤ x3 ∧ x3 ≤ 2147483647) → (0 ≤ xL4_3 ∧ xL4_3 ≤ 17) → pv_T K 100 102 (pv_fl [some (.ref a0), some (.ref a1), some (.int (pv_I x2)), some (.int (pv_I x3)), some (.int (pv_I xL4_3)), o5_102]) [] h_102 (Q100 τ ρ h a0 a1 x2 x3) := by
        intro h_102 o5_102 hT_102 hF_102 rL2_102 rL3_102 rL4_102
        refine pw_iinc d100_102 m100 rfl rfl rfl ?_
        refine pw_goto d100_105 rfl ?_
        exact ih3 h_102 ((xL4_3 + 1)) _ hT_102 hF_102 (by omega) (by omega) (by omega) (by omega)
      refine pw_iload d100_3 rfl ?_
      refine pw_aload_n d100_5 rfl ?_
      refine pw_getI d100_6 g100_45 hT_3 hA1 rfl rfl (fun u17065 vu17065 => ?_)
      refine pw_icmp_ge d100_9 rfl (by omega) (by omega) (fun c17066 => ?_) (fun c17066 => ?_)
      · exact pw_return d100_108 t100 ⟨hT_3, hF_3, rfl⟩
      · refine pw_aload_n d100_12 rfl ?_
        refine pw_getR d100_13 g100_15 hT_3 hA0 rfl rfl (fun t17067 => ?_)
        have t17067 : τ (ρ a0 1) = some 35 := t17067
        refine pw_iload d100_16 rfl ?_
        refine pw_iald d100_18 hT_3 t17067 rfl rfl (by omega) (by omega) (fun u17068 vu17068 => ?_)
        refine pw_iload_n d100_19 rfl ?_
        refine pw_ishr d100_20 (fun z17069 hz17069 ez17069 => ?_)
        refine pw_iconst d100_21 ?_
        refine pw_iand d100_22 (fun z17070 hz17070 ez17070 => ?_)
        refine pw_if_eq d100_23 rfl (by omega) (fun c17071 => ?_) (fun c17071 => ?_)
        · exact J102 h_3 _ hT_3 hF_3 (by omega) (by omega) (by omega)
        · refine pw_aload_n d100_26 rfl ?_
          refine pw_getR d100_27 g100_18 hT_3 hA0 rfl rfl (fun t17072 => ?_)
          have t17072 : τ (ρ a0 2) = some 36 := t17072
          refine pw_iload d100_30 rfl ?_
          refine pw_iald d100_32 hT_3 t17072 rfl rfl (by omega) (by omega) (fun u17073 vu17073 => ?_)
          refine pw_istore d100_33 m100 rfl rfl ?_
          refine pw_aload_n d100_35 rfl ?_
          refine pw_dup d100_36 rfl ?_
          refine pw_getI d100_37 g100_36 hT_3 hA0 rfl rfl (fun u17074 vu17074 => ?_)
          refine pw_aload_n d100_40 rfl ?_
          refine pw_iload d100_41 rfl ?_
          refine pw_iload d100_43 rfl ?_
          refine pw_iload_n d100_45 rfl ?_
          refine pw_iadd d100_46 ?_
          refine pw_any (fun z17075 hz17075 ez17075 => ?_)
          refine pw_callS3 d100_47 k100_51 rfl rfl (c96 (τ := τ) (ρ := ρ) hT_3 hA1 (by omega) (by omega)) (fun r17076 h17077 q17078 => ?_)
          obtain ⟨eh17077, z17081, ez17081, lz17081, uz17081⟩ := q17078
          subst eh17077
          subst ez17081
          refine pw_aload_n d100_50 rfl ?_
          refine pw_iload d100_51 rfl ?_
          refine pw_iload d100_53 rfl ?_
          refine pw_callS3 d100_55 k100_51 rfl rfl (c96 (τ := τ) (ρ := ρ) hT_3 hA1 (by omega) (by omega)) (fun r17082 h17083 q17084 => ?_)
          obtain ⟨eh17083, z17087, ez17087, lz17087, uz17087⟩ := q17084
          subst eh17083
          subst ez17087
          refine pw_isub d100_58 ?_
          refine pw_iadd d100_59 ?_
          refine pw_any (fun z17088 hz17088 ez17088 => ?_)
          refine pw_putI d100_60 g100_36 w5_5 hT_3 hA0 rfl rfl rfl (by omega) (by omega) (fun h17089 T17090 F17091 E17092 => ?_)
          have f17093 := hF_3.tr (F17091.up (by decide))
          have q17094 := ((F17091 a1 2 hA1).1 1 (by decide)).1
          refine pw_aload_n d100_63 rfl ?_
          refine pw_dup d100_64 rfl ?_
          refine pw_getI d100_65 g100_39 T17090 hA0 rfl rfl (fun u17095 vu17095 => ?_)
          refine pw_aload_n d100_68 rfl ?_
          refine pw_iload d100_69 rfl ?_
          refine pw_iload d100_71 rfl ?_
          refine pw_iload_n d100_73 rfl ?_
          refine pw_iadd d100_74 ?_
          refine pw_any (fun z17096 hz17096 ez17096 => ?_)
          refine pw_callS3 d100_75 k100_55 rfl rfl (c98 (τ := τ) (ρ := ρ) T17090 hA1 (by omega) (by omega)) (fun r17097 h17098 q17099 => ?_)
          obtain ⟨eh17098, z17102, ez17102, lz17102, uz17102⟩ := q17099
          subst eh17098
          subst ez17102
          refine pw_aload_n d100_78 rfl ?_
          refine pw_iload d100_79 rfl ?_
          refine pw_iload d100_81 rfl ?_
          refine pw_callS3 d100_83 k100_55 rfl rfl (c98 (τ := τ) (ρ := ρ) T17090 hA1 (by omega) (by omega)) (fun r17103 h17104 q17105 => ?_)
          obtain ⟨eh17104, z17108, ez17108, lz17108, uz17108⟩ := q17105
          subst eh17104
          subst ez17108
          refine pw_isub d100_86 ?_
          refine pw_iadd d100_87 ?_
          refine pw_any (fun z17109 hz17109 ez17109 => ?_)
          refine pw_putI d100_88 g100_39 w5_6 T17090 hA0 rfl rfl rfl (by omega) (by omega) (fun h17110 T17111 F17112 E17113 => ?_)
          have f17114 := f17093.tr (F17112.up (by decide))
          have q17115 := ((F17112 a0 5 hA0).1 5 (by decide)).1
          have q17116 := ((F17112 a1 2 hA1).1 1 (by decide)).1
          refine pw_aload_n d100_91 rfl ?_
          refine pw_getR d100_92 g100_18 T17111 hA0 rfl rfl (fun t17117 => ?_)
          have t17117 : τ (ρ a0 2) = some 36 := t17117
          refine pw_iload d100_95 rfl ?_
          refine pw_iload d100_97 rfl ?_
          refine pw_iload_n d100_99 rfl ?_
          refine pw_iadd d100_100 ?_
          refine pw_any (fun z17118 hz17118 ez17118 => ?_)
          refine pw_iast d100_101 T17111 t17117 rfl rfl rfl (by omega) (by omega) (by omega) (by omega) (fun h17119 T17120 F17121 E17122 => ?_)
          have f17123 := f17114.tr (F17121.up (by decide))
          have q17124 := ((F17121 a0 5 hA0).1 5 (by decide)).1
          have q17125 := ((F17121 a0 5 hA0).1 6 (by decide)).1
          have q17126 := ((F17121 a1 2 hA1).1 1 (by decide)).1
          exact J102 h17119 _ T17120 f17123 (by omega) (by omega) (by omega)
  refine pw_iconst d100_0 ?_
  refine pw_istore d100_1 m100 rfl rfl ?_
  exact L3 _ h (0) _ hT hF0 (by omega) (by omega) (by omega) (pv_mu _)

abbrev Q99 (τ : Nat → Option Nat) (ρ : Nat → Nat → Nat) (h : pv_H) (a0 : Nat) (a1 : Nat) (x2 : Int) : Option Value → pv_H → Prop := fun r h' => pv_Ty τ ρ h' ∧ pv_Fr τ [324, 325, 326, 327, 2367] h h' ∧ r = none
set_option maxHeartbeats 4000000 in
set_option maxRecDepth 20000 in
/-- AngleNet$Laying.goTo(LAngleNet$Net;I)V -/
theorem c99 {τ : Nat → Option Nat} {ρ : Nat → Nat → Nat} {K : Nat → Nat} {h : pv_H} {a0 : Nat} {a1 : Nat} {x2 : Int} (hT : pv_Ty τ ρ h) (hA0 : τ a0 = some 5) (hA1 : τ a1 = some 2) (hX2 : (-2147483648) ≤ x2 ∧ x2 ≤ 2147483647) : pv_C K 99 [.ref a0, .ref a1, .int (pv_I x2)] h (Q99 τ ρ h a0 a1 x2) := by
  refine pw_entry 3 ?_
  show pv_T K 99 0 (pv_fl [some (.ref a0), some (.ref a1), some (.int (pv_I x2)), none, none, none]) [] h (Q99 τ ρ h a0 a1 x2)
  have hF0 : pv_Fr τ [324, 325, 326, 327, 2367] h h := pv_Fr.rf
  have J43 : ∀ (xL4_43 xS0_43 : Int) (o2_43 o3_43 o5_43 : Option Value), (0 ≤ xL4_43 ∧ xL4_43 ≤ 9) → ((-1) ≤ xS0_43 ∧ xS0_43 ≤ 1) → pv_T K 99 43 (pv_fl [some (.ref a0), some (.ref a1), o2_43, o3_43, some (.int (pv_I xL4_43)), o5_43]) [.int (pv_I xS0_43)] h (Q99 τ ρ h a0 a1 x2) := by
    intro xL4_43 xS0_43 o2_43 o3_43 o5_43 rL4_43 rS0_43
    refine pw_istore d99_43 m99 rfl rfl ?_
    refine pw_aload_n d99_45 rfl ?_
    refine pw_dup d99_46 rfl ?_
    refine pw_getI d99_47 g99_33 hT hA0 rfl rfl (fun u17213 vu17213 => ?_)
    refine pw_iconst d99_50 ?_
    refine pw_iload d99_51 rfl ?_
    refine pw_ishl d99_53 (fun z17214 hz17214 ez17214 => ?_)
    refine pw_ixor d99_54 (fun z17215 hz17215 ez17215 => ?_)
    refine pw_putI d99_55 g99_33 w5_4 hT hA0 rfl rfl rfl (by omega) (by omega) (fun h17216 T17217 F17218 E17219 => ?_)
    have f17220 := hF0.tr (F17218.up (by decide))
    refine pw_aload_n d99_58 rfl ?_
    refine pw_dup d99_59 rfl ?_
    refine pw_getI d99_60 g99_42 T17217 hA0 rfl rfl (fun u17221 vu17221 => ?_)
    refine pw_iload d99_63 rfl ?_
    refine pw_aload_n d99_65 rfl ?_
    refine pw_getR d99_66 g99_27 T17217 hA1 rfl rfl (fun t17222 => ?_)
    have t17222 : τ (ρ a1 7) = some 22 := t17222
    refine pw_iload d99_69 rfl ?_
    refine pw_iald d99_71 T17217 t17222 rfl rfl (by omega) (by omega) (fun u17223 vu17223 => ?_)
    refine pw_imul d99_72 ?_
    refine pw_any (fun z17224 hz17224 ez17224 => ?_)
    refine pw_iadd d99_73 ?_
    refine pw_any (fun z17225 hz17225 ez17225 => ?_)
    refine pw_putI d99_74 g99_42 w5_7 T17217 hA0 rfl rfl rfl (by omega) (by omega) (fun h17226 T17227 F17228 E17229 => ?_)
    have f17230 := f17220.tr (F17228.up (by decide))
    have q17231 := ((F17228 a0 5 hA0).1 4 (by decide)).1
    refine pw_aload_n d99_77 rfl ?_
    refine pw_aload_n d99_78 rfl ?_
    refine pw_iload d99_79 rfl ?_
    refine pw_iload d99_81 rfl ?_
    refine pw_callV3 d99_83 k99_61 T17227 hA0 rfl rfl rfl (c100 (τ := τ) (ρ := ρ) T17227 hA0 hA1 (by omega) (by omega)) (fun r17232 h17233 q17234 => ?_)
    obtain ⟨T17235, F17236, ez17237⟩ := q17234
    subst ez17237
    have f17238 := f17230.tr (F17236.up (by decide))
    have q17239 := ((F17236 a0 5 hA0).1 4 (by decide)).1
    have q17240 := ((F17236 a0 5 hA0).1 7 (by decide)).1
    exact pw_return d99_86 t99 ⟨T17235, f17238, rfl⟩
  refine pw_iload_n d99_0 rfl ?_
  refine pw_callS1 d99_1 k99_58 rfl rfl (c76 (τ := τ) (ρ := ρ) (by omega)) (fun r17241 h17242 q17243 => ?_)
  obtain ⟨eh17242, z17246, ez17246, lz17246, uz17246⟩ := q17243
  subst eh17242
  subst ez17246
  refine pw_istore_n d99_4 m99 rfl rfl ?_
  refine pw_iload_n d99_5 rfl ?_
  refine pw_if_lt d99_6 rfl (by omega) (fun c17247 => ?_) (fun c17247 => ?_)
  · exfalso; omega
  · refine pw_iload_n d99_9 rfl ?_
    refine pw_aload_n d99_10 rfl ?_
    refine pw_getI d99_11 g99_30 hT hA0 rfl rfl (fun u17248 vu17248 => ?_)
    refine pw_icmp_lt d99_14 rfl (by omega) (by omega) (fun c17249 => ?_) (fun c17249 => ?_)
    · refine pw_aload_n d99_18 rfl ?_
      refine pw_getR d99_19 g99_9 hT hA0 rfl rfl (fun t17250 => ?_)
      have t17250 : τ (ρ a0 0) = some 34 := t17250
      refine pw_iload_n d99_22 rfl ?_
      refine pw_iald d99_23 hT t17250 rfl rfl (by omega) (by omega) (fun u17251 vu17251 => ?_)
      refine pw_istore d99_24 m99 rfl rfl ?_
      refine pw_aload_n d99_26 rfl ?_
      refine pw_getI d99_27 g99_33 hT hA0 rfl rfl (fun u17252 vu17252 => ?_)
      refine pw_iload d99_30 rfl ?_
      refine pw_ishr d99_32 (fun z17253 hz17253 ez17253 => ?_)
      refine pw_iconst d99_33 ?_
      refine pw_iand d99_34 (fun z17254 hz17254 ez17254 => ?_)
      refine pw_if_ne d99_35 rfl (by omega) (fun c17255 => ?_) (fun c17255 => ?_)
      · refine pw_iconst d99_42 ?_
        exact J43 ((pv_aI h (ρ a0 0) (z17246).toNat)) ((-1)) _ _ _ (by omega) (by omega)
      · refine pw_iconst d99_38 ?_
        refine pw_goto d99_39 rfl ?_
        exact J43 ((pv_aI h (ρ a0 0) (z17246).toNat)) (1) _ _ _ (by omega) (by omega)
    · exact pw_return d99_17 t99 ⟨hT, hF0, rfl⟩

abbrev Q101 (τ : Nat → Option Nat) (ρ : Nat → Nat → Nat) (h : pv_H) (a0 : Nat) : Option Value → pv_H → Prop := fun r h' => h = h' ∧ ∃ z : Int, r = some (.int (pv_I z)) ∧ 0 ≤ z ∧ z ≤ 2
set_option maxHeartbeats 4000000 in
set_option maxRecDepth 20000 in
/-- AngleNet$Laying.way()I -/
theorem c101 {τ : Nat → Option Nat} {ρ : Nat → Nat → Nat} {K : Nat → Nat} {h : pv_H} {a0 : Nat} (hT : pv_Ty τ ρ h) (hA0 : τ a0 = some 5) : pv_C K 101 [.ref a0] h (Q101 τ ρ h a0) := by
  refine pw_entry 0 ?_
  show pv_T K 101 0 (pv_fl [some (.ref a0)]) [] h (Q101 τ ρ h a0)
  refine pw_aload_n d101_0 rfl ?_
  refine pw_getI d101_1 g101_42 hT hA0 rfl rfl (fun u17268 vu17268 => ?_)
  refine pw_aload_n d101_4 rfl ?_
  refine pw_getI d101_5 g101_36 hT hA0 rfl rfl (fun u17269 vu17269 => ?_)
  refine pw_icmp_le d101_8 rfl (by omega) (by omega) (fun c17270 => ?_) (fun c17270 => ?_)
  · refine pw_aload_n d101_13 rfl ?_
    refine pw_getI d101_14 g101_42 hT hA0 rfl rfl (fun u17271 vu17271 => ?_)
    refine pw_aload_n d101_17 rfl ?_
    refine pw_getI d101_18 g101_39 hT hA0 rfl rfl (fun u17272 vu17272 => ?_)
    refine pw_icmp_ge d101_21 rfl (by omega) (by omega) (fun c17273 => ?_) (fun c17273 => ?_)
    · refine pw_iconst d101_28 ?_
      exact pw_ireturn d101_29 t101 ⟨rfl, 0, rfl, (by omega), (by omega)⟩
    · refine pw_iconst d101_24 ?_
      refine pw_goto d101_25 rfl ?_
      exact pw_ireturn d101_29 t101 ⟨rfl, 2, rfl, (by omega), (by omega)⟩
  · refine pw_iconst d101_11 ?_
    exact pw_ireturn d101_12 t101 ⟨rfl, 1, rfl, (by omega), (by omega)⟩

abbrev Q93 (τ : Nat → Option Nat) (ρ : Nat → Nat → Nat) (h : pv_H) (a0 : Nat) (a1 : Nat) : Option Value → pv_H → Prop := fun r h' => pv_Ty τ ρ h' ∧ pv_Fr τ [323, 324, 325, 326, 327, 2239, 2303, 2367] h h' ∧ ∃ z : Int, r = some (.int (pv_I z)) ∧ (-2147483648) ≤ z ∧ z ≤ 2147483647
set_option maxHeartbeats 4000000 in
set_option maxRecDepth 20000 in
/-- AngleNet$Laying.barring(LAngleNet$Net;)I -/
theorem c93 {τ : Nat → Option Nat} {ρ : Nat → Nat → Nat} {K : Nat → Nat} {h : pv_H} {a0 : Nat} {a1 : Nat} (hT : pv_Ty τ ρ h) (hA0 : τ a0 = some 5) (hA1 : τ a1 = some 2) : pv_C K 93 [.ref a0, .ref a1] h (Q93 τ ρ h a0 a1) := by
  refine pw_entry 3 ?_
  show pv_T K 93 0 (pv_fl [some (.ref a0), some (.ref a1), none, none, none]) [] h (Q93 τ ρ h a0 a1)
  have hF0 : pv_Fr τ [323, 324, 325, 326, 327, 2239, 2303, 2367] h h := pv_Fr.rf
  have L15 : ∀ (nn : Nat) (h_15 : pv_H) (xL2_15 xL3_15 xL4_15 : Int), (pv_Ty τ ρ h_15) → (pv_Fr τ [323, 324, 325, 326, 327, 2239, 2303, 2367] h h_15) → ((-2147483648) ≤ xL2_15 ∧ xL2_15 ≤ 2147483647) → ((-2147483648) ≤ xL3_15 ∧ xL3_15 ≤ 2147483647) → (0 ≤ xL4_15 ∧ xL4_15 ≤ 2147483647) → 2147483647 - xL4_15 < nn → pv_T K 93 15 (pv_fl [some (.ref a0), some (.ref a1), some (.int (pv_I xL2_15)), some (.int (pv_I xL3_15)), some (.int (pv_I xL4_15))]) [] h_15 (Q93 τ ρ h a0 a1) := by
    intro nn
    induction nn with
    | zero => intro h_15 xL2_15 xL3_15 xL4_15 hT_15 hF_15 rL2_15 rL3_15 rL4_15 hm; exfalso; omega
    | succ nn ih15 =>
      intro h_15 xL2_15 xL3_15 xL4_15 hT_15 hF_15 rL2_15 rL3_15 rL4_15 hm15
      have J67 : ∀ (h_67 : pv_H) (xL3_67 : Int), (pv_Ty τ ρ h_67) → (pv_Fr τ [323, 324, 325, 326, 327, 2239, 2303, 2367] h h_67) → (1 ≤ xL2_15 ∧ xL2_15 ≤ 2147483647) → ((-2147483648) ≤ xL3_67 ∧ xL3_67 ≤ 2147483647) → (0 ≤ xL4_15 ∧ xL4_15 ≤ 2147483646) → pv_T K 93 67 (pv_fl [some (.ref a0), some (.ref a1), some (.int (pv_I xL2_15)), some (.int (pv_I xL3_67)), some (.int (pv_I xL4_15))]) [] h_67 (Q93 τ ρ h a0 a1) := by
        intro h_67 xL3_67 hT_67 hF_67 rL2_67 rL3_67 rL4_67
        refine pw_iinc d93_67 m93 rfl rfl rfl ?_
        refine pw_goto d93_70 rfl ?_
        exact ih15 h_67 (xL2_15) (xL3_67) ((xL4_15 + 1)) hT_67 hF_67 (by omega) (by omega) (by omega) (by omega)
      have J54 : ∀ (h_54 : pv_H) (o3_54 : Option Value), (pv_Ty τ ρ h_54) → (pv_Fr τ [323, 324, 325, 326, 327, 2239, 2303, 2367] h h_54) → (1 ≤ xL2_15 ∧ xL2_15 ≤ 2147483647) → (0 ≤ xL4_15 ∧ xL4_15 ≤ 2147483646) → pv_T K 93 54 (pv_fl [some (.ref a0), some (.ref a1), some (.int (pv_I xL2_15)), o3_54, some (.int (pv_I xL4_15))]) [] h_54 (Q93 τ ρ h a0 a1) := by
        intro h_54 o3_54 hT_54 hF_54 rL2_54 rL4_54
        refine pw_bipush d93_54 (by decide) ?_
        refine pw_aload_n d93_56 rfl ?_
        refine pw_getI d93_57 g93_33 hT_54 hA0 rfl rfl (fun u18768 vu18768 => ?_)
        refine pw_imul d93_60 ?_
        refine pw_aload_n d93_61 rfl ?_
        refine pw_callV0 d93_62 k93_91 hT_54 hA0 rfl rfl rfl (c101 (τ := τ) (ρ := ρ) hT_54 hA0) (fun r18769 h18770 q18771 => ?_)
        obtain ⟨eh18770, z18774, ez18774, lz18774, uz18774⟩ := q18771
        subst eh18770
        subst ez18774
        refine pw_iadd d93_65 ?_
        refine pw_any (fun z18775 hz18775 ez18775 => ?_)
        refine pw_istore_n d93_66 m93 rfl rfl ?_
        exact J67 h_54 (z18775) hT_54 hF_54 (by omega) (by omega) (by omega)
      refine pw_iload d93_15 rfl ?_
      refine pw_iload_n d93_17 rfl ?_
      refine pw_icmp_ge d93_18 rfl (by omega) (by omega) (fun c18776 => ?_) (fun c18776 => ?_)
      · refine pw_iload_n d93_73 rfl ?_
        exact pw_ireturn d93_74 t93 ⟨hT_15, hF_15, xL3_15, rfl, (by omega), (by omega)⟩
      · refine pw_aload_n d93_21 rfl ?_
        refine pw_aload_n d93_22 rfl ?_
        refine pw_iload d93_23 rfl ?_
        refine pw_callV2 d93_25 k93_87 hT_15 hA0 rfl rfl rfl (c99 (τ := τ) (ρ := ρ) hT_15 hA0 hA1 (by omega)) (fun r18777 h18778 q18779 => ?_)
        obtain ⟨T18780, F18781, ez18782⟩ := q18779
        subst ez18782
        have f18783 := hF_15.tr (F18781.up (by decide))
        refine pw_aload_n d93_28 rfl ?_
        refine pw_callV0 d93_29 k93_91 T18780 hA0 rfl rfl rfl (c101 (τ := τ) (ρ := ρ) T18780 hA0) (fun r18784 h18785 q18786 => ?_)
        obtain ⟨eh18785, z18789, ez18789, lz18789, uz18789⟩ := q18786
        subst eh18785
        subst ez18789
        refine pw_if_eq d93_32 rfl (by omega) (fun c18790 => ?_) (fun c18790 => ?_)
        · exact J67 h18778 (xL3_15) T18780 f18783 (by omega) (by omega) (by omega)
        · refine pw_iload_n d93_35 rfl ?_
          refine pw_iconst d93_36 ?_
          refine pw_icmp_eq d93_37 rfl (by omega) (by omega) (fun c18791 => ?_) (fun c18791 => ?_)
          · exact J54 h18778 _ T18780 f18783 (by omega) (by omega)
          · refine pw_aload_n d93_40 rfl ?_
            refine pw_getI d93_41 g93_33 T18780 hA0 rfl rfl (fun u18792 vu18792 => ?_)
            refine pw_iload_n d93_44 rfl ?_
            refine pw_bipush d93_45 (by decide) ?_
            refine pw_idivU d93_47 (by omega) (by omega) (fun z18793 hz18793 ez18793 => ?_)
            refine pw_callS2 d93_48 k93_95 rfl rfl (c102 (τ := τ) (ρ := ρ) (by omega) (by omega)) (fun r18794 h18795 q18796 => ?_)
            obtain ⟨eh18795, z18799, ez18799, lz18799, uz18799⟩ := q18796
            subst eh18795
            subst ez18799
            refine pw_if_eq d93_51 rfl (by omega) (fun c18800 => ?_) (fun c18800 => ?_)
            · exact J67 h18778 (xL3_15) T18780 f18783 (by omega) (by omega) (by omega)
            · exact J54 h18778 _ T18780 f18783 (by omega) (by omega)
  refine pw_aload_n d93_0 rfl ?_
  refine pw_aload_n d93_1 rfl ?_
  refine pw_aload_n d93_2 rfl ?_
  refine pw_callS1 d93_3 k93_79 rfl rfl (c94 (τ := τ) (ρ := ρ) hT hA1) (fun r18801 h18802 q18803 => ?_)
  obtain ⟨eh18802, z18806, ez18806, lz18806, uz18806⟩ := q18803
  subst eh18802
  subst ez18806
  refine pw_callV2 d93_6 k93_83 hT hA0 rfl rfl rfl (c95 (τ := τ) (ρ := ρ) hT hA0 hA1 (by omega)) (fun r18807 h18808 q18809 => ?_)
  obtain ⟨T18810, F18811, z18812, ez18812, lz18812, uz18812⟩ := q18809
  subst ez18812
  have f18813 := hF0.tr (F18811.up (by decide))
  refine pw_istore_n d93_9 m93 rfl rfl ?_
  refine pw_iconst d93_10 ?_
  refine pw_istore_n d93_11 m93 rfl rfl ?_
  refine pw_iconst d93_12 ?_
  refine pw_istore d93_13 m93 rfl rfl ?_
  exact L15 _ h18808 (z18812) ((-1)) (0) T18810 f18813 (by omega) (by omega) (by omega) (pv_mu _)

abbrev Q106 (τ : Nat → Option Nat) (ρ : Nat → Nat → Nat) (h : pv_H) (a0 : Nat) (a1 : Nat) (x2 : Int) (x3 : Int) : Option Value → pv_H → Prop := fun r h' => h = h' ∧ ∃ z : Int, r = some (.int (pv_I z)) ∧ (-2147483648) ≤ z ∧ z ≤ 2147483647
set_option maxHeartbeats 4000000 in
set_option maxRecDepth 20000 in
/-- AngleNet$Laying.mostForCorner(LAngleNet$Net;II)I -/
theorem c106 {τ : Nat → Option Nat} {ρ : Nat → Nat → Nat} {K : Nat → Nat} {h : pv_H} {a0 : Nat} {a1 : Nat} {x2 : Int} {x3 : Int} (hT : pv_Ty τ ρ h) (hA0 : τ a0 = some 5) (hA1 : τ a1 = some 2) (hX2 : 0 ≤ x2 ∧ x2 ≤ 17) (hX3 : (-2147483648) ≤ x3 ∧ x3 ≤ 2147483647) : pv_C K 106 [.ref a0, .ref a1, .int (pv_I x2), .int (pv_I x3)] h (Q106 τ ρ h a0 a1 x2 x3) := by
  refine pw_entry 1 ?_
  show pv_T K 106 0 (pv_fl [some (.ref a0), some (.ref a1), some (.int (pv_I x2)), some (.int (pv_I x3)), none]) [] h (Q106 τ ρ h a0 a1 x2 x3)
  refine pw_aload_n d106_0 rfl ?_
  refine pw_getR d106_1 g106_18 hT hA0 rfl rfl (fun t18874 => ?_)
  have t18874 : τ (ρ a0 2) = some 36 := t18874
  refine pw_iload_n d106_4 rfl ?_
  refine pw_iald d106_5 hT t18874 rfl rfl (by omega) (by omega) (fun u18875 vu18875 => ?_)
  refine pw_istore d106_6 m106 rfl rfl ?_
  refine pw_aload_n d106_8 rfl ?_
  refine pw_getI d106_9 g106_33 hT hA0 rfl rfl (fun u18876 vu18876 => ?_)
  refine pw_iload_n d106_12 rfl ?_
  refine pw_ishr d106_13 (fun z18877 hz18877 ez18877 => ?_)
  refine pw_iconst d106_14 ?_
  refine pw_iand d106_15 (fun z18878 hz18878 ez18878 => ?_)
  refine pw_if_eq d106_16 rfl (by omega) (fun c18879 => ?_) (fun c18879 => ?_)
  · refine pw_aload_n d106_47 rfl ?_
    refine pw_getI d106_48 g106_36 hT hA0 rfl rfl (fun u18880 vu18880 => ?_)
    refine pw_aload_n d106_51 rfl ?_
    refine pw_iload_n d106_52 rfl ?_
    refine pw_iload d106_53 rfl ?_
    refine pw_callS3 d106_55 k106_51 rfl rfl (c96 (τ := τ) (ρ := ρ) hT hA1 (by omega) (by omega)) (fun r18881 h18882 q18883 => ?_)
    obtain ⟨eh18882, z18886, ez18886, lz18886, uz18886⟩ := q18883
    subst eh18882
    subst ez18886
    refine pw_isub d106_58 ?_
    refine pw_aload_n d106_59 rfl ?_
    refine pw_getR d106_60 g106_66 hT hA1 rfl rfl (fun t18887 => ?_)
    have t18887 : τ (ρ a1 6) = some 21 := t18887
    refine pw_iload_n d106_63 rfl ?_
    refine pw_iald d106_64 hT t18887 rfl rfl (by omega) (by omega) (fun u18888 vu18888 => ?_)
    refine pw_iadd d106_65 ?_
    refine pw_aload_n d106_66 rfl ?_
    refine pw_getI d106_67 g106_69 hT hA1 rfl rfl (fun u18889 vu18889 => ?_)
    refine pw_iconst d106_70 ?_
    refine pw_iload d106_71 rfl ?_
    refine pw_isub d106_73 ?_
    refine pw_imul d106_74 ?_
    refine pw_any (fun z18890 hz18890 ez18890 => ?_)
    refine pw_isub d106_75 ?_
    refine pw_aload_n d106_76 rfl ?_
    refine pw_getI d106_77 g106_42 hT hA0 rfl rfl (fun u18891 vu18891 => ?_)
    refine pw_isub d106_80 ?_
    refine pw_any (fun z18892 hz18892 ez18892 => ?_)
    exact pw_ireturn d106_81 t106 ⟨rfl, z18892, rfl, (by omega), (by omega)⟩
  · refine pw_aload_n d106_19 rfl ?_
    refine pw_getI d106_20 g106_42 hT hA0 rfl rfl (fun u18893 vu18893 => ?_)
    refine pw_aload_n d106_23 rfl ?_
    refine pw_getI d106_24 g106_39 hT hA0 rfl rfl (fun u18894 vu18894 => ?_)
    refine pw_aload_n d106_27 rfl ?_
    refine pw_iload_n d106_28 rfl ?_
    refine pw_iload d106_29 rfl ?_
    refine pw_callS3 d106_31 k106_55 rfl rfl (c98 (τ := τ) (ρ := ρ) hT hA1 (by omega) (by omega)) (fun r18895 h18896 q18897 => ?_)
    obtain ⟨eh18896, z18900, ez18900, lz18900, uz18900⟩ := q18897
    subst eh18896
    subst ez18900
    refine pw_isub d106_34 ?_
    refine pw_isub d106_35 ?_
    refine pw_aload_n d106_36 rfl ?_
    refine pw_getI d106_37 g106_69 hT hA1 rfl rfl (fun u18901 vu18901 => ?_)
    refine pw_iload d106_40 rfl ?_
    refine pw_iconst d106_42 ?_
    refine pw_isub d106_43 ?_
    refine pw_imul d106_44 ?_
    refine pw_any (fun z18902 hz18902 ez18902 => ?_)
    refine pw_isub d106_45 ?_
    refine pw_any (fun z18903 hz18903 ez18903 => ?_)
    exact pw_ireturn d106_46 t106 ⟨rfl, z18903, rfl, (by omega), (by omega)⟩

abbrev Q107 (τ : Nat → Option Nat) (ρ : Nat → Nat → Nat) (h : pv_H) (a0 : Nat) (a1 : Nat) (x2 : Int) (x3 : Int) : Option Value → pv_H → Prop := fun r h' => h = h' ∧ ∃ z : Int, r = some (.int (pv_I z)) ∧ (-2147483648) ≤ z ∧ z ≤ 2147483647
set_option maxHeartbeats 4000000 in
set_option maxRecDepth 20000 in
/-- AngleNet$Laying.leastForCorner(LAngleNet$Net;II)I -/
theorem c107 {τ : Nat → Option Nat} {ρ : Nat → Nat → Nat} {K : Nat → Nat} {h : pv_H} {a0 : Nat} {a1 : Nat} {x2 : Int} {x3 : Int} (hT : pv_Ty τ ρ h) (hA0 : τ a0 = some 5) (hA1 : τ a1 = some 2) (hX2 : 0 ≤ x2 ∧ x2 ≤ 17) (hX3 : (-2147483648) ≤ x3 ∧ x3 ≤ 2147483647) : pv_C K 107 [.ref a0, .ref a1, .int (pv_I x2), .int (pv_I x3)] h (Q107 τ ρ h a0 a1 x2 x3) := by
  refine pw_entry 1 ?_
  show pv_T K 107 0 (pv_fl [some (.ref a0), some (.ref a1), some (.int (pv_I x2)), some (.int (pv_I x3)), none]) [] h (Q107 τ ρ h a0 a1 x2 x3)
  refine pw_aload_n d107_0 rfl ?_
  refine pw_getR d107_1 g107_18 hT hA0 rfl rfl (fun t18964 => ?_)
  have t18964 : τ (ρ a0 2) = some 36 := t18964
  refine pw_iload_n d107_4 rfl ?_
  refine pw_iald d107_5 hT t18964 rfl rfl (by omega) (by omega) (fun u18965 vu18965 => ?_)
  refine pw_istore d107_6 m107 rfl rfl ?_
  refine pw_aload_n d107_8 rfl ?_
  refine pw_getI d107_9 g107_33 hT hA0 rfl rfl (fun u18966 vu18966 => ?_)
  refine pw_iload_n d107_12 rfl ?_
  refine pw_ishr d107_13 (fun z18967 hz18967 ez18967 => ?_)
  refine pw_iconst d107_14 ?_
  refine pw_iand d107_15 (fun z18968 hz18968 ez18968 => ?_)
  refine pw_if_eq d107_16 rfl (by omega) (fun c18969 => ?_) (fun c18969 => ?_)
  · refine pw_aload_n d107_47 rfl ?_
    refine pw_getI d107_48 g107_39 hT hA0 rfl rfl (fun u18970 vu18970 => ?_)
    refine pw_aload_n d107_51 rfl ?_
    refine pw_iload_n d107_52 rfl ?_
    refine pw_iload d107_53 rfl ?_
    refine pw_callS3 d107_55 k107_55 rfl rfl (c98 (τ := τ) (ρ := ρ) hT hA1 (by omega) (by omega)) (fun r18971 h18972 q18973 => ?_)
    obtain ⟨eh18972, z18976, ez18976, lz18976, uz18976⟩ := q18973
    subst eh18972
    subst ez18976
    refine pw_isub d107_58 ?_
    refine pw_aload_n d107_59 rfl ?_
    refine pw_getR d107_60 g107_66 hT hA1 rfl rfl (fun t18977 => ?_)
    have t18977 : τ (ρ a1 6) = some 21 := t18977
    refine pw_iload_n d107_63 rfl ?_
    refine pw_iald d107_64 hT t18977 rfl rfl (by omega) (by omega) (fun u18978 vu18978 => ?_)
    refine pw_iadd d107_65 ?_
    refine pw_aload_n d107_66 rfl ?_
    refine pw_getI d107_67 g107_65 hT hA1 rfl rfl (fun u18979 vu18979 => ?_)
    refine pw_iconst d107_70 ?_
    refine pw_iload d107_71 rfl ?_
    refine pw_isub d107_73 ?_
    refine pw_imul d107_74 ?_
    refine pw_any (fun z18980 hz18980 ez18980 => ?_)
    refine pw_isub d107_75 ?_
    refine pw_aload_n d107_76 rfl ?_
    refine pw_getI d107_77 g107_42 hT hA0 rfl rfl (fun u18981 vu18981 => ?_)
    refine pw_isub d107_80 ?_
    refine pw_any (fun z18982 hz18982 ez18982 => ?_)
    exact pw_ireturn d107_81 t107 ⟨rfl, z18982, rfl, (by omega), (by omega)⟩
  · refine pw_aload_n d107_19 rfl ?_
    refine pw_getI d107_20 g107_42 hT hA0 rfl rfl (fun u18983 vu18983 => ?_)
    refine pw_aload_n d107_23 rfl ?_
    refine pw_getI d107_24 g107_36 hT hA0 rfl rfl (fun u18984 vu18984 => ?_)
    refine pw_aload_n d107_27 rfl ?_
    refine pw_iload_n d107_28 rfl ?_
    refine pw_iload d107_29 rfl ?_
    refine pw_callS3 d107_31 k107_51 rfl rfl (c96 (τ := τ) (ρ := ρ) hT hA1 (by omega) (by omega)) (fun r18985 h18986 q18987 => ?_)
    obtain ⟨eh18986, z18990, ez18990, lz18990, uz18990⟩ := q18987
    subst eh18986
    subst ez18990
    refine pw_isub d107_34 ?_
    refine pw_isub d107_35 ?_
    refine pw_aload_n d107_36 rfl ?_
    refine pw_getI d107_37 g107_65 hT hA1 rfl rfl (fun u18991 vu18991 => ?_)
    refine pw_iload d107_40 rfl ?_
    refine pw_iconst d107_42 ?_
    refine pw_isub d107_43 ?_
    refine pw_imul d107_44 ?_
    refine pw_any (fun z18992 hz18992 ez18992 => ?_)
    refine pw_isub d107_45 ?_
    refine pw_any (fun z18993 hz18993 ez18993 => ?_)
    exact pw_ireturn d107_46 t107 ⟨rfl, z18993, rfl, (by omega), (by omega)⟩

abbrev Q105 (τ : Nat → Option Nat) (ρ : Nat → Nat → Nat) (h : pv_H) (a0 : Nat) (a1 : Nat) (x2 : Int) (x3 : Int) (x4 : Int) : Option Value → pv_H → Prop := fun r h' => pv_Ty τ ρ h' ∧ pv_Fr τ [323, 324, 325, 326, 327, 2239, 2303, 2367] h h' ∧ ∃ z : Int, r = some (.int (pv_I z)) ∧ (-2147483648) ≤ z ∧ z ≤ 2147483647
set_option maxHeartbeats 4000000 in
set_option maxRecDepth 20000 in
/-- AngleNet$Laying.cornerBound(LAngleNet$Net;IIZ)I -/
theorem c105 {τ : Nat → Option Nat} {ρ : Nat → Nat → Nat} {K : Nat → Nat} {h : pv_H} {a0 : Nat} {a1 : Nat} {x2 : Int} {x3 : Int} {x4 : Int} (hT : pv_Ty τ ρ h) (hA0 : τ a0 = some 5) (hA1 : τ a1 = some 2) (hX2 : 0 ≤ x2 ∧ x2 ≤ 17) (hX3 : (-2147483648) ≤ x3 ∧ x3 ≤ 2147483647) (hX4 : 0 ≤ x4 ∧ x4 ≤ 1) : pv_C K 105 [.ref a0, .ref a1, .int (pv_I x2), .int (pv_I x3), .int (pv_I x4)] h (Q105 τ ρ h a0 a1 x2 x3 x4) := by
  refine pw_entry 3 ?_
  show pv_T K 105 0 (pv_fl [some (.ref a0), some (.ref a1), some (.int (pv_I x2)), some (.int (pv_I x3)), some (.int (pv_I x4)), none, none, none]) [] h (Q105 τ ρ h a0 a1 x2 x3 x4)
  have hF0 : pv_Fr τ [323, 324, 325, 326, 327, 2239, 2303, 2367] h h := pv_Fr.rf
  have L32 : ∀ (nn : Nat) (h_32 : pv_H) (xL5_32 xL6_32 xL7_32 : Int), (pv_Ty τ ρ h_32) → (pv_Fr τ [323, 324, 325, 326, 327, 2239, 2303, 2367] h h_32) → (0 ≤ x2 ∧ x2 ≤ 17) → ((-2147483648) ≤ x3 ∧ x3 ≤ 2147483647) → (0 ≤ x4 ∧ x4 ≤ 1) → ((-2147483648) ≤ xL5_32 ∧ xL5_32 ≤ 2147483647) → ((-2147483648) ≤ xL6_32 ∧ xL6_32 ≤ 2147483647) → (0 ≤ xL7_32 ∧ xL7_32 ≤ 2147483647) → 2147483647 - xL7_32 < nn → pv_T K 105 32 (pv_fl [some (.ref a0), some (.ref a1), some (.int (pv_I x2)), some (.int (pv_I x3)), some (.int (pv_I x4)), some (.int (pv_I xL5_32)), some (.int (pv_I xL6_32)), some (.int (pv_I xL7_32))]) [] h_32 (Q105 τ ρ h a0 a1 x2 x3 x4) := by
    intro nn
    induction nn with
    | zero => intro h_32 xL5_32 xL6_32 xL7_32 hT_32 hF_32 rL2_32 rL3_32 rL4_32 rL5_32 rL6_32 rL7_32 hm; exfalso; omega
    | succ nn ih32 =>
      intro h_32 xL5_32 xL6_32 xL7_32 hT_32 hF_32 rL2_32 rL3_32 rL4_32 rL5_32 rL6_32 rL7_32 hm32
      have J91 : ∀ (h_91 : pv_H) (xL6_91 : Int), (pv_Ty τ ρ h_91) → (pv_Fr τ [323, 324, 325, 326, 327, 2239, 2303, 2367] h h_91) → (0 ≤ x2 ∧ x2 ≤ 17) → ((-2147483648) ≤ x3 ∧ x3 ≤ 2147483647) → (0 ≤ x4 ∧ x4 ≤ 1) → (1 ≤ xL5_32 ∧ xL5_32 ≤ 2147483647) → ((-2147483648) ≤ xL6_91 ∧ xL6_91 ≤ 2147483647) → (0 ≤ xL7_32 ∧ xL7_32 ≤ 2147483646) → pv_T K 105 91 (pv_fl [some (.ref a0), some (.ref a1), some (.int (pv_I x2)), some (.int (pv_I x3)), some (.int (pv_I x4)), some (.int (pv_I xL5_32)), some (.int (pv_I xL6_91)), some (.int (pv_I xL7_32))]) [] h_91 (Q105 τ ρ h a0 a1 x2 x3 x4) := by
        intro h_91 xL6_91 hT_91 hF_91 rL2_91 rL3_91 rL4_91 rL5_91 rL6_91 rL7_91
        refine pw_iinc d105_91 m105 rfl rfl rfl ?_
        refine pw_goto d105_94 rfl ?_
        exact ih32 h_91 (xL5_32) (xL6_91) ((xL7_32 + 1)) hT_91 hF_91 (by omega) (by omega) (by omega) (by omega) (by omega) (by omega) (by omega)
      refine pw_iload d105_32 rfl ?_
      refine pw_iload d105_34 rfl ?_
      refine pw_icmp_ge d105_36 rfl (by omega) (by omega) (fun c20376 => ?_) (fun c20376 => ?_)
      · refine pw_iload d105_97 rfl ?_
        exact pw_ireturn d105_99 t105 ⟨hT_32, hF_32, xL6_32, rfl, (by omega), (by omega)⟩
      · refine pw_aload_n d105_39 rfl ?_
        refine pw_aload_n d105_40 rfl ?_
        refine pw_iload d105_41 rfl ?_
        refine pw_callV2 d105_43 k105_87 hT_32 hA0 rfl rfl rfl (c99 (τ := τ) (ρ := ρ) hT_32 hA0 hA1 (by omega)) (fun r20377 h20378 q20379 => ?_)
        obtain ⟨T20380, F20381, ez20382⟩ := q20379
        subst ez20382
        have f20383 := hF_32.tr (F20381.up (by decide))
        refine pw_aload_n d105_46 rfl ?_
        refine pw_callV0 d105_47 k105_91 T20380 hA0 rfl rfl rfl (c101 (τ := τ) (ρ := ρ) T20380 hA0) (fun r20384 h20385 q20386 => ?_)
        obtain ⟨eh20385, z20389, ez20389, lz20389, uz20389⟩ := q20386
        subst eh20385
        subst ez20389
        refine pw_if_eq d105_50 rfl (by omega) (fun c20390 => ?_) (fun c20390 => ?_)
        · refine pw_iload d105_55 rfl ?_
          refine pw_if_eq d105_57 rfl (by omega) (fun c20391 => ?_) (fun c20391 => ?_)
          · refine pw_iload d105_77 rfl ?_
            refine pw_aload_n d105_79 rfl ?_
            refine pw_aload_n d105_80 rfl ?_
            refine pw_iload_n d105_81 rfl ?_
            refine pw_iload_n d105_82 rfl ?_
            refine pw_callV3 d105_83 k105_102 T20380 hA0 rfl rfl rfl (c107 (τ := τ) (ρ := ρ) T20380 hA0 hA1 (by omega) (by omega)) (fun r20392 h20393 q20394 => ?_)
            obtain ⟨eh20393, z20397, ez20397, lz20397, uz20397⟩ := q20394
            subst eh20393
            subst ez20397
            refine pw_mmax d105_86 k105_76 rfl (by omega) (by omega) (fun z20398 pz20398 hz20398 => ?_)
            refine pw_istore d105_89 m105 rfl rfl ?_
            exact J91 h20378 (z20398) T20380 f20383 (by omega) (by omega) (by omega) (by omega) (by omega) (by omega)
          · refine pw_iload d105_60 rfl ?_
            refine pw_aload_n d105_62 rfl ?_
            refine pw_aload_n d105_63 rfl ?_
            refine pw_iload_n d105_64 rfl ?_
            refine pw_iload_n d105_65 rfl ?_
            refine pw_callV3 d105_66 k105_99 T20380 hA0 rfl rfl rfl (c106 (τ := τ) (ρ := ρ) T20380 hA0 hA1 (by omega) (by omega)) (fun r20399 h20400 q20401 => ?_)
            obtain ⟨eh20400, z20404, ez20404, lz20404, uz20404⟩ := q20401
            subst eh20400
            subst ez20404
            refine pw_mmin d105_69 k105_70 rfl (by omega) (by omega) (fun z20405 pz20405 hz20405 => ?_)
            refine pw_istore d105_72 m105 rfl rfl ?_
            refine pw_goto d105_74 rfl ?_
            exact J91 h20378 (z20405) T20380 f20383 (by omega) (by omega) (by omega) (by omega) (by omega) (by omega)
        · refine pw_iconst d105_53 ?_
          exact pw_ireturn d105_54 t105 ⟨T20380, f20383, (-1), rfl, (by omega), (by omega)⟩
  have J27 : ∀ (h_27 : pv_H) (xL5_27 xS0_27 : Int) (o6_27 o7_27 : Option Value), (pv_Ty τ ρ h_27) → (pv_Fr τ [323, 324, 325, 326, 327, 2239, 2303, 2367] h h_27) → (0 ≤ x2 ∧ x2 ≤ 17) → ((-2147483648) ≤ x3 ∧ x3 ≤ 2147483647) → (0 ≤ x4 ∧ x4 ≤ 1) → ((-2147483648) ≤ xL5_27 ∧ xL5_27 ≤ 2147483647) → (0 ≤ xS0_27 ∧ xS0_27 ≤ 360) → pv_T K 105 27 (pv_fl [some (.ref a0), some (.ref a1), some (.int (pv_I x2)), some (.int (pv_I x3)), some (.int (pv_I x4)), some (.int (pv_I xL5_27)), o6_27, o7_27]) [.int (pv_I xS0_27)] h_27 (Q105 τ ρ h a0 a1 x2 x3 x4) := by
    intro h_27 xL5_27 xS0_27 o6_27 o7_27 hT_27 hF_27 rL2_27 rL3_27 rL4_27 rL5_27 rS0_27
    refine pw_istore d105_27 m105 rfl rfl ?_
    refine pw_iconst d105_29 ?_
    refine pw_istore d105_30 m105 rfl rfl ?_
    exact L32 _ h_27 (xL5_27) (xS0_27) (0) hT_27 hF_27 (by omega) (by omega) (by omega) (by omega) (by omega) (by omega) (pv_mu _)
  refine pw_aload_n d105_0 rfl ?_
  refine pw_aload_n d105_1 rfl ?_
  refine pw_aload_n d105_2 rfl ?_
  refine pw_callS1 d105_3 k105_79 rfl rfl (c94 (τ := τ) (ρ := ρ) hT hA1) (fun r20406 h20407 q20408 => ?_)
  obtain ⟨eh20407, z20411, ez20411, lz20411, uz20411⟩ := q20408
  subst eh20407
  subst ez20411
  refine pw_callV2 d105_6 k105_83 hT hA0 rfl rfl rfl (c95 (τ := τ) (ρ := ρ) hT hA0 hA1 (by omega)) (fun r20412 h20413 q20414 => ?_)
  obtain ⟨T20415, F20416, z20417, ez20417, lz20417, uz20417⟩ := q20414
  subst ez20417
  have f20418 := hF0.tr (F20416.up (by decide))
  refine pw_istore d105_9 m105 rfl rfl ?_
  refine pw_iload d105_11 rfl ?_
  refine pw_if_eq d105_13 rfl (by omega) (fun c20419 => ?_) (fun c20419 => ?_)
  · refine pw_aload_n d105_23 rfl ?_
    refine pw_getI d105_24 g105_69 T20415 hA1 rfl rfl (fun u20420 vu20420 => ?_)
    exact J27 h20413 (z20417) ((pv_fI h20413 a1 3)) _ _ T20415 f20418 (by omega) (by omega) (by omega) (by omega) (by omega)
  · refine pw_aload_n d105_16 rfl ?_
    refine pw_getI d105_17 g105_65 T20415 hA1 rfl rfl (fun u20421 vu20421 => ?_)
    refine pw_goto d105_20 rfl ?_
    exact J27 h20413 (z20417) ((pv_fI h20413 a1 4)) _ _ T20415 f20418 (by omega) (by omega) (by omega) (by omega) (by omega)

abbrev Q110 (τ : Nat → Option Nat) (ρ : Nat → Nat → Nat) (h : pv_H) (a0 : Nat) (a1 : Nat) (x2 : Int) (x3 : Int) : Option Value → pv_H → Prop := fun r h' => pv_Ty τ ρ h' ∧ pv_Fr τ [323, 324, 325, 326, 327, 2239, 2303, 2367] h h' ∧ ∃ z : Int, r = some (.int (pv_I z)) ∧ (-1) ≤ z ∧ z ≤ 3600
set_option maxHeartbeats 4000000 in
set_option maxRecDepth 20000 in
/-- AngleNet$Laying.angleBound(LAngleNet$Net;IZ)I -/
theorem c110 {τ : Nat → Option Nat} {ρ : Nat → Nat → Nat} {K : Nat → Nat} {h : pv_H} {a0 : Nat} {a1 : Nat} {x2 : Int} {x3 : Int} (hT : pv_Ty τ ρ h) (hA0 : τ a0 = some 5) (hA1 : τ a1 = some 2) (hX2 : (-2147483648) ≤ x2 ∧ x2 ≤ 2147483647) (hX3 : 0 ≤ x3 ∧ x3 ≤ 1) : pv_C K 110 [.ref a0, .ref a1, .int (pv_I x2), .int (pv_I x3)] h (Q110 τ ρ h a0 a1 x2 x3) := by
  refine pw_entry 4 ?_
  show pv_T K 110 0 (pv_fl [some (.ref a0), some (.ref a1), some (.int (pv_I x2)), some (.int (pv_I x3)), none, none, none, none]) [] h (Q110 τ ρ h a0 a1 x2 x3)
  have hF0 : pv_Fr τ [323, 324, 325, 326, 327, 2239, 2303, 2367] h h := pv_Fr.rf
  have L28 : ∀ (nn : Nat) (h_28 : pv_H) (xL4_28 xL5_28 xL6_28 xL7_28 : Int), (pv_Ty τ ρ h_28) → (pv_Fr τ [323, 324, 325, 326, 327, 2239, 2303, 2367] h h_28) → ((-2147483648) ≤ x2 ∧ x2 ≤ 2147483647) → (0 ≤ x3 ∧ x3 ≤ 1) → ((-2147483648) ≤ xL4_28 ∧ xL4_28 ≤ 2147483647) → (1 ≤ xL5_28 ∧ xL5_28 ≤ 2147483647) → ((-2147483648) ≤ xL6_28 ∧ xL6_28 ≤ 3600) → (0 ≤ xL7_28 ∧ xL7_28 ≤ 2147483647) → 2147483647 - xL7_28 < nn → pv_T K 110 28 (pv_fl [some (.ref a0), some (.ref a1), some (.int (pv_I x2)), some (.int (pv_I x3)), some (.int (pv_I xL4_28)), some (.int (pv_I xL5_28)), some (.int (pv_I xL6_28)), some (.int (pv_I xL7_28))]) [] h_28 (Q110 τ ρ h a0 a1 x2 x3) := by
    intro nn
    induction nn with
    | zero => intro h_28 xL4_28 xL5_28 xL6_28 xL7_28 hT_28 hF_28 rL2_28 rL3_28 rL4_28 rL5_28 rL6_28 rL7_28 hm; exfalso; omega
    | succ nn ih28 =>
      intro h_28 xL4_28 xL5_28 xL6_28 xL7_28 hT_28 hF_28 rL2_28 rL3_28 rL4_28 rL5_28 rL6_28 rL7_28 hm28
      refine pw_iload d110_28 rfl ?_
      refine pw_iload d110_30 rfl ?_
      refine pw_icmp_ge d110_32 rfl (by omega) (by omega) (fun c22254 => ?_) (fun c22254 => ?_)
      · refine pw_iload d110_103 rfl ?_
        refine pw_iload d110_105 rfl ?_
        refine pw_icmp_le d110_107 rfl (by omega) (by omega) (fun c22255 => ?_) (fun c22255 => ?_)
        · refine pw_iload_n d110_112 rfl ?_
          refine pw_if_eq d110_113 rfl (by omega) (fun c22256 => ?_) (fun c22256 => ?_)
          · refine pw_iload d110_121 rfl ?_
            exact pw_ireturn d110_123 t110 ⟨hT_28, hF_28, xL5_28, rfl, (by omega), (by omega)⟩
          · refine pw_iload d110_116 rfl ?_
            refine pw_goto d110_118 rfl ?_
            exact pw_ireturn d110_123 t110 ⟨hT_28, hF_28, xL6_28, rfl, (by omega), (by omega)⟩
        · refine pw_iconst d110_110 ?_
          exact pw_ireturn d110_111 t110 ⟨hT_28, hF_28, (-1), rfl, (by omega), (by omega)⟩
      · refine pw_aload_n d110_35 rfl ?_
        refine pw_aload_n d110_36 rfl ?_
        refine pw_iload d110_37 rfl ?_
        refine pw_callV2 d110_39 k110_87 hT_28 hA0 rfl rfl rfl (c99 (τ := τ) (ρ := ρ) hT_28 hA0 hA1 (by omega)) (fun r22257 h22258 q22259 => ?_)
        obtain ⟨T22260, F22261, ez22262⟩ := q22259
        subst ez22262
        have f22263 := hF_28.tr (F22261.up (by decide))
        refine pw_aload_n d110_42 rfl ?_
        refine pw_callV0 d110_43 k110_91 T22260 hA0 rfl rfl rfl (c101 (τ := τ) (ρ := ρ) T22260 hA0) (fun r22264 h22265 q22266 => ?_)
        obtain ⟨eh22265, z22269, ez22269, lz22269, uz22269⟩ := q22266
        subst eh22265
        subst ez22269
        refine pw_if_eq d110_46 rfl (by omega) (fun c22270 => ?_) (fun c22270 => ?_)
        · refine pw_aload_n d110_51 rfl ?_
          refine pw_aload_n d110_52 rfl ?_
          refine pw_iload_n d110_53 rfl ?_
          refine pw_iconst d110_54 ?_
          refine pw_callV3 d110_55 k110_61 T22260 hA0 rfl rfl rfl (c100 (τ := τ) (ρ := ρ) T22260 hA0 hA1 (by omega) (by omega)) (fun r22271 h22272 q22273 => ?_)
          obtain ⟨T22274, F22275, ez22276⟩ := q22273
          subst ez22276
          have f22277 := f22263.tr (F22275.up (by decide))
          refine pw_iload d110_58 rfl ?_
          refine pw_aload_n d110_60 rfl ?_
          refine pw_getI d110_61 g110_39 T22274 hA0 rfl rfl (fun u22278 vu22278 => ?_)
          refine pw_aload_n d110_64 rfl ?_
          refine pw_getI d110_65 g110_42 T22274 hA0 rfl rfl (fun u22279 vu22279 => ?_)
          refine pw_isub d110_68 ?_
          refine pw_any (fun z22280 hz22280 ez22280 => ?_)
          refine pw_mmax d110_69 k110_76 rfl (by omega) (by omega) (fun z22281 pz22281 hz22281 => ?_)
          refine pw_istore d110_72 m110 rfl rfl ?_
          refine pw_iload d110_74 rfl ?_
          refine pw_aload_n d110_76 rfl ?_
          refine pw_getI d110_77 g110_36 T22274 hA0 rfl rfl (fun u22282 vu22282 => ?_)
          refine pw_aload_n d110_80 rfl ?_
          refine pw_getI d110_81 g110_42 T22274 hA0 rfl rfl (fun u22283 vu22283 => ?_)
          refine pw_isub d110_84 ?_
          refine pw_any (fun z22284 hz22284 ez22284 => ?_)
          refine pw_mmin d110_85 k110_70 rfl (by omega) (by omega) (fun z22285 pz22285 hz22285 => ?_)
          refine pw_istore d110_88 m110 rfl rfl ?_
          refine pw_aload_n d110_90 rfl ?_
          refine pw_aload_n d110_91 rfl ?_
          refine pw_iload_n d110_92 rfl ?_
          refine pw_iconst d110_93 ?_
          refine pw_callV3 d110_94 k110_61 T22274 hA0 rfl rfl rfl (c100 (τ := τ) (ρ := ρ) T22274 hA0 hA1 (by omega) (by omega)) (fun r22286 h22287 q22288 => ?_)
          obtain ⟨T22289, F22290, ez22291⟩ := q22288
          subst ez22291
          have f22292 := f22277.tr (F22290.up (by decide))
          have q22293 := ((F22290 a0 5 hA0).1 7 (by decide)).1
          refine pw_iinc d110_97 m110 rfl rfl rfl ?_
          refine pw_goto d110_100 rfl ?_
          exact ih28 h22287 (xL4_28) (z22281) (z22285) ((xL7_28 + 1)) T22289 f22292 (by omega) (by omega) (by omega) (by omega) (by omega) (by omega) (by omega)
        · refine pw_iconst d110_49 ?_
          exact pw_ireturn d110_50 t110 ⟨T22260, f22263, (-1), rfl, (by omega), (by omega)⟩
  refine pw_aload_n d110_0 rfl ?_
  refine pw_aload_n d110_1 rfl ?_
  refine pw_aload_n d110_2 rfl ?_
  refine pw_callS1 d110_3 k110_79 rfl rfl (c94 (τ := τ) (ρ := ρ) hT hA1) (fun r22294 h22295 q22296 => ?_)
  obtain ⟨eh22295, z22299, ez22299, lz22299, uz22299⟩ := q22296
  subst eh22295
  subst ez22299
  refine pw_iconst d110_6 ?_
  refine pw_iload_n d110_7 rfl ?_
  refine pw_ishl d110_8 (fun z22300 hz22300 ez22300 => ?_)
  refine pw_iconst d110_9 ?_
  refine pw_ixor d110_10 (fun z22301 hz22301 ez22301 => ?_)
  refine pw_iand d110_11 (fun z22302 hz22302 ez22302 => ?_)
  refine pw_callV2 d110_12 k110_83 hT hA0 rfl rfl rfl (c95 (τ := τ) (ρ := ρ) hT hA0 hA1 (by omega)) (fun r22303 h22304 q22305 => ?_)
  obtain ⟨T22306, F22307, z22308, ez22308, lz22308, uz22308⟩ := q22305
  subst ez22308
  have f22309 := hF0.tr (F22307.up (by decide))
  refine pw_istore d110_15 m110 rfl rfl ?_
  refine pw_iconst d110_17 ?_
  refine pw_istore d110_18 m110 rfl rfl ?_
  refine pw_sipush d110_20 (by decide) ?_
  refine pw_istore d110_23 m110 rfl rfl ?_
  refine pw_iconst d110_25 ?_
  refine pw_istore d110_26 m110 rfl rfl ?_
  exact L28 _ h22304 (z22308) (1) (3600) (0) T22306 f22309 (by omega) (by omega) (by omega) (by omega) (by omega) (by omega) (pv_mu _)
