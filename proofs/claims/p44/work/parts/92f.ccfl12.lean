abbrev Q177F (τ : Nat → Option Nat) (ρ : Nat → Nat → Nat) (h : pv_H) (a0 : Nat) (x1 : Int) (x2 : Int) : Option Value → pv_H → Prop := fun r h' => pv_Ty τ ρ h' ∧ pv_Fr τ [192, 193, 194, 2047] h h' ∧ r = none ∧ (∀ b, τ b = some 3 → rb_P h h' a0 x1 x2 b)
set_option maxHeartbeats 4000000 in
set_option maxRecDepth 20000 in
/-- AngleNet$Row.begin(II)V -/
theorem ct177F {τ : Nat → Option Nat} {ρ : Nat → Nat → Nat} {K : Nat → Nat} {h : pv_H} {a0 : Nat} {x1 : Int} {x2 : Int} (hT : pv_Ty τ ρ h) (hA0 : τ a0 = some 3) (hX1 : 0 ≤ x1 ∧ x1 ≤ 3) (hX2 : 0 ≤ x2 ∧ x2 ≤ 60) : pv_C K 177 [.ref a0, .int (pv_I x1), .int (pv_I x2)] h (Q177F τ ρ h a0 x1 x2) := by
  refine pw_entry 0 ?_
  show pv_T K 177 0 (pv_fl [some (.ref a0), some (.int (pv_I x1)), some (.int (pv_I x2))]) [] h (Q177F τ ρ h a0 x1 x2)
  have hF0 : pv_Fr τ [192, 193, 194, 2047] h h := pv_Fr.rf
  refine pw_aload_n d177_0 rfl ?_
  refine pw_iconst d177_1 ?_
  refine pw_putZA d177_2 g177_15 w3_0 hT hA0 rfl rfl rfl (by omega) (by omega) (fun h2 T2 F2 E2 => ?_)
  have f2 := hF0.tr (F2.up (by decide))
  refine pw_aload_n d177_5 rfl ?_
  refine pw_iload_n d177_6 rfl ?_
  refine pw_putIA d177_7 g177_19 w3_1 T2 hA0 rfl rfl rfl (by omega) (by omega) (fun h7 T7 F7 E7 => ?_)
  have f7 := f2.tr (F7.up (by decide))
  have q7 := ((F7 a0 3 hA0).1 0 (by decide)).1
  refine pw_aload_n d177_10 rfl ?_
  refine pw_iload_n d177_11 rfl ?_
  refine pw_putIA d177_12 g177_23 w3_2 T7 hA0 rfl rfl rfl (by omega) (by omega) (fun h12 T12 F12 E12 => ?_)
  have f12 := f7.tr (F12.up (by decide))
  have q12 := ((F12 a0 3 hA0).1 0 (by decide)).1
  have q12b := ((F12 a0 3 hA0).1 1 (by decide)).1
  refine pw_aload_n d177_15 rfl ?_
  refine pw_getR d177_16 g177_9 T12 hA0 rfl rfl (fun t16 => ?_)
  have t16 : τ (ρ a0 3) = some 31 := t16
  refine pw_lconst (z := 0) d177_19 (by decide) ?_
  refine pw_callS2 d177_20 k177_26 rfl rfl (ct148v31 (τ := τ) (ρ := ρ) T12 t16 (by omega)) (fun r20 h20 q20 => ?_)
  obtain ⟨T20, F20, ez20⟩ := q20
  subst ez20
  have f20 := f12.tr (F20.up (by decide))
  have q20b := ((F20 a0 3 hA0).1 0 (by decide)).1
  have q20c := ((F20 a0 3 hA0).1 1 (by decide)).1
  have q20d := ((F20 a0 3 hA0).1 2 (by decide)).1
  exact pw_return d177_23 tt177 ⟨T20, f20, rfl, (by intro b hb; exact rb_end E2 E7 E12 ((F20 b 3 hb).1 0 (by decide)).1 ((F20 b 3 hb).1 1 (by decide)).1 ((F20 b 3 hb).1 2 (by decide)).1)⟩

abbrev Q176R (τ : Nat → Option Nat) (ρ : Nat → Nat → Nat) (h : pv_H) (a0 : Nat) (x1 : Int) (x2 : Int) (x3 : Int) : Option Value → pv_H → Prop := fun r h' => pv_Ty τ ρ h' ∧ pv_Fr τ [192, 193, 194, 2047] h h' ∧ ∃ z : Int, r = some (.int (pv_I z)) ∧ (-3) ≤ z ∧ z ≤ 0 ∧ (z = if 0 ≤ x1 ∧ x1 ≤ 3 ∧ 0 ≤ x2 ∧ x2 ≤ 3 ∧ x3 ≤ 60 then (if x3 < 0 then -3 else 0) else -2) ∧ (∀ b, τ b = some 3 → rw_X ρ h h' a0 x1 x2 x3 b)
set_option maxHeartbeats 4000000 in
set_option maxRecDepth 20000 in
/-- AngleNet.row(III)I -/
theorem ct176R {τ : Nat → Option Nat} {ρ : Nat → Nat → Nat} {K : Nat → Nat} {h : pv_H} {a0 : Nat} {x1 : Int} {x2 : Int} {x3 : Int} (hT : pv_Ty τ ρ h) (hA0 : τ a0 = some 0) (hX1 : (-2147483648) ≤ x1 ∧ x1 ≤ 2147483647) (hX2 : (-2147483648) ≤ x2 ∧ x2 ≤ 2147483647) (hX3 : (-2147483648) ≤ x3 ∧ x3 ≤ 2147483647) : pv_C K 176 [.ref a0, .int (pv_I x1), .int (pv_I x2), .int (pv_I x3)] h (Q176R τ ρ h a0 x1 x2 x3) := by
  refine pw_entry 0 ?_
  show pv_T K 176 0 (pv_fl [some (.ref a0), some (.int (pv_I x1)), some (.int (pv_I x2)), some (.int (pv_I x3))]) [] h (Q176R τ ρ h a0 x1 x2 x3)
  have hF0 : pv_Fr τ [192, 193, 194, 2047] h h := pv_Fr.rf
  refine pw_iload_n d176_0 rfl ?_
  refine pw_callS1 d176_1 k176_306 rfl rfl (ct165 (τ := τ) (ρ := ρ) (by omega)) (fun r1 h1 q1 => ?_)
  obtain ⟨eh1, z1, ez1, lz1, uz1, pz1_0⟩ := q1
  subst eh1
  subst ez1
  refine pw_if_eq d176_4 rfl (by omega) (fun c4 => ?_) (fun c4 => ?_)
  · refine pw_bipush d176_22 (by decide) ?_
    exact pw_ireturn d176_24 tt176 ⟨hT, hF0, (-2), rfl, (by omega), (by omega), (by omega), (by first | exact (fun b _ => rw_X.no (by omega)) | exact (fun b hb => rw_X.yes (by omega) (pz40_0 b hb)))⟩
  · refine pw_iload_n d176_7 rfl ?_
    refine pw_if_lt d176_8 rfl (by omega) (fun c8 => ?_) (fun c8 => ?_)
    · refine pw_bipush d176_22 (by decide) ?_
      exact pw_ireturn d176_24 tt176 ⟨hT, hF0, (-2), rfl, (by omega), (by omega), (by omega), (by first | exact (fun b _ => rw_X.no (by omega)) | exact (fun b hb => rw_X.yes (by omega) (pz40_0 b hb)))⟩
    · refine pw_iload_n d176_11 rfl ?_
      refine pw_iconst d176_12 ?_
      refine pw_icmp_ge d176_13 rfl (by omega) (by omega) (fun c13 => ?_) (fun c13 => ?_)
      · refine pw_bipush d176_22 (by decide) ?_
        exact pw_ireturn d176_24 tt176 ⟨hT, hF0, (-2), rfl, (by omega), (by omega), (by omega), (by first | exact (fun b _ => rw_X.no (by omega)) | exact (fun b hb => rw_X.yes (by omega) (pz40_0 b hb)))⟩
      · refine pw_iload_n d176_16 rfl ?_
        refine pw_bipush d176_17 (by decide) ?_
        refine pw_icmp_le d176_19 rfl (by omega) (by omega) (fun c19 => ?_) (fun c19 => ?_)
        · refine pw_iload_n d176_25 rfl ?_
          refine pw_if_ge d176_26 rfl (by omega) (fun c26 => ?_) (fun c26 => ?_)
          · refine pw_aload_n d176_32 rfl ?_
            refine pw_getR d176_33 g176_36 hT hA0 rfl rfl (fun t33 => ?_)
            have t33 : τ (ρ a0 5) = some 12 := t33
            refine pw_iload_n d176_36 rfl ?_
            refine pw_aald d176_37 hT t33 rfl (by decide) rfl (by omega) (by omega) (fun u37 => ?_)
            have u37 : τ (ρ (ρ a0 5) (x1).toNat) = some 3 := u37
            refine pw_iload_n d176_38 rfl ?_
            refine pw_iload_n d176_39 rfl ?_
            refine pw_callV2 d176_40 k176_347 hT u37 rfl rfl rfl (ct177F (τ := τ) (ρ := ρ) hT u37 (by omega) (by omega)) (fun r40 h40 q40 => ?_)
            obtain ⟨T40, F40, ez40, pz40_0⟩ := q40
            subst ez40
            have f40 := hF0.tr (F40.up (by decide))
            refine pw_iconst d176_43 ?_
            exact pw_ireturn d176_44 tt176 ⟨T40, f40, 0, rfl, (by omega), (by omega), (by omega), (by first | exact (fun b _ => rw_X.no (by omega)) | exact (fun b hb => rw_X.yes (by omega) (pz40_0 b hb)))⟩
          · refine pw_bipush d176_29 (by decide) ?_
            exact pw_ireturn d176_31 tt176 ⟨hT, hF0, (-3), rfl, (by omega), (by omega), (by omega), (by first | exact (fun b _ => rw_X.no (by omega)) | exact (fun b hb => rw_X.yes (by omega) (pz40_0 b hb)))⟩
        · refine pw_bipush d176_22 (by decide) ?_
          exact pw_ireturn d176_24 tt176 ⟨hT, hF0, (-2), rfl, (by omega), (by omega), (by omega), (by first | exact (fun b _ => rw_X.no (by omega)) | exact (fun b hb => rw_X.yes (by omega) (pz40_0 b hb)))⟩

abbrev Q181F (τ : Nat → Option Nat) (ρ : Nat → Nat → Nat) (h : pv_H) (a0 : Nat) (x1 : Int) (x2 : Int) : Option Value → pv_H → Prop := fun r h' => h = h' ∧ ∃ z : Int, r = some (.int (pv_I z)) ∧ 0 ≤ z ∧ z ≤ 1 ∧ (z = 1 → 0 ≤ x1 ∧ 0 ≤ x2 ∧ x1 + x2 ≤ 60) ∧ ((z = 1 ∧ 0 ≤ x1 ∧ 0 ≤ x2 ∧ x1 + x2 ≤ pv_fI h a0 2) ∨ (z = 0 ∧ ¬ (0 ≤ x1 ∧ 0 ≤ x2 ∧ x1 + x2 ≤ pv_fI h a0 2)))
set_option maxHeartbeats 4000000 in
set_option maxRecDepth 20000 in
/-- AngleNet$Row.reaches(II)Z -/
theorem ct181F {τ : Nat → Option Nat} {ρ : Nat → Nat → Nat} {K : Nat → Nat} {h : pv_H} {a0 : Nat} {x1 : Int} {x2 : Int} (hT : pv_Ty τ ρ h) (hA0 : τ a0 = some 3) (hX1 : (-2147483648) ≤ x1 ∧ x1 ≤ 2147483647) (hX2 : (-2147483648) ≤ x2 ∧ x2 ≤ 2147483647) : pv_C K 181 [.ref a0, .int (pv_I x1), .int (pv_I x2)] h (Q181F τ ρ h a0 x1 x2) := by
  refine pw_entry 0 ?_
  show pv_T K 181 0 (pv_fl [some (.ref a0), some (.int (pv_I x1)), some (.int (pv_I x2))]) [] h (Q181F τ ρ h a0 x1 x2)
  refine pw_iload_n d181_0 rfl ?_
  refine pw_if_lt d181_1 rfl (by omega) (fun c1 => ?_) (fun c1 => ?_)
  · refine pw_iconst d181_26 ?_
    exact pw_zreturn d181_27 tt181 (by omega) ⟨rfl, 0, rfl, (by omega), (by omega), (by omega), (by omega)⟩
  · refine pw_iload_n d181_4 rfl ?_
    refine pw_if_lt d181_5 rfl (by omega) (fun c5 => ?_) (fun c5 => ?_)
    · refine pw_iconst d181_26 ?_
      exact pw_zreturn d181_27 tt181 (by omega) ⟨rfl, 0, rfl, (by omega), (by omega), (by omega), (by omega)⟩
    · refine pw_iload_n d181_8 rfl ?_
      refine pw_i2l d181_9 (by omega) ?_
      refine pw_iload_n d181_10 rfl ?_
      refine pw_i2l d181_11 (by omega) ?_
      refine pw_ladd d181_12 ?_
      refine pw_aload_n d181_13 rfl ?_
      refine pw_getI d181_14 g181_23 hT hA0 rfl rfl (fun u14 vu14 => ?_)
      refine pw_i2l d181_17 (by omega) ?_
      refine pw_lcmp d181_18 (by omega) (by omega) (fun z18 ez18 => ?_)
      refine pw_if_gt d181_19 rfl (by omega) (fun c19 => ?_) (fun c19 => ?_)
      · refine pw_iconst d181_26 ?_
        exact pw_zreturn d181_27 tt181 (by omega) ⟨rfl, 0, rfl, (by omega), (by omega), (by omega), (by omega)⟩
      · refine pw_iconst d181_22 ?_
        refine pw_goto d181_23 rfl ?_
        exact pw_zreturn d181_27 tt181 (by omega) ⟨rfl, 1, rfl, (by omega), (by omega), (by omega), (by omega)⟩

abbrev Q178R (τ : Nat → Option Nat) (ρ : Nat → Nat → Nat) (h : pv_H) (a0 : Nat) (x1 : Int) (x2 : Int) (x3 : Int) : Option Value → pv_H → Prop := fun r h' => pv_Ty τ ρ h' ∧ pv_Fr τ [2047] h h' ∧ ∃ z : Int, r = some (.int (pv_I z)) ∧ (-7) ≤ z ∧ z ≤ 0 ∧ (z = if 0 ≤ x1 ∧ x1 ≤ 3 then (if pv_fI h (ρ (ρ a0 5) (x1).toNat) 0 = 0 then -6 else if 0 ≤ x2 ∧ x2 < pv_fI h (ρ (ρ a0 5) (x1).toNat) 2 then 0 else -7) else -2)
set_option maxHeartbeats 4000000 in
set_option maxRecDepth 20000 in
/-- AngleNet.write(IIJ)I -/
theorem ct178R {τ : Nat → Option Nat} {ρ : Nat → Nat → Nat} {K : Nat → Nat} {h : pv_H} {a0 : Nat} {x1 : Int} {x2 : Int} {x3 : Int} (hT : pv_Ty τ ρ h) (hA0 : τ a0 = some 0) (hX1 : (-2147483648) ≤ x1 ∧ x1 ≤ 2147483647) (hX2 : (-2147483648) ≤ x2 ∧ x2 ≤ 2147483647) (hX3 : (-9223372036854775808) ≤ x3 ∧ x3 ≤ 9223372036854775807) : pv_C K 178 [.ref a0, .int (pv_I x1), .int (pv_I x2), .long (pv_J x3)] h (Q178R τ ρ h a0 x1 x2 x3) := by
  refine pw_entry 1 ?_
  show pv_T K 178 0 (pv_fl [some (.ref a0), some (.int (pv_I x1)), some (.int (pv_I x2)), some (.long (pv_J x3)), none, none]) [] h (Q178R τ ρ h a0 x1 x2 x3)
  have hF0 : pv_Fr τ [2047] h h := pv_Fr.rf
  refine pw_iload_n d178_0 rfl ?_
  refine pw_callS1 d178_1 k178_306 rfl rfl (ct165 (τ := τ) (ρ := ρ) (by omega)) (fun r1 h1 q1 => ?_)
  obtain ⟨eh1, z1, ez1, lz1, uz1, pz1_0⟩ := q1
  subst eh1
  subst ez1
  refine pw_if_ne d178_4 rfl (by omega) (fun c4 => ?_) (fun c4 => ?_)
  · refine pw_aload_n d178_10 rfl ?_
    refine pw_getR d178_11 g178_36 hT hA0 rfl rfl (fun t11 => ?_)
    have t11 : τ (ρ a0 5) = some 12 := t11
    refine pw_iload_n d178_14 rfl ?_
    refine pw_aald d178_15 hT t11 rfl (by decide) rfl (by omega) (by omega) (fun u15 => ?_)
    have u15 : τ (ρ (ρ a0 5) (x1).toNat) = some 3 := u15
    refine pw_astore d178_16 m178 rfl rfl ?_
    refine pw_aload d178_18 rfl ?_
    refine pw_getI d178_20 g178_309 hT u15 rfl rfl (fun u20 vu20 => ?_)
    refine pw_if_ne d178_23 rfl (by omega) (fun c23 => ?_) (fun c23 => ?_)
    · refine pw_iload_n d178_29 rfl ?_
      refine pw_if_lt d178_30 rfl (by omega) (fun c30 => ?_) (fun c30 => ?_)
      · refine pw_bipush d178_42 (by decide) ?_
        exact pw_ireturn d178_44 tt178 ⟨hT, hF0, (-7), rfl, (by omega), (by omega), (by first | (rw [if_neg (by omega)]; done) | (rw [if_pos (by omega), if_pos (by omega)]; done) | (rw [if_pos (by omega), if_neg (by omega), if_pos (by omega)]; done) | (rw [if_pos (by omega), if_neg (by omega), if_neg (by omega)]; done))⟩
      · refine pw_iload_n d178_33 rfl ?_
        refine pw_aload d178_34 rfl ?_
        refine pw_getI d178_36 g178_316 hT u15 rfl rfl (fun u36 vu36 => ?_)
        refine pw_icmp_lt d178_39 rfl (by omega) (by omega) (fun c39 => ?_) (fun c39 => ?_)
        · refine pw_aload d178_45 rfl ?_
          refine pw_iload_n d178_47 rfl ?_
          refine pw_lload_n d178_48 rfl ?_
          refine pw_callV2 d178_49 k178_351 hT u15 rfl rfl rfl (ct179 (τ := τ) (ρ := ρ) hT u15 (by omega) (by omega)) (fun r49 h49 q49 => ?_)
          obtain ⟨T49, F49, ez49⟩ := q49
          subst ez49
          have f49 := hF0.tr (F49.up (by decide))
          have q49b := ((F49 (ρ (ρ a0 5) (x1).toNat) 3 u15).1 0 (by decide)).1
          have q49c := ((F49 (ρ (ρ a0 5) (x1).toNat) 3 u15).1 2 (by decide)).1
          refine pw_iconst d178_52 ?_
          exact pw_ireturn d178_53 tt178 ⟨T49, f49, 0, rfl, (by omega), (by omega), (by first | (rw [if_neg (by omega)]; done) | (rw [if_pos (by omega), if_pos (by omega)]; done) | (rw [if_pos (by omega), if_neg (by omega), if_pos (by omega)]; done) | (rw [if_pos (by omega), if_neg (by omega), if_neg (by omega)]; done))⟩
        · refine pw_bipush d178_42 (by decide) ?_
          exact pw_ireturn d178_44 tt178 ⟨hT, hF0, (-7), rfl, (by omega), (by omega), (by first | (rw [if_neg (by omega)]; done) | (rw [if_pos (by omega), if_pos (by omega)]; done) | (rw [if_pos (by omega), if_neg (by omega), if_pos (by omega)]; done) | (rw [if_pos (by omega), if_neg (by omega), if_neg (by omega)]; done))⟩
    · refine pw_bipush d178_26 (by decide) ?_
      exact pw_ireturn d178_28 tt178 ⟨hT, hF0, (-6), rfl, (by omega), (by omega), (by first | (rw [if_neg (by omega)]; done) | (rw [if_pos (by omega), if_pos (by omega)]; done) | (rw [if_pos (by omega), if_neg (by omega), if_pos (by omega)]; done) | (rw [if_pos (by omega), if_neg (by omega), if_neg (by omega)]; done))⟩
  · refine pw_bipush d178_7 (by decide) ?_
    exact pw_ireturn d178_9 tt178 ⟨hT, hF0, (-2), rfl, (by omega), (by omega), (by first | (rw [if_neg (by omega)]; done) | (rw [if_pos (by omega), if_pos (by omega)]; done) | (rw [if_pos (by omega), if_neg (by omega), if_pos (by omega)]; done) | (rw [if_pos (by omega), if_neg (by omega), if_neg (by omega)]; done))⟩

abbrev Q180R (τ : Nat → Option Nat) (ρ : Nat → Nat → Nat) (h : pv_H) (a0 : Nat) (x1 : Int) (x2 : Int) (x3 : Int) (x4 : Int) (x5 : Int) : Option Value → pv_H → Prop := fun r h' => pv_Ty τ ρ h' ∧ pv_Fr τ [2047] h h' ∧ ∃ z : Int, r = some (.int (pv_I z)) ∧ (-8) ≤ z ∧ z ≤ 0 ∧ (z = if 0 ≤ x1 ∧ x1 ≤ 3 ∧ 0 ≤ x3 ∧ x3 ≤ 3 then (if pv_fI h (ρ (ρ a0 5) (x1).toNat) 0 = 0 ∨ pv_fI h (ρ (ρ a0 5) (x3).toNat) 0 = 0 then -6 else if pv_fI h (ρ (ρ a0 5) (x1).toNat) 1 ≠ pv_fI h (ρ (ρ a0 5) (x3).toNat) 1 then -8 else if 0 ≤ x2 ∧ 0 ≤ x4 ∧ 0 ≤ x5 ∧ x2 + x5 ≤ pv_fI h (ρ (ρ a0 5) (x1).toNat) 2 ∧ x4 + x5 ≤ pv_fI h (ρ (ρ a0 5) (x3).toNat) 2 then 0 else -7) else -2)
set_option maxHeartbeats 4000000 in
set_option maxRecDepth 20000 in
/-- AngleNet.paste(IIIII)I -/
theorem ct180R {τ : Nat → Option Nat} {ρ : Nat → Nat → Nat} {K : Nat → Nat} {h : pv_H} {a0 : Nat} {x1 : Int} {x2 : Int} {x3 : Int} {x4 : Int} {x5 : Int} (hT : pv_Ty τ ρ h) (hA0 : τ a0 = some 0) (hX1 : (-2147483648) ≤ x1 ∧ x1 ≤ 2147483647) (hX2 : (-2147483648) ≤ x2 ∧ x2 ≤ 2147483647) (hX3 : (-2147483648) ≤ x3 ∧ x3 ≤ 2147483647) (hX4 : (-2147483648) ≤ x4 ∧ x4 ≤ 2147483647) (hX5 : (-2147483648) ≤ x5 ∧ x5 ≤ 2147483647) : pv_C K 180 [.ref a0, .int (pv_I x1), .int (pv_I x2), .int (pv_I x3), .int (pv_I x4), .int (pv_I x5)] h (Q180R τ ρ h a0 x1 x2 x3 x4 x5) := by
  refine pw_entry 2 ?_
  show pv_T K 180 0 (pv_fl [some (.ref a0), some (.int (pv_I x1)), some (.int (pv_I x2)), some (.int (pv_I x3)), some (.int (pv_I x4)), some (.int (pv_I x5)), none, none]) [] h (Q180R τ ρ h a0 x1 x2 x3 x4 x5)
  have hF0 : pv_Fr τ [2047] h h := pv_Fr.rf
  refine pw_iload_n d180_0 rfl ?_
  refine pw_callS1 d180_1 k180_306 rfl rfl (ct165 (τ := τ) (ρ := ρ) (by omega)) (fun r1 h1 q1 => ?_)
  obtain ⟨eh1, z1, ez1, lz1, uz1, pz1_0⟩ := q1
  subst eh1
  subst ez1
  refine pw_if_eq d180_4 rfl (by omega) (fun c4 => ?_) (fun c4 => ?_)
  · refine pw_bipush d180_14 (by decide) ?_
    exact pw_ireturn d180_16 tt180 ⟨hT, hF0, (-2), rfl, (by omega), (by omega), (by first | (rw [if_neg (by omega)]; done) | (rw [if_pos (by omega), if_pos (by omega)]; done) | (rw [if_pos (by omega), if_neg (by omega), if_pos (by omega)]; done) | (rw [if_pos (by omega), if_neg (by omega), if_neg (by omega), if_pos (by omega)]; done) | (rw [if_pos (by omega), if_neg (by omega), if_neg (by omega), if_neg (by omega)]; done))⟩
  · refine pw_iload_n d180_7 rfl ?_
    refine pw_callS1 d180_8 k180_306 rfl rfl (ct165 (τ := τ) (ρ := ρ) (by omega)) (fun r8 h8 q8 => ?_)
    obtain ⟨eh8, z8, ez8, lz8, uz8, pz8_0⟩ := q8
    subst eh8
    subst ez8
    refine pw_if_ne d180_11 rfl (by omega) (fun c11 => ?_) (fun c11 => ?_)
    · refine pw_aload_n d180_17 rfl ?_
      refine pw_getR d180_18 g180_36 hT hA0 rfl rfl (fun t18 => ?_)
      have t18 : τ (ρ a0 5) = some 12 := t18
      refine pw_iload_n d180_21 rfl ?_
      refine pw_aald d180_22 hT t18 rfl (by decide) rfl (by omega) (by omega) (fun u22 => ?_)
      have u22 : τ (ρ (ρ a0 5) (x1).toNat) = some 3 := u22
      refine pw_astore d180_23 m180 rfl rfl ?_
      refine pw_aload_n d180_25 rfl ?_
      refine pw_getR d180_26 g180_36 hT hA0 rfl rfl (fun t26 => ?_)
      have t26 : τ (ρ a0 5) = some 12 := t26
      refine pw_iload_n d180_29 rfl ?_
      refine pw_aald d180_30 hT t26 rfl (by decide) rfl (by omega) (by omega) (fun u30 => ?_)
      have u30 : τ (ρ (ρ a0 5) (x3).toNat) = some 3 := u30
      refine pw_astore d180_31 m180 rfl rfl ?_
      refine pw_aload d180_33 rfl ?_
      refine pw_getI d180_35 g180_309 hT u22 rfl rfl (fun u35 vu35 => ?_)
      refine pw_if_eq d180_38 rfl (by omega) (fun c38 => ?_) (fun c38 => ?_)
      · refine pw_bipush d180_49 (by decide) ?_
        exact pw_ireturn d180_51 tt180 ⟨hT, hF0, (-6), rfl, (by omega), (by omega), (by first | (rw [if_neg (by omega)]; done) | (rw [if_pos (by omega), if_pos (by omega)]; done) | (rw [if_pos (by omega), if_neg (by omega), if_pos (by omega)]; done) | (rw [if_pos (by omega), if_neg (by omega), if_neg (by omega), if_pos (by omega)]; done) | (rw [if_pos (by omega), if_neg (by omega), if_neg (by omega), if_neg (by omega)]; done))⟩
      · refine pw_aload d180_41 rfl ?_
        refine pw_getI d180_43 g180_309 hT u30 rfl rfl (fun u43 vu43 => ?_)
        refine pw_if_ne d180_46 rfl (by omega) (fun c46 => ?_) (fun c46 => ?_)
        · refine pw_aload d180_52 rfl ?_
          refine pw_getI d180_54 g180_355 hT u22 rfl rfl (fun u54 vu54 => ?_)
          refine pw_aload d180_57 rfl ?_
          refine pw_getI d180_59 g180_355 hT u30 rfl rfl (fun u59 vu59 => ?_)
          refine pw_icmp_eq d180_62 rfl (by omega) (by omega) (fun c62 => ?_) (fun c62 => ?_)
          · refine pw_aload d180_68 rfl ?_
            refine pw_iload_n d180_70 rfl ?_
            refine pw_iload d180_71 rfl ?_
            refine pw_callV2 d180_73 k180_358 hT u22 rfl rfl rfl (ct181F (τ := τ) (ρ := ρ) hT u22 (by omega) (by omega)) (fun r73 h73 q73 => ?_)
            obtain ⟨eh73, z73, ez73, lz73, uz73, pz73_0, pz73_1⟩ := q73
            subst eh73
            subst ez73
            refine pw_if_eq d180_76 rfl (by omega) (fun c76 => ?_) (fun c76 => ?_)
            · refine pw_bipush d180_91 (by decide) ?_
              exact pw_ireturn d180_93 tt180 ⟨hT, hF0, (-7), rfl, (by omega), (by omega), (by first | (rw [if_neg (by omega)]; done) | (rw [if_pos (by omega), if_pos (by omega)]; done) | (rw [if_pos (by omega), if_neg (by omega), if_pos (by omega)]; done) | (rw [if_pos (by omega), if_neg (by omega), if_neg (by omega), if_pos (by omega)]; done) | (rw [if_pos (by omega), if_neg (by omega), if_neg (by omega), if_neg (by omega)]; done))⟩
            · refine pw_aload d180_79 rfl ?_
              refine pw_iload d180_81 rfl ?_
              refine pw_iload d180_83 rfl ?_
              refine pw_callV2 d180_85 k180_358 hT u30 rfl rfl rfl (ct181F (τ := τ) (ρ := ρ) hT u30 (by omega) (by omega)) (fun r85 h85 q85 => ?_)
              obtain ⟨eh85, z85, ez85, lz85, uz85, pz85_0, pz85_1⟩ := q85
              subst eh85
              subst ez85
              refine pw_if_ne d180_88 rfl (by omega) (fun c88 => ?_) (fun c88 => ?_)
              · refine pw_aload d180_94 rfl ?_
                refine pw_getR d180_96 g180_317 hT u22 rfl rfl (fun t96 => ?_)
                have t96 : τ (ρ (ρ (ρ a0 5) (x1).toNat) 3) = some 31 := t96
                refine pw_iload_n d180_99 rfl ?_
                refine pw_aload d180_100 rfl ?_
                refine pw_getR d180_102 g180_317 hT u30 rfl rfl (fun t102 => ?_)
                have t102 : τ (ρ (ρ (ρ a0 5) (x3).toNat) 3) = some 31 := t102
                refine pw_iload d180_105 rfl ?_
                refine pw_iload d180_107 rfl ?_
                refine pw_copyL d180_109 k180_361 hT t96 t102 rfl rfl rfl rfl rfl rfl (by omega) (by omega) (by omega) (by omega) (by omega) (fun h109 T109 F109 => ?_)
                have f109 := hF0.tr (F109.up (by decide))
                have q109 := ((F109 (ρ (ρ a0 5) (x1).toNat) 3 u22).1 0 (by decide)).1
                have q109b := ((F109 (ρ (ρ a0 5) (x1).toNat) 3 u22).1 1 (by decide)).1
                have q109c := ((F109 (ρ (ρ a0 5) (x3).toNat) 3 u30).1 0 (by decide)).1
                have q109d := ((F109 (ρ (ρ a0 5) (x3).toNat) 3 u30).1 1 (by decide)).1
                refine pw_iconst d180_112 ?_
                exact pw_ireturn d180_113 tt180 ⟨T109, f109, 0, rfl, (by omega), (by omega), (by first | (rw [if_neg (by omega)]; done) | (rw [if_pos (by omega), if_pos (by omega)]; done) | (rw [if_pos (by omega), if_neg (by omega), if_pos (by omega)]; done) | (rw [if_pos (by omega), if_neg (by omega), if_neg (by omega), if_pos (by omega)]; done) | (rw [if_pos (by omega), if_neg (by omega), if_neg (by omega), if_neg (by omega)]; done))⟩
              · refine pw_bipush d180_91 (by decide) ?_
                exact pw_ireturn d180_93 tt180 ⟨hT, hF0, (-7), rfl, (by omega), (by omega), (by first | (rw [if_neg (by omega)]; done) | (rw [if_pos (by omega), if_pos (by omega)]; done) | (rw [if_pos (by omega), if_neg (by omega), if_pos (by omega)]; done) | (rw [if_pos (by omega), if_neg (by omega), if_neg (by omega), if_pos (by omega)]; done) | (rw [if_pos (by omega), if_neg (by omega), if_neg (by omega), if_neg (by omega)]; done))⟩
          · refine pw_bipush d180_65 (by decide) ?_
            exact pw_ireturn d180_67 tt180 ⟨hT, hF0, (-8), rfl, (by omega), (by omega), (by first | (rw [if_neg (by omega)]; done) | (rw [if_pos (by omega), if_pos (by omega)]; done) | (rw [if_pos (by omega), if_neg (by omega), if_pos (by omega)]; done) | (rw [if_pos (by omega), if_neg (by omega), if_neg (by omega), if_pos (by omega)]; done) | (rw [if_pos (by omega), if_neg (by omega), if_neg (by omega), if_neg (by omega)]; done))⟩
        · refine pw_bipush d180_49 (by decide) ?_
          exact pw_ireturn d180_51 tt180 ⟨hT, hF0, (-6), rfl, (by omega), (by omega), (by first | (rw [if_neg (by omega)]; done) | (rw [if_pos (by omega), if_pos (by omega)]; done) | (rw [if_pos (by omega), if_neg (by omega), if_pos (by omega)]; done) | (rw [if_pos (by omega), if_neg (by omega), if_neg (by omega), if_pos (by omega)]; done) | (rw [if_pos (by omega), if_neg (by omega), if_neg (by omega), if_neg (by omega)]; done))⟩
    · refine pw_bipush d180_14 (by decide) ?_
      exact pw_ireturn d180_16 tt180 ⟨hT, hF0, (-2), rfl, (by omega), (by omega), (by first | (rw [if_neg (by omega)]; done) | (rw [if_pos (by omega), if_pos (by omega)]; done) | (rw [if_pos (by omega), if_neg (by omega), if_pos (by omega)]; done) | (rw [if_pos (by omega), if_neg (by omega), if_neg (by omega), if_pos (by omega)]; done) | (rw [if_pos (by omega), if_neg (by omega), if_neg (by omega), if_neg (by omega)]; done))⟩

abbrev Q316R (τ : Nat → Option Nat) (ρ : Nat → Nat → Nat) (h : pv_H) (a0 : Nat) (x1 : Int) (x2 : Int) (x3 : Int) : Option Value → pv_H → Prop := fun r h' => pv_Ty τ ρ h' ∧ pv_Fr τ [3455, 3519, 3583] h h' ∧ ∃ z : Int, r = some (.int (pv_I z)) ∧ (-3) ≤ z ∧ z ≤ 0 ∧ (z = if 0 ≤ x1 ∧ x1 ≤ 3 ∧ 0 ≤ x2 ∧ x2 ≤ 3 ∧ x3 ≤ 60 then (if x3 < 0 then -3 else 0) else -2) ∧ (rw_M (pv_aI h (ρ a0 24)) (pv_aI h' (ρ a0 24)) x1 x2 x3 x3) ∧ (rw_M (pv_aI h (ρ a0 25)) (pv_aI h' (ρ a0 25)) x1 x2 x3 x2)
set_option maxHeartbeats 4000000 in
set_option maxRecDepth 20000 in
/-- AngleNetModel.row(III)I -/
theorem ct316R {τ : Nat → Option Nat} {ρ : Nat → Nat → Nat} {K : Nat → Nat} {h : pv_H} {a0 : Nat} {x1 : Int} {x2 : Int} {x3 : Int} (hT : pv_Ty τ ρ h) (hA0 : τ a0 = some 7) (hX1 : (-2147483648) ≤ x1 ∧ x1 ≤ 2147483647) (hX2 : (-2147483648) ≤ x2 ∧ x2 ≤ 2147483647) (hX3 : (-2147483648) ≤ x3 ∧ x3 ≤ 2147483647) : pv_C K 316 [.ref a0, .int (pv_I x1), .int (pv_I x2), .int (pv_I x3)] h (Q316R τ ρ h a0 x1 x2 x3) := by
  refine pw_entry 1 ?_
  show pv_T K 316 0 (pv_fl [some (.ref a0), some (.int (pv_I x1)), some (.int (pv_I x2)), some (.int (pv_I x3)), none]) [] h (Q316R τ ρ h a0 x1 x2 x3)
  have hR0_24 : τ (ρ a0 24) = some 53 := hT.rf (t' := 53) hA0 rfl rfl
  have hR0_25 : τ (ρ a0 25) = some 54 := hT.rf (t' := 54) hA0 rfl rfl
  have hF0 : pv_Fr τ [3455, 3519, 3583] h h := pv_Fr.rf
  have L52 : ∀ (nn : Nat) (h_52 : pv_H) (xL4_52 : Int) (o2_52 o3_52 : Option Value), (pv_Ty τ ρ h_52) → (pv_Fr τ [3455, 3519, 3583] h h_52) → (0 ≤ x1 ∧ x1 ≤ 3) → (0 ≤ xL4_52 ∧ xL4_52 ≤ 60) → (0 ≤ x1 ∧ x1 ≤ 3 ∧ 0 ≤ x2 ∧ x2 ≤ 3 ∧ 0 ≤ x3 ∧ x3 ≤ 60) → (rw_M (pv_aI h (ρ a0 24)) (pv_aI h_52 (ρ a0 24)) x1 x2 x3 x3) → (rw_M (pv_aI h (ρ a0 25)) (pv_aI h_52 (ρ a0 25)) x1 x2 x3 x2) → 60 - xL4_52 < nn → pv_T K 316 52 (pv_fl [some (.ref a0), some (.int (pv_I x1)), o2_52, o3_52, some (.int (pv_I xL4_52))]) [] h_52 (Q316R τ ρ h a0 x1 x2 x3) := by
    intro nn
    induction nn with
    | zero => intro h_52 xL4_52 o2_52 o3_52 hT_52 hF_52 rL1_52 rL4_52 i0_52 i1_52 i2_52 hm; exfalso; omega
    | succ nn ih52 =>
      intro h_52 xL4_52 o2_52 o3_52 hT_52 hF_52 rL1_52 rL4_52 i0_52 i1_52 i2_52 hm52
      refine pw_iload d316_52 rfl ?_
      refine pw_bipush d316_54 (by decide) ?_
      refine pw_icmp_ge d316_56 rfl (by omega) (by omega) (fun c56 => ?_) (fun c56 => ?_)
      · refine pw_iconst d316_78 ?_
        exact pw_ireturn d316_79 tt316 ⟨hT_52, hF_52, 0, rfl, (by omega), (by omega), (by omega), (by first | exact rw_M.no (by omega) | exact i1_52), (by first | exact rw_M.no (by omega) | exact i2_52)⟩
      · refine pw_aload_n d316_59 rfl ?_
        refine pw_getR d316_60 g316_62 hT_52 hA0 rfl rfl (fun t60 => ?_)
        have t60 : τ (ρ a0 26) = some 55 := t60
        refine pw_bipush d316_63 (by decide) ?_
        refine pw_iload_n d316_65 rfl ?_
        refine pw_imul d316_66 ?_
        refine pw_iload d316_67 rfl ?_
        refine pw_iadd d316_69 ?_
        refine pw_lconst (z := 0) d316_70 (by decide) ?_
        refine pw_last d316_71 hT_52 t60 rfl rfl rfl (by omega) (by omega) (by omega) (fun h71 T71 F71 E71 => ?_)
        have f71 := hF_52.tr (F71.up (by decide))
        refine pw_iinc d316_72 m316 rfl rfl rfl ?_
        refine pw_goto d316_75 rfl ?_
        exact ih52 h71 ((xL4_52 + 1)) _ _ T71 f71 (by omega) (by omega) (by omega) (by first | (rw [F48.aeq hR0_24 (by decide)]; exact rw_M.yes (by omega) (pe_at E41)) | (rw [F71.aeq hR0_24 (by decide)]; exact i1_52)) (by first | (have e41 := F41.aeq hR0_25 (by decide); rw [← e41]; exact rw_M.yes (by omega) (pe_at E48)) | (rw [F71.aeq hR0_25 (by decide)]; exact i2_52)) (by omega)
  refine pw_iload_n d316_0 rfl ?_
  refine pw_callS1 d316_1 k316_478 rfl rfl (ct310 (τ := τ) (ρ := ρ) (by omega)) (fun r1 h1 q1 => ?_)
  obtain ⟨eh1, z1, ez1, lz1, uz1, pz1_0⟩ := q1
  subst eh1
  subst ez1
  refine pw_if_eq d316_4 rfl (by omega) (fun c4 => ?_) (fun c4 => ?_)
  · refine pw_bipush d316_25 (by decide) ?_
    exact pw_ireturn d316_27 tt316 ⟨hT, hF0, (-2), rfl, (by omega), (by omega), (by omega), (by first | exact rw_M.no (by omega) | exact i1_52), (by first | exact rw_M.no (by omega) | exact i2_52)⟩
  · refine pw_iload_n d316_7 rfl ?_
    refine pw_i2l d316_8 (by omega) ?_
    refine pw_lconst (z := 0) d316_9 (by decide) ?_
    refine pw_ldc2 (v := pv_J 3) d316_10 n316_10 ?_
    refine pw_callS3 d316_13 k316_73 rfl rfl (ct184 (τ := τ) (ρ := ρ) (by omega) (by omega) (by omega)) (fun r13 h13 q13 => ?_)
    obtain ⟨eh13, z13, ez13, lz13, uz13, pz13_0⟩ := q13
    subst eh13
    subst ez13
    refine pw_if_eq d316_16 rfl (by omega) (fun c16 => ?_) (fun c16 => ?_)
    · refine pw_bipush d316_25 (by decide) ?_
      exact pw_ireturn d316_27 tt316 ⟨hT, hF0, (-2), rfl, (by omega), (by omega), (by omega), (by first | exact rw_M.no (by omega) | exact i1_52), (by first | exact rw_M.no (by omega) | exact i2_52)⟩
    · refine pw_iload_n d316_19 rfl ?_
      refine pw_bipush d316_20 (by decide) ?_
      refine pw_icmp_le d316_22 rfl (by omega) (by omega) (fun c22 => ?_) (fun c22 => ?_)
      · refine pw_iload_n d316_28 rfl ?_
        refine pw_if_ge d316_29 rfl (by omega) (fun c29 => ?_) (fun c29 => ?_)
        · refine pw_aload_n d316_35 rfl ?_
          refine pw_getR d316_36 g316_56 hT hA0 rfl rfl (fun t36 => ?_)
          have t36 : τ (ρ a0 24) = some 53 := t36
          refine pw_iload_n d316_39 rfl ?_
          refine pw_iload_n d316_40 rfl ?_
          refine pw_iast d316_41 hT t36 rfl rfl rfl (by omega) (by omega) (by omega) (by omega) (fun h41 T41 F41 E41 => ?_)
          have f41 := hF0.tr (F41.up (by decide))
          refine pw_aload_n d316_42 rfl ?_
          refine pw_getR d316_43 g316_59 T41 hA0 rfl rfl (fun t43 => ?_)
          have t43 : τ (ρ a0 25) = some 54 := t43
          refine pw_iload_n d316_46 rfl ?_
          refine pw_iload_n d316_47 rfl ?_
          refine pw_iast d316_48 T41 t43 rfl rfl rfl (by omega) (by omega) (by omega) (by omega) (fun h48 T48 F48 E48 => ?_)
          have f48 := f41.tr (F48.up (by decide))
          refine pw_iconst d316_49 ?_
          refine pw_istore d316_50 m316 rfl rfl ?_
          exact L52 _ h48 (0) _ _ T48 f48 (by omega) (by omega) (by omega) (by first | (rw [F48.aeq hR0_24 (by decide)]; exact rw_M.yes (by omega) (pe_at E41)) | (rw [F71.aeq hR0_24 (by decide)]; exact i1_52)) (by first | (have e41 := F41.aeq hR0_25 (by decide); rw [← e41]; exact rw_M.yes (by omega) (pe_at E48)) | (rw [F71.aeq hR0_25 (by decide)]; exact i2_52)) (pv_mu _)
        · refine pw_bipush d316_32 (by decide) ?_
          exact pw_ireturn d316_34 tt316 ⟨hT, hF0, (-3), rfl, (by omega), (by omega), (by omega), (by first | exact rw_M.no (by omega) | exact i1_52), (by first | exact rw_M.no (by omega) | exact i2_52)⟩
      · refine pw_bipush d316_25 (by decide) ?_
        exact pw_ireturn d316_27 tt316 ⟨hT, hF0, (-2), rfl, (by omega), (by omega), (by omega), (by first | exact rw_M.no (by omega) | exact i1_52), (by first | exact rw_M.no (by omega) | exact i2_52)⟩

abbrev Q317R (τ : Nat → Option Nat) (ρ : Nat → Nat → Nat) (h : pv_H) (a0 : Nat) (x1 : Int) (x2 : Int) (x3 : Int) : Option Value → pv_H → Prop := fun r h' => pv_Ty τ ρ h' ∧ pv_Fr τ [3583] h h' ∧ ∃ z : Int, r = some (.int (pv_I z)) ∧ (-7) ≤ z ∧ z ≤ 0 ∧ (z = if 0 ≤ x1 ∧ x1 ≤ 3 then (if pv_aI h (ρ a0 24) (x1).toNat = -1 then -6 else if 0 ≤ x2 ∧ x2 < pv_aI h (ρ a0 24) (x1).toNat then 0 else -7) else -2)
set_option maxHeartbeats 4000000 in
set_option maxRecDepth 20000 in
/-- AngleNetModel.write(IIJ)I -/
theorem ct317R {τ : Nat → Option Nat} {ρ : Nat → Nat → Nat} {K : Nat → Nat} {h : pv_H} {a0 : Nat} {x1 : Int} {x2 : Int} {x3 : Int} (hT : pv_Ty τ ρ h) (hA0 : τ a0 = some 7) (hX1 : (-2147483648) ≤ x1 ∧ x1 ≤ 2147483647) (hX2 : (-2147483648) ≤ x2 ∧ x2 ≤ 2147483647) (hX3 : (-9223372036854775808) ≤ x3 ∧ x3 ≤ 9223372036854775807) : pv_C K 317 [.ref a0, .int (pv_I x1), .int (pv_I x2), .long (pv_J x3)] h (Q317R τ ρ h a0 x1 x2 x3) := by
  refine pw_entry 0 ?_
  show pv_T K 317 0 (pv_fl [some (.ref a0), some (.int (pv_I x1)), some (.int (pv_I x2)), some (.long (pv_J x3)), none]) [] h (Q317R τ ρ h a0 x1 x2 x3)
  have hF0 : pv_Fr τ [3583] h h := pv_Fr.rf
  refine pw_iload_n d317_0 rfl ?_
  refine pw_callS1 d317_1 k317_478 rfl rfl (ct310 (τ := τ) (ρ := ρ) (by omega)) (fun r1 h1 q1 => ?_)
  obtain ⟨eh1, z1, ez1, lz1, uz1, pz1_0⟩ := q1
  subst eh1
  subst ez1
  refine pw_if_ne d317_4 rfl (by omega) (fun c4 => ?_) (fun c4 => ?_)
  · refine pw_aload_n d317_10 rfl ?_
    refine pw_getR d317_11 g317_56 hT hA0 rfl rfl (fun t11 => ?_)
    have t11 : τ (ρ a0 24) = some 53 := t11
    refine pw_iload_n d317_14 rfl ?_
    refine pw_iald d317_15 hT t11 rfl rfl (by omega) (by omega) (fun u15 vu15 => ?_)
    refine pw_iconst d317_16 ?_
    refine pw_icmp_ne d317_17 rfl (by omega) (by omega) (fun c17 => ?_) (fun c17 => ?_)
    · refine pw_iload_n d317_23 rfl ?_
      refine pw_i2l d317_24 (by omega) ?_
      refine pw_lconst (z := 0) d317_25 (by decide) ?_
      refine pw_aload_n d317_26 rfl ?_
      refine pw_getR d317_27 g317_56 hT hA0 rfl rfl (fun t27 => ?_)
      have t27 : τ (ρ a0 24) = some 53 := t27
      refine pw_iload_n d317_30 rfl ?_
      refine pw_iald d317_31 hT t27 rfl rfl (by omega) (by omega) (fun u31 vu31 => ?_)
      refine pw_iconst d317_32 ?_
      refine pw_isub d317_33 ?_
      refine pw_i2l d317_34 (by omega) ?_
      refine pw_callS3 d317_35 k317_73 rfl rfl (ct184 (τ := τ) (ρ := ρ) (by omega) (by omega) (by omega)) (fun r35 h35 q35 => ?_)
      obtain ⟨eh35, z35, ez35, lz35, uz35, pz35_0⟩ := q35
      subst eh35
      subst ez35
      refine pw_if_ne d317_38 rfl (by omega) (fun c38 => ?_) (fun c38 => ?_)
      · refine pw_aload_n d317_44 rfl ?_
        refine pw_getR d317_45 g317_62 hT hA0 rfl rfl (fun t45 => ?_)
        have t45 : τ (ρ a0 26) = some 55 := t45
        refine pw_bipush d317_48 (by decide) ?_
        refine pw_iload_n d317_50 rfl ?_
        refine pw_imul d317_51 ?_
        refine pw_iload_n d317_52 rfl ?_
        refine pw_iadd d317_53 ?_
        refine pw_lload_n d317_54 rfl ?_
        refine pw_aload_n d317_55 rfl ?_
        refine pw_getR d317_56 g317_59 hT hA0 rfl rfl (fun t56 => ?_)
        have t56 : τ (ρ a0 25) = some 54 := t56
        refine pw_iload_n d317_59 rfl ?_
        refine pw_iald d317_60 hT t56 rfl rfl (by omega) (by omega) (fun u60 vu60 => ?_)
        refine pw_callS2 d317_61 k317_494 rfl rfl (ct318 (τ := τ) (ρ := ρ) (by omega) (by omega)) (fun r61 h61 q61 => ?_)
        obtain ⟨eh61, z61, ez61, lz61, uz61⟩ := q61
        subst eh61
        subst ez61
        refine pw_last d317_64 hT t45 rfl rfl rfl (by omega) (by omega) (by omega) (fun h64 T64 F64 E64 => ?_)
        have f64 := hF0.tr (F64.up (by decide))
        refine pw_iconst d317_65 ?_
        exact pw_ireturn d317_66 tt317 ⟨T64, f64, 0, rfl, (by omega), (by omega), (by first | (rw [if_neg (by omega)]; done) | (rw [if_pos (by omega), if_pos (by omega)]; done) | (rw [if_pos (by omega), if_neg (by omega), if_pos (by omega)]; done) | (rw [if_pos (by omega), if_neg (by omega), if_neg (by omega)]; done))⟩
      · refine pw_bipush d317_41 (by decide) ?_
        exact pw_ireturn d317_43 tt317 ⟨hT, hF0, (-7), rfl, (by omega), (by omega), (by first | (rw [if_neg (by omega)]; done) | (rw [if_pos (by omega), if_pos (by omega)]; done) | (rw [if_pos (by omega), if_neg (by omega), if_pos (by omega)]; done) | (rw [if_pos (by omega), if_neg (by omega), if_neg (by omega)]; done))⟩
    · refine pw_bipush d317_20 (by decide) ?_
      exact pw_ireturn d317_22 tt317 ⟨hT, hF0, (-6), rfl, (by omega), (by omega), (by first | (rw [if_neg (by omega)]; done) | (rw [if_pos (by omega), if_pos (by omega)]; done) | (rw [if_pos (by omega), if_neg (by omega), if_pos (by omega)]; done) | (rw [if_pos (by omega), if_neg (by omega), if_neg (by omega)]; done))⟩
  · refine pw_bipush d317_7 (by decide) ?_
    exact pw_ireturn d317_9 tt317 ⟨hT, hF0, (-2), rfl, (by omega), (by omega), (by first | (rw [if_neg (by omega)]; done) | (rw [if_pos (by omega), if_pos (by omega)]; done) | (rw [if_pos (by omega), if_neg (by omega), if_pos (by omega)]; done) | (rw [if_pos (by omega), if_neg (by omega), if_neg (by omega)]; done))⟩

abbrev Q319R (τ : Nat → Option Nat) (ρ : Nat → Nat → Nat) (h : pv_H) (a0 : Nat) (x1 : Int) (x2 : Int) (x3 : Int) (x4 : Int) (x5 : Int) : Option Value → pv_H → Prop := fun r h' => pv_Ty τ ρ h' ∧ pv_Fr τ [3583, 3647] h h' ∧ ∃ z : Int, r = some (.int (pv_I z)) ∧ (-8) ≤ z ∧ z ≤ 0 ∧ (z = if 0 ≤ x1 ∧ x1 ≤ 3 ∧ 0 ≤ x3 ∧ x3 ≤ 3 then (if pv_aI h (ρ a0 24) (x1).toNat = -1 ∨ pv_aI h (ρ a0 24) (x3).toNat = -1 then -6 else if pv_aI h (ρ a0 25) (x1).toNat ≠ pv_aI h (ρ a0 25) (x3).toNat then -8 else if 0 ≤ x2 ∧ 0 ≤ x4 ∧ 0 ≤ x5 ∧ x2 + x5 ≤ pv_aI h (ρ a0 24) (x1).toNat ∧ x4 + x5 ≤ pv_aI h (ρ a0 24) (x3).toNat then 0 else -7) else -2)
set_option maxHeartbeats 4000000 in
set_option maxRecDepth 20000 in
/-- AngleNetModel.paste(IIIII)I -/
theorem ct319R {τ : Nat → Option Nat} {ρ : Nat → Nat → Nat} {K : Nat → Nat} {h : pv_H} {a0 : Nat} {x1 : Int} {x2 : Int} {x3 : Int} {x4 : Int} {x5 : Int} (hT : pv_Ty τ ρ h) (hA0 : τ a0 = some 7) (hX1 : (-2147483648) ≤ x1 ∧ x1 ≤ 2147483647) (hX2 : (-2147483648) ≤ x2 ∧ x2 ≤ 2147483647) (hX3 : (-2147483648) ≤ x3 ∧ x3 ≤ 2147483647) (hX4 : (-2147483648) ≤ x4 ∧ x4 ≤ 2147483647) (hX5 : (-2147483648) ≤ x5 ∧ x5 ≤ 2147483647) : pv_C K 319 [.ref a0, .int (pv_I x1), .int (pv_I x2), .int (pv_I x3), .int (pv_I x4), .int (pv_I x5)] h (Q319R τ ρ h a0 x1 x2 x3 x4 x5) := by
  refine pw_entry 1 ?_
  show pv_T K 319 0 (pv_fl [some (.ref a0), some (.int (pv_I x1)), some (.int (pv_I x2)), some (.int (pv_I x3)), some (.int (pv_I x4)), some (.int (pv_I x5)), none]) [] h (Q319R τ ρ h a0 x1 x2 x3 x4 x5)
  have hF0 : pv_Fr τ [3583, 3647] h h := pv_Fr.rf
  have L150 : ∀ (nn : Nat) (h_150 : pv_H) (xL6_150 : Int) (o1_150 o2_150 : Option Value), (pv_Ty τ ρ h_150) → (pv_Fr τ [3583, 3647] h h_150) → (0 ≤ x3 ∧ x3 ≤ 3) → (0 ≤ x4 ∧ x4 ≤ 2147483647) → (0 ≤ x5 ∧ x5 ≤ 2147483647) → (0 ≤ xL6_150 ∧ xL6_150 ≤ 2147483647) → (0 ≤ x1 ∧ x1 ≤ 3 ∧ 0 ≤ x3 ∧ x3 ≤ 3 ∧ 0 ≤ x2 ∧ 0 ≤ x4 ∧ 0 ≤ x5 ∧ x2 + x5 ≤ 60 ∧ x4 + x5 ≤ 60) → (¬ (pv_aI h (ρ a0 24) (x1).toNat = -1 ∨ pv_aI h (ρ a0 24) (x3).toNat = -1) ∧ pv_aI h (ρ a0 25) (x1).toNat = pv_aI h (ρ a0 25) (x3).toNat ∧ x2 + x5 ≤ pv_aI h (ρ a0 24) (x1).toNat ∧ x4 + x5 ≤ pv_aI h (ρ a0 24) (x3).toNat) → 2147483647 - xL6_150 < nn → pv_T K 319 150 (pv_fl [some (.ref a0), o1_150, o2_150, some (.int (pv_I x3)), some (.int (pv_I x4)), some (.int (pv_I x5)), some (.int (pv_I xL6_150))]) [] h_150 (Q319R τ ρ h a0 x1 x2 x3 x4 x5) := by
    intro nn
    induction nn with
    | zero => intro h_150 xL6_150 o1_150 o2_150 hT_150 hF_150 rL3_150 rL4_150 rL5_150 rL6_150 i0_150 i1_150 hm; exfalso; omega
    | succ nn ih150 =>
      intro h_150 xL6_150 o1_150 o2_150 hT_150 hF_150 rL3_150 rL4_150 rL5_150 rL6_150 i0_150 i1_150 hm150
      refine pw_iload d319_150 rfl ?_
      refine pw_iload d319_152 rfl ?_
      refine pw_icmp_ge d319_154 rfl (by omega) (by omega) (fun c154 => ?_) (fun c154 => ?_)
      · refine pw_iconst d319_185 ?_
        exact pw_ireturn d319_186 tt319 ⟨hT_150, hF_150, 0, rfl, (by omega), (by omega), (by first | (rw [if_neg (by omega)]; done) | (rw [if_pos (by omega), if_pos (by omega)]; done) | (rw [if_pos (by omega), if_neg (by omega), if_pos (by omega)]; done) | (rw [if_pos (by omega), if_neg (by omega), if_neg (by omega), if_pos (by omega)]; done) | (rw [if_pos (by omega), if_neg (by omega), if_neg (by omega), if_neg (by omega)]; done))⟩
      · refine pw_aload_n d319_157 rfl ?_
        refine pw_getR d319_158 g319_62 hT_150 hA0 rfl rfl (fun t158 => ?_)
        have t158 : τ (ρ a0 26) = some 55 := t158
        refine pw_bipush d319_161 (by decide) ?_
        refine pw_iload_n d319_163 rfl ?_
        refine pw_imul d319_164 ?_
        refine pw_iload d319_165 rfl ?_
        refine pw_iadd d319_167 ?_
        refine pw_iload d319_168 rfl ?_
        refine pw_iadd d319_170 ?_
        refine pw_aload_n d319_171 rfl ?_
        refine pw_getR d319_172 g319_65 hT_150 hA0 rfl rfl (fun t172 => ?_)
        have t172 : τ (ρ a0 27) = some 56 := t172
        refine pw_iload d319_175 rfl ?_
        refine pw_lald d319_177 hT_150 t172 rfl rfl (by omega) (by omega) (fun u177 => ?_)
        refine pw_last d319_178 hT_150 t158 rfl rfl rfl (by omega) (by omega) (by omega) (fun h178 T178 F178 E178 => ?_)
        have f178 := hF_150.tr (F178.up (by decide))
        refine pw_iinc d319_179 m319 rfl rfl rfl ?_
        refine pw_goto d319_182 rfl ?_
        exact ih150 h178 ((xL6_150 + 1)) _ _ T178 f178 (by omega) (by omega) (by omega) (by omega) (by omega) (by omega) (by omega)
  have L113 : ∀ (nn : Nat) (h_113 : pv_H) (xL6_113 : Int), (pv_Ty τ ρ h_113) → (pv_Fr τ [3583, 3647] h h_113) → (0 ≤ x1 ∧ x1 ≤ 3) → (0 ≤ x2 ∧ x2 ≤ 2147483647) → (0 ≤ x3 ∧ x3 ≤ 3) → (0 ≤ x4 ∧ x4 ≤ 2147483647) → (0 ≤ x5 ∧ x5 ≤ 2147483647) → (0 ≤ xL6_113 ∧ xL6_113 ≤ 2147483647) → (0 ≤ x1 ∧ x1 ≤ 3 ∧ 0 ≤ x3 ∧ x3 ≤ 3 ∧ 0 ≤ x2 ∧ 0 ≤ x4 ∧ 0 ≤ x5 ∧ x2 + x5 ≤ 60 ∧ x4 + x5 ≤ 60) → (¬ (pv_aI h (ρ a0 24) (x1).toNat = -1 ∨ pv_aI h (ρ a0 24) (x3).toNat = -1) ∧ pv_aI h (ρ a0 25) (x1).toNat = pv_aI h (ρ a0 25) (x3).toNat ∧ x2 + x5 ≤ pv_aI h (ρ a0 24) (x1).toNat ∧ x4 + x5 ≤ pv_aI h (ρ a0 24) (x3).toNat) → 2147483647 - xL6_113 < nn → pv_T K 319 113 (pv_fl [some (.ref a0), some (.int (pv_I x1)), some (.int (pv_I x2)), some (.int (pv_I x3)), some (.int (pv_I x4)), some (.int (pv_I x5)), some (.int (pv_I xL6_113))]) [] h_113 (Q319R τ ρ h a0 x1 x2 x3 x4 x5) := by
    intro nn
    induction nn with
    | zero => intro h_113 xL6_113 hT_113 hF_113 rL1_113 rL2_113 rL3_113 rL4_113 rL5_113 rL6_113 i0_113 i1_113 hm; exfalso; omega
    | succ nn ih113 =>
      intro h_113 xL6_113 hT_113 hF_113 rL1_113 rL2_113 rL3_113 rL4_113 rL5_113 rL6_113 i0_113 i1_113 hm113
      refine pw_iload d319_113 rfl ?_
      refine pw_iload d319_115 rfl ?_
      refine pw_icmp_ge d319_117 rfl (by omega) (by omega) (fun c117 => ?_) (fun c117 => ?_)
      · refine pw_iconst d319_147 ?_
        refine pw_istore d319_148 m319 rfl rfl ?_
        exact L150 _ h_113 (0) _ _ hT_113 hF_113 (by omega) (by omega) (by omega) (by omega) (by omega) (by omega) (pv_mu _)
      · refine pw_aload_n d319_120 rfl ?_
        refine pw_getR d319_121 g319_65 hT_113 hA0 rfl rfl (fun t121 => ?_)
        have t121 : τ (ρ a0 27) = some 56 := t121
        refine pw_iload d319_124 rfl ?_
        refine pw_aload_n d319_126 rfl ?_
        refine pw_getR d319_127 g319_62 hT_113 hA0 rfl rfl (fun t127 => ?_)
        have t127 : τ (ρ a0 26) = some 55 := t127
        refine pw_bipush d319_130 (by decide) ?_
        refine pw_iload_n d319_132 rfl ?_
        refine pw_imul d319_133 ?_
        refine pw_iload_n d319_134 rfl ?_
        refine pw_iadd d319_135 ?_
        refine pw_iload d319_136 rfl ?_
        refine pw_iadd d319_138 ?_
        refine pw_lald d319_139 hT_113 t127 rfl rfl (by omega) (by omega) (fun u139 => ?_)
        refine pw_last d319_140 hT_113 t121 rfl rfl rfl (by omega) (by omega) (by omega) (fun h140 T140 F140 E140 => ?_)
        have f140 := hF_113.tr (F140.up (by decide))
        refine pw_iinc d319_141 m319 rfl rfl rfl ?_
        refine pw_goto d319_144 rfl ?_
        exact ih113 h140 ((xL6_113 + 1)) T140 f140 (by omega) (by omega) (by omega) (by omega) (by omega) (by omega) (by omega) (by omega) (by omega)
  refine pw_iload_n d319_0 rfl ?_
  refine pw_callS1 d319_1 k319_478 rfl rfl (ct310 (τ := τ) (ρ := ρ) (by omega)) (fun r1 h1 q1 => ?_)
  obtain ⟨eh1, z1, ez1, lz1, uz1, pz1_0⟩ := q1
  subst eh1
  subst ez1
  refine pw_if_eq d319_4 rfl (by omega) (fun c4 => ?_) (fun c4 => ?_)
  · refine pw_bipush d319_14 (by decide) ?_
    exact pw_ireturn d319_16 tt319 ⟨hT, hF0, (-2), rfl, (by omega), (by omega), (by first | (rw [if_neg (by omega)]; done) | (rw [if_pos (by omega), if_pos (by omega)]; done) | (rw [if_pos (by omega), if_neg (by omega), if_pos (by omega)]; done) | (rw [if_pos (by omega), if_neg (by omega), if_neg (by omega), if_pos (by omega)]; done) | (rw [if_pos (by omega), if_neg (by omega), if_neg (by omega), if_neg (by omega)]; done))⟩
  · refine pw_iload_n d319_7 rfl ?_
    refine pw_callS1 d319_8 k319_478 rfl rfl (ct310 (τ := τ) (ρ := ρ) (by omega)) (fun r8 h8 q8 => ?_)
    obtain ⟨eh8, z8, ez8, lz8, uz8, pz8_0⟩ := q8
    subst eh8
    subst ez8
    refine pw_if_ne d319_11 rfl (by omega) (fun c11 => ?_) (fun c11 => ?_)
    · refine pw_aload_n d319_17 rfl ?_
      refine pw_getR d319_18 g319_56 hT hA0 rfl rfl (fun t18 => ?_)
      have t18 : τ (ρ a0 24) = some 53 := t18
      refine pw_iload_n d319_21 rfl ?_
      refine pw_iald d319_22 hT t18 rfl rfl (by omega) (by omega) (fun u22 vu22 => ?_)
      refine pw_iconst d319_23 ?_
      refine pw_icmp_eq d319_24 rfl (by omega) (by omega) (fun c24 => ?_) (fun c24 => ?_)
      · refine pw_bipush d319_37 (by decide) ?_
        exact pw_ireturn d319_39 tt319 ⟨hT, hF0, (-6), rfl, (by omega), (by omega), (by first | (rw [if_neg (by omega)]; done) | (rw [if_pos (by omega), if_pos (by omega)]; done) | (rw [if_pos (by omega), if_neg (by omega), if_pos (by omega)]; done) | (rw [if_pos (by omega), if_neg (by omega), if_neg (by omega), if_pos (by omega)]; done) | (rw [if_pos (by omega), if_neg (by omega), if_neg (by omega), if_neg (by omega)]; done))⟩
      · refine pw_aload_n d319_27 rfl ?_
        refine pw_getR d319_28 g319_56 hT hA0 rfl rfl (fun t28 => ?_)
        have t28 : τ (ρ a0 24) = some 53 := t28
        refine pw_iload_n d319_31 rfl ?_
        refine pw_iald d319_32 hT t28 rfl rfl (by omega) (by omega) (fun u32 vu32 => ?_)
        refine pw_iconst d319_33 ?_
        refine pw_icmp_ne d319_34 rfl (by omega) (by omega) (fun c34 => ?_) (fun c34 => ?_)
        · refine pw_aload_n d319_40 rfl ?_
          refine pw_getR d319_41 g319_59 hT hA0 rfl rfl (fun t41 => ?_)
          have t41 : τ (ρ a0 25) = some 54 := t41
          refine pw_iload_n d319_44 rfl ?_
          refine pw_iald d319_45 hT t41 rfl rfl (by omega) (by omega) (fun u45 vu45 => ?_)
          refine pw_aload_n d319_46 rfl ?_
          refine pw_getR d319_47 g319_59 hT hA0 rfl rfl (fun t47 => ?_)
          have t47 : τ (ρ a0 25) = some 54 := t47
          refine pw_iload_n d319_50 rfl ?_
          refine pw_iald d319_51 hT t47 rfl rfl (by omega) (by omega) (fun u51 vu51 => ?_)
          refine pw_icmp_eq d319_52 rfl (by omega) (by omega) (fun c52 => ?_) (fun c52 => ?_)
          · refine pw_iload_n d319_58 rfl ?_
            refine pw_if_lt d319_59 rfl (by omega) (fun c59 => ?_) (fun c59 => ?_)
            · refine pw_bipush d319_107 (by decide) ?_
              exact pw_ireturn d319_109 tt319 ⟨hT, hF0, (-7), rfl, (by omega), (by omega), (by first | (rw [if_neg (by omega)]; done) | (rw [if_pos (by omega), if_pos (by omega)]; done) | (rw [if_pos (by omega), if_neg (by omega), if_pos (by omega)]; done) | (rw [if_pos (by omega), if_neg (by omega), if_neg (by omega), if_pos (by omega)]; done) | (rw [if_pos (by omega), if_neg (by omega), if_neg (by omega), if_neg (by omega)]; done))⟩
            · refine pw_iload d319_62 rfl ?_
              refine pw_if_lt d319_64 rfl (by omega) (fun c64 => ?_) (fun c64 => ?_)
              · refine pw_bipush d319_107 (by decide) ?_
                exact pw_ireturn d319_109 tt319 ⟨hT, hF0, (-7), rfl, (by omega), (by omega), (by first | (rw [if_neg (by omega)]; done) | (rw [if_pos (by omega), if_pos (by omega)]; done) | (rw [if_pos (by omega), if_neg (by omega), if_pos (by omega)]; done) | (rw [if_pos (by omega), if_neg (by omega), if_neg (by omega), if_pos (by omega)]; done) | (rw [if_pos (by omega), if_neg (by omega), if_neg (by omega), if_neg (by omega)]; done))⟩
              · refine pw_iload d319_67 rfl ?_
                refine pw_if_lt d319_69 rfl (by omega) (fun c69 => ?_) (fun c69 => ?_)
                · refine pw_bipush d319_107 (by decide) ?_
                  exact pw_ireturn d319_109 tt319 ⟨hT, hF0, (-7), rfl, (by omega), (by omega), (by first | (rw [if_neg (by omega)]; done) | (rw [if_pos (by omega), if_pos (by omega)]; done) | (rw [if_pos (by omega), if_neg (by omega), if_pos (by omega)]; done) | (rw [if_pos (by omega), if_neg (by omega), if_neg (by omega), if_pos (by omega)]; done) | (rw [if_pos (by omega), if_neg (by omega), if_neg (by omega), if_neg (by omega)]; done))⟩
                · refine pw_iload_n d319_72 rfl ?_
                  refine pw_i2l d319_73 (by omega) ?_
                  refine pw_iload d319_74 rfl ?_
                  refine pw_i2l d319_76 (by omega) ?_
                  refine pw_ladd d319_77 ?_
                  refine pw_aload_n d319_78 rfl ?_
                  refine pw_getR d319_79 g319_56 hT hA0 rfl rfl (fun t79 => ?_)
                  have t79 : τ (ρ a0 24) = some 53 := t79
                  refine pw_iload_n d319_82 rfl ?_
                  refine pw_iald d319_83 hT t79 rfl rfl (by omega) (by omega) (fun u83 vu83 => ?_)
                  refine pw_i2l d319_84 (by omega) ?_
                  refine pw_lcmp d319_85 (by omega) (by omega) (fun z85 ez85 => ?_)
                  refine pw_if_gt d319_86 rfl (by omega) (fun c86 => ?_) (fun c86 => ?_)
                  · refine pw_bipush d319_107 (by decide) ?_
                    exact pw_ireturn d319_109 tt319 ⟨hT, hF0, (-7), rfl, (by omega), (by omega), (by first | (rw [if_neg (by omega)]; done) | (rw [if_pos (by omega), if_pos (by omega)]; done) | (rw [if_pos (by omega), if_neg (by omega), if_pos (by omega)]; done) | (rw [if_pos (by omega), if_neg (by omega), if_neg (by omega), if_pos (by omega)]; done) | (rw [if_pos (by omega), if_neg (by omega), if_neg (by omega), if_neg (by omega)]; done))⟩
                  · refine pw_iload d319_89 rfl ?_
                    refine pw_i2l d319_91 (by omega) ?_
                    refine pw_iload d319_92 rfl ?_
                    refine pw_i2l d319_94 (by omega) ?_
                    refine pw_ladd d319_95 ?_
                    refine pw_aload_n d319_96 rfl ?_
                    refine pw_getR d319_97 g319_56 hT hA0 rfl rfl (fun t97 => ?_)
                    have t97 : τ (ρ a0 24) = some 53 := t97
                    refine pw_iload_n d319_100 rfl ?_
                    refine pw_iald d319_101 hT t97 rfl rfl (by omega) (by omega) (fun u101 vu101 => ?_)
                    refine pw_i2l d319_102 (by omega) ?_
                    refine pw_lcmp d319_103 (by omega) (by omega) (fun z103 ez103 => ?_)
                    refine pw_if_le d319_104 rfl (by omega) (fun c104 => ?_) (fun c104 => ?_)
                    · refine pw_iconst d319_110 ?_
                      refine pw_istore d319_111 m319 rfl rfl ?_
                      exact L113 _ h (0) hT hF0 (by omega) (by omega) (by omega) (by omega) (by omega) (by omega) (by omega) (by omega) (pv_mu _)
                    · refine pw_bipush d319_107 (by decide) ?_
                      exact pw_ireturn d319_109 tt319 ⟨hT, hF0, (-7), rfl, (by omega), (by omega), (by first | (rw [if_neg (by omega)]; done) | (rw [if_pos (by omega), if_pos (by omega)]; done) | (rw [if_pos (by omega), if_neg (by omega), if_pos (by omega)]; done) | (rw [if_pos (by omega), if_neg (by omega), if_neg (by omega), if_pos (by omega)]; done) | (rw [if_pos (by omega), if_neg (by omega), if_neg (by omega), if_neg (by omega)]; done))⟩
          · refine pw_bipush d319_55 (by decide) ?_
            exact pw_ireturn d319_57 tt319 ⟨hT, hF0, (-8), rfl, (by omega), (by omega), (by first | (rw [if_neg (by omega)]; done) | (rw [if_pos (by omega), if_pos (by omega)]; done) | (rw [if_pos (by omega), if_neg (by omega), if_pos (by omega)]; done) | (rw [if_pos (by omega), if_neg (by omega), if_neg (by omega), if_pos (by omega)]; done) | (rw [if_pos (by omega), if_neg (by omega), if_neg (by omega), if_neg (by omega)]; done))⟩
        · refine pw_bipush d319_37 (by decide) ?_
          exact pw_ireturn d319_39 tt319 ⟨hT, hF0, (-6), rfl, (by omega), (by omega), (by first | (rw [if_neg (by omega)]; done) | (rw [if_pos (by omega), if_pos (by omega)]; done) | (rw [if_pos (by omega), if_neg (by omega), if_pos (by omega)]; done) | (rw [if_pos (by omega), if_neg (by omega), if_neg (by omega), if_pos (by omega)]; done) | (rw [if_pos (by omega), if_neg (by omega), if_neg (by omega), if_neg (by omega)]; done))⟩
    · refine pw_bipush d319_14 (by decide) ?_
      exact pw_ireturn d319_16 tt319 ⟨hT, hF0, (-2), rfl, (by omega), (by omega), (by first | (rw [if_neg (by omega)]; done) | (rw [if_pos (by omega), if_pos (by omega)]; done) | (rw [if_pos (by omega), if_neg (by omega), if_pos (by omega)]; done) | (rw [if_pos (by omega), if_neg (by omega), if_neg (by omega), if_pos (by omega)]; done) | (rw [if_pos (by omega), if_neg (by omega), if_neg (by omega), if_neg (by omega)]; done))⟩
