theorem lt3 : 3 < pv_ms.length := by decide +kernel
theorem ya3 : (pv_y 3).name = "<init>" := by decide +kernel
theorem yb3 : (pv_y 3).cls ≠ "java/lang/invoke/MethodHandle" ∧ (pv_y 3).cls ≠ "java/lang/invoke/VarHandle" ∧ (parseMethodDescriptor (pv_y 3).desc).map (fun d => d.parameters.length) = some 0 := by decide +kernel
set_option maxHeartbeats 8000000 in
set_option maxRecDepth 100000 in
/-- AngleNet$Net -/
theorem kt3 (l : Launch) (dC : Nat → ClassId) (dI : Nat → Nat → Nat) (dA : Nat → ClassId) (h0 sz : Nat) : Met l (pv_y 3) (pv_wsM 3) ({ frames := pv_fr 3, cells := 9, slots := 1599, locals := pv_lo 3 }) (va_Pc [.ref h0] (fun U => U.heap.size = sz ∧ va_P (dC, dI) pv_cls [(h0, .inr (2, [.int 0, .int 0, .int 0, .int 0, .int 0, .null, .null, .null, .null, .null, .null, .null, .null, .null, .int 0, .int 0]))] U.heap ∧ va_K (dC, dI) pv_cls (pv_tys dA) U ∧ va_D (fun _ => True) [(h0, .inr (2, [.int 0, .int 0, .int 0, .int 0, .int 0, .null, .null, .null, .null, .null, .null, .null, .null, .null, .int 0, .int 0]))])) (va_Qv (fun _ : Unit => True) (fun _ t => ∃ q7 q15 q23 q31 q39 q47 q55 q63 q72 : Nat, va_P (dC, dI) pv_cls [(h0, .inr (2, [.int 0, .int 0, .int 0, .int 0, .int 0, .ref q7, .ref q15, .ref q23, .ref q31, .ref q39, .ref q47, .ref q55, .ref q63, .ref q72, .int 0, .int 0])), (q7, .inl (dA 0, 54, .inl (fun _ => 0))), (q15, .inl (dA 0, 18, .inl (fun _ => 0))), (q23, .inl (dA 0, 10, .inl (fun _ => 0))), (q31, .inl (dA 0, 10, .inl (fun _ => 0))), (q39, .inl (dA 0, 10, .inl (fun _ => 0))), (q47, .inl (dA 0, 10, .inl (fun _ => 0))), (q55, .inl (dA 0, 100, .inl (fun _ => 0))), (q63, .inl (dA 0, 100, .inl (fun _ => 0))), (q72, .inl (dA 0, 1287, .inl (fun _ => 0)))] t.heap ∧ va_K (dC, dI) pv_cls (pv_tys dA) t ∧ va_D (va_A [(h0, .inr (2, [.int 0, .int 0, .int 0, .int 0, .int 0, .null, .null, .null, .null, .null, .null, .null, .null, .null, .int 0, .int 0]))] sz) [(h0, .inr (2, [.int 0, .int 0, .int 0, .int 0, .int 0, .ref q7, .ref q15, .ref q23, .ref q31, .ref q39, .ref q47, .ref q55, .ref q63, .ref q72, .int 0, .int 0])), (q7, .inl (dA 0, 54, .inl (fun _ => 0))), (q15, .inl (dA 0, 18, .inl (fun _ => 0))), (q23, .inl (dA 0, 10, .inl (fun _ => 0))), (q31, .inl (dA 0, 10, .inl (fun _ => 0))), (q39, .inl (dA 0, 10, .inl (fun _ => 0))), (q47, .inl (dA 0, 10, .inl (fun _ => 0))), (q55, .inl (dA 0, 100, .inl (fun _ => 0))), (q63, .inl (dA 0, 100, .inl (fun _ => 0))), (q72, .inl (dA 0, 1287, .inl (fun _ => 0)))]) (va_A [(h0, .inr (2, [.int 0, .int 0, .int 0, .int 0, .int 0, .null, .null, .null, .null, .null, .null, .null, .null, .null, .int 0, .int 0]))] sz)) 9 1599 (va_A [(h0, .inr (2, [.int 0, .int 0, .int 0, .int 0, .int 0, .null, .null, .null, .null, .null, .null, .null, .null, .null, .int 0, .int 0]))] sz) := by
  refine Met.ofW (cc := pv_bc 3) (maxL := pv_mL 3) (ret := pv_rt 3) (by decide +kernel) rfl ?_
  intro p e s m args below meth c s₁ B hml hv
  obtain ⟨rfl, hsz, hP, hK, hD0⟩ := hv
  have hx := B.exec
  have hb := B.bytes
  have hr := B.returns
  have hts := atoms_spec (ws := pv_wsM 3) B.pre
  have hbig : ∀ w ∈ pv_big, w.before _ s = true := fun w hw => hts w (List.mem_cons_of_mem _ hw)
  have hown : s.vm.findClass "AngleNet$Net" = some m.cls := by have := findClass_of_methodNamed B.named; rwa [show (pv_y 3).cls = "AngleNet$Net" from o3] at this
  have hlocks := B.notSynchronized
  have hin : meth.name = "<init>" := ((name_of_methodNamed B.named B.method).1).trans ya3
  subst hsz
  have hD := hD0.self (sz := s.heap.size)
  generalize hAe : va_A [(h0, .inr (2, [.int 0, .int 0, .int 0, .int 0, .int 0, .null, .null, .null, .null, .null, .null, .null, .null, .null, .int 0, .int 0]))] s.heap.size = A at hD ⊢
  have hA : ∀ q : Nat, s.heap.size ≤ q → A q := fun q h => by rw [← hAe]; exact Or.inr h
  have hS : va_S A s.heap s.heap [] := va_S.rf
  have hl := lv_entry ([.ref h0]) (n := 1) (Nat.le_of_ble_eq_true rfl)
  rw [m3] at hml; rw [lg_entry_eq, m3]
  generalize (lg_sl ([.ref h0]) ++ List.replicate (1 - (lg_sl ([.ref h0])).length) Slot.unset).toArray = ls at hl ⊢
  have hl : lv_has ls 1 [(0, .ref h0)] := hl
  refine lv_aload_n hx hb (pv_dec_spec d3_0) rfl (lv_at hl 0 rfl) ?_
  refine W.objInit hx hb hown (hbig (.methodLink "AngleNet$Net" 3 Lib.objectInit) (pv_bigmem (by decide +kernel) rfl)) (hbig (.instanceMethod Lib.objectInit) (pv_bigmem (by decide +kernel) rfl)) (hbig (.code Lib.objectInit ⟨#[0xb1]⟩ 1 none) (pv_bigmem (by decide +kernel) rfl)) rfl (by rw [hml]; exact hl.1) rfl (pv_dec_spec d3_1) (Nat.le_of_ble_eq_true rfl) (Nat.le_of_ble_eq_true rfl) ?_
  refine W.eq (g2 := F0 m 4 ls []) rfl ?_
  refine lv_aload_n hx hb (pv_dec_spec d3_4) rfl (lv_at hl 0 rfl) ?_
  refine lv_bipush (v := 54) hx hb (pv_dec_spec d3_5) (by decide) ?_
  refine pv_newa (atype := .int) (kd := 0) (ty := .int) (N' := 54) (a0 := (54, .inl (fun _ => 0))) hx hb (hbig (.arrayClass .int) (pv_bigmem (by decide +kernel) rfl)) rfl rfl hK hP hD hS hA (fun _ => rfl) (by decide) (by decide) (by decide) (Nat.le_of_ble_eq_true rfl) (Nat.le_of_ble_eq_true rfl) (pv_dec_spec d3_7) (fun q7 H hP hD hS => ?_)
  have hP : va_P (dC, dI) pv_cls [(h0, .inr (2, [.int 0, .int 0, .int 0, .int 0, .int 0, .null, .null, .null, .null, .null, .null, .null, .null, .null, .int 0, .int 0])), (q7, .inl (dA 0, 54, .inl (fun _ => 0)))] H := hP
  have hD : va_D A [(h0, .inr (2, [.int 0, .int 0, .int 0, .int 0, .int 0, .null, .null, .null, .null, .null, .null, .null, .null, .null, .int 0, .int 0])), (q7, .inl (dA 0, 54, .inl (fun _ => 0)))] := hD
  refine W.widen (k := 1) (n := 54) (Nat.le_of_ble_eq_true rfl) (Nat.le_of_ble_eq_true rfl) ?_
  refine va_putF (D := (dC, dI)) (ci := 2) (v := .ref q7) (C := "AngleNet$Net") (T := pv_T2) (N := 16) hx hb hbig (pv_cls_big (ci := 2) rfl) pv_t2 pv_k2 pv_n2 hown hK hP hD hS 0 rfl rfl 5 (by decide) (hbig (.fieldLink "AngleNet$Net" 9 "AngleNet$Net" "corners" "[I") (pv_bigmem (by decide +kernel) rfl)) (fun _ h9 => h9) rfl hin rfl (pv_k2 5 (by decide)) rfl rfl (Nat.le_of_ble_eq_true rfl) (pv_dec_spec d3_9) (fun H locs hP hD hS => ?_)
  have hP : va_P (dC, dI) pv_cls [(h0, .inr (2, [.int 0, .int 0, .int 0, .int 0, .int 0, .ref q7, .null, .null, .null, .null, .null, .null, .null, .null, .int 0, .int 0])), (q7, .inl (dA 0, 54, .inl (fun _ => 0)))] H := hP
  have hD : va_D A [(h0, .inr (2, [.int 0, .int 0, .int 0, .int 0, .int 0, .ref q7, .null, .null, .null, .null, .null, .null, .null, .null, .int 0, .int 0])), (q7, .inl (dA 0, 54, .inl (fun _ => 0)))] := hD
  refine lv_aload_n hx hb (pv_dec_spec d3_12) rfl (lv_at hl 0 rfl) ?_
  refine lv_bipush (v := 18) hx hb (pv_dec_spec d3_13) (by decide) ?_
  refine pv_newa (atype := .int) (kd := 0) (ty := .int) (N' := 18) (a0 := (18, .inl (fun _ => 0))) hx hb (hbig (.arrayClass .int) (pv_bigmem (by decide +kernel) rfl)) rfl rfl hK hP hD hS hA (fun _ => rfl) (by decide) (by decide) (by decide) (Nat.le_of_ble_eq_true rfl) (Nat.le_of_ble_eq_true rfl) (pv_dec_spec d3_15) (fun q15 H hP hD hS => ?_)
  have hP : va_P (dC, dI) pv_cls [(h0, .inr (2, [.int 0, .int 0, .int 0, .int 0, .int 0, .ref q7, .null, .null, .null, .null, .null, .null, .null, .null, .int 0, .int 0])), (q7, .inl (dA 0, 54, .inl (fun _ => 0))), (q15, .inl (dA 0, 18, .inl (fun _ => 0)))] H := hP
  have hD : va_D A [(h0, .inr (2, [.int 0, .int 0, .int 0, .int 0, .int 0, .ref q7, .null, .null, .null, .null, .null, .null, .null, .null, .int 0, .int 0])), (q7, .inl (dA 0, 54, .inl (fun _ => 0))), (q15, .inl (dA 0, 18, .inl (fun _ => 0)))] := hD
  refine W.widen (k := 2) (n := 72) (Nat.le_of_ble_eq_true rfl) (Nat.le_of_ble_eq_true rfl) ?_
  refine va_putF (D := (dC, dI)) (ci := 2) (v := .ref q15) (C := "AngleNet$Net") (T := pv_T2) (N := 16) hx hb hbig (pv_cls_big (ci := 2) rfl) pv_t2 pv_k2 pv_n2 hown hK hP hD hS 0 rfl rfl 6 (by decide) (hbig (.fieldLink "AngleNet$Net" 15 "AngleNet$Net" "sums" "[I") (pv_bigmem (by decide +kernel) rfl)) (fun _ h9 => h9) rfl hin rfl (pv_k2 6 (by decide)) rfl rfl (Nat.le_of_ble_eq_true rfl) (pv_dec_spec d3_17) (fun H locs hP hD hS => ?_)
  have hP : va_P (dC, dI) pv_cls [(h0, .inr (2, [.int 0, .int 0, .int 0, .int 0, .int 0, .ref q7, .ref q15, .null, .null, .null, .null, .null, .null, .null, .int 0, .int 0])), (q7, .inl (dA 0, 54, .inl (fun _ => 0))), (q15, .inl (dA 0, 18, .inl (fun _ => 0)))] H := hP
  have hD : va_D A [(h0, .inr (2, [.int 0, .int 0, .int 0, .int 0, .int 0, .ref q7, .ref q15, .null, .null, .null, .null, .null, .null, .null, .int 0, .int 0])), (q7, .inl (dA 0, 54, .inl (fun _ => 0))), (q15, .inl (dA 0, 18, .inl (fun _ => 0)))] := hD
  refine lv_aload_n hx hb (pv_dec_spec d3_20) rfl (lv_at hl 0 rfl) ?_
  refine lv_bipush (v := 10) hx hb (pv_dec_spec d3_21) (by decide) ?_
  refine pv_newa (atype := .int) (kd := 0) (ty := .int) (N' := 10) (a0 := (10, .inl (fun _ => 0))) hx hb (hbig (.arrayClass .int) (pv_bigmem (by decide +kernel) rfl)) rfl rfl hK hP hD hS hA (fun _ => rfl) (by decide) (by decide) (by decide) (Nat.le_of_ble_eq_true rfl) (Nat.le_of_ble_eq_true rfl) (pv_dec_spec d3_23) (fun q23 H hP hD hS => ?_)
  have hP : va_P (dC, dI) pv_cls [(h0, .inr (2, [.int 0, .int 0, .int 0, .int 0, .int 0, .ref q7, .ref q15, .null, .null, .null, .null, .null, .null, .null, .int 0, .int 0])), (q7, .inl (dA 0, 54, .inl (fun _ => 0))), (q15, .inl (dA 0, 18, .inl (fun _ => 0))), (q23, .inl (dA 0, 10, .inl (fun _ => 0)))] H := hP
  have hD : va_D A [(h0, .inr (2, [.int 0, .int 0, .int 0, .int 0, .int 0, .ref q7, .ref q15, .null, .null, .null, .null, .null, .null, .null, .int 0, .int 0])), (q7, .inl (dA 0, 54, .inl (fun _ => 0))), (q15, .inl (dA 0, 18, .inl (fun _ => 0))), (q23, .inl (dA 0, 10, .inl (fun _ => 0)))] := hD
  refine W.widen (k := 3) (n := 82) (Nat.le_of_ble_eq_true rfl) (Nat.le_of_ble_eq_true rfl) ?_
  refine va_putF (D := (dC, dI)) (ci := 2) (v := .ref q23) (C := "AngleNet$Net") (T := pv_T2) (N := 16) hx hb hbig (pv_cls_big (ci := 2) rfl) pv_t2 pv_k2 pv_n2 hown hK hP hD hS 0 rfl rfl 7 (by decide) (hbig (.fieldLink "AngleNet$Net" 18 "AngleNet$Net" "angles" "[I") (pv_bigmem (by decide +kernel) rfl)) (fun _ h9 => h9) rfl hin rfl (pv_k2 7 (by decide)) rfl rfl (Nat.le_of_ble_eq_true rfl) (pv_dec_spec d3_25) (fun H locs hP hD hS => ?_)
  have hP : va_P (dC, dI) pv_cls [(h0, .inr (2, [.int 0, .int 0, .int 0, .int 0, .int 0, .ref q7, .ref q15, .ref q23, .null, .null, .null, .null, .null, .null, .int 0, .int 0])), (q7, .inl (dA 0, 54, .inl (fun _ => 0))), (q15, .inl (dA 0, 18, .inl (fun _ => 0))), (q23, .inl (dA 0, 10, .inl (fun _ => 0)))] H := hP
  have hD : va_D A [(h0, .inr (2, [.int 0, .int 0, .int 0, .int 0, .int 0, .ref q7, .ref q15, .ref q23, .null, .null, .null, .null, .null, .null, .int 0, .int 0])), (q7, .inl (dA 0, 54, .inl (fun _ => 0))), (q15, .inl (dA 0, 18, .inl (fun _ => 0))), (q23, .inl (dA 0, 10, .inl (fun _ => 0)))] := hD
  refine lv_aload_n hx hb (pv_dec_spec d3_28) rfl (lv_at hl 0 rfl) ?_
  refine lv_bipush (v := 10) hx hb (pv_dec_spec d3_29) (by decide) ?_
  refine pv_newa (atype := .int) (kd := 0) (ty := .int) (N' := 10) (a0 := (10, .inl (fun _ => 0))) hx hb (hbig (.arrayClass .int) (pv_bigmem (by decide +kernel) rfl)) rfl rfl hK hP hD hS hA (fun _ => rfl) (by decide) (by decide) (by decide) (Nat.le_of_ble_eq_true rfl) (Nat.le_of_ble_eq_true rfl) (pv_dec_spec d3_31) (fun q31 H hP hD hS => ?_)
  have hP : va_P (dC, dI) pv_cls [(h0, .inr (2, [.int 0, .int 0, .int 0, .int 0, .int 0, .ref q7, .ref q15, .ref q23, .null, .null, .null, .null, .null, .null, .int 0, .int 0])), (q7, .inl (dA 0, 54, .inl (fun _ => 0))), (q15, .inl (dA 0, 18, .inl (fun _ => 0))), (q23, .inl (dA 0, 10, .inl (fun _ => 0))), (q31, .inl (dA 0, 10, .inl (fun _ => 0)))] H := hP
  have hD : va_D A [(h0, .inr (2, [.int 0, .int 0, .int 0, .int 0, .int 0, .ref q7, .ref q15, .ref q23, .null, .null, .null, .null, .null, .null, .int 0, .int 0])), (q7, .inl (dA 0, 54, .inl (fun _ => 0))), (q15, .inl (dA 0, 18, .inl (fun _ => 0))), (q23, .inl (dA 0, 10, .inl (fun _ => 0))), (q31, .inl (dA 0, 10, .inl (fun _ => 0)))] := hD
  refine W.widen (k := 4) (n := 92) (Nat.le_of_ble_eq_true rfl) (Nat.le_of_ble_eq_true rfl) ?_
  refine va_putF (D := (dC, dI)) (ci := 2) (v := .ref q31) (C := "AngleNet$Net") (T := pv_T2) (N := 16) hx hb hbig (pv_cls_big (ci := 2) rfl) pv_t2 pv_k2 pv_n2 hown hK hP hD hS 0 rfl rfl 8 (by decide) (hbig (.fieldLink "AngleNet$Net" 21 "AngleNet$Net" "xs" "[I") (pv_bigmem (by decide +kernel) rfl)) (fun _ h9 => h9) rfl hin rfl (pv_k2 8 (by decide)) rfl rfl (Nat.le_of_ble_eq_true rfl) (pv_dec_spec d3_33) (fun H locs hP hD hS => ?_)
  have hP : va_P (dC, dI) pv_cls [(h0, .inr (2, [.int 0, .int 0, .int 0, .int 0, .int 0, .ref q7, .ref q15, .ref q23, .ref q31, .null, .null, .null, .null, .null, .int 0, .int 0])), (q7, .inl (dA 0, 54, .inl (fun _ => 0))), (q15, .inl (dA 0, 18, .inl (fun _ => 0))), (q23, .inl (dA 0, 10, .inl (fun _ => 0))), (q31, .inl (dA 0, 10, .inl (fun _ => 0)))] H := hP
  have hD : va_D A [(h0, .inr (2, [.int 0, .int 0, .int 0, .int 0, .int 0, .ref q7, .ref q15, .ref q23, .ref q31, .null, .null, .null, .null, .null, .int 0, .int 0])), (q7, .inl (dA 0, 54, .inl (fun _ => 0))), (q15, .inl (dA 0, 18, .inl (fun _ => 0))), (q23, .inl (dA 0, 10, .inl (fun _ => 0))), (q31, .inl (dA 0, 10, .inl (fun _ => 0)))] := hD
  refine lv_aload_n hx hb (pv_dec_spec d3_36) rfl (lv_at hl 0 rfl) ?_
  refine lv_bipush (v := 10) hx hb (pv_dec_spec d3_37) (by decide) ?_
  refine pv_newa (atype := .int) (kd := 0) (ty := .int) (N' := 10) (a0 := (10, .inl (fun _ => 0))) hx hb (hbig (.arrayClass .int) (pv_bigmem (by decide +kernel) rfl)) rfl rfl hK hP hD hS hA (fun _ => rfl) (by decide) (by decide) (by decide) (Nat.le_of_ble_eq_true rfl) (Nat.le_of_ble_eq_true rfl) (pv_dec_spec d3_39) (fun q39 H hP hD hS => ?_)
  have hP : va_P (dC, dI) pv_cls [(h0, .inr (2, [.int 0, .int 0, .int 0, .int 0, .int 0, .ref q7, .ref q15, .ref q23, .ref q31, .null, .null, .null, .null, .null, .int 0, .int 0])), (q7, .inl (dA 0, 54, .inl (fun _ => 0))), (q15, .inl (dA 0, 18, .inl (fun _ => 0))), (q23, .inl (dA 0, 10, .inl (fun _ => 0))), (q31, .inl (dA 0, 10, .inl (fun _ => 0))), (q39, .inl (dA 0, 10, .inl (fun _ => 0)))] H := hP
  have hD : va_D A [(h0, .inr (2, [.int 0, .int 0, .int 0, .int 0, .int 0, .ref q7, .ref q15, .ref q23, .ref q31, .null, .null, .null, .null, .null, .int 0, .int 0])), (q7, .inl (dA 0, 54, .inl (fun _ => 0))), (q15, .inl (dA 0, 18, .inl (fun _ => 0))), (q23, .inl (dA 0, 10, .inl (fun _ => 0))), (q31, .inl (dA 0, 10, .inl (fun _ => 0))), (q39, .inl (dA 0, 10, .inl (fun _ => 0)))] := hD
  refine W.widen (k := 5) (n := 102) (Nat.le_of_ble_eq_true rfl) (Nat.le_of_ble_eq_true rfl) ?_
  refine va_putF (D := (dC, dI)) (ci := 2) (v := .ref q39) (C := "AngleNet$Net") (T := pv_T2) (N := 16) hx hb hbig (pv_cls_big (ci := 2) rfl) pv_t2 pv_k2 pv_n2 hown hK hP hD hS 0 rfl rfl 9 (by decide) (hbig (.fieldLink "AngleNet$Net" 24 "AngleNet$Net" "ys" "[I") (pv_bigmem (by decide +kernel) rfl)) (fun _ h9 => h9) rfl hin rfl (pv_k2 9 (by decide)) rfl rfl (Nat.le_of_ble_eq_true rfl) (pv_dec_spec d3_41) (fun H locs hP hD hS => ?_)
  have hP : va_P (dC, dI) pv_cls [(h0, .inr (2, [.int 0, .int 0, .int 0, .int 0, .int 0, .ref q7, .ref q15, .ref q23, .ref q31, .ref q39, .null, .null, .null, .null, .int 0, .int 0])), (q7, .inl (dA 0, 54, .inl (fun _ => 0))), (q15, .inl (dA 0, 18, .inl (fun _ => 0))), (q23, .inl (dA 0, 10, .inl (fun _ => 0))), (q31, .inl (dA 0, 10, .inl (fun _ => 0))), (q39, .inl (dA 0, 10, .inl (fun _ => 0)))] H := hP
  have hD : va_D A [(h0, .inr (2, [.int 0, .int 0, .int 0, .int 0, .int 0, .ref q7, .ref q15, .ref q23, .ref q31, .ref q39, .null, .null, .null, .null, .int 0, .int 0])), (q7, .inl (dA 0, 54, .inl (fun _ => 0))), (q15, .inl (dA 0, 18, .inl (fun _ => 0))), (q23, .inl (dA 0, 10, .inl (fun _ => 0))), (q31, .inl (dA 0, 10, .inl (fun _ => 0))), (q39, .inl (dA 0, 10, .inl (fun _ => 0)))] := hD
  refine lv_aload_n hx hb (pv_dec_spec d3_44) rfl (lv_at hl 0 rfl) ?_
  refine lv_bipush (v := 10) hx hb (pv_dec_spec d3_45) (by decide) ?_
  refine pv_newa (atype := .int) (kd := 0) (ty := .int) (N' := 10) (a0 := (10, .inl (fun _ => 0))) hx hb (hbig (.arrayClass .int) (pv_bigmem (by decide +kernel) rfl)) rfl rfl hK hP hD hS hA (fun _ => rfl) (by decide) (by decide) (by decide) (Nat.le_of_ble_eq_true rfl) (Nat.le_of_ble_eq_true rfl) (pv_dec_spec d3_47) (fun q47 H hP hD hS => ?_)
  have hP : va_P (dC, dI) pv_cls [(h0, .inr (2, [.int 0, .int 0, .int 0, .int 0, .int 0, .ref q7, .ref q15, .ref q23, .ref q31, .ref q39, .null, .null, .null, .null, .int 0, .int 0])), (q7, .inl (dA 0, 54, .inl (fun _ => 0))), (q15, .inl (dA 0, 18, .inl (fun _ => 0))), (q23, .inl (dA 0, 10, .inl (fun _ => 0))), (q31, .inl (dA 0, 10, .inl (fun _ => 0))), (q39, .inl (dA 0, 10, .inl (fun _ => 0))), (q47, .inl (dA 0, 10, .inl (fun _ => 0)))] H := hP
  have hD : va_D A [(h0, .inr (2, [.int 0, .int 0, .int 0, .int 0, .int 0, .ref q7, .ref q15, .ref q23, .ref q31, .ref q39, .null, .null, .null, .null, .int 0, .int 0])), (q7, .inl (dA 0, 54, .inl (fun _ => 0))), (q15, .inl (dA 0, 18, .inl (fun _ => 0))), (q23, .inl (dA 0, 10, .inl (fun _ => 0))), (q31, .inl (dA 0, 10, .inl (fun _ => 0))), (q39, .inl (dA 0, 10, .inl (fun _ => 0))), (q47, .inl (dA 0, 10, .inl (fun _ => 0)))] := hD
  refine W.widen (k := 6) (n := 112) (Nat.le_of_ble_eq_true rfl) (Nat.le_of_ble_eq_true rfl) ?_
  refine va_putF (D := (dC, dI)) (ci := 2) (v := .ref q47) (C := "AngleNet$Net") (T := pv_T2) (N := 16) hx hb hbig (pv_cls_big (ci := 2) rfl) pv_t2 pv_k2 pv_n2 hown hK hP hD hS 0 rfl rfl 10 (by decide) (hbig (.fieldLink "AngleNet$Net" 27 "AngleNet$Net" "circles" "[I") (pv_bigmem (by decide +kernel) rfl)) (fun _ h9 => h9) rfl hin rfl (pv_k2 10 (by decide)) rfl rfl (Nat.le_of_ble_eq_true rfl) (pv_dec_spec d3_49) (fun H locs hP hD hS => ?_)
  have hP : va_P (dC, dI) pv_cls [(h0, .inr (2, [.int 0, .int 0, .int 0, .int 0, .int 0, .ref q7, .ref q15, .ref q23, .ref q31, .ref q39, .ref q47, .null, .null, .null, .int 0, .int 0])), (q7, .inl (dA 0, 54, .inl (fun _ => 0))), (q15, .inl (dA 0, 18, .inl (fun _ => 0))), (q23, .inl (dA 0, 10, .inl (fun _ => 0))), (q31, .inl (dA 0, 10, .inl (fun _ => 0))), (q39, .inl (dA 0, 10, .inl (fun _ => 0))), (q47, .inl (dA 0, 10, .inl (fun _ => 0)))] H := hP
  have hD : va_D A [(h0, .inr (2, [.int 0, .int 0, .int 0, .int 0, .int 0, .ref q7, .ref q15, .ref q23, .ref q31, .ref q39, .ref q47, .null, .null, .null, .int 0, .int 0])), (q7, .inl (dA 0, 54, .inl (fun _ => 0))), (q15, .inl (dA 0, 18, .inl (fun _ => 0))), (q23, .inl (dA 0, 10, .inl (fun _ => 0))), (q31, .inl (dA 0, 10, .inl (fun _ => 0))), (q39, .inl (dA 0, 10, .inl (fun _ => 0))), (q47, .inl (dA 0, 10, .inl (fun _ => 0)))] := hD
  refine lv_aload_n hx hb (pv_dec_spec d3_52) rfl (lv_at hl 0 rfl) ?_
  refine lv_bipush (v := 100) hx hb (pv_dec_spec d3_53) (by decide) ?_
  refine pv_newa (atype := .int) (kd := 0) (ty := .int) (N' := 100) (a0 := (100, .inl (fun _ => 0))) hx hb (hbig (.arrayClass .int) (pv_bigmem (by decide +kernel) rfl)) rfl rfl hK hP hD hS hA (fun _ => rfl) (by decide) (by decide) (by decide) (Nat.le_of_ble_eq_true rfl) (Nat.le_of_ble_eq_true rfl) (pv_dec_spec d3_55) (fun q55 H hP hD hS => ?_)
  have hP : va_P (dC, dI) pv_cls [(h0, .inr (2, [.int 0, .int 0, .int 0, .int 0, .int 0, .ref q7, .ref q15, .ref q23, .ref q31, .ref q39, .ref q47, .null, .null, .null, .int 0, .int 0])), (q7, .inl (dA 0, 54, .inl (fun _ => 0))), (q15, .inl (dA 0, 18, .inl (fun _ => 0))), (q23, .inl (dA 0, 10, .inl (fun _ => 0))), (q31, .inl (dA 0, 10, .inl (fun _ => 0))), (q39, .inl (dA 0, 10, .inl (fun _ => 0))), (q47, .inl (dA 0, 10, .inl (fun _ => 0))), (q55, .inl (dA 0, 100, .inl (fun _ => 0)))] H := hP
  have hD : va_D A [(h0, .inr (2, [.int 0, .int 0, .int 0, .int 0, .int 0, .ref q7, .ref q15, .ref q23, .ref q31, .ref q39, .ref q47, .null, .null, .null, .int 0, .int 0])), (q7, .inl (dA 0, 54, .inl (fun _ => 0))), (q15, .inl (dA 0, 18, .inl (fun _ => 0))), (q23, .inl (dA 0, 10, .inl (fun _ => 0))), (q31, .inl (dA 0, 10, .inl (fun _ => 0))), (q39, .inl (dA 0, 10, .inl (fun _ => 0))), (q47, .inl (dA 0, 10, .inl (fun _ => 0))), (q55, .inl (dA 0, 100, .inl (fun _ => 0)))] := hD
  refine W.widen (k := 7) (n := 212) (Nat.le_of_ble_eq_true rfl) (Nat.le_of_ble_eq_true rfl) ?_
  refine va_putF (D := (dC, dI)) (ci := 2) (v := .ref q55) (C := "AngleNet$Net") (T := pv_T2) (N := 16) hx hb hbig (pv_cls_big (ci := 2) rfl) pv_t2 pv_k2 pv_n2 hown hK hP hD hS 0 rfl rfl 11 (by decide) (hbig (.fieldLink "AngleNet$Net" 30 "AngleNet$Net" "weights" "[I") (pv_bigmem (by decide +kernel) rfl)) (fun _ h9 => h9) rfl hin rfl (pv_k2 11 (by decide)) rfl rfl (Nat.le_of_ble_eq_true rfl) (pv_dec_spec d3_57) (fun H locs hP hD hS => ?_)
  have hP : va_P (dC, dI) pv_cls [(h0, .inr (2, [.int 0, .int 0, .int 0, .int 0, .int 0, .ref q7, .ref q15, .ref q23, .ref q31, .ref q39, .ref q47, .ref q55, .null, .null, .int 0, .int 0])), (q7, .inl (dA 0, 54, .inl (fun _ => 0))), (q15, .inl (dA 0, 18, .inl (fun _ => 0))), (q23, .inl (dA 0, 10, .inl (fun _ => 0))), (q31, .inl (dA 0, 10, .inl (fun _ => 0))), (q39, .inl (dA 0, 10, .inl (fun _ => 0))), (q47, .inl (dA 0, 10, .inl (fun _ => 0))), (q55, .inl (dA 0, 100, .inl (fun _ => 0)))] H := hP
  have hD : va_D A [(h0, .inr (2, [.int 0, .int 0, .int 0, .int 0, .int 0, .ref q7, .ref q15, .ref q23, .ref q31, .ref q39, .ref q47, .ref q55, .null, .null, .int 0, .int 0])), (q7, .inl (dA 0, 54, .inl (fun _ => 0))), (q15, .inl (dA 0, 18, .inl (fun _ => 0))), (q23, .inl (dA 0, 10, .inl (fun _ => 0))), (q31, .inl (dA 0, 10, .inl (fun _ => 0))), (q39, .inl (dA 0, 10, .inl (fun _ => 0))), (q47, .inl (dA 0, 10, .inl (fun _ => 0))), (q55, .inl (dA 0, 100, .inl (fun _ => 0)))] := hD
  refine lv_aload_n hx hb (pv_dec_spec d3_60) rfl (lv_at hl 0 rfl) ?_
  refine lv_bipush (v := 100) hx hb (pv_dec_spec d3_61) (by decide) ?_
  refine pv_newa (atype := .int) (kd := 0) (ty := .int) (N' := 100) (a0 := (100, .inl (fun _ => 0))) hx hb (hbig (.arrayClass .int) (pv_bigmem (by decide +kernel) rfl)) rfl rfl hK hP hD hS hA (fun _ => rfl) (by decide) (by decide) (by decide) (Nat.le_of_ble_eq_true rfl) (Nat.le_of_ble_eq_true rfl) (pv_dec_spec d3_63) (fun q63 H hP hD hS => ?_)
  have hP : va_P (dC, dI) pv_cls [(h0, .inr (2, [.int 0, .int 0, .int 0, .int 0, .int 0, .ref q7, .ref q15, .ref q23, .ref q31, .ref q39, .ref q47, .ref q55, .null, .null, .int 0, .int 0])), (q7, .inl (dA 0, 54, .inl (fun _ => 0))), (q15, .inl (dA 0, 18, .inl (fun _ => 0))), (q23, .inl (dA 0, 10, .inl (fun _ => 0))), (q31, .inl (dA 0, 10, .inl (fun _ => 0))), (q39, .inl (dA 0, 10, .inl (fun _ => 0))), (q47, .inl (dA 0, 10, .inl (fun _ => 0))), (q55, .inl (dA 0, 100, .inl (fun _ => 0))), (q63, .inl (dA 0, 100, .inl (fun _ => 0)))] H := hP
  have hD : va_D A [(h0, .inr (2, [.int 0, .int 0, .int 0, .int 0, .int 0, .ref q7, .ref q15, .ref q23, .ref q31, .ref q39, .ref q47, .ref q55, .null, .null, .int 0, .int 0])), (q7, .inl (dA 0, 54, .inl (fun _ => 0))), (q15, .inl (dA 0, 18, .inl (fun _ => 0))), (q23, .inl (dA 0, 10, .inl (fun _ => 0))), (q31, .inl (dA 0, 10, .inl (fun _ => 0))), (q39, .inl (dA 0, 10, .inl (fun _ => 0))), (q47, .inl (dA 0, 10, .inl (fun _ => 0))), (q55, .inl (dA 0, 100, .inl (fun _ => 0))), (q63, .inl (dA 0, 100, .inl (fun _ => 0)))] := hD
  refine W.widen (k := 8) (n := 312) (Nat.le_of_ble_eq_true rfl) (Nat.le_of_ble_eq_true rfl) ?_
  refine va_putF (D := (dC, dI)) (ci := 2) (v := .ref q63) (C := "AngleNet$Net") (T := pv_T2) (N := 16) hx hb hbig (pv_cls_big (ci := 2) rfl) pv_t2 pv_k2 pv_n2 hown hK hP hD hS 0 rfl rfl 12 (by decide) (hbig (.fieldLink "AngleNet$Net" 33 "AngleNet$Net" "shared" "[I") (pv_bigmem (by decide +kernel) rfl)) (fun _ h9 => h9) rfl hin rfl (pv_k2 12 (by decide)) rfl rfl (Nat.le_of_ble_eq_true rfl) (pv_dec_spec d3_65) (fun H locs hP hD hS => ?_)
  have hP : va_P (dC, dI) pv_cls [(h0, .inr (2, [.int 0, .int 0, .int 0, .int 0, .int 0, .ref q7, .ref q15, .ref q23, .ref q31, .ref q39, .ref q47, .ref q55, .ref q63, .null, .int 0, .int 0])), (q7, .inl (dA 0, 54, .inl (fun _ => 0))), (q15, .inl (dA 0, 18, .inl (fun _ => 0))), (q23, .inl (dA 0, 10, .inl (fun _ => 0))), (q31, .inl (dA 0, 10, .inl (fun _ => 0))), (q39, .inl (dA 0, 10, .inl (fun _ => 0))), (q47, .inl (dA 0, 10, .inl (fun _ => 0))), (q55, .inl (dA 0, 100, .inl (fun _ => 0))), (q63, .inl (dA 0, 100, .inl (fun _ => 0)))] H := hP
  have hD : va_D A [(h0, .inr (2, [.int 0, .int 0, .int 0, .int 0, .int 0, .ref q7, .ref q15, .ref q23, .ref q31, .ref q39, .ref q47, .ref q55, .ref q63, .null, .int 0, .int 0])), (q7, .inl (dA 0, 54, .inl (fun _ => 0))), (q15, .inl (dA 0, 18, .inl (fun _ => 0))), (q23, .inl (dA 0, 10, .inl (fun _ => 0))), (q31, .inl (dA 0, 10, .inl (fun _ => 0))), (q39, .inl (dA 0, 10, .inl (fun _ => 0))), (q47, .inl (dA 0, 10, .inl (fun _ => 0))), (q55, .inl (dA 0, 100, .inl (fun _ => 0))), (q63, .inl (dA 0, 100, .inl (fun _ => 0)))] := hD
  refine lv_aload_n hx hb (pv_dec_spec d3_68) rfl (lv_at hl 0 rfl) ?_
  refine lv_sipush (v := 1287) hx hb (pv_dec_spec d3_69) (by decide) ?_
  refine pv_newa (atype := .int) (kd := 0) (ty := .int) (N' := 1287) (a0 := (1287, .inl (fun _ => 0))) hx hb (hbig (.arrayClass .int) (pv_bigmem (by decide +kernel) rfl)) rfl rfl hK hP hD hS hA (fun _ => rfl) (by decide) (by decide) (by decide) (Nat.le_of_ble_eq_true rfl) (Nat.le_of_ble_eq_true rfl) (pv_dec_spec d3_72) (fun q72 H hP hD hS => ?_)
  have hP : va_P (dC, dI) pv_cls [(h0, .inr (2, [.int 0, .int 0, .int 0, .int 0, .int 0, .ref q7, .ref q15, .ref q23, .ref q31, .ref q39, .ref q47, .ref q55, .ref q63, .null, .int 0, .int 0])), (q7, .inl (dA 0, 54, .inl (fun _ => 0))), (q15, .inl (dA 0, 18, .inl (fun _ => 0))), (q23, .inl (dA 0, 10, .inl (fun _ => 0))), (q31, .inl (dA 0, 10, .inl (fun _ => 0))), (q39, .inl (dA 0, 10, .inl (fun _ => 0))), (q47, .inl (dA 0, 10, .inl (fun _ => 0))), (q55, .inl (dA 0, 100, .inl (fun _ => 0))), (q63, .inl (dA 0, 100, .inl (fun _ => 0))), (q72, .inl (dA 0, 1287, .inl (fun _ => 0)))] H := hP
  have hD : va_D A [(h0, .inr (2, [.int 0, .int 0, .int 0, .int 0, .int 0, .ref q7, .ref q15, .ref q23, .ref q31, .ref q39, .ref q47, .ref q55, .ref q63, .null, .int 0, .int 0])), (q7, .inl (dA 0, 54, .inl (fun _ => 0))), (q15, .inl (dA 0, 18, .inl (fun _ => 0))), (q23, .inl (dA 0, 10, .inl (fun _ => 0))), (q31, .inl (dA 0, 10, .inl (fun _ => 0))), (q39, .inl (dA 0, 10, .inl (fun _ => 0))), (q47, .inl (dA 0, 10, .inl (fun _ => 0))), (q55, .inl (dA 0, 100, .inl (fun _ => 0))), (q63, .inl (dA 0, 100, .inl (fun _ => 0))), (q72, .inl (dA 0, 1287, .inl (fun _ => 0)))] := hD
  refine W.widen (k := 9) (n := 1599) (Nat.le_of_ble_eq_true rfl) (Nat.le_of_ble_eq_true rfl) ?_
  refine va_putF (D := (dC, dI)) (ci := 2) (v := .ref q72) (C := "AngleNet$Net") (T := pv_T2) (N := 16) hx hb hbig (pv_cls_big (ci := 2) rfl) pv_t2 pv_k2 pv_n2 hown hK hP hD hS 0 rfl rfl 13 (by decide) (hbig (.fieldLink "AngleNet$Net" 38 "AngleNet$Net" "history" "[I") (pv_bigmem (by decide +kernel) rfl)) (fun _ h9 => h9) rfl hin rfl (pv_k2 13 (by decide)) rfl rfl (Nat.le_of_ble_eq_true rfl) (pv_dec_spec d3_74) (fun H locs hP hD hS => ?_)
  have hP : va_P (dC, dI) pv_cls [(h0, .inr (2, [.int 0, .int 0, .int 0, .int 0, .int 0, .ref q7, .ref q15, .ref q23, .ref q31, .ref q39, .ref q47, .ref q55, .ref q63, .ref q72, .int 0, .int 0])), (q7, .inl (dA 0, 54, .inl (fun _ => 0))), (q15, .inl (dA 0, 18, .inl (fun _ => 0))), (q23, .inl (dA 0, 10, .inl (fun _ => 0))), (q31, .inl (dA 0, 10, .inl (fun _ => 0))), (q39, .inl (dA 0, 10, .inl (fun _ => 0))), (q47, .inl (dA 0, 10, .inl (fun _ => 0))), (q55, .inl (dA 0, 100, .inl (fun _ => 0))), (q63, .inl (dA 0, 100, .inl (fun _ => 0))), (q72, .inl (dA 0, 1287, .inl (fun _ => 0)))] H := hP
  have hD : va_D A [(h0, .inr (2, [.int 0, .int 0, .int 0, .int 0, .int 0, .ref q7, .ref q15, .ref q23, .ref q31, .ref q39, .ref q47, .ref q55, .ref q63, .ref q72, .int 0, .int 0])), (q7, .inl (dA 0, 54, .inl (fun _ => 0))), (q15, .inl (dA 0, 18, .inl (fun _ => 0))), (q23, .inl (dA 0, 10, .inl (fun _ => 0))), (q31, .inl (dA 0, 10, .inl (fun _ => 0))), (q39, .inl (dA 0, 10, .inl (fun _ => 0))), (q47, .inl (dA 0, 10, .inl (fun _ => 0))), (q55, .inl (dA 0, 100, .inl (fun _ => 0))), (q63, .inl (dA 0, 100, .inl (fun _ => 0))), (q72, .inl (dA 0, 1287, .inl (fun _ => 0)))] := hD
  exact W.vret hx hb (hr.trans tt3) (fun t ht hW => ⟨⟨(), rfl, trivial, q7, q15, q23, q31, q39, q47, q55, q63, q72, by rw [ht]; exact hP, va_K.moved hW.alike hK, hD⟩, hS.F ht⟩) hS.2.2 (pv_dec_spec d3_77)

theorem lt4 : 4 < pv_ms.length := by decide +kernel
theorem ya4 : (pv_y 4).name = "<init>" := by decide +kernel
theorem yb4 : (pv_y 4).cls ≠ "java/lang/invoke/MethodHandle" ∧ (pv_y 4).cls ≠ "java/lang/invoke/VarHandle" ∧ (parseMethodDescriptor (pv_y 4).desc).map (fun d => d.parameters.length) = some 0 := by decide +kernel
set_option maxHeartbeats 8000000 in
set_option maxRecDepth 100000 in
/-- AngleNet$Row -/
theorem kt4 (l : Launch) (dC : Nat → ClassId) (dI : Nat → Nat → Nat) (dA : Nat → ClassId) (h0 sz : Nat) : Met l (pv_y 4) (pv_wsM 4) ({ frames := pv_fr 4, cells := 1, slots := 60, locals := pv_lo 4 }) (va_Pc [.ref h0] (fun U => U.heap.size = sz ∧ va_P (dC, dI) pv_cls [(h0, .inr (3, [.int 0, .int 0, .int 0, .null]))] U.heap ∧ va_K (dC, dI) pv_cls (pv_tys dA) U ∧ va_D (fun _ => True) [(h0, .inr (3, [.int 0, .int 0, .int 0, .null]))])) (va_Qv (fun _ : Unit => True) (fun _ t => ∃ q7 : Nat, va_P (dC, dI) pv_cls [(h0, .inr (3, [.int 0, .int 0, .int 0, .ref q7])), (q7, .inl (dA 1, 60, .inr (.inl (fun _ => 0))))] t.heap ∧ va_K (dC, dI) pv_cls (pv_tys dA) t ∧ va_D (va_A [(h0, .inr (3, [.int 0, .int 0, .int 0, .null]))] sz) [(h0, .inr (3, [.int 0, .int 0, .int 0, .ref q7])), (q7, .inl (dA 1, 60, .inr (.inl (fun _ => 0))))]) (va_A [(h0, .inr (3, [.int 0, .int 0, .int 0, .null]))] sz)) 1 60 (va_A [(h0, .inr (3, [.int 0, .int 0, .int 0, .null]))] sz) := by
  refine Met.ofW (cc := pv_bc 4) (maxL := pv_mL 4) (ret := pv_rt 4) (by decide +kernel) rfl ?_
  intro p e s m args below meth c s₁ B hml hv
  obtain ⟨rfl, hsz, hP, hK, hD0⟩ := hv
  have hx := B.exec
  have hb := B.bytes
  have hr := B.returns
  have hts := atoms_spec (ws := pv_wsM 4) B.pre
  have hbig : ∀ w ∈ pv_big, w.before _ s = true := fun w hw => hts w (List.mem_cons_of_mem _ hw)
  have hown : s.vm.findClass "AngleNet$Row" = some m.cls := by have := findClass_of_methodNamed B.named; rwa [show (pv_y 4).cls = "AngleNet$Row" from o4] at this
  have hlocks := B.notSynchronized
  have hin : meth.name = "<init>" := ((name_of_methodNamed B.named B.method).1).trans ya4
  subst hsz
  have hD := hD0.self (sz := s.heap.size)
  generalize hAe : va_A [(h0, .inr (3, [.int 0, .int 0, .int 0, .null]))] s.heap.size = A at hD ⊢
  have hA : ∀ q : Nat, s.heap.size ≤ q → A q := fun q h => by rw [← hAe]; exact Or.inr h
  have hS : va_S A s.heap s.heap [] := va_S.rf
  have hl := lv_entry ([.ref h0]) (n := 1) (Nat.le_of_ble_eq_true rfl)
  rw [m4] at hml; rw [lg_entry_eq, m4]
  generalize (lg_sl ([.ref h0]) ++ List.replicate (1 - (lg_sl ([.ref h0])).length) Slot.unset).toArray = ls at hl ⊢
  have hl : lv_has ls 1 [(0, .ref h0)] := hl
  refine lv_aload_n hx hb (pv_dec_spec d4_0) rfl (lv_at hl 0 rfl) ?_
  refine W.objInit hx hb hown (hbig (.methodLink "AngleNet$Row" 3 Lib.objectInit) (pv_bigmem (by decide +kernel) rfl)) (hbig (.instanceMethod Lib.objectInit) (pv_bigmem (by decide +kernel) rfl)) (hbig (.code Lib.objectInit ⟨#[0xb1]⟩ 1 none) (pv_bigmem (by decide +kernel) rfl)) rfl (by rw [hml]; exact hl.1) rfl (pv_dec_spec d4_1) (Nat.le_of_ble_eq_true rfl) (Nat.le_of_ble_eq_true rfl) ?_
  refine W.eq (g2 := F0 m 4 ls []) rfl ?_
  refine lv_aload_n hx hb (pv_dec_spec d4_4) rfl (lv_at hl 0 rfl) ?_
  refine lv_bipush (v := 60) hx hb (pv_dec_spec d4_5) (by decide) ?_
  refine pv_newa (atype := .long) (kd := 1) (ty := .long) (N' := 60) (a0 := (60, .inr (.inl (fun _ => 0)))) hx hb (hbig (.arrayClass .long) (pv_bigmem (by decide +kernel) rfl)) rfl rfl hK hP hD hS hA (fun _ => rfl) (by decide) (by decide) (by decide) (Nat.le_of_ble_eq_true rfl) (Nat.le_of_ble_eq_true rfl) (pv_dec_spec d4_7) (fun q7 H hP hD hS => ?_)
  have hP : va_P (dC, dI) pv_cls [(h0, .inr (3, [.int 0, .int 0, .int 0, .null])), (q7, .inl (dA 1, 60, .inr (.inl (fun _ => 0))))] H := hP
  have hD : va_D A [(h0, .inr (3, [.int 0, .int 0, .int 0, .null])), (q7, .inl (dA 1, 60, .inr (.inl (fun _ => 0))))] := hD
  refine W.widen (k := 1) (n := 60) (Nat.le_of_ble_eq_true rfl) (Nat.le_of_ble_eq_true rfl) ?_
  refine va_putF (D := (dC, dI)) (ci := 3) (v := .ref q7) (C := "AngleNet$Row") (T := pv_T3) (N := 4) hx hb hbig (pv_cls_big (ci := 3) rfl) pv_t3 pv_k3 pv_n3 hown hK hP hD hS 0 rfl rfl 3 (by decide) (hbig (.fieldLink "AngleNet$Row" 9 "AngleNet$Row" "numbers" "[J") (pv_bigmem (by decide +kernel) rfl)) (fun _ h9 => h9) rfl hin rfl (pv_k3 3 (by decide)) rfl rfl (Nat.le_of_ble_eq_true rfl) (pv_dec_spec d4_9) (fun H locs hP hD hS => ?_)
  have hP : va_P (dC, dI) pv_cls [(h0, .inr (3, [.int 0, .int 0, .int 0, .ref q7])), (q7, .inl (dA 1, 60, .inr (.inl (fun _ => 0))))] H := hP
  have hD : va_D A [(h0, .inr (3, [.int 0, .int 0, .int 0, .ref q7])), (q7, .inl (dA 1, 60, .inr (.inl (fun _ => 0))))] := hD
  exact W.vret hx hb (hr.trans tt4) (fun t ht hW => ⟨⟨(), rfl, trivial, q7, by rw [ht]; exact hP, va_K.moved hW.alike hK, hD⟩, hS.F ht⟩) hS.2.2 (pv_dec_spec d4_12)

theorem lt5 : 5 < pv_ms.length := by decide +kernel
theorem ya5 : (pv_y 5).name = "<init>" := by decide +kernel
theorem yb5 : (pv_y 5).cls ≠ "java/lang/invoke/MethodHandle" ∧ (pv_y 5).cls ≠ "java/lang/invoke/VarHandle" ∧ (parseMethodDescriptor (pv_y 5).desc).map (fun d => d.parameters.length) = some 0 := by decide +kernel
set_option maxHeartbeats 8000000 in
set_option maxRecDepth 100000 in
/-- AngleNet$Shape -/
theorem kt5 (l : Launch) (dC : Nat → ClassId) (dI : Nat → Nat → Nat) (dA : Nat → ClassId) (h0 sz : Nat) : Met l (pv_y 5) (pv_wsM 5) ({ frames := pv_fr 5, cells := 2, slots := 36, locals := pv_lo 5 }) (va_Pc [.ref h0] (fun U => U.heap.size = sz ∧ va_P (dC, dI) pv_cls [(h0, .inr (4, [.null, .null]))] U.heap ∧ va_K (dC, dI) pv_cls (pv_tys dA) U ∧ va_D (fun _ => True) [(h0, .inr (4, [.null, .null]))])) (va_Qv (fun _ : Unit => True) (fun _ t => ∃ q7 q15 : Nat, va_P (dC, dI) pv_cls [(h0, .inr (4, [.ref q7, .ref q15])), (q7, .inl (dA 0, 18, .inl (fun _ => 0))), (q15, .inl (dA 0, 18, .inl (fun _ => 0)))] t.heap ∧ va_K (dC, dI) pv_cls (pv_tys dA) t ∧ va_D (va_A [(h0, .inr (4, [.null, .null]))] sz) [(h0, .inr (4, [.ref q7, .ref q15])), (q7, .inl (dA 0, 18, .inl (fun _ => 0))), (q15, .inl (dA 0, 18, .inl (fun _ => 0)))]) (va_A [(h0, .inr (4, [.null, .null]))] sz)) 2 36 (va_A [(h0, .inr (4, [.null, .null]))] sz) := by
  refine Met.ofW (cc := pv_bc 5) (maxL := pv_mL 5) (ret := pv_rt 5) (by decide +kernel) rfl ?_
  intro p e s m args below meth c s₁ B hml hv
  obtain ⟨rfl, hsz, hP, hK, hD0⟩ := hv
  have hx := B.exec
  have hb := B.bytes
  have hr := B.returns
  have hts := atoms_spec (ws := pv_wsM 5) B.pre
  have hbig : ∀ w ∈ pv_big, w.before _ s = true := fun w hw => hts w (List.mem_cons_of_mem _ hw)
  have hown : s.vm.findClass "AngleNet$Shape" = some m.cls := by have := findClass_of_methodNamed B.named; rwa [show (pv_y 5).cls = "AngleNet$Shape" from o5] at this
  have hlocks := B.notSynchronized
  have hin : meth.name = "<init>" := ((name_of_methodNamed B.named B.method).1).trans ya5
  subst hsz
  have hD := hD0.self (sz := s.heap.size)
  generalize hAe : va_A [(h0, .inr (4, [.null, .null]))] s.heap.size = A at hD ⊢
  have hA : ∀ q : Nat, s.heap.size ≤ q → A q := fun q h => by rw [← hAe]; exact Or.inr h
  have hS : va_S A s.heap s.heap [] := va_S.rf
  have hl := lv_entry ([.ref h0]) (n := 1) (Nat.le_of_ble_eq_true rfl)
  rw [m5] at hml; rw [lg_entry_eq, m5]
  generalize (lg_sl ([.ref h0]) ++ List.replicate (1 - (lg_sl ([.ref h0])).length) Slot.unset).toArray = ls at hl ⊢
  have hl : lv_has ls 1 [(0, .ref h0)] := hl
  refine lv_aload_n hx hb (pv_dec_spec d5_0) rfl (lv_at hl 0 rfl) ?_
  refine W.objInit hx hb hown (hbig (.methodLink "AngleNet$Shape" 3 Lib.objectInit) (pv_bigmem (by decide +kernel) rfl)) (hbig (.instanceMethod Lib.objectInit) (pv_bigmem (by decide +kernel) rfl)) (hbig (.code Lib.objectInit ⟨#[0xb1]⟩ 1 none) (pv_bigmem (by decide +kernel) rfl)) rfl (by rw [hml]; exact hl.1) rfl (pv_dec_spec d5_1) (Nat.le_of_ble_eq_true rfl) (Nat.le_of_ble_eq_true rfl) ?_
  refine W.eq (g2 := F0 m 4 ls []) rfl ?_
  refine lv_aload_n hx hb (pv_dec_spec d5_4) rfl (lv_at hl 0 rfl) ?_
  refine lv_bipush (v := 18) hx hb (pv_dec_spec d5_5) (by decide) ?_
  refine pv_newa (atype := .int) (kd := 0) (ty := .int) (N' := 18) (a0 := (18, .inl (fun _ => 0))) hx hb (hbig (.arrayClass .int) (pv_bigmem (by decide +kernel) rfl)) rfl rfl hK hP hD hS hA (fun _ => rfl) (by decide) (by decide) (by decide) (Nat.le_of_ble_eq_true rfl) (Nat.le_of_ble_eq_true rfl) (pv_dec_spec d5_7) (fun q7 H hP hD hS => ?_)
  have hP : va_P (dC, dI) pv_cls [(h0, .inr (4, [.null, .null])), (q7, .inl (dA 0, 18, .inl (fun _ => 0)))] H := hP
  have hD : va_D A [(h0, .inr (4, [.null, .null])), (q7, .inl (dA 0, 18, .inl (fun _ => 0)))] := hD
  refine W.widen (k := 1) (n := 18) (Nat.le_of_ble_eq_true rfl) (Nat.le_of_ble_eq_true rfl) ?_
  refine va_putF (D := (dC, dI)) (ci := 4) (v := .ref q7) (C := "AngleNet$Shape") (T := pv_T4) (N := 2) hx hb hbig (pv_cls_big (ci := 4) rfl) pv_t4 pv_k4 pv_n4 hown hK hP hD hS 0 rfl rfl 0 (by decide) (hbig (.fieldLink "AngleNet$Shape" 9 "AngleNet$Shape" "turned" "[I") (pv_bigmem (by decide +kernel) rfl)) (fun _ h9 => h9) rfl hin rfl (pv_k4 0 (by decide)) rfl rfl (Nat.le_of_ble_eq_true rfl) (pv_dec_spec d5_9) (fun H locs hP hD hS => ?_)
  have hP : va_P (dC, dI) pv_cls [(h0, .inr (4, [.ref q7, .null])), (q7, .inl (dA 0, 18, .inl (fun _ => 0)))] H := hP
  have hD : va_D A [(h0, .inr (4, [.ref q7, .null])), (q7, .inl (dA 0, 18, .inl (fun _ => 0)))] := hD
  refine lv_aload_n hx hb (pv_dec_spec d5_12) rfl (lv_at hl 0 rfl) ?_
  refine lv_bipush (v := 18) hx hb (pv_dec_spec d5_13) (by decide) ?_
  refine pv_newa (atype := .int) (kd := 0) (ty := .int) (N' := 18) (a0 := (18, .inl (fun _ => 0))) hx hb (hbig (.arrayClass .int) (pv_bigmem (by decide +kernel) rfl)) rfl rfl hK hP hD hS hA (fun _ => rfl) (by decide) (by decide) (by decide) (Nat.le_of_ble_eq_true rfl) (Nat.le_of_ble_eq_true rfl) (pv_dec_spec d5_15) (fun q15 H hP hD hS => ?_)
  have hP : va_P (dC, dI) pv_cls [(h0, .inr (4, [.ref q7, .null])), (q7, .inl (dA 0, 18, .inl (fun _ => 0))), (q15, .inl (dA 0, 18, .inl (fun _ => 0)))] H := hP
  have hD : va_D A [(h0, .inr (4, [.ref q7, .null])), (q7, .inl (dA 0, 18, .inl (fun _ => 0))), (q15, .inl (dA 0, 18, .inl (fun _ => 0)))] := hD
  refine W.widen (k := 2) (n := 36) (Nat.le_of_ble_eq_true rfl) (Nat.le_of_ble_eq_true rfl) ?_
  refine va_putF (D := (dC, dI)) (ci := 4) (v := .ref q15) (C := "AngleNet$Shape") (T := pv_T4) (N := 2) hx hb hbig (pv_cls_big (ci := 4) rfl) pv_t4 pv_k4 pv_n4 hown hK hP hD hS 0 rfl rfl 1 (by decide) (hbig (.fieldLink "AngleNet$Shape" 15 "AngleNet$Shape" "queue" "[I") (pv_bigmem (by decide +kernel) rfl)) (fun _ h9 => h9) rfl hin rfl (pv_k4 1 (by decide)) rfl rfl (Nat.le_of_ble_eq_true rfl) (pv_dec_spec d5_17) (fun H locs hP hD hS => ?_)
  have hP : va_P (dC, dI) pv_cls [(h0, .inr (4, [.ref q7, .ref q15])), (q7, .inl (dA 0, 18, .inl (fun _ => 0))), (q15, .inl (dA 0, 18, .inl (fun _ => 0)))] H := hP
  have hD : va_D A [(h0, .inr (4, [.ref q7, .ref q15])), (q7, .inl (dA 0, 18, .inl (fun _ => 0))), (q15, .inl (dA 0, 18, .inl (fun _ => 0)))] := hD
  exact W.vret hx hb (hr.trans tt5) (fun t ht hW => ⟨⟨(), rfl, trivial, q7, q15, by rw [ht]; exact hP, va_K.moved hW.alike hK, hD⟩, hS.F ht⟩) hS.2.2 (pv_dec_spec d5_20)

theorem lt6 : 6 < pv_ms.length := by decide +kernel
theorem ya6 : (pv_y 6).name = "<init>" := by decide +kernel
theorem yb6 : (pv_y 6).cls ≠ "java/lang/invoke/MethodHandle" ∧ (pv_y 6).cls ≠ "java/lang/invoke/VarHandle" ∧ (parseMethodDescriptor (pv_y 6).desc).map (fun d => d.parameters.length) = some 0 := by decide +kernel
set_option maxHeartbeats 8000000 in
set_option maxRecDepth 100000 in
/-- AngleNet$Laying -/
theorem kt6 (l : Launch) (dC : Nat → ClassId) (dI : Nat → Nat → Nat) (dA : Nat → ClassId) (h0 sz : Nat) : Met l (pv_y 6) (pv_wsM 6) ({ frames := pv_fr 6, cells := 3, slots := 46, locals := pv_lo 6 }) (va_Pc [.ref h0] (fun U => U.heap.size = sz ∧ va_P (dC, dI) pv_cls [(h0, .inr (5, [.null, .null, .null, .int 0, .int 0, .int 0, .int 0, .int 0]))] U.heap ∧ va_K (dC, dI) pv_cls (pv_tys dA) U ∧ va_D (fun _ => True) [(h0, .inr (5, [.null, .null, .null, .int 0, .int 0, .int 0, .int 0, .int 0]))])) (va_Qv (fun _ : Unit => True) (fun _ t => ∃ q7 q15 q23 : Nat, va_P (dC, dI) pv_cls [(h0, .inr (5, [.ref q7, .ref q15, .ref q23, .int 0, .int 0, .int 0, .int 0, .int 0])), (q7, .inl (dA 0, 10, .inl (fun _ => 0))), (q15, .inl (dA 0, 18, .inl (fun _ => 0))), (q23, .inl (dA 0, 18, .inl (fun _ => 0)))] t.heap ∧ va_K (dC, dI) pv_cls (pv_tys dA) t ∧ va_D (va_A [(h0, .inr (5, [.null, .null, .null, .int 0, .int 0, .int 0, .int 0, .int 0]))] sz) [(h0, .inr (5, [.ref q7, .ref q15, .ref q23, .int 0, .int 0, .int 0, .int 0, .int 0])), (q7, .inl (dA 0, 10, .inl (fun _ => 0))), (q15, .inl (dA 0, 18, .inl (fun _ => 0))), (q23, .inl (dA 0, 18, .inl (fun _ => 0)))]) (va_A [(h0, .inr (5, [.null, .null, .null, .int 0, .int 0, .int 0, .int 0, .int 0]))] sz)) 3 46 (va_A [(h0, .inr (5, [.null, .null, .null, .int 0, .int 0, .int 0, .int 0, .int 0]))] sz) := by
  refine Met.ofW (cc := pv_bc 6) (maxL := pv_mL 6) (ret := pv_rt 6) (by decide +kernel) rfl ?_
  intro p e s m args below meth c s₁ B hml hv
  obtain ⟨rfl, hsz, hP, hK, hD0⟩ := hv
  have hx := B.exec
  have hb := B.bytes
  have hr := B.returns
  have hts := atoms_spec (ws := pv_wsM 6) B.pre
  have hbig : ∀ w ∈ pv_big, w.before _ s = true := fun w hw => hts w (List.mem_cons_of_mem _ hw)
  have hown : s.vm.findClass "AngleNet$Laying" = some m.cls := by have := findClass_of_methodNamed B.named; rwa [show (pv_y 6).cls = "AngleNet$Laying" from o6] at this
  have hlocks := B.notSynchronized
  have hin : meth.name = "<init>" := ((name_of_methodNamed B.named B.method).1).trans ya6
  subst hsz
  have hD := hD0.self (sz := s.heap.size)
  generalize hAe : va_A [(h0, .inr (5, [.null, .null, .null, .int 0, .int 0, .int 0, .int 0, .int 0]))] s.heap.size = A at hD ⊢
  have hA : ∀ q : Nat, s.heap.size ≤ q → A q := fun q h => by rw [← hAe]; exact Or.inr h
  have hS : va_S A s.heap s.heap [] := va_S.rf
  have hl := lv_entry ([.ref h0]) (n := 1) (Nat.le_of_ble_eq_true rfl)
  rw [m6] at hml; rw [lg_entry_eq, m6]
  generalize (lg_sl ([.ref h0]) ++ List.replicate (1 - (lg_sl ([.ref h0])).length) Slot.unset).toArray = ls at hl ⊢
  have hl : lv_has ls 1 [(0, .ref h0)] := hl
  refine lv_aload_n hx hb (pv_dec_spec d6_0) rfl (lv_at hl 0 rfl) ?_
  refine W.objInit hx hb hown (hbig (.methodLink "AngleNet$Laying" 3 Lib.objectInit) (pv_bigmem (by decide +kernel) rfl)) (hbig (.instanceMethod Lib.objectInit) (pv_bigmem (by decide +kernel) rfl)) (hbig (.code Lib.objectInit ⟨#[0xb1]⟩ 1 none) (pv_bigmem (by decide +kernel) rfl)) rfl (by rw [hml]; exact hl.1) rfl (pv_dec_spec d6_1) (Nat.le_of_ble_eq_true rfl) (Nat.le_of_ble_eq_true rfl) ?_
  refine W.eq (g2 := F0 m 4 ls []) rfl ?_
  refine lv_aload_n hx hb (pv_dec_spec d6_4) rfl (lv_at hl 0 rfl) ?_
  refine lv_bipush (v := 10) hx hb (pv_dec_spec d6_5) (by decide) ?_
  refine pv_newa (atype := .int) (kd := 0) (ty := .int) (N' := 10) (a0 := (10, .inl (fun _ => 0))) hx hb (hbig (.arrayClass .int) (pv_bigmem (by decide +kernel) rfl)) rfl rfl hK hP hD hS hA (fun _ => rfl) (by decide) (by decide) (by decide) (Nat.le_of_ble_eq_true rfl) (Nat.le_of_ble_eq_true rfl) (pv_dec_spec d6_7) (fun q7 H hP hD hS => ?_)
  have hP : va_P (dC, dI) pv_cls [(h0, .inr (5, [.null, .null, .null, .int 0, .int 0, .int 0, .int 0, .int 0])), (q7, .inl (dA 0, 10, .inl (fun _ => 0)))] H := hP
  have hD : va_D A [(h0, .inr (5, [.null, .null, .null, .int 0, .int 0, .int 0, .int 0, .int 0])), (q7, .inl (dA 0, 10, .inl (fun _ => 0)))] := hD
  refine W.widen (k := 1) (n := 10) (Nat.le_of_ble_eq_true rfl) (Nat.le_of_ble_eq_true rfl) ?_
  refine va_putF (D := (dC, dI)) (ci := 5) (v := .ref q7) (C := "AngleNet$Laying") (T := pv_T5) (N := 8) hx hb hbig (pv_cls_big (ci := 5) rfl) pv_t5 pv_k5 pv_n5 hown hK hP hD hS 0 rfl rfl 0 (by decide) (hbig (.fieldLink "AngleNet$Laying" 9 "AngleNet$Laying" "members" "[I") (pv_bigmem (by decide +kernel) rfl)) (fun _ h9 => h9) rfl hin rfl (pv_k5 0 (by decide)) rfl rfl (Nat.le_of_ble_eq_true rfl) (pv_dec_spec d6_9) (fun H locs hP hD hS => ?_)
  have hP : va_P (dC, dI) pv_cls [(h0, .inr (5, [.ref q7, .null, .null, .int 0, .int 0, .int 0, .int 0, .int 0])), (q7, .inl (dA 0, 10, .inl (fun _ => 0)))] H := hP
  have hD : va_D A [(h0, .inr (5, [.ref q7, .null, .null, .int 0, .int 0, .int 0, .int 0, .int 0])), (q7, .inl (dA 0, 10, .inl (fun _ => 0)))] := hD
  refine lv_aload_n hx hb (pv_dec_spec d6_12) rfl (lv_at hl 0 rfl) ?_
  refine lv_bipush (v := 18) hx hb (pv_dec_spec d6_13) (by decide) ?_
  refine pv_newa (atype := .int) (kd := 0) (ty := .int) (N' := 18) (a0 := (18, .inl (fun _ => 0))) hx hb (hbig (.arrayClass .int) (pv_bigmem (by decide +kernel) rfl)) rfl rfl hK hP hD hS hA (fun _ => rfl) (by decide) (by decide) (by decide) (Nat.le_of_ble_eq_true rfl) (Nat.le_of_ble_eq_true rfl) (pv_dec_spec d6_15) (fun q15 H hP hD hS => ?_)
  have hP : va_P (dC, dI) pv_cls [(h0, .inr (5, [.ref q7, .null, .null, .int 0, .int 0, .int 0, .int 0, .int 0])), (q7, .inl (dA 0, 10, .inl (fun _ => 0))), (q15, .inl (dA 0, 18, .inl (fun _ => 0)))] H := hP
  have hD : va_D A [(h0, .inr (5, [.ref q7, .null, .null, .int 0, .int 0, .int 0, .int 0, .int 0])), (q7, .inl (dA 0, 10, .inl (fun _ => 0))), (q15, .inl (dA 0, 18, .inl (fun _ => 0)))] := hD
  refine W.widen (k := 2) (n := 28) (Nat.le_of_ble_eq_true rfl) (Nat.le_of_ble_eq_true rfl) ?_
  refine va_putF (D := (dC, dI)) (ci := 5) (v := .ref q15) (C := "AngleNet$Laying") (T := pv_T5) (N := 8) hx hb hbig (pv_cls_big (ci := 5) rfl) pv_t5 pv_k5 pv_n5 hown hK hP hD hS 0 rfl rfl 1 (by decide) (hbig (.fieldLink "AngleNet$Laying" 15 "AngleNet$Laying" "postsOf" "[I") (pv_bigmem (by decide +kernel) rfl)) (fun _ h9 => h9) rfl hin rfl (pv_k5 1 (by decide)) rfl rfl (Nat.le_of_ble_eq_true rfl) (pv_dec_spec d6_17) (fun H locs hP hD hS => ?_)
  have hP : va_P (dC, dI) pv_cls [(h0, .inr (5, [.ref q7, .ref q15, .null, .int 0, .int 0, .int 0, .int 0, .int 0])), (q7, .inl (dA 0, 10, .inl (fun _ => 0))), (q15, .inl (dA 0, 18, .inl (fun _ => 0)))] H := hP
  have hD : va_D A [(h0, .inr (5, [.ref q7, .ref q15, .null, .int 0, .int 0, .int 0, .int 0, .int 0])), (q7, .inl (dA 0, 10, .inl (fun _ => 0))), (q15, .inl (dA 0, 18, .inl (fun _ => 0)))] := hD
  refine lv_aload_n hx hb (pv_dec_spec d6_20) rfl (lv_at hl 0 rfl) ?_
  refine lv_bipush (v := 18) hx hb (pv_dec_spec d6_21) (by decide) ?_
  refine pv_newa (atype := .int) (kd := 0) (ty := .int) (N' := 18) (a0 := (18, .inl (fun _ => 0))) hx hb (hbig (.arrayClass .int) (pv_bigmem (by decide +kernel) rfl)) rfl rfl hK hP hD hS hA (fun _ => rfl) (by decide) (by decide) (by decide) (Nat.le_of_ble_eq_true rfl) (Nat.le_of_ble_eq_true rfl) (pv_dec_spec d6_23) (fun q23 H hP hD hS => ?_)
  have hP : va_P (dC, dI) pv_cls [(h0, .inr (5, [.ref q7, .ref q15, .null, .int 0, .int 0, .int 0, .int 0, .int 0])), (q7, .inl (dA 0, 10, .inl (fun _ => 0))), (q15, .inl (dA 0, 18, .inl (fun _ => 0))), (q23, .inl (dA 0, 18, .inl (fun _ => 0)))] H := hP
  have hD : va_D A [(h0, .inr (5, [.ref q7, .ref q15, .null, .int 0, .int 0, .int 0, .int 0, .int 0])), (q7, .inl (dA 0, 10, .inl (fun _ => 0))), (q15, .inl (dA 0, 18, .inl (fun _ => 0))), (q23, .inl (dA 0, 18, .inl (fun _ => 0)))] := hD
  refine W.widen (k := 3) (n := 46) (Nat.le_of_ble_eq_true rfl) (Nat.le_of_ble_eq_true rfl) ?_
  refine va_putF (D := (dC, dI)) (ci := 5) (v := .ref q23) (C := "AngleNet$Laying") (T := pv_T5) (N := 8) hx hb hbig (pv_cls_big (ci := 5) rfl) pv_t5 pv_k5 pv_n5 hown hK hP hD hS 0 rfl rfl 2 (by decide) (hbig (.fieldLink "AngleNet$Laying" 18 "AngleNet$Laying" "cornersIn" "[I") (pv_bigmem (by decide +kernel) rfl)) (fun _ h9 => h9) rfl hin rfl (pv_k5 2 (by decide)) rfl rfl (Nat.le_of_ble_eq_true rfl) (pv_dec_spec d6_25) (fun H locs hP hD hS => ?_)
  have hP : va_P (dC, dI) pv_cls [(h0, .inr (5, [.ref q7, .ref q15, .ref q23, .int 0, .int 0, .int 0, .int 0, .int 0])), (q7, .inl (dA 0, 10, .inl (fun _ => 0))), (q15, .inl (dA 0, 18, .inl (fun _ => 0))), (q23, .inl (dA 0, 18, .inl (fun _ => 0)))] H := hP
  have hD : va_D A [(h0, .inr (5, [.ref q7, .ref q15, .ref q23, .int 0, .int 0, .int 0, .int 0, .int 0])), (q7, .inl (dA 0, 10, .inl (fun _ => 0))), (q15, .inl (dA 0, 18, .inl (fun _ => 0))), (q23, .inl (dA 0, 18, .inl (fun _ => 0)))] := hD
  exact W.vret hx hb (hr.trans tt6) (fun t ht hW => ⟨⟨(), rfl, trivial, q7, q15, q23, by rw [ht]; exact hP, va_K.moved hW.alike hK, hD⟩, hS.F ht⟩) hS.2.2 (pv_dec_spec d6_28)

theorem lt7 : 7 < pv_ms.length := by decide +kernel
theorem ya7 : (pv_y 7).name = "<init>" := by decide +kernel
theorem yb7 : (pv_y 7).cls ≠ "java/lang/invoke/MethodHandle" ∧ (pv_y 7).cls ≠ "java/lang/invoke/VarHandle" ∧ (parseMethodDescriptor (pv_y 7).desc).map (fun d => d.parameters.length) = some 0 := by decide +kernel
set_option maxHeartbeats 8000000 in
set_option maxRecDepth 100000 in
/-- AngleNet$Currents -/
theorem kt7 (l : Launch) (dC : Nat → ClassId) (dI : Nat → Nat → Nat) (dA : Nat → ClassId) (h0 sz : Nat) : Met l (pv_y 7) (pv_wsM 7) ({ frames := pv_fr 7, cells := 3, slots := 130, locals := pv_lo 7 }) (va_Pc [.ref h0] (fun U => U.heap.size = sz ∧ va_P (dC, dI) pv_cls [(h0, .inr (6, [.null, .null, .null, .int 0]))] U.heap ∧ va_K (dC, dI) pv_cls (pv_tys dA) U ∧ va_D (fun _ => True) [(h0, .inr (6, [.null, .null, .null, .int 0]))])) (va_Qv (fun _ : Unit => True) (fun _ t => ∃ q7 q15 q23 : Nat, va_P (dC, dI) pv_cls [(h0, .inr (6, [.ref q7, .ref q15, .ref q23, .int 0])), (q7, .inl (dA 1, 10, .inr (.inl (fun _ => 0)))), (q15, .inl (dA 1, 110, .inr (.inl (fun _ => 0)))), (q23, .inl (dA 0, 10, .inl (fun _ => 0)))] t.heap ∧ va_K (dC, dI) pv_cls (pv_tys dA) t ∧ va_D (va_A [(h0, .inr (6, [.null, .null, .null, .int 0]))] sz) [(h0, .inr (6, [.ref q7, .ref q15, .ref q23, .int 0])), (q7, .inl (dA 1, 10, .inr (.inl (fun _ => 0)))), (q15, .inl (dA 1, 110, .inr (.inl (fun _ => 0)))), (q23, .inl (dA 0, 10, .inl (fun _ => 0)))]) (va_A [(h0, .inr (6, [.null, .null, .null, .int 0]))] sz)) 3 130 (va_A [(h0, .inr (6, [.null, .null, .null, .int 0]))] sz) := by
  refine Met.ofW (cc := pv_bc 7) (maxL := pv_mL 7) (ret := pv_rt 7) (by decide +kernel) rfl ?_
  intro p e s m args below meth c s₁ B hml hv
  obtain ⟨rfl, hsz, hP, hK, hD0⟩ := hv
  have hx := B.exec
  have hb := B.bytes
  have hr := B.returns
  have hts := atoms_spec (ws := pv_wsM 7) B.pre
  have hbig : ∀ w ∈ pv_big, w.before _ s = true := fun w hw => hts w (List.mem_cons_of_mem _ hw)
  have hown : s.vm.findClass "AngleNet$Currents" = some m.cls := by have := findClass_of_methodNamed B.named; rwa [show (pv_y 7).cls = "AngleNet$Currents" from o7] at this
  have hlocks := B.notSynchronized
  have hin : meth.name = "<init>" := ((name_of_methodNamed B.named B.method).1).trans ya7
  subst hsz
  have hD := hD0.self (sz := s.heap.size)
  generalize hAe : va_A [(h0, .inr (6, [.null, .null, .null, .int 0]))] s.heap.size = A at hD ⊢
  have hA : ∀ q : Nat, s.heap.size ≤ q → A q := fun q h => by rw [← hAe]; exact Or.inr h
  have hS : va_S A s.heap s.heap [] := va_S.rf
  have hl := lv_entry ([.ref h0]) (n := 1) (Nat.le_of_ble_eq_true rfl)
  rw [m7] at hml; rw [lg_entry_eq, m7]
  generalize (lg_sl ([.ref h0]) ++ List.replicate (1 - (lg_sl ([.ref h0])).length) Slot.unset).toArray = ls at hl ⊢
  have hl : lv_has ls 1 [(0, .ref h0)] := hl
  refine lv_aload_n hx hb (pv_dec_spec d7_0) rfl (lv_at hl 0 rfl) ?_
  refine W.objInit hx hb hown (hbig (.methodLink "AngleNet$Currents" 3 Lib.objectInit) (pv_bigmem (by decide +kernel) rfl)) (hbig (.instanceMethod Lib.objectInit) (pv_bigmem (by decide +kernel) rfl)) (hbig (.code Lib.objectInit ⟨#[0xb1]⟩ 1 none) (pv_bigmem (by decide +kernel) rfl)) rfl (by rw [hml]; exact hl.1) rfl (pv_dec_spec d7_1) (Nat.le_of_ble_eq_true rfl) (Nat.le_of_ble_eq_true rfl) ?_
  refine W.eq (g2 := F0 m 4 ls []) rfl ?_
  refine lv_aload_n hx hb (pv_dec_spec d7_4) rfl (lv_at hl 0 rfl) ?_
  refine lv_bipush (v := 10) hx hb (pv_dec_spec d7_5) (by decide) ?_
  refine pv_newa (atype := .long) (kd := 1) (ty := .long) (N' := 10) (a0 := (10, .inr (.inl (fun _ => 0)))) hx hb (hbig (.arrayClass .long) (pv_bigmem (by decide +kernel) rfl)) rfl rfl hK hP hD hS hA (fun _ => rfl) (by decide) (by decide) (by decide) (Nat.le_of_ble_eq_true rfl) (Nat.le_of_ble_eq_true rfl) (pv_dec_spec d7_7) (fun q7 H hP hD hS => ?_)
  have hP : va_P (dC, dI) pv_cls [(h0, .inr (6, [.null, .null, .null, .int 0])), (q7, .inl (dA 1, 10, .inr (.inl (fun _ => 0))))] H := hP
  have hD : va_D A [(h0, .inr (6, [.null, .null, .null, .int 0])), (q7, .inl (dA 1, 10, .inr (.inl (fun _ => 0))))] := hD
  refine W.widen (k := 1) (n := 10) (Nat.le_of_ble_eq_true rfl) (Nat.le_of_ble_eq_true rfl) ?_
  refine va_putF (D := (dC, dI)) (ci := 6) (v := .ref q7) (C := "AngleNet$Currents") (T := pv_T6) (N := 4) hx hb hbig (pv_cls_big (ci := 6) rfl) pv_t6 pv_k6 pv_n6 hown hK hP hD hS 0 rfl rfl 0 (by decide) (hbig (.fieldLink "AngleNet$Currents" 9 "AngleNet$Currents" "heights" "[J") (pv_bigmem (by decide +kernel) rfl)) (fun _ h9 => h9) rfl hin rfl (pv_k6 0 (by decide)) rfl rfl (Nat.le_of_ble_eq_true rfl) (pv_dec_spec d7_9) (fun H locs hP hD hS => ?_)
  have hP : va_P (dC, dI) pv_cls [(h0, .inr (6, [.ref q7, .null, .null, .int 0])), (q7, .inl (dA 1, 10, .inr (.inl (fun _ => 0))))] H := hP
  have hD : va_D A [(h0, .inr (6, [.ref q7, .null, .null, .int 0])), (q7, .inl (dA 1, 10, .inr (.inl (fun _ => 0))))] := hD
  refine lv_aload_n hx hb (pv_dec_spec d7_12) rfl (lv_at hl 0 rfl) ?_
  refine lv_bipush (v := 110) hx hb (pv_dec_spec d7_13) (by decide) ?_
  refine pv_newa (atype := .long) (kd := 1) (ty := .long) (N' := 110) (a0 := (110, .inr (.inl (fun _ => 0)))) hx hb (hbig (.arrayClass .long) (pv_bigmem (by decide +kernel) rfl)) rfl rfl hK hP hD hS hA (fun _ => rfl) (by decide) (by decide) (by decide) (Nat.le_of_ble_eq_true rfl) (Nat.le_of_ble_eq_true rfl) (pv_dec_spec d7_15) (fun q15 H hP hD hS => ?_)
  have hP : va_P (dC, dI) pv_cls [(h0, .inr (6, [.ref q7, .null, .null, .int 0])), (q7, .inl (dA 1, 10, .inr (.inl (fun _ => 0)))), (q15, .inl (dA 1, 110, .inr (.inl (fun _ => 0))))] H := hP
  have hD : va_D A [(h0, .inr (6, [.ref q7, .null, .null, .int 0])), (q7, .inl (dA 1, 10, .inr (.inl (fun _ => 0)))), (q15, .inl (dA 1, 110, .inr (.inl (fun _ => 0))))] := hD
  refine W.widen (k := 2) (n := 120) (Nat.le_of_ble_eq_true rfl) (Nat.le_of_ble_eq_true rfl) ?_
  refine va_putF (D := (dC, dI)) (ci := 6) (v := .ref q15) (C := "AngleNet$Currents") (T := pv_T6) (N := 4) hx hb hbig (pv_cls_big (ci := 6) rfl) pv_t6 pv_k6 pv_n6 hown hK hP hD hS 0 rfl rfl 1 (by decide) (hbig (.fieldLink "AngleNet$Currents" 15 "AngleNet$Currents" "cells" "[J") (pv_bigmem (by decide +kernel) rfl)) (fun _ h9 => h9) rfl hin rfl (pv_k6 1 (by decide)) rfl rfl (Nat.le_of_ble_eq_true rfl) (pv_dec_spec d7_17) (fun H locs hP hD hS => ?_)
  have hP : va_P (dC, dI) pv_cls [(h0, .inr (6, [.ref q7, .ref q15, .null, .int 0])), (q7, .inl (dA 1, 10, .inr (.inl (fun _ => 0)))), (q15, .inl (dA 1, 110, .inr (.inl (fun _ => 0))))] H := hP
  have hD : va_D A [(h0, .inr (6, [.ref q7, .ref q15, .null, .int 0])), (q7, .inl (dA 1, 10, .inr (.inl (fun _ => 0)))), (q15, .inl (dA 1, 110, .inr (.inl (fun _ => 0))))] := hD
  refine lv_aload_n hx hb (pv_dec_spec d7_20) rfl (lv_at hl 0 rfl) ?_
  refine lv_bipush (v := 10) hx hb (pv_dec_spec d7_21) (by decide) ?_
  refine pv_newa (atype := .int) (kd := 0) (ty := .int) (N' := 10) (a0 := (10, .inl (fun _ => 0))) hx hb (hbig (.arrayClass .int) (pv_bigmem (by decide +kernel) rfl)) rfl rfl hK hP hD hS hA (fun _ => rfl) (by decide) (by decide) (by decide) (Nat.le_of_ble_eq_true rfl) (Nat.le_of_ble_eq_true rfl) (pv_dec_spec d7_23) (fun q23 H hP hD hS => ?_)
  have hP : va_P (dC, dI) pv_cls [(h0, .inr (6, [.ref q7, .ref q15, .null, .int 0])), (q7, .inl (dA 1, 10, .inr (.inl (fun _ => 0)))), (q15, .inl (dA 1, 110, .inr (.inl (fun _ => 0)))), (q23, .inl (dA 0, 10, .inl (fun _ => 0)))] H := hP
  have hD : va_D A [(h0, .inr (6, [.ref q7, .ref q15, .null, .int 0])), (q7, .inl (dA 1, 10, .inr (.inl (fun _ => 0)))), (q15, .inl (dA 1, 110, .inr (.inl (fun _ => 0)))), (q23, .inl (dA 0, 10, .inl (fun _ => 0)))] := hD
  refine W.widen (k := 3) (n := 130) (Nat.le_of_ble_eq_true rfl) (Nat.le_of_ble_eq_true rfl) ?_
  refine va_putF (D := (dC, dI)) (ci := 6) (v := .ref q23) (C := "AngleNet$Currents") (T := pv_T6) (N := 4) hx hb hbig (pv_cls_big (ci := 6) rfl) pv_t6 pv_k6 pv_n6 hown hK hP hD hS 0 rfl rfl 2 (by decide) (hbig (.fieldLink "AngleNet$Currents" 18 "AngleNet$Currents" "postOf" "[I") (pv_bigmem (by decide +kernel) rfl)) (fun _ h9 => h9) rfl hin rfl (pv_k6 2 (by decide)) rfl rfl (Nat.le_of_ble_eq_true rfl) (pv_dec_spec d7_25) (fun H locs hP hD hS => ?_)
  have hP : va_P (dC, dI) pv_cls [(h0, .inr (6, [.ref q7, .ref q15, .ref q23, .int 0])), (q7, .inl (dA 1, 10, .inr (.inl (fun _ => 0)))), (q15, .inl (dA 1, 110, .inr (.inl (fun _ => 0)))), (q23, .inl (dA 0, 10, .inl (fun _ => 0)))] H := hP
  have hD : va_D A [(h0, .inr (6, [.ref q7, .ref q15, .ref q23, .int 0])), (q7, .inl (dA 1, 10, .inr (.inl (fun _ => 0)))), (q15, .inl (dA 1, 110, .inr (.inl (fun _ => 0)))), (q23, .inl (dA 0, 10, .inl (fun _ => 0)))] := hD
  exact W.vret hx hb (hr.trans tt7) (fun t ht hW => ⟨⟨(), rfl, trivial, q7, q15, q23, by rw [ht]; exact hP, va_K.moved hW.alike hK, hD⟩, hS.F ht⟩) hS.2.2 (pv_dec_spec d7_28)

theorem yc2_3 : pv_fr 3 + 1 ≤ pv_fr 2 := by decide +kernel
theorem yd2_3 : 8 + (pv_mL 3 + 11) + pv_lo 3 ≤ pv_lo 2 := by decide +kernel
theorem lt2 : 2 < pv_ms.length := by decide +kernel
theorem ya2 : (pv_y 2).name = "<init>" := by decide +kernel
theorem yb2 : (pv_y 2).cls ≠ "java/lang/invoke/MethodHandle" ∧ (pv_y 2).cls ≠ "java/lang/invoke/VarHandle" ∧ (parseMethodDescriptor (pv_y 2).desc).map (fun d => d.parameters.length) = some 0 := by decide +kernel
set_option maxHeartbeats 8000000 in
set_option maxRecDepth 100000 in
/-- AngleNet$Tape -/
theorem kt2 (l : Launch) (dC : Nat → ClassId) (dI : Nat → Nat → Nat) (dA : Nat → ClassId) (h0 sz : Nat) : Met l (pv_y 2) (pv_wsM 2) ({ frames := pv_fr 2, cells := 11, slots := 3215, locals := pv_lo 2 }) (va_Pc [.ref h0] (fun U => U.heap.size = sz ∧ va_P (dC, dI) pv_cls [(h0, .inr (1, [.int 0, .int 0, .int 0, .null, .null, .int 0, .int 0, .int 0, .int 0, .int 0, .int 0]))] U.heap ∧ va_K (dC, dI) pv_cls (pv_tys dA) U ∧ va_D (fun _ => True) [(h0, .inr (1, [.int 0, .int 0, .int 0, .null, .null, .int 0, .int 0, .int 0, .int 0, .int 0, .int 0]))])) (va_Qv (fun _ : Unit => True) (fun _ t => ∃ q10 q7_14 q15_14 q23_14 q31_14 q39_14 q47_14 q55_14 q63_14 q72_14 q24 : Nat, va_P (dC, dI) pv_cls [(h0, .inr (1, [.int 0, .int 0, .int (-1), .ref q10, .ref q24, .int 0, .int 0, .int 0, .int 0, .int 0, .int 0])), (q10, .inr (2, [.int 0, .int 0, .int 0, .int 0, .int 0, .ref q7_14, .ref q15_14, .ref q23_14, .ref q31_14, .ref q39_14, .ref q47_14, .ref q55_14, .ref q63_14, .ref q72_14, .int 0, .int 0])), (q7_14, .inl (dA 0, 54, .inl (fun _ => 0))), (q15_14, .inl (dA 0, 18, .inl (fun _ => 0))), (q23_14, .inl (dA 0, 10, .inl (fun _ => 0))), (q31_14, .inl (dA 0, 10, .inl (fun _ => 0))), (q39_14, .inl (dA 0, 10, .inl (fun _ => 0))), (q47_14, .inl (dA 0, 10, .inl (fun _ => 0))), (q55_14, .inl (dA 0, 100, .inl (fun _ => 0))), (q63_14, .inl (dA 0, 100, .inl (fun _ => 0))), (q72_14, .inl (dA 0, 1287, .inl (fun _ => 0))), (q24, .inl (dA 2, 1600, .inl (fun _ => 0)))] t.heap ∧ va_K (dC, dI) pv_cls (pv_tys dA) t ∧ va_D (va_A [(h0, .inr (1, [.int 0, .int 0, .int 0, .null, .null, .int 0, .int 0, .int 0, .int 0, .int 0, .int 0]))] sz) [(h0, .inr (1, [.int 0, .int 0, .int (-1), .ref q10, .ref q24, .int 0, .int 0, .int 0, .int 0, .int 0, .int 0])), (q10, .inr (2, [.int 0, .int 0, .int 0, .int 0, .int 0, .ref q7_14, .ref q15_14, .ref q23_14, .ref q31_14, .ref q39_14, .ref q47_14, .ref q55_14, .ref q63_14, .ref q72_14, .int 0, .int 0])), (q7_14, .inl (dA 0, 54, .inl (fun _ => 0))), (q15_14, .inl (dA 0, 18, .inl (fun _ => 0))), (q23_14, .inl (dA 0, 10, .inl (fun _ => 0))), (q31_14, .inl (dA 0, 10, .inl (fun _ => 0))), (q39_14, .inl (dA 0, 10, .inl (fun _ => 0))), (q47_14, .inl (dA 0, 10, .inl (fun _ => 0))), (q55_14, .inl (dA 0, 100, .inl (fun _ => 0))), (q63_14, .inl (dA 0, 100, .inl (fun _ => 0))), (q72_14, .inl (dA 0, 1287, .inl (fun _ => 0))), (q24, .inl (dA 2, 1600, .inl (fun _ => 0)))]) (va_A [(h0, .inr (1, [.int 0, .int 0, .int 0, .null, .null, .int 0, .int 0, .int 0, .int 0, .int 0, .int 0]))] sz)) 11 3215 (va_A [(h0, .inr (1, [.int 0, .int 0, .int 0, .null, .null, .int 0, .int 0, .int 0, .int 0, .int 0, .int 0]))] sz) := by
  refine Met.ofW (cc := pv_bc 2) (maxL := pv_mL 2) (ret := pv_rt 2) (by decide +kernel) rfl ?_
  intro p e s m args below meth c s₁ B hml hv
  obtain ⟨rfl, hsz, hP, hK, hD0⟩ := hv
  have hx := B.exec
  have hb := B.bytes
  have hr := B.returns
  have hts := atoms_spec (ws := pv_wsM 2) B.pre
  have hbig : ∀ w ∈ pv_big, w.before _ s = true := fun w hw => hts w (List.mem_cons_of_mem _ hw)
  have hown : s.vm.findClass "AngleNet$Tape" = some m.cls := by have := findClass_of_methodNamed B.named; rwa [show (pv_y 2).cls = "AngleNet$Tape" from o2] at this
  have hlocks := B.notSynchronized
  have hin : meth.name = "<init>" := ((name_of_methodNamed B.named B.method).1).trans ya2
  subst hsz
  have hD := hD0.self (sz := s.heap.size)
  generalize hAe : va_A [(h0, .inr (1, [.int 0, .int 0, .int 0, .null, .null, .int 0, .int 0, .int 0, .int 0, .int 0, .int 0]))] s.heap.size = A at hD ⊢
  have hA : ∀ q : Nat, s.heap.size ≤ q → A q := fun q h => by rw [← hAe]; exact Or.inr h
  have hS : va_S A s.heap s.heap [] := va_S.rf
  have hl := lv_entry ([.ref h0]) (n := 1) (Nat.le_of_ble_eq_true rfl)
  rw [m2] at hml; rw [lg_entry_eq, m2]
  generalize (lg_sl ([.ref h0]) ++ List.replicate (1 - (lg_sl ([.ref h0])).length) Slot.unset).toArray = ls at hl ⊢
  have hl : lv_has ls 1 [(0, .ref h0)] := hl
  refine lv_aload_n hx hb (pv_dec_spec d2_0) rfl (lv_at hl 0 rfl) ?_
  refine W.objInit hx hb hown (hbig (.methodLink "AngleNet$Tape" 3 Lib.objectInit) (pv_bigmem (by decide +kernel) rfl)) (hbig (.instanceMethod Lib.objectInit) (pv_bigmem (by decide +kernel) rfl)) (hbig (.code Lib.objectInit ⟨#[0xb1]⟩ 1 none) (pv_bigmem (by decide +kernel) rfl)) rfl (by rw [hml]; exact hl.1) rfl (pv_dec_spec d2_1) (Nat.le_of_ble_eq_true rfl) (Nat.le_of_ble_eq_true rfl) ?_
  refine W.eq (g2 := F0 m 4 ls []) rfl ?_
  refine lv_aload_n hx hb (pv_dec_spec d2_4) rfl (lv_at hl 0 rfl) ?_
  refine lv_iconst (v := (-1)) hx hb (pv_dec_spec d2_5) (by decide) ?_
  refine va_put (D := (dC, dI)) (ci := 1) (v := .int (-1)) (C := "AngleNet$Tape") (T := pv_T1) (N := 11) hx hb hbig (pv_cls_big (ci := 1) rfl) pv_t1 pv_k1 pv_n1 hown hK hP hD hS 0 rfl rfl 2 (by decide) (hbig (.fieldLink "AngleNet$Tape" 9 "AngleNet$Tape" "place" "I") (pv_bigmem (by decide +kernel) rfl)) (fun _ h9 => h9) rfl (pv_k1 2 (by decide)) rfl rfl (Nat.le_of_ble_eq_true rfl) (pv_dec_spec d2_6) (fun H locs hP hD hS => ?_)
  have hP : va_P (dC, dI) pv_cls [(h0, .inr (1, [.int 0, .int 0, .int (-1), .null, .null, .int 0, .int 0, .int 0, .int 0, .int 0, .int 0]))] H := hP
  have hD : va_D A [(h0, .inr (1, [.int 0, .int 0, .int (-1), .null, .null, .int 0, .int 0, .int 0, .int 0, .int 0, .int 0]))] := hD
  refine lv_aload_n hx hb (pv_dec_spec d2_9) rfl (lv_at hl 0 rfl) ?_
  refine va_new (ci := 2) (fs := [.int 0, .int 0, .int 0, .int 0, .int 0, .null, .null, .null, .null, .null, .null, .null, .null, .null, .int 0, .int 0]) (C := "AngleNet$Net") (T := pv_T2) (N := 16) hx hb hbig (pv_cls_big (ci := 2) rfl) pv_t2 pv_k2 hown (hbig (.classLink "AngleNet$Tape" 15 "AngleNet$Net") (pv_bigmem (by decide +kernel) rfl)) (hbig (.instantiable "AngleNet$Net" 16) (pv_bigmem (by decide +kernel) rfl)) (hbig (.initialized "AngleNet$Net") (pv_bigmem (by decide +kernel) rfl)) hK hP hD hS hA rfl (by decide) (Nat.le_of_ble_eq_true rfl) (Nat.le_of_ble_eq_true rfl) (pv_dec_spec d2_10) (fun q10 H hP hD hS => ?_)
  have hP : va_P (dC, dI) pv_cls [(h0, .inr (1, [.int 0, .int 0, .int (-1), .null, .null, .int 0, .int 0, .int 0, .int 0, .int 0, .int 0])), (q10, .inr (2, [.int 0, .int 0, .int 0, .int 0, .int 0, .null, .null, .null, .null, .null, .null, .null, .null, .null, .int 0, .int 0]))] H := hP
  have hD : va_D A [(h0, .inr (1, [.int 0, .int 0, .int (-1), .null, .null, .int 0, .int 0, .int 0, .int 0, .int 0, .int 0])), (q10, .inr (2, [.int 0, .int 0, .int 0, .int 0, .int 0, .null, .null, .null, .null, .null, .null, .null, .null, .null, .int 0, .int 0]))] := hD
  refine W.widen (k := 1) (n := 16) (Nat.le_of_ble_eq_true rfl) (Nat.le_of_ble_eq_true rfl) ?_
  refine lv_dup hx hb (pv_dec_spec d2_13) rfl ?_
  have hPc := hP.sub (ws' := [(q10, .inr (2, [.int 0, .int 0, .int 0, .int 0, .int 0, .null, .null, .null, .null, .null, .null, .null, .null, .null, .int 0, .int 0]))]) [1] rfl
  have hDc := hD.sub (ws' := [(q10, .inr (2, [.int 0, .int 0, .int 0, .int 0, .int 0, .null, .null, .null, .null, .null, .null, .null, .null, .null, .int 0, .int 0]))]) [1] (by decide) rfl
  have hFc := va_free (wc := [(q10, .inr (2, [.int 0, .int 0, .int 0, .int 0, .int 0, .null, .null, .null, .null, .null, .null, .null, .null, .null, .int 0, .int 0]))]) hD hS hA [1] rfl
  refine va_callv (va_runI (As := []) (rest := [.ref q10, .ref h0]) ⟨hx, hb, hml, hown, hts⟩ (kt3 l dC dI dA q10 H.size) (cwI 0 hts (pv_GoodIn (M := 2) (M' := 3) lt3) rfl rfl rfl (hbig (.initialized (pv_y 3).cls) (pv_bigmem (by decide +kernel) rfl)) (hbig (.methodLink "AngleNet$Tape" 17 (pv_y 3)) (pv_bigmem (by decide +kernel) rfl)) (hbig (.instanceMethod (pv_y 3)) (pv_bigmem (by decide +kernel) rfl)) ya3 yb3 ⟨yc2_3, yd2_3⟩) ⟨kt_blind, fun U hU hW => ⟨rfl, by rw [hU], by rw [hU]; exact hPc, va_K.moved hW.alike hK, hDc.weaken (fun _ _ _ _ => trivial)⟩⟩ rfl rfl hl.1 rfl (lv_room (Nat.le_of_ble_eq_true rfl)) (pv_dec_spec d2_14) ⟨Nat.le_of_ble_eq_true rfl, Nat.le_of_ble_eq_true rfl⟩) hS (fun q _ h => hFc q h) hFc (fun u t H1 locs ht hvm hw hB hz1 hk1 hS => ?_)
  obtain ⟨q7_14, q15_14, q23_14, q31_14, q39_14, q47_14, q55_14, q63_14, q72_14, hP1, hK1, hD1⟩ := hB
  rw [ht] at hP1
  obtain ⟨hP, hD⟩ := va_join (wr := [(h0, .inr (1, [.int 0, .int 0, .int (-1), .null, .null, .int 0, .int 0, .int 0, .int 0, .int 0, .int 0]))]) (w1 := [(q10, .inr (2, [.int 0, .int 0, .int 0, .int 0, .int 0, .ref q7_14, .ref q15_14, .ref q23_14, .ref q31_14, .ref q39_14, .ref q47_14, .ref q55_14, .ref q63_14, .ref q72_14, .int 0, .int 0])), (q7_14, .inl (dA 0, 54, .inl (fun _ => 0))), (q15_14, .inl (dA 0, 18, .inl (fun _ => 0))), (q23_14, .inl (dA 0, 10, .inl (fun _ => 0))), (q31_14, .inl (dA 0, 10, .inl (fun _ => 0))), (q39_14, .inl (dA 0, 10, .inl (fun _ => 0))), (q47_14, .inl (dA 0, 10, .inl (fun _ => 0))), (q55_14, .inl (dA 0, 100, .inl (fun _ => 0))), (q63_14, .inl (dA 0, 100, .inl (fun _ => 0))), (q72_14, .inl (dA 0, 1287, .inl (fun _ => 0)))]) hP hD [1] [0] rfl rfl (by decide) (by decide) hk1 hFc hP1 hD1
  generalize H1 = H at hP hS ⊢
  have hP : va_P (dC, dI) pv_cls [(h0, .inr (1, [.int 0, .int 0, .int (-1), .null, .null, .int 0, .int 0, .int 0, .int 0, .int 0, .int 0])), (q10, .inr (2, [.int 0, .int 0, .int 0, .int 0, .int 0, .ref q7_14, .ref q15_14, .ref q23_14, .ref q31_14, .ref q39_14, .ref q47_14, .ref q55_14, .ref q63_14, .ref q72_14, .int 0, .int 0])), (q7_14, .inl (dA 0, 54, .inl (fun _ => 0))), (q15_14, .inl (dA 0, 18, .inl (fun _ => 0))), (q23_14, .inl (dA 0, 10, .inl (fun _ => 0))), (q31_14, .inl (dA 0, 10, .inl (fun _ => 0))), (q39_14, .inl (dA 0, 10, .inl (fun _ => 0))), (q47_14, .inl (dA 0, 10, .inl (fun _ => 0))), (q55_14, .inl (dA 0, 100, .inl (fun _ => 0))), (q63_14, .inl (dA 0, 100, .inl (fun _ => 0))), (q72_14, .inl (dA 0, 1287, .inl (fun _ => 0)))] H := hP
  have hD : va_D A [(h0, .inr (1, [.int 0, .int 0, .int (-1), .null, .null, .int 0, .int 0, .int 0, .int 0, .int 0, .int 0])), (q10, .inr (2, [.int 0, .int 0, .int 0, .int 0, .int 0, .ref q7_14, .ref q15_14, .ref q23_14, .ref q31_14, .ref q39_14, .ref q47_14, .ref q55_14, .ref q63_14, .ref q72_14, .int 0, .int 0])), (q7_14, .inl (dA 0, 54, .inl (fun _ => 0))), (q15_14, .inl (dA 0, 18, .inl (fun _ => 0))), (q23_14, .inl (dA 0, 10, .inl (fun _ => 0))), (q31_14, .inl (dA 0, 10, .inl (fun _ => 0))), (q39_14, .inl (dA 0, 10, .inl (fun _ => 0))), (q47_14, .inl (dA 0, 10, .inl (fun _ => 0))), (q55_14, .inl (dA 0, 100, .inl (fun _ => 0))), (q63_14, .inl (dA 0, 100, .inl (fun _ => 0))), (q72_14, .inl (dA 0, 1287, .inl (fun _ => 0)))] := hD
  refine W.widen (k := 10) (n := 1615) (Nat.le_of_ble_eq_true rfl) (Nat.le_of_ble_eq_true rfl) ?_
  refine va_putF (D := (dC, dI)) (ci := 1) (v := .ref q10) (C := "AngleNet$Tape") (T := pv_T1) (N := 11) hx hb hbig (pv_cls_big (ci := 1) rfl) pv_t1 pv_k1 pv_n1 hown hK hP hD hS 0 rfl rfl 3 (by decide) (hbig (.fieldLink "AngleNet$Tape" 18 "AngleNet$Tape" "draft" "LAngleNet$Net;") (pv_bigmem (by decide +kernel) rfl)) (fun _ h9 => h9) rfl hin rfl (pv_k1 3 (by decide)) rfl rfl (Nat.le_of_ble_eq_true rfl) (pv_dec_spec d2_17) (fun H locs hP hD hS => ?_)
  have hP : va_P (dC, dI) pv_cls [(h0, .inr (1, [.int 0, .int 0, .int (-1), .ref q10, .null, .int 0, .int 0, .int 0, .int 0, .int 0, .int 0])), (q10, .inr (2, [.int 0, .int 0, .int 0, .int 0, .int 0, .ref q7_14, .ref q15_14, .ref q23_14, .ref q31_14, .ref q39_14, .ref q47_14, .ref q55_14, .ref q63_14, .ref q72_14, .int 0, .int 0])), (q7_14, .inl (dA 0, 54, .inl (fun _ => 0))), (q15_14, .inl (dA 0, 18, .inl (fun _ => 0))), (q23_14, .inl (dA 0, 10, .inl (fun _ => 0))), (q31_14, .inl (dA 0, 10, .inl (fun _ => 0))), (q39_14, .inl (dA 0, 10, .inl (fun _ => 0))), (q47_14, .inl (dA 0, 10, .inl (fun _ => 0))), (q55_14, .inl (dA 0, 100, .inl (fun _ => 0))), (q63_14, .inl (dA 0, 100, .inl (fun _ => 0))), (q72_14, .inl (dA 0, 1287, .inl (fun _ => 0)))] H := hP
  have hD : va_D A [(h0, .inr (1, [.int 0, .int 0, .int (-1), .ref q10, .null, .int 0, .int 0, .int 0, .int 0, .int 0, .int 0])), (q10, .inr (2, [.int 0, .int 0, .int 0, .int 0, .int 0, .ref q7_14, .ref q15_14, .ref q23_14, .ref q31_14, .ref q39_14, .ref q47_14, .ref q55_14, .ref q63_14, .ref q72_14, .int 0, .int 0])), (q7_14, .inl (dA 0, 54, .inl (fun _ => 0))), (q15_14, .inl (dA 0, 18, .inl (fun _ => 0))), (q23_14, .inl (dA 0, 10, .inl (fun _ => 0))), (q31_14, .inl (dA 0, 10, .inl (fun _ => 0))), (q39_14, .inl (dA 0, 10, .inl (fun _ => 0))), (q47_14, .inl (dA 0, 10, .inl (fun _ => 0))), (q55_14, .inl (dA 0, 100, .inl (fun _ => 0))), (q63_14, .inl (dA 0, 100, .inl (fun _ => 0))), (q72_14, .inl (dA 0, 1287, .inl (fun _ => 0)))] := hD
  refine lv_aload_n hx hb (pv_dec_spec d2_20) rfl (lv_at hl 0 rfl) ?_
  refine lv_sipush (v := 1600) hx hb (pv_dec_spec d2_21) (by decide) ?_
  refine pv_newa (atype := .byte) (kd := 2) (ty := .byte) (N' := 1600) (a0 := (1600, .inl (fun _ => 0))) hx hb (hbig (.arrayClass .byte) (pv_bigmem (by decide +kernel) rfl)) rfl rfl hK hP hD hS hA (fun _ => rfl) (by decide) (by decide) (by decide) (Nat.le_of_ble_eq_true rfl) (Nat.le_of_ble_eq_true rfl) (pv_dec_spec d2_24) (fun q24 H hP hD hS => ?_)
  have hP : va_P (dC, dI) pv_cls [(h0, .inr (1, [.int 0, .int 0, .int (-1), .ref q10, .null, .int 0, .int 0, .int 0, .int 0, .int 0, .int 0])), (q10, .inr (2, [.int 0, .int 0, .int 0, .int 0, .int 0, .ref q7_14, .ref q15_14, .ref q23_14, .ref q31_14, .ref q39_14, .ref q47_14, .ref q55_14, .ref q63_14, .ref q72_14, .int 0, .int 0])), (q7_14, .inl (dA 0, 54, .inl (fun _ => 0))), (q15_14, .inl (dA 0, 18, .inl (fun _ => 0))), (q23_14, .inl (dA 0, 10, .inl (fun _ => 0))), (q31_14, .inl (dA 0, 10, .inl (fun _ => 0))), (q39_14, .inl (dA 0, 10, .inl (fun _ => 0))), (q47_14, .inl (dA 0, 10, .inl (fun _ => 0))), (q55_14, .inl (dA 0, 100, .inl (fun _ => 0))), (q63_14, .inl (dA 0, 100, .inl (fun _ => 0))), (q72_14, .inl (dA 0, 1287, .inl (fun _ => 0))), (q24, .inl (dA 2, 1600, .inl (fun _ => 0)))] H := hP
  have hD : va_D A [(h0, .inr (1, [.int 0, .int 0, .int (-1), .ref q10, .null, .int 0, .int 0, .int 0, .int 0, .int 0, .int 0])), (q10, .inr (2, [.int 0, .int 0, .int 0, .int 0, .int 0, .ref q7_14, .ref q15_14, .ref q23_14, .ref q31_14, .ref q39_14, .ref q47_14, .ref q55_14, .ref q63_14, .ref q72_14, .int 0, .int 0])), (q7_14, .inl (dA 0, 54, .inl (fun _ => 0))), (q15_14, .inl (dA 0, 18, .inl (fun _ => 0))), (q23_14, .inl (dA 0, 10, .inl (fun _ => 0))), (q31_14, .inl (dA 0, 10, .inl (fun _ => 0))), (q39_14, .inl (dA 0, 10, .inl (fun _ => 0))), (q47_14, .inl (dA 0, 10, .inl (fun _ => 0))), (q55_14, .inl (dA 0, 100, .inl (fun _ => 0))), (q63_14, .inl (dA 0, 100, .inl (fun _ => 0))), (q72_14, .inl (dA 0, 1287, .inl (fun _ => 0))), (q24, .inl (dA 2, 1600, .inl (fun _ => 0)))] := hD
  refine W.widen (k := 11) (n := 3215) (Nat.le_of_ble_eq_true rfl) (Nat.le_of_ble_eq_true rfl) ?_
  refine va_putF (D := (dC, dI)) (ci := 1) (v := .ref q24) (C := "AngleNet$Tape") (T := pv_T1) (N := 11) hx hb hbig (pv_cls_big (ci := 1) rfl) pv_t1 pv_k1 pv_n1 hown hK hP hD hS 0 rfl rfl 4 (by decide) (hbig (.fieldLink "AngleNet$Tape" 22 "AngleNet$Tape" "bytes" "[B") (pv_bigmem (by decide +kernel) rfl)) (fun _ h9 => h9) rfl hin rfl (pv_k1 4 (by decide)) rfl rfl (Nat.le_of_ble_eq_true rfl) (pv_dec_spec d2_26) (fun H locs hP hD hS => ?_)
  have hP : va_P (dC, dI) pv_cls [(h0, .inr (1, [.int 0, .int 0, .int (-1), .ref q10, .ref q24, .int 0, .int 0, .int 0, .int 0, .int 0, .int 0])), (q10, .inr (2, [.int 0, .int 0, .int 0, .int 0, .int 0, .ref q7_14, .ref q15_14, .ref q23_14, .ref q31_14, .ref q39_14, .ref q47_14, .ref q55_14, .ref q63_14, .ref q72_14, .int 0, .int 0])), (q7_14, .inl (dA 0, 54, .inl (fun _ => 0))), (q15_14, .inl (dA 0, 18, .inl (fun _ => 0))), (q23_14, .inl (dA 0, 10, .inl (fun _ => 0))), (q31_14, .inl (dA 0, 10, .inl (fun _ => 0))), (q39_14, .inl (dA 0, 10, .inl (fun _ => 0))), (q47_14, .inl (dA 0, 10, .inl (fun _ => 0))), (q55_14, .inl (dA 0, 100, .inl (fun _ => 0))), (q63_14, .inl (dA 0, 100, .inl (fun _ => 0))), (q72_14, .inl (dA 0, 1287, .inl (fun _ => 0))), (q24, .inl (dA 2, 1600, .inl (fun _ => 0)))] H := hP
  have hD : va_D A [(h0, .inr (1, [.int 0, .int 0, .int (-1), .ref q10, .ref q24, .int 0, .int 0, .int 0, .int 0, .int 0, .int 0])), (q10, .inr (2, [.int 0, .int 0, .int 0, .int 0, .int 0, .ref q7_14, .ref q15_14, .ref q23_14, .ref q31_14, .ref q39_14, .ref q47_14, .ref q55_14, .ref q63_14, .ref q72_14, .int 0, .int 0])), (q7_14, .inl (dA 0, 54, .inl (fun _ => 0))), (q15_14, .inl (dA 0, 18, .inl (fun _ => 0))), (q23_14, .inl (dA 0, 10, .inl (fun _ => 0))), (q31_14, .inl (dA 0, 10, .inl (fun _ => 0))), (q39_14, .inl (dA 0, 10, .inl (fun _ => 0))), (q47_14, .inl (dA 0, 10, .inl (fun _ => 0))), (q55_14, .inl (dA 0, 100, .inl (fun _ => 0))), (q63_14, .inl (dA 0, 100, .inl (fun _ => 0))), (q72_14, .inl (dA 0, 1287, .inl (fun _ => 0))), (q24, .inl (dA 2, 1600, .inl (fun _ => 0)))] := hD
  exact W.vret hx hb (hr.trans tt2) (fun t ht hW => ⟨⟨(), rfl, trivial, q10, q7_14, q15_14, q23_14, q31_14, q39_14, q47_14, q55_14, q63_14, q72_14, q24, by rw [ht]; exact hP, va_K.moved hW.alike hK, hD⟩, hS.F ht⟩) hS.2.2 (pv_dec_spec d2_29)
