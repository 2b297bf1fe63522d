/-! CONSTRUCTORS: descriptions of worlds by places, rows for new arrays -/
abbrev pv_dE : Type := (Nat × Nat × List (Nat × Value)) ⊕ (Nat × List Value)
def pv_rv (ad : Nat → Nat) (v : Value) : Value := match v with
  | .ref p => .ref (ad p)
  | v => v
def pv_oi : List (Nat × Value) → Nat → Int32
  | [] => fun _ => 0
  | q :: r => upd (pv_oi r) q.1 (match q.2 with
    | .int x => x
    | _ => 0)
def pv_or (ad : Nat → Nat) : List (Nat × Value) → Nat → Option Nat
  | [] => fun _ => none
  | q :: r => va_up (pv_or ad r) q.1 (match q.2 with
    | .ref p => some (ad p)
    | _ => none)
def pv_ra (ad : Nat → Nat) (kd n : Nat) (ov : List (Nat × Value)) : vp_A := match kd with
  | 1 => (n, .inr (.inl (fun _ => 0)))
  | 4 => (n, .inr (.inr (.inr (.inr (pv_or ad ov)))))
  | 5 => (n, .inr (.inr (.inr (.inr (pv_or ad ov)))))
  | _ => (n, .inl (pv_oi ov))
def pv_rE (ad : Nat → Nat) (e : pv_dE) : pv_E := match e with
  | .inl x => .inl (x.1, pv_ra ad x.1 x.2.1 x.2.2)
  | .inr o => .inr (o.1, o.2.map (pv_rv ad))
def pv_rz (dA : Nat → ClassId) (ad : Nat → Nat) : Nat → List pv_dE → va_W
  | _, [] => []
  | i, e :: r => (ad i, pv_c dA (pv_rE ad e)) :: pv_rz dA ad (i + 1) r
theorem pv_RA_fc {U : State} {cA : ClassId} {ty : FieldType} (h : va_RA U cA ty) : U.vm.findClass ("[" ++ ty.toString) = some cA := by
  cases ty with
  | object C =>
    obtain ⟨kA, comp, h1, h2, h3, h4⟩ := h
    exact h4
  | _ => exact h
section CT
variable {p : Program} {l : Launch} {e : Env} {R : Room} {s : State} {m : MethodId} {args : Array Value} {below : List Frame} {meth : Method} {c : Code} {H H0 : Heap} {locs : List Loc} {cells slots : Nat} {Q : State → Prop} {cc : ByteArray} {pc : Nat} {ls : Array Slot} {rest : List Value} {D : va_G} {cl : List vw_C} {ws : va_W} {A : Nat → Prop} {dA : Nat → ClassId}
theorem pv_sameA {tys : List (ClassId × FieldType)} {kd : Nat} {cA cB : ClassId} {ty : FieldType} (hK : va_K D cl tys s) (hkd : tys[kd]? = some (cB, ty)) (h2 : va_K D cl (tys ++ [(cA, ty)]) s) : cA = cB := by
  have h3 := pv_RA_fc (h2.2 tys.length (cA, ty) (by simp)).2
  have h4 := pv_RA_fc (hK.2 kd _ hkd).2
  exact Option.some.inj (h3.symm.trans h4)
theorem pv_newa (hexec : p.tables.exec = Jvm.exec) (hb : c.code = cc) {atype : ArrayType} (harr : (Cond.arrayClass (newarray.typeOf atype)).before args s = true) {ty : FieldType} (hty : newarray.typeOf atype = ty) {kd : Nat} (hkd : (pv_tys dA)[kd]? = some (dA kd, ty)) (hK : va_K D cl (pv_tys dA) s) (hP : va_P D cl ws H) (hD : va_D A ws) (hS : va_S A H0 H locs) (hA : ∀ q, H0.size ≤ q → A q)
    {n : Int32} {N' : Nat} {a0 : vp_A} (ha : ∀ cA : ClassId, vp_cell cA a0 = arrV cA N' (fun _ => defaultValue ty)) (hn : ¬ n < 0) (hN : n.toNatClampNeg = N') (hbytes : N' * componentBytes ty ≤ 536870912) (hcells : cells + 1 ≤ R.cells) (hslots : slots + N' ≤ R.slots) (hdg : decode cc pc = .ok (.newarray atype, 2))
    (kk : ∀ (q : Nat) (H1 : Heap), va_P D cl (ws ++ [(q, .inl (dA kd, a0))]) H1 → va_D A (ws ++ [(q, .inl (dA kd, a0))]) → va_S A H0 H1 locs →
      W p l e R s m args below meth c H1 locs (cells + 1) (slots + N') Q (F0 m (pc + 2) ls (.ref q :: rest))) : W p l e R s m args below meth c H locs cells slots Q (F0 m pc ls (.int n :: rest)) := by
  refine va_newa hexec hb harr hty hK hP hD hS hA ha hn hN hbytes hcells hslots hdg (fun q cA H1 hK2 hP1 hD1 hS1 => ?_)
  have := pv_sameA hK hkd hK2
  subst this
  exact kk q H1 hP1 hD1 hS1
theorem pv_newq (hexec : p.tables.exec = Jvm.exec) (hb : c.code = cc) {own C : String} {index : Nat} (hown : s.vm.findClass own = some m.cls) (hclink : (Cond.classLink own index C).before args s = true) (hover : va_AO C s) {kd : Nat} (hkd : (pv_tys dA)[kd]? = some (dA kd, .object C)) (hK : va_K D cl (pv_tys dA) s) (hP : va_P D cl ws H) (hD : va_D A ws) (hS : va_S A H0 H locs) (hA : ∀ q, H0.size ≤ q → A q)
    {n : Int32} {N' : Nat} (hn : ¬ n < 0) (hN : n.toNatClampNeg = N') (hbytes : N' * 4 ≤ 536870912) (hcells : cells + 1 ≤ R.cells) (hslots : slots + N' ≤ R.slots) (hdg : decode cc pc = .ok (.anewarray index, 3))
    (kk : ∀ (q : Nat) (H1 : Heap), va_P D cl (ws ++ [(q, .inl (dA kd, N', .inr (.inr (.inr (.inr (fun _ => none))))))]) H1 → va_D A (ws ++ [(q, .inl (dA kd, N', .inr (.inr (.inr (.inr (fun _ => none))))))]) → va_S A H0 H1 locs →
      W p l e R s m args below meth c H1 locs (cells + 1) (slots + N') Q (F0 m (pc + 3) ls (.ref q :: rest))) : W p l e R s m args below meth c H locs cells slots Q (F0 m pc ls (.int n :: rest)) := by
  refine va_newq hexec hb hown hclink hover hK hP hD hS hA hn hN hbytes hcells hslots hdg (fun q cA H1 hK2 hP1 hD1 hS1 => ?_)
  have := pv_sameA hK hkd hK2
  subst this
  exact kk q H1 hP1 hD1 hS1
end CT
theorem kt_blind {dC : Nat → ClassId} {dI : Nat → Nat → Nat} {dA : Nat → ClassId} {as : List Value} {sz : Nat} {ws : va_W} : FrameBlind (va_Pc as (fun U => U.heap.size = sz ∧ va_P (dC, dI) pv_cls ws U.heap ∧ va_K (dC, dI) pv_cls (pv_tys dA) U ∧ va_D (fun _ => True) ws)) := fun a U g mk q => by
  obtain ⟨q0, q1, qP, qK, qD⟩ := q
  exact ⟨q0, q1, qP, va_K.moved (u := U) (U := U.calling g mk a) (Vm.Alike.refl U.vm) qK, qD⟩
theorem o3 : pv_own 3 = "AngleNet$Net" := by decide +kernel
theorem b3 : pv_bc 3 = prog_7_method_1_code := pv_bcof (i := 3) rfl
theorem m3 : pv_mL 3 = 1 := by decide +kernel
theorem tt3 : pv_rt 3 = none := by decide +kernel
theorem d3_0 : pv_dec 3 0 = some (.aload_n 0, 1) := pv_dec_of b3 (by decide +kernel)
theorem d3_1 : pv_dec 3 1 = some (.invokespecial 3, 3) := pv_dec_of b3 (by decide +kernel)
theorem d3_4 : pv_dec 3 4 = some (.aload_n 0, 1) := pv_dec_of b3 (by decide +kernel)
theorem d3_5 : pv_dec 3 5 = some (.bipush 54, 2) := pv_dec_of b3 (by decide +kernel)
theorem d3_7 : pv_dec 3 7 = some (.newarray .int, 2) := pv_dec_of b3 (by decide +kernel)
theorem d3_9 : pv_dec 3 9 = some (.putfield 9, 3) := pv_dec_of b3 (by decide +kernel)
theorem d3_12 : pv_dec 3 12 = some (.aload_n 0, 1) := pv_dec_of b3 (by decide +kernel)
theorem d3_13 : pv_dec 3 13 = some (.bipush 18, 2) := pv_dec_of b3 (by decide +kernel)
theorem d3_15 : pv_dec 3 15 = some (.newarray .int, 2) := pv_dec_of b3 (by decide +kernel)
theorem d3_17 : pv_dec 3 17 = some (.putfield 15, 3) := pv_dec_of b3 (by decide +kernel)
theorem d3_20 : pv_dec 3 20 = some (.aload_n 0, 1) := pv_dec_of b3 (by decide +kernel)
theorem d3_21 : pv_dec 3 21 = some (.bipush 10, 2) := pv_dec_of b3 (by decide +kernel)
theorem d3_23 : pv_dec 3 23 = some (.newarray .int, 2) := pv_dec_of b3 (by decide +kernel)
theorem d3_25 : pv_dec 3 25 = some (.putfield 18, 3) := pv_dec_of b3 (by decide +kernel)
theorem d3_28 : pv_dec 3 28 = some (.aload_n 0, 1) := pv_dec_of b3 (by decide +kernel)
theorem d3_29 : pv_dec 3 29 = some (.bipush 10, 2) := pv_dec_of b3 (by decide +kernel)
theorem d3_31 : pv_dec 3 31 = some (.newarray .int, 2) := pv_dec_of b3 (by decide +kernel)
theorem d3_33 : pv_dec 3 33 = some (.putfield 21, 3) := pv_dec_of b3 (by decide +kernel)
theorem d3_36 : pv_dec 3 36 = some (.aload_n 0, 1) := pv_dec_of b3 (by decide +kernel)
theorem d3_37 : pv_dec 3 37 = some (.bipush 10, 2) := pv_dec_of b3 (by decide +kernel)
theorem d3_39 : pv_dec 3 39 = some (.newarray .int, 2) := pv_dec_of b3 (by decide +kernel)
theorem d3_41 : pv_dec 3 41 = some (.putfield 24, 3) := pv_dec_of b3 (by decide +kernel)
theorem d3_44 : pv_dec 3 44 = some (.aload_n 0, 1) := pv_dec_of b3 (by decide +kernel)
theorem d3_45 : pv_dec 3 45 = some (.bipush 10, 2) := pv_dec_of b3 (by decide +kernel)
theorem d3_47 : pv_dec 3 47 = some (.newarray .int, 2) := pv_dec_of b3 (by decide +kernel)
theorem d3_49 : pv_dec 3 49 = some (.putfield 27, 3) := pv_dec_of b3 (by decide +kernel)
theorem d3_52 : pv_dec 3 52 = some (.aload_n 0, 1) := pv_dec_of b3 (by decide +kernel)
theorem d3_53 : pv_dec 3 53 = some (.bipush 100, 2) := pv_dec_of b3 (by decide +kernel)
theorem d3_55 : pv_dec 3 55 = some (.newarray .int, 2) := pv_dec_of b3 (by decide +kernel)
theorem d3_57 : pv_dec 3 57 = some (.putfield 30, 3) := pv_dec_of b3 (by decide +kernel)
theorem d3_60 : pv_dec 3 60 = some (.aload_n 0, 1) := pv_dec_of b3 (by decide +kernel)
theorem d3_61 : pv_dec 3 61 = some (.bipush 100, 2) := pv_dec_of b3 (by decide +kernel)
theorem d3_63 : pv_dec 3 63 = some (.newarray .int, 2) := pv_dec_of b3 (by decide +kernel)
theorem d3_65 : pv_dec 3 65 = some (.putfield 33, 3) := pv_dec_of b3 (by decide +kernel)
theorem d3_68 : pv_dec 3 68 = some (.aload_n 0, 1) := pv_dec_of b3 (by decide +kernel)
theorem d3_69 : pv_dec 3 69 = some (.sipush 1287, 3) := pv_dec_of b3 (by decide +kernel)
theorem d3_72 : pv_dec 3 72 = some (.newarray .int, 2) := pv_dec_of b3 (by decide +kernel)
theorem d3_74 : pv_dec 3 74 = some (.putfield 38, 3) := pv_dec_of b3 (by decide +kernel)
theorem d3_77 : pv_dec 3 77 = some (.return_, 1) := pv_dec_of b3 (by decide +kernel)
theorem o4 : pv_own 4 = "AngleNet$Row" := by decide +kernel
theorem b4 : pv_bc 4 = prog_9_method_1_code := pv_bcof (i := 4) rfl
theorem m4 : pv_mL 4 = 1 := by decide +kernel
theorem tt4 : pv_rt 4 = none := by decide +kernel
theorem d4_0 : pv_dec 4 0 = some (.aload_n 0, 1) := pv_dec_of b4 (by decide +kernel)
theorem d4_1 : pv_dec 4 1 = some (.invokespecial 3, 3) := pv_dec_of b4 (by decide +kernel)
theorem d4_4 : pv_dec 4 4 = some (.aload_n 0, 1) := pv_dec_of b4 (by decide +kernel)
theorem d4_5 : pv_dec 4 5 = some (.bipush 60, 2) := pv_dec_of b4 (by decide +kernel)
theorem d4_7 : pv_dec 4 7 = some (.newarray .long, 2) := pv_dec_of b4 (by decide +kernel)
theorem d4_9 : pv_dec 4 9 = some (.putfield 9, 3) := pv_dec_of b4 (by decide +kernel)
theorem d4_12 : pv_dec 4 12 = some (.return_, 1) := pv_dec_of b4 (by decide +kernel)
theorem o5 : pv_own 5 = "AngleNet$Shape" := by decide +kernel
theorem b5 : pv_bc 5 = prog_10_method_1_code := pv_bcof (i := 5) rfl
theorem m5 : pv_mL 5 = 1 := by decide +kernel
theorem tt5 : pv_rt 5 = none := by decide +kernel
theorem d5_0 : pv_dec 5 0 = some (.aload_n 0, 1) := pv_dec_of b5 (by decide +kernel)
theorem d5_1 : pv_dec 5 1 = some (.invokespecial 3, 3) := pv_dec_of b5 (by decide +kernel)
theorem d5_4 : pv_dec 5 4 = some (.aload_n 0, 1) := pv_dec_of b5 (by decide +kernel)
theorem d5_5 : pv_dec 5 5 = some (.bipush 18, 2) := pv_dec_of b5 (by decide +kernel)
theorem d5_7 : pv_dec 5 7 = some (.newarray .int, 2) := pv_dec_of b5 (by decide +kernel)
theorem d5_9 : pv_dec 5 9 = some (.putfield 9, 3) := pv_dec_of b5 (by decide +kernel)
theorem d5_12 : pv_dec 5 12 = some (.aload_n 0, 1) := pv_dec_of b5 (by decide +kernel)
theorem d5_13 : pv_dec 5 13 = some (.bipush 18, 2) := pv_dec_of b5 (by decide +kernel)
theorem d5_15 : pv_dec 5 15 = some (.newarray .int, 2) := pv_dec_of b5 (by decide +kernel)
theorem d5_17 : pv_dec 5 17 = some (.putfield 15, 3) := pv_dec_of b5 (by decide +kernel)
theorem d5_20 : pv_dec 5 20 = some (.return_, 1) := pv_dec_of b5 (by decide +kernel)
theorem o6 : pv_own 6 = "AngleNet$Laying" := by decide +kernel
theorem b6 : pv_bc 6 = prog_6_method_1_code := pv_bcof (i := 6) rfl
theorem m6 : pv_mL 6 = 1 := by decide +kernel
theorem tt6 : pv_rt 6 = none := by decide +kernel
theorem d6_0 : pv_dec 6 0 = some (.aload_n 0, 1) := pv_dec_of b6 (by decide +kernel)
theorem d6_1 : pv_dec 6 1 = some (.invokespecial 3, 3) := pv_dec_of b6 (by decide +kernel)
theorem d6_4 : pv_dec 6 4 = some (.aload_n 0, 1) := pv_dec_of b6 (by decide +kernel)
theorem d6_5 : pv_dec 6 5 = some (.bipush 10, 2) := pv_dec_of b6 (by decide +kernel)
theorem d6_7 : pv_dec 6 7 = some (.newarray .int, 2) := pv_dec_of b6 (by decide +kernel)
theorem d6_9 : pv_dec 6 9 = some (.putfield 9, 3) := pv_dec_of b6 (by decide +kernel)
theorem d6_12 : pv_dec 6 12 = some (.aload_n 0, 1) := pv_dec_of b6 (by decide +kernel)
theorem d6_13 : pv_dec 6 13 = some (.bipush 18, 2) := pv_dec_of b6 (by decide +kernel)
theorem d6_15 : pv_dec 6 15 = some (.newarray .int, 2) := pv_dec_of b6 (by decide +kernel)
theorem d6_17 : pv_dec 6 17 = some (.putfield 15, 3) := pv_dec_of b6 (by decide +kernel)
theorem d6_20 : pv_dec 6 20 = some (.aload_n 0, 1) := pv_dec_of b6 (by decide +kernel)
theorem d6_21 : pv_dec 6 21 = some (.bipush 18, 2) := pv_dec_of b6 (by decide +kernel)
theorem d6_23 : pv_dec 6 23 = some (.newarray .int, 2) := pv_dec_of b6 (by decide +kernel)
theorem d6_25 : pv_dec 6 25 = some (.putfield 18, 3) := pv_dec_of b6 (by decide +kernel)
theorem d6_28 : pv_dec 6 28 = some (.return_, 1) := pv_dec_of b6 (by decide +kernel)
theorem o7 : pv_own 7 = "AngleNet$Currents" := by decide +kernel
theorem b7 : pv_bc 7 = prog_4_method_1_code := pv_bcof (i := 7) rfl
theorem m7 : pv_mL 7 = 1 := by decide +kernel
theorem tt7 : pv_rt 7 = none := by decide +kernel
theorem d7_0 : pv_dec 7 0 = some (.aload_n 0, 1) := pv_dec_of b7 (by decide +kernel)
theorem d7_1 : pv_dec 7 1 = some (.invokespecial 3, 3) := pv_dec_of b7 (by decide +kernel)
theorem d7_4 : pv_dec 7 4 = some (.aload_n 0, 1) := pv_dec_of b7 (by decide +kernel)
theorem d7_5 : pv_dec 7 5 = some (.bipush 10, 2) := pv_dec_of b7 (by decide +kernel)
theorem d7_7 : pv_dec 7 7 = some (.newarray .long, 2) := pv_dec_of b7 (by decide +kernel)
theorem d7_9 : pv_dec 7 9 = some (.putfield 9, 3) := pv_dec_of b7 (by decide +kernel)
theorem d7_12 : pv_dec 7 12 = some (.aload_n 0, 1) := pv_dec_of b7 (by decide +kernel)
theorem d7_13 : pv_dec 7 13 = some (.bipush 110, 2) := pv_dec_of b7 (by decide +kernel)
theorem d7_15 : pv_dec 7 15 = some (.newarray .long, 2) := pv_dec_of b7 (by decide +kernel)
theorem d7_17 : pv_dec 7 17 = some (.putfield 15, 3) := pv_dec_of b7 (by decide +kernel)
theorem d7_20 : pv_dec 7 20 = some (.aload_n 0, 1) := pv_dec_of b7 (by decide +kernel)
theorem d7_21 : pv_dec 7 21 = some (.bipush 10, 2) := pv_dec_of b7 (by decide +kernel)
theorem d7_23 : pv_dec 7 23 = some (.newarray .int, 2) := pv_dec_of b7 (by decide +kernel)
theorem d7_25 : pv_dec 7 25 = some (.putfield 18, 3) := pv_dec_of b7 (by decide +kernel)
theorem d7_28 : pv_dec 7 28 = some (.return_, 1) := pv_dec_of b7 (by decide +kernel)
theorem o2 : pv_own 2 = "AngleNet$Tape" := by decide +kernel
theorem b2 : pv_bc 2 = prog_11_method_1_code := pv_bcof (i := 2) rfl
theorem m2 : pv_mL 2 = 1 := by decide +kernel
theorem tt2 : pv_rt 2 = none := by decide +kernel
theorem d2_0 : pv_dec 2 0 = some (.aload_n 0, 1) := pv_dec_of b2 (by decide +kernel)
theorem d2_1 : pv_dec 2 1 = some (.invokespecial 3, 3) := pv_dec_of b2 (by decide +kernel)
theorem d2_4 : pv_dec 2 4 = some (.aload_n 0, 1) := pv_dec_of b2 (by decide +kernel)
theorem d2_5 : pv_dec 2 5 = some (.iconst (-1), 1) := pv_dec_of b2 (by decide +kernel)
theorem d2_6 : pv_dec 2 6 = some (.putfield 9, 3) := pv_dec_of b2 (by decide +kernel)
theorem d2_9 : pv_dec 2 9 = some (.aload_n 0, 1) := pv_dec_of b2 (by decide +kernel)
theorem d2_10 : pv_dec 2 10 = some (.new 15, 3) := pv_dec_of b2 (by decide +kernel)
theorem d2_13 : pv_dec 2 13 = some (.dup, 1) := pv_dec_of b2 (by decide +kernel)
theorem d2_14 : pv_dec 2 14 = some (.invokespecial 17, 3) := pv_dec_of b2 (by decide +kernel)
theorem d2_17 : pv_dec 2 17 = some (.putfield 18, 3) := pv_dec_of b2 (by decide +kernel)
theorem d2_20 : pv_dec 2 20 = some (.aload_n 0, 1) := pv_dec_of b2 (by decide +kernel)
theorem d2_21 : pv_dec 2 21 = some (.sipush 1600, 3) := pv_dec_of b2 (by decide +kernel)
theorem d2_24 : pv_dec 2 24 = some (.newarray .byte, 2) := pv_dec_of b2 (by decide +kernel)
theorem d2_26 : pv_dec 2 26 = some (.putfield 22, 3) := pv_dec_of b2 (by decide +kernel)
theorem d2_29 : pv_dec 2 29 = some (.return_, 1) := pv_dec_of b2 (by decide +kernel)
theorem o0 : pv_own 0 = "AngleNet" := by decide +kernel
theorem b0 : pv_bc 0 = prog_1_method_1_code := pv_bcof (i := 0) rfl
theorem m0 : pv_mL 0 = 2 := by decide +kernel
theorem tt0 : pv_rt 0 = none := by decide +kernel
theorem d0_0 : pv_dec 0 0 = some (.aload_n 0, 1) := pv_dec_of b0 (by decide +kernel)
theorem d0_1 : pv_dec 0 1 = some (.invokespecial 1, 3) := pv_dec_of b0 (by decide +kernel)
theorem d0_4 : pv_dec 0 4 = some (.aload_n 0, 1) := pv_dec_of b0 (by decide +kernel)
theorem d0_5 : pv_dec 0 5 = some (.new 7, 3) := pv_dec_of b0 (by decide +kernel)
theorem d0_8 : pv_dec 0 8 = some (.dup, 1) := pv_dec_of b0 (by decide +kernel)
theorem d0_9 : pv_dec 0 9 = some (.invokespecial 9, 3) := pv_dec_of b0 (by decide +kernel)
theorem d0_12 : pv_dec 0 12 = some (.putfield 10, 3) := pv_dec_of b0 (by decide +kernel)
theorem d0_15 : pv_dec 0 15 = some (.aload_n 0, 1) := pv_dec_of b0 (by decide +kernel)
theorem d0_16 : pv_dec 0 16 = some (.new 16, 3) := pv_dec_of b0 (by decide +kernel)
theorem d0_19 : pv_dec 0 19 = some (.dup, 1) := pv_dec_of b0 (by decide +kernel)
theorem d0_20 : pv_dec 0 20 = some (.invokespecial 18, 3) := pv_dec_of b0 (by decide +kernel)
theorem d0_23 : pv_dec 0 23 = some (.putfield 19, 3) := pv_dec_of b0 (by decide +kernel)
theorem d0_26 : pv_dec 0 26 = some (.aload_n 0, 1) := pv_dec_of b0 (by decide +kernel)
theorem d0_27 : pv_dec 0 27 = some (.new 16, 3) := pv_dec_of b0 (by decide +kernel)
theorem d0_30 : pv_dec 0 30 = some (.dup, 1) := pv_dec_of b0 (by decide +kernel)
theorem d0_31 : pv_dec 0 31 = some (.invokespecial 18, 3) := pv_dec_of b0 (by decide +kernel)
theorem d0_34 : pv_dec 0 34 = some (.putfield 23, 3) := pv_dec_of b0 (by decide +kernel)
theorem d0_37 : pv_dec 0 37 = some (.aload_n 0, 1) := pv_dec_of b0 (by decide +kernel)
theorem d0_38 : pv_dec 0 38 = some (.iconst 3, 1) := pv_dec_of b0 (by decide +kernel)
theorem d0_39 : pv_dec 0 39 = some (.anewarray 16, 3) := pv_dec_of b0 (by decide +kernel)
theorem d0_42 : pv_dec 0 42 = some (.putfield 26, 3) := pv_dec_of b0 (by decide +kernel)
theorem d0_45 : pv_dec 0 45 = some (.aload_n 0, 1) := pv_dec_of b0 (by decide +kernel)
theorem d0_46 : pv_dec 0 46 = some (.iconst 3, 1) := pv_dec_of b0 (by decide +kernel)
theorem d0_47 : pv_dec 0 47 = some (.newarray .boolean, 2) := pv_dec_of b0 (by decide +kernel)
theorem d0_49 : pv_dec 0 49 = some (.putfield 30, 3) := pv_dec_of b0 (by decide +kernel)
theorem d0_52 : pv_dec 0 52 = some (.iconst 0, 1) := pv_dec_of b0 (by decide +kernel)
theorem d0_53 : pv_dec 0 53 = some (.istore_n 1, 1) := pv_dec_of b0 (by decide +kernel)
theorem d0_54 : pv_dec 0 54 = some (.iload_n 1, 1) := pv_dec_of b0 (by decide +kernel)
theorem d0_55 : pv_dec 0 55 = some (.iconst 3, 1) := pv_dec_of b0 (by decide +kernel)
theorem d0_56 : pv_dec 0 56 = some (.if_icmp .ge 22, 3) := pv_dec_of b0 (by decide +kernel)
theorem d0_59 : pv_dec 0 59 = some (.aload_n 0, 1) := pv_dec_of b0 (by decide +kernel)
theorem d0_60 : pv_dec 0 60 = some (.getfield 26, 3) := pv_dec_of b0 (by decide +kernel)
theorem d0_63 : pv_dec 0 63 = some (.iload_n 1, 1) := pv_dec_of b0 (by decide +kernel)
theorem d0_64 : pv_dec 0 64 = some (.new 16, 3) := pv_dec_of b0 (by decide +kernel)
theorem d0_67 : pv_dec 0 67 = some (.dup, 1) := pv_dec_of b0 (by decide +kernel)
theorem d0_68 : pv_dec 0 68 = some (.invokespecial 18, 3) := pv_dec_of b0 (by decide +kernel)
theorem d0_71 : pv_dec 0 71 = some (.aastore, 1) := pv_dec_of b0 (by decide +kernel)
theorem d0_72 : pv_dec 0 72 = some (.iinc 1 1, 3) := pv_dec_of b0 (by decide +kernel)
theorem d0_75 : pv_dec 0 75 = some (.goto (-21), 3) := pv_dec_of b0 (by decide +kernel)
theorem d0_78 : pv_dec 0 78 = some (.aload_n 0, 1) := pv_dec_of b0 (by decide +kernel)
theorem d0_79 : pv_dec 0 79 = some (.iconst 4, 1) := pv_dec_of b0 (by decide +kernel)
theorem d0_80 : pv_dec 0 80 = some (.anewarray 34, 3) := pv_dec_of b0 (by decide +kernel)
theorem d0_83 : pv_dec 0 83 = some (.putfield 36, 3) := pv_dec_of b0 (by decide +kernel)
theorem d0_86 : pv_dec 0 86 = some (.iconst 0, 1) := pv_dec_of b0 (by decide +kernel)
theorem d0_87 : pv_dec 0 87 = some (.istore_n 1, 1) := pv_dec_of b0 (by decide +kernel)
theorem d0_88 : pv_dec 0 88 = some (.iload_n 1, 1) := pv_dec_of b0 (by decide +kernel)
theorem d0_89 : pv_dec 0 89 = some (.iconst 4, 1) := pv_dec_of b0 (by decide +kernel)
theorem d0_90 : pv_dec 0 90 = some (.if_icmp .ge 22, 3) := pv_dec_of b0 (by decide +kernel)
theorem d0_93 : pv_dec 0 93 = some (.aload_n 0, 1) := pv_dec_of b0 (by decide +kernel)
theorem d0_94 : pv_dec 0 94 = some (.getfield 36, 3) := pv_dec_of b0 (by decide +kernel)
theorem d0_97 : pv_dec 0 97 = some (.iload_n 1, 1) := pv_dec_of b0 (by decide +kernel)
theorem d0_98 : pv_dec 0 98 = some (.new 34, 3) := pv_dec_of b0 (by decide +kernel)
theorem d0_101 : pv_dec 0 101 = some (.dup, 1) := pv_dec_of b0 (by decide +kernel)
theorem d0_102 : pv_dec 0 102 = some (.invokespecial 40, 3) := pv_dec_of b0 (by decide +kernel)
theorem d0_105 : pv_dec 0 105 = some (.aastore, 1) := pv_dec_of b0 (by decide +kernel)
theorem d0_106 : pv_dec 0 106 = some (.iinc 1 1, 3) := pv_dec_of b0 (by decide +kernel)
theorem d0_109 : pv_dec 0 109 = some (.goto (-21), 3) := pv_dec_of b0 (by decide +kernel)
theorem d0_112 : pv_dec 0 112 = some (.aload_n 0, 1) := pv_dec_of b0 (by decide +kernel)
theorem d0_113 : pv_dec 0 113 = some (.new 41, 3) := pv_dec_of b0 (by decide +kernel)
theorem d0_116 : pv_dec 0 116 = some (.dup, 1) := pv_dec_of b0 (by decide +kernel)
theorem d0_117 : pv_dec 0 117 = some (.invokespecial 43, 3) := pv_dec_of b0 (by decide +kernel)
theorem d0_120 : pv_dec 0 120 = some (.putfield 44, 3) := pv_dec_of b0 (by decide +kernel)
theorem d0_123 : pv_dec 0 123 = some (.aload_n 0, 1) := pv_dec_of b0 (by decide +kernel)
theorem d0_124 : pv_dec 0 124 = some (.new 48, 3) := pv_dec_of b0 (by decide +kernel)
theorem d0_127 : pv_dec 0 127 = some (.dup, 1) := pv_dec_of b0 (by decide +kernel)
theorem d0_128 : pv_dec 0 128 = some (.invokespecial 50, 3) := pv_dec_of b0 (by decide +kernel)
theorem d0_131 : pv_dec 0 131 = some (.putfield 51, 3) := pv_dec_of b0 (by decide +kernel)
theorem d0_134 : pv_dec 0 134 = some (.aload_n 0, 1) := pv_dec_of b0 (by decide +kernel)
theorem d0_135 : pv_dec 0 135 = some (.new 55, 3) := pv_dec_of b0 (by decide +kernel)
theorem d0_138 : pv_dec 0 138 = some (.dup, 1) := pv_dec_of b0 (by decide +kernel)
theorem d0_139 : pv_dec 0 139 = some (.invokespecial 57, 3) := pv_dec_of b0 (by decide +kernel)
theorem d0_142 : pv_dec 0 142 = some (.putfield 58, 3) := pv_dec_of b0 (by decide +kernel)
theorem d0_145 : pv_dec 0 145 = some (.return_, 1) := pv_dec_of b0 (by decide +kernel)
theorem o182 : pv_own 182 = "AngleNetModel" := by decide +kernel
theorem b182 : pv_bc 182 = prog_13_method_1_code := pv_bcof (i := 182) rfl
theorem m182 : pv_mL 182 = 1 := by decide +kernel
theorem tt182 : pv_rt 182 = none := by decide +kernel
theorem d182_0 : pv_dec 182 0 = some (.aload_n 0, 1) := pv_dec_of b182 (by decide +kernel)
theorem d182_1 : pv_dec 182 1 = some (.invokespecial 3, 3) := pv_dec_of b182 (by decide +kernel)
theorem d182_4 : pv_dec 182 4 = some (.aload_n 0, 1) := pv_dec_of b182 (by decide +kernel)
theorem d182_5 : pv_dec 182 5 = some (.sipush 1507, 3) := pv_dec_of b182 (by decide +kernel)
theorem d182_8 : pv_dec 182 8 = some (.newarray .int, 2) := pv_dec_of b182 (by decide +kernel)
theorem d182_10 : pv_dec 182 10 = some (.putfield 9, 3) := pv_dec_of b182 (by decide +kernel)
theorem d182_13 : pv_dec 182 13 = some (.aload_n 0, 1) := pv_dec_of b182 (by decide +kernel)
theorem d182_14 : pv_dec 182 14 = some (.sipush 4521, 3) := pv_dec_of b182 (by decide +kernel)
theorem d182_17 : pv_dec 182 17 = some (.newarray .int, 2) := pv_dec_of b182 (by decide +kernel)
theorem d182_19 : pv_dec 182 19 = some (.putfield 13, 3) := pv_dec_of b182 (by decide +kernel)
theorem d182_22 : pv_dec 182 22 = some (.aload_n 0, 1) := pv_dec_of b182 (by decide +kernel)
theorem d182_23 : pv_dec 182 23 = some (.iconst 3, 1) := pv_dec_of b182 (by decide +kernel)
theorem d182_24 : pv_dec 182 24 = some (.newarray .boolean, 2) := pv_dec_of b182 (by decide +kernel)
theorem d182_26 : pv_dec 182 26 = some (.putfield 16, 3) := pv_dec_of b182 (by decide +kernel)
theorem d182_29 : pv_dec 182 29 = some (.aload_n 0, 1) := pv_dec_of b182 (by decide +kernel)
theorem d182_30 : pv_dec 182 30 = some (.sipush 1600, 3) := pv_dec_of b182 (by decide +kernel)
theorem d182_33 : pv_dec 182 33 = some (.newarray .byte, 2) := pv_dec_of b182 (by decide +kernel)
theorem d182_35 : pv_dec 182 35 = some (.putfield 20, 3) := pv_dec_of b182 (by decide +kernel)
theorem d182_38 : pv_dec 182 38 = some (.aload_n 0, 1) := pv_dec_of b182 (by decide +kernel)
theorem d182_39 : pv_dec 182 39 = some (.iconst 5, 1) := pv_dec_of b182 (by decide +kernel)
theorem d182_40 : pv_dec 182 40 = some (.newarray .int, 2) := pv_dec_of b182 (by decide +kernel)
theorem d182_42 : pv_dec 182 42 = some (.putfield 24, 3) := pv_dec_of b182 (by decide +kernel)
theorem d182_45 : pv_dec 182 45 = some (.aload_n 0, 1) := pv_dec_of b182 (by decide +kernel)
theorem d182_46 : pv_dec 182 46 = some (.iconst (-1), 1) := pv_dec_of b182 (by decide +kernel)
theorem d182_47 : pv_dec 182 47 = some (.putfield 27, 3) := pv_dec_of b182 (by decide +kernel)
theorem d182_50 : pv_dec 182 50 = some (.aload_n 0, 1) := pv_dec_of b182 (by decide +kernel)
theorem d182_51 : pv_dec 182 51 = some (.sipush 1507, 3) := pv_dec_of b182 (by decide +kernel)
theorem d182_54 : pv_dec 182 54 = some (.newarray .int, 2) := pv_dec_of b182 (by decide +kernel)
theorem d182_56 : pv_dec 182 56 = some (.putfield 31, 3) := pv_dec_of b182 (by decide +kernel)
theorem d182_59 : pv_dec 182 59 = some (.aload_n 0, 1) := pv_dec_of b182 (by decide +kernel)
theorem d182_60 : pv_dec 182 60 = some (.bipush 18, 2) := pv_dec_of b182 (by decide +kernel)
theorem d182_62 : pv_dec 182 62 = some (.newarray .int, 2) := pv_dec_of b182 (by decide +kernel)
theorem d182_64 : pv_dec 182 64 = some (.putfield 34, 3) := pv_dec_of b182 (by decide +kernel)
theorem d182_67 : pv_dec 182 67 = some (.aload_n 0, 1) := pv_dec_of b182 (by decide +kernel)
theorem d182_68 : pv_dec 182 68 = some (.bipush 54, 2) := pv_dec_of b182 (by decide +kernel)
theorem d182_70 : pv_dec 182 70 = some (.newarray .int, 2) := pv_dec_of b182 (by decide +kernel)
theorem d182_72 : pv_dec 182 72 = some (.putfield 37, 3) := pv_dec_of b182 (by decide +kernel)
theorem d182_75 : pv_dec 182 75 = some (.aload_n 0, 1) := pv_dec_of b182 (by decide +kernel)
theorem d182_76 : pv_dec 182 76 = some (.bipush 54, 2) := pv_dec_of b182 (by decide +kernel)
theorem d182_78 : pv_dec 182 78 = some (.newarray .int, 2) := pv_dec_of b182 (by decide +kernel)
theorem d182_80 : pv_dec 182 80 = some (.putfield 40, 3) := pv_dec_of b182 (by decide +kernel)
theorem d182_83 : pv_dec 182 83 = some (.aload_n 0, 1) := pv_dec_of b182 (by decide +kernel)
theorem d182_84 : pv_dec 182 84 = some (.bipush 100, 2) := pv_dec_of b182 (by decide +kernel)
theorem d182_86 : pv_dec 182 86 = some (.newarray .long, 2) := pv_dec_of b182 (by decide +kernel)
theorem d182_88 : pv_dec 182 88 = some (.putfield 43, 3) := pv_dec_of b182 (by decide +kernel)
theorem d182_91 : pv_dec 182 91 = some (.aload_n 0, 1) := pv_dec_of b182 (by decide +kernel)
theorem d182_92 : pv_dec 182 92 = some (.bipush 10, 2) := pv_dec_of b182 (by decide +kernel)
theorem d182_94 : pv_dec 182 94 = some (.newarray .int, 2) := pv_dec_of b182 (by decide +kernel)
theorem d182_96 : pv_dec 182 96 = some (.putfield 47, 3) := pv_dec_of b182 (by decide +kernel)
theorem d182_99 : pv_dec 182 99 = some (.aload_n 0, 1) := pv_dec_of b182 (by decide +kernel)
theorem d182_100 : pv_dec 182 100 = some (.bipush 10, 2) := pv_dec_of b182 (by decide +kernel)
theorem d182_102 : pv_dec 182 102 = some (.newarray .long, 2) := pv_dec_of b182 (by decide +kernel)
theorem d182_104 : pv_dec 182 104 = some (.putfield 50, 3) := pv_dec_of b182 (by decide +kernel)
theorem d182_107 : pv_dec 182 107 = some (.aload_n 0, 1) := pv_dec_of b182 (by decide +kernel)
theorem d182_108 : pv_dec 182 108 = some (.sipush 1507, 3) := pv_dec_of b182 (by decide +kernel)
theorem d182_111 : pv_dec 182 111 = some (.newarray .int, 2) := pv_dec_of b182 (by decide +kernel)
theorem d182_113 : pv_dec 182 113 = some (.putfield 53, 3) := pv_dec_of b182 (by decide +kernel)
theorem d182_116 : pv_dec 182 116 = some (.aload_n 0, 1) := pv_dec_of b182 (by decide +kernel)
theorem d182_117 : pv_dec 182 117 = some (.iconst 4, 1) := pv_dec_of b182 (by decide +kernel)
theorem d182_118 : pv_dec 182 118 = some (.newarray .int, 2) := pv_dec_of b182 (by decide +kernel)
theorem d182_120 : pv_dec 182 120 = some (.dup, 1) := pv_dec_of b182 (by decide +kernel)
theorem d182_121 : pv_dec 182 121 = some (.iconst 0, 1) := pv_dec_of b182 (by decide +kernel)
theorem d182_122 : pv_dec 182 122 = some (.iconst (-1), 1) := pv_dec_of b182 (by decide +kernel)
theorem d182_123 : pv_dec 182 123 = some (.iastore, 1) := pv_dec_of b182 (by decide +kernel)
theorem d182_124 : pv_dec 182 124 = some (.dup, 1) := pv_dec_of b182 (by decide +kernel)
theorem d182_125 : pv_dec 182 125 = some (.iconst 1, 1) := pv_dec_of b182 (by decide +kernel)
theorem d182_126 : pv_dec 182 126 = some (.iconst (-1), 1) := pv_dec_of b182 (by decide +kernel)
theorem d182_127 : pv_dec 182 127 = some (.iastore, 1) := pv_dec_of b182 (by decide +kernel)
theorem d182_128 : pv_dec 182 128 = some (.dup, 1) := pv_dec_of b182 (by decide +kernel)
theorem d182_129 : pv_dec 182 129 = some (.iconst 2, 1) := pv_dec_of b182 (by decide +kernel)
theorem d182_130 : pv_dec 182 130 = some (.iconst (-1), 1) := pv_dec_of b182 (by decide +kernel)
theorem d182_131 : pv_dec 182 131 = some (.iastore, 1) := pv_dec_of b182 (by decide +kernel)
theorem d182_132 : pv_dec 182 132 = some (.dup, 1) := pv_dec_of b182 (by decide +kernel)
theorem d182_133 : pv_dec 182 133 = some (.iconst 3, 1) := pv_dec_of b182 (by decide +kernel)
theorem d182_134 : pv_dec 182 134 = some (.iconst (-1), 1) := pv_dec_of b182 (by decide +kernel)
theorem d182_135 : pv_dec 182 135 = some (.iastore, 1) := pv_dec_of b182 (by decide +kernel)
theorem d182_136 : pv_dec 182 136 = some (.putfield 56, 3) := pv_dec_of b182 (by decide +kernel)
theorem d182_139 : pv_dec 182 139 = some (.aload_n 0, 1) := pv_dec_of b182 (by decide +kernel)
theorem d182_140 : pv_dec 182 140 = some (.iconst 4, 1) := pv_dec_of b182 (by decide +kernel)
theorem d182_141 : pv_dec 182 141 = some (.newarray .int, 2) := pv_dec_of b182 (by decide +kernel)
theorem d182_143 : pv_dec 182 143 = some (.putfield 59, 3) := pv_dec_of b182 (by decide +kernel)
theorem d182_146 : pv_dec 182 146 = some (.aload_n 0, 1) := pv_dec_of b182 (by decide +kernel)
theorem d182_147 : pv_dec 182 147 = some (.sipush 240, 3) := pv_dec_of b182 (by decide +kernel)
theorem d182_150 : pv_dec 182 150 = some (.newarray .long, 2) := pv_dec_of b182 (by decide +kernel)
theorem d182_152 : pv_dec 182 152 = some (.putfield 62, 3) := pv_dec_of b182 (by decide +kernel)
theorem d182_155 : pv_dec 182 155 = some (.aload_n 0, 1) := pv_dec_of b182 (by decide +kernel)
theorem d182_156 : pv_dec 182 156 = some (.bipush 60, 2) := pv_dec_of b182 (by decide +kernel)
theorem d182_158 : pv_dec 182 158 = some (.newarray .long, 2) := pv_dec_of b182 (by decide +kernel)
theorem d182_160 : pv_dec 182 160 = some (.putfield 65, 3) := pv_dec_of b182 (by decide +kernel)
theorem d182_163 : pv_dec 182 163 = some (.return_, 1) := pv_dec_of b182 (by decide +kernel)
