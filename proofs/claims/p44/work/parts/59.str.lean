theorem B21 : pv_bc 21 = prog_16_method_54_code := pv_bcof (i := 21) rfl
theorem D21_0 : decode (pv_bc 21) 0 = .ok (.aload_n 0, 1) := by rw [B21]; decide +kernel
theorem D21_1 : decode (pv_bc 21) 1 = .ok (.getfield 9, 3) := by rw [B21]; decide +kernel
theorem D21_4 : decode (pv_bc 21) 4 = .ok (.arraylength, 1) := by rw [B21]; decide +kernel
theorem D21_5 : decode (pv_bc 21) 5 = .ok (.aload_n 0, 1) := by rw [B21]; decide +kernel
theorem D21_6 : decode (pv_bc 21) 6 = .ok (.invokevirtual 335, 3) := by rw [B21]; decide +kernel
theorem D21_9 : decode (pv_bc 21) 9 = .ok (.ishr, 1) := by rw [B21]; decide +kernel
theorem D21_10 : decode (pv_bc 21) 10 = .ok (.ireturn, 1) := by rw [B21]; decide +kernel
theorem B22 : pv_bc 22 = prog_16_method_152_code := pv_bcof (i := 22) rfl
theorem D22_0 : decode (pv_bc 22) 0 = .ok (.getstatic 38, 3) := by rw [B22]; decide +kernel
theorem D22_3 : decode (pv_bc 22) 3 = .ok (.ifCond .eq 10, 3) := by rw [B22]; decide +kernel
theorem D22_6 : decode (pv_bc 22) 6 = .ok (.aload_n 0, 1) := by rw [B22]; decide +kernel
theorem D22_7 : decode (pv_bc 22) 7 = .ok (.getfield 15, 3) := by rw [B22]; decide +kernel
theorem D22_10 : decode (pv_bc 22) 10 = .ok (.goto 4, 3) := by rw [B22]; decide +kernel
theorem D22_13 : decode (pv_bc 22) 13 = .ok (.iconst 1, 1) := by rw [B22]; decide +kernel
theorem D22_14 : decode (pv_bc 22) 14 = .ok (.ireturn, 1) := by rw [B22]; decide +kernel
theorem B23 : pv_bc 23 = prog_16_method_56_code := pv_bcof (i := 23) rfl
theorem D23_0 : decode (pv_bc 23) 0 = .ok (.aload_n 0, 1) := by rw [B23]; decide +kernel
theorem D23_1 : decode (pv_bc 23) 1 = .ok (.invokevirtual 492, 3) := by rw [B23]; decide +kernel
theorem D23_4 : decode (pv_bc 23) 4 = .ok (.ifCond .eq 12, 3) := by rw [B23]; decide +kernel
theorem D23_7 : decode (pv_bc 23) 7 = .ok (.aload_n 0, 1) := by rw [B23]; decide +kernel
theorem D23_8 : decode (pv_bc 23) 8 = .ok (.getfield 9, 3) := by rw [B23]; decide +kernel
theorem D23_11 : decode (pv_bc 23) 11 = .ok (.iload_n 1, 1) := by rw [B23]; decide +kernel
theorem D23_12 : decode (pv_bc 23) 12 = .ok (.invokestatic 495, 3) := by rw [B23]; decide +kernel
theorem D23_15 : decode (pv_bc 23) 15 = .ok (.ireturn, 1) := by rw [B23]; decide +kernel
theorem D23_16 : decode (pv_bc 23) 16 = .ok (.aload_n 0, 1) := by rw [B23]; decide +kernel
theorem D23_17 : decode (pv_bc 23) 17 = .ok (.getfield 9, 3) := by rw [B23]; decide +kernel
theorem D23_20 : decode (pv_bc 23) 20 = .ok (.iload_n 1, 1) := by rw [B23]; decide +kernel
theorem D23_21 : decode (pv_bc 23) 21 = .ok (.invokestatic 498, 3) := by rw [B23]; decide +kernel
theorem D23_24 : decode (pv_bc 23) 24 = .ok (.ireturn, 1) := by rw [B23]; decide +kernel
theorem B24 : pv_bc 24 = prog_16_method_154_code := pv_bcof (i := 24) rfl
theorem D24_0 : decode (pv_bc 24) 0 = .ok (.getstatic 38, 3) := by rw [B24]; decide +kernel
theorem D24_3 : decode (pv_bc 24) 3 = .ok (.ifCond .eq 14, 3) := by rw [B24]; decide +kernel
theorem D24_6 : decode (pv_bc 24) 6 = .ok (.aload_n 0, 1) := by rw [B24]; decide +kernel
theorem D24_7 : decode (pv_bc 24) 7 = .ok (.getfield 15, 3) := by rw [B24]; decide +kernel
theorem D24_10 : decode (pv_bc 24) 10 = .ok (.ifCond .ne 7, 3) := by rw [B24]; decide +kernel
theorem D24_13 : decode (pv_bc 24) 13 = .ok (.iconst 1, 1) := by rw [B24]; decide +kernel
theorem D24_14 : decode (pv_bc 24) 14 = .ok (.goto 4, 3) := by rw [B24]; decide +kernel
theorem D24_17 : decode (pv_bc 24) 17 = .ok (.iconst 0, 1) := by rw [B24]; decide +kernel
theorem D24_18 : decode (pv_bc 24) 18 = .ok (.ireturn, 1) := by rw [B24]; decide +kernel
theorem B25 : pv_bc 25 = prog_17_method_2_code := pv_bcof (i := 25) rfl
theorem D25_0 : decode (pv_bc 25) 0 = .ok (.iload_n 1, 1) := by rw [B25]; decide +kernel
theorem D25_1 : decode (pv_bc 25) 1 = .ok (.aload_n 0, 1) := by rw [B25]; decide +kernel
theorem D25_2 : decode (pv_bc 25) 2 = .ok (.arraylength, 1) := by rw [B25]; decide +kernel
theorem D25_3 : decode (pv_bc 25) 3 = .ok (.invokestatic 9, 3) := by rw [B25]; decide +kernel
theorem D25_6 : decode (pv_bc 25) 6 = .ok (.aload_n 0, 1) := by rw [B25]; decide +kernel
theorem D25_7 : decode (pv_bc 25) 7 = .ok (.iload_n 1, 1) := by rw [B25]; decide +kernel
theorem D25_8 : decode (pv_bc 25) 8 = .ok (.baload, 1) := by rw [B25]; decide +kernel
theorem D25_9 : decode (pv_bc 25) 9 = .ok (.sipush 255, 3) := by rw [B25]; decide +kernel
theorem D25_12 : decode (pv_bc 25) 12 = .ok (.iand, 1) := by rw [B25]; decide +kernel
theorem D25_13 : decode (pv_bc 25) 13 = .ok (.i2c, 1) := by rw [B25]; decide +kernel
theorem D25_14 : decode (pv_bc 25) 14 = .ok (.ireturn, 1) := by rw [B25]; decide +kernel
theorem B26 : pv_bc 26 = prog_16_method_155_code := pv_bcof (i := 26) rfl
theorem D26_0 : decode (pv_bc 26) 0 = .ok (.iload_n 0, 1) := by rw [B26]; decide +kernel
theorem D26_1 : decode (pv_bc 26) 1 = .ok (.iload_n 1, 1) := by rw [B26]; decide +kernel
theorem D26_2 : decode (pv_bc 26) 2 = .ok (.getstatic 1053, 3) := by rw [B26]; decide +kernel
theorem D26_5 : decode (pv_bc 26) 5 = .ok (.invokestatic 1059, 3) := by rw [B26]; decide +kernel
theorem D26_8 : decode (pv_bc 26) 8 = .ok (.pop, 1) := by rw [B26]; decide +kernel
theorem D26_9 : decode (pv_bc 26) 9 = .ok (.return_, 1) := by rw [B26]; decide +kernel
theorem B27 : pv_bc 27 = prog_21_method_11_code := pv_bcof (i := 27) rfl
theorem D27_0 : decode (pv_bc 27) 0 = .ok (.iload_n 0, 1) := by rw [B27]; decide +kernel
theorem D27_1 : decode (pv_bc 27) 1 = .ok (.ifCond .lt 8, 3) := by rw [B27]; decide +kernel
theorem D27_4 : decode (pv_bc 27) 4 = .ok (.iload_n 0, 1) := by rw [B27]; decide +kernel
theorem D27_5 : decode (pv_bc 27) 5 = .ok (.iload_n 1, 1) := by rw [B27]; decide +kernel
theorem D27_6 : decode (pv_bc 27) 6 = .ok (.if_icmp .lt 10, 3) := by rw [B27]; decide +kernel
theorem D27_9 : decode (pv_bc 27) 9 = .ok (.aload_n 2, 1) := by rw [B27]; decide +kernel
theorem D27_10 : decode (pv_bc 27) 10 = .ok (.iload_n 0, 1) := by rw [B27]; decide +kernel
theorem D27_11 : decode (pv_bc 27) 11 = .ok (.iload_n 1, 1) := by rw [B27]; decide +kernel
theorem D27_12 : decode (pv_bc 27) 12 = .ok (.invokestatic 95, 3) := by rw [B27]; decide +kernel
theorem D27_16 : decode (pv_bc 27) 16 = .ok (.iload_n 0, 1) := by rw [B27]; decide +kernel
theorem D27_17 : decode (pv_bc 27) 17 = .ok (.ireturn, 1) := by rw [B27]; decide +kernel
theorem lk21_9 : Cond.fieldLink "java/lang/String" 9 "java/lang/String" "value" "[B" ∈ lw_tbl := by decide +kernel
theorem lk22_15 : Cond.fieldLink "java/lang/String" 15 "java/lang/String" "coder" "B" ∈ lw_tbl := by decide +kernel
theorem lk22_38 : Cond.fieldLink "java/lang/String" 38 "java/lang/String" "COMPACT_STRINGS" "Z" ∈ lw_tbl := by decide +kernel
theorem lk26_1053 : Cond.fieldLink "java/lang/String" 1053 "jdk/internal/util/Preconditions" "SIOOBE_FORMATTER" "Ljava/util/function/BiFunction;" ∈ lw_tbl := by decide +kernel
theorem ml22 : Cond.methodLink "java/lang/String" 335 ⟨"java/lang/String", "coder", "()B"⟩ ∈ lw_tbl := by decide +kernel
theorem in22 : Cond.initialized "java/lang/String" ∈ lw_tbl := by decide +kernel
theorem im22 : Cond.instanceMethod ⟨"java/lang/String", "coder", "()B"⟩ ∈ lw_tbl := by decide +kernel
theorem se22 : Cond.selects "java/lang/String" ⟨"java/lang/String", "coder", "()B"⟩ ⟨"java/lang/String", "coder", "()B"⟩ ∈ lw_tbl := by decide +kernel
theorem ml24 : Cond.methodLink "java/lang/String" 492 ⟨"java/lang/String", "isLatin1", "()Z"⟩ ∈ lw_tbl := by decide +kernel
theorem in24 : Cond.initialized "java/lang/String" ∈ lw_tbl := by decide +kernel
theorem im24 : Cond.instanceMethod ⟨"java/lang/String", "isLatin1", "()Z"⟩ ∈ lw_tbl := by decide +kernel
theorem se24 : Cond.selects "java/lang/String" ⟨"java/lang/String", "isLatin1", "()Z"⟩ ⟨"java/lang/String", "isLatin1", "()Z"⟩ ∈ lw_tbl := by decide +kernel
theorem ml25 : Cond.methodLink "java/lang/String" 495 ⟨"java/lang/StringLatin1", "charAt", "([BI)C"⟩ ∈ lw_tbl := by decide +kernel
theorem in25 : Cond.initialized "java/lang/StringLatin1" ∈ lw_tbl := by decide +kernel
theorem st25 : Cond.static ⟨"java/lang/StringLatin1", "charAt", "([BI)C"⟩ ∈ lw_tbl := by decide +kernel
theorem ml26 : Cond.methodLink "java/lang/StringLatin1" 9 ⟨"java/lang/String", "checkIndex", "(II)V"⟩ ∈ lw_tbl := by decide +kernel
theorem in26 : Cond.initialized "java/lang/String" ∈ lw_tbl := by decide +kernel
theorem st26 : Cond.static ⟨"java/lang/String", "checkIndex", "(II)V"⟩ ∈ lw_tbl := by decide +kernel
theorem ml27 : Cond.methodLink "java/lang/String" 1059 ⟨"jdk/internal/util/Preconditions", "checkIndex", "(IILjava/util/function/BiFunction;)I"⟩ ∈ lw_tbl := by decide +kernel
theorem in27 : Cond.initialized "jdk/internal/util/Preconditions" ∈ lw_tbl := by decide +kernel
theorem st27 : Cond.static ⟨"jdk/internal/util/Preconditions", "checkIndex", "(IILjava/util/function/BiFunction;)I"⟩ ∈ lw_tbl := by decide +kernel
theorem W21 : 21 < pv_ms.length ∧ pv_y 21 = ⟨"java/lang/String", "length", "()I"⟩ ∧ pv_mL 21 = 1 ∧ pv_rt 21 = (some .int) := by decide +kernel
theorem W22 : 22 < pv_ms.length ∧ pv_y 22 = ⟨"java/lang/String", "coder", "()B"⟩ ∧ pv_mL 22 = 1 ∧ pv_rt 22 = (some .byte) := by decide +kernel
theorem W23 : 23 < pv_ms.length ∧ pv_y 23 = ⟨"java/lang/String", "charAt", "(I)C"⟩ ∧ pv_mL 23 = 2 ∧ pv_rt 23 = (some .char) := by decide +kernel
theorem W24 : 24 < pv_ms.length ∧ pv_y 24 = ⟨"java/lang/String", "isLatin1", "()Z"⟩ ∧ pv_mL 24 = 1 ∧ pv_rt 24 = (some .boolean) := by decide +kernel
theorem W25 : 25 < pv_ms.length ∧ pv_y 25 = ⟨"java/lang/StringLatin1", "charAt", "([BI)C"⟩ ∧ pv_mL 25 = 2 ∧ pv_rt 25 = (some .char) := by decide +kernel
theorem W26 : 26 < pv_ms.length ∧ pv_y 26 = ⟨"java/lang/String", "checkIndex", "(II)V"⟩ ∧ pv_mL 26 = 2 ∧ pv_rt 26 = none := by decide +kernel
theorem W27 : 27 < pv_ms.length ∧ pv_y 27 = ⟨"jdk/internal/util/Preconditions", "checkIndex", "(IILjava/util/function/BiFunction;)I"⟩ ∧ pv_mL 27 = 3 ∧ pv_rt 27 = (some .int) := by decide +kernel
theorem RR : pv_fr 21 = 1 ∧ pv_lo 21 = 20 ∧ pv_fr 22 = 0 ∧ pv_lo 22 = 0 ∧ pv_fr 23 = 4 ∧ pv_lo 23 = 85 ∧ pv_fr 24 = 0 ∧ pv_lo 24 = 0 ∧ pv_fr 25 = 2 ∧ pv_lo 25 = 43 ∧ pv_fr 26 = 1 ∧ pv_lo 26 = 22 ∧ pv_fr 27 = 0 ∧ pv_lo 27 = 0 := by decide +kernel
section STR
variable {l : Launch} {K adV : Nat → Nat} {dC : Nat → ClassId} {dI : Nat → Nat → Nat} {dA : Nat → ClassId} {A : Nat → Prop}
set_option maxRecDepth 20000 in
/-- coder() of a literal: 0 -/
theorem pv_m22 (k : Nat) (hk : k < 9) : Met l (pv_y 22) (pv_wsM 22) (pv_rmM 22) (va_Pc [.ref (K k)] (pv_Wd K adV dC dI dA A)) (vp_Si (fun r => r = 0)) 0 0 (fun _ => False) := by
  refine Met.ofW (cc := pv_bc 22) (maxL := pv_mL 22) (ret := pv_rt 22) (by rw [W22.2.1]; decide +kernel) rfl ?_
  intro p e s m args below meth c s₁ B hml hv
  obtain ⟨rfl, hWd⟩ := hv
  have hx := B.exec
  have hb := B.bytes
  have hr := B.returns
  have hts := atoms_spec (ws := pv_wsM 22) B.pre
  have hbig : ∀ w ∈ pv_big, w.before _ s = true := fun w hw => hts w (List.mem_cons_of_mem _ hw)
  have hown0 := findClass_of_methodNamed B.named
  have hown : s.vm.findClass "java/lang/String" = some m.cls := by rw [W22.2.1] at hown0; exact hown0
  have hlk := B.notSynchronized
  have hS : va_S A s.heap s.heap [] := va_S.rf
  obtain ⟨hE1, hE2, hE3, hE4⟩ := hWd.2.1.1 k hk
  have hl := lv_entry ([.ref (K k)]) (n := pv_mL 22) (by rw [W22.2.2.1]; exact Nat.le_of_ble_eq_true rfl)
  rw [lg_entry_eq]
  generalize (lg_sl ([.ref (K k)]) ++ List.replicate (pv_mL 22 - (lg_sl ([.ref (K k)])).length) Slot.unset).toArray = ls at hl ⊢
  have hl : lv_has ls (pv_mL 22) [(0, .ref (K k))] := hl
  refine va_gets hx hb hWd.2.2.2.2.1 hS hown (hbig _ (pv_bigmem lk22_38 rfl)) (fun _ z => z) D22_0 ?_
  refine lv_if_eq (tgt := 13) hx hb D22_3 (by decide) (fun z => absurd z (by decide)) (fun _ => ?_)
  refine lv_aload_n hx hb D22_6 rfl (lv_at hl 0 rfl) ?_
  refine vk_getf hx hb hE2 hS hown (hbig _ (pv_bigmem lk22_15 rfl)) (fun _ z => z) D22_7 ?_
  refine lv_goto (tgt := 14) hx hb D22_10 (by decide) ?_
  exact W.zret (ty := .byte) hx hb (hr.trans W22.2.2.2) rfl (fun t ht hW => ⟨0, rfl, rfl, ht⟩) (fun q hq => by cases hq) D22_14 hlk
set_option maxRecDepth 20000 in
/-- isLatin1() of a literal: true -/
theorem pv_m24 (k : Nat) (hk : k < 9) : Met l (pv_y 24) (pv_wsM 24) (pv_rmM 24) (va_Pc [.ref (K k)] (pv_Wd K adV dC dI dA A)) (vp_Si (fun r => r = 1)) 0 0 (fun _ => False) := by
  refine Met.ofW (cc := pv_bc 24) (maxL := pv_mL 24) (ret := pv_rt 24) (by rw [W24.2.1]; decide +kernel) rfl ?_
  intro p e s m args below meth c s₁ B hml hv
  obtain ⟨rfl, hWd⟩ := hv
  have hx := B.exec
  have hb := B.bytes
  have hr := B.returns
  have hts := atoms_spec (ws := pv_wsM 24) B.pre
  have hbig : ∀ w ∈ pv_big, w.before _ s = true := fun w hw => hts w (List.mem_cons_of_mem _ hw)
  have hown0 := findClass_of_methodNamed B.named
  have hown : s.vm.findClass "java/lang/String" = some m.cls := by rw [W24.2.1] at hown0; exact hown0
  have hlk := B.notSynchronized
  have hS : va_S A s.heap s.heap [] := va_S.rf
  obtain ⟨hE1, hE2, hE3, hE4⟩ := hWd.2.1.1 k hk
  have hl := lv_entry ([.ref (K k)]) (n := pv_mL 24) (by rw [W24.2.2.1]; exact Nat.le_of_ble_eq_true rfl)
  rw [lg_entry_eq]
  generalize (lg_sl ([.ref (K k)]) ++ List.replicate (pv_mL 24 - (lg_sl ([.ref (K k)])).length) Slot.unset).toArray = ls at hl ⊢
  have hl : lv_has ls (pv_mL 24) [(0, .ref (K k))] := hl
  refine va_gets hx hb hWd.2.2.2.2.1 hS hown (hbig _ (pv_bigmem lk22_38 rfl)) (fun _ z => z) D24_0 ?_
  refine lv_if_eq (tgt := 17) hx hb D24_3 (by decide) (fun z => absurd z (by decide)) (fun _ => ?_)
  refine lv_aload_n hx hb D24_6 rfl (lv_at hl 0 rfl) ?_
  refine vk_getf hx hb hE2 hS hown (hbig _ (pv_bigmem lk22_15 rfl)) (fun _ z => z) D24_7 ?_
  refine lv_if_ne (tgt := 17) hx hb D24_10 (by decide) (fun z => absurd rfl z) (fun _ => ?_)
  refine lv_iconst (v := 1) hx hb D24_13 (by decide) ?_
  refine lv_goto (tgt := 18) hx hb D24_14 (by decide) ?_
  exact W.zret (ty := .boolean) hx hb (hr.trans W24.2.2.2) rfl (fun t ht hW => ⟨1, rfl, rfl, ht⟩) (fun q hq => by cases hq) D24_18 hlk
set_option maxRecDepth 20000 in
/-- Preconditions.checkIndex(i, n, f): i -/
theorem pv_m27 (i n : Int32) (v : Value) (hv1 : v.category = 1) (h0 : ¬ i < 0) (h1 : i < n) : Met l (pv_y 27) (pv_wsM 27) (pv_rmM 27) (va_Pc [.int i, .int n, v] (pv_Wd K adV dC dI dA A)) (vp_Si (fun r => r = i)) 0 0 (fun _ => False) := by
  refine Met.ofW (cc := pv_bc 27) (maxL := pv_mL 27) (ret := pv_rt 27) (by rw [W27.2.1]; decide +kernel) rfl ?_
  intro p e s m args below meth c s₁ B hml hv
  obtain ⟨rfl, hWd⟩ := hv
  have hx := B.exec
  have hb := B.bytes
  have hr := B.returns
  have hlk := B.notSynchronized
  have hsl : (lg_sl ([.int i, .int n, v])).length = 3 := by
    have e1 : (Value.int i).category = 1 := rfl
    have e2 : (Value.int n).category = 1 := rfl
    simp [lg_sl, hv1, e1, e2]
  have hl := lv_entry ([.int i, .int n, v]) (n := pv_mL 27) (by rw [W27.2.2.1, hsl]; exact Nat.le_refl _)
  rw [lg_entry_eq]
  generalize (lg_sl ([.int i, .int n, v]) ++ List.replicate (pv_mL 27 - (lg_sl ([.int i, .int n, v])).length) Slot.unset).toArray = ls at hl ⊢
  have hl : lv_has ls (pv_mL 27) [(0, .int i), (1, .int n), (2, v)] := hl
  refine lv_iload_n hx hb D27_0 rfl (lv_at hl 0 rfl) ?_
  refine lv_if_lt (tgt := 9) hx hb D27_1 (by decide) (fun z => absurd z h0) (fun _ => ?_)
  refine lv_iload_n hx hb D27_4 rfl (lv_at hl 0 rfl) ?_
  refine lv_iload_n hx hb D27_5 rfl (lv_at hl 1 rfl) ?_
  refine lv_icmp_lt (tgt := 16) hx hb D27_6 (by decide) (fun _ => ?_) (fun z => absurd h1 z)
  refine lv_iload_n hx hb D27_16 rfl (lv_at hl 0 rfl) ?_
  exact W.iret hx hb (hr.trans W27.2.2.2) (fun t ht hW => ⟨i, rfl, rfl, ht⟩) (fun q hq => by cases hq) D27_17 hlk
/-- behind a call without an answer that leaves the cells -/
theorem pv_callS0 {p : Program} {l : Launch} {e : Env} {R : Room} {s : State} {m : MethodId} {args : Array Value} {below : List Frame} {meth : Method} {c : Code} {H : Heap} {locs : List Loc} {cells slots : Nat} {Q : State → Prop} {pc : Nat} {ls : Array Slot} {rest st0 : List Value} {a : Array Value} (hr : va_Run p l e R s m args below meth c H locs cells slots 0 0 (F0 m pc ls st0) rest (va_Sv (fun _ => True) a) (fun _ => False)) (kk : W p l e R s m args below meth c H locs cells slots Q (F0 m (pc + 3) ls rest)) : W p l e R s m args below meth c H locs cells slots Q (F0 m pc ls st0) := by
  intro T hT X
  obtain ⟨v, st₀, t, T', L, h0, X', hL, e1, e2, ⟨hv, hp, hb⟩, st⟩ := hr T hT X
  cases hv
  have hLn : L = [] := by
    cases L with
    | nil => rfl
    | cons q L => exact (hL q List.mem_cons_self).elim
  subst hLn
  rw [List.append_nil] at X'
  obtain ⟨t2, a1, b1⟩ := kk T' (by rw [e1, hb, h0]) X'
  exact ⟨t2, st t2 a1, b1⟩
set_option maxRecDepth 20000 in
/-- String.checkIndex(i, n) -/
theorem pv_m26 (i n : Int32) (h0 : ¬ i < 0) (h1 : i < n) : Met l (pv_y 26) (pv_wsM 26) (pv_rmM 26) (va_Pc [.int i, .int n] (pv_Wd K adV dC dI dA A)) (va_Sv (fun _ => True)) 0 0 (fun _ => False) := by
  refine Met.ofW (cc := pv_bc 26) (maxL := pv_mL 26) (ret := pv_rt 26) (by rw [W26.2.1]; decide +kernel) rfl ?_
  intro p e s m args below meth c s₁ B hml hv
  obtain ⟨rfl, hWd⟩ := hv
  have hx := B.exec
  have hb := B.bytes
  have hr := B.returns
  have hts := atoms_spec (ws := pv_wsM 26) B.pre
  have hbig : ∀ w ∈ pv_big, w.before _ s = true := fun w hw => hts w (List.mem_cons_of_mem _ hw)
  have hown0 := findClass_of_methodNamed B.named
  have hown : s.vm.findClass "java/lang/String" = some m.cls := by rw [W26.2.1] at hown0; exact hown0
  have hlk := B.notSynchronized
  have hS : va_S A s.heap s.heap [] := va_S.rf
  have hl := lv_entry ([.int i, .int n]) (n := pv_mL 26) (by rw [W26.2.2.1]; exact Nat.le_of_ble_eq_true rfl)
  rw [lg_entry_eq]
  generalize (lg_sl ([.int i, .int n]) ++ List.replicate (pv_mL 26 - (lg_sl ([.int i, .int n])).length) Slot.unset).toArray = ls at hl ⊢
  have hl : lv_has ls (pv_mL 26) [(0, .int i), (1, .int n)] := hl
  refine lv_iload_n hx hb D26_0 rfl (lv_at hl 0 rfl) ?_
  refine lv_iload_n hx hb D26_1 rfl (lv_at hl 1 rfl) ?_
  have go : ∀ v : Value, v.category = 1 → W p l e (headSpec (pv_wsM 26) (pv_rmM 26)).room s m ([Value.int i, .int n] : List Value).toArray below meth c s.heap [] 0 0 (MQ below (va_Sv (fun _ => True)) ([Value.int i, .int n] : List Value).toArray s 0 0 (fun _ => False)) (F0 m 5 ls [v, .int n, .int i]) := by
    intro v hv1
    refine pv_callS (va_runS (As := [.int i, .int n, v]) (rest := []) ⟨hx, hb, hml, hown, hts⟩ (pv_m27 i n v hv1 h0 h1) ⟨callB_of 3 hts (pv_GoodIn W27.1) rfl rfl rfl (by rw [W27.2.1]; exact hbig _ (pv_bigmem in27 rfl)) (by rw [W27.2.1]; exact hbig _ (pv_bigmem ml27 rfl)) (by rw [W27.2.1]; decide +kernel) ⟨by show pv_fr 27 + 1 ≤ pv_fr 26; decide +kernel, by show 8 + (pv_mL 27 + 11) + pv_lo 27 ≤ pv_lo 26; decide +kernel⟩, by rw [W27.2.1]; exact hbig _ (pv_bigmem st27 rfl)⟩ ⟨pv_Wd.blind _, fun U hU hW => ⟨rfl, hWd.at hS hU hW⟩⟩ rfl rfl hl.1 rfl (lv_room (Nat.le_of_ble_eq_true rfl)) D26_5 ⟨Nat.zero_le _, Nat.zero_le _⟩) ?_
    refine lv_pop hx hb D26_8 rfl ?_
    exact W.vret hx hb (hr.trans W26.2.2.2) (fun t ht hW => ⟨rfl, trivial, ht⟩) (fun q hq => by cases hq) D26_9 hlk
  rcases hWd.2.2.2.2.2 with hz | ⟨t, hz⟩
  · exact va_gets hx hb hz hS hown (hbig _ (pv_bigmem lk26_1053 rfl)) (fun _ z => z) D26_2 (go .null rfl)
  · exact va_gets hx hb hz hS hown (hbig _ (pv_bigmem lk26_1053 rfl)) (fun _ z => z) D26_2 (go (.ref t) rfl)
/-- the literals' chars -/
theorem pv_chr : ∀ k, k < 9 → ∀ i, i < pv_len.getD k 0 → ((((pv_byt.getD k []).getD i 0) &&& 255).toUInt32.toUInt16.toUInt32.toInt32) = ((pv_byt.getD k []).getD i 0) &&& 255 ∧ ((((pv_byt.getD k []).getD i 0) &&& 255).toUInt32 % 65536).toInt32 = ((pv_byt.getD k []).getD i 0) &&& 255 := by decide
theorem pv_lsh : ∀ k, k < 9 → (Int32.ofNat (pv_len.getD k 0)) >>> ((0 : Int32) &&& 31) = nI (pv_len.getD k 0) := by decide
set_option maxRecDepth 20000 in
/-- StringLatin1.charAt of a literal's bytes -/
theorem pv_m25 (k : Nat) (hk : k < 9) (j : Int32) (hj : pv_in j (pv_len.getD k 0) = true) : Met l (pv_y 25) (pv_wsM 25) (pv_rmM 25) (va_Pc [.ref (adV k), .int j] (pv_Wd K adV dC dI dA A)) (vp_Si (fun r => r = (pv_byt.getD k []).getD j.toNatClampNeg 0 &&& 255)) 0 0 (fun _ => False) := by
  have hj2 := hj
  simp only [pv_in, Bool.and_eq_true, decide_eq_true_eq] at hj2
  have hc := pv_chr k hk j.toNatClampNeg hj2.2
  have hlt : j < Int32.ofNat (pv_len.getD k 0) := by
    have h6 := pv_len_ok k hk
    have e5 : Int32.ofNat (pv_len.getD k 0) = pv_I ((pv_len.getD k 0 : Nat) : Int) := (Int32.ofInt_eq_ofNat).symm
    rw [e5, Int32.lt_iff_toInt_lt, pv_I_toInt ⟨by omega, by omega⟩]
    have h7 : j.toNatClampNeg = j.toInt.toNat := rfl
    have h8 := hj2.2
    rw [h7] at h8
    omega
  refine Met.ofW (cc := pv_bc 25) (maxL := pv_mL 25) (ret := pv_rt 25) (by rw [W25.2.1]; decide +kernel) rfl ?_
  intro p e s m args below meth c s₁ B hml hv
  obtain ⟨rfl, hWd⟩ := hv
  have hx := B.exec
  have hb := B.bytes
  have hr := B.returns
  have hts := atoms_spec (ws := pv_wsM 25) B.pre
  have hbig : ∀ w ∈ pv_big, w.before _ s = true := fun w hw => hts w (List.mem_cons_of_mem _ hw)
  have hown0 := findClass_of_methodNamed B.named
  have hown : s.vm.findClass "java/lang/StringLatin1" = some m.cls := by rw [W25.2.1] at hown0; exact hown0
  have hlk := B.notSynchronized
  have hS : va_S A s.heap s.heap [] := va_S.rf
  obtain ⟨hE1, hE2, hE3, hE4⟩ := hWd.2.1.1 k hk
  have hl := lv_entry ([.ref (adV k), .int j]) (n := pv_mL 25) (by rw [W25.2.2.1]; exact Nat.le_of_ble_eq_true rfl)
  rw [lg_entry_eq]
  generalize (lg_sl ([.ref (adV k), .int j]) ++ List.replicate (pv_mL 25 - (lg_sl ([.ref (adV k), .int j])).length) Slot.unset).toArray = ls at hl ⊢
  have hl : lv_has ls (pv_mL 25) [(0, .ref (adV k)), (1, .int j)] := hl
  refine lv_iload_n hx hb D25_0 rfl (lv_at hl 1 rfl) ?_
  refine lv_aload_n hx hb D25_1 rfl (lv_at hl 0 rfl) ?_
  refine va_tlen hx hb hE4 hS rfl D25_2 ?_
  refine pv_callS0 (va_runS (As := [.int j, .int (Int32.ofNat (pv_len.getD k 0))]) (rest := []) ⟨hx, hb, hml, hown, hts⟩ (pv_m26 j _ hj2.1 hlt) ⟨callB_of 2 hts (pv_GoodIn W26.1) rfl rfl rfl (by rw [W26.2.1]; exact hbig _ (pv_bigmem in26 rfl)) (by rw [W26.2.1]; exact hbig _ (pv_bigmem ml26 rfl)) (by rw [W26.2.1]; decide +kernel) ⟨by show pv_fr 26 + 1 ≤ pv_fr 25; decide +kernel, by show 8 + (pv_mL 26 + 11) + pv_lo 26 ≤ pv_lo 25; decide +kernel⟩, by rw [W26.2.1]; exact hbig _ (pv_bigmem st26 rfl)⟩ ⟨pv_Wd.blind _, fun U hU hW => ⟨rfl, hWd.at hS hU hW⟩⟩ rfl rfl hl.1 rfl (lv_room (Nat.le_of_ble_eq_true rfl)) D25_3 ⟨Nat.zero_le _, Nat.zero_le _⟩) ?_
  refine lv_aload_n hx hb D25_6 rfl (lv_at hl 0 rfl) ?_
  refine lv_iload_n hx hb D25_7 rfl (lv_at hl 1 rfl) ?_
  refine va_tb hx hb hE4 hS (pv_in_spec hj) rfl D25_8 ?_
  refine lv_sipush (v := 255) hx hb D25_9 (by decide) ?_
  refine lv_iand hx hb D25_12 ?_
  refine lv_i2c hx hb D25_13 hc.2 ?_
  exact W.zret (ty := .char) hx hb (hr.trans W25.2.2.2) (by show Value.int _ = _; rw [hc.1]) (fun t ht hW => ⟨_, rfl, rfl, ht⟩) (fun q hq => by cases hq) D25_14 hlk
set_option maxRecDepth 20000 in
/-- length() of a literal -/
theorem pv_m21 (k : Nat) (hk : k < 9) : Met l (pv_y 21) (pv_wsM 21) (pv_rmM 21) (va_Pc [.ref (K k)] (pv_Wd K adV dC dI dA A)) (vp_Si (fun r => r = nI (pv_len.getD k 0))) 0 0 (fun _ => False) := by
  refine Met.ofW (cc := pv_bc 21) (maxL := pv_mL 21) (ret := pv_rt 21) (by rw [W21.2.1]; decide +kernel) rfl ?_
  intro p e s m args below meth c s₁ B hml hv
  obtain ⟨rfl, hWd⟩ := hv
  have hx := B.exec
  have hb := B.bytes
  have hr := B.returns
  have hts := atoms_spec (ws := pv_wsM 21) B.pre
  have hbig : ∀ w ∈ pv_big, w.before _ s = true := fun w hw => hts w (List.mem_cons_of_mem _ hw)
  have hown0 := findClass_of_methodNamed B.named
  have hown : s.vm.findClass "java/lang/String" = some m.cls := by rw [W21.2.1] at hown0; exact hown0
  have hlk := B.notSynchronized
  have hS : va_S A s.heap s.heap [] := va_S.rf
  obtain ⟨hE1, hE2, hE3, hE4⟩ := hWd.2.1.1 k hk
  have hl := lv_entry ([.ref (K k)]) (n := pv_mL 21) (by rw [W21.2.2.1]; exact Nat.le_of_ble_eq_true rfl)
  rw [lg_entry_eq]
  generalize (lg_sl ([.ref (K k)]) ++ List.replicate (pv_mL 21 - (lg_sl ([.ref (K k)])).length) Slot.unset).toArray = ls at hl ⊢
  have hl : lv_has ls (pv_mL 21) [(0, .ref (K k))] := hl
  refine lv_aload_n hx hb D21_0 rfl (lv_at hl 0 rfl) ?_
  refine vk_getf hx hb hE3 hS hown (hbig _ (pv_bigmem lk21_9 rfl)) (fun _ z => z) D21_1 ?_
  refine va_tlen hx hb hE4 hS rfl D21_4 ?_
  refine lv_aload_n hx hb D21_5 rfl (lv_at hl 0 rfl) ?_
  refine pv_callS (va_runV (C := "java/lang/String") (b := K k) (As := []) (rest := [.int (Int32.ofNat (pv_len.getD k 0))]) ⟨hx, hb, hml, hown, hts⟩ (pv_m22 k hk) ⟨callB_of 0 hts (pv_GoodIn W22.1) rfl rfl rfl (by rw [W22.2.1]; exact hbig _ (pv_bigmem in22 rfl)) (by rw [W22.2.1]; exact hbig _ (pv_bigmem ml22 rfl)) (by rw [W22.2.1]; decide +kernel) ⟨by show pv_fr 22 + 1 ≤ pv_fr 21; decide +kernel, by show 8 + (pv_mL 22 + 11) + pv_lo 22 ≤ pv_lo 21; decide +kernel⟩, by rw [W22.2.1]; exact hbig _ (pv_bigmem im22 rfl), by rw [W22.2.1]; exact hbig _ (pv_bigmem se22 rfl)⟩ ⟨pv_Wd.blind _, vk_recv hWd.2.1 hk hS, fun U hU hW => ⟨rfl, hWd.at hS hU hW⟩⟩ rfl rfl hl.1 rfl (lv_room (Nat.le_of_ble_eq_true rfl)) D21_6 ⟨Nat.zero_le _, Nat.zero_le _⟩) ?_
  refine lv_ishr hx hb D21_9 ?_
  exact W.iret hx hb (hr.trans W21.2.2.2) (fun t ht hW => ⟨_, rfl, pv_lsh k hk, ht⟩) (fun q hq => by cases hq) D21_10 hlk
set_option maxRecDepth 20000 in
/-- charAt(j) of a literal -/
theorem pv_m23 (k : Nat) (hk : k < 9) (j : Int32) (hj : pv_in j (pv_len.getD k 0) = true) : Met l (pv_y 23) (pv_wsM 23) (pv_rmM 23) (va_Pc [.ref (K k), .int j] (pv_Wd K adV dC dI dA A)) (vp_Si (fun r => r = (pv_byt.getD k []).getD j.toNatClampNeg 0 &&& 255)) 0 0 (fun _ => False) := by
  have hj2 := hj
  simp only [pv_in, Bool.and_eq_true, decide_eq_true_eq] at hj2
  have hc := pv_chr k hk j.toNatClampNeg hj2.2
  refine Met.ofW (cc := pv_bc 23) (maxL := pv_mL 23) (ret := pv_rt 23) (by rw [W23.2.1]; decide +kernel) rfl ?_
  intro p e s m args below meth c s₁ B hml hv
  obtain ⟨rfl, hWd⟩ := hv
  have hx := B.exec
  have hb := B.bytes
  have hr := B.returns
  have hts := atoms_spec (ws := pv_wsM 23) B.pre
  have hbig : ∀ w ∈ pv_big, w.before _ s = true := fun w hw => hts w (List.mem_cons_of_mem _ hw)
  have hown0 := findClass_of_methodNamed B.named
  have hown : s.vm.findClass "java/lang/String" = some m.cls := by rw [W23.2.1] at hown0; exact hown0
  have hlk := B.notSynchronized
  have hS : va_S A s.heap s.heap [] := va_S.rf
  obtain ⟨hE1, hE2, hE3, hE4⟩ := hWd.2.1.1 k hk
  have hl := lv_entry ([.ref (K k), .int j]) (n := pv_mL 23) (by rw [W23.2.2.1]; exact Nat.le_of_ble_eq_true rfl)
  rw [lg_entry_eq]
  generalize (lg_sl ([.ref (K k), .int j]) ++ List.replicate (pv_mL 23 - (lg_sl ([.ref (K k), .int j])).length) Slot.unset).toArray = ls at hl ⊢
  have hl : lv_has ls (pv_mL 23) [(0, .ref (K k)), (1, .int j)] := hl
  refine lv_aload_n hx hb D23_0 rfl (lv_at hl 0 rfl) ?_
  refine pv_callS (va_runV (C := "java/lang/String") (b := K k) (As := []) (rest := []) ⟨hx, hb, hml, hown, hts⟩ (pv_m24 k hk) ⟨callB_of 0 hts (pv_GoodIn W24.1) rfl rfl rfl (by rw [W24.2.1]; exact hbig _ (pv_bigmem in24 rfl)) (by rw [W24.2.1]; exact hbig _ (pv_bigmem ml24 rfl)) (by rw [W24.2.1]; decide +kernel) ⟨by show pv_fr 24 + 1 ≤ pv_fr 23; decide +kernel, by show 8 + (pv_mL 24 + 11) + pv_lo 24 ≤ pv_lo 23; decide +kernel⟩, by rw [W24.2.1]; exact hbig _ (pv_bigmem im24 rfl), by rw [W24.2.1]; exact hbig _ (pv_bigmem se24 rfl)⟩ ⟨pv_Wd.blind _, vk_recv hWd.2.1 hk hS, fun U hU hW => ⟨rfl, hWd.at hS hU hW⟩⟩ rfl rfl hl.1 rfl (lv_room (Nat.le_of_ble_eq_true rfl)) D23_1 ⟨Nat.zero_le _, Nat.zero_le _⟩) ?_
  refine lv_if_eq (tgt := 16) hx hb D23_4 (by decide) (fun z => absurd z (by decide)) (fun _ => ?_)
  refine lv_aload_n hx hb D23_7 rfl (lv_at hl 0 rfl) ?_
  refine vk_getf hx hb hE3 hS hown (hbig _ (pv_bigmem lk21_9 rfl)) (fun _ z => z) D23_8 ?_
  refine lv_iload_n hx hb D23_11 rfl (lv_at hl 1 rfl) ?_
  refine pv_callS (va_runS (As := [.ref (adV k), .int j]) (rest := []) ⟨hx, hb, hml, hown, hts⟩ (pv_m25 k hk j hj) ⟨callB_of 2 hts (pv_GoodIn W25.1) rfl rfl rfl (by rw [W25.2.1]; exact hbig _ (pv_bigmem in25 rfl)) (by rw [W25.2.1]; exact hbig _ (pv_bigmem ml25 rfl)) (by rw [W25.2.1]; decide +kernel) ⟨by show pv_fr 25 + 1 ≤ pv_fr 23; decide +kernel, by show 8 + (pv_mL 25 + 11) + pv_lo 25 ≤ pv_lo 23; decide +kernel⟩, by rw [W25.2.1]; exact hbig _ (pv_bigmem st25 rfl)⟩ ⟨pv_Wd.blind _, fun U hU hW => ⟨rfl, hWd.at hS hU hW⟩⟩ rfl rfl hl.1 rfl (lv_room (Nat.le_of_ble_eq_true rfl)) D23_12 ⟨Nat.zero_le _, Nat.zero_le _⟩) ?_
  exact W.zret (ty := .char) hx hb (hr.trans W23.2.2.2) (by show Value.int _ = _; rw [hc.1]) (fun t ht hW => ⟨_, rfl, rfl, ht⟩) (fun q hq => by cases hq) D23_15 hlk
theorem pv_Str_ok : pv_Str l K adV dC dI dA A := by
  have e1 : pv_y 21 = pv_sln := by decide +kernel
  have e2 : pv_y 23 = pv_scn := by decide +kernel
  exact ⟨fun k hk => e1 ▸ pv_m21 k hk, fun k j hk hj => e2 ▸ pv_m23 k hk j hj⟩
end STR
