/-! THE START: what a method finds besides its cells, from the law's entry -/
def pv_tm (i : Nat) : Term := .string "AngleNet$Tape" ([95, 103, 111, 116, 121, 126, 130, 149, 159].getD i 0)
def pv_fl0 : List Cond := flatC (Jvm.Cond.and given_1 narrow_1)
theorem pv_fs1 : ∀ i, i < 9 → Cond.exactly (pv_tm i) "java/lang/String" ∈ pv_fl0 := by decide +kernel
theorem pv_fs2 : ∀ i, i < 9 → Cond.eq (.field (pv_tm i) "java/lang/String" "coder" "B") (.int 0) ∈ pv_fl0 := by decide +kernel
theorem pv_fs3 : ∀ i, i < 9 → Cond.arrayOf (.field (pv_tm i) "java/lang/String" "value" "[B") .byte ∈ pv_fl0 := by decide +kernel
theorem pv_fs4 : ∀ i, i < 9 → Cond.eq (.length (.field (pv_tm i) "java/lang/String" "value" "[B")) (.int (Int32.ofNat (pv_len.getD i 0))) ∈ pv_fl0 := by decide +kernel
theorem pv_fs5 : ∀ i, i < 9 → ∀ j, j < pv_len.getD i 0 → Cond.eq (.elem (.field (pv_tm i) "java/lang/String" "value" "[B") (.int (Int32.ofNat j))) (.int ((pv_byt.getD i []).getD j 0)) ∈ pv_fl0 := by decide +kernel
theorem pv_fs6 : ∀ i, i < 9 → ∀ j, j < 9 → i ≠ j → (Cond.not (Cond.eq (pv_tm i) (pv_tm j)) ∈ pv_fl0 ∨ Cond.not (Cond.eq (pv_tm j) (pv_tm i)) ∈ pv_fl0) := by decide +kernel
theorem pv_fs7 : ∀ i, i < 9 → pv_len.getD i 0 < 2 ^ 31 := by decide +kernel
def pv_srok (w : Cond) : Bool := match w with
  | .stringRef o i t => (List.range 9).all (fun k => !(decide (pv_tx[k]? = some t)) || (decide (Term.string o i = pv_tm k) || decide (Cond.eq (pv_tm k) (.string o i) ∈ pv_fl0) || decide (Cond.eq (.string o i) (pv_tm k) ∈ pv_fl0)))
  | _ => true
theorem pv_fs8 : lw_tbl.all pv_srok = true := by decide +kernel
theorem pv_eqs {args : Array Value} {s : State} {t1 t2 : Term} {a : Nat} (h : (Cond.eq t1 t2).before args s = true) (h1 : t1.eval args s none [] s = some (.ref a)) : t2.eval args s none [] s = some (.ref a) := by
  cases hv : t2.eval args s none [] s with
  | none => simp [Cond.before, Cond.holds, Cond.value, h1, hv] at h
  | some w =>
    simp only [Cond.before, Cond.holds, Cond.value, h1, hv] at h
    cases w <;> simp_all
theorem pv_eqs' {args : Array Value} {s : State} {t1 t2 : Term} {a : Nat} (h : (Cond.eq t2 t1).before args s = true) (h1 : t1.eval args s none [] s = some (.ref a)) : t2.eval args s none [] s = some (.ref a) := by
  cases hv : t2.eval args s none [] s with
  | none => simp [Cond.before, Cond.holds, Cond.value, h1, hv] at h
  | some w =>
    simp only [Cond.before, Cond.holds, Cond.value, h1, hv] at h
    cases w <;> simp_all
theorem pv_ks_spec0 {M idx k : Nat} (h : pv_ks M idx = some k) : ∃ t, Cond.stringRef (pv_own M) idx t ∈ lw_tbl ∧ k < 9 ∧ pv_tx[k]? = some t := by
  obtain ⟨w, hw, he⟩ := List.exists_of_findSome?_eq_some h
  split at he
  · split at he
    · rename_i hc
      obtain ⟨hc1, hc2⟩ := hc
      subst hc1
      subst hc2
      have h1 := List.find?_some he
      have h2 := List.mem_range.mp (List.mem_of_find?_eq_some he)
      simp only [decide_eq_true_eq] at h1
      exact ⟨_, hw, h2, h1⟩
    · cases he
  · cases he
def pv_fts : List FieldType := [.int, .long, .byte, .boolean, .object "AngleNet$Net", .object "AngleNet$Row"]
set_option maxHeartbeats 4000000 in
theorem pv_start {p : Program} {s : State} {m : MethodId} {meth : Method} {c : Code} {b L : Nat} {xs : Nat → Int32} (C0 : lw_At p s m meth c b L xs) : ∃ (K adV : Nat → Nat) (dC : Nat → ClassId) (dI : Nat → Nat → Nat) (dA : Nat → ClassId), pv_Wd K adV dC dI dA (fun q => s.heap.size ≤ q) s ∧ pv_Kok K ∧ va_AO "AngleNet$Net" s ∧ va_AO "AngleNet$Row" s := by
  obtain ⟨hx, hb, hr, hml, hown, hts, hX, hbl, hlk, hgv⟩ := C0
  have hs : ∀ w ∈ pv_fl0, w.before #[Value.ref b] s = true := flat_of_before _ hgv
  have hA : ∀ a : Nat, a < s.heap.size → ¬ (s.heap.size ≤ a) := fun a h => by omega
  obtain ⟨c0, i0, k0⟩ := u_known hts pv_w0 (hts (.instantiable "AngleNet" 9) (by decide +kernel))
  have hk : ∀ ci : Nat, ∃ z : ClassId × (Nat → Nat), ∀ q, pv_cls[ci]? = some q → u_Kn s q.1 q.2.1 q.2.2 z.1 z.2 := by
    intro ci
    match ci with
    | 0 => exact ⟨(c0, i0), fun q hq => by cases hq; exact k0⟩
    | 1 => obtain ⟨x, y, h⟩ := u_known hts pv_w1 (hts (.instantiable "AngleNet$Tape" 11) (by decide +kernel)); exact ⟨(x, y), fun q hq => by cases hq; exact h⟩
    | 2 => obtain ⟨x, y, h⟩ := u_known hts pv_w2 (hts (.instantiable "AngleNet$Net" 16) (by decide +kernel)); exact ⟨(x, y), fun q hq => by cases hq; exact h⟩
    | 3 => obtain ⟨x, y, h⟩ := u_known hts pv_w3 (hts (.instantiable "AngleNet$Row" 4) (by decide +kernel)); exact ⟨(x, y), fun q hq => by cases hq; exact h⟩
    | 4 => obtain ⟨x, y, h⟩ := u_known hts pv_w4 (hts (.instantiable "AngleNet$Shape" 2) (by decide +kernel)); exact ⟨(x, y), fun q hq => by cases hq; exact h⟩
    | 5 => obtain ⟨x, y, h⟩ := u_known hts pv_w5 (hts (.instantiable "AngleNet$Laying" 8) (by decide +kernel)); exact ⟨(x, y), fun q hq => by cases hq; exact h⟩
    | 6 => obtain ⟨x, y, h⟩ := u_known hts pv_w6 (hts (.instantiable "AngleNet$Currents" 4) (by decide +kernel)); exact ⟨(x, y), fun q hq => by cases hq; exact h⟩
    | 7 => obtain ⟨x, y, h⟩ := u_known hts pv_w7 (hts (.instantiable "AngleNetModel" 28) (by decide +kernel)); exact ⟨(x, y), fun q hq => by cases hq; exact h⟩
    | n + 8 => exact ⟨(c0, i0), fun q hq => by simp [pv_cls] at hq⟩
  obtain ⟨dz, hdz⟩ := Classical.axiomOfChoice hk
  have hprim : ∀ ty : FieldType, (∀ C, ty ≠ .object C) → (Cond.arrayClass ty).before #[Value.ref b] s = true → ∃ cA : ClassId, ArrOfT s cA ty ∧ va_RA s cA ty := by
    intro ty hno h
    obtain ⟨cA, kA, comp, h1, h2, h3⟩ := Cond.arrayClass_spec h
    refine ⟨cA, fun n z => ⟨fun k h => (by cases h), kA, h2, comp, h3⟩, ?_⟩
    cases ty with
    | object C => exact absurd rfl (hno C)
    | _ => exact h1
  have ho4 : va_AO "AngleNet$Net" s := va_AO.of (hts (.arrayOver (.object "AngleNet$Net")) (by decide +kernel))
  have ho5 : va_AO "AngleNet$Row" s := va_AO.of (hts (.arrayOver (.object "AngleNet$Row")) (by decide +kernel))
  have hobj : ∀ C : String, va_AO C s → ∃ cA : ClassId, ArrOfT s cA (.object C) ∧ va_RA s cA (.object C) := by
    intro C h
    obtain ⟨comp, cA, kA, h1, h2, h3, h4, h5⟩ := Cond.arrayOver_spec h
    exact ⟨cA, fun n z => ⟨fun k h => (by cases h), kA, h3, comp, h4⟩, kA, comp, h3, h4, h1, h5⟩
  have ha : ∀ k : Nat, ∃ cA : ClassId, ∀ ty, pv_fts[k]? = some ty → ArrOfT s cA ty ∧ va_RA s cA ty := by
    intro k
    match k with
    | 0 => obtain ⟨z, h⟩ := hprim .int (fun _ => by simp) (hts (.arrayClass .int) (by decide +kernel)); exact ⟨z, fun ty hq => by cases hq; exact h⟩
    | 1 => obtain ⟨z, h⟩ := hprim .long (fun _ => by simp) (hts (.arrayClass .long) (by decide +kernel)); exact ⟨z, fun ty hq => by cases hq; exact h⟩
    | 2 => obtain ⟨z, h⟩ := hprim .byte (fun _ => by simp) (hts (.arrayClass .byte) (by decide +kernel)); exact ⟨z, fun ty hq => by cases hq; exact h⟩
    | 3 => obtain ⟨z, h⟩ := hprim .boolean (fun _ => by simp) (hts (.arrayClass .boolean) (by decide +kernel)); exact ⟨z, fun ty hq => by cases hq; exact h⟩
    | 4 => obtain ⟨z, h⟩ := hobj _ ho4; exact ⟨z, fun ty hq => by cases hq; exact h⟩
    | 5 => obtain ⟨z, h⟩ := hobj _ ho5; exact ⟨z, fun ty hq => by cases hq; exact h⟩
    | n + 6 => exact ⟨c0, fun ty hq => by simp [pv_fts] at hq⟩
  obtain ⟨dA, hdA⟩ := Classical.axiomOfChoice ha
  obtain ⟨K, adV, hS, hev⟩ := vk_Sof (N := 9) (tm := pv_tm) (len := pv_len) (byt := pv_byt) (A := fun q => s.heap.size ≤ q) pv_fs7 (fun i hi => hs _ (pv_fs1 i hi)) (fun i hi => hs _ (pv_fs2 i hi)) (fun i hi => hs _ (pv_fs3 i hi)) (fun i hi => hs _ (pv_fs4 i hi)) (fun i hi j hj => hs _ (pv_fs5 i hi j hj)) (fun i j hi hj hij => (pv_fs6 i hi j hj hij).imp (fun z => hs _ z) (fun z => hs _ z)) hA
  refine ⟨K, adV, fun ci => (dz ci).1, fun ci => (dz ci).2, dA, ⟨⟨fun ci q hq => hdz ci q hq, fun k q hq => ?_⟩, hS, fun M idx k hk => ?_, fun o i y z h => va_Nw.of rfl (hts _ h), va_Zof (hts (.laysStatic "java/lang/String" "COMPACT_STRINGS" "Z") (by decide +kernel)) (hts (.initialized "java/lang/String") (by decide +kernel)) (va_eqi (hs (.eq (.static "java/lang/String" "COMPACT_STRINGS" "Z") (.int 1)) (by decide +kernel))) hA, va_Zqof (hts (.laysStatic "jdk/internal/util/Preconditions" "SIOOBE_FORMATTER" "Ljava/util/function/BiFunction;") (by decide +kernel)) (hts (.initialized "jdk/internal/util/Preconditions") (by decide +kernel)) (hs (.isRef (.static "jdk/internal/util/Preconditions" "SIOOBE_FORMATTER" "Ljava/util/function/BiFunction;")) (by decide +kernel)) hA⟩, fun q hq => pv_fd_ad hS.2 hq, ho4, ho5⟩
  · match k, hq with
    | 0, hq => cases hq; exact hdA 0 _ rfl
    | 1, hq => cases hq; exact hdA 1 _ rfl
    | 2, hq => cases hq; exact hdA 2 _ rfl
    | 3, hq => cases hq; exact hdA 3 _ rfl
    | 4, hq => cases hq; exact hdA 4 _ rfl
    | 5, hq => cases hq; exact hdA 5 _ rfl
    | n + 6, hq => simp [pv_tys] at hq
  · obtain ⟨t, h1, h2, h3⟩ := pv_ks_spec0 hk
    refine ⟨t, vk_R.of (hts _ h1) ?_⟩
    have h4 := List.all_eq_true.mp pv_fs8 _ h1
    have h5 := List.all_eq_true.mp h4 k (List.mem_range.mpr h2)
    simp only [h3, decide_true, Bool.not_true, Bool.false_or, Bool.or_eq_true, decide_eq_true_eq] at h5
    rcases h5 with (h5 | h5) | h5
    · rw [h5]; exact hev k h2
    · exact pv_eqs (hs _ h5) (hev k h2)
    · exact pv_eqs' (hs _ h5) (hev k h2)
