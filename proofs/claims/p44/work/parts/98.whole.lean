section WS
variable {p : Program} {l : Launch} {e : Env} {s : State} {m : MethodId} {below : List Frame} {meth : Method} {c : Code} {H : Heap} {locs : List Loc} {cells slots : Nat} {K adV : Nat → Nat} {dC : Nat → ClassId} {dI : Nat → Nat → Nat} {dA : Nat → ClassId} {b h0 h1 L j : Nat} {xs : Nat → Int32} {ls : Array Slot} {τ : Nat → Option Nat} {ρ : Nat → Nat → Nat} {h : pv_H} {ws : va_W}
theorem pv_sw63 (x : Int32) (hx : ∀ k : Nat, k < 43 → ¬ x = Int32.ofNat k) : x.toInt < 0 ∨ (42 : Int) < x.toInt := by
  by_cases h0 : x.toInt < 0
  · exact Or.inl h0
  by_cases h1 : (42 : Int) < x.toInt
  · exact Or.inr h1
  refine absurd ?_ (hx x.toInt.toNat (by omega))
  apply Int32.toInt_inj.mp
  rw [Int32.toInt_ofNat_of_lt (by omega)]
  omega
theorem pv_lcmp {L j : Nat} (hL : L ≤ 3072) (hj : 6 * j + 6 ≤ L) : ¬ (Int32.ofNat L - 6 < pv_I ((6 * j : Nat) : Int)) := by
  have e : Int32.ofNat L - 6 = pv_I ((L : Int) - 6) := by
    rw [← pv_I_sub, show pv_I (L : Int) = Int32.ofNat L from Int32.ofInt_eq_ofNat]; rfl
  rw [e]
  intro c
  have := (pv_I_lt ⟨by omega, by omega⟩ ⟨by omega, by omega⟩).mp c
  omega
theorem pv_lcmp2 {L j : Nat} (hL : L ≤ 3072) (hj : ¬ 6 * j + 6 ≤ L) (h6 : 6 * j ≤ L + 6) : Int32.ofNat L - 6 < pv_I ((6 * j : Nat) : Int) := by
  have e : Int32.ofNat L - 6 = pv_I ((L : Int) - 6) := by
    rw [← pv_I_sub, show pv_I (L : Int) = Int32.ofNat L from Int32.ofInt_eq_ofNat]; rfl
  rw [e]
  exact (pv_I_lt ⟨by omega, by omega⟩ ⟨by omega, by omega⟩).mpr (by omega)
theorem pv_lexit (X : pv_LX p s m meth c b L xs K adV dC dI dA) (hL : L ≤ 3072) (hj : ¬ 6 * j + 6 ≤ L) (h6 : 6 * j ≤ L + 6) (Y : pv_LY s dC dI dA τ ρ h h0 h1 ws H locs) (hl : lv_has ls 4 [(3, .int (pv_I ((6 * j : Nat) : Int))), (2, .ref h1), (1, .ref h0), (0, .ref b)]) (hc : cells ≤ 600000 ∧ slots ≤ 7302250) : W p l e room_1 s m #[Value.ref b] below meth c H locs cells slots (lw_Z below #[Value.ref b] s) (F0 m 18 ls []) := by
  obtain ⟨hx, hb, hr, hml, hown, hts, hX, hbl, hlk, hWd⟩ := X
  obtain ⟨hT, t0, t1, hN, hM, hI, hQ, hR, hP, hD, hS⟩ := Y
  have hbA : ¬ (fun q => s.heap.size ≤ q) b := fun z => by have : s.heap.size ≤ b := z; omega
  refine lv_iload_n hx hb dL_18 rfl (lv_at hl 0 rfl) ?_
  refine lv_aload_n hx hb dL_19 rfl (lv_at hl 3 rfl) ?_
  refine va_slen hx hb hX hbl hbA hS dL_20 ?_
  refine lv_bipush (v := 6) hx hb dL_21 (by decide) ?_
  refine lv_isub hx hb dL_23 ?_
  refine lv_icmp_gt (tgt := 1535) hx hb dL_24 (by decide) (fun c9 => ?_) (fun c9 => absurd (pv_lcmp2 hL hj h6) c9)
  refine lv_iconst (v := 1) hx hb dL_1535 (by decide) ?_
  refine va_forget (fun q hq => hS.2.2 q hq) ?_
  refine W.widen (k := 600000) (n := 7302250) hc.1 hc.2 ?_
  exact lw_ret hx hb hr hlk dL_1536
set_option maxHeartbeats 4000000 in
theorem pv_loop (X : pv_LX p s m meth c b L xs K adV dC dI dA) (hL : L ≤ 3072) (hKok : pv_Kok K) : ∀ (n j : Nat) (h : pv_H) (ws : va_W) (H : Heap) (locs : List Loc) (ls : Array Slot), L ≤ 6 * j + n → 6 * j ≤ L + 6 → pv_LY s dC dI dA τ ρ h h0 h1 ws H locs → lv_has ls 4 [(3, .int (pv_I ((6 * j : Nat) : Int))), (2, .ref h1), (1, .ref h0), (0, .ref b)] → (cells ≤ 600000 ∧ slots ≤ 7302250) → W p l e room_1 s m #[Value.ref b] below meth c H locs cells slots (lw_Z below #[Value.ref b] s) (F0 m 18 ls []) := by
  intro n
  induction n with
  | zero =>
    intro j h ws H locs ls hn hj6 Y hl hc
    exact pv_lexit X hL (by omega) hj6 Y hl hc
  | succ n ih =>
    intro j h ws H locs ls hn hj6 Y hl hc
    by_cases hj : 6 * j + 6 ≤ L
    case neg => exact pv_lexit X hL hj hj6 Y hl hc
    obtain ⟨hx, hb, hr, hml, hown, hts, hX, hbl, hlk, hWd⟩ := id X
    obtain ⟨hT, t0, t1, hN, hM, hI, hQ, hR, hP, hD, hS⟩ := id Y
    have hbA : ¬ (fun q => s.heap.size ≤ q) b := fun z => by have : s.heap.size ≤ b := z; omega
    have kk : ∀ (h : pv_H) (ws : va_W) (H : Heap) (locs : List Loc), pv_LY s dC dI dA τ ρ h h0 h1 ws H locs → W p l e room_1 s m #[Value.ref b] below meth c H locs cells slots (lw_Z below #[Value.ref b] s) (F0 m 1529 ls []) := by
      intro h ws H locs Y
      refine lv_iinc (v := pv_I ((6 * (j + 1) : Nat) : Int)) (lv' := [(3, .int (pv_I ((6 * (j + 1) : Nat) : Int))), (2, .ref h1), (1, .ref h0), (0, .ref b)]) hx hb dL_1529 hl (k := 0) rfl ?_ (by decide) rfl (fun ls hl => ?_)
      · show pv_I ((6 * j : Nat) : Int) + pv_I 6 = _
        rw [pv_I_add]
        congr 1
      · refine lv_goto (tgt := 18) hx hb dL_1532 (by decide) ?_
        exact ih (j + 1) h ws H locs ls (by omega) (by omega) Y hl hc
    refine lv_iload_n hx hb dL_18 rfl (lv_at hl 0 rfl) ?_
    refine lv_aload_n hx hb dL_19 rfl (lv_at hl 3 rfl) ?_
    refine va_slen hx hb hX hbl hbA hS dL_20 ?_
    refine lv_bipush (v := 6) hx hb dL_21 (by decide) ?_
    refine lv_isub hx hb dL_23 ?_
    refine lv_icmp_gt (tgt := 1535) hx hb dL_24 (by decide) (fun c9 => absurd c9 (pv_lcmp hL hj)) (fun c9 => ?_)
    refine lv_aload_n hx hb dL_27 rfl (lv_at hl 3 rfl) ?_
    refine lv_iload_n hx hb dL_28 rfl (lv_at hl 0 rfl) ?_
    refine va_sld hx hb hX hbl hbA hS (pv_in_spec (pv_in_I (by omega) (by omega) (by omega))) dL_29 ?_
    refine lv_bipush (v := 63) hx hb dL_30 (by decide) ?_
    refine lv_iand hx hb dL_32 ?_
    refine lv_topi (fun x ex => ?_)
    clear ex
    by_cases c_0 : x = 0
    · subst c_0
      refine lv_tableIn (tgt := 220) hx hb dL_33 (by decide) (by decide) rfl (by decide) ?_
      exact lc_0 X hL hj hKok Y hl hc kk
    by_cases c_1 : x = 1
    · subst c_1
      refine lv_tableIn (tgt := 283) hx hb dL_33 (by decide) (by decide) rfl (by decide) ?_
      exact lc_1 X hL hj hKok Y hl hc kk
    by_cases c_2 : x = 2
    · subst c_2
      refine lv_tableIn (tgt := 306) hx hb dL_33 (by decide) (by decide) rfl (by decide) ?_
      exact lc_2 X hL hj hKok Y hl hc kk
    by_cases c_3 : x = 3
    · subst c_3
      refine lv_tableIn (tgt := 319) hx hb dL_33 (by decide) (by decide) rfl (by decide) ?_
      exact lc_3 X hL hj hKok Y hl hc kk
    by_cases c_4 : x = 4
    · subst c_4
      refine lv_tableIn (tgt := 342) hx hb dL_33 (by decide) (by decide) rfl (by decide) ?_
      exact lc_4 X hL hj hKok Y hl hc kk
    by_cases c_5 : x = 5
    · subst c_5
      refine lv_tableIn (tgt := 375) hx hb dL_33 (by decide) (by decide) rfl (by decide) ?_
      exact lc_5 X hL hj hKok Y hl hc kk
    by_cases c_6 : x = 6
    · subst c_6
      refine lv_tableIn (tgt := 408) hx hb dL_33 (by decide) (by decide) rfl (by decide) ?_
      exact lc_6 X hL hj hKok Y hl hc kk
    by_cases c_7 : x = 7
    · subst c_7
      refine lv_tableIn (tgt := 441) hx hb dL_33 (by decide) (by decide) rfl (by decide) ?_
      exact lc_7 X hL hj hKok Y hl hc kk
    by_cases c_8 : x = 8
    · subst c_8
      refine lv_tableIn (tgt := 464) hx hb dL_33 (by decide) (by decide) rfl (by decide) ?_
      exact lc_8 X hL hj hKok Y hl hc kk
    by_cases c_9 : x = 9
    · subst c_9
      refine lv_tableIn (tgt := 487) hx hb dL_33 (by decide) (by decide) rfl (by decide) ?_
      exact lc_9 X hL hj hKok Y hl hc kk
    by_cases c_10 : x = 10
    · subst c_10
      refine lv_tableIn (tgt := 520) hx hb dL_33 (by decide) (by decide) rfl (by decide) ?_
      exact lc_10 X hL hj hKok Y hl hc kk
    by_cases c_11 : x = 11
    · subst c_11
      refine lv_tableIn (tgt := 533) hx hb dL_33 (by decide) (by decide) rfl (by decide) ?_
      exact lc_11 X hL hj hKok Y hl hc kk
    by_cases c_12 : x = 12
    · subst c_12
      refine lv_tableIn (tgt := 546) hx hb dL_33 (by decide) (by decide) rfl (by decide) ?_
      exact lc_12 X hL hj hKok Y hl hc kk
    by_cases c_13 : x = 13
    · subst c_13
      refine lv_tableIn (tgt := 569) hx hb dL_33 (by decide) (by decide) rfl (by decide) ?_
      exact lc_13 X hL hj hKok Y hl hc kk
    by_cases c_14 : x = 14
    · subst c_14
      refine lv_tableIn (tgt := 612) hx hb dL_33 (by decide) (by decide) rfl (by decide) ?_
      exact lc_14 X hL hj hKok Y hl hc kk
    by_cases c_15 : x = 15
    · subst c_15
      refine lv_tableIn (tgt := 645) hx hb dL_33 (by decide) (by decide) rfl (by decide) ?_
      exact lc_15 X hL hj hKok Y hl hc kk
    by_cases c_16 : x = 16
    · subst c_16
      refine lv_tableIn (tgt := 678) hx hb dL_33 (by decide) (by decide) rfl (by decide) ?_
      exact lc_16 X hL hj hKok Y hl hc kk
    by_cases c_17 : x = 17
    · subst c_17
      refine lv_tableIn (tgt := 721) hx hb dL_33 (by decide) (by decide) rfl (by decide) ?_
      exact lc_17 X hL hj hKok Y hl hc kk
    by_cases c_18 : x = 18
    · subst c_18
      refine lv_tableIn (tgt := 774) hx hb dL_33 (by decide) (by decide) rfl (by decide) ?_
      exact lc_18 X hL hj hKok Y hl hc kk
    by_cases c_19 : x = 19
    · subst c_19
      refine lv_tableIn (tgt := 807) hx hb dL_33 (by decide) (by decide) rfl (by decide) ?_
      exact lc_19 X hL hj hKok Y hl hc kk
    by_cases c_20 : x = 20
    · subst c_20
      refine lv_tableIn (tgt := 840) hx hb dL_33 (by decide) (by decide) rfl (by decide) ?_
      exact lc_20 X hL hj hKok Y hl hc kk
    by_cases c_21 : x = 21
    · subst c_21
      refine lv_tableIn (tgt := 853) hx hb dL_33 (by decide) (by decide) rfl (by decide) ?_
      exact lc_21 X hL hj hKok Y hl hc kk
    by_cases c_22 : x = 22
    · subst c_22
      refine lv_tableIn (tgt := 876) hx hb dL_33 (by decide) (by decide) rfl (by decide) ?_
      exact lc_22 X hL hj hKok Y hl hc kk
    by_cases c_23 : x = 23
    · subst c_23
      refine lv_tableIn (tgt := 889) hx hb dL_33 (by decide) (by decide) rfl (by decide) ?_
      exact lc_23 X hL hj hKok Y hl hc kk
    by_cases c_24 : x = 24
    · subst c_24
      refine lv_tableIn (tgt := 902) hx hb dL_33 (by decide) (by decide) rfl (by decide) ?_
      exact lc_24 X hL hj hKok Y hl hc kk
    by_cases c_25 : x = 25
    · subst c_25
      refine lv_tableIn (tgt := 935) hx hb dL_33 (by decide) (by decide) rfl (by decide) ?_
      exact lc_25 X hL hj hKok Y hl hc kk
    by_cases c_26 : x = 26
    · subst c_26
      refine lv_tableIn (tgt := 978) hx hb dL_33 (by decide) (by decide) rfl (by decide) ?_
      exact lc_26 X hL hj hKok Y hl hc kk
    by_cases c_27 : x = 27
    · subst c_27
      refine lv_tableIn (tgt := 991) hx hb dL_33 (by decide) (by decide) rfl (by decide) ?_
      exact lc_27 X hL hj hKok Y hl hc kk
    by_cases c_28 : x = 28
    · subst c_28
      refine lv_tableIn (tgt := 1014) hx hb dL_33 (by decide) (by decide) rfl (by decide) ?_
      exact lc_28 X hL hj hKok Y hl hc kk
    by_cases c_29 : x = 29
    · subst c_29
      refine lv_tableIn (tgt := 1037) hx hb dL_33 (by decide) (by decide) rfl (by decide) ?_
      exact lc_29 X hL hj hKok Y hl hc kk
    by_cases c_30 : x = 30
    · subst c_30
      refine lv_tableIn (tgt := 1050) hx hb dL_33 (by decide) (by decide) rfl (by decide) ?_
      exact lc_30 X hL hj hKok Y hl hc kk
    by_cases c_31 : x = 31
    · subst c_31
      refine lv_tableIn (tgt := 1093) hx hb dL_33 (by decide) (by decide) rfl (by decide) ?_
      exact lc_31 X hL hj hKok Y hl hc kk
    by_cases c_32 : x = 32
    · subst c_32
      refine lv_tableIn (tgt := 1136) hx hb dL_33 (by decide) (by decide) rfl (by decide) ?_
      exact lc_32 X hL hj hKok Y hl hc kk
    by_cases c_33 : x = 33
    · subst c_33
      refine lv_tableIn (tgt := 1189) hx hb dL_33 (by decide) (by decide) rfl (by decide) ?_
      exact lc_33 X hL hj hKok Y hl hc kk
    by_cases c_34 : x = 34
    · subst c_34
      refine lv_tableIn (tgt := 1222) hx hb dL_33 (by decide) (by decide) rfl (by decide) ?_
      exact lc_34 X hL hj hKok Y hl hc kk
    by_cases c_35 : x = 35
    · subst c_35
      refine lv_tableIn (tgt := 1235) hx hb dL_33 (by decide) (by decide) rfl (by decide) ?_
      exact lc_35 X hL hj hKok Y hl hc kk
    by_cases c_36 : x = 36
    · subst c_36
      refine lv_tableIn (tgt := 1258) hx hb dL_33 (by decide) (by decide) rfl (by decide) ?_
      exact lc_36 X hL hj hKok Y hl hc kk
    by_cases c_37 : x = 37
    · subst c_37
      refine lv_tableIn (tgt := 1281) hx hb dL_33 (by decide) (by decide) rfl (by decide) ?_
      exact lc_37 X hL hj hKok Y hl hc kk
    by_cases c_38 : x = 38
    · subst c_38
      refine lv_tableIn (tgt := 1304) hx hb dL_33 (by decide) (by decide) rfl (by decide) ?_
      exact lc_38 X hL hj hKok Y hl hc kk
    by_cases c_39 : x = 39
    · subst c_39
      refine lv_tableIn (tgt := 1327) hx hb dL_33 (by decide) (by decide) rfl (by decide) ?_
      exact lc_39 X hL hj hKok Y hl hc kk
    by_cases c_40 : x = 40
    · subst c_40
      refine lv_tableIn (tgt := 1350) hx hb dL_33 (by decide) (by decide) rfl (by decide) ?_
      exact lc_40 X hL hj hKok Y hl hc kk
    by_cases c_41 : x = 41
    · subst c_41
      refine lv_tableIn (tgt := 1393) hx hb dL_33 (by decide) (by decide) rfl (by decide) ?_
      exact lc_41 X hL hj hKok Y hl hc kk
    by_cases c_42 : x = 42
    · subst c_42
      refine lv_tableIn (tgt := 1466) hx hb dL_33 (by decide) (by decide) rfl (by decide) ?_
      exact lc_42 X hL hj hKok Y hl hc kk
    refine lv_tableOut (tgt := 1529) hx hb dL_33 (pv_sw63 x ?_) (by decide) ?_
    · intro k hk
      match k, hk with
      | 0, _ => exact c_0
      | 1, _ => exact c_1
      | 2, _ => exact c_2
      | 3, _ => exact c_3
      | 4, _ => exact c_4
      | 5, _ => exact c_5
      | 6, _ => exact c_6
      | 7, _ => exact c_7
      | 8, _ => exact c_8
      | 9, _ => exact c_9
      | 10, _ => exact c_10
      | 11, _ => exact c_11
      | 12, _ => exact c_12
      | 13, _ => exact c_13
      | 14, _ => exact c_14
      | 15, _ => exact c_15
      | 16, _ => exact c_16
      | 17, _ => exact c_17
      | 18, _ => exact c_18
      | 19, _ => exact c_19
      | 20, _ => exact c_20
      | 21, _ => exact c_21
      | 22, _ => exact c_22
      | 23, _ => exact c_23
      | 24, _ => exact c_24
      | 25, _ => exact c_25
      | 26, _ => exact c_26
      | 27, _ => exact c_27
      | 28, _ => exact c_28
      | 29, _ => exact c_29
      | 30, _ => exact c_30
      | 31, _ => exact c_31
      | 32, _ => exact c_32
      | 33, _ => exact c_33
      | 34, _ => exact c_34
      | 35, _ => exact c_35
      | 36, _ => exact c_36
      | 37, _ => exact c_37
      | 38, _ => exact c_38
      | 39, _ => exact c_39
      | 40, _ => exact c_40
      | 41, _ => exact c_41
      | 42, _ => exact c_42
      | n + 43, hk => exact absurd hk (by omega)
    · exact kk _ _ _ _ Y
end WS
theorem kt_blind0 {dC : Nat → ClassId} {dI : Nat → Nat → Nat} {dA : Nat → ClassId} {as : List Value} {sz : Nat} {ws : va_W} : FrameBlind (va_Pc as (fun U => U.heap.size = sz ∧ va_P (dC, dI) pv_cls ws U.heap ∧ va_K (dC, dI) pv_cls (pv_tys dA) U ∧ va_D (fun _ => True) ws ∧ va_AO "AngleNet$Net" U ∧ va_AO "AngleNet$Row" U)) := fun a U g mk q => by
  obtain ⟨q0, q1, qP, qK, qD, q4, q5⟩ := q
  exact ⟨q0, q1, qP, va_K.moved (u := U) (U := U.calling g mk a) (Vm.Alike.refl U.vm) qK, qD, va_AO.moved (u := U) (U := U.calling g mk a) (Vm.Alike.refl U.vm) q4, va_AO.moved (u := U) (U := U.calling g mk a) (Vm.Alike.refl U.vm) q5⟩
theorem wq0a : Cond.initialized (pv_y 0).cls ∈ lw_tbl := by decide +kernel
theorem wq0b : Cond.methodLink R_law 9 (pv_y 0) ∈ lw_tbl := by decide +kernel
theorem wq0c : Cond.instanceMethod (pv_y 0) ∈ lw_tbl := by decide +kernel
theorem wq0d : pv_fr 0 + 1 ≤ 15 ∧ 8 + (pv_mL 0 + 11) + pv_lo 0 ≤ 558 := by decide +kernel
theorem wq1a : Cond.initialized (pv_y 182).cls ∈ lw_tbl := by decide +kernel
theorem wq1b : Cond.methodLink R_law 12 (pv_y 182) ∈ lw_tbl := by decide +kernel
theorem wq1c : Cond.instanceMethod (pv_y 182) ∈ lw_tbl := by decide +kernel
theorem wq1d : pv_fr 182 + 1 ≤ 15 ∧ 8 + (pv_mL 182 + 11) + pv_lo 182 ≤ 558 := by decide +kernel
theorem pv_rz_len {dA : Nat → ClassId} {ad : Nat → Nat} : ∀ (d : List pv_dE) (j : Nat), (pv_rz dA ad j d).length = d.length := by
  intro d
  induction d with
  | nil => intro j; rfl
  | cons e r ih => intro j; show (pv_rz dA ad (j + 1) r).length + 1 = r.length + 1; rw [ih]
theorem pv_mapR {α : Type} (w : List α) (z : α) : (List.range w.length).map (fun i => (w ++ [z])[i]?) = w.map some := by
  apply List.ext_getElem?
  intro i
  rw [List.getElem?_map, List.getElem?_map]
  by_cases hi : i < w.length
  · rw [List.getElem?_range hi, Option.map_some, List.getElem?_append_left hi, List.getElem?_eq_getElem hi, Option.map_some]
  · rw [List.getElem?_eq_none (by rw [List.length_range]; omega), List.getElem?_eq_none (by omega)]; rfl
set_option maxHeartbeats 8000000 in
set_option maxRecDepth 100000 in
/-- from the entry, for every script of at most 3072 ints, the law comes to its end with true -/
theorem whole_start {p : Program} {e : Env} {s : State} {m : MethodId} {below : List Frame} {meth : Method} {c : Code} (l : Launch) {b L : Nat} {xs : Nat → Int32} (hL : L ≤ 3072) (C0 : lw_At p s m meth c b L xs) : W p l e room_1 s m #[Value.ref b] below meth c s.heap [] 0 0 (lw_Z below #[Value.ref b] s) (entryFrame m ([Value.ref b] : List Value).toArray 4) := by
  obtain ⟨K, adV, dC, dI, dA, hWd, hKok, hAO4, hAO5⟩ := pv_start C0
  obtain ⟨hx, hb, hr, hml, hown, hts, hX, hbl, hlk, hgv⟩ := C0
  have hK := hWd.1
  have hA : ∀ q : Nat, s.heap.size ≤ q → (fun q => s.heap.size ≤ q) q := fun q h => h
  have hS : va_S (fun q => s.heap.size ≤ q) s.heap s.heap [] := va_S.rf
  have hP : va_P (dC, dI) pv_cls [] s.heap := fun k q hk => by simp at hk
  have hD : va_D (fun q => s.heap.size ≤ q) [] := ⟨fun i j q1 q2 h1 _ _ => by simp at h1, fun k q hk => by simp at hk⟩
  have hl := lv_entry ([.ref b]) (n := 4) (Nat.le_of_ble_eq_true rfl)
  rw [lg_entry_eq]
  generalize (lg_sl ([.ref b]) ++ List.replicate (4 - (lg_sl ([.ref b])).length) Slot.unset).toArray = ls at hl ⊢
  have hl : lv_has ls 4 [(0, .ref b)] := hl
  refine va_new (ci := 0) (fs := [.null, .null, .null, .null, .null, .null, .null, .null, .null]) (C := "AngleNet") (T := pv_T0) (N := 9) hx hb hts pv_w0 pv_t0 pv_k0 hown (hts (.classLink R_law 7 "AngleNet") (by decide +kernel)) (hts (.instantiable "AngleNet" 9) (by decide +kernel)) (hts (.initialized "AngleNet") (by decide +kernel)) hK hP hD hS hA rfl (by decide) (Nat.le_of_ble_eq_true rfl) (Nat.le_of_ble_eq_true rfl) dL_0 (fun h0 H hP hD hS => ?_)
  have hP : va_P (dC, dI) pv_cls [(h0, .inr (0, [.null, .null, .null, .null, .null, .null, .null, .null, .null]))] H := hP
  have hD : va_D (fun q => s.heap.size ≤ q) [(h0, .inr (0, [.null, .null, .null, .null, .null, .null, .null, .null, .null]))] := hD
  refine W.widen (k := 1) (n := 9) (Nat.le_of_ble_eq_true rfl) (Nat.le_of_ble_eq_true rfl) ?_
  refine lv_dup hx hb dL_3 rfl ?_
  have hFc := va_free (wc := [(h0, .inr (0, [.null, .null, .null, .null, .null, .null, .null, .null, .null]))]) hD hS hA [0] rfl
  refine va_callv (va_runI (As := []) (rest := [.ref h0]) ⟨hx, hb, hml, hown, hts⟩ (kt0 l dC dI dA h0 H.size) (cwI 0 hts (pv_GoodL lt0) rfl rfl rfl (hts _ wq0a) (hts _ wq0b) (hts _ wq0c) ya0 yb0 wq0d) ⟨kt_blind0, fun U hU hW => ⟨rfl, by rw [hU], by rw [hU]; exact hP, va_K.moved hW.alike hK, hD.weaken (fun _ _ _ _ => trivial), va_AO.moved hW.alike hAO4, va_AO.moved hW.alike hAO5⟩⟩ rfl rfl hl.1 rfl (lv_room (Nat.le_of_ble_eq_true rfl)) dL_4 ⟨Nat.le_of_ble_eq_true rfl, Nat.le_of_ble_eq_true rfl⟩) hS (fun q _ h => hFc q h) hFc (fun u t H1 locs ht hvm hw hB hz1 hk1 hS => ?_)
  obtain ⟨as, hP1, hK1, hD1⟩ := hB
  rw [ht] at hP1
  have hD1 : va_D (fun q => s.heap.size ≤ q) (pv_rz dA (fun i => (h0 :: as).getD i 0) 0 pv_d0) := hD1.weaken (fun _ _ _ h => hFc _ h)
  clear hP hD hFc hk1 hz1
  generalize H1 = H at hP1 hS ⊢
  generalize hw0 : pv_rz dA (fun i => (h0 :: as).getD i 0) 0 pv_d0 = w0 at hP1 hD1
  refine W.widen (k := 85) (n := 11802) (Nat.le_of_ble_eq_true rfl) (Nat.le_of_ble_eq_true rfl) ?_
  refine lv_astore_n (lv' := [(1, .ref h0), (0, .ref b)]) hx hb dL_7 rfl hl (by decide) rfl (fun ls hl => ?_)
  refine va_new (ci := 7) (fs := [.int 0, .null, .null, .null, .null, .int 0, .null, .int 0, .int 0, .int 0, .int 0, .int 0, .int 0, .int 0, .null, .null, .null, .null, .long 0, .null, .null, .int 0, .null, .null, .null, .null, .null, .null]) (C := "AngleNetModel") (T := pv_T7) (N := 28) hx hb hts pv_w7 pv_t7 pv_k7 hown (hts (.classLink R_law 10 "AngleNetModel") (by decide +kernel)) (hts (.instantiable "AngleNetModel" 28) (by decide +kernel)) (hts (.initialized "AngleNetModel") (by decide +kernel)) hK hP1 hD1 hS hA rfl (by decide) (Nat.le_of_ble_eq_true rfl) (Nat.le_of_ble_eq_true rfl) dL_8 (fun h1 H hP hD hS => ?_)
  refine W.widen (k := 86) (n := 11830) (Nat.le_of_ble_eq_true rfl) (Nat.le_of_ble_eq_true rfl) ?_
  refine lv_dup hx hb dL_11 rfl ?_
  have hlast : [w0.length].map (fun i => (w0 ++ [(h1, (.inr (7, [.int 0, .null, .null, .null, .null, .int 0, .null, .int 0, .int 0, .int 0, .int 0, .int 0, .int 0, .int 0, .null, .null, .null, .null, .long 0, .null, .null, .int 0, .null, .null, .null, .null, .null, .null]) : va_E))])[i]?) = [(h1, (.inr (7, [.int 0, .null, .null, .null, .null, .int 0, .null, .int 0, .int 0, .int 0, .int 0, .int 0, .int 0, .int 0, .null, .null, .null, .null, .long 0, .null, .null, .int 0, .null, .null, .null, .null, .null, .null]) : va_E))].map some := by simp
  have hPc := hP.sub (ws' := [(h1, .inr (7, [.int 0, .null, .null, .null, .null, .int 0, .null, .int 0, .int 0, .int 0, .int 0, .int 0, .int 0, .int 0, .null, .null, .null, .null, .long 0, .null, .null, .int 0, .null, .null, .null, .null, .null, .null]))]) [w0.length] (by simp)
  have hDc := hD.sub (ws' := [(h1, .inr (7, [.int 0, .null, .null, .null, .null, .int 0, .null, .int 0, .int 0, .int 0, .int 0, .int 0, .int 0, .int 0, .null, .null, .null, .null, .long 0, .null, .null, .int 0, .null, .null, .null, .null, .null, .null]))]) [w0.length] rfl hlast
  have hFc := va_free (wc := [(h1, .inr (7, [.int 0, .null, .null, .null, .null, .int 0, .null, .int 0, .int 0, .int 0, .int 0, .int 0, .int 0, .int 0, .null, .null, .null, .null, .long 0, .null, .null, .int 0, .null, .null, .null, .null, .null, .null]))]) hD hS hA [w0.length] hlast
  refine va_callv (va_runI (As := []) (rest := [.ref h1]) ⟨hx, hb, hml, hown, hts⟩ (kt182 l dC dI dA h1 H.size) (cwI 0 hts (pv_GoodL lt182) rfl rfl rfl (hts _ wq1a) (hts _ wq1b) (hts _ wq1c) ya182 yb182 wq1d) ⟨kt_blind, fun U hU hW => ⟨rfl, by rw [hU], by rw [hU]; exact hPc, va_K.moved hW.alike hK, hDc.weaken (fun _ _ _ _ => trivial)⟩⟩ rfl rfl hl.1 rfl (lv_room (Nat.le_of_ble_eq_true rfl)) dL_12 ⟨Nat.le_of_ble_eq_true rfl, Nat.le_of_ble_eq_true rfl⟩) hS (fun q _ h => hFc q h) hFc (fun u t H1 locs ht hvm hw hB hz1 hk1 hS => ?_)
  obtain ⟨bs, hP2, hK2, hD2⟩ := hB
  rw [ht] at hP2
  obtain ⟨hP, hD⟩ := va_join (wr := w0) (w1 := pv_rz dA (fun i => (h1 :: bs).getD i 0) 0 pv_d182) hP hD [w0.length] (List.range w0.length) hlast (pv_mapR _ _) (by rw [← hw0, pv_rz_len]; decide) (fun i hi hj => by have := List.mem_range.mp hi; have := List.mem_singleton.mp hj; omega) hk1 hFc hP2 hD2
  generalize H1 = H at hP hS ⊢
  rw [← hw0, pv_rz_ad] at hP hD
  clear hw0
  refine W.widen (k := 103) (n := 23034) (Nat.le_of_ble_eq_true rfl) (Nat.le_of_ble_eq_true rfl) ?_
  refine lv_astore_n (lv' := [(2, .ref h1), (1, .ref h0), (0, .ref b)]) hx hb dL_15 rfl hl (by decide) rfl (fun ls hl => ?_)
  refine lv_iconst (v := 0) hx hb dL_16 (by decide) ?_
  refine lv_istore_n (lv' := [(3, .int 0), (2, .ref h1), (1, .ref h0), (0, .ref b)]) hx hb dL_17 rfl hl (by decide) rfl (fun ls hl => ?_)
  have hI := pv_Inj.of hD
  have e0 : pv_ad h0 as h1 bs 0 = h0 := rfl
  have e1 : pv_ad h0 as h1 bs 85 = h1 := rfl
  have y1 : pv_tz (pv_ad h0 as h1 bs) pv_dZ pv_tl h0 = some 0 := by
    have := pv_tz_ad (tl := pv_tl) hI (i := 0) (by decide)
    rw [e0] at this
    exact this
  have y2 : pv_tz (pv_ad h0 as h1 bs) pv_dZ pv_tl h1 = some 7 := by
    have := pv_tz_ad (tl := pv_tl) hI (i := 85) (by decide)
    rw [e1] at this
    exact this
  have x1 := pv_XFz hI
  rw [e0] at x1
  have x2 := pv_MFz hI
  rw [e1] at x2
  have x4 := pv_rowz hI
  rw [e0] at x4
  have x3 := pv_imz hI
  rw [e1] at x3
  have hl : lv_has ls 4 [(3, .int (pv_I ((6 * 0 : Nat) : Int))), (2, .ref h1), (1, .ref h0), (0, .ref b)] := hl
  exact pv_loop ⟨hx, hb, hr, hml, hown, hts, hX, hbl, hlk, hWd⟩ hL hKok L 0 _ _ _ _ _ (by omega) (by omega) ⟨pv_Ty.hz hI pv_dZ_ok.1 pv_dZ_ok.2, y1, y2, pv_nkz hI, pw_ok.zero x2.1, x3, ⟨x4, fun i hi => Or.inl ⟨x1.2.2.1 i hi, x2.2.1 i hi⟩⟩, pv_R.hz, hP, hD, hS⟩ hl ⟨Nat.le_of_ble_eq_true rfl, Nat.le_of_ble_eq_true rfl⟩
