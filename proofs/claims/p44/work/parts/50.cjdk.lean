abbrev Q67 (τ : Nat → Option Nat) (ρ : Nat → Nat → Nat) (h : pv_H) (x0 : Int) : Option Value → pv_H → Prop := fun r h' => h = h' ∧ ∃ z : Int, r = some (.int (pv_I z)) ∧ (-2147483648) ≤ z ∧ z ≤ 2147483647
set_option maxHeartbeats 4000000 in
set_option maxRecDepth 20000 in
/-- java/lang/Integer.bitCount(I)I -/
theorem ct67 {τ : Nat → Option Nat} {ρ : Nat → Nat → Nat} {K : Nat → Nat} {h : pv_H} {x0 : Int} (hX0 : (-2147483648) ≤ x0 ∧ x0 ≤ 2147483647) : pv_C K 67 [.int (pv_I x0)] h (Q67 τ ρ h x0) := by
  refine pw_entry 0 ?_
  show pv_T K 67 0 (pv_fl [some (.int (pv_I x0))]) [] h (Q67 τ ρ h x0)
  refine pw_iload_n d67_0 rfl ?_
  refine pw_iload_n d67_1 rfl ?_
  refine pw_iconst d67_2 ?_
  refine pw_iushr d67_3 (fun z3 hz3 ez3 => ?_)
  refine pw_ldcw (v := pv_I 1431655765) d67_4 n67_4 ?_
  refine pw_iand d67_7 (fun z7 hz7 ez7 => ?_)
  refine pw_isub d67_8 ?_
  refine pw_any (fun z9 hz9 ez9 => ?_)
  refine pw_istore_n d67_9 m67 rfl rfl ?_
  refine pw_iload_n d67_10 rfl ?_
  refine pw_ldcw (v := pv_I 858993459) d67_11 n67_11 ?_
  refine pw_iand d67_14 (fun z14 hz14 ez14 => ?_)
  refine pw_iload_n d67_15 rfl ?_
  refine pw_iconst d67_16 ?_
  refine pw_iushr d67_17 (fun z17 hz17 ez17 => ?_)
  refine pw_ldcw (v := pv_I 858993459) d67_18 n67_18 ?_
  refine pw_iand d67_21 (fun z21 hz21 ez21 => ?_)
  refine pw_iadd d67_22 ?_
  refine pw_any (fun z23 hz23 ez23 => ?_)
  refine pw_istore_n d67_23 m67 rfl rfl ?_
  refine pw_iload_n d67_24 rfl ?_
  refine pw_iload_n d67_25 rfl ?_
  refine pw_iconst d67_26 ?_
  refine pw_iushr d67_27 (fun z27 hz27 ez27 => ?_)
  refine pw_iadd d67_28 ?_
  refine pw_ldcw (v := pv_I 252645135) d67_29 n67_29 ?_
  refine pw_iand d67_32 (fun z32 hz32 ez32 => ?_)
  refine pw_istore_n d67_33 m67 rfl rfl ?_
  refine pw_iload_n d67_34 rfl ?_
  refine pw_iload_n d67_35 rfl ?_
  refine pw_bipush d67_36 (by decide) ?_
  refine pw_iushr d67_38 (fun z38 hz38 ez38 => ?_)
  refine pw_iadd d67_39 ?_
  refine pw_any (fun z40 hz40 ez40 => ?_)
  refine pw_istore_n d67_40 m67 rfl rfl ?_
  refine pw_iload_n d67_41 rfl ?_
  refine pw_iload_n d67_42 rfl ?_
  refine pw_bipush d67_43 (by decide) ?_
  refine pw_iushr d67_45 (fun z45 hz45 ez45 => ?_)
  refine pw_iadd d67_46 ?_
  refine pw_any (fun z47 hz47 ez47 => ?_)
  refine pw_istore_n d67_47 m67 rfl rfl ?_
  refine pw_iload_n d67_48 rfl ?_
  refine pw_bipush d67_49 (by decide) ?_
  refine pw_iand d67_51 (fun z51 hz51 ez51 => ?_)
  exact pw_ireturn d67_52 tt67 ⟨rfl, z51, rfl, (by omega), (by omega)⟩
