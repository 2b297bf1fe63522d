abbrev Q67 (τ : Nat → Option Nat) (ρ : Nat → Nat → Nat) (h : pv_H) (x0 : Int) : Option Value → pv_H → Prop := fun r h' => h = h' ∧ ∃ z : Int, r = some (.int (pv_I z)) ∧ (-2147483648) ≤ z ∧ z ≤ 2147483647
set_option maxHeartbeats 4000000 in
set_option maxRecDepth 20000 in
/-- java/lang/Integer.bitCount(I)I -/
theorem c67 {τ : Nat → Option Nat} {ρ : Nat → Nat → Nat} {K : Nat → Nat} {h : pv_H} {x0 : Int} (hX0 : (-2147483648) ≤ x0 ∧ x0 ≤ 2147483647) : pv_C K 67 [.int (pv_I x0)] h (Q67 τ ρ h x0) := by
  refine pw_entry 0 ?_
  show pv_T K 67 0 (pv_fl [some (.int (pv_I x0))]) [] h (Q67 τ ρ h x0)
  refine pw_iload_n d67_0 rfl ?_
  refine pw_iload_n d67_1 rfl ?_
  refine pw_iconst d67_2 ?_
  refine pw_iushr d67_3 (fun z29 hz29 ez29 => ?_)
  refine pw_ldcw (v := pv_I 1431655765) d67_4 n67_4 ?_
  refine pw_iand d67_7 (fun z30 hz30 ez30 => ?_)
  refine pw_isub d67_8 ?_
  refine pw_any (fun z31 hz31 ez31 => ?_)
  refine pw_istore_n d67_9 m67 rfl rfl ?_
  refine pw_iload_n d67_10 rfl ?_
  refine pw_ldcw (v := pv_I 858993459) d67_11 n67_11 ?_
  refine pw_iand d67_14 (fun z32 hz32 ez32 => ?_)
  refine pw_iload_n d67_15 rfl ?_
  refine pw_iconst d67_16 ?_
  refine pw_iushr d67_17 (fun z33 hz33 ez33 => ?_)
  refine pw_ldcw (v := pv_I 858993459) d67_18 n67_18 ?_
  refine pw_iand d67_21 (fun z34 hz34 ez34 => ?_)
  refine pw_iadd d67_22 ?_
  refine pw_any (fun z35 hz35 ez35 => ?_)
  refine pw_istore_n d67_23 m67 rfl rfl ?_
  refine pw_iload_n d67_24 rfl ?_
  refine pw_iload_n d67_25 rfl ?_
  refine pw_iconst d67_26 ?_
  refine pw_iushr d67_27 (fun z36 hz36 ez36 => ?_)
  refine pw_iadd d67_28 ?_
  refine pw_ldcw (v := pv_I 252645135) d67_29 n67_29 ?_
  refine pw_iand d67_32 (fun z37 hz37 ez37 => ?_)
  refine pw_istore_n d67_33 m67 rfl rfl ?_
  refine pw_iload_n d67_34 rfl ?_
  refine pw_iload_n d67_35 rfl ?_
  refine pw_bipush d67_36 (by decide) ?_
  refine pw_iushr d67_38 (fun z38 hz38 ez38 => ?_)
  refine pw_iadd d67_39 ?_
  refine pw_any (fun z39 hz39 ez39 => ?_)
  refine pw_istore_n d67_40 m67 rfl rfl ?_
  refine pw_iload_n d67_41 rfl ?_
  refine pw_iload_n d67_42 rfl ?_
  refine pw_bipush d67_43 (by decide) ?_
  refine pw_iushr d67_45 (fun z40 hz40 ez40 => ?_)
  refine pw_iadd d67_46 ?_
  refine pw_any (fun z41 hz41 ez41 => ?_)
  refine pw_istore_n d67_47 m67 rfl rfl ?_
  refine pw_iload_n d67_48 rfl ?_
  refine pw_bipush d67_49 (by decide) ?_
  refine pw_iand d67_51 (fun z42 hz42 ez42 => ?_)
  exact pw_ireturn d67_52 t67 ⟨rfl, z42, rfl, (by omega), (by omega)⟩
