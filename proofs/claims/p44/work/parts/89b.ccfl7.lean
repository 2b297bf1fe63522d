abbrev Q132 (τ : Nat → Option Nat) (ρ : Nat → Nat → Nat) (h : pv_H) (a0 : Nat) (x1 : Int) : Option Value → pv_H → Prop := fun r h' => pv_Ty τ ρ h' ∧ pv_Fr τ [1343, 1407, 1791] h h' ∧ r = none ∧ ((nk_c h' ρ a0 ((pv_aI h (ρ a0 13) (x1).toNat)).toNat 0 = (pv_aI h (ρ a0 13) ((x1 + 1)).toNat) ∧ nk_c h' ρ a0 ((pv_aI h (ρ a0 13) (x1).toNat)).toNat 1 = (pv_aI h (ρ a0 13) ((x1 + 2)).toNat) ∧ nk_c h' ρ a0 ((pv_aI h (ρ a0 13) (x1).toNat)).toNat 2 = (pv_aI h (ρ a0 13) ((x1 + 3)).toNat)) ∧ ∀ v k : Nat, k < 3 → v ≠ ((pv_aI h (ρ a0 13) (x1).toNat)).toNat → nk_c h' ρ a0 v k = nk_c h ρ a0 v k) ∧ (∀ p q : Nat, p < 10 → q < 10 → pv_aI h' (ρ a0 12) (10 * p + q) = pv_aI h (ρ a0 12) (10 * p + q) + pf_cn (nk_c h' ρ a0) ((pv_aI h (ρ a0 13) (x1).toNat)).toNat p q)
set_option maxHeartbeats 4000000 in
set_option maxRecDepth 20000 in
/-- AngleNet$Flips.restore(LAngleNet$Net;I)V -/
theorem ct132 {τ : Nat → Option Nat} {ρ : Nat → Nat → Nat} {K : Nat → Nat} {h : pv_H} {a0 : Nat} {x1 : Int} (hT : pv_Ty τ ρ h) (hA0 : τ a0 = some 2) (hX1 : 0 ≤ x1 ∧ x1 ≤ 1282) (hP0 : x1 % 13 = 3 ∨ x1 % 13 = 8) (hP1 : ∀ j : Nat, j < 100 → -1000 ≤ pv_aI h (ρ a0 12) j ∧ pv_aI h (ρ a0 12) j ≤ 1000) : pv_C K 132 [.ref a0, .int (pv_I x1)] h (Q132 τ ρ h a0 x1) := by
  refine pw_entry 1 ?_
  show pv_T K 132 0 (pv_fl [some (.ref a0), some (.int (pv_I x1)), none]) [] h (Q132 τ ρ h a0 x1)
  have hR0_13 : τ (ρ a0 13) = some 28 := hT.rf (t' := 28) hA0 rfl rfl
  have hF0 : pv_Fr τ [1343, 1407, 1791] h h := pv_Fr.rf
  refine pw_aload_n d132_0 rfl ?_
  refine pw_getR d132_1 g132_70 hT hA0 rfl rfl (fun t1 => ?_)
  have t1 : τ (ρ a0 13) = some 28 := t1
  refine pw_astore_n d132_4 m132 rfl rfl ?_
  refine pw_aload_n d132_5 rfl ?_
  refine pw_aload_n d132_6 rfl ?_
  refine pw_iload_n d132_7 rfl ?_
  refine pw_ialdP (lo := 0) (hi := 17) d132_8 hT t1 rfl rfl (by omega) (by omega) (by rcases (show (x1).toNat % 13 = 3 ∨ (x1).toNat % 13 = 8 by omega) with e9 | e9 <;> exact pw_perR e9 rfl) (fun u8 vu8 => ?_)
  refine pw_aload_n d132_9 rfl ?_
  refine pw_iload_n d132_10 rfl ?_
  refine pw_iconst d132_11 ?_
  refine pw_iadd d132_12 ?_
  refine pw_ialdP (lo := 0) (hi := 9) d132_13 hT t1 rfl rfl (by omega) (by omega) (by rcases (show ((x1 + 1)).toNat % 13 = 4 ∨ ((x1 + 1)).toNat % 13 = 9 by omega) with e9 | e9 <;> exact pw_perR e9 rfl) (fun u13 vu13 => ?_)
  refine pw_aload_n d132_14 rfl ?_
  refine pw_iload_n d132_15 rfl ?_
  refine pw_iconst d132_16 ?_
  refine pw_iadd d132_17 ?_
  refine pw_ialdP (lo := 0) (hi := 9) d132_18 hT t1 rfl rfl (by omega) (by omega) (by rcases (show ((x1 + 2)).toNat % 13 = 5 ∨ ((x1 + 2)).toNat % 13 = 10 by omega) with e9 | e9 <;> exact pw_perR e9 rfl) (fun u18 vu18 => ?_)
  refine pw_aload_n d132_19 rfl ?_
  refine pw_iload_n d132_20 rfl ?_
  refine pw_iconst d132_21 ?_
  refine pw_iadd d132_22 ?_
  refine pw_ialdP (lo := 0) (hi := 9) d132_23 hT t1 rfl rfl (by omega) (by omega) (by rcases (show ((x1 + 3)).toNat % 13 = 6 ∨ ((x1 + 3)).toNat % 13 = 11 by omega) with e9 | e9 <;> exact pw_perR e9 rfl) (fun u23 vu23 => ?_)
  refine pw_aload_n d132_24 rfl ?_
  refine pw_iload_n d132_25 rfl ?_
  refine pw_iconst d132_26 ?_
  refine pw_iadd d132_27 ?_
  refine pw_ialdP (lo := 0) (hi := 540) d132_28 hT t1 rfl rfl (by omega) (by omega) (by rcases (show ((x1 + 4)).toNat % 13 = 7 ∨ ((x1 + 4)).toNat % 13 = 12 by omega) with e9 | e9 <;> exact pw_perR e9 rfl) (fun u28 vu28 => ?_)
  refine pw_callV5 d132_29 k132_85 hT hA0 rfl rfl rfl (ct42F (τ := τ) (ρ := ρ) hT hA0 (by omega) (by omega) (by omega) (by omega) (by omega) (by first | assumption | omega)) (fun r29 h29 q29 => ?_)
  obtain ⟨T29, F29, ez29, pz29_0, pz29_1⟩ := q29
  subst ez29
  have f29 := hF0.tr (F29.up (by decide))
  exact pw_return d132_32 tt132 ⟨T29, f29, rfl, (by exact pz29_0), (by exact pz29_1)⟩
