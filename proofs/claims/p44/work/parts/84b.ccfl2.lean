abbrev Q120 (τ : Nat → Option Nat) (ρ : Nat → Nat → Nat) (h : pv_H) (a0 : Nat) (x1 : Int) (x2 : Int) : Option Value → pv_H → Prop := fun r h' => h = h' ∧ ∃ z : Int, r = some (.int (pv_I z)) ∧ 0 ≤ z ∧ z ≤ 1 ∧ (z = 1 → nk_ff h ρ a0 x1 x2)
set_option maxHeartbeats 4000000 in
set_option maxRecDepth 20000 in
/-- AngleNet$Flips.isAllowed(LAngleNet$Net;II)Z -/
theorem ct120 {τ : Nat → Option Nat} {ρ : Nat → Nat → Nat} {K : Nat → Nat} {h : pv_H} {a0 : Nat} {x1 : Int} {x2 : Int} (hT : pv_Ty τ ρ h) (hA0 : τ a0 = some 2) (hX1 : 0 ≤ x1 ∧ x1 ≤ 9) (hX2 : 0 ≤ x2 ∧ x2 ≤ 9) (hP0 : nk_ok h ρ a0) (hP1 : x1 ≠ x2) : pv_C K 120 [.ref a0, .int (pv_I x1), .int (pv_I x2)] h (Q120 τ ρ h a0 x1 x2) := by
  refine pw_entry 2 ?_
  show pv_T K 120 0 (pv_fl [some (.ref a0), some (.int (pv_I x1)), some (.int (pv_I x2)), none, none]) [] h (Q120 τ ρ h a0 x1 x2)
  refine pw_aload_n d120_0 rfl ?_
  refine pw_iload_n d120_1 rfl ?_
  refine pw_iload_n d120_2 rfl ?_
  refine pw_iconst d120_3 ?_
  refine pw_callV3 d120_4 k120_9 hT hA0 rfl rfl rfl (ct88F (τ := τ) (ρ := ρ) hT hA0 (by omega) (by omega) (by omega)) (fun r4 h4 q4 => ?_)
  obtain ⟨eh4, z4, ez4, lz4, uz4, pz4_0⟩ := q4
  subst eh4
  subst ez4
  refine pw_istore_n d120_7 m120 rfl rfl ?_
  refine pw_iload_n d120_8 rfl ?_
  refine pw_iconst d120_9 ?_
  refine pw_icmp_ne d120_10 rfl (by omega) (by omega) (fun c10 => ?_) (fun c10 => ?_)
  · refine pw_aload_n d120_17 rfl ?_
    refine pw_iload_n d120_18 rfl ?_
    refine pw_iload_n d120_19 rfl ?_
    refine pw_iload_n d120_20 rfl ?_
    refine pw_iconst d120_21 ?_
    refine pw_iadd d120_22 ?_
    refine pw_callV3 d120_23 k120_9 hT hA0 rfl rfl rfl (ct88F (τ := τ) (ρ := ρ) hT hA0 (by omega) (by omega) (by omega)) (fun r23 h23 q23 => ?_)
    obtain ⟨eh23, z23, ez23, lz23, uz23, pz23_0⟩ := q23
    subst eh23
    subst ez23
    refine pw_istore d120_26 m120 rfl rfl ?_
    refine pw_iload d120_28 rfl ?_
    refine pw_iconst d120_30 ?_
    refine pw_icmp_ne d120_31 rfl (by omega) (by omega) (fun c31 => ?_) (fun c31 => ?_)
    · have np : 0 ≤ pv_fI h a0 0 ∧ pv_fI h a0 0 ≤ 10 := hT.fI hA0 rfl rfl
      have g36 := hP0.G
      have t36 : 0 ≤ z4 ∧ z4 < pv_fI h a0 1 ∧ pf_on (nk_c h ρ a0) (z4).toNat x1 x2 ∧ ∀ t : Nat, 0 ≤ (t : Int) → (t : Int) < z4 → ¬ pf_on (nk_c h ρ a0) t x1 x2 := by rcases pz4_0 with q | q; (exfalso; omega); exact q.2
      have u36 : z4 + 1 ≤ z23 ∧ z23 < pv_fI h a0 1 ∧ pf_on (nk_c h ρ a0) (z23).toNat x1 x2 ∧ ∀ t : Nat, z4 + 1 ≤ (t : Int) → (t : Int) < z23 → ¬ pf_on (nk_c h ρ a0) t x1 x2 := by rcases pz23_0 with q | q; (exfalso; omega); exact q.2
      have o36 := t36.2.2.1
      have v36 := u36.2.2.1
      have l36 := t36.2.1
      have m36 := u36.2.1
      have np2 := np.2
      refine pw_aload_n d120_36 rfl ?_
      refine pw_aload_n d120_37 rfl ?_
      refine pw_iload_n d120_38 rfl ?_
      refine pw_iload_n d120_39 rfl ?_
      refine pw_iload_n d120_40 rfl ?_
      refine pw_callV3 d120_41 k120_15 hT hA0 rfl rfl rfl (ct90F (τ := τ) (ρ := ρ) hT hA0 (by omega) (by omega) (by omega) (by first | assumption | omega) (by first | assumption | omega) (by first | assumption | omega) (by first | assumption | omega) (by first | assumption | omega)) (fun r41 h41 q41 => ?_)
      obtain ⟨eh41, z41, ez41, lz41, uz41, pz41_0⟩ := q41
      subst eh41
      subst ez41
      refine pw_aload_n d120_44 rfl ?_
      refine pw_iload d120_45 rfl ?_
      refine pw_iload_n d120_47 rfl ?_
      refine pw_iload_n d120_48 rfl ?_
      refine pw_callV3 d120_49 k120_15 hT hA0 rfl rfl rfl (ct90F (τ := τ) (ρ := ρ) hT hA0 (by omega) (by omega) (by omega) (by first | assumption | omega) (by first | assumption | omega) (by first | assumption | omega) (by first | assumption | omega) (by first | assumption | omega)) (fun r49 h49 q49 => ?_)
      obtain ⟨eh49, z49, ez49, lz49, uz49, pz49_0⟩ := q49
      subst eh49
      subst ez49
      refine pw_callV2 d120_52 k120_18 hT hA0 rfl rfl rfl (ct47F (τ := τ) (ρ := ρ) hT hA0 (by omega) (by omega)) (fun r52 h52 q52 => ?_)
      obtain ⟨eh52, z52, ez52, lz52, uz52, pz52_0, pz52_1⟩ := q52
      subst eh52
      subst ez52
      refine pw_if_ne d120_55 rfl (by omega) (fun c55 => ?_) (fun c55 => ?_)
      · refine pw_iconst d120_62 ?_
        exact pw_zreturn d120_63 tt120 (by omega) ⟨rfl, 0, rfl, (by omega), (by omega), (by first | (intro e; exfalso; omega) | (intro _; exact ia_ff hP0 np.2 hP1 (by omega) o36 t36.2.2.2 (by omega) v36 u36.2.2.2 pz41_0 pz49_0 pz52_1 (by omega)))⟩
      · refine pw_iconst d120_58 ?_
        refine pw_goto d120_59 rfl ?_
        exact pw_zreturn d120_63 tt120 (by omega) ⟨rfl, 1, rfl, (by omega), (by omega), (by first | (intro e; exfalso; omega) | (intro _; exact ia_ff hP0 np.2 hP1 (by omega) o36 t36.2.2.2 (by omega) v36 u36.2.2.2 pz41_0 pz49_0 pz52_1 (by omega)))⟩
    · refine pw_iconst d120_34 ?_
      exact pw_zreturn d120_35 tt120 (by omega) ⟨rfl, 0, rfl, (by omega), (by omega), (by first | (intro e; exfalso; omega) | (intro _; exact ia_ff hP0 np.2 hP1 (by omega) o36 t36.2.2.2 (by omega) v36 u36.2.2.2 pz41_0 pz49_0 pz52_1 (by omega)))⟩
  · refine pw_iconst d120_13 ?_
    refine pw_goto d120_14 rfl ?_
    refine pw_istore d120_26 m120 rfl rfl ?_
    refine pw_iload d120_28 rfl ?_
    refine pw_iconst d120_30 ?_
    refine pw_icmp_ne d120_31 rfl (by omega) (by omega) (fun c31 => ?_) (fun c31 => ?_)
    · exfalso; omega
    · refine pw_iconst d120_34 ?_
      exact pw_zreturn d120_35 tt120 (by omega) ⟨rfl, 0, rfl, (by omega), (by omega), (by first | (intro e; exfalso; omega) | (intro _; exact ia_ff hP0 np.2 hP1 (by omega) o36 t36.2.2.2 (by omega) v36 u36.2.2.2 pz41_0 pz49_0 pz52_1 (by omega)))⟩
