abbrev Q197F (τ : Nat → Option Nat) (ρ : Nat → Nat → Nat) (h : pv_H) (a0 : Nat) (s1 : Nat) : Option Value → pv_H → Prop := fun r h' => h = h' ∧ ∃ z : Int, r = some (.int (pv_I z)) ∧ 0 ≤ z ∧ z ≤ 1 ∧ ((z = 1 ∧ pt_w (pv_aI h (ρ a0 4)) (pv_fI h a0 12) (pv_fI h a0 10) (pv_fI h a0 8) (pv_fI h a0 9) s1) ∨ (z = 0 ∧ ¬ pt_w (pv_aI h (ρ a0 4)) (pv_fI h a0 12) (pv_fI h a0 10) (pv_fI h a0 8) (pv_fI h a0 9) s1))
set_option maxHeartbeats 4000000 in
set_option maxRecDepth 20000 in
/-- AngleNetModel.is(Ljava/lang/String;)Z -/
theorem ct197F {τ : Nat → Option Nat} {ρ : Nat → Nat → Nat} {K : Nat → Nat} {h : pv_H} {a0 : Nat} {s1 : Nat} (hK : pv_Kok K) (hT : pv_Ty τ ρ h) (hA0 : τ a0 = some 7) (hS1 : s1 < 9) (hP0 : pv_fI h a0 8 ≤ 1600) : pv_C K 197 [.ref a0, .ref (K s1)] h (Q197F τ ρ h a0 s1) := by
  refine pw_entry 2 ?_
  show pv_T K 197 0 (pv_fl [some (.ref a0), some (.ref (K s1)), none, none]) [] h (Q197F τ ρ h a0 s1)
  have hR0_4 : τ (ρ a0 4) = some 43 := hT.rf (t' := 43) hA0 rfl rfl
  have L39 : ∀ (nn : Nat) (xL2_39 xL3_39 : Int), (0 ≤ xL2_39 ∧ xL2_39 ≤ 1) → (0 ≤ xL3_39 ∧ xL3_39 ≤ 6) → ((xL2_39 = 1 ∧ (pv_fI h a0 12 = 0 ∧ pv_fI h a0 10 = 1 ∧ pv_fI h a0 8 - pv_fI h a0 9 = (pv_len.getD s1 0 : Int)) ∧ ∀ j : Nat, (j : Int) < xL3_39 → pv_aI h (ρ a0 4) (pv_fI h a0 9 + j).toNat = pt_ch s1 j) ∨ (xL2_39 = 0 ∧ ¬ pt_w (pv_aI h (ρ a0 4)) (pv_fI h a0 12) (pv_fI h a0 10) (pv_fI h a0 8) (pv_fI h a0 9) s1)) → 6 - xL3_39 < nn → pv_T K 197 39 (pv_fl [some (.ref a0), some (.ref (K s1)), some (.int (pv_I xL2_39)), some (.int (pv_I xL3_39))]) [] h (Q197F τ ρ h a0 s1) := by
    intro nn
    induction nn with
    | zero => intro xL2_39 xL3_39 rL2_39 rL3_39 i0_39 hm; exfalso; omega
    | succ nn ih39 =>
      intro xL2_39 xL3_39 rL2_39 rL3_39 i0_39 hm39
      have J75 : ∀ (xS0_75 : Int) (o2_75 : Option Value), (0 ≤ xL3_39 ∧ xL3_39 ≤ 5) → (0 ≤ xS0_75 ∧ xS0_75 ≤ 1) → ((xS0_75 = 1 ∧ pv_aI h (ρ a0 4) (pv_fI h a0 9 + xL3_39).toNat = pt_ch s1 (xL3_39).toNat) ∨ (xS0_75 = 0 ∧ ¬ pv_aI h (ρ a0 4) (pv_fI h a0 9 + xL3_39).toNat = pt_ch s1 (xL3_39).toNat)) → ((pv_fI h a0 12 = 0 ∧ pv_fI h a0 10 = 1 ∧ pv_fI h a0 8 - pv_fI h a0 9 = (pv_len.getD s1 0 : Int)) ∧ (∀ j : Nat, (j : Int) < xL3_39 → pv_aI h (ρ a0 4) (pv_fI h a0 9 + j).toNat = pt_ch s1 j) ∧ xL3_39 < (pv_len.getD s1 0 : Int)) → pv_T K 197 75 (pv_fl [some (.ref a0), some (.ref (K s1)), o2_75, some (.int (pv_I xL3_39))]) [.int (pv_I xS0_75)] h (Q197F τ ρ h a0 s1) := by
        intro xS0_75 o2_75 rL3_75 rS0_75 i0_75 i1_75
        refine pw_istore_n d197_75 m197 rfl rfl ?_
        refine pw_iinc d197_76 m197 rfl rfl rfl ?_
        refine pw_goto d197_79 rfl ?_
        exact ih39 (xS0_75) ((xL3_39 + 1)) (by omega) (by omega) (by first | (rcases i0_36 with q | q; exact Or.inl ⟨q.1, q.2, fun j hj => by omega⟩; exact Or.inr ⟨q.1, is_no q.2⟩) | (rcases i0_75 with q | q; exact Or.inl ⟨q.1, i1_75.1, is_st (by omega) i1_75.2.1 q.2⟩; exact Or.inr ⟨q.1, is_nc (by omega) i1_75.2.2 q.2⟩)) (by omega)
      refine pw_iload_n d197_39 rfl ?_
      refine pw_aload_n d197_40 rfl ?_
      refine pw_slen d197_41 k197_125 hK hS1 rfl (fun u41 vu41 => ?_)
      refine pw_icmp_ge d197_44 rfl (by omega) (by omega) (fun c44 => ?_) (fun c44 => ?_)
      · refine pw_iload_n d197_82 rfl ?_
        exact pw_zreturn d197_83 tt197 (by omega) ⟨rfl, xL2_39, rfl, (by omega), (by omega), (by first | (rcases i0_39 with q | q; exact Or.inl ⟨q.1, is_yes q.2.1 q.2.2 (by omega)⟩; exact Or.inr ⟨q.1, q.2⟩) | (rcases i0_39 with q | q; (exfalso; omega); exact Or.inr ⟨q.1, q.2⟩))⟩
      · refine pw_iload_n d197_47 rfl ?_
        refine pw_if_eq d197_48 rfl (by omega) (fun c48 => ?_) (fun c48 => ?_)
        · refine pw_iload_n d197_82 rfl ?_
          exact pw_zreturn d197_83 tt197 (by omega) ⟨rfl, xL2_39, rfl, (by omega), (by omega), (by first | (rcases i0_39 with q | q; exact Or.inl ⟨q.1, is_yes q.2.1 q.2.2 (by omega)⟩; exact Or.inr ⟨q.1, q.2⟩) | (rcases i0_39 with q | q; (exfalso; omega); exact Or.inr ⟨q.1, q.2⟩))⟩
        · have bb51 : (pv_fI h a0 12 = 0 ∧ pv_fI h a0 10 = 1 ∧ pv_fI h a0 8 - pv_fI h a0 9 = (pv_len.getD s1 0 : Int)) ∧ (∀ j : Nat, (j : Int) < xL3_39 → pv_aI h (ρ a0 4) (pv_fI h a0 9 + j).toNat = pt_ch s1 j) := by rcases i0_39 with q | q; exact q.2; (exfalso; omega)
          have bc51 := bb51.1
          refine pw_aload_n d197_51 rfl ?_
          refine pw_getR d197_52 g197_20 hT hA0 rfl rfl (fun t52 => ?_)
          have t52 : τ (ρ a0 4) = some 43 := t52
          refine pw_aload_n d197_55 rfl ?_
          refine pw_getI d197_56 g197_94 hT hA0 rfl rfl (fun u56 vu56 => ?_)
          refine pw_iload_n d197_59 rfl ?_
          refine pw_iadd d197_60 ?_
          refine pw_bald d197_61 hT t52 rfl (by decide) rfl (by omega) (by omega) (fun u61 vu61 => ?_)
          refine pw_aload_n d197_62 rfl ?_
          refine pw_iload_n d197_63 rfl ?_
          refine pw_scha d197_64 k197_131 hK hS1 rfl (by omega) (by omega) (fun z64 hz64 ez64 => ?_)
          have cz67 := pt_chz hz64 ez64
          refine pw_icmp_ne d197_67 rfl (by omega) (by omega) (fun c67 => ?_) (fun c67 => ?_)
          · refine pw_iconst d197_74 ?_
            exact J75 (0) _ (by omega) (by omega) (by first | exact Or.inl ⟨rfl, by omega⟩ | exact Or.inr ⟨rfl, by omega⟩) (by exact ⟨bb51.1, bb51.2, by omega⟩)
          · refine pw_iconst d197_70 ?_
            refine pw_goto d197_71 rfl ?_
            exact J75 (1) _ (by omega) (by omega) (by first | exact Or.inl ⟨rfl, by omega⟩ | exact Or.inr ⟨rfl, by omega⟩) (by exact ⟨bb51.1, bb51.2, by omega⟩)
  have J36 : ∀ (xS0_36 : Int) (o2_36 o3_36 : Option Value), (0 ≤ xS0_36 ∧ xS0_36 ≤ 1) → ((xS0_36 = 1 ∧ pv_fI h a0 12 = 0 ∧ pv_fI h a0 10 = 1 ∧ pv_fI h a0 8 - pv_fI h a0 9 = (pv_len.getD s1 0 : Int)) ∨ (xS0_36 = 0 ∧ ¬ (pv_fI h a0 12 = 0 ∧ pv_fI h a0 10 = 1 ∧ pv_fI h a0 8 - pv_fI h a0 9 = (pv_len.getD s1 0 : Int)))) → pv_T K 197 36 (pv_fl [some (.ref a0), some (.ref (K s1)), o2_36, o3_36]) [.int (pv_I xS0_36)] h (Q197F τ ρ h a0 s1) := by
    intro xS0_36 o2_36 o3_36 rS0_36 i0_36
    refine pw_istore_n d197_36 m197 rfl rfl ?_
    refine pw_iconst d197_37 ?_
    refine pw_istore_n d197_38 m197 rfl rfl ?_
    exact L39 _ (xS0_36) (0) (by omega) (by omega) (by first | (rcases i0_36 with q | q; exact Or.inl ⟨q.1, q.2, fun j hj => by omega⟩; exact Or.inr ⟨q.1, is_no q.2⟩) | (rcases i0_75 with q | q; exact Or.inl ⟨q.1, i1_75.1, is_st (by omega) i1_75.2.1 q.2⟩; exact Or.inr ⟨q.1, is_nc (by omega) i1_75.2.2 q.2⟩)) (pv_mu _)
  have J35 : ∀ (o2_35 o3_35 : Option Value), (¬ (pv_fI h a0 12 = 0 ∧ pv_fI h a0 10 = 1 ∧ pv_fI h a0 8 - pv_fI h a0 9 = (pv_len.getD s1 0 : Int))) → pv_T K 197 35 (pv_fl [some (.ref a0), some (.ref (K s1)), o2_35, o3_35]) [] h (Q197F τ ρ h a0 s1) := by
    intro o2_35 o3_35 i0_35
    refine pw_iconst d197_35 ?_
    exact J36 (0) _ _ (by omega) (by first | exact Or.inl ⟨rfl, by omega, by omega, by omega⟩ | exact Or.inr ⟨rfl, i0_35⟩)
  refine pw_aload_n d197_0 rfl ?_
  refine pw_callV0 d197_1 k197_121 hT hA0 rfl rfl rfl (ct192 (τ := τ) (ρ := ρ) hT hA0) (fun r1 h1 q1 => ?_)
  obtain ⟨eh1, z1, ez1, lz1, uz1, pz1_0⟩ := q1
  subst eh1
  subst ez1
  refine pw_if_eq d197_4 rfl (by omega) (fun c4 => ?_) (fun c4 => ?_)
  · exact J35 _ _ (by omega)
  · refine pw_aload_n d197_7 rfl ?_
    refine pw_getI d197_8 g197_97 hT hA0 rfl rfl (fun u8 vu8 => ?_)
    refine pw_iconst d197_11 ?_
    refine pw_icmp_ne d197_12 rfl (by omega) (by omega) (fun c12 => ?_) (fun c12 => ?_)
    · exact J35 _ _ (by omega)
    · refine pw_aload_n d197_15 rfl ?_
      refine pw_getI d197_16 g197_87 hT hA0 rfl rfl (fun u16 vu16 => ?_)
      refine pw_aload_n d197_19 rfl ?_
      refine pw_getI d197_20 g197_94 hT hA0 rfl rfl (fun u20 vu20 => ?_)
      refine pw_isub d197_23 ?_
      refine pw_aload_n d197_24 rfl ?_
      refine pw_slen d197_25 k197_125 hK hS1 rfl (fun u25 vu25 => ?_)
      refine pw_icmp_ne d197_28 rfl (by omega) (by omega) (fun c28 => ?_) (fun c28 => ?_)
      · exact J35 _ _ (by omega)
      · refine pw_iconst d197_31 ?_
        refine pw_goto d197_32 rfl ?_
        exact J36 (1) _ _ (by omega) (by first | exact Or.inl ⟨rfl, by omega, by omega, by omega⟩ | exact Or.inr ⟨rfl, i0_35⟩)

abbrev Q196 (τ : Nat → Option Nat) (ρ : Nat → Nat → Nat) (h : pv_H) (a0 : Nat) (s1 : Nat) : Option Value → pv_H → Prop := fun r h' => pv_Ty τ ρ h' ∧ pv_Fr τ [456, 457, 458, 459] h h' ∧ ∃ z : Int, r = some (.int (pv_I z)) ∧ 0 ≤ z ∧ z ≤ 1 ∧ (pv_fI h' a0 7 ≤ 1600 ∧ pv_fI h' a0 8 ≤ pv_fI h' a0 7 ∧ pv_fI h' a0 9 ≤ pv_fI h' a0 8 ∧ (pv_fI h' a0 10 ≠ 0 → pv_fI h' a0 9 < pv_fI h' a0 8) ∧ pv_fI h a0 9 ≤ pv_fI h' a0 9) ∧ (z = 1 → pt_w (pv_aI h (ρ a0 4)) (pv_fI h a0 12) (pv_fI h a0 10) (pv_fI h a0 8) (pv_fI h a0 9) s1)
set_option maxHeartbeats 4000000 in
set_option maxRecDepth 20000 in
/-- AngleNetModel.takes(Ljava/lang/String;)Z -/
theorem ct196 {τ : Nat → Option Nat} {ρ : Nat → Nat → Nat} {K : Nat → Nat} {h : pv_H} {a0 : Nat} {s1 : Nat} (hK : pv_Kok K) (hT : pv_Ty τ ρ h) (hA0 : τ a0 = some 7) (hS1 : s1 < 9) (hP0 : pv_fI h a0 7 ≤ 1600 ∧ pv_fI h a0 8 ≤ pv_fI h a0 7 ∧ pv_fI h a0 9 ≤ pv_fI h a0 8 ∧ (pv_fI h a0 10 ≠ 0 → pv_fI h a0 9 < pv_fI h a0 8)) : pv_C K 196 [.ref a0, .ref (K s1)] h (Q196 τ ρ h a0 s1) := by
  refine pw_entry 1 ?_
  show pv_T K 196 0 (pv_fl [some (.ref a0), some (.ref (K s1)), none]) [] h (Q196 τ ρ h a0 s1)
  have hF0 : pv_Fr τ [456, 457, 458, 459] h h := pv_Fr.rf
  refine pw_aload_n d196_0 rfl ?_
  refine pw_aload_n d196_1 rfl ?_
  refine pw_callV1 d196_2 k196_135 hT hA0 rfl rfl rfl (ct197F (τ := τ) (ρ := ρ) hK hT hA0 hS1 (by first | assumption | omega)) (fun r2 h2 q2 => ?_)
  obtain ⟨eh2, z2, ez2, lz2, uz2, pz2_0⟩ := q2
  subst eh2
  subst ez2
  refine pw_istore_n d196_5 m196 rfl rfl ?_
  refine pw_iload_n d196_6 rfl ?_
  refine pw_if_eq d196_7 rfl (by omega) (fun c7 => ?_) (fun c7 => ?_)
  · refine pw_iload_n d196_14 rfl ?_
    exact pw_zreturn d196_15 tt196 (by omega) ⟨hT, hF0, z2, rfl, (by omega), (by omega), (by omega), (by first | (intro e; rcases pz2_0 with q | q; exact q.2; (exfalso; omega)) | (intro e; exfalso; omega))⟩
  · refine pw_aload_n d196_10 rfl ?_
    refine pw_callV0 d196_11 k196_139 hT hA0 rfl rfl rfl (ct190 (τ := τ) (ρ := ρ) hT hA0 (by first | assumption | omega)) (fun r11 h11 q11 => ?_)
    obtain ⟨T11, F11, ez11, pz11_0, pz11_1⟩ := q11
    subst ez11
    have f11 := hF0.tr (F11.up (by decide))
    have q11b := ((F11 a0 7 hA0).1 7 (by decide)).1
    have q11c := ((F11 a0 7 hA0).1 12 (by decide)).1
    refine pw_iload_n d196_14 rfl ?_
    exact pw_zreturn d196_15 tt196 (by omega) ⟨T11, f11, z2, rfl, (by omega), (by omega), (by omega), (by first | (intro e; rcases pz2_0 with q | q; exact q.2; (exfalso; omega)) | (intro e; exfalso; omega))⟩

abbrev Q195 (τ : Nat → Option Nat) (ρ : Nat → Nat → Nat) (h : pv_H) (a0 : Nat) (s1 : Nat) : Option Value → pv_H → Prop := fun r h' => pv_Ty τ ρ h' ∧ pv_Fr τ [456, 457, 458, 459, 460, 461] h h' ∧ r = none ∧ (pv_fI h' a0 7 ≤ 1600 ∧ pv_fI h' a0 8 ≤ pv_fI h' a0 7 ∧ pv_fI h' a0 9 ≤ pv_fI h' a0 8 ∧ (pv_fI h' a0 10 ≠ 0 → pv_fI h' a0 9 < pv_fI h' a0 8) ∧ pv_fI h a0 9 ≤ pv_fI h' a0 9) ∧ (pv_fI h' a0 12 = 0 → pv_fI h a0 12 = 0)
set_option maxHeartbeats 4000000 in
set_option maxRecDepth 20000 in
/-- AngleNetModel.needs(Ljava/lang/String;)V -/
theorem ct195 {τ : Nat → Option Nat} {ρ : Nat → Nat → Nat} {K : Nat → Nat} {h : pv_H} {a0 : Nat} {s1 : Nat} (hK : pv_Kok K) (hT : pv_Ty τ ρ h) (hA0 : τ a0 = some 7) (hS1 : s1 < 9) (hP0 : pv_fI h a0 7 ≤ 1600 ∧ pv_fI h a0 8 ≤ pv_fI h a0 7 ∧ pv_fI h a0 9 ≤ pv_fI h a0 8 ∧ (pv_fI h a0 10 ≠ 0 → pv_fI h a0 9 < pv_fI h a0 8)) : pv_C K 195 [.ref a0, .ref (K s1)] h (Q195 τ ρ h a0 s1) := by
  refine pw_entry 0 ?_
  show pv_T K 195 0 (pv_fl [some (.ref a0), some (.ref (K s1))]) [] h (Q195 τ ρ h a0 s1)
  have hF0 : pv_Fr τ [456, 457, 458, 459, 460, 461] h h := pv_Fr.rf
  refine pw_aload_n d195_0 rfl ?_
  refine pw_aload_n d195_1 rfl ?_
  refine pw_callV1 d195_2 k195_142 hT hA0 rfl rfl rfl (ct196 (τ := τ) (ρ := ρ) hK hT hA0 hS1 (by first | assumption | omega)) (fun r2 h2 q2 => ?_)
  obtain ⟨T2, F2, z2, ez2, lz2, uz2, pz2_0, pz2_1⟩ := q2
  subst ez2
  have f2 := hF0.tr (F2.up (by decide))
  have q2b := ((F2 a0 7 hA0).1 7 (by decide)).1
  have q2c := ((F2 a0 7 hA0).1 12 (by decide)).1
  refine pw_if_ne d195_5 rfl (by omega) (fun c5 => ?_) (fun c5 => ?_)
  · exact pw_return d195_13 tt195 ⟨T2, f2, rfl, (by omega), (by omega)⟩
  · refine pw_aload_n d195_8 rfl ?_
    refine pw_iconst d195_9 ?_
    refine pw_callV1 d195_10 k195_145 T2 hA0 rfl rfl rfl (ct198F (τ := τ) (ρ := ρ) T2 hA0 (by omega)) (fun r10 h10 q10 => ?_)
    obtain ⟨T10, F10, ez10, pz10_0, pz10_1⟩ := q10
    subst ez10
    have f10 := f2.tr (F10.up (by decide))
    have q10b := ((F10 a0 7 hA0).1 7 (by decide)).1
    have q10c := ((F10 a0 7 hA0).1 8 (by decide)).1
    have q10d := ((F10 a0 7 hA0).1 9 (by decide)).1
    have q10e := ((F10 a0 7 hA0).1 10 (by decide)).1
    have q10f := ((F10 a0 7 hA0).1 11 (by decide)).1
    exact pw_return d195_13 tt195 ⟨T10, f10, rfl, (by omega), (by omega)⟩

abbrev Q199 (τ : Nat → Option Nat) (ρ : Nat → Nat → Nat) (h : pv_H) (a0 : Nat) (x1 : Int) (x2 : Int) : Option Value → pv_H → Prop := fun r h' => pv_Ty τ ρ h' ∧ pv_Fr τ [456, 457, 458, 459, 460, 461] h h' ∧ ∃ z : Int, r = some (.int (pv_I z)) ∧ 0 ≤ z ∧ z ≤ 99999 ∧ (pv_fI h' a0 7 ≤ 1600 ∧ pv_fI h' a0 8 ≤ pv_fI h' a0 7 ∧ pv_fI h' a0 9 ≤ pv_fI h' a0 8 ∧ (pv_fI h' a0 10 ≠ 0 → pv_fI h' a0 9 < pv_fI h' a0 8) ∧ pv_fI h a0 9 ≤ pv_fI h' a0 9) ∧ ((pv_fI h' a0 12 = 0 ∧ pv_fI h a0 12 = 0 ∧ pv_fI h a0 10 = 2 ∧ z = pv_fI h a0 11 ∧ x1 ≤ z ∧ z ≤ x2) ∨ (pv_fI h' a0 12 ≠ 0 ∧ z = 0))
set_option maxHeartbeats 4000000 in
set_option maxRecDepth 20000 in
/-- AngleNetModel.number(II)I -/
theorem ct199 {τ : Nat → Option Nat} {ρ : Nat → Nat → Nat} {K : Nat → Nat} {h : pv_H} {a0 : Nat} {x1 : Int} {x2 : Int} (hT : pv_Ty τ ρ h) (hA0 : τ a0 = some 7) (hX1 : (-2147483648) ≤ x1 ∧ x1 ≤ 2147483647) (hX2 : (-2147483648) ≤ x2 ∧ x2 ≤ 2147483647) (hP0 : pv_fI h a0 7 ≤ 1600 ∧ pv_fI h a0 8 ≤ pv_fI h a0 7 ∧ pv_fI h a0 9 ≤ pv_fI h a0 8 ∧ (pv_fI h a0 10 ≠ 0 → pv_fI h a0 9 < pv_fI h a0 8)) : pv_C K 199 [.ref a0, .int (pv_I x1), .int (pv_I x2)] h (Q199 τ ρ h a0 x1 x2) := by
  refine pw_entry 1 ?_
  show pv_T K 199 0 (pv_fl [some (.ref a0), some (.int (pv_I x1)), some (.int (pv_I x2)), none]) [] h (Q199 τ ρ h a0 x1 x2)
  have hF0 : pv_Fr τ [456, 457, 458, 459, 460, 461] h h := pv_Fr.rf
  have J47 : ∀ (h_47 : pv_H) (o1_47 o2_47 o3_47 : Option Value), (pv_Ty τ ρ h_47) → (pv_Fr τ [456, 457, 458, 459, 460, 461] h h_47) → (pv_fI h_47 a0 7 ≤ 1600 ∧ pv_fI h_47 a0 8 ≤ pv_fI h_47 a0 7 ∧ pv_fI h_47 a0 9 ≤ pv_fI h_47 a0 8 ∧ (pv_fI h_47 a0 10 ≠ 0 → pv_fI h_47 a0 9 < pv_fI h_47 a0 8) ∧ pv_fI h_47 a0 9 = pv_fI h a0 9 ∧ pv_fI h_47 a0 11 = pv_fI h a0 11 ∧ pv_fI h_47 a0 10 = pv_fI h a0 10) → (pv_fI h_47 a0 12 = 0 → pv_fI h a0 12 = 0 ∧ pv_fI h a0 10 = 2 ∧ x1 ≤ pv_fI h a0 11 ∧ pv_fI h a0 11 ≤ x2) → pv_T K 199 47 (pv_fl [some (.ref a0), o1_47, o2_47, o3_47]) [] h_47 (Q199 τ ρ h a0 x1 x2) := by
    intro h_47 o1_47 o2_47 o3_47 hT_47 hF_47 i0_47 i1_47
    refine pw_aload_n d199_47 rfl ?_
    refine pw_callV0 d199_48 k199_121 hT_47 hA0 rfl rfl rfl (ct192 (τ := τ) (ρ := ρ) hT_47 hA0) (fun r48 h48 q48 => ?_)
    obtain ⟨eh48, z48, ez48, lz48, uz48, pz48_0⟩ := q48
    subst eh48
    subst ez48
    refine pw_if_ne d199_51 rfl (by omega) (fun c51 => ?_) (fun c51 => ?_)
    · refine pw_aload_n d199_56 rfl ?_
      refine pw_getI d199_57 g199_108 hT_47 hA0 rfl rfl (fun u57 vu57 => ?_)
      refine pw_istore_n d199_60 m199 rfl rfl ?_
      refine pw_aload_n d199_61 rfl ?_
      refine pw_callV0 d199_62 k199_139 hT_47 hA0 rfl rfl rfl (ct190 (τ := τ) (ρ := ρ) hT_47 hA0 (by first | assumption | omega)) (fun r62 h62 q62 => ?_)
      obtain ⟨T62, F62, ez62, pz62_0, pz62_1⟩ := q62
      subst ez62
      have f62 := hF_47.tr (F62.up (by decide))
      have q62b := ((F62 a0 7 hA0).1 7 (by decide)).1
      have q62c := ((F62 a0 7 hA0).1 12 (by decide)).1
      refine pw_iload_n d199_65 rfl ?_
      exact pw_ireturn d199_66 tt199 ⟨T62, f62, (pv_fI h_47 a0 11), rfl, (by omega), (by omega), (by omega), (by omega)⟩
    · refine pw_iconst d199_54 ?_
      exact pw_ireturn d199_55 tt199 ⟨hT_47, hF_47, 0, rfl, (by omega), (by omega), (by omega), (by omega)⟩
  have J20 : ∀ (h_20 : pv_H) (o3_20 : Option Value), (pv_Ty τ ρ h_20) → (pv_Fr τ [456, 457, 458, 459, 460, 461] h h_20) → ((-2147483648) ≤ x1 ∧ x1 ≤ 2147483647) → ((-2147483648) ≤ x2 ∧ x2 ≤ 2147483647) → (pv_fI h_20 a0 7 ≤ 1600 ∧ pv_fI h_20 a0 8 ≤ pv_fI h_20 a0 7 ∧ pv_fI h_20 a0 9 ≤ pv_fI h_20 a0 8 ∧ (pv_fI h_20 a0 10 ≠ 0 → pv_fI h_20 a0 9 < pv_fI h_20 a0 8) ∧ pv_fI h_20 a0 9 = pv_fI h a0 9 ∧ pv_fI h_20 a0 11 = pv_fI h a0 11 ∧ pv_fI h_20 a0 10 = pv_fI h a0 10) → (pv_fI h_20 a0 12 = 0 → pv_fI h a0 12 = 0 ∧ pv_fI h a0 10 = 2) → pv_T K 199 20 (pv_fl [some (.ref a0), some (.int (pv_I x1)), some (.int (pv_I x2)), o3_20]) [] h_20 (Q199 τ ρ h a0 x1 x2) := by
    intro h_20 o3_20 hT_20 hF_20 rL1_20 rL2_20 i0_20 i1_20
    refine pw_aload_n d199_20 rfl ?_
    refine pw_callV0 d199_21 k199_121 hT_20 hA0 rfl rfl rfl (ct192 (τ := τ) (ρ := ρ) hT_20 hA0) (fun r21 h21 q21 => ?_)
    obtain ⟨eh21, z21, ez21, lz21, uz21, pz21_0⟩ := q21
    subst eh21
    subst ez21
    refine pw_if_eq d199_24 rfl (by omega) (fun c24 => ?_) (fun c24 => ?_)
    · exact J47 h_20 _ _ _ hT_20 hF_20 (by omega) (by omega)
    · refine pw_aload_n d199_27 rfl ?_
      refine pw_getI d199_28 g199_108 hT_20 hA0 rfl rfl (fun u28 vu28 => ?_)
      refine pw_i2l d199_31 (by omega) ?_
      refine pw_iload_n d199_32 rfl ?_
      refine pw_i2l d199_33 (by omega) ?_
      refine pw_iload_n d199_34 rfl ?_
      refine pw_i2l d199_35 (by omega) ?_
      refine pw_callS3 d199_36 k199_73 rfl rfl (ct184 (τ := τ) (ρ := ρ) (by omega) (by omega) (by omega)) (fun r36 h36 q36 => ?_)
      obtain ⟨eh36, z36, ez36, lz36, uz36, pz36_0⟩ := q36
      subst eh36
      subst ez36
      refine pw_if_ne d199_39 rfl (by omega) (fun c39 => ?_) (fun c39 => ?_)
      · exact J47 h_20 _ _ _ hT_20 hF_20 (by omega) (by omega)
      · refine pw_aload_n d199_42 rfl ?_
        refine pw_iconst d199_43 ?_
        refine pw_callV1 d199_44 k199_145 hT_20 hA0 rfl rfl rfl (ct198F (τ := τ) (ρ := ρ) hT_20 hA0 (by omega)) (fun r44 h44 q44 => ?_)
        obtain ⟨T44, F44, ez44, pz44_0, pz44_1⟩ := q44
        subst ez44
        have f44 := hF_20.tr (F44.up (by decide))
        have q44b := ((F44 a0 7 hA0).1 7 (by decide)).1
        have q44c := ((F44 a0 7 hA0).1 8 (by decide)).1
        have q44d := ((F44 a0 7 hA0).1 9 (by decide)).1
        have q44e := ((F44 a0 7 hA0).1 10 (by decide)).1
        have q44f := ((F44 a0 7 hA0).1 11 (by decide)).1
        exact J47 h44 _ _ _ T44 f44 (by omega) (by omega)
  refine pw_aload_n d199_0 rfl ?_
  refine pw_callV0 d199_1 k199_121 hT hA0 rfl rfl rfl (ct192 (τ := τ) (ρ := ρ) hT hA0) (fun r1 h1 q1 => ?_)
  obtain ⟨eh1, z1, ez1, lz1, uz1, pz1_0⟩ := q1
  subst eh1
  subst ez1
  refine pw_if_eq d199_4 rfl (by omega) (fun c4 => ?_) (fun c4 => ?_)
  · exact J20 h _ hT hF0 (by omega) (by omega) (by omega) (by omega)
  · refine pw_aload_n d199_7 rfl ?_
    refine pw_getI d199_8 g199_97 hT hA0 rfl rfl (fun u8 vu8 => ?_)
    refine pw_iconst d199_11 ?_
    refine pw_icmp_eq d199_12 rfl (by omega) (by omega) (fun c12 => ?_) (fun c12 => ?_)
    · exact J20 h _ hT hF0 (by omega) (by omega) (by omega) (by omega)
    · refine pw_aload_n d199_15 rfl ?_
      refine pw_iconst d199_16 ?_
      refine pw_callV1 d199_17 k199_145 hT hA0 rfl rfl rfl (ct198F (τ := τ) (ρ := ρ) hT hA0 (by omega)) (fun r17 h17 q17 => ?_)
      obtain ⟨T17, F17, ez17, pz17_0, pz17_1⟩ := q17
      subst ez17
      have f17 := hF0.tr (F17.up (by decide))
      have q17b := ((F17 a0 7 hA0).1 7 (by decide)).1
      have q17c := ((F17 a0 7 hA0).1 8 (by decide)).1
      have q17d := ((F17 a0 7 hA0).1 9 (by decide)).1
      have q17e := ((F17 a0 7 hA0).1 10 (by decide)).1
      have q17f := ((F17 a0 7 hA0).1 11 (by decide)).1
      exact J20 h17 _ T17 f17 (by omega) (by omega) (by omega) (by omega)

abbrev Q194 (τ : Nat → Option Nat) (ρ : Nat → Nat → Nat) (h : pv_H) (a0 : Nat) (s1 : Nat) (x2 : Int) (x3 : Int) : Option Value → pv_H → Prop := fun r h' => pv_Ty τ ρ h' ∧ pv_Fr τ [456, 457, 458, 459, 460, 461] h h' ∧ ∃ z : Int, r = some (.int (pv_I z)) ∧ (-2147483648) ≤ z ∧ z ≤ 2147483647 ∧ (pv_fI h' a0 7 ≤ 1600 ∧ pv_fI h' a0 8 ≤ pv_fI h' a0 7 ∧ pv_fI h' a0 9 ≤ pv_fI h' a0 8 ∧ (pv_fI h' a0 10 ≠ 0 → pv_fI h' a0 9 < pv_fI h' a0 8) ∧ pv_fI h a0 9 ≤ pv_fI h' a0 9) ∧ ((pv_fI h' a0 12 = 0 ∧ pv_fI h a0 12 = 0 ∧ x2 ≤ z ∧ z ≤ x3) ∨ (pv_fI h' a0 12 ≠ 0 ∧ z = 0))
set_option maxHeartbeats 4000000 in
set_option maxRecDepth 20000 in
/-- AngleNetModel.told(Ljava/lang/String;II)I -/
theorem ct194 {τ : Nat → Option Nat} {ρ : Nat → Nat → Nat} {K : Nat → Nat} {h : pv_H} {a0 : Nat} {s1 : Nat} {x2 : Int} {x3 : Int} (hK : pv_Kok K) (hT : pv_Ty τ ρ h) (hA0 : τ a0 = some 7) (hS1 : s1 < 9) (hX2 : (-2147483648) ≤ x2 ∧ x2 ≤ 2147483647) (hX3 : (-2147483648) ≤ x3 ∧ x3 ≤ 2147483647) (hP0 : pv_fI h a0 7 ≤ 1600 ∧ pv_fI h a0 8 ≤ pv_fI h a0 7 ∧ pv_fI h a0 9 ≤ pv_fI h a0 8 ∧ (pv_fI h a0 10 ≠ 0 → pv_fI h a0 9 < pv_fI h a0 8)) : pv_C K 194 [.ref a0, .ref (K s1), .int (pv_I x2), .int (pv_I x3)] h (Q194 τ ρ h a0 s1 x2 x3) := by
  refine pw_entry 0 ?_
  show pv_T K 194 0 (pv_fl [some (.ref a0), some (.ref (K s1)), some (.int (pv_I x2)), some (.int (pv_I x3))]) [] h (Q194 τ ρ h a0 s1 x2 x3)
  have hF0 : pv_Fr τ [456, 457, 458, 459, 460, 461] h h := pv_Fr.rf
  refine pw_aload_n d194_0 rfl ?_
  refine pw_aload_n d194_1 rfl ?_
  refine pw_callV1 d194_2 k194_149 hT hA0 rfl rfl rfl (ct195 (τ := τ) (ρ := ρ) hK hT hA0 hS1 (by first | assumption | omega)) (fun r2 h2 q2 => ?_)
  obtain ⟨T2, F2, ez2, pz2_0, pz2_1⟩ := q2
  subst ez2
  have f2 := hF0.tr (F2.up (by decide))
  have q2b := ((F2 a0 7 hA0).1 7 (by decide)).1
  refine pw_aload_n d194_5 rfl ?_
  refine pw_iload_n d194_6 rfl ?_
  refine pw_iload_n d194_7 rfl ?_
  refine pw_callV2 d194_8 k194_153 T2 hA0 rfl rfl rfl (ct199 (τ := τ) (ρ := ρ) T2 hA0 (by omega) (by omega) (by first | assumption | omega)) (fun r8 h8 q8 => ?_)
  obtain ⟨T8, F8, z8, ez8, lz8, uz8, pz8_0, pz8_1⟩ := q8
  subst ez8
  have f8 := f2.tr (F8.up (by decide))
  have q8b := ((F8 a0 7 hA0).1 7 (by decide)).1
  exact pw_ireturn d194_11 tt194 ⟨T8, f8, z8, rfl, (by omega), (by omega), (by omega), (by omega)⟩

abbrev Q202 (τ : Nat → Option Nat) (ρ : Nat → Nat → Nat) (h : pv_H) (a0 : Nat) : Option Value → pv_H → Prop := fun r h' => pv_Ty τ ρ h' ∧ pv_Fr τ [456, 457, 458, 459, 460, 461] h h' ∧ ∃ z : Int, r = some (.int (pv_I z)) ∧ 0 ≤ z ∧ z ≤ 9 ∧ (pv_fI h' a0 7 ≤ 1600 ∧ pv_fI h' a0 8 ≤ pv_fI h' a0 7 ∧ pv_fI h' a0 9 ≤ pv_fI h' a0 8 ∧ (pv_fI h' a0 10 ≠ 0 → pv_fI h' a0 9 < pv_fI h' a0 8) ∧ pv_fI h a0 9 ≤ pv_fI h' a0 9) ∧ ((pv_fI h' a0 12 = 0 ∧ pv_fI h a0 12 = 0 ∧ pv_fI h a0 10 = 2 ∧ z = pv_fI h a0 11 ∧ 0 ≤ z ∧ z ≤ 9 ∧ z < pv_aI h (ρ a0 14) (0 : Int).toNat) ∨ (pv_fI h' a0 12 ≠ 0 ∧ z = 0))
set_option maxHeartbeats 4000000 in
set_option maxRecDepth 20000 in
/-- AngleNetModel.freshPost()I -/
theorem ct202 {τ : Nat → Option Nat} {ρ : Nat → Nat → Nat} {K : Nat → Nat} {h : pv_H} {a0 : Nat} (hT : pv_Ty τ ρ h) (hA0 : τ a0 = some 7) (hP0 : pv_fI h a0 7 ≤ 1600 ∧ pv_fI h a0 8 ≤ pv_fI h a0 7 ∧ pv_fI h a0 9 ≤ pv_fI h a0 8 ∧ (pv_fI h a0 10 ≠ 0 → pv_fI h a0 9 < pv_fI h a0 8)) : pv_C K 202 [.ref a0] h (Q202 τ ρ h a0) := by
  refine pw_entry 0 ?_
  show pv_T K 202 0 (pv_fl [some (.ref a0)]) [] h (Q202 τ ρ h a0)
  have hR0_14 : τ (ρ a0 14) = some 45 := hT.rf (t' := 45) hA0 rfl rfl
  have hF0 : pv_Fr τ [456, 457, 458, 459, 460, 461] h h := pv_Fr.rf
  refine pw_aload_n d202_0 rfl ?_
  refine pw_iconst d202_1 ?_
  refine pw_aload_n d202_2 rfl ?_
  refine pw_getR d202_3 g202_31 hT hA0 rfl rfl (fun t3 => ?_)
  have t3 : τ (ρ a0 14) = some 45 := t3
  refine pw_iconst d202_6 ?_
  refine pw_ialdB d202_7 hT t3 rfl rfl (by omega) (by omega) (fun u7 => ?_)
  have u7 : pv_wok ((0 : Int)) (pv_aI h (ρ a0 14) ((0 : Int)).toNat) := u7
  have vu7 := u7.2.1 (by omega)
  refine pw_iconst d202_8 ?_
  refine pw_isub d202_9 ?_
  refine pw_callV2 d202_10 k202_153 hT hA0 rfl rfl rfl (ct199 (τ := τ) (ρ := ρ) hT hA0 (by omega) (by omega) (by first | assumption | omega)) (fun r10 h10 q10 => ?_)
  obtain ⟨T10, F10, z10, ez10, lz10, uz10, pz10_0, pz10_1⟩ := q10
  subst ez10
  have f10 := hF0.tr (F10.up (by decide))
  have q10b := ((F10 a0 7 hA0).1 7 (by decide)).1
  exact pw_ireturn d202_13 tt202 ⟨T10, f10, z10, rfl, (by omega), (by omega), (by omega), (by omega)⟩

abbrev Q203 (τ : Nat → Option Nat) (ρ : Nat → Nat → Nat) (h : pv_H) (a0 : Nat) (x1 : Int) : Option Value → pv_H → Prop := fun r h' => pv_Ty τ ρ h' ∧ pv_Fr τ [456, 457, 458, 459, 460, 461] h h' ∧ ∃ z : Int, r = some (.int (pv_I z)) ∧ 0 ≤ z ∧ z ≤ 9 ∧ (pv_fI h' a0 7 ≤ 1600 ∧ pv_fI h' a0 8 ≤ pv_fI h' a0 7 ∧ pv_fI h' a0 9 ≤ pv_fI h' a0 8 ∧ (pv_fI h' a0 10 ≠ 0 → pv_fI h' a0 9 < pv_fI h' a0 8) ∧ pv_fI h a0 9 ≤ pv_fI h' a0 9) ∧ ((pv_fI h' a0 12 = 0 ∧ pv_fI h a0 12 = 0 ∧ pv_fI h a0 10 = 2 ∧ z = pv_fI h a0 11 ∧ 0 ≤ z ∧ z ≤ 9 ∧ z ≠ x1 ∧ z < pv_aI h (ρ a0 14) (0 : Int).toNat) ∨ (pv_fI h' a0 12 ≠ 0 ∧ z = 0))
set_option maxHeartbeats 4000000 in
set_option maxRecDepth 20000 in
/-- AngleNetModel.freshOther(I)I -/
theorem ct203 {τ : Nat → Option Nat} {ρ : Nat → Nat → Nat} {K : Nat → Nat} {h : pv_H} {a0 : Nat} {x1 : Int} (hT : pv_Ty τ ρ h) (hA0 : τ a0 = some 7) (hX1 : (-2147483648) ≤ x1 ∧ x1 ≤ 2147483647) (hP0 : pv_fI h a0 7 ≤ 1600 ∧ pv_fI h a0 8 ≤ pv_fI h a0 7 ∧ pv_fI h a0 9 ≤ pv_fI h a0 8 ∧ (pv_fI h a0 10 ≠ 0 → pv_fI h a0 9 < pv_fI h a0 8)) : pv_C K 203 [.ref a0, .int (pv_I x1)] h (Q203 τ ρ h a0 x1) := by
  refine pw_entry 0 ?_
  show pv_T K 203 0 (pv_fl [some (.ref a0), some (.int (pv_I x1))]) [] h (Q203 τ ρ h a0 x1)
  have hR0_14 : τ (ρ a0 14) = some 45 := hT.rf (t' := 45) hA0 rfl rfl
  have hF0 : pv_Fr τ [456, 457, 458, 459, 460, 461] h h := pv_Fr.rf
  have J28 : ∀ (h_28 : pv_H) (o1_28 : Option Value), (pv_Ty τ ρ h_28) → (pv_Fr τ [456, 457, 458, 459, 460, 461] h h_28) → (pv_fI h_28 a0 7 ≤ 1600 ∧ pv_fI h_28 a0 8 ≤ pv_fI h_28 a0 7 ∧ pv_fI h_28 a0 9 ≤ pv_fI h_28 a0 8 ∧ (pv_fI h_28 a0 10 ≠ 0 → pv_fI h_28 a0 9 < pv_fI h_28 a0 8) ∧ pv_fI h_28 a0 9 = pv_fI h a0 9 ∧ pv_fI h_28 a0 11 = pv_fI h a0 11 ∧ pv_fI h_28 a0 10 = pv_fI h a0 10) → (pv_fI h_28 a0 12 = 0 → pv_fI h a0 12 = 0 ∧ (pv_fI h a0 10 = 2 → pv_fI h a0 11 ≠ x1)) → pv_T K 203 28 (pv_fl [some (.ref a0), o1_28]) [] h_28 (Q203 τ ρ h a0 x1) := by
    intro h_28 o1_28 hT_28 hF_28 i0_28 i1_28
    have e28 := congrFun (hF_28.aeq hR0_14 (by decide)) (0 : Int).toNat
    refine pw_aload_n d203_28 rfl ?_
    refine pw_callV0 d203_29 k203_160 hT_28 hA0 rfl rfl rfl (ct202 (τ := τ) (ρ := ρ) hT_28 hA0 (by first | assumption | omega)) (fun r29 h29 q29 => ?_)
    obtain ⟨T29, F29, z29, ez29, lz29, uz29, pz29_0, pz29_1⟩ := q29
    subst ez29
    have f29 := hF_28.tr (F29.up (by decide))
    have q29b := ((F29 a0 7 hA0).1 7 (by decide)).1
    exact pw_ireturn d203_32 tt203 ⟨T29, f29, z29, rfl, (by omega), (by omega), (by omega), (by omega)⟩
  refine pw_aload_n d203_0 rfl ?_
  refine pw_callV0 d203_1 k203_121 hT hA0 rfl rfl rfl (ct192 (τ := τ) (ρ := ρ) hT hA0) (fun r1 h1 q1 => ?_)
  obtain ⟨eh1, z1, ez1, lz1, uz1, pz1_0⟩ := q1
  subst eh1
  subst ez1
  refine pw_if_eq d203_4 rfl (by omega) (fun c4 => ?_) (fun c4 => ?_)
  · exact J28 h _ hT hF0 (by omega) (by omega)
  · refine pw_aload_n d203_7 rfl ?_
    refine pw_getI d203_8 g203_97 hT hA0 rfl rfl (fun u8 vu8 => ?_)
    refine pw_iconst d203_11 ?_
    refine pw_icmp_ne d203_12 rfl (by omega) (by omega) (fun c12 => ?_) (fun c12 => ?_)
    · exact J28 h _ hT hF0 (by omega) (by omega)
    · refine pw_aload_n d203_15 rfl ?_
      refine pw_getI d203_16 g203_108 hT hA0 rfl rfl (fun u16 vu16 => ?_)
      refine pw_iload_n d203_19 rfl ?_
      refine pw_icmp_ne d203_20 rfl (by omega) (by omega) (fun c20 => ?_) (fun c20 => ?_)
      · exact J28 h _ hT hF0 (by omega) (by omega)
      · refine pw_aload_n d203_23 rfl ?_
        refine pw_iconst d203_24 ?_
        refine pw_callV1 d203_25 k203_145 hT hA0 rfl rfl rfl (ct198F (τ := τ) (ρ := ρ) hT hA0 (by omega)) (fun r25 h25 q25 => ?_)
        obtain ⟨T25, F25, ez25, pz25_0, pz25_1⟩ := q25
        subst ez25
        have f25 := hF0.tr (F25.up (by decide))
        have q25b := ((F25 a0 7 hA0).1 7 (by decide)).1
        have q25c := ((F25 a0 7 hA0).1 8 (by decide)).1
        have q25d := ((F25 a0 7 hA0).1 9 (by decide)).1
        have q25e := ((F25 a0 7 hA0).1 10 (by decide)).1
        have q25f := ((F25 a0 7 hA0).1 11 (by decide)).1
        exact J28 h25 _ T25 f25 (by omega) (by omega)

abbrev Q206F (τ : Nat → Option Nat) (ρ : Nat → Nat → Nat) (h : pv_H) (a0 : Nat) (x1 : Int) (x2 : Int) (x3 : Int) : Option Value → pv_H → Prop := fun r h' => h = h' ∧ ∃ z : Int, r = some (.int (pv_I z)) ∧ 0 ≤ z ∧ z ≤ 1 ∧ (z = 0 → pt_3 (pv_aI h a0) x1 x2 x3)
set_option maxHeartbeats 4000000 in
set_option maxRecDepth 20000 in
/-- AngleNetModel.isTriple([IIII)Z -/
theorem ct206F {τ : Nat → Option Nat} {ρ : Nat → Nat → Nat} {K : Nat → Nat} {h : pv_H} {a0 : Nat} {x1 : Int} {x2 : Int} {x3 : Int} (hT : pv_Ty τ ρ h) (hA0 : τ a0 = some 45) (hX1 : (-2147483648) ≤ x1 ∧ x1 ≤ 2147483647) (hX2 : (-2147483648) ≤ x2 ∧ x2 ≤ 2147483647) (hX3 : (-2147483648) ≤ x3 ∧ x3 ≤ 2147483647) : pv_C K 206 [.ref a0, .int (pv_I x1), .int (pv_I x2), .int (pv_I x3)] h (Q206F τ ρ h a0 x1 x2 x3) := by
  refine pw_entry 1 ?_
  show pv_T K 206 0 (pv_fl [some (.ref a0), some (.int (pv_I x1)), some (.int (pv_I x2)), some (.int (pv_I x3)), none]) [] h (Q206F τ ρ h a0 x1 x2 x3)
  have L3 : ∀ (nn : Nat) (xL4_3 : Int), ((-2147483648) ≤ x1 ∧ x1 ≤ 2147483647) → ((-2147483648) ≤ x2 ∧ x2 ≤ 2147483647) → ((-2147483648) ≤ x3 ∧ x3 ≤ 2147483647) → (0 ≤ xL4_3 ∧ xL4_3 ≤ 18) → (∀ t, t < (xL4_3).toNat → ¬ (pf_has (pr_c (pv_aI h a0)) t x1 ∧ pf_has (pr_c (pv_aI h a0)) t x2 ∧ pf_has (pr_c (pv_aI h a0)) t x3)) → 18 - xL4_3 < nn → pv_T K 206 3 (pv_fl [some (.ref a0), some (.int (pv_I x1)), some (.int (pv_I x2)), some (.int (pv_I x3)), some (.int (pv_I xL4_3))]) [] h (Q206F τ ρ h a0 x1 x2 x3) := by
    intro nn
    induction nn with
    | zero => intro xL4_3 rL1_3 rL2_3 rL3_3 rL4_3 i0_3 hm; exfalso; omega
    | succ nn ih3 =>
      intro xL4_3 rL1_3 rL2_3 rL3_3 rL4_3 i0_3 hm3
      have J43 : ∀ (_ : Unit), ((-2147483648) ≤ x1 ∧ x1 ≤ 2147483647) → ((-2147483648) ≤ x2 ∧ x2 ≤ 2147483647) → ((-2147483648) ≤ x3 ∧ x3 ≤ 2147483647) → (0 ≤ xL4_3 ∧ xL4_3 ≤ 17) → (¬ (pf_has (pr_c (pv_aI h a0)) (xL4_3).toNat x1 ∧ pf_has (pr_c (pv_aI h a0)) (xL4_3).toNat x2 ∧ pf_has (pr_c (pv_aI h a0)) (xL4_3).toNat x3)) → pv_T K 206 43 (pv_fl [some (.ref a0), some (.int (pv_I x1)), some (.int (pv_I x2)), some (.int (pv_I x3)), some (.int (pv_I xL4_3))]) [] h (Q206F τ ρ h a0 x1 x2 x3) := by
        intro _ rL1_43 rL2_43 rL3_43 rL4_43 i0_43
        refine pw_iinc d206_43 m206 rfl rfl rfl ?_
        refine pw_goto d206_46 rfl ?_
        exact ih3 ((xL4_3 + 1)) (by omega) (by omega) (by omega) (by omega) (by first | (intro t ht; exact absurd ht (Nat.not_lt_zero t)) | exact tr_st (by omega) i0_3 i0_43) (by omega)
      refine pw_iload d206_3 rfl ?_
      refine pw_aload_n d206_5 rfl ?_
      refine pw_iconst d206_6 ?_
      refine pw_ialdB d206_7 hT hA0 rfl rfl (by omega) (by omega) (fun u7 => ?_)
      have u7 : pv_wok ((1 : Int)) (pv_aI h a0 ((1 : Int)).toNat) := u7
      have vu7 := u7.2.2.1 (by omega)
      refine pw_icmp_ge d206_8 rfl (by omega) (by omega) (fun c8 => ?_) (fun c8 => ?_)
      · refine pw_iconst d206_49 ?_
        exact pw_zreturn d206_50 tt206 (by omega) ⟨rfl, 0, rfl, (by omega), (by omega), (by first | (intro e; exfalso; omega) | (intro _ t ht; exact i0_3 t (Nat.lt_of_lt_of_le ht (show (pv_aI h a0 (1 : Int).toNat).toNat ≤ _ by omega))))⟩
      · refine pw_aload_n d206_11 rfl ?_
        refine pw_iload d206_12 rfl ?_
        refine pw_iload_n d206_14 rfl ?_
        refine pw_callS3 d206_15 k206_156 rfl rfl (ct205fF (τ := τ) (ρ := ρ) hT hA0 (by omega) (by omega)) (fun r15 h15 q15 => ?_)
        obtain ⟨eh15, z15, ez15, lz15, uz15, pz15_0⟩ := q15
        subst eh15
        subst ez15
        refine pw_if_eq d206_18 rfl (by omega) (fun c18 => ?_) (fun c18 => ?_)
        · exact J43 () (by omega) (by omega) (by omega) (by omega) (by first | (intro g; rcases pz15_0 with q | q; (exfalso; omega); exact q.2 g.1) | (intro g; rcases pz25_0 with q | q; (exfalso; omega); exact q.2 g.2.1) | (intro g; rcases pz35_0 with q | q; (exfalso; omega); exact q.2 g.2.2))
        · refine pw_aload_n d206_21 rfl ?_
          refine pw_iload d206_22 rfl ?_
          refine pw_iload_n d206_24 rfl ?_
          refine pw_callS3 d206_25 k206_156 rfl rfl (ct205fF (τ := τ) (ρ := ρ) hT hA0 (by omega) (by omega)) (fun r25 h25 q25 => ?_)
          obtain ⟨eh25, z25, ez25, lz25, uz25, pz25_0⟩ := q25
          subst eh25
          subst ez25
          refine pw_if_eq d206_28 rfl (by omega) (fun c28 => ?_) (fun c28 => ?_)
          · exact J43 () (by omega) (by omega) (by omega) (by omega) (by first | (intro g; rcases pz15_0 with q | q; (exfalso; omega); exact q.2 g.1) | (intro g; rcases pz25_0 with q | q; (exfalso; omega); exact q.2 g.2.1) | (intro g; rcases pz35_0 with q | q; (exfalso; omega); exact q.2 g.2.2))
          · refine pw_aload_n d206_31 rfl ?_
            refine pw_iload d206_32 rfl ?_
            refine pw_iload_n d206_34 rfl ?_
            refine pw_callS3 d206_35 k206_156 rfl rfl (ct205fF (τ := τ) (ρ := ρ) hT hA0 (by omega) (by omega)) (fun r35 h35 q35 => ?_)
            obtain ⟨eh35, z35, ez35, lz35, uz35, pz35_0⟩ := q35
            subst eh35
            subst ez35
            refine pw_if_eq d206_38 rfl (by omega) (fun c38 => ?_) (fun c38 => ?_)
            · exact J43 () (by omega) (by omega) (by omega) (by omega) (by first | (intro g; rcases pz15_0 with q | q; (exfalso; omega); exact q.2 g.1) | (intro g; rcases pz25_0 with q | q; (exfalso; omega); exact q.2 g.2.1) | (intro g; rcases pz35_0 with q | q; (exfalso; omega); exact q.2 g.2.2))
            · refine pw_iconst d206_41 ?_
              exact pw_zreturn d206_42 tt206 (by omega) ⟨rfl, 1, rfl, (by omega), (by omega), (by first | (intro e; exfalso; omega) | (intro _ t ht; exact i0_3 t (Nat.lt_of_lt_of_le ht (show (pv_aI h a0 (1 : Int).toNat).toNat ≤ _ by omega))))⟩
  refine pw_iconst d206_0 ?_
  refine pw_istore d206_1 m206 rfl rfl ?_
  exact L3 _ (0) (by omega) (by omega) (by omega) (by omega) (by first | (intro t ht; exact absurd ht (Nat.not_lt_zero t)) | exact tr_st (by omega) i0_3 i0_43) (pv_mu _)
