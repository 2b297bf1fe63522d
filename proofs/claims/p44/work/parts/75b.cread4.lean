abbrev Q200 (τ : Nat → Option Nat) (ρ : Nat → Nat → Nat) (h : pv_H) (a0 : Nat) : Option Value → pv_H → Prop := fun r h' => pv_Ty τ ρ h' ∧ pv_Fr τ [456, 457, 458, 459, 460, 461, 2943] h h' ∧ r = none ∧ (pv_fI h' a0 7 ≤ 1600 ∧ pv_fI h' a0 8 ≤ pv_fI h' a0 7 ∧ pv_fI h' a0 9 ≤ pv_fI h' a0 8 ∧ (pv_fI h' a0 10 ≠ 0 → pv_fI h' a0 9 < pv_fI h' a0 8) ∧ pv_fI h a0 9 ≤ pv_fI h' a0 9) ∧ (ps_T (pv_aI h (ρ a0 14)) (pv_aI h' (ρ a0 14)) (pv_fI h a0 12) (pv_fI h' a0 12)) ∧ (pv_aI h' (ρ a0 14) (2 : Int).toNat = pv_aI h (ρ a0 14) (2 : Int).toNat)
set_option maxHeartbeats 4000000 in
set_option maxRecDepth 20000 in
/-- AngleNetModel.readNext()V -/
theorem ct200 {τ : Nat → Option Nat} {ρ : Nat → Nat → Nat} {K : Nat → Nat} {h : pv_H} {a0 : Nat} (hK : pv_Kok K) (hT : pv_Ty τ ρ h) (hA0 : τ a0 = some 7) (hP0 : pv_fI h a0 7 ≤ 1600 ∧ pv_fI h a0 8 ≤ pv_fI h a0 7 ∧ pv_fI h a0 9 ≤ pv_fI h a0 8 ∧ (pv_fI h a0 10 ≠ 0 → pv_fI h a0 9 < pv_fI h a0 8)) (hP1 : pv_aI h (ρ a0 14) (2 : Int).toNat ≠ 0) : pv_C K 200 [.ref a0] h (Q200 τ ρ h a0) := by
  refine pw_entry 2 ?_
  show pv_T K 200 0 (pv_fl [some (.ref a0), none, none]) [] h (Q200 τ ρ h a0)
  have hR0_14 : τ (ρ a0 14) = some 45 := hT.rf (t' := 45) hA0 rfl rfl
  have hR0_4 : τ (ρ a0 4) = some 43 := hT.rf (t' := 43) hA0 rfl rfl
  have hF0 : pv_Fr τ [456, 457, 458, 459, 460, 461, 2943] h h := pv_Fr.rf
  have J228 : ∀ (h_228 : pv_H) (o1_228 o2_228 : Option Value), (pv_Ty τ ρ h_228) → (pv_Fr τ [456, 457, 458, 459, 460, 461, 2943] h h_228) → (pv_fI h_228 a0 7 ≤ 1600 ∧ pv_fI h_228 a0 8 ≤ pv_fI h_228 a0 7 ∧ pv_fI h_228 a0 9 ≤ pv_fI h_228 a0 8 ∧ (pv_fI h_228 a0 10 ≠ 0 → pv_fI h_228 a0 9 < pv_fI h_228 a0 8) ∧ pv_fI h a0 9 ≤ pv_fI h_228 a0 9) → (pv_aI h_228 (ρ a0 14) = pv_aI h (ρ a0 14)) → (pv_fI h_228 a0 12 = 0 → pv_fI h a0 12 = 0) → pv_T K 200 228 (pv_fl [some (.ref a0), o1_228, o2_228]) [] h_228 (Q200 τ ρ h a0) := by
    intro h_228 o1_228 o2_228 hT_228 hF_228 i0_228 i1_228 i2_228
    refine pw_aload_n d200_228 rfl ?_
    refine pw_callV0 d200_229 k200_139 hT_228 hA0 rfl rfl rfl (ct190 (τ := τ) (ρ := ρ) hT_228 hA0 (by first | assumption | omega)) (fun r229 h229 q229 => ?_)
    obtain ⟨T229, F229, ez229, pz229_0, pz229_1⟩ := q229
    subst ez229
    have f229 := hF_228.tr (F229.up (by decide))
    have q229b := ((F229 a0 7 hA0).1 7 (by decide)).1
    have q229c := ((F229 a0 7 hA0).1 12 (by decide)).1
    refine pw_aload_n d200_232 rfl ?_
    refine pw_callV0 d200_233 k200_160 T229 hA0 rfl rfl rfl (ct202 (τ := τ) (ρ := ρ) T229 hA0 (by first | assumption | omega)) (fun r233 h233 q233 => ?_)
    obtain ⟨T233, F233, z233, ez233, lz233, uz233, pz233_0, pz233_1⟩ := q233
    subst ez233
    have f233 := f229.tr (F233.up (by decide))
    have q233b := ((F233 a0 7 hA0).1 7 (by decide)).1
    refine pw_istore_n d200_236 m200 rfl rfl ?_
    refine pw_aload_n d200_237 rfl ?_
    refine pw_getR d200_238 g200_31 T233 hA0 rfl rfl (fun t238 => ?_)
    have t238 : τ (ρ a0 14) = some 45 := t238
    refine pw_bipush d200_241 (by decide) ?_
    refine pw_iconst d200_243 ?_
    refine pw_iload_n d200_244 rfl ?_
    refine pw_imul d200_245 ?_
    refine pw_iadd d200_246 ?_
    refine pw_iconst d200_247 ?_
    refine pw_iadd d200_248 ?_
    refine pw_aload_n d200_249 rfl ?_
    refine pw_iconst d200_250 ?_
    refine pw_sipush d200_251 (by decide) ?_
    refine pw_callV2 d200_254 k200_153 T233 hA0 rfl rfl rfl (ct199 (τ := τ) (ρ := ρ) T233 hA0 (by omega) (by omega) (by first | assumption | omega)) (fun r254 h254 q254 => ?_)
    obtain ⟨T254, F254, z254, ez254, lz254, uz254, pz254_0, pz254_1⟩ := q254
    subst ez254
    have f254 := f233.tr (F254.up (by decide))
    have q254b := ((F254 a0 7 hA0).1 7 (by decide)).1
    refine pw_iastB d200_257 T254 t238 rfl rfl rfl (by omega) (by omega) (by omega) (by show pv_wok _ _; unfold pv_wok; omega) (fun h257 T257 F257 E257 => ?_)
    have f257 := f254.tr (F257.up (by decide))
    have q257 := ((F257 a0 7 hA0).1 7 (by decide)).1
    have q257b := ((F257 a0 7 hA0).1 8 (by decide)).1
    have q257c := ((F257 a0 7 hA0).1 9 (by decide)).1
    have q257d := ((F257 a0 7 hA0).1 10 (by decide)).1
    have q257e := ((F257 a0 7 hA0).1 11 (by decide)).1
    have q257f := ((F257 a0 7 hA0).1 12 (by decide)).1
    exact pw_return d200_258 tt200 ⟨T257, f257, rfl, (by omega), (by first | exact ps_T.of (pt_s.eq i1_118) ((hT.wc hR0_14 (j := 1) rfl (by decide)).2.2.1 (by decide) |>.2) (by omega) | exact (ps_T.of (fk' := pv_fI h129 a0 12) (pt_s.eq e132) ((hT.wc hR0_14 (j := 1) rfl (by decide)).2.2.1 (by decide) |>.2) (by omega)).tr pz136_1 | exact ps_T.of ((pt_s.eq ((((F173.aeq hR0_14 (by decide)).trans (F152.aeq hR0_14 (by decide))).trans (F145.aeq hR0_14 (by decide))).trans i1_142)).wr' (pe_at E176) (by omega)) ((hT.wc hR0_14 (j := 1) rfl (by decide)).2.2.1 (by decide) |>.2) (by omega) | exact (ps_T.of (fk' := pv_fI h183 a0 12) (pt_s.eq ((F183.aeq hR0_14 (by decide)).trans i1_180)) ((hT.wc hR0_14 (j := 1) rfl (by decide)).2.2.1 (by decide) |>.2) (by omega)).tr pz190_1 | exact (ps_T.of (fk' := pv_fI h199 a0 12) (pt_s.eq ((F199.aeq hR0_14 (by decide)).trans i1_196)) ((hT.wc hR0_14 (j := 1) rfl (by decide)).2.2.1 (by decide) |>.2) (by omega)).tr pz206_1 | exact (ps_T.of (fk' := pv_fI h215 a0 12) (pt_s.eq ((F215.aeq hR0_14 (by decide)).trans i1_212)) ((hT.wc hR0_14 (j := 1) rfl (by decide)).2.2.1 (by decide) |>.2) (by omega)).tr pz222_1 | exact ps_T.of ((pt_s.eq ((((F254.aeq hR0_14 (by decide)).trans (F233.aeq hR0_14 (by decide))).trans (F229.aeq hR0_14 (by decide))).trans i1_228)).wr' (pe_at E257) (by omega)) ((hT.wc hR0_14 (j := 1) rfl (by decide)).2.2.1 (by decide) |>.2) (by omega)), (by first | exact congrFun i1_118 _ | exact pz136_2.trans (congrFun e132 _) | exact ((pt_s.eq ((((F173.aeq hR0_14 (by decide)).trans (F152.aeq hR0_14 (by decide))).trans (F145.aeq hR0_14 (by decide))).trans i1_142)).wr' (pe_at E176) (by omega)).2.2.2.2.2 | exact pz190_2.trans (congrFun ((F183.aeq hR0_14 (by decide)).trans i1_180) _) | exact pz206_2.trans (congrFun ((F199.aeq hR0_14 (by decide)).trans i1_196) _) | exact pz222_2.trans (congrFun ((F215.aeq hR0_14 (by decide)).trans i1_212) _) | exact ((pt_s.eq ((((F254.aeq hR0_14 (by decide)).trans (F233.aeq hR0_14 (by decide))).trans (F229.aeq hR0_14 (by decide))).trans i1_228)).wr' (pe_at E257) (by omega)).2.2.2.2.2)⟩
  have J212 : ∀ (h_212 : pv_H) (o1_212 o2_212 : Option Value), (pv_Ty τ ρ h_212) → (pv_Fr τ [456, 457, 458, 459, 460, 461, 2943] h h_212) → (pv_fI h_212 a0 7 ≤ 1600 ∧ pv_fI h_212 a0 8 ≤ pv_fI h_212 a0 7 ∧ pv_fI h_212 a0 9 ≤ pv_fI h_212 a0 8 ∧ (pv_fI h_212 a0 10 ≠ 0 → pv_fI h_212 a0 9 < pv_fI h_212 a0 8) ∧ pv_fI h a0 9 ≤ pv_fI h_212 a0 9) → (pv_aI h_212 (ρ a0 14) = pv_aI h (ρ a0 14)) → (pv_fI h_212 a0 12 = 0 → pv_fI h a0 12 = 0) → pv_T K 200 212 (pv_fl [some (.ref a0), o1_212, o2_212]) [] h_212 (Q200 τ ρ h a0) := by
    intro h_212 o1_212 o2_212 hT_212 hF_212 i0_212 i1_212 i2_212
    refine pw_aload_n d200_212 rfl ?_
    refine pw_ldcS d200_213 n200_213.1 n200_213.2 ?_
    refine pw_callV1 d200_215 k200_142 hT_212 hA0 rfl rfl rfl (ct196 (τ := τ) (ρ := ρ) hK hT_212 hA0 (by decide) (by first | assumption | omega)) (fun r215 h215 q215 => ?_)
    obtain ⟨T215, F215, z215, ez215, lz215, uz215, pz215_0, pz215_1⟩ := q215
    subst ez215
    have f215 := hF_212.tr (F215.up (by decide))
    have q215b := ((F215 a0 7 hA0).1 7 (by decide)).1
    have q215c := ((F215 a0 7 hA0).1 12 (by decide)).1
    refine pw_if_eq d200_218 rfl (by omega) (fun c218 => ?_) (fun c218 => ?_)
    · exact J228 h215 _ _ T215 f215 (by omega) (by exact (F215.aeq hR0_14 (by decide)).trans i1_212) (by omega)
    · refine pw_aload_n d200_221 rfl ?_
      refine pw_callV0 d200_222 k200_203 T215 hA0 rfl rfl rfl (ct209 (τ := τ) (ρ := ρ) T215 hA0 (by first | assumption | omega)) (fun r222 h222 q222 => ?_)
      obtain ⟨T222, F222, ez222, pz222_0, pz222_1, pz222_2⟩ := q222
      subst ez222
      have f222 := f215.tr (F222.up (by decide))
      have q222b := ((F222 a0 7 hA0).1 7 (by decide)).1
      refine pw_goto d200_225 rfl ?_
      exact pw_return d200_258 tt200 ⟨T222, f222, rfl, (by omega), (by first | exact ps_T.of (pt_s.eq i1_118) ((hT.wc hR0_14 (j := 1) rfl (by decide)).2.2.1 (by decide) |>.2) (by omega) | exact (ps_T.of (fk' := pv_fI h129 a0 12) (pt_s.eq e132) ((hT.wc hR0_14 (j := 1) rfl (by decide)).2.2.1 (by decide) |>.2) (by omega)).tr pz136_1 | exact ps_T.of ((pt_s.eq ((((F173.aeq hR0_14 (by decide)).trans (F152.aeq hR0_14 (by decide))).trans (F145.aeq hR0_14 (by decide))).trans i1_142)).wr' (pe_at E176) (by omega)) ((hT.wc hR0_14 (j := 1) rfl (by decide)).2.2.1 (by decide) |>.2) (by omega) | exact (ps_T.of (fk' := pv_fI h183 a0 12) (pt_s.eq ((F183.aeq hR0_14 (by decide)).trans i1_180)) ((hT.wc hR0_14 (j := 1) rfl (by decide)).2.2.1 (by decide) |>.2) (by omega)).tr pz190_1 | exact (ps_T.of (fk' := pv_fI h199 a0 12) (pt_s.eq ((F199.aeq hR0_14 (by decide)).trans i1_196)) ((hT.wc hR0_14 (j := 1) rfl (by decide)).2.2.1 (by decide) |>.2) (by omega)).tr pz206_1 | exact (ps_T.of (fk' := pv_fI h215 a0 12) (pt_s.eq ((F215.aeq hR0_14 (by decide)).trans i1_212)) ((hT.wc hR0_14 (j := 1) rfl (by decide)).2.2.1 (by decide) |>.2) (by omega)).tr pz222_1 | exact ps_T.of ((pt_s.eq ((((F254.aeq hR0_14 (by decide)).trans (F233.aeq hR0_14 (by decide))).trans (F229.aeq hR0_14 (by decide))).trans i1_228)).wr' (pe_at E257) (by omega)) ((hT.wc hR0_14 (j := 1) rfl (by decide)).2.2.1 (by decide) |>.2) (by omega)), (by first | exact congrFun i1_118 _ | exact pz136_2.trans (congrFun e132 _) | exact ((pt_s.eq ((((F173.aeq hR0_14 (by decide)).trans (F152.aeq hR0_14 (by decide))).trans (F145.aeq hR0_14 (by decide))).trans i1_142)).wr' (pe_at E176) (by omega)).2.2.2.2.2 | exact pz190_2.trans (congrFun ((F183.aeq hR0_14 (by decide)).trans i1_180) _) | exact pz206_2.trans (congrFun ((F199.aeq hR0_14 (by decide)).trans i1_196) _) | exact pz222_2.trans (congrFun ((F215.aeq hR0_14 (by decide)).trans i1_212) _) | exact ((pt_s.eq ((((F254.aeq hR0_14 (by decide)).trans (F233.aeq hR0_14 (by decide))).trans (F229.aeq hR0_14 (by decide))).trans i1_228)).wr' (pe_at E257) (by omega)).2.2.2.2.2)⟩
  have J196 : ∀ (h_196 : pv_H) (o1_196 o2_196 : Option Value), (pv_Ty τ ρ h_196) → (pv_Fr τ [456, 457, 458, 459, 460, 461, 2943] h h_196) → (pv_fI h_196 a0 7 ≤ 1600 ∧ pv_fI h_196 a0 8 ≤ pv_fI h_196 a0 7 ∧ pv_fI h_196 a0 9 ≤ pv_fI h_196 a0 8 ∧ (pv_fI h_196 a0 10 ≠ 0 → pv_fI h_196 a0 9 < pv_fI h_196 a0 8) ∧ pv_fI h a0 9 ≤ pv_fI h_196 a0 9) → (pv_aI h_196 (ρ a0 14) = pv_aI h (ρ a0 14)) → (pv_fI h_196 a0 12 = 0 → pv_fI h a0 12 = 0) → pv_T K 200 196 (pv_fl [some (.ref a0), o1_196, o2_196]) [] h_196 (Q200 τ ρ h a0) := by
    intro h_196 o1_196 o2_196 hT_196 hF_196 i0_196 i1_196 i2_196
    refine pw_aload_n d200_196 rfl ?_
    refine pw_ldcS d200_197 n200_197.1 n200_197.2 ?_
    refine pw_callV1 d200_199 k200_142 hT_196 hA0 rfl rfl rfl (ct196 (τ := τ) (ρ := ρ) hK hT_196 hA0 (by decide) (by first | assumption | omega)) (fun r199 h199 q199 => ?_)
    obtain ⟨T199, F199, z199, ez199, lz199, uz199, pz199_0, pz199_1⟩ := q199
    subst ez199
    have f199 := hF_196.tr (F199.up (by decide))
    have q199b := ((F199 a0 7 hA0).1 7 (by decide)).1
    have q199c := ((F199 a0 7 hA0).1 12 (by decide)).1
    refine pw_if_eq d200_202 rfl (by omega) (fun c202 => ?_) (fun c202 => ?_)
    · exact J212 h199 _ _ T199 f199 (by omega) (by exact (F199.aeq hR0_14 (by decide)).trans i1_196) (by omega)
    · refine pw_aload_n d200_205 rfl ?_
      refine pw_callV0 d200_206 k200_200 T199 hA0 rfl rfl rfl (ct208 (τ := τ) (ρ := ρ) T199 hA0 (by first | assumption | omega)) (fun r206 h206 q206 => ?_)
      obtain ⟨T206, F206, ez206, pz206_0, pz206_1, pz206_2⟩ := q206
      subst ez206
      have f206 := f199.tr (F206.up (by decide))
      have q206b := ((F206 a0 7 hA0).1 7 (by decide)).1
      refine pw_goto d200_209 rfl ?_
      exact pw_return d200_258 tt200 ⟨T206, f206, rfl, (by omega), (by first | exact ps_T.of (pt_s.eq i1_118) ((hT.wc hR0_14 (j := 1) rfl (by decide)).2.2.1 (by decide) |>.2) (by omega) | exact (ps_T.of (fk' := pv_fI h129 a0 12) (pt_s.eq e132) ((hT.wc hR0_14 (j := 1) rfl (by decide)).2.2.1 (by decide) |>.2) (by omega)).tr pz136_1 | exact ps_T.of ((pt_s.eq ((((F173.aeq hR0_14 (by decide)).trans (F152.aeq hR0_14 (by decide))).trans (F145.aeq hR0_14 (by decide))).trans i1_142)).wr' (pe_at E176) (by omega)) ((hT.wc hR0_14 (j := 1) rfl (by decide)).2.2.1 (by decide) |>.2) (by omega) | exact (ps_T.of (fk' := pv_fI h183 a0 12) (pt_s.eq ((F183.aeq hR0_14 (by decide)).trans i1_180)) ((hT.wc hR0_14 (j := 1) rfl (by decide)).2.2.1 (by decide) |>.2) (by omega)).tr pz190_1 | exact (ps_T.of (fk' := pv_fI h199 a0 12) (pt_s.eq ((F199.aeq hR0_14 (by decide)).trans i1_196)) ((hT.wc hR0_14 (j := 1) rfl (by decide)).2.2.1 (by decide) |>.2) (by omega)).tr pz206_1 | exact (ps_T.of (fk' := pv_fI h215 a0 12) (pt_s.eq ((F215.aeq hR0_14 (by decide)).trans i1_212)) ((hT.wc hR0_14 (j := 1) rfl (by decide)).2.2.1 (by decide) |>.2) (by omega)).tr pz222_1 | exact ps_T.of ((pt_s.eq ((((F254.aeq hR0_14 (by decide)).trans (F233.aeq hR0_14 (by decide))).trans (F229.aeq hR0_14 (by decide))).trans i1_228)).wr' (pe_at E257) (by omega)) ((hT.wc hR0_14 (j := 1) rfl (by decide)).2.2.1 (by decide) |>.2) (by omega)), (by first | exact congrFun i1_118 _ | exact pz136_2.trans (congrFun e132 _) | exact ((pt_s.eq ((((F173.aeq hR0_14 (by decide)).trans (F152.aeq hR0_14 (by decide))).trans (F145.aeq hR0_14 (by decide))).trans i1_142)).wr' (pe_at E176) (by omega)).2.2.2.2.2 | exact pz190_2.trans (congrFun ((F183.aeq hR0_14 (by decide)).trans i1_180) _) | exact pz206_2.trans (congrFun ((F199.aeq hR0_14 (by decide)).trans i1_196) _) | exact pz222_2.trans (congrFun ((F215.aeq hR0_14 (by decide)).trans i1_212) _) | exact ((pt_s.eq ((((F254.aeq hR0_14 (by decide)).trans (F233.aeq hR0_14 (by decide))).trans (F229.aeq hR0_14 (by decide))).trans i1_228)).wr' (pe_at E257) (by omega)).2.2.2.2.2)⟩
  have J180 : ∀ (h_180 : pv_H) (o1_180 o2_180 : Option Value), (pv_Ty τ ρ h_180) → (pv_Fr τ [456, 457, 458, 459, 460, 461, 2943] h h_180) → (pv_fI h_180 a0 7 ≤ 1600 ∧ pv_fI h_180 a0 8 ≤ pv_fI h_180 a0 7 ∧ pv_fI h_180 a0 9 ≤ pv_fI h_180 a0 8 ∧ (pv_fI h_180 a0 10 ≠ 0 → pv_fI h_180 a0 9 < pv_fI h_180 a0 8) ∧ pv_fI h a0 9 ≤ pv_fI h_180 a0 9) → (pv_aI h_180 (ρ a0 14) = pv_aI h (ρ a0 14)) → (pv_fI h_180 a0 12 = 0 → pv_fI h a0 12 = 0) → pv_T K 200 180 (pv_fl [some (.ref a0), o1_180, o2_180]) [] h_180 (Q200 τ ρ h a0) := by
    intro h_180 o1_180 o2_180 hT_180 hF_180 i0_180 i1_180 i2_180
    refine pw_aload_n d200_180 rfl ?_
    refine pw_ldcS d200_181 n200_181.1 n200_181.2 ?_
    refine pw_callV1 d200_183 k200_142 hT_180 hA0 rfl rfl rfl (ct196 (τ := τ) (ρ := ρ) hK hT_180 hA0 (by decide) (by first | assumption | omega)) (fun r183 h183 q183 => ?_)
    obtain ⟨T183, F183, z183, ez183, lz183, uz183, pz183_0, pz183_1⟩ := q183
    subst ez183
    have f183 := hF_180.tr (F183.up (by decide))
    have q183b := ((F183 a0 7 hA0).1 7 (by decide)).1
    have q183c := ((F183 a0 7 hA0).1 12 (by decide)).1
    refine pw_if_eq d200_186 rfl (by omega) (fun c186 => ?_) (fun c186 => ?_)
    · exact J196 h183 _ _ T183 f183 (by omega) (by exact (F183.aeq hR0_14 (by decide)).trans i1_180) (by omega)
    · refine pw_aload_n d200_189 rfl ?_
      refine pw_callV0 d200_190 k200_197 T183 hA0 rfl rfl rfl (ct207 (τ := τ) (ρ := ρ) hK T183 hA0 (by first | assumption | omega)) (fun r190 h190 q190 => ?_)
      obtain ⟨T190, F190, ez190, pz190_0, pz190_1, pz190_2⟩ := q190
      subst ez190
      have f190 := f183.tr (F190.up (by decide))
      have q190b := ((F190 a0 7 hA0).1 7 (by decide)).1
      refine pw_goto d200_193 rfl ?_
      exact pw_return d200_258 tt200 ⟨T190, f190, rfl, (by omega), (by first | exact ps_T.of (pt_s.eq i1_118) ((hT.wc hR0_14 (j := 1) rfl (by decide)).2.2.1 (by decide) |>.2) (by omega) | exact (ps_T.of (fk' := pv_fI h129 a0 12) (pt_s.eq e132) ((hT.wc hR0_14 (j := 1) rfl (by decide)).2.2.1 (by decide) |>.2) (by omega)).tr pz136_1 | exact ps_T.of ((pt_s.eq ((((F173.aeq hR0_14 (by decide)).trans (F152.aeq hR0_14 (by decide))).trans (F145.aeq hR0_14 (by decide))).trans i1_142)).wr' (pe_at E176) (by omega)) ((hT.wc hR0_14 (j := 1) rfl (by decide)).2.2.1 (by decide) |>.2) (by omega) | exact (ps_T.of (fk' := pv_fI h183 a0 12) (pt_s.eq ((F183.aeq hR0_14 (by decide)).trans i1_180)) ((hT.wc hR0_14 (j := 1) rfl (by decide)).2.2.1 (by decide) |>.2) (by omega)).tr pz190_1 | exact (ps_T.of (fk' := pv_fI h199 a0 12) (pt_s.eq ((F199.aeq hR0_14 (by decide)).trans i1_196)) ((hT.wc hR0_14 (j := 1) rfl (by decide)).2.2.1 (by decide) |>.2) (by omega)).tr pz206_1 | exact (ps_T.of (fk' := pv_fI h215 a0 12) (pt_s.eq ((F215.aeq hR0_14 (by decide)).trans i1_212)) ((hT.wc hR0_14 (j := 1) rfl (by decide)).2.2.1 (by decide) |>.2) (by omega)).tr pz222_1 | exact ps_T.of ((pt_s.eq ((((F254.aeq hR0_14 (by decide)).trans (F233.aeq hR0_14 (by decide))).trans (F229.aeq hR0_14 (by decide))).trans i1_228)).wr' (pe_at E257) (by omega)) ((hT.wc hR0_14 (j := 1) rfl (by decide)).2.2.1 (by decide) |>.2) (by omega)), (by first | exact congrFun i1_118 _ | exact pz136_2.trans (congrFun e132 _) | exact ((pt_s.eq ((((F173.aeq hR0_14 (by decide)).trans (F152.aeq hR0_14 (by decide))).trans (F145.aeq hR0_14 (by decide))).trans i1_142)).wr' (pe_at E176) (by omega)).2.2.2.2.2 | exact pz190_2.trans (congrFun ((F183.aeq hR0_14 (by decide)).trans i1_180) _) | exact pz206_2.trans (congrFun ((F199.aeq hR0_14 (by decide)).trans i1_196) _) | exact pz222_2.trans (congrFun ((F215.aeq hR0_14 (by decide)).trans i1_212) _) | exact ((pt_s.eq ((((F254.aeq hR0_14 (by decide)).trans (F233.aeq hR0_14 (by decide))).trans (F229.aeq hR0_14 (by decide))).trans i1_228)).wr' (pe_at E257) (by omega)).2.2.2.2.2)⟩
  have J142 : ∀ (h_142 : pv_H) (o1_142 o2_142 : Option Value), (pv_Ty τ ρ h_142) → (pv_Fr τ [456, 457, 458, 459, 460, 461, 2943] h h_142) → (pv_fI h_142 a0 7 ≤ 1600 ∧ pv_fI h_142 a0 8 ≤ pv_fI h_142 a0 7 ∧ pv_fI h_142 a0 9 ≤ pv_fI h_142 a0 8 ∧ (pv_fI h_142 a0 10 ≠ 0 → pv_fI h_142 a0 9 < pv_fI h_142 a0 8) ∧ pv_fI h a0 9 ≤ pv_fI h_142 a0 9) → (pv_aI h_142 (ρ a0 14) = pv_aI h (ρ a0 14)) → (pv_fI h_142 a0 12 = 0 → pv_fI h a0 12 = 0) → pv_T K 200 142 (pv_fl [some (.ref a0), o1_142, o2_142]) [] h_142 (Q200 τ ρ h a0) := by
    intro h_142 o1_142 o2_142 hT_142 hF_142 i0_142 i1_142 i2_142
    refine pw_aload_n d200_142 rfl ?_
    refine pw_ldcS d200_143 n200_143.1 n200_143.2 ?_
    refine pw_callV1 d200_145 k200_142 hT_142 hA0 rfl rfl rfl (ct196 (τ := τ) (ρ := ρ) hK hT_142 hA0 (by decide) (by first | assumption | omega)) (fun r145 h145 q145 => ?_)
    obtain ⟨T145, F145, z145, ez145, lz145, uz145, pz145_0, pz145_1⟩ := q145
    subst ez145
    have f145 := hF_142.tr (F145.up (by decide))
    have q145b := ((F145 a0 7 hA0).1 7 (by decide)).1
    have q145c := ((F145 a0 7 hA0).1 12 (by decide)).1
    refine pw_if_eq d200_148 rfl (by omega) (fun c148 => ?_) (fun c148 => ?_)
    · exact J180 h145 _ _ T145 f145 (by omega) (by exact (F145.aeq hR0_14 (by decide)).trans i1_142) (by omega)
    · refine pw_aload_n d200_151 rfl ?_
      refine pw_callV0 d200_152 k200_160 T145 hA0 rfl rfl rfl (ct202 (τ := τ) (ρ := ρ) T145 hA0 (by first | assumption | omega)) (fun r152 h152 q152 => ?_)
      obtain ⟨T152, F152, z152, ez152, lz152, uz152, pz152_0, pz152_1⟩ := q152
      subst ez152
      have f152 := f145.tr (F152.up (by decide))
      have q152b := ((F152 a0 7 hA0).1 7 (by decide)).1
      refine pw_istore_n d200_155 m200 rfl rfl ?_
      refine pw_aload_n d200_156 rfl ?_
      refine pw_getR d200_157 g200_31 T152 hA0 rfl rfl (fun t157 => ?_)
      have t157 : τ (ρ a0 14) = some 45 := t157
      refine pw_bipush d200_160 (by decide) ?_
      refine pw_iconst d200_162 ?_
      refine pw_iload_n d200_163 rfl ?_
      refine pw_imul d200_164 ?_
      refine pw_iadd d200_165 ?_
      refine pw_iconst d200_166 ?_
      refine pw_iadd d200_167 ?_
      refine pw_aload_n d200_168 rfl ?_
      refine pw_iconst d200_169 ?_
      refine pw_sipush d200_170 (by decide) ?_
      refine pw_callV2 d200_173 k200_153 T152 hA0 rfl rfl rfl (ct199 (τ := τ) (ρ := ρ) T152 hA0 (by omega) (by omega) (by first | assumption | omega)) (fun r173 h173 q173 => ?_)
      obtain ⟨T173, F173, z173, ez173, lz173, uz173, pz173_0, pz173_1⟩ := q173
      subst ez173
      have f173 := f152.tr (F173.up (by decide))
      have q173b := ((F173 a0 7 hA0).1 7 (by decide)).1
      refine pw_iastB d200_176 T173 t157 rfl rfl rfl (by omega) (by omega) (by omega) (by show pv_wok _ _; unfold pv_wok; omega) (fun h176 T176 F176 E176 => ?_)
      have f176 := f173.tr (F176.up (by decide))
      have q176 := ((F176 a0 7 hA0).1 7 (by decide)).1
      have q176b := ((F176 a0 7 hA0).1 8 (by decide)).1
      have q176c := ((F176 a0 7 hA0).1 9 (by decide)).1
      have q176d := ((F176 a0 7 hA0).1 10 (by decide)).1
      have q176e := ((F176 a0 7 hA0).1 11 (by decide)).1
      have q176f := ((F176 a0 7 hA0).1 12 (by decide)).1
      refine pw_goto d200_177 rfl ?_
      exact pw_return d200_258 tt200 ⟨T176, f176, rfl, (by omega), (by first | exact ps_T.of (pt_s.eq i1_118) ((hT.wc hR0_14 (j := 1) rfl (by decide)).2.2.1 (by decide) |>.2) (by omega) | exact (ps_T.of (fk' := pv_fI h129 a0 12) (pt_s.eq e132) ((hT.wc hR0_14 (j := 1) rfl (by decide)).2.2.1 (by decide) |>.2) (by omega)).tr pz136_1 | exact ps_T.of ((pt_s.eq ((((F173.aeq hR0_14 (by decide)).trans (F152.aeq hR0_14 (by decide))).trans (F145.aeq hR0_14 (by decide))).trans i1_142)).wr' (pe_at E176) (by omega)) ((hT.wc hR0_14 (j := 1) rfl (by decide)).2.2.1 (by decide) |>.2) (by omega) | exact (ps_T.of (fk' := pv_fI h183 a0 12) (pt_s.eq ((F183.aeq hR0_14 (by decide)).trans i1_180)) ((hT.wc hR0_14 (j := 1) rfl (by decide)).2.2.1 (by decide) |>.2) (by omega)).tr pz190_1 | exact (ps_T.of (fk' := pv_fI h199 a0 12) (pt_s.eq ((F199.aeq hR0_14 (by decide)).trans i1_196)) ((hT.wc hR0_14 (j := 1) rfl (by decide)).2.2.1 (by decide) |>.2) (by omega)).tr pz206_1 | exact (ps_T.of (fk' := pv_fI h215 a0 12) (pt_s.eq ((F215.aeq hR0_14 (by decide)).trans i1_212)) ((hT.wc hR0_14 (j := 1) rfl (by decide)).2.2.1 (by decide) |>.2) (by omega)).tr pz222_1 | exact ps_T.of ((pt_s.eq ((((F254.aeq hR0_14 (by decide)).trans (F233.aeq hR0_14 (by decide))).trans (F229.aeq hR0_14 (by decide))).trans i1_228)).wr' (pe_at E257) (by omega)) ((hT.wc hR0_14 (j := 1) rfl (by decide)).2.2.1 (by decide) |>.2) (by omega)), (by first | exact congrFun i1_118 _ | exact pz136_2.trans (congrFun e132 _) | exact ((pt_s.eq ((((F173.aeq hR0_14 (by decide)).trans (F152.aeq hR0_14 (by decide))).trans (F145.aeq hR0_14 (by decide))).trans i1_142)).wr' (pe_at E176) (by omega)).2.2.2.2.2 | exact pz190_2.trans (congrFun ((F183.aeq hR0_14 (by decide)).trans i1_180) _) | exact pz206_2.trans (congrFun ((F199.aeq hR0_14 (by decide)).trans i1_196) _) | exact pz222_2.trans (congrFun ((F215.aeq hR0_14 (by decide)).trans i1_212) _) | exact ((pt_s.eq ((((F254.aeq hR0_14 (by decide)).trans (F233.aeq hR0_14 (by decide))).trans (F229.aeq hR0_14 (by decide))).trans i1_228)).wr' (pe_at E257) (by omega)).2.2.2.2.2)⟩
  have J126 : ∀ (h_126 : pv_H) (o1_126 o2_126 : Option Value), (pv_Ty τ ρ h_126) → (pv_Fr τ [456, 457, 458, 459, 460, 461, 2943] h h_126) → (pv_fI h_126 a0 7 ≤ 1600 ∧ pv_fI h_126 a0 8 ≤ pv_fI h_126 a0 7 ∧ pv_fI h_126 a0 9 ≤ pv_fI h_126 a0 8 ∧ (pv_fI h_126 a0 10 ≠ 0 → pv_fI h_126 a0 9 < pv_fI h_126 a0 8) ∧ pv_fI h a0 9 ≤ pv_fI h_126 a0 9) → (pv_aI h_126 (ρ a0 14) = pv_aI h (ρ a0 14)) → (pv_fI h_126 a0 12 = 0 → pv_fI h a0 12 = 0) → (pt_w (pv_aI h_126 (ρ a0 4)) (pv_fI h_126 a0 12) (pv_fI h_126 a0 10) (pv_fI h_126 a0 8) (pv_fI h_126 a0 9) 1 → pv_aI h (ρ a0 14) (1 : Int).toNat ≤ 17) → pv_T K 200 126 (pv_fl [some (.ref a0), o1_126, o2_126]) [] h_126 (Q200 τ ρ h a0) := by
    intro h_126 o1_126 o2_126 hT_126 hF_126 i0_126 i1_126 i2_126 i3_126
    refine pw_aload_n d200_126 rfl ?_
    refine pw_ldcS d200_127 n200_127.1 n200_127.2 ?_
    refine pw_callV1 d200_129 k200_142 hT_126 hA0 rfl rfl rfl (ct196 (τ := τ) (ρ := ρ) hK hT_126 hA0 (by decide) (by first | assumption | omega)) (fun r129 h129 q129 => ?_)
    obtain ⟨T129, F129, z129, ez129, lz129, uz129, pz129_0, pz129_1⟩ := q129
    subst ez129
    have f129 := hF_126.tr (F129.up (by decide))
    have q129b := ((F129 a0 7 hA0).1 7 (by decide)).1
    have q129c := ((F129 a0 7 hA0).1 12 (by decide)).1
    have e132 : pv_aI h129 (ρ a0 14) = pv_aI h (ρ a0 14) := (F129.aeq hR0_14 (by decide)).trans i1_126
    have e1321 := congrFun e132 (1 : Int).toNat
    have e1322 := congrFun e132 (2 : Int).toNat
    refine pw_if_eq d200_132 rfl (by omega) (fun c132 => ?_) (fun c132 => ?_)
    · exact J142 h129 _ _ T129 f129 (by omega) (by exact e132) (by omega)
    · have f17 := i3_126 (pz129_1 (by omega))
      refine pw_aload_n d200_135 rfl ?_
      refine pw_callV0 d200_136 k200_194 T129 hA0 rfl rfl rfl (ct201 (τ := τ) (ρ := ρ) hK T129 hA0 (by first | assumption | omega) (by first | assumption | omega) (by first | assumption | omega)) (fun r136 h136 q136 => ?_)
      obtain ⟨T136, F136, ez136, pz136_0, pz136_1, pz136_2⟩ := q136
      subst ez136
      have f136 := f129.tr (F136.up (by decide))
      have q136b := ((F136 a0 7 hA0).1 7 (by decide)).1
      refine pw_goto d200_139 rfl ?_
      exact pw_return d200_258 tt200 ⟨T136, f136, rfl, (by omega), (by first | exact ps_T.of (pt_s.eq i1_118) ((hT.wc hR0_14 (j := 1) rfl (by decide)).2.2.1 (by decide) |>.2) (by omega) | exact (ps_T.of (fk' := pv_fI h129 a0 12) (pt_s.eq e132) ((hT.wc hR0_14 (j := 1) rfl (by decide)).2.2.1 (by decide) |>.2) (by omega)).tr pz136_1 | exact ps_T.of ((pt_s.eq ((((F173.aeq hR0_14 (by decide)).trans (F152.aeq hR0_14 (by decide))).trans (F145.aeq hR0_14 (by decide))).trans i1_142)).wr' (pe_at E176) (by omega)) ((hT.wc hR0_14 (j := 1) rfl (by decide)).2.2.1 (by decide) |>.2) (by omega) | exact (ps_T.of (fk' := pv_fI h183 a0 12) (pt_s.eq ((F183.aeq hR0_14 (by decide)).trans i1_180)) ((hT.wc hR0_14 (j := 1) rfl (by decide)).2.2.1 (by decide) |>.2) (by omega)).tr pz190_1 | exact (ps_T.of (fk' := pv_fI h199 a0 12) (pt_s.eq ((F199.aeq hR0_14 (by decide)).trans i1_196)) ((hT.wc hR0_14 (j := 1) rfl (by decide)).2.2.1 (by decide) |>.2) (by omega)).tr pz206_1 | exact (ps_T.of (fk' := pv_fI h215 a0 12) (pt_s.eq ((F215.aeq hR0_14 (by decide)).trans i1_212)) ((hT.wc hR0_14 (j := 1) rfl (by decide)).2.2.1 (by decide) |>.2) (by omega)).tr pz222_1 | exact ps_T.of ((pt_s.eq ((((F254.aeq hR0_14 (by decide)).trans (F233.aeq hR0_14 (by decide))).trans (F229.aeq hR0_14 (by decide))).trans i1_228)).wr' (pe_at E257) (by omega)) ((hT.wc hR0_14 (j := 1) rfl (by decide)).2.2.1 (by decide) |>.2) (by omega)), (by first | exact congrFun i1_118 _ | exact pz136_2.trans (congrFun e132 _) | exact ((pt_s.eq ((((F173.aeq hR0_14 (by decide)).trans (F152.aeq hR0_14 (by decide))).trans (F145.aeq hR0_14 (by decide))).trans i1_142)).wr' (pe_at E176) (by omega)).2.2.2.2.2 | exact pz190_2.trans (congrFun ((F183.aeq hR0_14 (by decide)).trans i1_180) _) | exact pz206_2.trans (congrFun ((F199.aeq hR0_14 (by decide)).trans i1_196) _) | exact pz222_2.trans (congrFun ((F215.aeq hR0_14 (by decide)).trans i1_212) _) | exact ((pt_s.eq ((((F254.aeq hR0_14 (by decide)).trans (F233.aeq hR0_14 (by decide))).trans (F229.aeq hR0_14 (by decide))).trans i1_228)).wr' (pe_at E257) (by omega)).2.2.2.2.2)⟩
  have J118 : ∀ (h_118 : pv_H) (o1_118 o2_118 : Option Value), (pv_Ty τ ρ h_118) → (pv_Fr τ [456, 457, 458, 459, 460, 461, 2943] h h_118) → (pv_fI h_118 a0 7 ≤ 1600 ∧ pv_fI h_118 a0 8 ≤ pv_fI h_118 a0 7 ∧ pv_fI h_118 a0 9 ≤ pv_fI h_118 a0 8 ∧ (pv_fI h_118 a0 10 ≠ 0 → pv_fI h_118 a0 9 < pv_fI h_118 a0 8) ∧ pv_fI h a0 9 ≤ pv_fI h_118 a0 9) → (pv_aI h_118 (ρ a0 14) = pv_aI h (ρ a0 14)) → (pv_fI h_118 a0 12 = 0 → pv_fI h a0 12 = 0) → (pt_w (pv_aI h_118 (ρ a0 4)) (pv_fI h_118 a0 12) (pv_fI h_118 a0 10) (pv_fI h_118 a0 8) (pv_fI h_118 a0 9) 1 → pv_aI h (ρ a0 14) (1 : Int).toNat ≤ 17) → pv_T K 200 118 (pv_fl [some (.ref a0), o1_118, o2_118]) [] h_118 (Q200 τ ρ h a0) := by
    intro h_118 o1_118 o2_118 hT_118 hF_118 i0_118 i1_118 i2_118 i3_118
    refine pw_aload_n d200_118 rfl ?_
    refine pw_callV0 d200_119 k200_121 hT_118 hA0 rfl rfl rfl (ct192 (τ := τ) (ρ := ρ) hT_118 hA0) (fun r119 h119 q119 => ?_)
    obtain ⟨eh119, z119, ez119, lz119, uz119, pz119_0⟩ := q119
    subst eh119
    subst ez119
    refine pw_if_ne d200_122 rfl (by omega) (fun c122 => ?_) (fun c122 => ?_)
    · exact J126 h_118 _ _ hT_118 hF_118 (by omega) (by assumption) (by omega) (by assumption)
    · exact pw_return d200_125 tt200 ⟨hT_118, hF_118, rfl, (by omega), (by first | exact ps_T.of (pt_s.eq i1_118) ((hT.wc hR0_14 (j := 1) rfl (by decide)).2.2.1 (by decide) |>.2) (by omega) | exact (ps_T.of (fk' := pv_fI h129 a0 12) (pt_s.eq e132) ((hT.wc hR0_14 (j := 1) rfl (by decide)).2.2.1 (by decide) |>.2) (by omega)).tr pz136_1 | exact ps_T.of ((pt_s.eq ((((F173.aeq hR0_14 (by decide)).trans (F152.aeq hR0_14 (by decide))).trans (F145.aeq hR0_14 (by decide))).trans i1_142)).wr' (pe_at E176) (by omega)) ((hT.wc hR0_14 (j := 1) rfl (by decide)).2.2.1 (by decide) |>.2) (by omega) | exact (ps_T.of (fk' := pv_fI h183 a0 12) (pt_s.eq ((F183.aeq hR0_14 (by decide)).trans i1_180)) ((hT.wc hR0_14 (j := 1) rfl (by decide)).2.2.1 (by decide) |>.2) (by omega)).tr pz190_1 | exact (ps_T.of (fk' := pv_fI h199 a0 12) (pt_s.eq ((F199.aeq hR0_14 (by decide)).trans i1_196)) ((hT.wc hR0_14 (j := 1) rfl (by decide)).2.2.1 (by decide) |>.2) (by omega)).tr pz206_1 | exact (ps_T.of (fk' := pv_fI h215 a0 12) (pt_s.eq ((F215.aeq hR0_14 (by decide)).trans i1_212)) ((hT.wc hR0_14 (j := 1) rfl (by decide)).2.2.1 (by decide) |>.2) (by omega)).tr pz222_1 | exact ps_T.of ((pt_s.eq ((((F254.aeq hR0_14 (by decide)).trans (F233.aeq hR0_14 (by decide))).trans (F229.aeq hR0_14 (by decide))).trans i1_228)).wr' (pe_at E257) (by omega)) ((hT.wc hR0_14 (j := 1) rfl (by decide)).2.2.1 (by decide) |>.2) (by omega)), (by first | exact congrFun i1_118 _ | exact pz136_2.trans (congrFun e132 _) | exact ((pt_s.eq ((((F173.aeq hR0_14 (by decide)).trans (F152.aeq hR0_14 (by decide))).trans (F145.aeq hR0_14 (by decide))).trans i1_142)).wr' (pe_at E176) (by omega)).2.2.2.2.2 | exact pz190_2.trans (congrFun ((F183.aeq hR0_14 (by decide)).trans i1_180) _) | exact pz206_2.trans (congrFun ((F199.aeq hR0_14 (by decide)).trans i1_196) _) | exact pz222_2.trans (congrFun ((F215.aeq hR0_14 (by decide)).trans i1_212) _) | exact ((pt_s.eq ((((F254.aeq hR0_14 (by decide)).trans (F233.aeq hR0_14 (by decide))).trans (F229.aeq hR0_14 (by decide))).trans i1_228)).wr' (pe_at E257) (by omega)).2.2.2.2.2)⟩
  have J93 : ∀ (h_93 : pv_H) (o1_93 o2_93 : Option Value), (pv_Ty τ ρ h_93) → (pv_Fr τ [456, 457, 458, 459, 460, 461, 2943] h h_93) → (pv_fI h_93 a0 7 ≤ 1600 ∧ pv_fI h_93 a0 8 ≤ pv_fI h_93 a0 7 ∧ pv_fI h_93 a0 9 ≤ pv_fI h_93 a0 8 ∧ (pv_fI h_93 a0 10 ≠ 0 → pv_fI h_93 a0 9 < pv_fI h_93 a0 8) ∧ pv_fI h a0 9 ≤ pv_fI h_93 a0 9) → (pv_aI h_93 (ρ a0 14) = pv_aI h (ρ a0 14)) → (pv_fI h_93 a0 12 = 0 → pv_fI h a0 12 = 0) → pv_T K 200 93 (pv_fl [some (.ref a0), o1_93, o2_93]) [] h_93 (Q200 τ ρ h a0) := by
    intro h_93 o1_93 o2_93 hT_93 hF_93 i0_93 i1_93 i2_93
    have f18 : pv_aI h (ρ a0 14) (1 : Int).toNat ≤ 18 := (hT.wc hR0_14 (j := 1) rfl (by decide)).2.2.1 (by decide) |>.2
    have e93 := congrFun i1_93 (1 : Int).toNat
    refine pw_aload_n d200_93 rfl ?_
    refine pw_ldcS d200_94 n200_94.1 n200_94.2 ?_
    refine pw_callV1 d200_96 k200_135 hT_93 hA0 rfl rfl rfl (ct197F (τ := τ) (ρ := ρ) hK hT_93 hA0 (by decide) (by first | assumption | omega)) (fun r96 h96 q96 => ?_)
    obtain ⟨eh96, z96, ez96, lz96, uz96, pz96_0⟩ := q96
    subst eh96
    subst ez96
    refine pw_if_eq d200_99 rfl (by omega) (fun c99 => ?_) (fun c99 => ?_)
    · exact J118 h_93 _ _ hT_93 hF_93 (by omega) (by first | assumption | exact (F115.aeq hR0_14 (by decide)).trans i1_93) (by omega) (by first | exact rn_18 (by omega) | (intro q9; rcases pz96_0 with q | q; (first | omega | (exfalso; omega)); exact absurd q9 q.2))
    · refine pw_aload_n d200_102 rfl ?_
      refine pw_getR d200_103 g200_31 hT_93 hA0 rfl rfl (fun t103 => ?_)
      have t103 : τ (ρ a0 14) = some 45 := t103
      refine pw_iconst d200_106 ?_
      refine pw_ialdB d200_107 hT_93 t103 rfl rfl (by omega) (by omega) (fun u107 => ?_)
      have u107 : pv_wok ((1 : Int)) (pv_aI h_93 (ρ a0 14) ((1 : Int)).toNat) := u107
      have vu107 := u107.2.2.1 (by omega)
      refine pw_bipush d200_108 (by decide) ?_
      refine pw_icmp_ne d200_110 rfl (by omega) (by omega) (fun c110 => ?_) (fun c110 => ?_)
      · exact J118 h_93 _ _ hT_93 hF_93 (by omega) (by first | assumption | exact (F115.aeq hR0_14 (by decide)).trans i1_93) (by omega) (by first | exact rn_18 (by omega) | (intro q9; rcases pz96_0 with q | q; (first | omega | (exfalso; omega)); exact absurd q9 q.2))
      · refine pw_aload_n d200_113 rfl ?_
        refine pw_iconst d200_114 ?_
        refine pw_callV1 d200_115 k200_145 hT_93 hA0 rfl rfl rfl (ct198F (τ := τ) (ρ := ρ) hT_93 hA0 (by omega)) (fun r115 h115 q115 => ?_)
        obtain ⟨T115, F115, ez115, pz115_0, pz115_1⟩ := q115
        subst ez115
        have f115 := hF_93.tr (F115.up (by decide))
        have q115b := ((F115 a0 7 hA0).1 7 (by decide)).1
        have q115c := ((F115 a0 7 hA0).1 8 (by decide)).1
        have q115d := ((F115 a0 7 hA0).1 9 (by decide)).1
        have q115e := ((F115 a0 7 hA0).1 10 (by decide)).1
        have q115f := ((F115 a0 7 hA0).1 11 (by decide)).1
        exact J118 h115 _ _ T115 f115 (by omega) (by first | assumption | exact (F115.aeq hR0_14 (by decide)).trans i1_93) (by omega) (by first | exact rn_18 (by omega) | (intro q9; rcases pz96_0 with q | q; (first | omega | (exfalso; omega)); exact absurd q9 q.2))
  have J69 : ∀ (h_69 : pv_H) (o1_69 o2_69 : Option Value), (pv_Ty τ ρ h_69) → (pv_Fr τ [456, 457, 458, 459, 460, 461, 2943] h h_69) → (pv_fI h_69 a0 7 ≤ 1600 ∧ pv_fI h_69 a0 8 ≤ pv_fI h_69 a0 7 ∧ pv_fI h_69 a0 9 ≤ pv_fI h_69 a0 8 ∧ (pv_fI h_69 a0 10 ≠ 0 → pv_fI h_69 a0 9 < pv_fI h_69 a0 8) ∧ pv_fI h a0 9 ≤ pv_fI h_69 a0 9) → (pv_aI h_69 (ρ a0 14) = pv_aI h (ρ a0 14)) → (pv_fI h_69 a0 12 = 0 → pv_fI h a0 12 = 0) → pv_T K 200 69 (pv_fl [some (.ref a0), o1_69, o2_69]) [] h_69 (Q200 τ ρ h a0) := by
    intro h_69 o1_69 o2_69 hT_69 hF_69 i0_69 i1_69 i2_69
    refine pw_aload_n d200_69 rfl ?_
    refine pw_ldcS d200_70 n200_70.1 n200_70.2 ?_
    refine pw_callV1 d200_72 k200_135 hT_69 hA0 rfl rfl rfl (ct197F (τ := τ) (ρ := ρ) hK hT_69 hA0 (by decide) (by first | assumption | omega)) (fun r72 h72 q72 => ?_)
    obtain ⟨eh72, z72, ez72, lz72, uz72, pz72_0⟩ := q72
    subst eh72
    subst ez72
    refine pw_if_eq d200_75 rfl (by omega) (fun c75 => ?_) (fun c75 => ?_)
    · exact J93 h_69 _ _ hT_69 hF_69 (by omega) (by first | assumption | exact (F90.aeq hR0_14 (by decide)).trans i1_69) (by omega)
    · refine pw_aload_n d200_78 rfl ?_
      refine pw_getR d200_79 g200_31 hT_69 hA0 rfl rfl (fun t79 => ?_)
      have t79 : τ (ρ a0 14) = some 45 := t79
      refine pw_iconst d200_82 ?_
      refine pw_ialdB d200_83 hT_69 t79 rfl rfl (by omega) (by omega) (fun u83 => ?_)
      have u83 : pv_wok ((5 : Int)) (pv_aI h_69 (ρ a0 14) ((5 : Int)).toNat) := u83
      have vu83 := u83.2.2.2.2.2.1 (by omega)
      refine pw_iconst d200_84 ?_
      refine pw_icmp_ne d200_85 rfl (by omega) (by omega) (fun c85 => ?_) (fun c85 => ?_)
      · exact J93 h_69 _ _ hT_69 hF_69 (by omega) (by first | assumption | exact (F90.aeq hR0_14 (by decide)).trans i1_69) (by omega)
      · refine pw_aload_n d200_88 rfl ?_
        refine pw_iconst d200_89 ?_
        refine pw_callV1 d200_90 k200_145 hT_69 hA0 rfl rfl rfl (ct198F (τ := τ) (ρ := ρ) hT_69 hA0 (by omega)) (fun r90 h90 q90 => ?_)
        obtain ⟨T90, F90, ez90, pz90_0, pz90_1⟩ := q90
        subst ez90
        have f90 := hF_69.tr (F90.up (by decide))
        have q90b := ((F90 a0 7 hA0).1 7 (by decide)).1
        have q90c := ((F90 a0 7 hA0).1 8 (by decide)).1
        have q90d := ((F90 a0 7 hA0).1 9 (by decide)).1
        have q90e := ((F90 a0 7 hA0).1 10 (by decide)).1
        have q90f := ((F90 a0 7 hA0).1 11 (by decide)).1
        exact J93 h90 _ _ T90 f90 (by omega) (by first | assumption | exact (F90.aeq hR0_14 (by decide)).trans i1_69) (by omega)
  refine pw_aload_n d200_0 rfl ?_
  refine pw_ldcS d200_1 n200_1.1 n200_1.2 ?_
  refine pw_callV1 d200_3 k200_135 hT hA0 rfl rfl rfl (ct197F (τ := τ) (ρ := ρ) hK hT hA0 (by decide) (by first | assumption | omega)) (fun r3 h3 q3 => ?_)
  obtain ⟨eh3, z3, ez3, lz3, uz3, pz3_0⟩ := q3
  subst eh3
  subst ez3
  refine pw_if_ne d200_6 rfl (by omega) (fun c6 => ?_) (fun c6 => ?_)
  · refine pw_iconst d200_54 ?_
    refine pw_goto d200_55 rfl ?_
    refine pw_istore_n d200_59 m200 rfl rfl ?_
    refine pw_iload_n d200_60 rfl ?_
    refine pw_if_ne d200_61 rfl (by omega) (fun c61 => ?_) (fun c61 => ?_)
    · exact J69 h _ _ hT hF0 (by omega) (by first | rfl | exact F66.aeq hR0_14 (by decide)) (by omega)
    · exfalso; omega
  · refine pw_aload_n d200_9 rfl ?_
    refine pw_ldcS d200_10 n200_10.1 n200_10.2 ?_
    refine pw_callV1 d200_12 k200_135 hT hA0 rfl rfl rfl (ct197F (τ := τ) (ρ := ρ) hK hT hA0 (by decide) (by first | assumption | omega)) (fun r12 h12 q12 => ?_)
    obtain ⟨eh12, z12, ez12, lz12, uz12, pz12_0⟩ := q12
    subst eh12
    subst ez12
    refine pw_if_ne d200_15 rfl (by omega) (fun c15 => ?_) (fun c15 => ?_)
    · refine pw_iconst d200_54 ?_
      refine pw_goto d200_55 rfl ?_
      refine pw_istore_n d200_59 m200 rfl rfl ?_
      refine pw_iload_n d200_60 rfl ?_
      refine pw_if_ne d200_61 rfl (by omega) (fun c61 => ?_) (fun c61 => ?_)
      · exact J69 h _ _ hT hF0 (by omega) (by first | rfl | exact F66.aeq hR0_14 (by decide)) (by omega)
      · exfalso; omega
    · refine pw_aload_n d200_18 rfl ?_
      refine pw_ldcS d200_19 n200_19.1 n200_19.2 ?_
      refine pw_callV1 d200_21 k200_135 hT hA0 rfl rfl rfl (ct197F (τ := τ) (ρ := ρ) hK hT hA0 (by decide) (by first | assumption | omega)) (fun r21 h21 q21 => ?_)
      obtain ⟨eh21, z21, ez21, lz21, uz21, pz21_0⟩ := q21
      subst eh21
      subst ez21
      refine pw_if_ne d200_24 rfl (by omega) (fun c24 => ?_) (fun c24 => ?_)
      · refine pw_iconst d200_54 ?_
        refine pw_goto d200_55 rfl ?_
        refine pw_istore_n d200_59 m200 rfl rfl ?_
        refine pw_iload_n d200_60 rfl ?_
        refine pw_if_ne d200_61 rfl (by omega) (fun c61 => ?_) (fun c61 => ?_)
        · exact J69 h _ _ hT hF0 (by omega) (by first | rfl | exact F66.aeq hR0_14 (by decide)) (by omega)
        · exfalso; omega
      · refine pw_aload_n d200_27 rfl ?_
        refine pw_ldcS d200_28 n200_28.1 n200_28.2 ?_
        refine pw_callV1 d200_30 k200_135 hT hA0 rfl rfl rfl (ct197F (τ := τ) (ρ := ρ) hK hT hA0 (by decide) (by first | assumption | omega)) (fun r30 h30 q30 => ?_)
        obtain ⟨eh30, z30, ez30, lz30, uz30, pz30_0⟩ := q30
        subst eh30
        subst ez30
        refine pw_if_ne d200_33 rfl (by omega) (fun c33 => ?_) (fun c33 => ?_)
        · refine pw_iconst d200_54 ?_
          refine pw_goto d200_55 rfl ?_
          refine pw_istore_n d200_59 m200 rfl rfl ?_
          refine pw_iload_n d200_60 rfl ?_
          refine pw_if_ne d200_61 rfl (by omega) (fun c61 => ?_) (fun c61 => ?_)
          · exact J69 h _ _ hT hF0 (by omega) (by first | rfl | exact F66.aeq hR0_14 (by decide)) (by omega)
          · exfalso; omega
        · refine pw_aload_n d200_36 rfl ?_
          refine pw_ldcS d200_37 n200_37.1 n200_37.2 ?_
          refine pw_callV1 d200_39 k200_135 hT hA0 rfl rfl rfl (ct197F (τ := τ) (ρ := ρ) hK hT hA0 (by decide) (by first | assumption | omega)) (fun r39 h39 q39 => ?_)
          obtain ⟨eh39, z39, ez39, lz39, uz39, pz39_0⟩ := q39
          subst eh39
          subst ez39
          refine pw_if_ne d200_42 rfl (by omega) (fun c42 => ?_) (fun c42 => ?_)
          · refine pw_iconst d200_54 ?_
            refine pw_goto d200_55 rfl ?_
            refine pw_istore_n d200_59 m200 rfl rfl ?_
            refine pw_iload_n d200_60 rfl ?_
            refine pw_if_ne d200_61 rfl (by omega) (fun c61 => ?_) (fun c61 => ?_)
            · exact J69 h _ _ hT hF0 (by omega) (by first | rfl | exact F66.aeq hR0_14 (by decide)) (by omega)
            · exfalso; omega
          · refine pw_aload_n d200_45 rfl ?_
            refine pw_ldcS d200_46 n200_46.1 n200_46.2 ?_
            refine pw_callV1 d200_48 k200_135 hT hA0 rfl rfl rfl (ct197F (τ := τ) (ρ := ρ) hK hT hA0 (by decide) (by first | assumption | omega)) (fun r48 h48 q48 => ?_)
            obtain ⟨eh48, z48, ez48, lz48, uz48, pz48_0⟩ := q48
            subst eh48
            subst ez48
            refine pw_if_eq d200_51 rfl (by omega) (fun c51 => ?_) (fun c51 => ?_)
            · refine pw_iconst d200_58 ?_
              refine pw_istore_n d200_59 m200 rfl rfl ?_
              refine pw_iload_n d200_60 rfl ?_
              refine pw_if_ne d200_61 rfl (by omega) (fun c61 => ?_) (fun c61 => ?_)
              · exfalso; omega
              · refine pw_aload_n d200_64 rfl ?_
                refine pw_iconst d200_65 ?_
                refine pw_callV1 d200_66 k200_145 hT hA0 rfl rfl rfl (ct198F (τ := τ) (ρ := ρ) hT hA0 (by omega)) (fun r66 h66 q66 => ?_)
                obtain ⟨T66, F66, ez66, pz66_0, pz66_1⟩ := q66
                subst ez66
                have f66 := hF0.tr (F66.up (by decide))
                have q66b := ((F66 a0 7 hA0).1 7 (by decide)).1
                have q66c := ((F66 a0 7 hA0).1 8 (by decide)).1
                have q66d := ((F66 a0 7 hA0).1 9 (by decide)).1
                have q66e := ((F66 a0 7 hA0).1 10 (by decide)).1
                have q66f := ((F66 a0 7 hA0).1 11 (by decide)).1
                exact J69 h66 _ _ T66 f66 (by omega) (by first | rfl | exact F66.aeq hR0_14 (by decide)) (by omega)
            · refine pw_iconst d200_54 ?_
              refine pw_goto d200_55 rfl ?_
              refine pw_istore_n d200_59 m200 rfl rfl ?_
              refine pw_iload_n d200_60 rfl ?_
              refine pw_if_ne d200_61 rfl (by omega) (fun c61 => ?_) (fun c61 => ?_)
              · exact J69 h _ _ hT hF0 (by omega) (by first | rfl | exact F66.aeq hR0_14 (by decide)) (by omega)
              · exfalso; omega

abbrev Q193 (τ : Nat → Option Nat) (ρ : Nat → Nat → Nat) (h : pv_H) (a0 : Nat) : Option Value → pv_H → Prop := fun r h' => pv_Ty τ ρ h' ∧ pv_Fr τ [456, 457, 458, 459, 460, 461, 2943] h h' ∧ r = none ∧ (pv_fI h' a0 7 ≤ 1600 ∧ pv_fI h' a0 8 ≤ pv_fI h' a0 7 ∧ pv_fI h' a0 9 ≤ pv_fI h' a0 8 ∧ (pv_fI h' a0 10 ≠ 0 → pv_fI h' a0 9 < pv_fI h' a0 8)) ∧ (ps_T (pv_aI h (ρ a0 14)) (pv_aI h' (ρ a0 14)) (pv_fI h a0 12) (pv_fI h' a0 12)) ∧ (pv_fI h' a0 12 = 0 → pv_fI h a0 9 < pv_fI h' a0 9) ∧ (pv_fI h' a0 12 = 0 → 0 ≤ pv_aI h' (ρ a0 14) (2 : Int).toNat ∧ pv_aI h' (ρ a0 14) (2 : Int).toNat ≤ pv_fI h' a0 9)
set_option maxHeartbeats 4000000 in
set_option maxRecDepth 20000 in
/-- AngleNetModel.readLine()V -/
theorem ct193 {τ : Nat → Option Nat} {ρ : Nat → Nat → Nat} {K : Nat → Nat} {h : pv_H} {a0 : Nat} (hK : pv_Kok K) (hT : pv_Ty τ ρ h) (hA0 : τ a0 = some 7) (hP0 : pv_fI h a0 7 ≤ 1600 ∧ pv_fI h a0 8 ≤ pv_fI h a0 7 ∧ pv_fI h a0 9 ≤ pv_fI h a0 8 ∧ (pv_fI h a0 10 ≠ 0 → pv_fI h a0 9 < pv_fI h a0 8)) (hP1 : pv_fI h a0 12 = 0) (hP2 : 0 ≤ pv_aI h (ρ a0 14) (2 : Int).toNat ∧ pv_aI h (ρ a0 14) (2 : Int).toNat ≤ pv_fI h a0 9) : pv_C K 193 [.ref a0] h (Q193 τ ρ h a0) := by
  refine pw_entry 0 ?_
  show pv_T K 193 0 (pv_fl [some (.ref a0)]) [] h (Q193 τ ρ h a0)
  have hR0_14 : τ (ρ a0 14) = some 45 := hT.rf (t' := 45) hA0 rfl rfl
  have hF0 : pv_Fr τ [456, 457, 458, 459, 460, 461, 2943] h h := pv_Fr.rf
  have J62 : ∀ (h_62 : pv_H), (pv_Ty τ ρ h_62) → (pv_Fr τ [456, 457, 458, 459, 460, 461, 2943] h h_62) → (pv_fI h_62 a0 7 ≤ 1600 ∧ pv_fI h_62 a0 8 ≤ pv_fI h_62 a0 7 ∧ pv_fI h_62 a0 9 ≤ pv_fI h_62 a0 8 ∧ (pv_fI h_62 a0 10 ≠ 0 → pv_fI h_62 a0 9 < pv_fI h_62 a0 8)) → (ps_T (pv_aI h (ρ a0 14)) (pv_aI h_62 (ρ a0 14)) (pv_fI h a0 12) (pv_fI h_62 a0 12)) → (pv_fI h_62 a0 12 = 0 → pv_fI h a0 9 < pv_fI h_62 a0 9) → (pv_aI h_62 (ρ a0 14) (2 : Int).toNat = pv_aI h (ρ a0 14) (2 : Int).toNat) → pv_T K 193 62 (pv_fl [some (.ref a0)]) [] h_62 (Q193 τ ρ h a0) := by
    intro h_62 hT_62 hF_62 i0_62 i1_62 i2_62 i3_62
    refine pw_aload_n d193_62 rfl ?_
    have g62 := (hT_62.wc hR0_14 (j := 1) rfl (by decide)).2.2.1 (by decide) |>.2
    refine pw_getR d193_63 g193_31 hT_62 hA0 rfl rfl (fun t63 => ?_)
    have t63 : τ (ρ a0 14) = some 45 := t63
    refine pw_iconst d193_66 ?_
    refine pw_dup2 d193_67 rfl rfl ?_
    refine pw_ialdB d193_68 hT_62 t63 rfl rfl (by omega) (by omega) (fun u68 => ?_)
    have u68 : pv_wok ((2 : Int)) (pv_aI h_62 (ρ a0 14) ((2 : Int)).toNat) := u68
    have vu68 := u68.1
    have b68 : 0 ≤ pv_aI h_62 (ρ a0 14) (2 : Int).toNat ∧ pv_aI h_62 (ρ a0 14) (2 : Int).toNat ≤ 1600 := by omega
    refine pw_iconst d193_69 ?_
    refine pw_iadd d193_70 ?_
    refine pw_iastB d193_71 hT_62 t63 rfl rfl rfl (by omega) (by omega) (by omega) (by show pv_wok _ _; unfold pv_wok; omega) (fun h71 T71 F71 E71 => ?_)
    have f71 := hF_62.tr (F71.up (by decide))
    have q71 := ((F71 a0 7 hA0).1 7 (by decide)).1
    have q71b := ((F71 a0 7 hA0).1 8 (by decide)).1
    have q71c := ((F71 a0 7 hA0).1 9 (by decide)).1
    have q71d := ((F71 a0 7 hA0).1 10 (by decide)).1
    have q71e := ((F71 a0 7 hA0).1 11 (by decide)).1
    have q71f := ((F71 a0 7 hA0).1 12 (by decide)).1
    have e72 : pv_aI h71 (ρ a0 14) (2 : Int).toNat = pv_aI h_62 (ρ a0 14) (2 : Int).toNat + 1 := by rw [pe_at E71, if_pos rfl]
    exact pw_return d193_72 tt193 ⟨T71, f71, rfl, (by omega), (by exact i1_62.tr (rl_2 (pe_at E71) (by intro _; omega) g62 (by omega))), (by omega), (by omega)⟩
  have J51 : ∀ (h_51 : pv_H), (pv_Ty τ ρ h_51) → (pv_Fr τ [456, 457, 458, 459, 460, 461, 2943] h h_51) → (pv_fI h_51 a0 7 ≤ 1600 ∧ pv_fI h_51 a0 8 ≤ pv_fI h_51 a0 7 ∧ pv_fI h_51 a0 9 ≤ pv_fI h_51 a0 8 ∧ (pv_fI h_51 a0 10 ≠ 0 → pv_fI h_51 a0 9 < pv_fI h_51 a0 8) ∧ pv_fI h a0 9 ≤ pv_fI h_51 a0 9) → (ps_T (pv_aI h (ρ a0 14)) (pv_aI h_51 (ρ a0 14)) (pv_fI h a0 12) (pv_fI h_51 a0 12)) → (pv_fI h_51 a0 12 = 0 → pv_fI h_51 a0 10 = 3) → (pv_aI h_51 (ρ a0 14) (2 : Int).toNat = pv_aI h (ρ a0 14) (2 : Int).toNat) → pv_T K 193 51 (pv_fl [some (.ref a0)]) [] h_51 (Q193 τ ρ h a0) := by
    intro h_51 hT_51 hF_51 i0_51 i1_51 i2_51 i3_51
    refine pw_aload_n d193_51 rfl ?_
    have g51 := (hT_51.wc hR0_14 (j := 1) rfl (by decide)).2.2.1 (by decide) |>.2
    refine pw_callV0 d193_52 k193_121 hT_51 hA0 rfl rfl rfl (ct192 (τ := τ) (ρ := ρ) hT_51 hA0) (fun r52 h52 q52 => ?_)
    obtain ⟨eh52, z52, ez52, lz52, uz52, pz52_0⟩ := q52
    subst eh52
    subst ez52
    refine pw_if_eq d193_55 rfl (by omega) (fun c55 => ?_) (fun c55 => ?_)
    · exact J62 h_51 hT_51 hF_51 (by omega) (by first | assumption | exact i1_51.tr (ps_T.of (pt_s.eq (F59.aeq hR0_14 (by decide))) g51 (by omega))) (by omega) (by first | assumption | exact (congrFun (F59.aeq hR0_14 (by decide)) _).trans i3_51)
    · refine pw_aload_n d193_58 rfl ?_
      refine pw_callV0 d193_59 k193_139 hT_51 hA0 rfl rfl rfl (ct190 (τ := τ) (ρ := ρ) hT_51 hA0 (by first | assumption | omega)) (fun r59 h59 q59 => ?_)
      obtain ⟨T59, F59, ez59, pz59_0, pz59_1⟩ := q59
      subst ez59
      have f59 := hF_51.tr (F59.up (by decide))
      have q59b := ((F59 a0 7 hA0).1 7 (by decide)).1
      have q59c := ((F59 a0 7 hA0).1 12 (by decide)).1
      exact J62 h59 T59 f59 (by omega) (by first | assumption | exact i1_51.tr (ps_T.of (pt_s.eq (F59.aeq hR0_14 (by decide))) g51 (by omega))) (by omega) (by first | assumption | exact (congrFun (F59.aeq hR0_14 (by decide)) _).trans i3_51)
  have J31 : ∀ (h_31 : pv_H), (pv_Ty τ ρ h_31) → (pv_Fr τ [456, 457, 458, 459, 460, 461, 2943] h h_31) → (pv_fI h_31 a0 7 ≤ 1600 ∧ pv_fI h_31 a0 8 ≤ pv_fI h_31 a0 7 ∧ pv_fI h_31 a0 9 ≤ pv_fI h_31 a0 8 ∧ (pv_fI h_31 a0 10 ≠ 0 → pv_fI h_31 a0 9 < pv_fI h_31 a0 8) ∧ pv_fI h a0 9 ≤ pv_fI h_31 a0 9) → (ps_T (pv_aI h (ρ a0 14)) (pv_aI h_31 (ρ a0 14)) (pv_fI h a0 12) (pv_fI h_31 a0 12)) → (pv_aI h_31 (ρ a0 14) (2 : Int).toNat = pv_aI h (ρ a0 14) (2 : Int).toNat) → pv_T K 193 31 (pv_fl [some (.ref a0)]) [] h_31 (Q193 τ ρ h a0) := by
    intro h_31 hT_31 hF_31 i0_31 i1_31 i2_31
    refine pw_aload_n d193_31 rfl ?_
    have g31 := (hT_31.wc hR0_14 (j := 1) rfl (by decide)).2.2.1 (by decide) |>.2
    refine pw_callV0 d193_32 k193_121 hT_31 hA0 rfl rfl rfl (ct192 (τ := τ) (ρ := ρ) hT_31 hA0) (fun r32 h32 q32 => ?_)
    obtain ⟨eh32, z32, ez32, lz32, uz32, pz32_0⟩ := q32
    subst eh32
    subst ez32
    refine pw_if_eq d193_35 rfl (by omega) (fun c35 => ?_) (fun c35 => ?_)
    · exact J51 h_31 hT_31 hF_31 (by omega) (by first | assumption | exact i1_31.tr (ps_T.of (pt_s.eq (F48.aeq hR0_14 (by decide))) g31 (by omega))) (by omega) (by first | assumption | exact (congrFun (F48.aeq hR0_14 (by decide)) _).trans i2_31)
    · refine pw_aload_n d193_38 rfl ?_
      refine pw_getI d193_39 g193_97 hT_31 hA0 rfl rfl (fun u39 vu39 => ?_)
      refine pw_iconst d193_42 ?_
      refine pw_icmp_eq d193_43 rfl (by omega) (by omega) (fun c43 => ?_) (fun c43 => ?_)
      · exact J51 h_31 hT_31 hF_31 (by omega) (by first | assumption | exact i1_31.tr (ps_T.of (pt_s.eq (F48.aeq hR0_14 (by decide))) g31 (by omega))) (by omega) (by first | assumption | exact (congrFun (F48.aeq hR0_14 (by decide)) _).trans i2_31)
      · refine pw_aload_n d193_46 rfl ?_
        refine pw_iconst d193_47 ?_
        refine pw_callV1 d193_48 k193_145 hT_31 hA0 rfl rfl rfl (ct198F (τ := τ) (ρ := ρ) hT_31 hA0 (by omega)) (fun r48 h48 q48 => ?_)
        obtain ⟨T48, F48, ez48, pz48_0, pz48_1⟩ := q48
        subst ez48
        have f48 := hF_31.tr (F48.up (by decide))
        have q48b := ((F48 a0 7 hA0).1 7 (by decide)).1
        have q48c := ((F48 a0 7 hA0).1 8 (by decide)).1
        have q48d := ((F48 a0 7 hA0).1 9 (by decide)).1
        have q48e := ((F48 a0 7 hA0).1 10 (by decide)).1
        have q48f := ((F48 a0 7 hA0).1 11 (by decide)).1
        exact J51 h48 T48 f48 (by omega) (by first | assumption | exact i1_31.tr (ps_T.of (pt_s.eq (F48.aeq hR0_14 (by decide))) g31 (by omega))) (by omega) (by first | assumption | exact (congrFun (F48.aeq hR0_14 (by decide)) _).trans i2_31)
  refine pw_aload_n d193_0 rfl ?_
  refine pw_getR d193_1 g193_31 hT hA0 rfl rfl (fun t1 => ?_)
  have t1 : τ (ρ a0 14) = some 45 := t1
  refine pw_iconst d193_4 ?_
  refine pw_ialdB d193_5 hT t1 rfl rfl (by omega) (by omega) (fun u5 => ?_)
  have u5 : pv_wok ((2 : Int)) (pv_aI h (ρ a0 14) ((2 : Int)).toNat) := u5
  have vu5 := u5.1
  refine pw_if_ne d193_6 rfl (by omega) (fun c6 => ?_) (fun c6 => ?_)
  · refine pw_aload_n d193_27 rfl ?_
    refine pw_callV0 d193_28 k193_208 hT hA0 rfl rfl rfl (ct200 (τ := τ) (ρ := ρ) hK hT hA0 (by first | assumption | omega) (by first | assumption | omega)) (fun r28 h28 q28 => ?_)
    obtain ⟨T28, F28, ez28, pz28_0, pz28_1, pz28_2⟩ := q28
    subst ez28
    have f28 := hF0.tr (F28.up (by decide))
    have q28b := ((F28 a0 7 hA0).1 7 (by decide)).1
    exact J31 h28 T28 f28 (by omega) (by first | exact pz28_1 | exact rl_0 (F20.aeq hR0_14 (by decide)) (pe_at E23) (by omega) (by omega)) (by first | exact pz28_2 | (rw [pe_at E23, if_neg (by decide)]; exact congrFun (F20.aeq hR0_14 (by decide)) _))
  · refine pw_aload_n d193_9 rfl ?_
    refine pw_getR d193_10 g193_31 hT hA0 rfl rfl (fun t10 => ?_)
    have t10 : τ (ρ a0 14) = some 45 := t10
    refine pw_iconst d193_13 ?_
    refine pw_aload_n d193_14 rfl ?_
    refine pw_ldcS d193_15 n193_15.1 n193_15.2 ?_
    refine pw_iconst d193_17 ?_
    refine pw_bipush d193_18 (by decide) ?_
    refine pw_callV3 d193_20 k193_178 hT hA0 rfl rfl rfl (ct194 (τ := τ) (ρ := ρ) hK hT hA0 (by decide) (by omega) (by omega) (by first | assumption | omega)) (fun r20 h20 q20 => ?_)
    obtain ⟨T20, F20, z20, ez20, lz20, uz20, pz20_0, pz20_1⟩ := q20
    subst ez20
    have f20 := hF0.tr (F20.up (by decide))
    have q20b := ((F20 a0 7 hA0).1 7 (by decide)).1
    refine pw_iastB d193_23 T20 t10 rfl rfl rfl (by omega) (by omega) (by omega) (by show pv_wok _ _; unfold pv_wok; omega) (fun h23 T23 F23 E23 => ?_)
    have f23 := f20.tr (F23.up (by decide))
    have q23 := ((F23 a0 7 hA0).1 7 (by decide)).1
    have q23b := ((F23 a0 7 hA0).1 8 (by decide)).1
    have q23c := ((F23 a0 7 hA0).1 9 (by decide)).1
    have q23d := ((F23 a0 7 hA0).1 10 (by decide)).1
    have q23e := ((F23 a0 7 hA0).1 11 (by decide)).1
    have q23f := ((F23 a0 7 hA0).1 12 (by decide)).1
    refine pw_goto d193_24 rfl ?_
    exact J31 h23 T23 f23 (by omega) (by first | exact pz28_1 | exact rl_0 (F20.aeq hR0_14 (by decide)) (pe_at E23) (by omega) (by omega)) (by first | exact pz28_2 | (rw [pe_at E23, if_neg (by decide)]; exact congrFun (F20.aeq hR0_14 (by decide)) _))
