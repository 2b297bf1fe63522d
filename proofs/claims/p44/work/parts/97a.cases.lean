section LE
variable {p : Program} {l : Launch} {e : Env} {s : State} {m : MethodId} {below : List Frame} {meth : Method} {c : Code} {H : Heap} {locs : List Loc} {cells slots : Nat} {K adV : Nat → Nat} {dC : Nat → ClassId} {dI : Nat → Nat → Nat} {dA : Nat → ClassId} {b h0 h1 L j : Nat} {xs : Nat → Int32} {ls : Array Slot} {τ : Nat → Option Nat} {ρ : Nat → Nat → Nat} {h : pv_H} {ws : va_W}
set_option maxHeartbeats 4000000 in
theorem lc_0 (X : pv_LX p s m meth c b L xs K adV dC dI dA) (hL : L ≤ 3072) (hj : 6 * j + 6 ≤ L) (hKok : pv_Kok K) (Y : pv_LY s dC dI dA τ ρ h h0 h1 ws H locs) (hl : lv_has ls 4 [(3, .int (pv_I ((6 * j : Nat) : Int))), (2, .ref h1), (1, .ref h0), (0, .ref b)]) (hc : cells ≤ 600000 ∧ slots ≤ 7302250) (kk : ∀ (h : pv_H) (ws : va_W) (H : Heap) (locs : List Loc), pv_LY s dC dI dA τ ρ h h0 h1 ws H locs → W p l e room_1 s m #[Value.ref b] below meth c H locs cells slots (lw_Z below #[Value.ref b] s) (F0 m 1529 ls [])) : W p l e room_1 s m #[Value.ref b] below meth c H locs cells slots (lw_Z below #[Value.ref b] s) (F0 m 220 ls []) := by
  obtain ⟨hx, hb, hr, hml, hown, hts, hX, hbl, hlk, hWd⟩ := X
  obtain ⟨hT, t0, t1, hN, hM, hI, hQ, hR, hP, hD, hS⟩ := Y
  have hbA : ¬ (fun q => s.heap.size ≤ q) b := fun z => by have : s.heap.size ≤ b := z; omega
  have n1 : τ (ρ h0 1) = some 2 := hT.rf (t' := 2) t0 rfl rfl
  have r1 : τ (ρ h1 1) = some 40 := hT.rf (t' := 40) t1 rfl rfl
  have r2 : τ (ρ h1 2) = some 41 := hT.rf (t' := 41) t1 rfl rfl
  have k5 : τ (ρ h0 5) = some 12 := hT.rf (t' := 12) t0 rfl rfl
  have k24 : τ (ρ h1 24) = some 53 := hT.rf (t' := 53) t1 rfl rfl
  have k25 : τ (ρ h1 25) = some 54 := hT.rf (t' := 54) t1 rfl rfl
  have hQ0 := hQ
  have hT0 := hT
  obtain ⟨x1, hx1⟩ : ∃ x : Int, (-2147483648 ≤ x ∧ x ≤ 2147483647) ∧ xs (6 * j + 1) = pv_I x := ⟨_, pv_I_rep _⟩
  obtain ⟨x2, hx2⟩ : ∃ x : Int, (-2147483648 ≤ x ∧ x ≤ 2147483647) ∧ xs (6 * j + 2) = pv_I x := ⟨_, pv_I_rep _⟩
  obtain ⟨x3, hx3⟩ : ∃ x : Int, (-2147483648 ≤ x ∧ x ≤ 2147483647) ∧ xs (6 * j + 3) = pv_I x := ⟨_, pv_I_rep _⟩
  obtain ⟨x4, hx4⟩ : ∃ x : Int, (-2147483648 ≤ x ∧ x ≤ 2147483647) ∧ xs (6 * j + 4) = pv_I x := ⟨_, pv_I_rep _⟩
  obtain ⟨x5, hx5⟩ : ∃ x : Int, (-2147483648 ≤ x ∧ x ≤ 2147483647) ∧ xs (6 * j + 5) = pv_I x := ⟨_, pv_I_rep _⟩

  refine lv_aload_n hx hb dL_220 rfl (lv_at hl 2 rfl) ?_
  refine lv_aload_n hx hb dL_221 rfl (lv_at hl 3 rfl) ?_
  refine lv_iload_n hx hb dL_222 rfl (lv_at hl 0 rfl) ?_
  refine lv_iconst (v := 1) hx hb dL_223 (by decide) ?_
  refine lv_iadd hx hb dL_224 ?_
  refine pv_sldJ (kn := 1) (x := x1) hx hb hX hbl hbA hS hL hj (by decide) (by decide) hx1.2 dL_225 ?_
  refine lv_aload_n hx hb dL_226 rfl (lv_at hl 3 rfl) ?_
  refine lv_iload_n hx hb dL_227 rfl (lv_at hl 0 rfl) ?_
  refine lv_iconst (v := 2) hx hb dL_228 (by decide) ?_
  refine lv_iadd hx hb dL_229 ?_
  refine pv_sldJ (kn := 2) (x := x2) hx hb hX hbl hbA hS hL hj (by decide) (by decide) hx2.2 dL_230 ?_
  refine lv_aload_n hx hb dL_231 rfl (lv_at hl 3 rfl) ?_
  refine lv_iload_n hx hb dL_232 rfl (lv_at hl 0 rfl) ?_
  refine lv_iconst (v := 3) hx hb dL_233 (by decide) ?_
  refine lv_iadd hx hb dL_234 ?_
  refine pv_sldJ (kn := 3) (x := x3) hx hb hX hbl hbA hS hL hj (by decide) (by decide) hx3.2 dL_235 ?_
  refine lv_aload_n hx hb dL_236 rfl (lv_at hl 3 rfl) ?_
  refine lv_iload_n hx hb dL_237 rfl (lv_at hl 0 rfl) ?_
  refine lv_iconst (v := 4) hx hb dL_238 (by decide) ?_
  refine lv_iadd hx hb dL_239 ?_
  refine pv_sldJ (kn := 4) (x := x4) hx hb hX hbl hbA hS hL hj (by decide) (by decide) hx4.2 dL_240 ?_
  refine lv_aload_n hx hb dL_241 rfl (lv_at hl 3 rfl) ?_
  refine lv_iload_n hx hb dL_242 rfl (lv_at hl 0 rfl) ?_
  refine lv_iconst (v := 5) hx hb dL_243 (by decide) ?_
  refine lv_iadd hx hb dL_244 ?_
  refine pv_sldJ (kn := 5) (x := x5) hx hb hX hbl hbA hS hL hj (by decide) (by decide) hx5.2 dL_245 ?_
  obtain ⟨fs0, hcell0, -⟩ := (hT h0 0 t0).1 _ rfl
  refine pv_lawcall (As := [.int (pv_I x1), .int (pv_I x2), .int (pv_I x3), .int (pv_I x4), .int (pv_I x5)]) (rest := []) hx hb hml hown hts hWd lk8 (ct8 (τ := τ) (ρ := ρ) hT t0 hx1.1 hx2.1 hx3.1 hx4.1 hx5.1) hcell0 rfl (by rw [m8]; exact Nat.le_of_ble_eq_true rfl) hR hP hD hS (Nat.le_of_ble_eq_true rfl) hl.1 dL_246 hc (fun r h' H locs ws hq hR hP hD hS => ?_)
  obtain ⟨hT', hF', z0, er, lo0, hi0⟩ := hq
  subst er
  have hN := hN.fr hT hF' (by decide)
  have hM : pw_ok (pv_aI h' (ρ h1 1)) := by rw [hF'.aeq r1 (by decide)]; exact hM
  have hI : im_ok (pv_aI h' (ρ h1 2)) := by rw [hF'.aeq r2 (by decide)]; exact hI
  have e24 := hF'.aeq k24 (by decide)
  have e25 := hF'.aeq k25 (by decide)
  have hQ := hQ.fr hT k5 k24 k25 hF' (by decide)
  have hT := hT'
  refine W.eq (g2 := F0 m 249 ls [.int (pv_I z0)]) rfl ?_
  refine lv_pop hx hb dL_249 rfl ?_
  refine lv_aload_n hx hb dL_250 rfl (lv_at hl 1 rfl) ?_
  refine lv_aload_n hx hb dL_251 rfl (lv_at hl 3 rfl) ?_
  refine lv_iload_n hx hb dL_252 rfl (lv_at hl 0 rfl) ?_
  refine lv_iconst (v := 1) hx hb dL_253 (by decide) ?_
  refine lv_iadd hx hb dL_254 ?_
  refine pv_sldJ (kn := 1) (x := x1) hx hb hX hbl hbA hS hL hj (by decide) (by decide) hx1.2 dL_255 ?_
  refine lv_aload_n hx hb dL_256 rfl (lv_at hl 3 rfl) ?_
  refine lv_iload_n hx hb dL_257 rfl (lv_at hl 0 rfl) ?_
  refine lv_iconst (v := 2) hx hb dL_258 (by decide) ?_
  refine lv_iadd hx hb dL_259 ?_
  refine pv_sldJ (kn := 2) (x := x2) hx hb hX hbl hbA hS hL hj (by decide) (by decide) hx2.2 dL_260 ?_
  refine lv_aload_n hx hb dL_261 rfl (lv_at hl 3 rfl) ?_
  refine lv_iload_n hx hb dL_262 rfl (lv_at hl 0 rfl) ?_
  refine lv_iconst (v := 3) hx hb dL_263 (by decide) ?_
  refine lv_iadd hx hb dL_264 ?_
  refine pv_sldJ (kn := 3) (x := x3) hx hb hX hbl hbA hS hL hj (by decide) (by decide) hx3.2 dL_265 ?_
  refine lv_aload_n hx hb dL_266 rfl (lv_at hl 3 rfl) ?_
  refine lv_iload_n hx hb dL_267 rfl (lv_at hl 0 rfl) ?_
  refine lv_iconst (v := 4) hx hb dL_268 (by decide) ?_
  refine lv_iadd hx hb dL_269 ?_
  refine pv_sldJ (kn := 4) (x := x4) hx hb hX hbl hbA hS hL hj (by decide) (by decide) hx4.2 dL_270 ?_
  refine lv_aload_n hx hb dL_271 rfl (lv_at hl 3 rfl) ?_
  refine lv_iload_n hx hb dL_272 rfl (lv_at hl 0 rfl) ?_
  refine lv_iconst (v := 5) hx hb dL_273 (by decide) ?_
  refine lv_iadd hx hb dL_274 ?_
  refine pv_sldJ (kn := 5) (x := x5) hx hb hX hbl hbA hS hL hj (by decide) (by decide) hx5.2 dL_275 ?_
  obtain ⟨fs1, hcell1, -⟩ := (hT h1 7 t1).1 _ rfl
  refine pv_lawcall (As := [.int (pv_I x1), .int (pv_I x2), .int (pv_I x3), .int (pv_I x4), .int (pv_I x5)]) (rest := []) hx hb hml hown hts hWd lk186 (ct186 (τ := τ) (ρ := ρ) hT t1 hx1.1 hx2.1 hx3.1 hx4.1 hx5.1) hcell1 rfl (by rw [m186]; exact Nat.le_of_ble_eq_true rfl) hR hP hD hS (Nat.le_of_ble_eq_true rfl) hl.1 dL_276 hc (fun r h' H locs ws hq hR hP hD hS => ?_)
  obtain ⟨hT', hF', z1, er, lo1, hi1⟩ := hq
  subst er
  have hN := hN.fr hT hF' (by decide)
  have hM : pw_ok (pv_aI h' (ρ h1 1)) := by rw [hF'.aeq r1 (by decide)]; exact hM
  have hI : im_ok (pv_aI h' (ρ h1 2)) := by rw [hF'.aeq r2 (by decide)]; exact hI
  have hQ := hQ.fr hT k5 k24 k25 hF' (by decide)
  have hT := hT'
  refine W.eq (g2 := F0 m 279 ls [.int (pv_I z1)]) rfl ?_
  refine lv_pop hx hb dL_279 rfl ?_
  refine lv_goto (tgt := 1529) hx hb dL_280 (by decide) ?_
  exact kk _ _ _ _ ⟨hT, t0, t1, hN, hM, hI, hQ, hR, hP, hD, hS⟩
set_option maxHeartbeats 4000000 in
theorem lc_1 (X : pv_LX p s m meth c b L xs K adV dC dI dA) (hL : L ≤ 3072) (hj : 6 * j + 6 ≤ L) (hKok : pv_Kok K) (Y : pv_LY s dC dI dA τ ρ h h0 h1 ws H locs) (hl : lv_has ls 4 [(3, .int (pv_I ((6 * j : Nat) : Int))), (2, .ref h1), (1, .ref h0), (0, .ref b)]) (hc : cells ≤ 600000 ∧ slots ≤ 7302250) (kk : ∀ (h : pv_H) (ws : va_W) (H : Heap) (locs : List Loc), pv_LY s dC dI dA τ ρ h h0 h1 ws H locs → W p l e room_1 s m #[Value.ref b] below meth c H locs cells slots (lw_Z below #[Value.ref b] s) (F0 m 1529 ls [])) : W p l e room_1 s m #[Value.ref b] below meth c H locs cells slots (lw_Z below #[Value.ref b] s) (F0 m 283 ls []) := by
  obtain ⟨hx, hb, hr, hml, hown, hts, hX, hbl, hlk, hWd⟩ := X
  obtain ⟨hT, t0, t1, hN, hM, hI, hQ, hR, hP, hD, hS⟩ := Y
  have hbA : ¬ (fun q => s.heap.size ≤ q) b := fun z => by have : s.heap.size ≤ b := z; omega
  have n1 : τ (ρ h0 1) = some 2 := hT.rf (t' := 2) t0 rfl rfl
  have r1 : τ (ρ h1 1) = some 40 := hT.rf (t' := 40) t1 rfl rfl
  have r2 : τ (ρ h1 2) = some 41 := hT.rf (t' := 41) t1 rfl rfl
  have k5 : τ (ρ h0 5) = some 12 := hT.rf (t' := 12) t0 rfl rfl
  have k24 : τ (ρ h1 24) = some 53 := hT.rf (t' := 53) t1 rfl rfl
  have k25 : τ (ρ h1 25) = some 54 := hT.rf (t' := 54) t1 rfl rfl
  have hQ0 := hQ
  have hT0 := hT
  obtain ⟨x1, hx1⟩ : ∃ x : Int, (-2147483648 ≤ x ∧ x ≤ 2147483647) ∧ xs (6 * j + 1) = pv_I x := ⟨_, pv_I_rep _⟩

  refine lv_aload_n hx hb dL_283 rfl (lv_at hl 2 rfl) ?_
  refine lv_aload_n hx hb dL_284 rfl (lv_at hl 3 rfl) ?_
  refine lv_iload_n hx hb dL_285 rfl (lv_at hl 0 rfl) ?_
  refine lv_iconst (v := 1) hx hb dL_286 (by decide) ?_
  refine lv_iadd hx hb dL_287 ?_
  refine pv_sldJ (kn := 1) (x := x1) hx hb hX hbl hbA hS hL hj (by decide) (by decide) hx1.2 dL_288 ?_
  obtain ⟨fs0, hcell0, -⟩ := (hT h0 0 t0).1 _ rfl
  refine pv_lawcall (As := [.int (pv_I x1)]) (rest := []) hx hb hml hown hts hWd lk10 (ct10 (τ := τ) (ρ := ρ) hT t0 hx1.1) hcell0 rfl (by rw [m10]; exact Nat.le_of_ble_eq_true rfl) hR hP hD hS (Nat.le_of_ble_eq_true rfl) hl.1 dL_289 hc (fun r h' H locs ws hq hR hP hD hS => ?_)
  obtain ⟨hT', hF', z0, er, lo0, hi0⟩ := hq
  subst er
  have hN := hN.fr hT hF' (by decide)
  have hM : pw_ok (pv_aI h' (ρ h1 1)) := by rw [hF'.aeq r1 (by decide)]; exact hM
  have hI : im_ok (pv_aI h' (ρ h1 2)) := by rw [hF'.aeq r2 (by decide)]; exact hI
  have e24 := hF'.aeq k24 (by decide)
  have e25 := hF'.aeq k25 (by decide)
  have hQ := hQ.fr hT k5 k24 k25 hF' (by decide)
  have hT := hT'
  refine W.eq (g2 := F0 m 292 ls [.int (pv_I z0)]) rfl ?_
  refine lv_pop hx hb dL_292 rfl ?_
  refine lv_aload_n hx hb dL_293 rfl (lv_at hl 1 rfl) ?_
  refine lv_aload_n hx hb dL_294 rfl (lv_at hl 3 rfl) ?_
  refine lv_iload_n hx hb dL_295 rfl (lv_at hl 0 rfl) ?_
  refine lv_iconst (v := 1) hx hb dL_296 (by decide) ?_
  refine lv_iadd hx hb dL_297 ?_
  refine pv_sldJ (kn := 1) (x := x1) hx hb hX hbl hbA hS hL hj (by decide) (by decide) hx1.2 dL_298 ?_
  obtain ⟨fs1, hcell1, -⟩ := (hT h1 7 t1).1 _ rfl
  refine pv_lawcall (As := [.int (pv_I x1)]) (rest := []) hx hb hml hown hts hWd lk187 (ct187 (τ := τ) (ρ := ρ) hT t1 hx1.1) hcell1 rfl (by rw [m187]; exact Nat.le_of_ble_eq_true rfl) hR hP hD hS (Nat.le_of_ble_eq_true rfl) hl.1 dL_299 hc (fun r h' H locs ws hq hR hP hD hS => ?_)
  obtain ⟨hT', hF', z1, er, lo1, hi1⟩ := hq
  subst er
  have hN := hN.fr hT hF' (by decide)
  have hM : pw_ok (pv_aI h' (ρ h1 1)) := by rw [hF'.aeq r1 (by decide)]; exact hM
  have hI : im_ok (pv_aI h' (ρ h1 2)) := by rw [hF'.aeq r2 (by decide)]; exact hI
  have hQ := hQ.fr hT k5 k24 k25 hF' (by decide)
  have hT := hT'
  refine W.eq (g2 := F0 m 302 ls [.int (pv_I z1)]) rfl ?_
  refine lv_pop hx hb dL_302 rfl ?_
  refine lv_goto (tgt := 1529) hx hb dL_303 (by decide) ?_
  exact kk _ _ _ _ ⟨hT, t0, t1, hN, hM, hI, hQ, hR, hP, hD, hS⟩
set_option maxHeartbeats 4000000 in
theorem lc_2 (X : pv_LX p s m meth c b L xs K adV dC dI dA) (hL : L ≤ 3072) (hj : 6 * j + 6 ≤ L) (hKok : pv_Kok K) (Y : pv_LY s dC dI dA τ ρ h h0 h1 ws H locs) (hl : lv_has ls 4 [(3, .int (pv_I ((6 * j : Nat) : Int))), (2, .ref h1), (1, .ref h0), (0, .ref b)]) (hc : cells ≤ 600000 ∧ slots ≤ 7302250) (kk : ∀ (h : pv_H) (ws : va_W) (H : Heap) (locs : List Loc), pv_LY s dC dI dA τ ρ h h0 h1 ws H locs → W p l e room_1 s m #[Value.ref b] below meth c H locs cells slots (lw_Z below #[Value.ref b] s) (F0 m 1529 ls [])) : W p l e room_1 s m #[Value.ref b] below meth c H locs cells slots (lw_Z below #[Value.ref b] s) (F0 m 306 ls []) := by
  obtain ⟨hx, hb, hr, hml, hown, hts, hX, hbl, hlk, hWd⟩ := X
  obtain ⟨hT, t0, t1, hN, hM, hI, hQ, hR, hP, hD, hS⟩ := Y
  have hbA : ¬ (fun q => s.heap.size ≤ q) b := fun z => by have : s.heap.size ≤ b := z; omega
  have n1 : τ (ρ h0 1) = some 2 := hT.rf (t' := 2) t0 rfl rfl
  have r1 : τ (ρ h1 1) = some 40 := hT.rf (t' := 40) t1 rfl rfl
  have r2 : τ (ρ h1 2) = some 41 := hT.rf (t' := 41) t1 rfl rfl
  have k5 : τ (ρ h0 5) = some 12 := hT.rf (t' := 12) t0 rfl rfl
  have k24 : τ (ρ h1 24) = some 53 := hT.rf (t' := 53) t1 rfl rfl
  have k25 : τ (ρ h1 25) = some 54 := hT.rf (t' := 54) t1 rfl rfl
  have hQ0 := hQ
  have hT0 := hT

  refine lv_aload_n hx hb dL_306 rfl (lv_at hl 2 rfl) ?_
  obtain ⟨fs0, hcell0, -⟩ := (hT h0 0 t0).1 _ rfl
  refine pv_lawcall (As := []) (rest := []) hx hb hml hown hts hWd lk11 (ct11W (τ := τ) (ρ := ρ) hKok hT t0 hN) hcell0 rfl (by rw [m11]; exact Nat.le_of_ble_eq_true rfl) hR hP hD hS (Nat.le_of_ble_eq_true rfl) hl.1 dL_307 hc (fun r h' H locs ws hq hR hP hD hS => ?_)
  obtain ⟨hT', hF', z0, er, lo0, hi0, p0_0⟩ := hq
  subst er
  have hN := p0_0
  have hM : pw_ok (pv_aI h' (ρ h1 1)) := by rw [hF'.aeq r1 (by decide)]; exact hM
  have hI : im_ok (pv_aI h' (ρ h1 2)) := by rw [hF'.aeq r2 (by decide)]; exact hI
  have e24 := hF'.aeq k24 (by decide)
  have e25 := hF'.aeq k25 (by decide)
  have hQ := hQ.fr hT k5 k24 k25 hF' (by decide)
  have hT := hT'
  refine W.eq (g2 := F0 m 310 ls [.int (pv_I z0)]) rfl ?_
  refine lv_pop hx hb dL_310 rfl ?_
  refine lv_aload_n hx hb dL_311 rfl (lv_at hl 1 rfl) ?_
  obtain ⟨fs1, hcell1, -⟩ := (hT h1 7 t1).1 _ rfl
  refine pv_lawcall (As := []) (rest := []) hx hb hml hown hts hWd lk189 (ct189 (τ := τ) (ρ := ρ) hKok hT t1) hcell1 rfl (by rw [m189]; exact Nat.le_of_ble_eq_true rfl) hR hP hD hS (Nat.le_of_ble_eq_true rfl) hl.1 dL_312 hc (fun r h' H locs ws hq hR hP hD hS => ?_)
  obtain ⟨hT', hF', z1, er, lo1, hi1, p1_0⟩ := hq
  subst er
  have hN := hN.fr hT hF' (by decide)
  have hM : pw_ok (pv_aI h' (ρ h1 1)) := p1_0 hM
  have hI : im_ok (pv_aI h' (ρ h1 2)) := by rw [hF'.aeq r2 (by decide)]; exact hI
  have hQ := hQ.fr hT k5 k24 k25 hF' (by decide)
  have hT := hT'
  refine W.eq (g2 := F0 m 315 ls [.int (pv_I z1)]) rfl ?_
  refine lv_pop hx hb dL_315 rfl ?_
  refine lv_goto (tgt := 1529) hx hb dL_316 (by decide) ?_
  exact kk _ _ _ _ ⟨hT, t0, t1, hN, hM, hI, hQ, hR, hP, hD, hS⟩
set_option maxHeartbeats 4000000 in
theorem lc_3 (X : pv_LX p s m meth c b L xs K adV dC dI dA) (hL : L ≤ 3072) (hj : 6 * j + 6 ≤ L) (hKok : pv_Kok K) (Y : pv_LY s dC dI dA τ ρ h h0 h1 ws H locs) (hl : lv_has ls 4 [(3, .int (pv_I ((6 * j : Nat) : Int))), (2, .ref h1), (1, .ref h0), (0, .ref b)]) (hc : cells ≤ 600000 ∧ slots ≤ 7302250) (kk : ∀ (h : pv_H) (ws : va_W) (H : Heap) (locs : List Loc), pv_LY s dC dI dA τ ρ h h0 h1 ws H locs → W p l e room_1 s m #[Value.ref b] below meth c H locs cells slots (lw_Z below #[Value.ref b] s) (F0 m 1529 ls [])) : W p l e room_1 s m #[Value.ref b] below meth c H locs cells slots (lw_Z below #[Value.ref b] s) (F0 m 319 ls []) := by
  obtain ⟨hx, hb, hr, hml, hown, hts, hX, hbl, hlk, hWd⟩ := X
  obtain ⟨hT, t0, t1, hN, hM, hI, hQ, hR, hP, hD, hS⟩ := Y
  have hbA : ¬ (fun q => s.heap.size ≤ q) b := fun z => by have : s.heap.size ≤ b := z; omega
  have n1 : τ (ρ h0 1) = some 2 := hT.rf (t' := 2) t0 rfl rfl
  have r1 : τ (ρ h1 1) = some 40 := hT.rf (t' := 40) t1 rfl rfl
  have r2 : τ (ρ h1 2) = some 41 := hT.rf (t' := 41) t1 rfl rfl
  have k5 : τ (ρ h0 5) = some 12 := hT.rf (t' := 12) t0 rfl rfl
  have k24 : τ (ρ h1 24) = some 53 := hT.rf (t' := 53) t1 rfl rfl
  have k25 : τ (ρ h1 25) = some 54 := hT.rf (t' := 54) t1 rfl rfl
  have hQ0 := hQ
  have hT0 := hT
  obtain ⟨x1, hx1⟩ : ∃ x : Int, (-2147483648 ≤ x ∧ x ≤ 2147483647) ∧ xs (6 * j + 1) = pv_I x := ⟨_, pv_I_rep _⟩

  refine lv_aload_n hx hb dL_319 rfl (lv_at hl 2 rfl) ?_
  refine lv_aload_n hx hb dL_320 rfl (lv_at hl 3 rfl) ?_
  refine lv_iload_n hx hb dL_321 rfl (lv_at hl 0 rfl) ?_
  refine lv_iconst (v := 1) hx hb dL_322 (by decide) ?_
  refine lv_iadd hx hb dL_323 ?_
  refine pv_sldJ (kn := 1) (x := x1) hx hb hX hbl hbA hS hL hj (by decide) (by decide) hx1.2 dL_324 ?_
  obtain ⟨fs0, hcell0, -⟩ := (hT h0 0 t0).1 _ rfl
  refine pv_lawcall (As := [.int (pv_I x1)]) (rest := []) hx hb hml hown hts hWd lk53 (ct53 (τ := τ) (ρ := ρ) hT t0 hx1.1) hcell0 rfl (by rw [m53]; exact Nat.le_of_ble_eq_true rfl) hR hP hD hS (Nat.le_of_ble_eq_true rfl) hl.1 dL_325 hc (fun r h' H locs ws hq hR hP hD hS => ?_)
  obtain ⟨eh, z0, er, lo0, hi0⟩ := hq
  subst eh
  subst er
  refine W.eq (g2 := F0 m 328 ls [.int (pv_I z0)]) rfl ?_
  refine lv_pop hx hb dL_328 rfl ?_
  refine lv_aload_n hx hb dL_329 rfl (lv_at hl 1 rfl) ?_
  refine lv_aload_n hx hb dL_330 rfl (lv_at hl 3 rfl) ?_
  refine lv_iload_n hx hb dL_331 rfl (lv_at hl 0 rfl) ?_
  refine lv_iconst (v := 1) hx hb dL_332 (by decide) ?_
  refine lv_iadd hx hb dL_333 ?_
  refine pv_sldJ (kn := 1) (x := x1) hx hb hX hbl hbA hS hL hj (by decide) (by decide) hx1.2 dL_334 ?_
  obtain ⟨fs1, hcell1, -⟩ := (hT h1 7 t1).1 _ rfl
  refine pv_lawcall (As := [.int (pv_I x1)]) (rest := []) hx hb hml hown hts hWd lk188 (ct188 (τ := τ) (ρ := ρ) hT t1 hx1.1) hcell1 rfl (by rw [m188]; exact Nat.le_of_ble_eq_true rfl) hR hP hD hS (Nat.le_of_ble_eq_true rfl) hl.1 dL_335 hc (fun r h' H locs ws hq hR hP hD hS => ?_)
  obtain ⟨eh, z1, er, lo1, hi1⟩ := hq
  subst eh
  subst er
  refine W.eq (g2 := F0 m 338 ls [.int (pv_I z1)]) rfl ?_
  refine lv_pop hx hb dL_338 rfl ?_
  refine lv_goto (tgt := 1529) hx hb dL_339 (by decide) ?_
  exact kk _ _ _ _ ⟨hT, t0, t1, hN, hM, hI, hQ, hR, hP, hD, hS⟩
set_option maxHeartbeats 4000000 in
theorem lc_4 (X : pv_LX p s m meth c b L xs K adV dC dI dA) (hL : L ≤ 3072) (hj : 6 * j + 6 ≤ L) (hKok : pv_Kok K) (Y : pv_LY s dC dI dA τ ρ h h0 h1 ws H locs) (hl : lv_has ls 4 [(3, .int (pv_I ((6 * j : Nat) : Int))), (2, .ref h1), (1, .ref h0), (0, .ref b)]) (hc : cells ≤ 600000 ∧ slots ≤ 7302250) (kk : ∀ (h : pv_H) (ws : va_W) (H : Heap) (locs : List Loc), pv_LY s dC dI dA τ ρ h h0 h1 ws H locs → W p l e room_1 s m #[Value.ref b] below meth c H locs cells slots (lw_Z below #[Value.ref b] s) (F0 m 1529 ls [])) : W p l e room_1 s m #[Value.ref b] below meth c H locs cells slots (lw_Z below #[Value.ref b] s) (F0 m 342 ls []) := by
  obtain ⟨hx, hb, hr, hml, hown, hts, hX, hbl, hlk, hWd⟩ := X
  obtain ⟨hT, t0, t1, hN, hM, hI, hQ, hR, hP, hD, hS⟩ := Y
  have hbA : ¬ (fun q => s.heap.size ≤ q) b := fun z => by have : s.heap.size ≤ b := z; omega
  have n1 : τ (ρ h0 1) = some 2 := hT.rf (t' := 2) t0 rfl rfl
  have r1 : τ (ρ h1 1) = some 40 := hT.rf (t' := 40) t1 rfl rfl
  have r2 : τ (ρ h1 2) = some 41 := hT.rf (t' := 41) t1 rfl rfl
  have k5 : τ (ρ h0 5) = some 12 := hT.rf (t' := 12) t0 rfl rfl
  have k24 : τ (ρ h1 24) = some 53 := hT.rf (t' := 53) t1 rfl rfl
  have k25 : τ (ρ h1 25) = some 54 := hT.rf (t' := 54) t1 rfl rfl
  have hQ0 := hQ
  have hT0 := hT
  obtain ⟨x1, hx1⟩ : ∃ x : Int, (-2147483648 ≤ x ∧ x ≤ 2147483647) ∧ xs (6 * j + 1) = pv_I x := ⟨_, pv_I_rep _⟩
  obtain ⟨x2, hx2⟩ : ∃ x : Int, (-2147483648 ≤ x ∧ x ≤ 2147483647) ∧ xs (6 * j + 2) = pv_I x := ⟨_, pv_I_rep _⟩

  refine lv_aload_n hx hb dL_342 rfl (lv_at hl 2 rfl) ?_
  refine lv_aload_n hx hb dL_343 rfl (lv_at hl 3 rfl) ?_
  refine lv_iload_n hx hb dL_344 rfl (lv_at hl 0 rfl) ?_
  refine lv_iconst (v := 1) hx hb dL_345 (by decide) ?_
  refine lv_iadd hx hb dL_346 ?_
  refine pv_sldJ (kn := 1) (x := x1) hx hb hX hbl hbA hS hL hj (by decide) (by decide) hx1.2 dL_347 ?_
  refine lv_aload_n hx hb dL_348 rfl (lv_at hl 3 rfl) ?_
  refine lv_iload_n hx hb dL_349 rfl (lv_at hl 0 rfl) ?_
  refine lv_iconst (v := 2) hx hb dL_350 (by decide) ?_
  refine lv_iadd hx hb dL_351 ?_
  refine pv_sldJ (kn := 2) (x := x2) hx hb hX hbl hbA hS hL hj (by decide) (by decide) hx2.2 dL_352 ?_
  obtain ⟨fs0, hcell0, -⟩ := (hT h0 0 t0).1 _ rfl
  refine pv_lawcall (As := [.int (pv_I x1), .int (pv_I x2)]) (rest := []) hx hb hml hown hts hWd lk54 (ct54 (τ := τ) (ρ := ρ) hT t0 hx1.1 hx2.1) hcell0 rfl (by rw [m54]; exact Nat.le_of_ble_eq_true rfl) hR hP hD hS (Nat.le_of_ble_eq_true rfl) hl.1 dL_353 hc (fun r h' H locs ws hq hR hP hD hS => ?_)
  obtain ⟨eh, z0, er, lo0, hi0⟩ := hq
  subst eh
  subst er
  refine W.eq (g2 := F0 m 356 ls [.int (pv_I z0)]) rfl ?_
  refine lv_pop hx hb dL_356 rfl ?_
  refine lv_aload_n hx hb dL_357 rfl (lv_at hl 1 rfl) ?_
  refine lv_aload_n hx hb dL_358 rfl (lv_at hl 3 rfl) ?_
  refine lv_iload_n hx hb dL_359 rfl (lv_at hl 0 rfl) ?_
  refine lv_iconst (v := 1) hx hb dL_360 (by decide) ?_
  refine lv_iadd hx hb dL_361 ?_
  refine pv_sldJ (kn := 1) (x := x1) hx hb hX hbl hbA hS hL hj (by decide) (by decide) hx1.2 dL_362 ?_
  refine lv_aload_n hx hb dL_363 rfl (lv_at hl 3 rfl) ?_
  refine lv_iload_n hx hb dL_364 rfl (lv_at hl 0 rfl) ?_
  refine lv_iconst (v := 2) hx hb dL_365 (by decide) ?_
  refine lv_iadd hx hb dL_366 ?_
  refine pv_sldJ (kn := 2) (x := x2) hx hb hX hbl hbA hS hL hj (by decide) (by decide) hx2.2 dL_367 ?_
  obtain ⟨fs1, hcell1, -⟩ := (hT h1 7 t1).1 _ rfl
  refine pv_lawcall (As := [.int (pv_I x1), .int (pv_I x2)]) (rest := []) hx hb hml hown hts hWd lk210 (ct210 (τ := τ) (ρ := ρ) hT t1 hx1.1 hx2.1) hcell1 rfl (by rw [m210]; exact Nat.le_of_ble_eq_true rfl) hR hP hD hS (Nat.le_of_ble_eq_true rfl) hl.1 dL_368 hc (fun r h' H locs ws hq hR hP hD hS => ?_)
  obtain ⟨eh, z1, er, lo1, hi1⟩ := hq
  subst eh
  subst er
  refine W.eq (g2 := F0 m 371 ls [.int (pv_I z1)]) rfl ?_
  refine lv_pop hx hb dL_371 rfl ?_
  refine lv_goto (tgt := 1529) hx hb dL_372 (by decide) ?_
  exact kk _ _ _ _ ⟨hT, t0, t1, hN, hM, hI, hQ, hR, hP, hD, hS⟩
set_option maxHeartbeats 4000000 in
theorem lc_5 (X : pv_LX p s m meth c b L xs K adV dC dI dA) (hL : L ≤ 3072) (hj : 6 * j + 6 ≤ L) (hKok : pv_Kok K) (Y : pv_LY s dC dI dA τ ρ h h0 h1 ws H locs) (hl : lv_has ls 4 [(3, .int (pv_I ((6 * j : Nat) : Int))), (2, .ref h1), (1, .ref h0), (0, .ref b)]) (hc : cells ≤ 600000 ∧ slots ≤ 7302250) (kk : ∀ (h : pv_H) (ws : va_W) (H : Heap) (locs : List Loc), pv_LY s dC dI dA τ ρ h h0 h1 ws H locs → W p l e room_1 s m #[Value.ref b] below meth c H locs cells slots (lw_Z below #[Value.ref b] s) (F0 m 1529 ls [])) : W p l e room_1 s m #[Value.ref b] below meth c H locs cells slots (lw_Z below #[Value.ref b] s) (F0 m 375 ls []) := by
  obtain ⟨hx, hb, hr, hml, hown, hts, hX, hbl, hlk, hWd⟩ := X
  obtain ⟨hT, t0, t1, hN, hM, hI, hQ, hR, hP, hD, hS⟩ := Y
  have hbA : ¬ (fun q => s.heap.size ≤ q) b := fun z => by have : s.heap.size ≤ b := z; omega
  have n1 : τ (ρ h0 1) = some 2 := hT.rf (t' := 2) t0 rfl rfl
  have r1 : τ (ρ h1 1) = some 40 := hT.rf (t' := 40) t1 rfl rfl
  have r2 : τ (ρ h1 2) = some 41 := hT.rf (t' := 41) t1 rfl rfl
  have k5 : τ (ρ h0 5) = some 12 := hT.rf (t' := 12) t0 rfl rfl
  have k24 : τ (ρ h1 24) = some 53 := hT.rf (t' := 53) t1 rfl rfl
  have k25 : τ (ρ h1 25) = some 54 := hT.rf (t' := 54) t1 rfl rfl
  have hQ0 := hQ
  have hT0 := hT
  obtain ⟨x1, hx1⟩ : ∃ x : Int, (-2147483648 ≤ x ∧ x ≤ 2147483647) ∧ xs (6 * j + 1) = pv_I x := ⟨_, pv_I_rep _⟩
  obtain ⟨x2, hx2⟩ : ∃ x : Int, (-2147483648 ≤ x ∧ x ≤ 2147483647) ∧ xs (6 * j + 2) = pv_I x := ⟨_, pv_I_rep _⟩

  refine lv_aload_n hx hb dL_375 rfl (lv_at hl 2 rfl) ?_
  refine lv_aload_n hx hb dL_376 rfl (lv_at hl 3 rfl) ?_
  refine lv_iload_n hx hb dL_377 rfl (lv_at hl 0 rfl) ?_
  refine lv_iconst (v := 1) hx hb dL_378 (by decide) ?_
  refine lv_iadd hx hb dL_379 ?_
  refine pv_sldJ (kn := 1) (x := x1) hx hb hX hbl hbA hS hL hj (by decide) (by decide) hx1.2 dL_380 ?_
  refine lv_aload_n hx hb dL_381 rfl (lv_at hl 3 rfl) ?_
  refine lv_iload_n hx hb dL_382 rfl (lv_at hl 0 rfl) ?_
  refine lv_iconst (v := 2) hx hb dL_383 (by decide) ?_
  refine lv_iadd hx hb dL_384 ?_
  refine pv_sldJ (kn := 2) (x := x2) hx hb hX hbl hbA hS hL hj (by decide) (by decide) hx2.2 dL_385 ?_
  obtain ⟨fs0, hcell0, -⟩ := (hT h0 0 t0).1 _ rfl
  refine pv_lawcall (As := [.int (pv_I x1), .int (pv_I x2)]) (rest := []) hx hb hml hown hts hWd lk56 (ct56 (τ := τ) (ρ := ρ) hT t0 hx1.1 hx2.1) hcell0 rfl (by rw [m56]; exact Nat.le_of_ble_eq_true rfl) hR hP hD hS (Nat.le_of_ble_eq_true rfl) hl.1 dL_386 hc (fun r h' H locs ws hq hR hP hD hS => ?_)
  obtain ⟨eh, z0, er, lo0, hi0⟩ := hq
  subst eh
  subst er
  refine W.eq (g2 := F0 m 389 ls [.int (pv_I z0)]) rfl ?_
  refine lv_pop hx hb dL_389 rfl ?_
  refine lv_aload_n hx hb dL_390 rfl (lv_at hl 1 rfl) ?_
  refine lv_aload_n hx hb dL_391 rfl (lv_at hl 3 rfl) ?_
  refine lv_iload_n hx hb dL_392 rfl (lv_at hl 0 rfl) ?_
  refine lv_iconst (v := 1) hx hb dL_393 (by decide) ?_
  refine lv_iadd hx hb dL_394 ?_
  refine pv_sldJ (kn := 1) (x := x1) hx hb hX hbl hbA hS hL hj (by decide) (by decide) hx1.2 dL_395 ?_
  refine lv_aload_n hx hb dL_396 rfl (lv_at hl 3 rfl) ?_
  refine lv_iload_n hx hb dL_397 rfl (lv_at hl 0 rfl) ?_
  refine lv_iconst (v := 2) hx hb dL_398 (by decide) ?_
  refine lv_iadd hx hb dL_399 ?_
  refine pv_sldJ (kn := 2) (x := x2) hx hb hX hbl hbA hS hL hj (by decide) (by decide) hx2.2 dL_400 ?_
  obtain ⟨fs1, hcell1, -⟩ := (hT h1 7 t1).1 _ rfl
  refine pv_lawcall (As := [.int (pv_I x1), .int (pv_I x2)]) (rest := []) hx hb hml hown hts hWd lk213 (ct213 (τ := τ) (ρ := ρ) hT t1 hx1.1 hx2.1) hcell1 rfl (by rw [m213]; exact Nat.le_of_ble_eq_true rfl) hR hP hD hS (Nat.le_of_ble_eq_true rfl) hl.1 dL_401 hc (fun r h' H locs ws hq hR hP hD hS => ?_)
  obtain ⟨eh, z1, er, lo1, hi1⟩ := hq
  subst eh
  subst er
  refine W.eq (g2 := F0 m 404 ls [.int (pv_I z1)]) rfl ?_
  refine lv_pop hx hb dL_404 rfl ?_
  refine lv_goto (tgt := 1529) hx hb dL_405 (by decide) ?_
  exact kk _ _ _ _ ⟨hT, t0, t1, hN, hM, hI, hQ, hR, hP, hD, hS⟩
set_option maxHeartbeats 4000000 in
theorem lc_6 (X : pv_LX p s m meth c b L xs K adV dC dI dA) (hL : L ≤ 3072) (hj : 6 * j + 6 ≤ L) (hKok : pv_Kok K) (Y : pv_LY s dC dI dA τ ρ h h0 h1 ws H locs) (hl : lv_has ls 4 [(3, .int (pv_I ((6 * j : Nat) : Int))), (2, .ref h1), (1, .ref h0), (0, .ref b)]) (hc : cells ≤ 600000 ∧ slots ≤ 7302250) (kk : ∀ (h : pv_H) (ws : va_W) (H : Heap) (locs : List Loc), pv_LY s dC dI dA τ ρ h h0 h1 ws H locs → W p l e room_1 s m #[Value.ref b] below meth c H locs cells slots (lw_Z below #[Value.ref b] s) (F0 m 1529 ls [])) : W p l e room_1 s m #[Value.ref b] below meth c H locs cells slots (lw_Z below #[Value.ref b] s) (F0 m 408 ls []) := by
  obtain ⟨hx, hb, hr, hml, hown, hts, hX, hbl, hlk, hWd⟩ := X
  obtain ⟨hT, t0, t1, hN, hM, hI, hQ, hR, hP, hD, hS⟩ := Y
  have hbA : ¬ (fun q => s.heap.size ≤ q) b := fun z => by have : s.heap.size ≤ b := z; omega
  have n1 : τ (ρ h0 1) = some 2 := hT.rf (t' := 2) t0 rfl rfl
  have r1 : τ (ρ h1 1) = some 40 := hT.rf (t' := 40) t1 rfl rfl
  have r2 : τ (ρ h1 2) = some 41 := hT.rf (t' := 41) t1 rfl rfl
  have k5 : τ (ρ h0 5) = some 12 := hT.rf (t' := 12) t0 rfl rfl
  have k24 : τ (ρ h1 24) = some 53 := hT.rf (t' := 53) t1 rfl rfl
  have k25 : τ (ρ h1 25) = some 54 := hT.rf (t' := 54) t1 rfl rfl
  have hQ0 := hQ
  have hT0 := hT
  obtain ⟨x1, hx1⟩ : ∃ x : Int, (-2147483648 ≤ x ∧ x ≤ 2147483647) ∧ xs (6 * j + 1) = pv_I x := ⟨_, pv_I_rep _⟩
  obtain ⟨x2, hx2⟩ : ∃ x : Int, (-2147483648 ≤ x ∧ x ≤ 2147483647) ∧ xs (6 * j + 2) = pv_I x := ⟨_, pv_I_rep _⟩

  refine lv_aload_n hx hb dL_408 rfl (lv_at hl 2 rfl) ?_
  refine lv_aload_n hx hb dL_409 rfl (lv_at hl 3 rfl) ?_
  refine lv_iload_n hx hb dL_410 rfl (lv_at hl 0 rfl) ?_
  refine lv_iconst (v := 1) hx hb dL_411 (by decide) ?_
  refine lv_iadd hx hb dL_412 ?_
  refine pv_sldJ (kn := 1) (x := x1) hx hb hX hbl hbA hS hL hj (by decide) (by decide) hx1.2 dL_413 ?_
  refine lv_aload_n hx hb dL_414 rfl (lv_at hl 3 rfl) ?_
  refine lv_iload_n hx hb dL_415 rfl (lv_at hl 0 rfl) ?_
  refine lv_iconst (v := 2) hx hb dL_416 (by decide) ?_
  refine lv_iadd hx hb dL_417 ?_
  refine pv_sldJ (kn := 2) (x := x2) hx hb hX hbl hbA hS hL hj (by decide) (by decide) hx2.2 dL_418 ?_
  obtain ⟨fs0, hcell0, -⟩ := (hT h0 0 t0).1 _ rfl
  refine pv_lawcall (As := [.int (pv_I x1), .int (pv_I x2)]) (rest := []) hx hb hml hown hts hWd lk60 (ct60 (τ := τ) (ρ := ρ) hT t0 hx1.1 hx2.1) hcell0 rfl (by rw [m60]; exact Nat.le_of_ble_eq_true rfl) hR hP hD hS (Nat.le_of_ble_eq_true rfl) hl.1 dL_419 hc (fun r h' H locs ws hq hR hP hD hS => ?_)
  obtain ⟨eh, z0, er, lo0, hi0⟩ := hq
  subst eh
  subst er
  refine W.eq (g2 := F0 m 422 ls [.int (pv_I z0)]) rfl ?_
  refine lv_pop hx hb dL_422 rfl ?_
  refine lv_aload_n hx hb dL_423 rfl (lv_at hl 1 rfl) ?_
  refine lv_aload_n hx hb dL_424 rfl (lv_at hl 3 rfl) ?_
  refine lv_iload_n hx hb dL_425 rfl (lv_at hl 0 rfl) ?_
  refine lv_iconst (v := 1) hx hb dL_426 (by decide) ?_
  refine lv_iadd hx hb dL_427 ?_
  refine pv_sldJ (kn := 1) (x := x1) hx hb hX hbl hbA hS hL hj (by decide) (by decide) hx1.2 dL_428 ?_
  refine lv_aload_n hx hb dL_429 rfl (lv_at hl 3 rfl) ?_
  refine lv_iload_n hx hb dL_430 rfl (lv_at hl 0 rfl) ?_
  refine lv_iconst (v := 2) hx hb dL_431 (by decide) ?_
  refine lv_iadd hx hb dL_432 ?_
  refine pv_sldJ (kn := 2) (x := x2) hx hb hX hbl hbA hS hL hj (by decide) (by decide) hx2.2 dL_433 ?_
  obtain ⟨fs1, hcell1, -⟩ := (hT h1 7 t1).1 _ rfl
  refine pv_lawcall (As := [.int (pv_I x1), .int (pv_I x2)]) (rest := []) hx hb hml hown hts hWd lk219 (ct219 (τ := τ) (ρ := ρ) hT t1 hx1.1 hx2.1) hcell1 rfl (by rw [m219]; exact Nat.le_of_ble_eq_true rfl) hR hP hD hS (Nat.le_of_ble_eq_true rfl) hl.1 dL_434 hc (fun r h' H locs ws hq hR hP hD hS => ?_)
  obtain ⟨eh, z1, er, lo1, hi1⟩ := hq
  subst eh
  subst er
  refine W.eq (g2 := F0 m 437 ls [.int (pv_I z1)]) rfl ?_
  refine lv_pop hx hb dL_437 rfl ?_
  refine lv_goto (tgt := 1529) hx hb dL_438 (by decide) ?_
  exact kk _ _ _ _ ⟨hT, t0, t1, hN, hM, hI, hQ, hR, hP, hD, hS⟩
set_option maxHeartbeats 4000000 in
theorem lc_7 (X : pv_LX p s m meth c b L xs K adV dC dI dA) (hL : L ≤ 3072) (hj : 6 * j + 6 ≤ L) (hKok : pv_Kok K) (Y : pv_LY s dC dI dA τ ρ h h0 h1 ws H locs) (hl : lv_has ls 4 [(3, .int (pv_I ((6 * j : Nat) : Int))), (2, .ref h1), (1, .ref h0), (0, .ref b)]) (hc : cells ≤ 600000 ∧ slots ≤ 7302250) (kk : ∀ (h : pv_H) (ws : va_W) (H : Heap) (locs : List Loc), pv_LY s dC dI dA τ ρ h h0 h1 ws H locs → W p l e room_1 s m #[Value.ref b] below meth c H locs cells slots (lw_Z below #[Value.ref b] s) (F0 m 1529 ls [])) : W p l e room_1 s m #[Value.ref b] below meth c H locs cells slots (lw_Z below #[Value.ref b] s) (F0 m 441 ls []) := by
  obtain ⟨hx, hb, hr, hml, hown, hts, hX, hbl, hlk, hWd⟩ := X
  obtain ⟨hT, t0, t1, hN, hM, hI, hQ, hR, hP, hD, hS⟩ := Y
  have hbA : ¬ (fun q => s.heap.size ≤ q) b := fun z => by have : s.heap.size ≤ b := z; omega
  have n1 : τ (ρ h0 1) = some 2 := hT.rf (t' := 2) t0 rfl rfl
  have r1 : τ (ρ h1 1) = some 40 := hT.rf (t' := 40) t1 rfl rfl
  have r2 : τ (ρ h1 2) = some 41 := hT.rf (t' := 41) t1 rfl rfl
  have k5 : τ (ρ h0 5) = some 12 := hT.rf (t' := 12) t0 rfl rfl
  have k24 : τ (ρ h1 24) = some 53 := hT.rf (t' := 53) t1 rfl rfl
  have k25 : τ (ρ h1 25) = some 54 := hT.rf (t' := 54) t1 rfl rfl
  have hQ0 := hQ
  have hT0 := hT
  obtain ⟨x1, hx1⟩ : ∃ x : Int, (-2147483648 ≤ x ∧ x ≤ 2147483647) ∧ xs (6 * j + 1) = pv_I x := ⟨_, pv_I_rep _⟩

  refine lv_aload_n hx hb dL_441 rfl (lv_at hl 2 rfl) ?_
  refine lv_aload_n hx hb dL_442 rfl (lv_at hl 3 rfl) ?_
  refine lv_iload_n hx hb dL_443 rfl (lv_at hl 0 rfl) ?_
  refine lv_iconst (v := 1) hx hb dL_444 (by decide) ?_
  refine lv_iadd hx hb dL_445 ?_
  refine pv_sldJ (kn := 1) (x := x1) hx hb hX hbl hbA hS hL hj (by decide) (by decide) hx1.2 dL_446 ?_
  obtain ⟨fs0, hcell0, -⟩ := (hT h0 0 t0).1 _ rfl
  refine pv_lawcall (As := [.int (pv_I x1)]) (rest := []) hx hb hml hown hts hWd lk61 (ct61 (τ := τ) (ρ := ρ) hT t0 hx1.1) hcell0 rfl (by rw [m61]; exact Nat.le_of_ble_eq_true rfl) hR hP hD hS (Nat.le_of_ble_eq_true rfl) hl.1 dL_447 hc (fun r h' H locs ws hq hR hP hD hS => ?_)
  obtain ⟨eh, z0, er, lo0, hi0⟩ := hq
  subst eh
  subst er
  refine W.eq (g2 := F0 m 450 ls [.int (pv_I z0)]) rfl ?_
  refine lv_pop hx hb dL_450 rfl ?_
  refine lv_aload_n hx hb dL_451 rfl (lv_at hl 1 rfl) ?_
  refine lv_aload_n hx hb dL_452 rfl (lv_at hl 3 rfl) ?_
  refine lv_iload_n hx hb dL_453 rfl (lv_at hl 0 rfl) ?_
  refine lv_iconst (v := 1) hx hb dL_454 (by decide) ?_
  refine lv_iadd hx hb dL_455 ?_
  refine pv_sldJ (kn := 1) (x := x1) hx hb hX hbl hbA hS hL hj (by decide) (by decide) hx1.2 dL_456 ?_
  obtain ⟨fs1, hcell1, -⟩ := (hT h1 7 t1).1 _ rfl
  refine pv_lawcall (As := [.int (pv_I x1)]) (rest := []) hx hb hml hown hts hWd lk221 (ct221 (τ := τ) (ρ := ρ) hT t1 hx1.1) hcell1 rfl (by rw [m221]; exact Nat.le_of_ble_eq_true rfl) hR hP hD hS (Nat.le_of_ble_eq_true rfl) hl.1 dL_457 hc (fun r h' H locs ws hq hR hP hD hS => ?_)
  obtain ⟨eh, z1, er, lo1, hi1⟩ := hq
  subst eh
  subst er
  refine W.eq (g2 := F0 m 460 ls [.int (pv_I z1)]) rfl ?_
  refine lv_pop hx hb dL_460 rfl ?_
  refine lv_goto (tgt := 1529) hx hb dL_461 (by decide) ?_
  exact kk _ _ _ _ ⟨hT, t0, t1, hN, hM, hI, hQ, hR, hP, hD, hS⟩
set_option maxHeartbeats 4000000 in
theorem lc_8 (X : pv_LX p s m meth c b L xs K adV dC dI dA) (hL : L ≤ 3072) (hj : 6 * j + 6 ≤ L) (hKok : pv_Kok K) (Y : pv_LY s dC dI dA τ ρ h h0 h1 ws H locs) (hl : lv_has ls 4 [(3, .int (pv_I ((6 * j : Nat) : Int))), (2, .ref h1), (1, .ref h0), (0, .ref b)]) (hc : cells ≤ 600000 ∧ slots ≤ 7302250) (kk : ∀ (h : pv_H) (ws : va_W) (H : Heap) (locs : List Loc), pv_LY s dC dI dA τ ρ h h0 h1 ws H locs → W p l e room_1 s m #[Value.ref b] below meth c H locs cells slots (lw_Z below #[Value.ref b] s) (F0 m 1529 ls [])) : W p l e room_1 s m #[Value.ref b] below meth c H locs cells slots (lw_Z below #[Value.ref b] s) (F0 m 464 ls []) := by
  obtain ⟨hx, hb, hr, hml, hown, hts, hX, hbl, hlk, hWd⟩ := X
  obtain ⟨hT, t0, t1, hN, hM, hI, hQ, hR, hP, hD, hS⟩ := Y
  have hbA : ¬ (fun q => s.heap.size ≤ q) b := fun z => by have : s.heap.size ≤ b := z; omega
  have n1 : τ (ρ h0 1) = some 2 := hT.rf (t' := 2) t0 rfl rfl
  have r1 : τ (ρ h1 1) = some 40 := hT.rf (t' := 40) t1 rfl rfl
  have r2 : τ (ρ h1 2) = some 41 := hT.rf (t' := 41) t1 rfl rfl
  have k5 : τ (ρ h0 5) = some 12 := hT.rf (t' := 12) t0 rfl rfl
  have k24 : τ (ρ h1 24) = some 53 := hT.rf (t' := 53) t1 rfl rfl
  have k25 : τ (ρ h1 25) = some 54 := hT.rf (t' := 54) t1 rfl rfl
  have hQ0 := hQ
  have hT0 := hT
  obtain ⟨x1, hx1⟩ : ∃ x : Int, (-2147483648 ≤ x ∧ x ≤ 2147483647) ∧ xs (6 * j + 1) = pv_I x := ⟨_, pv_I_rep _⟩

  refine lv_aload_n hx hb dL_464 rfl (lv_at hl 2 rfl) ?_
  refine lv_aload_n hx hb dL_465 rfl (lv_at hl 3 rfl) ?_
  refine lv_iload_n hx hb dL_466 rfl (lv_at hl 0 rfl) ?_
  refine lv_iconst (v := 1) hx hb dL_467 (by decide) ?_
  refine lv_iadd hx hb dL_468 ?_
  refine pv_sldJ (kn := 1) (x := x1) hx hb hX hbl hbA hS hL hj (by decide) (by decide) hx1.2 dL_469 ?_
  obtain ⟨fs0, hcell0, -⟩ := (hT h0 0 t0).1 _ rfl
  refine pv_lawcall (As := [.int (pv_I x1)]) (rest := []) hx hb hml hown hts hWd lk63 (ct63 (τ := τ) (ρ := ρ) hT t0 hx1.1) hcell0 rfl (by rw [m63]; exact Nat.le_of_ble_eq_true rfl) hR hP hD hS (Nat.le_of_ble_eq_true rfl) hl.1 dL_470 hc (fun r h' H locs ws hq hR hP hD hS => ?_)
  obtain ⟨hT', hF', z0, er, lo0, hi0⟩ := hq
  subst er
  have hN := hN.fr hT hF' (by decide)
  have hM : pw_ok (pv_aI h' (ρ h1 1)) := by rw [hF'.aeq r1 (by decide)]; exact hM
  have hI : im_ok (pv_aI h' (ρ h1 2)) := by rw [hF'.aeq r2 (by decide)]; exact hI
  have e24 := hF'.aeq k24 (by decide)
  have e25 := hF'.aeq k25 (by decide)
  have hQ := hQ.fr hT k5 k24 k25 hF' (by decide)
  have hT := hT'
  refine W.eq (g2 := F0 m 473 ls [.int (pv_I z0)]) rfl ?_
  refine lv_pop hx hb dL_473 rfl ?_
  refine lv_aload_n hx hb dL_474 rfl (lv_at hl 1 rfl) ?_
  refine lv_aload_n hx hb dL_475 rfl (lv_at hl 3 rfl) ?_
  refine lv_iload_n hx hb dL_476 rfl (lv_at hl 0 rfl) ?_
  refine lv_iconst (v := 1) hx hb dL_477 (by decide) ?_
  refine lv_iadd hx hb dL_478 ?_
  refine pv_sldJ (kn := 1) (x := x1) hx hb hX hbl hbA hS hL hj (by decide) (by decide) hx1.2 dL_479 ?_
  obtain ⟨fs1, hcell1, -⟩ := (hT h1 7 t1).1 _ rfl
  refine pv_lawcall (As := [.int (pv_I x1)]) (rest := []) hx hb hml hown hts hWd lk223 (ct223 (τ := τ) (ρ := ρ) hT t1 hx1.1) hcell1 rfl (by rw [m223]; exact Nat.le_of_ble_eq_true rfl) hR hP hD hS (Nat.le_of_ble_eq_true rfl) hl.1 dL_480 hc (fun r h' H locs ws hq hR hP hD hS => ?_)
  obtain ⟨hT', hF', z1, er, lo1, hi1⟩ := hq
  subst er
  have hN := hN.fr hT hF' (by decide)
  have hM : pw_ok (pv_aI h' (ρ h1 1)) := by rw [hF'.aeq r1 (by decide)]; exact hM
  have hI : im_ok (pv_aI h' (ρ h1 2)) := by rw [hF'.aeq r2 (by decide)]; exact hI
  have hQ := hQ.fr hT k5 k24 k25 hF' (by decide)
  have hT := hT'
  refine W.eq (g2 := F0 m 483 ls [.int (pv_I z1)]) rfl ?_
  refine lv_pop hx hb dL_483 rfl ?_
  refine lv_goto (tgt := 1529) hx hb dL_484 (by decide) ?_
  exact kk _ _ _ _ ⟨hT, t0, t1, hN, hM, hI, hQ, hR, hP, hD, hS⟩
set_option maxHeartbeats 4000000 in
theorem lc_9 (X : pv_LX p s m meth c b L xs K adV dC dI dA) (hL : L ≤ 3072) (hj : 6 * j + 6 ≤ L) (hKok : pv_Kok K) (Y : pv_LY s dC dI dA τ ρ h h0 h1 ws H locs) (hl : lv_has ls 4 [(3, .int (pv_I ((6 * j : Nat) : Int))), (2, .ref h1), (1, .ref h0), (0, .ref b)]) (hc : cells ≤ 600000 ∧ slots ≤ 7302250) (kk : ∀ (h : pv_H) (ws : va_W) (H : Heap) (locs : List Loc), pv_LY s dC dI dA τ ρ h h0 h1 ws H locs → W p l e room_1 s m #[Value.ref b] below meth c H locs cells slots (lw_Z below #[Value.ref b] s) (F0 m 1529 ls [])) : W p l e room_1 s m #[Value.ref b] below meth c H locs cells slots (lw_Z below #[Value.ref b] s) (F0 m 487 ls []) := by
  obtain ⟨hx, hb, hr, hml, hown, hts, hX, hbl, hlk, hWd⟩ := X
  obtain ⟨hT, t0, t1, hN, hM, hI, hQ, hR, hP, hD, hS⟩ := Y
  have hbA : ¬ (fun q => s.heap.size ≤ q) b := fun z => by have : s.heap.size ≤ b := z; omega
  have n1 : τ (ρ h0 1) = some 2 := hT.rf (t' := 2) t0 rfl rfl
  have r1 : τ (ρ h1 1) = some 40 := hT.rf (t' := 40) t1 rfl rfl
  have r2 : τ (ρ h1 2) = some 41 := hT.rf (t' := 41) t1 rfl rfl
  have k5 : τ (ρ h0 5) = some 12 := hT.rf (t' := 12) t0 rfl rfl
  have k24 : τ (ρ h1 24) = some 53 := hT.rf (t' := 53) t1 rfl rfl
  have k25 : τ (ρ h1 25) = some 54 := hT.rf (t' := 54) t1 rfl rfl
  have hQ0 := hQ
  have hT0 := hT
  obtain ⟨x1, hx1⟩ : ∃ x : Int, (-2147483648 ≤ x ∧ x ≤ 2147483647) ∧ xs (6 * j + 1) = pv_I x := ⟨_, pv_I_rep _⟩
  obtain ⟨x2, hx2⟩ : ∃ x : Int, (-2147483648 ≤ x ∧ x ≤ 2147483647) ∧ xs (6 * j + 2) = pv_I x := ⟨_, pv_I_rep _⟩

  refine lv_aload_n hx hb dL_487 rfl (lv_at hl 2 rfl) ?_
  refine lv_aload_n hx hb dL_488 rfl (lv_at hl 3 rfl) ?_
  refine lv_iload_n hx hb dL_489 rfl (lv_at hl 0 rfl) ?_
  refine lv_iconst (v := 1) hx hb dL_490 (by decide) ?_
  refine lv_iadd hx hb dL_491 ?_
  refine pv_sldJ (kn := 1) (x := x1) hx hb hX hbl hbA hS hL hj (by decide) (by decide) hx1.2 dL_492 ?_
  refine lv_aload_n hx hb dL_493 rfl (lv_at hl 3 rfl) ?_
  refine lv_iload_n hx hb dL_494 rfl (lv_at hl 0 rfl) ?_
  refine lv_iconst (v := 2) hx hb dL_495 (by decide) ?_
  refine lv_iadd hx hb dL_496 ?_
  refine pv_sldJ (kn := 2) (x := x2) hx hb hX hbl hbA hS hL hj (by decide) (by decide) hx2.2 dL_497 ?_
  obtain ⟨fs0, hcell0, -⟩ := (hT h0 0 t0).1 _ rfl
  refine pv_lawcall (As := [.int (pv_I x1), .int (pv_I x2)]) (rest := []) hx hb hml hown hts hWd lk84 (ct84 (τ := τ) (ρ := ρ) hT t0 hx1.1 hx2.1) hcell0 rfl (by rw [m84]; exact Nat.le_of_ble_eq_true rfl) hR hP hD hS (Nat.le_of_ble_eq_true rfl) hl.1 dL_498 hc (fun r h' H locs ws hq hR hP hD hS => ?_)
  obtain ⟨eh, z0, er, lo0, hi0⟩ := hq
  subst eh
  subst er
  refine W.eq (g2 := F0 m 501 ls [.int (pv_I z0)]) rfl ?_
  refine lv_pop hx hb dL_501 rfl ?_
  refine lv_aload_n hx hb dL_502 rfl (lv_at hl 1 rfl) ?_
  refine lv_aload_n hx hb dL_503 rfl (lv_at hl 3 rfl) ?_
  refine lv_iload_n hx hb dL_504 rfl (lv_at hl 0 rfl) ?_
  refine lv_iconst (v := 1) hx hb dL_505 (by decide) ?_
  refine lv_iadd hx hb dL_506 ?_
  refine pv_sldJ (kn := 1) (x := x1) hx hb hX hbl hbA hS hL hj (by decide) (by decide) hx1.2 dL_507 ?_
  refine lv_aload_n hx hb dL_508 rfl (lv_at hl 3 rfl) ?_
  refine lv_iload_n hx hb dL_509 rfl (lv_at hl 0 rfl) ?_
  refine lv_iconst (v := 2) hx hb dL_510 (by decide) ?_
  refine lv_iadd hx hb dL_511 ?_
  refine pv_sldJ (kn := 2) (x := x2) hx hb hX hbl hbA hS hL hj (by decide) (by decide) hx2.2 dL_512 ?_
  obtain ⟨fs1, hcell1, -⟩ := (hT h1 7 t1).1 _ rfl
  refine pv_lawcall (As := [.int (pv_I x1), .int (pv_I x2)]) (rest := []) hx hb hml hown hts hWd lk240 (ct240 (τ := τ) (ρ := ρ) hT t1 hx1.1 hx2.1) hcell1 rfl (by rw [m240]; exact Nat.le_of_ble_eq_true rfl) hR hP hD hS (Nat.le_of_ble_eq_true rfl) hl.1 dL_513 hc (fun r h' H locs ws hq hR hP hD hS => ?_)
  obtain ⟨eh, z1, er, lo1, hi1⟩ := hq
  subst eh
  subst er
  refine W.eq (g2 := F0 m 516 ls [.int (pv_I z1)]) rfl ?_
  refine lv_pop hx hb dL_516 rfl ?_
  refine lv_goto (tgt := 1529) hx hb dL_517 (by decide) ?_
  exact kk _ _ _ _ ⟨hT, t0, t1, hN, hM, hI, hQ, hR, hP, hD, hS⟩
set_option maxHeartbeats 4000000 in
theorem lc_10 (X : pv_LX p s m meth c b L xs K adV dC dI dA) (hL : L ≤ 3072) (hj : 6 * j + 6 ≤ L) (hKok : pv_Kok K) (Y : pv_LY s dC dI dA τ ρ h h0 h1 ws H locs) (hl : lv_has ls 4 [(3, .int (pv_I ((6 * j : Nat) : Int))), (2, .ref h1), (1, .ref h0), (0, .ref b)]) (hc : cells ≤ 600000 ∧ slots ≤ 7302250) (kk : ∀ (h : pv_H) (ws : va_W) (H : Heap) (locs : List Loc), pv_LY s dC dI dA τ ρ h h0 h1 ws H locs → W p l e room_1 s m #[Value.ref b] below meth c H locs cells slots (lw_Z below #[Value.ref b] s) (F0 m 1529 ls [])) : W p l e room_1 s m #[Value.ref b] below meth c H locs cells slots (lw_Z below #[Value.ref b] s) (F0 m 520 ls []) := by
  obtain ⟨hx, hb, hr, hml, hown, hts, hX, hbl, hlk, hWd⟩ := X
  obtain ⟨hT, t0, t1, hN, hM, hI, hQ, hR, hP, hD, hS⟩ := Y
  have hbA : ¬ (fun q => s.heap.size ≤ q) b := fun z => by have : s.heap.size ≤ b := z; omega
  have n1 : τ (ρ h0 1) = some 2 := hT.rf (t' := 2) t0 rfl rfl
  have r1 : τ (ρ h1 1) = some 40 := hT.rf (t' := 40) t1 rfl rfl
  have r2 : τ (ρ h1 2) = some 41 := hT.rf (t' := 41) t1 rfl rfl
  have k5 : τ (ρ h0 5) = some 12 := hT.rf (t' := 12) t0 rfl rfl
  have k24 : τ (ρ h1 24) = some 53 := hT.rf (t' := 53) t1 rfl rfl
  have k25 : τ (ρ h1 25) = some 54 := hT.rf (t' := 54) t1 rfl rfl
  have hQ0 := hQ
  have hT0 := hT

  refine lv_aload_n hx hb dL_520 rfl (lv_at hl 2 rfl) ?_
  obtain ⟨fs0, hcell0, -⟩ := (hT h0 0 t0).1 _ rfl
  refine pv_lawcall (As := []) (rest := []) hx hb hml hown hts hWd lk91 (ct91 (τ := τ) (ρ := ρ) hT t0) hcell0 rfl (by rw [m91]; exact Nat.le_of_ble_eq_true rfl) hR hP hD hS (Nat.le_of_ble_eq_true rfl) hl.1 dL_521 hc (fun r h' H locs ws hq hR hP hD hS => ?_)
  obtain ⟨eh, z0, er, lo0, hi0⟩ := hq
  subst eh
  subst er
  refine W.eq (g2 := F0 m 524 ls [.int (pv_I z0)]) rfl ?_
  refine lv_pop hx hb dL_524 rfl ?_
  refine lv_aload_n hx hb dL_525 rfl (lv_at hl 1 rfl) ?_
  obtain ⟨fs1, hcell1, -⟩ := (hT h1 7 t1).1 _ rfl
  refine pv_lawcall (As := []) (rest := []) hx hb hml hown hts hWd lk244 (ct244 (τ := τ) (ρ := ρ) hT t1) hcell1 rfl (by rw [m244]; exact Nat.le_of_ble_eq_true rfl) hR hP hD hS (Nat.le_of_ble_eq_true rfl) hl.1 dL_526 hc (fun r h' H locs ws hq hR hP hD hS => ?_)
  obtain ⟨eh, z1, er, lo1, hi1⟩ := hq
  subst eh
  subst er
  refine W.eq (g2 := F0 m 529 ls [.int (pv_I z1)]) rfl ?_
  refine lv_pop hx hb dL_529 rfl ?_
  refine lv_goto (tgt := 1529) hx hb dL_530 (by decide) ?_
  exact kk _ _ _ _ ⟨hT, t0, t1, hN, hM, hI, hQ, hR, hP, hD, hS⟩
end LE
