section LE
variable {p : Program} {l : Launch} {e : Env} {s : State} {m : MethodId} {below : List Frame} {meth : Method} {c : Code} {H : Heap} {locs : List Loc} {cells slots : Nat} {K adV : Nat → Nat} {dC : Nat → ClassId} {dI : Nat → Nat → Nat} {dA : Nat → ClassId} {b h0 h1 : Nat} {xs : Nat → Int32} {ls : Array Slot} {τ : Nat → Option Nat} {ρ : Nat → Nat → Nat} {h : pv_H} {ws : va_W}
set_option maxHeartbeats 4000000 in
theorem lc_0 (X : pv_LX p s m meth c b xs K adV dC dI dA) (hKok : pv_Kok K) (Y : pv_LY s dC dI dA τ ρ h h0 h1 ws H locs) (hl : lv_has ls 4 [(3, .int 0), (2, .ref h1), (1, .ref h0), (0, .ref b)]) (hc : cells ≤ 600000 ∧ slots ≤ 7302250) : W p l e room_1 s m #[Value.ref b] below meth c H locs cells slots (lw_Z below #[Value.ref b] s) (F0 m 220 ls []) := by
  obtain ⟨hx, hb, hr, hml, hown, hts, hX, hbl, hlk, hWd⟩ := X
  obtain ⟨hT, t0, t1, hXF, hMF, hR, hP, hD, hS⟩ := Y
  have hbA : ¬ (fun q => s.heap.size ≤ q) b := fun z => by have : s.heap.size ≤ b := z; omega
  obtain ⟨⟨hn0, hn1, hn2, hn3, hn4, hn14, hn15⟩, ⟨hp0, hp1, hp2⟩, hrows, himg⟩ := hXF
  obtain ⟨hm1, hm2, hm3, hm4, hm5, hm6⟩ := id hMF
  obtain ⟨x1, hx1⟩ : ∃ x : Int, (-2147483648 ≤ x ∧ x ≤ 2147483647) ∧ xs 1 = pv_I x := ⟨_, pv_I_rep _⟩
  obtain ⟨x2, hx2⟩ : ∃ x : Int, (-2147483648 ≤ x ∧ x ≤ 2147483647) ∧ xs 2 = pv_I x := ⟨_, pv_I_rep _⟩
  obtain ⟨x3, hx3⟩ : ∃ x : Int, (-2147483648 ≤ x ∧ x ≤ 2147483647) ∧ xs 3 = pv_I x := ⟨_, pv_I_rep _⟩
  obtain ⟨x4, hx4⟩ : ∃ x : Int, (-2147483648 ≤ x ∧ x ≤ 2147483647) ∧ xs 4 = pv_I x := ⟨_, pv_I_rep _⟩
  obtain ⟨x5, hx5⟩ : ∃ x : Int, (-2147483648 ≤ x ∧ x ≤ 2147483647) ∧ xs 5 = pv_I x := ⟨_, pv_I_rep _⟩

  refine lv_aload_n hx hb dL_220 rfl (lv_at hl 2 rfl) ?_
  refine lv_aload_n hx hb dL_221 rfl (lv_at hl 3 rfl) ?_
  refine lv_iload_n hx hb dL_222 rfl (lv_at hl 0 rfl) ?_
  refine lv_iconst (v := 1) hx hb dL_223 (by decide) ?_
  refine lv_iadd hx hb dL_224 ?_
  refine pv_sldI (k := 1) (x := x1) hx hb hX hbl hbA hS (by decide) (by decide) hx1.2 dL_225 ?_
  refine lv_aload_n hx hb dL_226 rfl (lv_at hl 3 rfl) ?_
  refine lv_iload_n hx hb dL_227 rfl (lv_at hl 0 rfl) ?_
  refine lv_iconst (v := 2) hx hb dL_228 (by decide) ?_
  refine lv_iadd hx hb dL_229 ?_
  refine pv_sldI (k := 2) (x := x2) hx hb hX hbl hbA hS (by decide) (by decide) hx2.2 dL_230 ?_
  refine lv_aload_n hx hb dL_231 rfl (lv_at hl 3 rfl) ?_
  refine lv_iload_n hx hb dL_232 rfl (lv_at hl 0 rfl) ?_
  refine lv_iconst (v := 3) hx hb dL_233 (by decide) ?_
  refine lv_iadd hx hb dL_234 ?_
  refine pv_sldI (k := 3) (x := x3) hx hb hX hbl hbA hS (by decide) (by decide) hx3.2 dL_235 ?_
  refine lv_aload_n hx hb dL_236 rfl (lv_at hl 3 rfl) ?_
  refine lv_iload_n hx hb dL_237 rfl (lv_at hl 0 rfl) ?_
  refine lv_iconst (v := 4) hx hb dL_238 (by decide) ?_
  refine lv_iadd hx hb dL_239 ?_
  refine pv_sldI (k := 4) (x := x4) hx hb hX hbl hbA hS (by decide) (by decide) hx4.2 dL_240 ?_
  refine lv_aload_n hx hb dL_241 rfl (lv_at hl 3 rfl) ?_
  refine lv_iload_n hx hb dL_242 rfl (lv_at hl 0 rfl) ?_
  refine lv_iconst (v := 5) hx hb dL_243 (by decide) ?_
  refine lv_iadd hx hb dL_244 ?_
  refine pv_sldI (k := 5) (x := x5) hx hb hX hbl hbA hS (by decide) (by decide) hx5.2 dL_245 ?_
  obtain ⟨fs0, hcell0, -⟩ := (hT h0 0 t0).1 _ rfl
  refine pv_lawcall (As := [.int (pv_I x1), .int (pv_I x2), .int (pv_I x3), .int (pv_I x4), .int (pv_I x5)]) (rest := []) hx hb hml hown hts hWd lk8 (ct8 (τ := τ) (ρ := ρ) hT t0 hx1.1 hx2.1 hx3.1 hx4.1 hx5.1 (by first | assumption | exact hm1 _)) hcell0 rfl (by rw [m8]; exact Nat.le_of_ble_eq_true rfl) hR hP hD hS (Nat.le_of_ble_eq_true rfl) hl.1 dL_246 hc (fun r h' H locs ws hq hR hP hD hS => ?_)
  obtain ⟨hT', hF', z0, er, lo0, hi0, p0_0⟩ := hq
  subst er
  have hMF := pv_MF.fr hT t1 hF' (by decide) hMF
  have hT := hT'
  obtain ⟨hm1, hm2, hm3, hm4, hm5, hm6⟩ := id hMF
  refine W.eq (g2 := F0 m 249 ls [.int (pv_I z0)]) rfl ?_
  refine lv_aload_n hx hb dL_249 rfl (lv_at hl 1 rfl) ?_
  refine lv_aload_n hx hb dL_250 rfl (lv_at hl 3 rfl) ?_
  refine lv_iload_n hx hb dL_251 rfl (lv_at hl 0 rfl) ?_
  refine lv_iconst (v := 1) hx hb dL_252 (by decide) ?_
  refine lv_iadd hx hb dL_253 ?_
  refine pv_sldI (k := 1) (x := x1) hx hb hX hbl hbA hS (by decide) (by decide) hx1.2 dL_254 ?_
  refine lv_aload_n hx hb dL_255 rfl (lv_at hl 3 rfl) ?_
  refine lv_iload_n hx hb dL_256 rfl (lv_at hl 0 rfl) ?_
  refine lv_iconst (v := 2) hx hb dL_257 (by decide) ?_
  refine lv_iadd hx hb dL_258 ?_
  refine pv_sldI (k := 2) (x := x2) hx hb hX hbl hbA hS (by decide) (by decide) hx2.2 dL_259 ?_
  refine lv_aload_n hx hb dL_260 rfl (lv_at hl 3 rfl) ?_
  refine lv_iload_n hx hb dL_261 rfl (lv_at hl 0 rfl) ?_
  refine lv_iconst (v := 3) hx hb dL_262 (by decide) ?_
  refine lv_iadd hx hb dL_263 ?_
  refine pv_sldI (k := 3) (x := x3) hx hb hX hbl hbA hS (by decide) (by decide) hx3.2 dL_264 ?_
  refine lv_aload_n hx hb dL_265 rfl (lv_at hl 3 rfl) ?_
  refine lv_iload_n hx hb dL_266 rfl (lv_at hl 0 rfl) ?_
  refine lv_iconst (v := 4) hx hb dL_267 (by decide) ?_
  refine lv_iadd hx hb dL_268 ?_
  refine pv_sldI (k := 4) (x := x4) hx hb hX hbl hbA hS (by decide) (by decide) hx4.2 dL_269 ?_
  refine lv_aload_n hx hb dL_270 rfl (lv_at hl 3 rfl) ?_
  refine lv_iload_n hx hb dL_271 rfl (lv_at hl 0 rfl) ?_
  refine lv_iconst (v := 5) hx hb dL_272 (by decide) ?_
  refine lv_iadd hx hb dL_273 ?_
  refine pv_sldI (k := 5) (x := x5) hx hb hX hbl hbA hS (by decide) (by decide) hx5.2 dL_274 ?_
  obtain ⟨fs1, hcell1, -⟩ := (hT h1 7 t1).1 _ rfl
  refine pv_lawcall (As := [.int (pv_I x1), .int (pv_I x2), .int (pv_I x3), .int (pv_I x4), .int (pv_I x5)]) (rest := [.int (pv_I z0)]) hx hb hml hown hts hWd lk186 (ct186 (τ := τ) (ρ := ρ) hT t1 hx1.1 hx2.1 hx3.1 hx4.1 hx5.1 (by first | assumption | exact hm1 _)) hcell1 rfl (by rw [m186]; exact Nat.le_of_ble_eq_true rfl) hR hP hD hS (Nat.le_of_ble_eq_true rfl) hl.1 dL_275 hc (fun r h' H locs ws hq hR hP hD hS => ?_)
  obtain ⟨hT', hF', z1, er, lo1, hi1, p1_0⟩ := hq
  subst er
  refine W.eq (g2 := F0 m 278 ls [.int (pv_I z1), .int (pv_I z0)]) rfl ?_
  have ez : z0 = z1 := by first | omega | exact p0_0.trans p1_0.symm
  refine lv_icmp_eq (tgt := 1533) hx hb dL_278 (by decide) (fun c9 => ?_) (fun c9 => absurd (by rw [ez]) c9)
  exact pv_lend ⟨hx, hb, hr, hml, hown, hts, hX, hbl, hlk, hWd⟩ hS hl hc
set_option maxHeartbeats 4000000 in
theorem lc_1 (X : pv_LX p s m meth c b xs K adV dC dI dA) (hKok : pv_Kok K) (Y : pv_LY s dC dI dA τ ρ h h0 h1 ws H locs) (hl : lv_has ls 4 [(3, .int 0), (2, .ref h1), (1, .ref h0), (0, .ref b)]) (hc : cells ≤ 600000 ∧ slots ≤ 7302250) : W p l e room_1 s m #[Value.ref b] below meth c H locs cells slots (lw_Z below #[Value.ref b] s) (F0 m 283 ls []) := by
  obtain ⟨hx, hb, hr, hml, hown, hts, hX, hbl, hlk, hWd⟩ := X
  obtain ⟨hT, t0, t1, hXF, hMF, hR, hP, hD, hS⟩ := Y
  have hbA : ¬ (fun q => s.heap.size ≤ q) b := fun z => by have : s.heap.size ≤ b := z; omega
  obtain ⟨⟨hn0, hn1, hn2, hn3, hn4, hn14, hn15⟩, ⟨hp0, hp1, hp2⟩, hrows, himg⟩ := hXF
  obtain ⟨hm1, hm2, hm3, hm4, hm5, hm6⟩ := id hMF
  obtain ⟨x1, hx1⟩ : ∃ x : Int, (-2147483648 ≤ x ∧ x ≤ 2147483647) ∧ xs 1 = pv_I x := ⟨_, pv_I_rep _⟩

  refine lv_aload_n hx hb dL_283 rfl (lv_at hl 2 rfl) ?_
  refine lv_aload_n hx hb dL_284 rfl (lv_at hl 3 rfl) ?_
  refine lv_iload_n hx hb dL_285 rfl (lv_at hl 0 rfl) ?_
  refine lv_iconst (v := 1) hx hb dL_286 (by decide) ?_
  refine lv_iadd hx hb dL_287 ?_
  refine pv_sldI (k := 1) (x := x1) hx hb hX hbl hbA hS (by decide) (by decide) hx1.2 dL_288 ?_
  obtain ⟨fs0, hcell0, -⟩ := (hT h0 0 t0).1 _ rfl
  refine pv_lawcall (As := [.int (pv_I x1)]) (rest := []) hx hb hml hown hts hWd lk10 (ct10 (τ := τ) (ρ := ρ) hT t0 hx1.1 (by first | assumption | exact hm1 _)) hcell0 rfl (by rw [m10]; exact Nat.le_of_ble_eq_true rfl) hR hP hD hS (Nat.le_of_ble_eq_true rfl) hl.1 dL_289 hc (fun r h' H locs ws hq hR hP hD hS => ?_)
  obtain ⟨hT', hF', z0, er, lo0, hi0, p0_0⟩ := hq
  subst er
  have hMF := pv_MF.fr hT t1 hF' (by decide) hMF
  have hT := hT'
  obtain ⟨hm1, hm2, hm3, hm4, hm5, hm6⟩ := id hMF
  refine W.eq (g2 := F0 m 292 ls [.int (pv_I z0)]) rfl ?_
  refine lv_aload_n hx hb dL_292 rfl (lv_at hl 1 rfl) ?_
  refine lv_aload_n hx hb dL_293 rfl (lv_at hl 3 rfl) ?_
  refine lv_iload_n hx hb dL_294 rfl (lv_at hl 0 rfl) ?_
  refine lv_iconst (v := 1) hx hb dL_295 (by decide) ?_
  refine lv_iadd hx hb dL_296 ?_
  refine pv_sldI (k := 1) (x := x1) hx hb hX hbl hbA hS (by decide) (by decide) hx1.2 dL_297 ?_
  obtain ⟨fs1, hcell1, -⟩ := (hT h1 7 t1).1 _ rfl
  refine pv_lawcall (As := [.int (pv_I x1)]) (rest := [.int (pv_I z0)]) hx hb hml hown hts hWd lk187 (ct187 (τ := τ) (ρ := ρ) hT t1 hx1.1 (by first | assumption | exact hm1 _)) hcell1 rfl (by rw [m187]; exact Nat.le_of_ble_eq_true rfl) hR hP hD hS (Nat.le_of_ble_eq_true rfl) hl.1 dL_298 hc (fun r h' H locs ws hq hR hP hD hS => ?_)
  obtain ⟨hT', hF', z1, er, lo1, hi1, p1_0⟩ := hq
  subst er
  refine W.eq (g2 := F0 m 301 ls [.int (pv_I z1), .int (pv_I z0)]) rfl ?_
  have ez : z0 = z1 := by first | omega | exact p0_0.trans p1_0.symm
  refine lv_icmp_eq (tgt := 1533) hx hb dL_301 (by decide) (fun c9 => ?_) (fun c9 => absurd (by rw [ez]) c9)
  exact pv_lend ⟨hx, hb, hr, hml, hown, hts, hX, hbl, hlk, hWd⟩ hS hl hc
set_option maxHeartbeats 4000000 in
theorem lc_2 (X : pv_LX p s m meth c b xs K adV dC dI dA) (hKok : pv_Kok K) (Y : pv_LY s dC dI dA τ ρ h h0 h1 ws H locs) (hl : lv_has ls 4 [(3, .int 0), (2, .ref h1), (1, .ref h0), (0, .ref b)]) (hc : cells ≤ 600000 ∧ slots ≤ 7302250) : W p l e room_1 s m #[Value.ref b] below meth c H locs cells slots (lw_Z below #[Value.ref b] s) (F0 m 306 ls []) := by
  obtain ⟨hx, hb, hr, hml, hown, hts, hX, hbl, hlk, hWd⟩ := X
  obtain ⟨hT, t0, t1, hXF, hMF, hR, hP, hD, hS⟩ := Y
  have hbA : ¬ (fun q => s.heap.size ≤ q) b := fun z => by have : s.heap.size ≤ b := z; omega
  obtain ⟨⟨hn0, hn1, hn2, hn3, hn4, hn14, hn15⟩, ⟨hp0, hp1, hp2⟩, hrows, himg⟩ := hXF
  obtain ⟨hm1, hm2, hm3, hm4, hm5, hm6⟩ := id hMF

  refine lv_aload_n hx hb dL_306 rfl (lv_at hl 2 rfl) ?_
  obtain ⟨fs0, hcell0, -⟩ := (hT h0 0 t0).1 _ rfl
  refine pv_lawcall (As := []) (rest := []) hx hb hml hown hts hWd lk11 (ct11 (τ := τ) (ρ := ρ) hT t0 (by first | assumption | exact hm1 _)) hcell0 rfl (by rw [m11]; exact Nat.le_of_ble_eq_true rfl) hR hP hD hS (Nat.le_of_ble_eq_true rfl) hl.1 dL_307 hc (fun r h' H locs ws hq hR hP hD hS => ?_)
  obtain ⟨hT', hF', z0, er, lo0, hi0, p0_0⟩ := hq
  subst er
  have hMF := pv_MF.fr hT t1 hF' (by decide) hMF
  have hT := hT'
  obtain ⟨hm1, hm2, hm3, hm4, hm5, hm6⟩ := id hMF
  refine W.eq (g2 := F0 m 310 ls [.int (pv_I z0)]) rfl ?_
  refine lv_aload_n hx hb dL_310 rfl (lv_at hl 1 rfl) ?_
  obtain ⟨fs1, hcell1, -⟩ := (hT h1 7 t1).1 _ rfl
  refine pv_lawcall (As := []) (rest := [.int (pv_I z0)]) hx hb hml hown hts hWd lk189 (ct189 (τ := τ) (ρ := ρ) hT t1 (by first | assumption | exact hm1 _)) hcell1 rfl (by rw [m189]; exact Nat.le_of_ble_eq_true rfl) hR hP hD hS (Nat.le_of_ble_eq_true rfl) hl.1 dL_311 hc (fun r h' H locs ws hq hR hP hD hS => ?_)
  obtain ⟨hT', hF', z1, er, lo1, hi1, p1_0⟩ := hq
  subst er
  refine W.eq (g2 := F0 m 314 ls [.int (pv_I z1), .int (pv_I z0)]) rfl ?_
  have ez : z0 = z1 := by first | omega | exact p0_0.trans p1_0.symm
  refine lv_icmp_eq (tgt := 1533) hx hb dL_314 (by decide) (fun c9 => ?_) (fun c9 => absurd (by rw [ez]) c9)
  exact pv_lend ⟨hx, hb, hr, hml, hown, hts, hX, hbl, hlk, hWd⟩ hS hl hc
set_option maxHeartbeats 4000000 in
theorem lc_3 (X : pv_LX p s m meth c b xs K adV dC dI dA) (hKok : pv_Kok K) (Y : pv_LY s dC dI dA τ ρ h h0 h1 ws H locs) (hl : lv_has ls 4 [(3, .int 0), (2, .ref h1), (1, .ref h0), (0, .ref b)]) (hc : cells ≤ 600000 ∧ slots ≤ 7302250) : W p l e room_1 s m #[Value.ref b] below meth c H locs cells slots (lw_Z below #[Value.ref b] s) (F0 m 319 ls []) := by
  obtain ⟨hx, hb, hr, hml, hown, hts, hX, hbl, hlk, hWd⟩ := X
  obtain ⟨hT, t0, t1, hXF, hMF, hR, hP, hD, hS⟩ := Y
  have hbA : ¬ (fun q => s.heap.size ≤ q) b := fun z => by have : s.heap.size ≤ b := z; omega
  obtain ⟨⟨hn0, hn1, hn2, hn3, hn4, hn14, hn15⟩, ⟨hp0, hp1, hp2⟩, hrows, himg⟩ := hXF
  obtain ⟨hm1, hm2, hm3, hm4, hm5, hm6⟩ := id hMF
  obtain ⟨x1, hx1⟩ : ∃ x : Int, (-2147483648 ≤ x ∧ x ≤ 2147483647) ∧ xs 1 = pv_I x := ⟨_, pv_I_rep _⟩

  refine lv_aload_n hx hb dL_319 rfl (lv_at hl 2 rfl) ?_
  refine lv_aload_n hx hb dL_320 rfl (lv_at hl 3 rfl) ?_
  refine lv_iload_n hx hb dL_321 rfl (lv_at hl 0 rfl) ?_
  refine lv_iconst (v := 1) hx hb dL_322 (by decide) ?_
  refine lv_iadd hx hb dL_323 ?_
  refine pv_sldI (k := 1) (x := x1) hx hb hX hbl hbA hS (by decide) (by decide) hx1.2 dL_324 ?_
  obtain ⟨fs0, hcell0, -⟩ := (hT h0 0 t0).1 _ rfl
  refine pv_lawcall (As := [.int (pv_I x1)]) (rest := []) hx hb hml hown hts hWd lk53 (ct53 (τ := τ) (ρ := ρ) hT t0 hx1.1 (by first | assumption | exact hm1 _) (by first | assumption | exact hm1 _)) hcell0 rfl (by rw [m53]; exact Nat.le_of_ble_eq_true rfl) hR hP hD hS (Nat.le_of_ble_eq_true rfl) hl.1 dL_325 hc (fun r h' H locs ws hq hR hP hD hS => ?_)
  obtain ⟨eh, z0, er, lo0, hi0, p0_0⟩ := hq
  subst eh
  subst er
  refine W.eq (g2 := F0 m 328 ls [.int (pv_I z0)]) rfl ?_
  refine lv_aload_n hx hb dL_328 rfl (lv_at hl 1 rfl) ?_
  refine lv_aload_n hx hb dL_329 rfl (lv_at hl 3 rfl) ?_
  refine lv_iload_n hx hb dL_330 rfl (lv_at hl 0 rfl) ?_
  refine lv_iconst (v := 1) hx hb dL_331 (by decide) ?_
  refine lv_iadd hx hb dL_332 ?_
  refine pv_sldI (k := 1) (x := x1) hx hb hX hbl hbA hS (by decide) (by decide) hx1.2 dL_333 ?_
  obtain ⟨fs1, hcell1, -⟩ := (hT h1 7 t1).1 _ rfl
  refine pv_lawcall (As := [.int (pv_I x1)]) (rest := [.int (pv_I z0)]) hx hb hml hown hts hWd lk188 (ct188 (τ := τ) (ρ := ρ) hT t1 hx1.1 (by first | assumption | exact hm1 _) (by first | assumption | exact hm1 _)) hcell1 rfl (by rw [m188]; exact Nat.le_of_ble_eq_true rfl) hR hP hD hS (Nat.le_of_ble_eq_true rfl) hl.1 dL_334 hc (fun r h' H locs ws hq hR hP hD hS => ?_)
  obtain ⟨eh, z1, er, lo1, hi1, p1_0⟩ := hq
  subst eh
  subst er
  refine W.eq (g2 := F0 m 337 ls [.int (pv_I z1), .int (pv_I z0)]) rfl ?_
  have ez : z0 = z1 := by first | omega | exact p0_0.trans p1_0.symm
  refine lv_icmp_eq (tgt := 1533) hx hb dL_337 (by decide) (fun c9 => ?_) (fun c9 => absurd (by rw [ez]) c9)
  exact pv_lend ⟨hx, hb, hr, hml, hown, hts, hX, hbl, hlk, hWd⟩ hS hl hc
set_option maxHeartbeats 4000000 in
theorem lc_4 (X : pv_LX p s m meth c b xs K adV dC dI dA) (hKok : pv_Kok K) (Y : pv_LY s dC dI dA τ ρ h h0 h1 ws H locs) (hl : lv_has ls 4 [(3, .int 0), (2, .ref h1), (1, .ref h0), (0, .ref b)]) (hc : cells ≤ 600000 ∧ slots ≤ 7302250) : W p l e room_1 s m #[Value.ref b] below meth c H locs cells slots (lw_Z below #[Value.ref b] s) (F0 m 342 ls []) := by
  obtain ⟨hx, hb, hr, hml, hown, hts, hX, hbl, hlk, hWd⟩ := X
  obtain ⟨hT, t0, t1, hXF, hMF, hR, hP, hD, hS⟩ := Y
  have hbA : ¬ (fun q => s.heap.size ≤ q) b := fun z => by have : s.heap.size ≤ b := z; omega
  obtain ⟨⟨hn0, hn1, hn2, hn3, hn4, hn14, hn15⟩, ⟨hp0, hp1, hp2⟩, hrows, himg⟩ := hXF
  obtain ⟨hm1, hm2, hm3, hm4, hm5, hm6⟩ := id hMF
  obtain ⟨x1, hx1⟩ : ∃ x : Int, (-2147483648 ≤ x ∧ x ≤ 2147483647) ∧ xs 1 = pv_I x := ⟨_, pv_I_rep _⟩
  obtain ⟨x2, hx2⟩ : ∃ x : Int, (-2147483648 ≤ x ∧ x ≤ 2147483647) ∧ xs 2 = pv_I x := ⟨_, pv_I_rep _⟩

  refine lv_aload_n hx hb dL_342 rfl (lv_at hl 2 rfl) ?_
  refine lv_aload_n hx hb dL_343 rfl (lv_at hl 3 rfl) ?_
  refine lv_iload_n hx hb dL_344 rfl (lv_at hl 0 rfl) ?_
  refine lv_iconst (v := 1) hx hb dL_345 (by decide) ?_
  refine lv_iadd hx hb dL_346 ?_
  refine pv_sldI (k := 1) (x := x1) hx hb hX hbl hbA hS (by decide) (by decide) hx1.2 dL_347 ?_
  refine lv_aload_n hx hb dL_348 rfl (lv_at hl 3 rfl) ?_
  refine lv_iload_n hx hb dL_349 rfl (lv_at hl 0 rfl) ?_
  refine lv_iconst (v := 2) hx hb dL_350 (by decide) ?_
  refine lv_iadd hx hb dL_351 ?_
  refine pv_sldI (k := 2) (x := x2) hx hb hX hbl hbA hS (by decide) (by decide) hx2.2 dL_352 ?_
  obtain ⟨fs0, hcell0, -⟩ := (hT h0 0 t0).1 _ rfl
  refine pv_lawcall (As := [.int (pv_I x1), .int (pv_I x2)]) (rest := []) hx hb hml hown hts hWd lk54 (ct54 (τ := τ) (ρ := ρ) hT t0 hx1.1 hx2.1 (by first | assumption | exact hm1 _)) hcell0 rfl (by rw [m54]; exact Nat.le_of_ble_eq_true rfl) hR hP hD hS (Nat.le_of_ble_eq_true rfl) hl.1 dL_353 hc (fun r h' H locs ws hq hR hP hD hS => ?_)
  obtain ⟨eh, z0, er, lo0, hi0⟩ := hq
  subst eh
  subst er
  refine W.eq (g2 := F0 m 356 ls [.int (pv_I z0)]) rfl ?_
  refine lv_aload_n hx hb dL_356 rfl (lv_at hl 1 rfl) ?_
  refine lv_aload_n hx hb dL_357 rfl (lv_at hl 3 rfl) ?_
  refine lv_iload_n hx hb dL_358 rfl (lv_at hl 0 rfl) ?_
  refine lv_iconst (v := 1) hx hb dL_359 (by decide) ?_
  refine lv_iadd hx hb dL_360 ?_
  refine pv_sldI (k := 1) (x := x1) hx hb hX hbl hbA hS (by decide) (by decide) hx1.2 dL_361 ?_
  refine lv_aload_n hx hb dL_362 rfl (lv_at hl 3 rfl) ?_
  refine lv_iload_n hx hb dL_363 rfl (lv_at hl 0 rfl) ?_
  refine lv_iconst (v := 2) hx hb dL_364 (by decide) ?_
  refine lv_iadd hx hb dL_365 ?_
  refine pv_sldI (k := 2) (x := x2) hx hb hX hbl hbA hS (by decide) (by decide) hx2.2 dL_366 ?_
  obtain ⟨fs1, hcell1, -⟩ := (hT h1 7 t1).1 _ rfl
  refine pv_lawcall (As := [.int (pv_I x1), .int (pv_I x2)]) (rest := [.int (pv_I z0)]) hx hb hml hown hts hWd lk210 (ct210 (τ := τ) (ρ := ρ) hT t1 hx1.1 hx2.1 (by first | assumption | exact hm1 _)) hcell1 rfl (by rw [m210]; exact Nat.le_of_ble_eq_true rfl) hR hP hD hS (Nat.le_of_ble_eq_true rfl) hl.1 dL_367 hc (fun r h' H locs ws hq hR hP hD hS => ?_)
  obtain ⟨eh, z1, er, lo1, hi1⟩ := hq
  subst eh
  subst er
  refine W.eq (g2 := F0 m 370 ls [.int (pv_I z1), .int (pv_I z0)]) rfl ?_
  have ez : z0 = z1 := by first | omega
  refine lv_icmp_eq (tgt := 1533) hx hb dL_370 (by decide) (fun c9 => ?_) (fun c9 => absurd (by rw [ez]) c9)
  exact pv_lend ⟨hx, hb, hr, hml, hown, hts, hX, hbl, hlk, hWd⟩ hS hl hc
set_option maxHeartbeats 4000000 in
theorem lc_5 (X : pv_LX p s m meth c b xs K adV dC dI dA) (hKok : pv_Kok K) (Y : pv_LY s dC dI dA τ ρ h h0 h1 ws H locs) (hl : lv_has ls 4 [(3, .int 0), (2, .ref h1), (1, .ref h0), (0, .ref b)]) (hc : cells ≤ 600000 ∧ slots ≤ 7302250) : W p l e room_1 s m #[Value.ref b] below meth c H locs cells slots (lw_Z below #[Value.ref b] s) (F0 m 375 ls []) := by
  obtain ⟨hx, hb, hr, hml, hown, hts, hX, hbl, hlk, hWd⟩ := X
  obtain ⟨hT, t0, t1, hXF, hMF, hR, hP, hD, hS⟩ := Y
  have hbA : ¬ (fun q => s.heap.size ≤ q) b := fun z => by have : s.heap.size ≤ b := z; omega
  obtain ⟨⟨hn0, hn1, hn2, hn3, hn4, hn14, hn15⟩, ⟨hp0, hp1, hp2⟩, hrows, himg⟩ := hXF
  obtain ⟨hm1, hm2, hm3, hm4, hm5, hm6⟩ := id hMF
  obtain ⟨x1, hx1⟩ : ∃ x : Int, (-2147483648 ≤ x ∧ x ≤ 2147483647) ∧ xs 1 = pv_I x := ⟨_, pv_I_rep _⟩
  obtain ⟨x2, hx2⟩ : ∃ x : Int, (-2147483648 ≤ x ∧ x ≤ 2147483647) ∧ xs 2 = pv_I x := ⟨_, pv_I_rep _⟩

  refine lv_aload_n hx hb dL_375 rfl (lv_at hl 2 rfl) ?_
  refine lv_aload_n hx hb dL_376 rfl (lv_at hl 3 rfl) ?_
  refine lv_iload_n hx hb dL_377 rfl (lv_at hl 0 rfl) ?_
  refine lv_iconst (v := 1) hx hb dL_378 (by decide) ?_
  refine lv_iadd hx hb dL_379 ?_
  refine pv_sldI (k := 1) (x := x1) hx hb hX hbl hbA hS (by decide) (by decide) hx1.2 dL_380 ?_
  refine lv_aload_n hx hb dL_381 rfl (lv_at hl 3 rfl) ?_
  refine lv_iload_n hx hb dL_382 rfl (lv_at hl 0 rfl) ?_
  refine lv_iconst (v := 2) hx hb dL_383 (by decide) ?_
  refine lv_iadd hx hb dL_384 ?_
  refine pv_sldI (k := 2) (x := x2) hx hb hX hbl hbA hS (by decide) (by decide) hx2.2 dL_385 ?_
  obtain ⟨fs0, hcell0, -⟩ := (hT h0 0 t0).1 _ rfl
  refine pv_lawcall (As := [.int (pv_I x1), .int (pv_I x2)]) (rest := []) hx hb hml hown hts hWd lk56 (ct56 (τ := τ) (ρ := ρ) hT t0 hx1.1 hx2.1 (by first | assumption | exact hm1 _)) hcell0 rfl (by rw [m56]; exact Nat.le_of_ble_eq_true rfl) hR hP hD hS (Nat.le_of_ble_eq_true rfl) hl.1 dL_386 hc (fun r h' H locs ws hq hR hP hD hS => ?_)
  obtain ⟨eh, z0, er, lo0, hi0⟩ := hq
  subst eh
  subst er
  refine W.eq (g2 := F0 m 389 ls [.int (pv_I z0)]) rfl ?_
  refine lv_aload_n hx hb dL_389 rfl (lv_at hl 1 rfl) ?_
  refine lv_aload_n hx hb dL_390 rfl (lv_at hl 3 rfl) ?_
  refine lv_iload_n hx hb dL_391 rfl (lv_at hl 0 rfl) ?_
  refine lv_iconst (v := 1) hx hb dL_392 (by decide) ?_
  refine lv_iadd hx hb dL_393 ?_
  refine pv_sldI (k := 1) (x := x1) hx hb hX hbl hbA hS (by decide) (by decide) hx1.2 dL_394 ?_
  refine lv_aload_n hx hb dL_395 rfl (lv_at hl 3 rfl) ?_
  refine lv_iload_n hx hb dL_396 rfl (lv_at hl 0 rfl) ?_
  refine lv_iconst (v := 2) hx hb dL_397 (by decide) ?_
  refine lv_iadd hx hb dL_398 ?_
  refine pv_sldI (k := 2) (x := x2) hx hb hX hbl hbA hS (by decide) (by decide) hx2.2 dL_399 ?_
  obtain ⟨fs1, hcell1, -⟩ := (hT h1 7 t1).1 _ rfl
  refine pv_lawcall (As := [.int (pv_I x1), .int (pv_I x2)]) (rest := [.int (pv_I z0)]) hx hb hml hown hts hWd lk213 (ct213 (τ := τ) (ρ := ρ) hT t1 hx1.1 hx2.1 (by first | assumption | exact hm1 _)) hcell1 rfl (by rw [m213]; exact Nat.le_of_ble_eq_true rfl) hR hP hD hS (Nat.le_of_ble_eq_true rfl) hl.1 dL_400 hc (fun r h' H locs ws hq hR hP hD hS => ?_)
  obtain ⟨eh, z1, er, lo1, hi1⟩ := hq
  subst eh
  subst er
  refine W.eq (g2 := F0 m 403 ls [.int (pv_I z1), .int (pv_I z0)]) rfl ?_
  have ez : z0 = z1 := by first | omega
  refine lv_icmp_eq (tgt := 1533) hx hb dL_403 (by decide) (fun c9 => ?_) (fun c9 => absurd (by rw [ez]) c9)
  exact pv_lend ⟨hx, hb, hr, hml, hown, hts, hX, hbl, hlk, hWd⟩ hS hl hc
set_option maxHeartbeats 4000000 in
theorem lc_6 (X : pv_LX p s m meth c b xs K adV dC dI dA) (hKok : pv_Kok K) (Y : pv_LY s dC dI dA τ ρ h h0 h1 ws H locs) (hl : lv_has ls 4 [(3, .int 0), (2, .ref h1), (1, .ref h0), (0, .ref b)]) (hc : cells ≤ 600000 ∧ slots ≤ 7302250) : W p l e room_1 s m #[Value.ref b] below meth c H locs cells slots (lw_Z below #[Value.ref b] s) (F0 m 408 ls []) := by
  obtain ⟨hx, hb, hr, hml, hown, hts, hX, hbl, hlk, hWd⟩ := X
  obtain ⟨hT, t0, t1, hXF, hMF, hR, hP, hD, hS⟩ := Y
  have hbA : ¬ (fun q => s.heap.size ≤ q) b := fun z => by have : s.heap.size ≤ b := z; omega
  obtain ⟨⟨hn0, hn1, hn2, hn3, hn4, hn14, hn15⟩, ⟨hp0, hp1, hp2⟩, hrows, himg⟩ := hXF
  obtain ⟨hm1, hm2, hm3, hm4, hm5, hm6⟩ := id hMF
  obtain ⟨x1, hx1⟩ : ∃ x : Int, (-2147483648 ≤ x ∧ x ≤ 2147483647) ∧ xs 1 = pv_I x := ⟨_, pv_I_rep _⟩
  obtain ⟨x2, hx2⟩ : ∃ x : Int, (-2147483648 ≤ x ∧ x ≤ 2147483647) ∧ xs 2 = pv_I x := ⟨_, pv_I_rep _⟩

  refine lv_aload_n hx hb dL_408 rfl (lv_at hl 2 rfl) ?_
  refine lv_aload_n hx hb dL_409 rfl (lv_at hl 3 rfl) ?_
  refine lv_iload_n hx hb dL_410 rfl (lv_at hl 0 rfl) ?_
  refine lv_iconst (v := 1) hx hb dL_411 (by decide) ?_
  refine lv_iadd hx hb dL_412 ?_
  refine pv_sldI (k := 1) (x := x1) hx hb hX hbl hbA hS (by decide) (by decide) hx1.2 dL_413 ?_
  refine lv_aload_n hx hb dL_414 rfl (lv_at hl 3 rfl) ?_
  refine lv_iload_n hx hb dL_415 rfl (lv_at hl 0 rfl) ?_
  refine lv_iconst (v := 2) hx hb dL_416 (by decide) ?_
  refine lv_iadd hx hb dL_417 ?_
  refine pv_sldI (k := 2) (x := x2) hx hb hX hbl hbA hS (by decide) (by decide) hx2.2 dL_418 ?_
  obtain ⟨fs0, hcell0, -⟩ := (hT h0 0 t0).1 _ rfl
  refine pv_lawcall (As := [.int (pv_I x1), .int (pv_I x2)]) (rest := []) hx hb hml hown hts hWd lk60 (ct60 (τ := τ) (ρ := ρ) hT t0 hx1.1 hx2.1 (by first | assumption | exact hm1 _)) hcell0 rfl (by rw [m60]; exact Nat.le_of_ble_eq_true rfl) hR hP hD hS (Nat.le_of_ble_eq_true rfl) hl.1 dL_419 hc (fun r h' H locs ws hq hR hP hD hS => ?_)
  obtain ⟨eh, z0, er, lo0, hi0⟩ := hq
  subst eh
  subst er
  refine W.eq (g2 := F0 m 422 ls [.int (pv_I z0)]) rfl ?_
  refine lv_aload_n hx hb dL_422 rfl (lv_at hl 1 rfl) ?_
  refine lv_aload_n hx hb dL_423 rfl (lv_at hl 3 rfl) ?_
  refine lv_iload_n hx hb dL_424 rfl (lv_at hl 0 rfl) ?_
  refine lv_iconst (v := 1) hx hb dL_425 (by decide) ?_
  refine lv_iadd hx hb dL_426 ?_
  refine pv_sldI (k := 1) (x := x1) hx hb hX hbl hbA hS (by decide) (by decide) hx1.2 dL_427 ?_
  refine lv_aload_n hx hb dL_428 rfl (lv_at hl 3 rfl) ?_
  refine lv_iload_n hx hb dL_429 rfl (lv_at hl 0 rfl) ?_
  refine lv_iconst (v := 2) hx hb dL_430 (by decide) ?_
  refine lv_iadd hx hb dL_431 ?_
  refine pv_sldI (k := 2) (x := x2) hx hb hX hbl hbA hS (by decide) (by decide) hx2.2 dL_432 ?_
  obtain ⟨fs1, hcell1, -⟩ := (hT h1 7 t1).1 _ rfl
  refine pv_lawcall (As := [.int (pv_I x1), .int (pv_I x2)]) (rest := [.int (pv_I z0)]) hx hb hml hown hts hWd lk219 (ct219 (τ := τ) (ρ := ρ) hT t1 hx1.1 hx2.1 (by first | assumption | exact hm1 _)) hcell1 rfl (by rw [m219]; exact Nat.le_of_ble_eq_true rfl) hR hP hD hS (Nat.le_of_ble_eq_true rfl) hl.1 dL_433 hc (fun r h' H locs ws hq hR hP hD hS => ?_)
  obtain ⟨eh, z1, er, lo1, hi1⟩ := hq
  subst eh
  subst er
  refine W.eq (g2 := F0 m 436 ls [.int (pv_I z1), .int (pv_I z0)]) rfl ?_
  have ez : z0 = z1 := by first | omega
  refine lv_icmp_eq (tgt := 1533) hx hb dL_436 (by decide) (fun c9 => ?_) (fun c9 => absurd (by rw [ez]) c9)
  exact pv_lend ⟨hx, hb, hr, hml, hown, hts, hX, hbl, hlk, hWd⟩ hS hl hc
set_option maxHeartbeats 4000000 in
theorem lc_7 (X : pv_LX p s m meth c b xs K adV dC dI dA) (hKok : pv_Kok K) (Y : pv_LY s dC dI dA τ ρ h h0 h1 ws H locs) (hl : lv_has ls 4 [(3, .int 0), (2, .ref h1), (1, .ref h0), (0, .ref b)]) (hc : cells ≤ 600000 ∧ slots ≤ 7302250) : W p l e room_1 s m #[Value.ref b] below meth c H locs cells slots (lw_Z below #[Value.ref b] s) (F0 m 441 ls []) := by
  obtain ⟨hx, hb, hr, hml, hown, hts, hX, hbl, hlk, hWd⟩ := X
  obtain ⟨hT, t0, t1, hXF, hMF, hR, hP, hD, hS⟩ := Y
  have hbA : ¬ (fun q => s.heap.size ≤ q) b := fun z => by have : s.heap.size ≤ b := z; omega
  obtain ⟨⟨hn0, hn1, hn2, hn3, hn4, hn14, hn15⟩, ⟨hp0, hp1, hp2⟩, hrows, himg⟩ := hXF
  obtain ⟨hm1, hm2, hm3, hm4, hm5, hm6⟩ := id hMF
  obtain ⟨x1, hx1⟩ : ∃ x : Int, (-2147483648 ≤ x ∧ x ≤ 2147483647) ∧ xs 1 = pv_I x := ⟨_, pv_I_rep _⟩

  refine lv_aload_n hx hb dL_441 rfl (lv_at hl 2 rfl) ?_
  refine lv_aload_n hx hb dL_442 rfl (lv_at hl 3 rfl) ?_
  refine lv_iload_n hx hb dL_443 rfl (lv_at hl 0 rfl) ?_
  refine lv_iconst (v := 1) hx hb dL_444 (by decide) ?_
  refine lv_iadd hx hb dL_445 ?_
  refine pv_sldI (k := 1) (x := x1) hx hb hX hbl hbA hS (by decide) (by decide) hx1.2 dL_446 ?_
  obtain ⟨fs0, hcell0, -⟩ := (hT h0 0 t0).1 _ rfl
  refine pv_lawcall (As := [.int (pv_I x1)]) (rest := []) hx hb hml hown hts hWd lk61 (ct61 (τ := τ) (ρ := ρ) hT t0 hx1.1 (by first | assumption | exact hm1 _)) hcell0 rfl (by rw [m61]; exact Nat.le_of_ble_eq_true rfl) hR hP hD hS (Nat.le_of_ble_eq_true rfl) hl.1 dL_447 hc (fun r h' H locs ws hq hR hP hD hS => ?_)
  obtain ⟨eh, z0, er, lo0, hi0⟩ := hq
  subst eh
  subst er
  refine W.eq (g2 := F0 m 450 ls [.int (pv_I z0)]) rfl ?_
  refine lv_aload_n hx hb dL_450 rfl (lv_at hl 1 rfl) ?_
  refine lv_aload_n hx hb dL_451 rfl (lv_at hl 3 rfl) ?_
  refine lv_iload_n hx hb dL_452 rfl (lv_at hl 0 rfl) ?_
  refine lv_iconst (v := 1) hx hb dL_453 (by decide) ?_
  refine lv_iadd hx hb dL_454 ?_
  refine pv_sldI (k := 1) (x := x1) hx hb hX hbl hbA hS (by decide) (by decide) hx1.2 dL_455 ?_
  obtain ⟨fs1, hcell1, -⟩ := (hT h1 7 t1).1 _ rfl
  refine pv_lawcall (As := [.int (pv_I x1)]) (rest := [.int (pv_I z0)]) hx hb hml hown hts hWd lk221 (ct221 (τ := τ) (ρ := ρ) hT t1 hx1.1 (by first | assumption | exact hm1 _)) hcell1 rfl (by rw [m221]; exact Nat.le_of_ble_eq_true rfl) hR hP hD hS (Nat.le_of_ble_eq_true rfl) hl.1 dL_456 hc (fun r h' H locs ws hq hR hP hD hS => ?_)
  obtain ⟨eh, z1, er, lo1, hi1⟩ := hq
  subst eh
  subst er
  refine W.eq (g2 := F0 m 459 ls [.int (pv_I z1), .int (pv_I z0)]) rfl ?_
  have ez : z0 = z1 := by first | omega
  refine lv_icmp_eq (tgt := 1533) hx hb dL_459 (by decide) (fun c9 => ?_) (fun c9 => absurd (by rw [ez]) c9)
  exact pv_lend ⟨hx, hb, hr, hml, hown, hts, hX, hbl, hlk, hWd⟩ hS hl hc
set_option maxHeartbeats 4000000 in
theorem lc_8 (X : pv_LX p s m meth c b xs K adV dC dI dA) (hKok : pv_Kok K) (Y : pv_LY s dC dI dA τ ρ h h0 h1 ws H locs) (hl : lv_has ls 4 [(3, .int 0), (2, .ref h1), (1, .ref h0), (0, .ref b)]) (hc : cells ≤ 600000 ∧ slots ≤ 7302250) : W p l e room_1 s m #[Value.ref b] below meth c H locs cells slots (lw_Z below #[Value.ref b] s) (F0 m 464 ls []) := by
  obtain ⟨hx, hb, hr, hml, hown, hts, hX, hbl, hlk, hWd⟩ := X
  obtain ⟨hT, t0, t1, hXF, hMF, hR, hP, hD, hS⟩ := Y
  have hbA : ¬ (fun q => s.heap.size ≤ q) b := fun z => by have : s.heap.size ≤ b := z; omega
  obtain ⟨⟨hn0, hn1, hn2, hn3, hn4, hn14, hn15⟩, ⟨hp0, hp1, hp2⟩, hrows, himg⟩ := hXF
  obtain ⟨hm1, hm2, hm3, hm4, hm5, hm6⟩ := id hMF
  obtain ⟨x1, hx1⟩ : ∃ x : Int, (-2147483648 ≤ x ∧ x ≤ 2147483647) ∧ xs 1 = pv_I x := ⟨_, pv_I_rep _⟩

  refine lv_aload_n hx hb dL_464 rfl (lv_at hl 2 rfl) ?_
  refine lv_aload_n hx hb dL_465 rfl (lv_at hl 3 rfl) ?_
  refine lv_iload_n hx hb dL_466 rfl (lv_at hl 0 rfl) ?_
  refine lv_iconst (v := 1) hx hb dL_467 (by decide) ?_
  refine lv_iadd hx hb dL_468 ?_
  refine pv_sldI (k := 1) (x := x1) hx hb hX hbl hbA hS (by decide) (by decide) hx1.2 dL_469 ?_
  obtain ⟨fs0, hcell0, -⟩ := (hT h0 0 t0).1 _ rfl
  refine pv_lawcall (As := [.int (pv_I x1)]) (rest := []) hx hb hml hown hts hWd lk63 (ct63 (τ := τ) (ρ := ρ) hT t0 hx1.1 (by first | assumption | exact hm1 _)) hcell0 rfl (by rw [m63]; exact Nat.le_of_ble_eq_true rfl) hR hP hD hS (Nat.le_of_ble_eq_true rfl) hl.1 dL_470 hc (fun r h' H locs ws hq hR hP hD hS => ?_)
  obtain ⟨eh, z0, er, lo0, hi0⟩ := hq
  subst eh
  subst er
  refine W.eq (g2 := F0 m 473 ls [.int (pv_I z0)]) rfl ?_
  refine lv_aload_n hx hb dL_473 rfl (lv_at hl 1 rfl) ?_
  refine lv_aload_n hx hb dL_474 rfl (lv_at hl 3 rfl) ?_
  refine lv_iload_n hx hb dL_475 rfl (lv_at hl 0 rfl) ?_
  refine lv_iconst (v := 1) hx hb dL_476 (by decide) ?_
  refine lv_iadd hx hb dL_477 ?_
  refine pv_sldI (k := 1) (x := x1) hx hb hX hbl hbA hS (by decide) (by decide) hx1.2 dL_478 ?_
  obtain ⟨fs1, hcell1, -⟩ := (hT h1 7 t1).1 _ rfl
  refine pv_lawcall (As := [.int (pv_I x1)]) (rest := [.int (pv_I z0)]) hx hb hml hown hts hWd lk223 (ct223 (τ := τ) (ρ := ρ) hT t1 hx1.1 (by first | assumption | exact hm1 _)) hcell1 rfl (by rw [m223]; exact Nat.le_of_ble_eq_true rfl) hR hP hD hS (Nat.le_of_ble_eq_true rfl) hl.1 dL_479 hc (fun r h' H locs ws hq hR hP hD hS => ?_)
  obtain ⟨eh, z1, er, lo1, hi1⟩ := hq
  subst eh
  subst er
  refine W.eq (g2 := F0 m 482 ls [.int (pv_I z1), .int (pv_I z0)]) rfl ?_
  have ez : z0 = z1 := by first | omega
  refine lv_icmp_eq (tgt := 1533) hx hb dL_482 (by decide) (fun c9 => ?_) (fun c9 => absurd (by rw [ez]) c9)
  exact pv_lend ⟨hx, hb, hr, hml, hown, hts, hX, hbl, hlk, hWd⟩ hS hl hc
set_option maxHeartbeats 4000000 in
theorem lc_9 (X : pv_LX p s m meth c b xs K adV dC dI dA) (hKok : pv_Kok K) (Y : pv_LY s dC dI dA τ ρ h h0 h1 ws H locs) (hl : lv_has ls 4 [(3, .int 0), (2, .ref h1), (1, .ref h0), (0, .ref b)]) (hc : cells ≤ 600000 ∧ slots ≤ 7302250) : W p l e room_1 s m #[Value.ref b] below meth c H locs cells slots (lw_Z below #[Value.ref b] s) (F0 m 487 ls []) := by
  obtain ⟨hx, hb, hr, hml, hown, hts, hX, hbl, hlk, hWd⟩ := X
  obtain ⟨hT, t0, t1, hXF, hMF, hR, hP, hD, hS⟩ := Y
  have hbA : ¬ (fun q => s.heap.size ≤ q) b := fun z => by have : s.heap.size ≤ b := z; omega
  obtain ⟨⟨hn0, hn1, hn2, hn3, hn4, hn14, hn15⟩, ⟨hp0, hp1, hp2⟩, hrows, himg⟩ := hXF
  obtain ⟨hm1, hm2, hm3, hm4, hm5, hm6⟩ := id hMF
  obtain ⟨x1, hx1⟩ : ∃ x : Int, (-2147483648 ≤ x ∧ x ≤ 2147483647) ∧ xs 1 = pv_I x := ⟨_, pv_I_rep _⟩
  obtain ⟨x2, hx2⟩ : ∃ x : Int, (-2147483648 ≤ x ∧ x ≤ 2147483647) ∧ xs 2 = pv_I x := ⟨_, pv_I_rep _⟩

  refine lv_aload_n hx hb dL_487 rfl (lv_at hl 2 rfl) ?_
  refine lv_aload_n hx hb dL_488 rfl (lv_at hl 3 rfl) ?_
  refine lv_iload_n hx hb dL_489 rfl (lv_at hl 0 rfl) ?_
  refine lv_iconst (v := 1) hx hb dL_490 (by decide) ?_
  refine lv_iadd hx hb dL_491 ?_
  refine pv_sldI (k := 1) (x := x1) hx hb hX hbl hbA hS (by decide) (by decide) hx1.2 dL_492 ?_
  refine lv_aload_n hx hb dL_493 rfl (lv_at hl 3 rfl) ?_
  refine lv_iload_n hx hb dL_494 rfl (lv_at hl 0 rfl) ?_
  refine lv_iconst (v := 2) hx hb dL_495 (by decide) ?_
  refine lv_iadd hx hb dL_496 ?_
  refine pv_sldI (k := 2) (x := x2) hx hb hX hbl hbA hS (by decide) (by decide) hx2.2 dL_497 ?_
  obtain ⟨fs0, hcell0, -⟩ := (hT h0 0 t0).1 _ rfl
  refine pv_lawcall (As := [.int (pv_I x1), .int (pv_I x2)]) (rest := []) hx hb hml hown hts hWd lk84 (ct84 (τ := τ) (ρ := ρ) hT t0 hx1.1 hx2.1 (by first | assumption | exact hm1 _)) hcell0 rfl (by rw [m84]; exact Nat.le_of_ble_eq_true rfl) hR hP hD hS (Nat.le_of_ble_eq_true rfl) hl.1 dL_498 hc (fun r h' H locs ws hq hR hP hD hS => ?_)
  obtain ⟨eh, z0, er, lo0, hi0⟩ := hq
  subst eh
  subst er
  refine W.eq (g2 := F0 m 501 ls [.int (pv_I z0)]) rfl ?_
  refine lv_aload_n hx hb dL_501 rfl (lv_at hl 1 rfl) ?_
  refine lv_aload_n hx hb dL_502 rfl (lv_at hl 3 rfl) ?_
  refine lv_iload_n hx hb dL_503 rfl (lv_at hl 0 rfl) ?_
  refine lv_iconst (v := 1) hx hb dL_504 (by decide) ?_
  refine lv_iadd hx hb dL_505 ?_
  refine pv_sldI (k := 1) (x := x1) hx hb hX hbl hbA hS (by decide) (by decide) hx1.2 dL_506 ?_
  refine lv_aload_n hx hb dL_507 rfl (lv_at hl 3 rfl) ?_
  refine lv_iload_n hx hb dL_508 rfl (lv_at hl 0 rfl) ?_
  refine lv_iconst (v := 2) hx hb dL_509 (by decide) ?_
  refine lv_iadd hx hb dL_510 ?_
  refine pv_sldI (k := 2) (x := x2) hx hb hX hbl hbA hS (by decide) (by decide) hx2.2 dL_511 ?_
  obtain ⟨fs1, hcell1, -⟩ := (hT h1 7 t1).1 _ rfl
  refine pv_lawcall (As := [.int (pv_I x1), .int (pv_I x2)]) (rest := [.int (pv_I z0)]) hx hb hml hown hts hWd lk240 (ct240 (τ := τ) (ρ := ρ) hT t1 hx1.1 hx2.1 (by first | assumption | exact hm1 _)) hcell1 rfl (by rw [m240]; exact Nat.le_of_ble_eq_true rfl) hR hP hD hS (Nat.le_of_ble_eq_true rfl) hl.1 dL_512 hc (fun r h' H locs ws hq hR hP hD hS => ?_)
  obtain ⟨eh, z1, er, lo1, hi1⟩ := hq
  subst eh
  subst er
  refine W.eq (g2 := F0 m 515 ls [.int (pv_I z1), .int (pv_I z0)]) rfl ?_
  have ez : z0 = z1 := by first | omega
  refine lv_icmp_eq (tgt := 1533) hx hb dL_515 (by decide) (fun c9 => ?_) (fun c9 => absurd (by rw [ez]) c9)
  exact pv_lend ⟨hx, hb, hr, hml, hown, hts, hX, hbl, hlk, hWd⟩ hS hl hc
set_option maxHeartbeats 4000000 in
theorem lc_10 (X : pv_LX p s m meth c b xs K adV dC dI dA) (hKok : pv_Kok K) (Y : pv_LY s dC dI dA τ ρ h h0 h1 ws H locs) (hl : lv_has ls 4 [(3, .int 0), (2, .ref h1), (1, .ref h0), (0, .ref b)]) (hc : cells ≤ 600000 ∧ slots ≤ 7302250) : W p l e room_1 s m #[Value.ref b] below meth c H locs cells slots (lw_Z below #[Value.ref b] s) (F0 m 520 ls []) := by
  obtain ⟨hx, hb, hr, hml, hown, hts, hX, hbl, hlk, hWd⟩ := X
  obtain ⟨hT, t0, t1, hXF, hMF, hR, hP, hD, hS⟩ := Y
  have hbA : ¬ (fun q => s.heap.size ≤ q) b := fun z => by have : s.heap.size ≤ b := z; omega
  obtain ⟨⟨hn0, hn1, hn2, hn3, hn4, hn14, hn15⟩, ⟨hp0, hp1, hp2⟩, hrows, himg⟩ := hXF
  obtain ⟨hm1, hm2, hm3, hm4, hm5, hm6⟩ := id hMF

  refine lv_aload_n hx hb dL_520 rfl (lv_at hl 2 rfl) ?_
  obtain ⟨fs0, hcell0, -⟩ := (hT h0 0 t0).1 _ rfl
  refine pv_lawcall (As := []) (rest := []) hx hb hml hown hts hWd lk91 (ct91 (τ := τ) (ρ := ρ) hT t0 (by first | assumption | exact hm1 _)) hcell0 rfl (by rw [m91]; exact Nat.le_of_ble_eq_true rfl) hR hP hD hS (Nat.le_of_ble_eq_true rfl) hl.1 dL_521 hc (fun r h' H locs ws hq hR hP hD hS => ?_)
  obtain ⟨eh, z0, er, lo0, hi0⟩ := hq
  subst eh
  subst er
  refine W.eq (g2 := F0 m 524 ls [.int (pv_I z0)]) rfl ?_
  refine lv_aload_n hx hb dL_524 rfl (lv_at hl 1 rfl) ?_
  obtain ⟨fs1, hcell1, -⟩ := (hT h1 7 t1).1 _ rfl
  refine pv_lawcall (As := []) (rest := [.int (pv_I z0)]) hx hb hml hown hts hWd lk244 (ct244 (τ := τ) (ρ := ρ) hT t1 (by first | assumption | exact hm1 _)) hcell1 rfl (by rw [m244]; exact Nat.le_of_ble_eq_true rfl) hR hP hD hS (Nat.le_of_ble_eq_true rfl) hl.1 dL_525 hc (fun r h' H locs ws hq hR hP hD hS => ?_)
  obtain ⟨eh, z1, er, lo1, hi1⟩ := hq
  subst eh
  subst er
  refine W.eq (g2 := F0 m 528 ls [.int (pv_I z1), .int (pv_I z0)]) rfl ?_
  have ez : z0 = z1 := by first | omega
  refine lv_icmp_eq (tgt := 1533) hx hb dL_528 (by decide) (fun c9 => ?_) (fun c9 => absurd (by rw [ez]) c9)
  exact pv_lend ⟨hx, hb, hr, hml, hown, hts, hX, hbl, hlk, hWd⟩ hS hl hc
set_option maxHeartbeats 4000000 in
theorem lc_11 (X : pv_LX p s m meth c b xs K adV dC dI dA) (hKok : pv_Kok K) (Y : pv_LY s dC dI dA τ ρ h h0 h1 ws H locs) (hl : lv_has ls 4 [(3, .int 0), (2, .ref h1), (1, .ref h0), (0, .ref b)]) (hc : cells ≤ 600000 ∧ slots ≤ 7302250) : W p l e room_1 s m #[Value.ref b] below meth c H locs cells slots (lw_Z below #[Value.ref b] s) (F0 m 533 ls []) := by
  obtain ⟨hx, hb, hr, hml, hown, hts, hX, hbl, hlk, hWd⟩ := X
  obtain ⟨hT, t0, t1, hXF, hMF, hR, hP, hD, hS⟩ := Y
  have hbA : ¬ (fun q => s.heap.size ≤ q) b := fun z => by have : s.heap.size ≤ b := z; omega
  obtain ⟨⟨hn0, hn1, hn2, hn3, hn4, hn14, hn15⟩, ⟨hp0, hp1, hp2⟩, hrows, himg⟩ := hXF
  obtain ⟨hm1, hm2, hm3, hm4, hm5, hm6⟩ := id hMF

  refine lv_aload_n hx hb dL_533 rfl (lv_at hl 2 rfl) ?_
  obtain ⟨fs0, hcell0, -⟩ := (hT h0 0 t0).1 _ rfl
  refine pv_lawcall (As := []) (rest := []) hx hb hml hown hts hWd lk92 (ct92 (τ := τ) (ρ := ρ) hT t0 (by first | assumption | exact hm1 _)) hcell0 rfl (by rw [m92]; exact Nat.le_of_ble_eq_true rfl) hR hP hD hS (Nat.le_of_ble_eq_true rfl) hl.1 dL_534 hc (fun r h' H locs ws hq hR hP hD hS => ?_)
  obtain ⟨eh, z0, er, lo0, hi0⟩ := hq
  subst eh
  subst er
  refine W.eq (g2 := F0 m 537 ls [.int (pv_I z0)]) rfl ?_
  refine lv_aload_n hx hb dL_537 rfl (lv_at hl 1 rfl) ?_
  obtain ⟨fs1, hcell1, -⟩ := (hT h1 7 t1).1 _ rfl
  refine pv_lawcall (As := []) (rest := [.int (pv_I z0)]) hx hb hml hown hts hWd lk247 (ct247 (τ := τ) (ρ := ρ) hT t1 (by first | assumption | exact hm1 _)) hcell1 rfl (by rw [m247]; exact Nat.le_of_ble_eq_true rfl) hR hP hD hS (Nat.le_of_ble_eq_true rfl) hl.1 dL_538 hc (fun r h' H locs ws hq hR hP hD hS => ?_)
  obtain ⟨eh, z1, er, lo1, hi1⟩ := hq
  subst eh
  subst er
  refine W.eq (g2 := F0 m 541 ls [.int (pv_I z1), .int (pv_I z0)]) rfl ?_
  have ez : z0 = z1 := by first | omega
  refine lv_icmp_eq (tgt := 1533) hx hb dL_541 (by decide) (fun c9 => ?_) (fun c9 => absurd (by rw [ez]) c9)
  exact pv_lend ⟨hx, hb, hr, hml, hown, hts, hX, hbl, hlk, hWd⟩ hS hl hc
set_option maxHeartbeats 4000000 in
theorem lc_12 (X : pv_LX p s m meth c b xs K adV dC dI dA) (hKok : pv_Kok K) (Y : pv_LY s dC dI dA τ ρ h h0 h1 ws H locs) (hl : lv_has ls 4 [(3, .int 0), (2, .ref h1), (1, .ref h0), (0, .ref b)]) (hc : cells ≤ 600000 ∧ slots ≤ 7302250) : W p l e room_1 s m #[Value.ref b] below meth c H locs cells slots (lw_Z below #[Value.ref b] s) (F0 m 546 ls []) := by
  obtain ⟨hx, hb, hr, hml, hown, hts, hX, hbl, hlk, hWd⟩ := X
  obtain ⟨hT, t0, t1, hXF, hMF, hR, hP, hD, hS⟩ := Y
  have hbA : ¬ (fun q => s.heap.size ≤ q) b := fun z => by have : s.heap.size ≤ b := z; omega
  obtain ⟨⟨hn0, hn1, hn2, hn3, hn4, hn14, hn15⟩, ⟨hp0, hp1, hp2⟩, hrows, himg⟩ := hXF
  obtain ⟨hm1, hm2, hm3, hm4, hm5, hm6⟩ := id hMF
  obtain ⟨x1, hx1⟩ : ∃ x : Int, (-2147483648 ≤ x ∧ x ≤ 2147483647) ∧ xs 1 = pv_I x := ⟨_, pv_I_rep _⟩

  refine lv_aload_n hx hb dL_546 rfl (lv_at hl 2 rfl) ?_
  refine lv_aload_n hx hb dL_547 rfl (lv_at hl 3 rfl) ?_
  refine lv_iload_n hx hb dL_548 rfl (lv_at hl 0 rfl) ?_
  refine lv_iconst (v := 1) hx hb dL_549 (by decide) ?_
  refine lv_iadd hx hb dL_550 ?_
  refine pv_sldI (k := 1) (x := x1) hx hb hX hbl hbA hS (by decide) (by decide) hx1.2 dL_551 ?_
  obtain ⟨fs0, hcell0, -⟩ := (hT h0 0 t0).1 _ rfl
  refine pv_lawcall (As := [.int (pv_I x1)]) (rest := []) hx hb hml hown hts hWd lk103 (ct103 (τ := τ) (ρ := ρ) hT t0 hx1.1 (by first | assumption | exact hm1 _)) hcell0 rfl (by rw [m103]; exact Nat.le_of_ble_eq_true rfl) hR hP hD hS (Nat.le_of_ble_eq_true rfl) hl.1 dL_552 hc (fun r h' H locs ws hq hR hP hD hS => ?_)
  obtain ⟨eh, z0, er, lo0, hi0⟩ := hq
  subst eh
  subst er
  refine W.eq (g2 := F0 m 555 ls [.int (pv_I z0)]) rfl ?_
  refine lv_aload_n hx hb dL_555 rfl (lv_at hl 1 rfl) ?_
  refine lv_aload_n hx hb dL_556 rfl (lv_at hl 3 rfl) ?_
  refine lv_iload_n hx hb dL_557 rfl (lv_at hl 0 rfl) ?_
  refine lv_iconst (v := 1) hx hb dL_558 (by decide) ?_
  refine lv_iadd hx hb dL_559 ?_
  refine pv_sldI (k := 1) (x := x1) hx hb hX hbl hbA hS (by decide) (by decide) hx1.2 dL_560 ?_
  obtain ⟨fs1, hcell1, -⟩ := (hT h1 7 t1).1 _ rfl
  refine pv_lawcall (As := [.int (pv_I x1)]) (rest := [.int (pv_I z0)]) hx hb hml hown hts hWd lk253 (ct253 (τ := τ) (ρ := ρ) hT t1 hx1.1 (by first | assumption | exact hm1 _)) hcell1 rfl (by rw [m253]; exact Nat.le_of_ble_eq_true rfl) hR hP hD hS (Nat.le_of_ble_eq_true rfl) hl.1 dL_561 hc (fun r h' H locs ws hq hR hP hD hS => ?_)
  obtain ⟨eh, z1, er, lo1, hi1⟩ := hq
  subst eh
  subst er
  refine W.eq (g2 := F0 m 564 ls [.int (pv_I z1), .int (pv_I z0)]) rfl ?_
  have ez : z0 = z1 := by first | omega
  refine lv_icmp_eq (tgt := 1533) hx hb dL_564 (by decide) (fun c9 => ?_) (fun c9 => absurd (by rw [ez]) c9)
  exact pv_lend ⟨hx, hb, hr, hml, hown, hts, hX, hbl, hlk, hWd⟩ hS hl hc
set_option maxHeartbeats 4000000 in
theorem lc_13 (X : pv_LX p s m meth c b xs K adV dC dI dA) (hKok : pv_Kok K) (Y : pv_LY s dC dI dA τ ρ h h0 h1 ws H locs) (hl : lv_has ls 4 [(3, .int 0), (2, .ref h1), (1, .ref h0), (0, .ref b)]) (hc : cells ≤ 600000 ∧ slots ≤ 7302250) : W p l e room_1 s m #[Value.ref b] below meth c H locs cells slots (lw_Z below #[Value.ref b] s) (F0 m 569 ls []) := by
  obtain ⟨hx, hb, hr, hml, hown, hts, hX, hbl, hlk, hWd⟩ := X
  obtain ⟨hT, t0, t1, hXF, hMF, hR, hP, hD, hS⟩ := Y
  have hbA : ¬ (fun q => s.heap.size ≤ q) b := fun z => by have : s.heap.size ≤ b := z; omega
  obtain ⟨⟨hn0, hn1, hn2, hn3, hn4, hn14, hn15⟩, ⟨hp0, hp1, hp2⟩, hrows, himg⟩ := hXF
  obtain ⟨hm1, hm2, hm3, hm4, hm5, hm6⟩ := id hMF
  obtain ⟨x1, hx1⟩ : ∃ x : Int, (-2147483648 ≤ x ∧ x ≤ 2147483647) ∧ xs 1 = pv_I x := ⟨_, pv_I_rep _⟩
  obtain ⟨x2, hx2⟩ : ∃ x : Int, (-2147483648 ≤ x ∧ x ≤ 2147483647) ∧ xs 2 = pv_I x := ⟨_, pv_I_rep _⟩
  obtain ⟨x3, hx3⟩ : ∃ x : Int, (-2147483648 ≤ x ∧ x ≤ 2147483647) ∧ xs 3 = pv_I x := ⟨_, pv_I_rep _⟩

  refine lv_aload_n hx hb dL_569 rfl (lv_at hl 2 rfl) ?_
  refine lv_aload_n hx hb dL_570 rfl (lv_at hl 3 rfl) ?_
  refine lv_iload_n hx hb dL_571 rfl (lv_at hl 0 rfl) ?_
  refine lv_iconst (v := 1) hx hb dL_572 (by decide) ?_
  refine lv_iadd hx hb dL_573 ?_
  refine pv_sldI (k := 1) (x := x1) hx hb hX hbl hbA hS (by decide) (by decide) hx1.2 dL_574 ?_
  refine lv_aload_n hx hb dL_575 rfl (lv_at hl 3 rfl) ?_
  refine lv_iload_n hx hb dL_576 rfl (lv_at hl 0 rfl) ?_
  refine lv_iconst (v := 2) hx hb dL_577 (by decide) ?_
  refine lv_iadd hx hb dL_578 ?_
  refine pv_sldI (k := 2) (x := x2) hx hb hX hbl hbA hS (by decide) (by decide) hx2.2 dL_579 ?_
  refine lv_aload_n hx hb dL_580 rfl (lv_at hl 3 rfl) ?_
  refine lv_iload_n hx hb dL_581 rfl (lv_at hl 0 rfl) ?_
  refine lv_iconst (v := 3) hx hb dL_582 (by decide) ?_
  refine lv_iadd hx hb dL_583 ?_
  refine pv_sldI (k := 3) (x := x3) hx hb hX hbl hbA hS (by decide) (by decide) hx3.2 dL_584 ?_
  obtain ⟨fs0, hcell0, -⟩ := (hT h0 0 t0).1 _ rfl
  refine pv_lawcall (As := [.int (pv_I x1), .int (pv_I x2), .int (pv_I x3)]) (rest := []) hx hb hml hown hts hWd lk104 (ct104 (τ := τ) (ρ := ρ) hT t0 hx1.1 hx2.1 hx3.1 (by first | assumption | exact hm1 _)) hcell0 rfl (by rw [m104]; exact Nat.le_of_ble_eq_true rfl) hR hP hD hS (Nat.le_of_ble_eq_true rfl) hl.1 dL_585 hc (fun r h' H locs ws hq hR hP hD hS => ?_)
  obtain ⟨eh, z0, er, lo0, hi0⟩ := hq
  subst eh
  subst er
  refine W.eq (g2 := F0 m 588 ls [.int (pv_I z0)]) rfl ?_
  refine lv_aload_n hx hb dL_588 rfl (lv_at hl 1 rfl) ?_
  refine lv_aload_n hx hb dL_589 rfl (lv_at hl 3 rfl) ?_
  refine lv_iload_n hx hb dL_590 rfl (lv_at hl 0 rfl) ?_
  refine lv_iconst (v := 1) hx hb dL_591 (by decide) ?_
  refine lv_iadd hx hb dL_592 ?_
  refine pv_sldI (k := 1) (x := x1) hx hb hX hbl hbA hS (by decide) (by decide) hx1.2 dL_593 ?_
  refine lv_aload_n hx hb dL_594 rfl (lv_at hl 3 rfl) ?_
  refine lv_iload_n hx hb dL_595 rfl (lv_at hl 0 rfl) ?_
  refine lv_iconst (v := 2) hx hb dL_596 (by decide) ?_
  refine lv_iadd hx hb dL_597 ?_
  refine pv_sldI (k := 2) (x := x2) hx hb hX hbl hbA hS (by decide) (by decide) hx2.2 dL_598 ?_
  refine lv_aload_n hx hb dL_599 rfl (lv_at hl 3 rfl) ?_
  refine lv_iload_n hx hb dL_600 rfl (lv_at hl 0 rfl) ?_
  refine lv_iconst (v := 3) hx hb dL_601 (by decide) ?_
  refine lv_iadd hx hb dL_602 ?_
  refine pv_sldI (k := 3) (x := x3) hx hb hX hbl hbA hS (by decide) (by decide) hx3.2 dL_603 ?_
  obtain ⟨fs1, hcell1, -⟩ := (hT h1 7 t1).1 _ rfl
  refine pv_lawcall (As := [.int (pv_I x1), .int (pv_I x2), .int (pv_I x3)]) (rest := [.int (pv_I z0)]) hx hb hml hown hts hWd lk255 (ct255 (τ := τ) (ρ := ρ) hT t1 hx1.1 hx2.1 hx3.1 (by first | assumption | exact hm1 _)) hcell1 rfl (by rw [m255]; exact Nat.le_of_ble_eq_true rfl) hR hP hD hS (Nat.le_of_ble_eq_true rfl) hl.1 dL_604 hc (fun r h' H locs ws hq hR hP hD hS => ?_)
  obtain ⟨eh, z1, er, lo1, hi1⟩ := hq
  subst eh
  subst er
  refine W.eq (g2 := F0 m 607 ls [.int (pv_I z1), .int (pv_I z0)]) rfl ?_
  have ez : z0 = z1 := by first | omega
  refine lv_icmp_eq (tgt := 1533) hx hb dL_607 (by decide) (fun c9 => ?_) (fun c9 => absurd (by rw [ez]) c9)
  exact pv_lend ⟨hx, hb, hr, hml, hown, hts, hX, hbl, hlk, hWd⟩ hS hl hc
set_option maxHeartbeats 4000000 in
theorem lc_14 (X : pv_LX p s m meth c b xs K adV dC dI dA) (hKok : pv_Kok K) (Y : pv_LY s dC dI dA τ ρ h h0 h1 ws H locs) (hl : lv_has ls 4 [(3, .int 0), (2, .ref h1), (1, .ref h0), (0, .ref b)]) (hc : cells ≤ 600000 ∧ slots ≤ 7302250) : W p l e room_1 s m #[Value.ref b] below meth c H locs cells slots (lw_Z below #[Value.ref b] s) (F0 m 612 ls []) := by
  obtain ⟨hx, hb, hr, hml, hown, hts, hX, hbl, hlk, hWd⟩ := X
  obtain ⟨hT, t0, t1, hXF, hMF, hR, hP, hD, hS⟩ := Y
  have hbA : ¬ (fun q => s.heap.size ≤ q) b := fun z => by have : s.heap.size ≤ b := z; omega
  obtain ⟨⟨hn0, hn1, hn2, hn3, hn4, hn14, hn15⟩, ⟨hp0, hp1, hp2⟩, hrows, himg⟩ := hXF
  obtain ⟨hm1, hm2, hm3, hm4, hm5, hm6⟩ := id hMF
  obtain ⟨x1, hx1⟩ : ∃ x : Int, (-2147483648 ≤ x ∧ x ≤ 2147483647) ∧ xs 1 = pv_I x := ⟨_, pv_I_rep _⟩
  obtain ⟨x2, hx2⟩ : ∃ x : Int, (-2147483648 ≤ x ∧ x ≤ 2147483647) ∧ xs 2 = pv_I x := ⟨_, pv_I_rep _⟩

  refine lv_aload_n hx hb dL_612 rfl (lv_at hl 2 rfl) ?_
  refine lv_aload_n hx hb dL_613 rfl (lv_at hl 3 rfl) ?_
  refine lv_iload_n hx hb dL_614 rfl (lv_at hl 0 rfl) ?_
  refine lv_iconst (v := 1) hx hb dL_615 (by decide) ?_
  refine lv_iadd hx hb dL_616 ?_
  refine pv_sldI (k := 1) (x := x1) hx hb hX hbl hbA hS (by decide) (by decide) hx1.2 dL_617 ?_
  refine lv_aload_n hx hb dL_618 rfl (lv_at hl 3 rfl) ?_
  refine lv_iload_n hx hb dL_619 rfl (lv_at hl 0 rfl) ?_
  refine lv_iconst (v := 2) hx hb dL_620 (by decide) ?_
  refine lv_iadd hx hb dL_621 ?_
  refine pv_sldI (k := 2) (x := x2) hx hb hX hbl hbA hS (by decide) (by decide) hx2.2 dL_622 ?_
  obtain ⟨fs0, hcell0, -⟩ := (hT h0 0 t0).1 _ rfl
  refine pv_lawcall (As := [.int (pv_I x1), .int (pv_I x2)]) (rest := []) hx hb hml hown hts hWd lk108 (ct108 (τ := τ) (ρ := ρ) hT t0 hx1.1 hx2.1 (by first | assumption | exact hm1 _)) hcell0 rfl (by rw [m108]; exact Nat.le_of_ble_eq_true rfl) hR hP hD hS (Nat.le_of_ble_eq_true rfl) hl.1 dL_623 hc (fun r h' H locs ws hq hR hP hD hS => ?_)
  obtain ⟨eh, z0, er, lo0, hi0⟩ := hq
  subst eh
  subst er
  refine W.eq (g2 := F0 m 626 ls [.int (pv_I z0)]) rfl ?_
  refine lv_aload_n hx hb dL_626 rfl (lv_at hl 1 rfl) ?_
  refine lv_aload_n hx hb dL_627 rfl (lv_at hl 3 rfl) ?_
  refine lv_iload_n hx hb dL_628 rfl (lv_at hl 0 rfl) ?_
  refine lv_iconst (v := 1) hx hb dL_629 (by decide) ?_
  refine lv_iadd hx hb dL_630 ?_
  refine pv_sldI (k := 1) (x := x1) hx hb hX hbl hbA hS (by decide) (by decide) hx1.2 dL_631 ?_
  refine lv_aload_n hx hb dL_632 rfl (lv_at hl 3 rfl) ?_
  refine lv_iload_n hx hb dL_633 rfl (lv_at hl 0 rfl) ?_
  refine lv_iconst (v := 2) hx hb dL_634 (by decide) ?_
  refine lv_iadd hx hb dL_635 ?_
  refine pv_sldI (k := 2) (x := x2) hx hb hX hbl hbA hS (by decide) (by decide) hx2.2 dL_636 ?_
  obtain ⟨fs1, hcell1, -⟩ := (hT h1 7 t1).1 _ rfl
  refine pv_lawcall (As := [.int (pv_I x1), .int (pv_I x2)]) (rest := [.int (pv_I z0)]) hx hb hml hown hts hWd lk257 (ct257 (τ := τ) (ρ := ρ) hT t1 hx1.1 hx2.1 (by first | assumption | exact hm1 _)) hcell1 rfl (by rw [m257]; exact Nat.le_of_ble_eq_true rfl) hR hP hD hS (Nat.le_of_ble_eq_true rfl) hl.1 dL_637 hc (fun r h' H locs ws hq hR hP hD hS => ?_)
  obtain ⟨eh, z1, er, lo1, hi1⟩ := hq
  subst eh
  subst er
  refine W.eq (g2 := F0 m 640 ls [.int (pv_I z1), .int (pv_I z0)]) rfl ?_
  have ez : z0 = z1 := by first | omega
  refine lv_icmp_eq (tgt := 1533) hx hb dL_640 (by decide) (fun c9 => ?_) (fun c9 => absurd (by rw [ez]) c9)
  exact pv_lend ⟨hx, hb, hr, hml, hown, hts, hX, hbl, hlk, hWd⟩ hS hl hc
end LE
