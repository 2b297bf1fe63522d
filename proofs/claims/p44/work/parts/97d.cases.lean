section LE
variable {p : Program} {l : Launch} {e : Env} {s : State} {m : MethodId} {below : List Frame} {meth : Method} {c : Code} {H : Heap} {locs : List Loc} {cells slots : Nat} {K adV : Nat → Nat} {dC : Nat → ClassId} {dI : Nat → Nat → Nat} {dA : Nat → ClassId} {b h0 h1 L j : Nat} {xs : Nat → Int32} {ls : Array Slot} {τ : Nat → Option Nat} {ρ : Nat → Nat → Nat} {h : pv_H} {ws : va_W}
set_option maxHeartbeats 4000000 in
theorem lc_33 (X : pv_LX p s m meth c b L xs K adV dC dI dA) (hL : L ≤ 3072) (hj : 6 * j + 6 ≤ L) (hKok : pv_Kok K) (Y : pv_LY s dC dI dA τ ρ h h0 h1 ws H locs) (hl : lv_has ls 4 [(3, .int (pv_I ((6 * j : Nat) : Int))), (2, .ref h1), (1, .ref h0), (0, .ref b)]) (hc : cells ≤ 600000 ∧ slots ≤ 7302250) (kk : ∀ (h : pv_H) (ws : va_W) (H : Heap) (locs : List Loc), pv_LY s dC dI dA τ ρ h h0 h1 ws H locs → W p l e room_1 s m #[Value.ref b] below meth c H locs cells slots (lw_Z below #[Value.ref b] s) (F0 m 1529 ls [])) : W p l e room_1 s m #[Value.ref b] below meth c H locs cells slots (lw_Z below #[Value.ref b] s) (F0 m 1189 ls []) := by
  obtain ⟨hx, hb, hr, hml, hown, hts, hX, hbl, hlk, hWd⟩ := X
  obtain ⟨hT, t0, t1, hN, hM, hI, hQ, hR, hP, hD, hS⟩ := Y
  have hbA : ¬ (fun q => s.heap.size ≤ q) b := fun z => by have : s.heap.size ≤ b := z; omega
  have n1 : τ (ρ h0 1) = some 2 := hT.rf (t' := 2) t0 rfl rfl
  have r1 : τ (ρ h1 1) = some 40 := hT.rf (t' := 40) t1 rfl rfl
  have r2 : τ (ρ h1 2) = some 41 := hT.rf (t' := 41) t1 rfl rfl
  have k5 : τ (ρ h0 5) = some 12 := hT.rf (t' := 12) t0 rfl rfl
  have k24 : τ (ρ h1 24) = some 53 := hT.rf (t' := 53) t1 rfl rfl
  have k25 : τ (ρ h1 25) = some 54 := hT.rf (t' := 54) t1 rfl rfl
  have hQ0 := hQ
  have hT0 := hT
  obtain ⟨x1, hx1⟩ : ∃ x : Int, (-2147483648 ≤ x ∧ x ≤ 2147483647) ∧ xs (6 * j + 1) = pv_I x := ⟨_, pv_I_rep _⟩
  obtain ⟨x2, hx2⟩ : ∃ x : Int, (-2147483648 ≤ x ∧ x ≤ 2147483647) ∧ xs (6 * j + 2) = pv_I x := ⟨_, pv_I_rep _⟩

  refine lv_aload_n hx hb dL_1189 rfl (lv_at hl 2 rfl) ?_
  refine lv_aload_n hx hb dL_1190 rfl (lv_at hl 3 rfl) ?_
  refine lv_iload_n hx hb dL_1191 rfl (lv_at hl 0 rfl) ?_
  refine lv_iconst (v := 1) hx hb dL_1192 (by decide) ?_
  refine lv_iadd hx hb dL_1193 ?_
  refine pv_sldJ (kn := 1) (x := x1) hx hb hX hbl hbA hS hL hj (by decide) (by decide) hx1.2 dL_1194 ?_
  refine lv_aload_n hx hb dL_1195 rfl (lv_at hl 3 rfl) ?_
  refine lv_iload_n hx hb dL_1196 rfl (lv_at hl 0 rfl) ?_
  refine lv_iconst (v := 2) hx hb dL_1197 (by decide) ?_
  refine lv_iadd hx hb dL_1198 ?_
  refine pv_sldJ (kn := 2) (x := x2) hx hb hX hbl hbA hS hL hj (by decide) (by decide) hx2.2 dL_1199 ?_
  obtain ⟨fs0, hcell0, -⟩ := (hT h0 0 t0).1 _ rfl
  refine pv_lawcall (As := [.int (pv_I x1), .int (pv_I x2)]) (rest := []) hx hb hml hown hts hWd lk160 (ct160 (τ := τ) (ρ := ρ) hT t0 hx1.1 hx2.1) hcell0 rfl (by rw [m160]; exact Nat.le_of_ble_eq_true rfl) hR hP hD hS (Nat.le_of_ble_eq_true rfl) hl.1 dL_1200 hc (fun r h' H locs ws hq hR hP hD hS => ?_)
  obtain ⟨eh, z0, er, lo0, hi0⟩ := hq
  subst eh
  subst er
  refine W.eq (g2 := F0 m 1203 ls [.int (pv_I z0)]) rfl ?_
  refine lv_pop hx hb dL_1203 rfl ?_
  refine lv_aload_n hx hb dL_1204 rfl (lv_at hl 1 rfl) ?_
  refine lv_aload_n hx hb dL_1205 rfl (lv_at hl 3 rfl) ?_
  refine lv_iload_n hx hb dL_1206 rfl (lv_at hl 0 rfl) ?_
  refine lv_iconst (v := 1) hx hb dL_1207 (by decide) ?_
  refine lv_iadd hx hb dL_1208 ?_
  refine pv_sldJ (kn := 1) (x := x1) hx hb hX hbl hbA hS hL hj (by decide) (by decide) hx1.2 dL_1209 ?_
  refine lv_aload_n hx hb dL_1210 rfl (lv_at hl 3 rfl) ?_
  refine lv_iload_n hx hb dL_1211 rfl (lv_at hl 0 rfl) ?_
  refine lv_iconst (v := 2) hx hb dL_1212 (by decide) ?_
  refine lv_iadd hx hb dL_1213 ?_
  refine pv_sldJ (kn := 2) (x := x2) hx hb hX hbl hbA hS hL hj (by decide) (by decide) hx2.2 dL_1214 ?_
  obtain ⟨fs1, hcell1, -⟩ := (hT h1 7 t1).1 _ rfl
  refine pv_lawcall (As := [.int (pv_I x1), .int (pv_I x2)]) (rest := []) hx hb hml hown hts hWd lk306 (ct306 (τ := τ) (ρ := ρ) hT t1 hx1.1 hx2.1) hcell1 rfl (by rw [m306]; exact Nat.le_of_ble_eq_true rfl) hR hP hD hS (Nat.le_of_ble_eq_true rfl) hl.1 dL_1215 hc (fun r h' H locs ws hq hR hP hD hS => ?_)
  obtain ⟨eh, z1, er, lo1, hi1⟩ := hq
  subst eh
  subst er
  refine W.eq (g2 := F0 m 1218 ls [.int (pv_I z1)]) rfl ?_
  refine lv_pop hx hb dL_1218 rfl ?_
  refine lv_goto (tgt := 1529) hx hb dL_1219 (by decide) ?_
  exact kk _ _ _ _ ⟨hT, t0, t1, hN, hM, hI, hQ, hR, hP, hD, hS⟩
set_option maxHeartbeats 4000000 in
theorem lc_34 (X : pv_LX p s m meth c b L xs K adV dC dI dA) (hL : L ≤ 3072) (hj : 6 * j + 6 ≤ L) (hKok : pv_Kok K) (Y : pv_LY s dC dI dA τ ρ h h0 h1 ws H locs) (hl : lv_has ls 4 [(3, .int (pv_I ((6 * j : Nat) : Int))), (2, .ref h1), (1, .ref h0), (0, .ref b)]) (hc : cells ≤ 600000 ∧ slots ≤ 7302250) (kk : ∀ (h : pv_H) (ws : va_W) (H : Heap) (locs : List Loc), pv_LY s dC dI dA τ ρ h h0 h1 ws H locs → W p l e room_1 s m #[Value.ref b] below meth c H locs cells slots (lw_Z below #[Value.ref b] s) (F0 m 1529 ls [])) : W p l e room_1 s m #[Value.ref b] below meth c H locs cells slots (lw_Z below #[Value.ref b] s) (F0 m 1222 ls []) := by
  obtain ⟨hx, hb, hr, hml, hown, hts, hX, hbl, hlk, hWd⟩ := X
  obtain ⟨hT, t0, t1, hN, hM, hI, hQ, hR, hP, hD, hS⟩ := Y
  have hbA : ¬ (fun q => s.heap.size ≤ q) b := fun z => by have : s.heap.size ≤ b := z; omega
  have n1 : τ (ρ h0 1) = some 2 := hT.rf (t' := 2) t0 rfl rfl
  have r1 : τ (ρ h1 1) = some 40 := hT.rf (t' := 40) t1 rfl rfl
  have r2 : τ (ρ h1 2) = some 41 := hT.rf (t' := 41) t1 rfl rfl
  have k5 : τ (ρ h0 5) = some 12 := hT.rf (t' := 12) t0 rfl rfl
  have k24 : τ (ρ h1 24) = some 53 := hT.rf (t' := 53) t1 rfl rfl
  have k25 : τ (ρ h1 25) = some 54 := hT.rf (t' := 54) t1 rfl rfl
  have hQ0 := hQ
  have hT0 := hT

  refine lv_aload_n hx hb dL_1222 rfl (lv_at hl 2 rfl) ?_
  obtain ⟨fs0, hcell0, -⟩ := (hT h0 0 t0).1 _ rfl
  refine pv_lawcall (As := []) (rest := []) hx hb hml hown hts hWd lk163 (ct163 (τ := τ) (ρ := ρ) hT t0) hcell0 rfl (by rw [m163]; exact Nat.le_of_ble_eq_true rfl) hR hP hD hS (Nat.le_of_ble_eq_true rfl) hl.1 dL_1223 hc (fun r h' H locs ws hq hR hP hD hS => ?_)
  obtain ⟨eh, z0, er, lo0, hi0⟩ := hq
  subst eh
  subst er
  refine W.eq (g2 := F0 m 1226 ls [.int (pv_I z0)]) rfl ?_
  refine lv_pop hx hb dL_1226 rfl ?_
  refine lv_aload_n hx hb dL_1227 rfl (lv_at hl 1 rfl) ?_
  obtain ⟨fs1, hcell1, -⟩ := (hT h1 7 t1).1 _ rfl
  refine pv_lawcall (As := []) (rest := []) hx hb hml hown hts hWd lk308 (ct308 (τ := τ) (ρ := ρ) hT t1) hcell1 rfl (by rw [m308]; exact Nat.le_of_ble_eq_true rfl) hR hP hD hS (Nat.le_of_ble_eq_true rfl) hl.1 dL_1228 hc (fun r h' H locs ws hq hR hP hD hS => ?_)
  obtain ⟨eh, z1, er, lo1, hi1⟩ := hq
  subst eh
  subst er
  refine W.eq (g2 := F0 m 1231 ls [.int (pv_I z1)]) rfl ?_
  refine lv_pop hx hb dL_1231 rfl ?_
  refine lv_goto (tgt := 1529) hx hb dL_1232 (by decide) ?_
  exact kk _ _ _ _ ⟨hT, t0, t1, hN, hM, hI, hQ, hR, hP, hD, hS⟩
set_option maxHeartbeats 4000000 in
theorem lc_35 (X : pv_LX p s m meth c b L xs K adV dC dI dA) (hL : L ≤ 3072) (hj : 6 * j + 6 ≤ L) (hKok : pv_Kok K) (Y : pv_LY s dC dI dA τ ρ h h0 h1 ws H locs) (hl : lv_has ls 4 [(3, .int (pv_I ((6 * j : Nat) : Int))), (2, .ref h1), (1, .ref h0), (0, .ref b)]) (hc : cells ≤ 600000 ∧ slots ≤ 7302250) (kk : ∀ (h : pv_H) (ws : va_W) (H : Heap) (locs : List Loc), pv_LY s dC dI dA τ ρ h h0 h1 ws H locs → W p l e room_1 s m #[Value.ref b] below meth c H locs cells slots (lw_Z below #[Value.ref b] s) (F0 m 1529 ls [])) : W p l e room_1 s m #[Value.ref b] below meth c H locs cells slots (lw_Z below #[Value.ref b] s) (F0 m 1235 ls []) := by
  obtain ⟨hx, hb, hr, hml, hown, hts, hX, hbl, hlk, hWd⟩ := X
  obtain ⟨hT, t0, t1, hN, hM, hI, hQ, hR, hP, hD, hS⟩ := Y
  have hbA : ¬ (fun q => s.heap.size ≤ q) b := fun z => by have : s.heap.size ≤ b := z; omega
  have n1 : τ (ρ h0 1) = some 2 := hT.rf (t' := 2) t0 rfl rfl
  have r1 : τ (ρ h1 1) = some 40 := hT.rf (t' := 40) t1 rfl rfl
  have r2 : τ (ρ h1 2) = some 41 := hT.rf (t' := 41) t1 rfl rfl
  have k5 : τ (ρ h0 5) = some 12 := hT.rf (t' := 12) t0 rfl rfl
  have k24 : τ (ρ h1 24) = some 53 := hT.rf (t' := 53) t1 rfl rfl
  have k25 : τ (ρ h1 25) = some 54 := hT.rf (t' := 54) t1 rfl rfl
  have hQ0 := hQ
  have hT0 := hT
  obtain ⟨x1, hx1⟩ : ∃ x : Int, (-2147483648 ≤ x ∧ x ≤ 2147483647) ∧ xs (6 * j + 1) = pv_I x := ⟨_, pv_I_rep _⟩

  refine lv_aload_n hx hb dL_1235 rfl (lv_at hl 2 rfl) ?_
  refine lv_aload_n hx hb dL_1236 rfl (lv_at hl 3 rfl) ?_
  refine lv_iload_n hx hb dL_1237 rfl (lv_at hl 0 rfl) ?_
  refine lv_iconst (v := 1) hx hb dL_1238 (by decide) ?_
  refine lv_iadd hx hb dL_1239 ?_
  refine pv_sldJ (kn := 1) (x := x1) hx hb hX hbl hbA hS hL hj (by decide) (by decide) hx1.2 dL_1240 ?_
  obtain ⟨fs0, hcell0, -⟩ := (hT h0 0 t0).1 _ rfl
  refine pv_lawcall (As := [.int (pv_I x1)]) (rest := []) hx hb hml hown hts hWd lk164 (ct164 (τ := τ) (ρ := ρ) hT t0 hx1.1 hN) hcell0 rfl (by rw [m164]; exact Nat.le_of_ble_eq_true rfl) hR hP hD hS (Nat.le_of_ble_eq_true rfl) hl.1 dL_1241 hc (fun r h' H locs ws hq hR hP hD hS => ?_)
  obtain ⟨hT', hF', z0, er, lo0, hi0, p0_0⟩ := hq
  subst er
  have hN := p0_0
  have hM : pw_ok (pv_aI h' (ρ h1 1)) := by rw [hF'.aeq r1 (by decide)]; exact hM
  have hI : im_ok (pv_aI h' (ρ h1 2)) := by rw [hF'.aeq r2 (by decide)]; exact hI
  have e24 := hF'.aeq k24 (by decide)
  have e25 := hF'.aeq k25 (by decide)
  have hQ := hQ.fr hT k5 k24 k25 hF' (by decide)
  have hT := hT'
  refine W.eq (g2 := F0 m 1244 ls [.int (pv_I z0)]) rfl ?_
  refine lv_pop hx hb dL_1244 rfl ?_
  refine lv_aload_n hx hb dL_1245 rfl (lv_at hl 1 rfl) ?_
  refine lv_aload_n hx hb dL_1246 rfl (lv_at hl 3 rfl) ?_
  refine lv_iload_n hx hb dL_1247 rfl (lv_at hl 0 rfl) ?_
  refine lv_iconst (v := 1) hx hb dL_1248 (by decide) ?_
  refine lv_iadd hx hb dL_1249 ?_
  refine pv_sldJ (kn := 1) (x := x1) hx hb hX hbl hbA hS hL hj (by decide) (by decide) hx1.2 dL_1250 ?_
  obtain ⟨fs1, hcell1, -⟩ := (hT h1 7 t1).1 _ rfl
  refine pv_lawcall (As := [.int (pv_I x1)]) (rest := []) hx hb hml hown hts hWd lk309 (ct309 (τ := τ) (ρ := ρ) hT t1 hx1.1 hM) hcell1 rfl (by rw [m309]; exact Nat.le_of_ble_eq_true rfl) hR hP hD hS (Nat.le_of_ble_eq_true rfl) hl.1 dL_1251 hc (fun r h' H locs ws hq hR hP hD hS => ?_)
  obtain ⟨hT', hF', z1, er, lo1, hi1, p1_0⟩ := hq
  subst er
  have hN := hN.fr hT hF' (by decide)
  have hM : pw_ok (pv_aI h' (ρ h1 1)) := p1_0
  have hI : im_ok (pv_aI h' (ρ h1 2)) := by rw [hF'.aeq r2 (by decide)]; exact hI
  have hQ := hQ.fr hT k5 k24 k25 hF' (by decide)
  have hT := hT'
  refine W.eq (g2 := F0 m 1254 ls [.int (pv_I z1)]) rfl ?_
  refine lv_pop hx hb dL_1254 rfl ?_
  refine lv_goto (tgt := 1529) hx hb dL_1255 (by decide) ?_
  exact kk _ _ _ _ ⟨hT, t0, t1, hN, hM, hI, hQ, hR, hP, hD, hS⟩
set_option maxHeartbeats 4000000 in
theorem lc_36 (X : pv_LX p s m meth c b L xs K adV dC dI dA) (hL : L ≤ 3072) (hj : 6 * j + 6 ≤ L) (hKok : pv_Kok K) (Y : pv_LY s dC dI dA τ ρ h h0 h1 ws H locs) (hl : lv_has ls 4 [(3, .int (pv_I ((6 * j : Nat) : Int))), (2, .ref h1), (1, .ref h0), (0, .ref b)]) (hc : cells ≤ 600000 ∧ slots ≤ 7302250) (kk : ∀ (h : pv_H) (ws : va_W) (H : Heap) (locs : List Loc), pv_LY s dC dI dA τ ρ h h0 h1 ws H locs → W p l e room_1 s m #[Value.ref b] below meth c H locs cells slots (lw_Z below #[Value.ref b] s) (F0 m 1529 ls [])) : W p l e room_1 s m #[Value.ref b] below meth c H locs cells slots (lw_Z below #[Value.ref b] s) (F0 m 1258 ls []) := by
  obtain ⟨hx, hb, hr, hml, hown, hts, hX, hbl, hlk, hWd⟩ := X
  obtain ⟨hT, t0, t1, hN, hM, hI, hQ, hR, hP, hD, hS⟩ := Y
  have hbA : ¬ (fun q => s.heap.size ≤ q) b := fun z => by have : s.heap.size ≤ b := z; omega
  have n1 : τ (ρ h0 1) = some 2 := hT.rf (t' := 2) t0 rfl rfl
  have r1 : τ (ρ h1 1) = some 40 := hT.rf (t' := 40) t1 rfl rfl
  have r2 : τ (ρ h1 2) = some 41 := hT.rf (t' := 41) t1 rfl rfl
  have k5 : τ (ρ h0 5) = some 12 := hT.rf (t' := 12) t0 rfl rfl
  have k24 : τ (ρ h1 24) = some 53 := hT.rf (t' := 53) t1 rfl rfl
  have k25 : τ (ρ h1 25) = some 54 := hT.rf (t' := 54) t1 rfl rfl
  have hQ0 := hQ
  have hT0 := hT
  obtain ⟨x1, hx1⟩ : ∃ x : Int, (-2147483648 ≤ x ∧ x ≤ 2147483647) ∧ xs (6 * j + 1) = pv_I x := ⟨_, pv_I_rep _⟩

  refine lv_aload_n hx hb dL_1258 rfl (lv_at hl 2 rfl) ?_
  refine lv_aload_n hx hb dL_1259 rfl (lv_at hl 3 rfl) ?_
  refine lv_iload_n hx hb dL_1260 rfl (lv_at hl 0 rfl) ?_
  refine lv_iconst (v := 1) hx hb dL_1261 (by decide) ?_
  refine lv_iadd hx hb dL_1262 ?_
  refine pv_sldJ (kn := 1) (x := x1) hx hb hX hbl hbA hS hL hj (by decide) (by decide) hx1.2 dL_1263 ?_
  obtain ⟨fs0, hcell0, -⟩ := (hT h0 0 t0).1 _ rfl
  refine pv_lawcall (As := [.int (pv_I x1)]) (rest := []) hx hb hml hown hts hWd lk167 (ct167 (τ := τ) (ρ := ρ) hT t0 hx1.1) hcell0 rfl (by rw [m167]; exact Nat.le_of_ble_eq_true rfl) hR hP hD hS (Nat.le_of_ble_eq_true rfl) hl.1 dL_1264 hc (fun r h' H locs ws hq hR hP hD hS => ?_)
  obtain ⟨eh, z0, er, lo0, hi0⟩ := hq
  subst eh
  subst er
  refine W.eq (g2 := F0 m 1267 ls [.int (pv_I z0)]) rfl ?_
  refine lv_pop hx hb dL_1267 rfl ?_
  refine lv_aload_n hx hb dL_1268 rfl (lv_at hl 1 rfl) ?_
  refine lv_aload_n hx hb dL_1269 rfl (lv_at hl 3 rfl) ?_
  refine lv_iload_n hx hb dL_1270 rfl (lv_at hl 0 rfl) ?_
  refine lv_iconst (v := 1) hx hb dL_1271 (by decide) ?_
  refine lv_iadd hx hb dL_1272 ?_
  refine pv_sldJ (kn := 1) (x := x1) hx hb hX hbl hbA hS hL hj (by decide) (by decide) hx1.2 dL_1273 ?_
  obtain ⟨fs1, hcell1, -⟩ := (hT h1 7 t1).1 _ rfl
  refine pv_lawcall (As := [.int (pv_I x1)]) (rest := []) hx hb hml hown hts hWd lk311 (ct311 (τ := τ) (ρ := ρ) hT t1 hx1.1) hcell1 rfl (by rw [m311]; exact Nat.le_of_ble_eq_true rfl) hR hP hD hS (Nat.le_of_ble_eq_true rfl) hl.1 dL_1274 hc (fun r h' H locs ws hq hR hP hD hS => ?_)
  obtain ⟨eh, z1, er, lo1, hi1⟩ := hq
  subst eh
  subst er
  refine W.eq (g2 := F0 m 1277 ls [.int (pv_I z1)]) rfl ?_
  refine lv_pop hx hb dL_1277 rfl ?_
  refine lv_goto (tgt := 1529) hx hb dL_1278 (by decide) ?_
  exact kk _ _ _ _ ⟨hT, t0, t1, hN, hM, hI, hQ, hR, hP, hD, hS⟩
set_option maxHeartbeats 4000000 in
theorem lc_37 (X : pv_LX p s m meth c b L xs K adV dC dI dA) (hL : L ≤ 3072) (hj : 6 * j + 6 ≤ L) (hKok : pv_Kok K) (Y : pv_LY s dC dI dA τ ρ h h0 h1 ws H locs) (hl : lv_has ls 4 [(3, .int (pv_I ((6 * j : Nat) : Int))), (2, .ref h1), (1, .ref h0), (0, .ref b)]) (hc : cells ≤ 600000 ∧ slots ≤ 7302250) (kk : ∀ (h : pv_H) (ws : va_W) (H : Heap) (locs : List Loc), pv_LY s dC dI dA τ ρ h h0 h1 ws H locs → W p l e room_1 s m #[Value.ref b] below meth c H locs cells slots (lw_Z below #[Value.ref b] s) (F0 m 1529 ls [])) : W p l e room_1 s m #[Value.ref b] below meth c H locs cells slots (lw_Z below #[Value.ref b] s) (F0 m 1281 ls []) := by
  obtain ⟨hx, hb, hr, hml, hown, hts, hX, hbl, hlk, hWd⟩ := X
  obtain ⟨hT, t0, t1, hN, hM, hI, hQ, hR, hP, hD, hS⟩ := Y
  have hbA : ¬ (fun q => s.heap.size ≤ q) b := fun z => by have : s.heap.size ≤ b := z; omega
  have n1 : τ (ρ h0 1) = some 2 := hT.rf (t' := 2) t0 rfl rfl
  have r1 : τ (ρ h1 1) = some 40 := hT.rf (t' := 40) t1 rfl rfl
  have r2 : τ (ρ h1 2) = some 41 := hT.rf (t' := 41) t1 rfl rfl
  have k5 : τ (ρ h0 5) = some 12 := hT.rf (t' := 12) t0 rfl rfl
  have k24 : τ (ρ h1 24) = some 53 := hT.rf (t' := 53) t1 rfl rfl
  have k25 : τ (ρ h1 25) = some 54 := hT.rf (t' := 54) t1 rfl rfl
  have hQ0 := hQ
  have hT0 := hT
  obtain ⟨x1, hx1⟩ : ∃ x : Int, (-2147483648 ≤ x ∧ x ≤ 2147483647) ∧ xs (6 * j + 1) = pv_I x := ⟨_, pv_I_rep _⟩

  refine lv_aload_n hx hb dL_1281 rfl (lv_at hl 2 rfl) ?_
  refine lv_aload_n hx hb dL_1282 rfl (lv_at hl 3 rfl) ?_
  refine lv_iload_n hx hb dL_1283 rfl (lv_at hl 0 rfl) ?_
  refine lv_iconst (v := 1) hx hb dL_1284 (by decide) ?_
  refine lv_iadd hx hb dL_1285 ?_
  refine pv_sldJ (kn := 1) (x := x1) hx hb hX hbl hbA hS hL hj (by decide) (by decide) hx1.2 dL_1286 ?_
  obtain ⟨fs0, hcell0, -⟩ := (hT h0 0 t0).1 _ rfl
  refine pv_lawcall (As := [.int (pv_I x1)]) (rest := []) hx hb hml hown hts hWd lk171 (ct171 (τ := τ) (ρ := ρ) hT t0 hx1.1) hcell0 rfl (by rw [m171]; exact Nat.le_of_ble_eq_true rfl) hR hP hD hS (Nat.le_of_ble_eq_true rfl) hl.1 dL_1287 hc (fun r h' H locs ws hq hR hP hD hS => ?_)
  obtain ⟨eh, z0, er, lo0, hi0⟩ := hq
  subst eh
  subst er
  refine W.eq (g2 := F0 m 1290 ls [.int (pv_I z0)]) rfl ?_
  refine lv_pop hx hb dL_1290 rfl ?_
  refine lv_aload_n hx hb dL_1291 rfl (lv_at hl 1 rfl) ?_
  refine lv_aload_n hx hb dL_1292 rfl (lv_at hl 3 rfl) ?_
  refine lv_iload_n hx hb dL_1293 rfl (lv_at hl 0 rfl) ?_
  refine lv_iconst (v := 1) hx hb dL_1294 (by decide) ?_
  refine lv_iadd hx hb dL_1295 ?_
  refine pv_sldJ (kn := 1) (x := x1) hx hb hX hbl hbA hS hL hj (by decide) (by decide) hx1.2 dL_1296 ?_
  obtain ⟨fs1, hcell1, -⟩ := (hT h1 7 t1).1 _ rfl
  refine pv_lawcall (As := [.int (pv_I x1)]) (rest := []) hx hb hml hown hts hWd lk314 (ct314 (τ := τ) (ρ := ρ) hT t1 hx1.1) hcell1 rfl (by rw [m314]; exact Nat.le_of_ble_eq_true rfl) hR hP hD hS (Nat.le_of_ble_eq_true rfl) hl.1 dL_1297 hc (fun r h' H locs ws hq hR hP hD hS => ?_)
  obtain ⟨eh, z1, er, lo1, hi1⟩ := hq
  subst eh
  subst er
  refine W.eq (g2 := F0 m 1300 ls [.int (pv_I z1)]) rfl ?_
  refine lv_pop hx hb dL_1300 rfl ?_
  refine lv_goto (tgt := 1529) hx hb dL_1301 (by decide) ?_
  exact kk _ _ _ _ ⟨hT, t0, t1, hN, hM, hI, hQ, hR, hP, hD, hS⟩
set_option maxHeartbeats 4000000 in
theorem lc_38 (X : pv_LX p s m meth c b L xs K adV dC dI dA) (hL : L ≤ 3072) (hj : 6 * j + 6 ≤ L) (hKok : pv_Kok K) (Y : pv_LY s dC dI dA τ ρ h h0 h1 ws H locs) (hl : lv_has ls 4 [(3, .int (pv_I ((6 * j : Nat) : Int))), (2, .ref h1), (1, .ref h0), (0, .ref b)]) (hc : cells ≤ 600000 ∧ slots ≤ 7302250) (kk : ∀ (h : pv_H) (ws : va_W) (H : Heap) (locs : List Loc), pv_LY s dC dI dA τ ρ h h0 h1 ws H locs → W p l e room_1 s m #[Value.ref b] below meth c H locs cells slots (lw_Z below #[Value.ref b] s) (F0 m 1529 ls [])) : W p l e room_1 s m #[Value.ref b] below meth c H locs cells slots (lw_Z below #[Value.ref b] s) (F0 m 1304 ls []) := by
  obtain ⟨hx, hb, hr, hml, hown, hts, hX, hbl, hlk, hWd⟩ := X
  obtain ⟨hT, t0, t1, hN, hM, hI, hQ, hR, hP, hD, hS⟩ := Y
  have hbA : ¬ (fun q => s.heap.size ≤ q) b := fun z => by have : s.heap.size ≤ b := z; omega
  have n1 : τ (ρ h0 1) = some 2 := hT.rf (t' := 2) t0 rfl rfl
  have r1 : τ (ρ h1 1) = some 40 := hT.rf (t' := 40) t1 rfl rfl
  have r2 : τ (ρ h1 2) = some 41 := hT.rf (t' := 41) t1 rfl rfl
  have k5 : τ (ρ h0 5) = some 12 := hT.rf (t' := 12) t0 rfl rfl
  have k24 : τ (ρ h1 24) = some 53 := hT.rf (t' := 53) t1 rfl rfl
  have k25 : τ (ρ h1 25) = some 54 := hT.rf (t' := 54) t1 rfl rfl
  have hQ0 := hQ
  have hT0 := hT
  obtain ⟨x1, hx1⟩ : ∃ x : Int, (-2147483648 ≤ x ∧ x ≤ 2147483647) ∧ xs (6 * j + 1) = pv_I x := ⟨_, pv_I_rep _⟩

  refine lv_aload_n hx hb dL_1304 rfl (lv_at hl 2 rfl) ?_
  refine lv_aload_n hx hb dL_1305 rfl (lv_at hl 3 rfl) ?_
  refine lv_iload_n hx hb dL_1306 rfl (lv_at hl 0 rfl) ?_
  refine lv_iconst (v := 1) hx hb dL_1307 (by decide) ?_
  refine lv_iadd hx hb dL_1308 ?_
  refine pv_sldJ (kn := 1) (x := x1) hx hb hX hbl hbA hS hL hj (by decide) (by decide) hx1.2 dL_1309 ?_
  obtain ⟨fs0, hcell0, -⟩ := (hT h0 0 t0).1 _ rfl
  refine pv_lawcall (As := [.int (pv_I x1)]) (rest := []) hx hb hml hown hts hWd lk174 (ct174R (τ := τ) (ρ := ρ) hT t0 hx1.1 hN) hcell0 rfl (by rw [m174]; exact Nat.le_of_ble_eq_true rfl) hR hP hD hS (Nat.le_of_ble_eq_true rfl) hl.1 dL_1310 hc (fun r h' H locs ws hq hR hP hD hS => ?_)
  obtain ⟨hT', hF', z0, er, lo0, hi0, p0_0, p0_1, p0_2⟩ := hq
  subst er
  have hN := p0_0
  have hM : pw_ok (pv_aI h' (ρ h1 1)) := by rw [hF'.aeq r1 (by decide)]; exact hM
  have hI : im_ok (pv_aI h' (ρ h1 2)) := by rw [hF'.aeq r2 (by decide)]; exact hI
  have e24 := hF'.aeq k24 (by decide)
  have e25 := hF'.aeq k25 (by decide)
  have hQ := hQ.fr hT k5 k24 k25 hF' (by decide)
  have hT := hT'
  refine W.eq (g2 := F0 m 1313 ls [.int (pv_I z0)]) rfl ?_
  refine lv_pop hx hb dL_1313 rfl ?_
  refine lv_aload_n hx hb dL_1314 rfl (lv_at hl 1 rfl) ?_
  refine lv_aload_n hx hb dL_1315 rfl (lv_at hl 3 rfl) ?_
  refine lv_iload_n hx hb dL_1316 rfl (lv_at hl 0 rfl) ?_
  refine lv_iconst (v := 1) hx hb dL_1317 (by decide) ?_
  refine lv_iadd hx hb dL_1318 ?_
  refine pv_sldJ (kn := 1) (x := x1) hx hb hX hbl hbA hS hL hj (by decide) (by decide) hx1.2 dL_1319 ?_
  obtain ⟨fs1, hcell1, -⟩ := (hT h1 7 t1).1 _ rfl
  refine pv_lawcall (As := [.int (pv_I x1)]) (rest := []) hx hb hml hown hts hWd lk183 (ct183R (τ := τ) (ρ := ρ) hT t1 hx1.1 hM hI) hcell1 rfl (by rw [m183]; exact Nat.le_of_ble_eq_true rfl) hR hP hD hS (Nat.le_of_ble_eq_true rfl) hl.1 dL_1320 hc (fun r h' H locs ws hq hR hP hD hS => ?_)
  obtain ⟨hT', hF', z1, er, lo1, hi1, p1_0, p1_1, p1_2⟩ := hq
  subst er
  have hN := hN.fr hT hF' (by decide)
  have hM : pw_ok (pv_aI h' (ρ h1 1)) := by rw [hF'.aeq r1 (by decide)]; exact hM
  have hI : im_ok (pv_aI h' (ρ h1 2)) := p1_0
  have hQ := hQ.fr hT k5 k24 k25 hF' (by decide)
  have hT := hT'
  refine W.eq (g2 := F0 m 1323 ls [.int (pv_I z1)]) rfl ?_
  refine lv_pop hx hb dL_1323 rfl ?_
  refine lv_goto (tgt := 1529) hx hb dL_1324 (by decide) ?_
  exact kk _ _ _ _ ⟨hT, t0, t1, hN, hM, hI, hQ, hR, hP, hD, hS⟩
set_option maxHeartbeats 4000000 in
theorem lc_39 (X : pv_LX p s m meth c b L xs K adV dC dI dA) (hL : L ≤ 3072) (hj : 6 * j + 6 ≤ L) (hKok : pv_Kok K) (Y : pv_LY s dC dI dA τ ρ h h0 h1 ws H locs) (hl : lv_has ls 4 [(3, .int (pv_I ((6 * j : Nat) : Int))), (2, .ref h1), (1, .ref h0), (0, .ref b)]) (hc : cells ≤ 600000 ∧ slots ≤ 7302250) (kk : ∀ (h : pv_H) (ws : va_W) (H : Heap) (locs : List Loc), pv_LY s dC dI dA τ ρ h h0 h1 ws H locs → W p l e room_1 s m #[Value.ref b] below meth c H locs cells slots (lw_Z below #[Value.ref b] s) (F0 m 1529 ls [])) : W p l e room_1 s m #[Value.ref b] below meth c H locs cells slots (lw_Z below #[Value.ref b] s) (F0 m 1327 ls []) := by
  obtain ⟨hx, hb, hr, hml, hown, hts, hX, hbl, hlk, hWd⟩ := X
  obtain ⟨hT, t0, t1, hN, hM, hI, hQ, hR, hP, hD, hS⟩ := Y
  have hbA : ¬ (fun q => s.heap.size ≤ q) b := fun z => by have : s.heap.size ≤ b := z; omega
  have n1 : τ (ρ h0 1) = some 2 := hT.rf (t' := 2) t0 rfl rfl
  have r1 : τ (ρ h1 1) = some 40 := hT.rf (t' := 40) t1 rfl rfl
  have r2 : τ (ρ h1 2) = some 41 := hT.rf (t' := 41) t1 rfl rfl
  have k5 : τ (ρ h0 5) = some 12 := hT.rf (t' := 12) t0 rfl rfl
  have k24 : τ (ρ h1 24) = some 53 := hT.rf (t' := 53) t1 rfl rfl
  have k25 : τ (ρ h1 25) = some 54 := hT.rf (t' := 54) t1 rfl rfl
  have hQ0 := hQ
  have hT0 := hT
  obtain ⟨x1, hx1⟩ : ∃ x : Int, (-2147483648 ≤ x ∧ x ≤ 2147483647) ∧ xs (6 * j + 1) = pv_I x := ⟨_, pv_I_rep _⟩

  refine lv_aload_n hx hb dL_1327 rfl (lv_at hl 2 rfl) ?_
  refine lv_aload_n hx hb dL_1328 rfl (lv_at hl 3 rfl) ?_
  refine lv_iload_n hx hb dL_1329 rfl (lv_at hl 0 rfl) ?_
  refine lv_iconst (v := 1) hx hb dL_1330 (by decide) ?_
  refine lv_iadd hx hb dL_1331 ?_
  refine pv_sldJ (kn := 1) (x := x1) hx hb hX hbl hbA hS hL hj (by decide) (by decide) hx1.2 dL_1332 ?_
  obtain ⟨fs0, hcell0, -⟩ := (hT h0 0 t0).1 _ rfl
  refine pv_lawcall (As := [.int (pv_I x1)]) (rest := []) hx hb hml hown hts hWd lk175 (ct175R (τ := τ) (ρ := ρ) hT t0 hx1.1 hN) hcell0 rfl (by rw [m175]; exact Nat.le_of_ble_eq_true rfl) hR hP hD hS (Nat.le_of_ble_eq_true rfl) hl.1 dL_1333 hc (fun r h' H locs ws hq hR hP hD hS => ?_)
  obtain ⟨hT', hF', z0, er, lo0, hi0, p0_0, p0_1⟩ := hq
  subst er
  have hN := p0_0
  have hM : pw_ok (pv_aI h' (ρ h1 1)) := by rw [hF'.aeq r1 (by decide)]; exact hM
  have hI : im_ok (pv_aI h' (ρ h1 2)) := by rw [hF'.aeq r2 (by decide)]; exact hI
  have e24 := hF'.aeq k24 (by decide)
  have e25 := hF'.aeq k25 (by decide)
  have hQ := hQ.fr hT k5 k24 k25 hF' (by decide)
  have hT := hT'
  refine W.eq (g2 := F0 m 1336 ls [.int (pv_I z0)]) rfl ?_
  refine lv_pop hx hb dL_1336 rfl ?_
  refine lv_aload_n hx hb dL_1337 rfl (lv_at hl 1 rfl) ?_
  refine lv_aload_n hx hb dL_1338 rfl (lv_at hl 3 rfl) ?_
  refine lv_iload_n hx hb dL_1339 rfl (lv_at hl 0 rfl) ?_
  refine lv_iconst (v := 1) hx hb dL_1340 (by decide) ?_
  refine lv_iadd hx hb dL_1341 ?_
  refine pv_sldJ (kn := 1) (x := x1) hx hb hX hbl hbA hS hL hj (by decide) (by decide) hx1.2 dL_1342 ?_
  obtain ⟨fs1, hcell1, -⟩ := (hT h1 7 t1).1 _ rfl
  refine pv_lawcall (As := [.int (pv_I x1)]) (rest := []) hx hb hml hown hts hWd lk185 (ct185F (τ := τ) (ρ := ρ) hT t1 hx1.1 hM hI) hcell1 rfl (by rw [m185]; exact Nat.le_of_ble_eq_true rfl) hR hP hD hS (Nat.le_of_ble_eq_true rfl) hl.1 dL_1343 hc (fun r h' H locs ws hq hR hP hD hS => ?_)
  obtain ⟨hT', hF', z1, er, lo1, hi1, p1_0, p1_1⟩ := hq
  subst er
  have hN := hN.fr hT hF' (by decide)
  have hM : pw_ok (pv_aI h' (ρ h1 1)) := p1_0
  have hI : im_ok (pv_aI h' (ρ h1 2)) := by rw [hF'.aeq r2 (by decide)]; exact hI
  have hQ := hQ.fr hT k5 k24 k25 hF' (by decide)
  have hT := hT'
  refine W.eq (g2 := F0 m 1346 ls [.int (pv_I z1)]) rfl ?_
  refine lv_pop hx hb dL_1346 rfl ?_
  refine lv_goto (tgt := 1529) hx hb dL_1347 (by decide) ?_
  exact kk _ _ _ _ ⟨hT, t0, t1, hN, hM, hI, hQ, hR, hP, hD, hS⟩
set_option maxHeartbeats 4000000 in
theorem lc_40 (X : pv_LX p s m meth c b L xs K adV dC dI dA) (hL : L ≤ 3072) (hj : 6 * j + 6 ≤ L) (hKok : pv_Kok K) (Y : pv_LY s dC dI dA τ ρ h h0 h1 ws H locs) (hl : lv_has ls 4 [(3, .int (pv_I ((6 * j : Nat) : Int))), (2, .ref h1), (1, .ref h0), (0, .ref b)]) (hc : cells ≤ 600000 ∧ slots ≤ 7302250) (kk : ∀ (h : pv_H) (ws : va_W) (H : Heap) (locs : List Loc), pv_LY s dC dI dA τ ρ h h0 h1 ws H locs → W p l e room_1 s m #[Value.ref b] below meth c H locs cells slots (lw_Z below #[Value.ref b] s) (F0 m 1529 ls [])) : W p l e room_1 s m #[Value.ref b] below meth c H locs cells slots (lw_Z below #[Value.ref b] s) (F0 m 1350 ls []) := by
  obtain ⟨hx, hb, hr, hml, hown, hts, hX, hbl, hlk, hWd⟩ := X
  obtain ⟨hT, t0, t1, hN, hM, hI, hQ, hR, hP, hD, hS⟩ := Y
  have hbA : ¬ (fun q => s.heap.size ≤ q) b := fun z => by have : s.heap.size ≤ b := z; omega
  have n1 : τ (ρ h0 1) = some 2 := hT.rf (t' := 2) t0 rfl rfl
  have r1 : τ (ρ h1 1) = some 40 := hT.rf (t' := 40) t1 rfl rfl
  have r2 : τ (ρ h1 2) = some 41 := hT.rf (t' := 41) t1 rfl rfl
  have k5 : τ (ρ h0 5) = some 12 := hT.rf (t' := 12) t0 rfl rfl
  have k24 : τ (ρ h1 24) = some 53 := hT.rf (t' := 53) t1 rfl rfl
  have k25 : τ (ρ h1 25) = some 54 := hT.rf (t' := 54) t1 rfl rfl
  have hQ0 := hQ
  have hT0 := hT
  obtain ⟨x1, hx1⟩ : ∃ x : Int, (-2147483648 ≤ x ∧ x ≤ 2147483647) ∧ xs (6 * j + 1) = pv_I x := ⟨_, pv_I_rep _⟩
  obtain ⟨x2, hx2⟩ : ∃ x : Int, (-2147483648 ≤ x ∧ x ≤ 2147483647) ∧ xs (6 * j + 2) = pv_I x := ⟨_, pv_I_rep _⟩
  obtain ⟨x3, hx3⟩ : ∃ x : Int, (-2147483648 ≤ x ∧ x ≤ 2147483647) ∧ xs (6 * j + 3) = pv_I x := ⟨_, pv_I_rep _⟩

  refine lv_aload_n hx hb dL_1350 rfl (lv_at hl 2 rfl) ?_
  refine lv_aload_n hx hb dL_1351 rfl (lv_at hl 3 rfl) ?_
  refine lv_iload_n hx hb dL_1352 rfl (lv_at hl 0 rfl) ?_
  refine lv_iconst (v := 1) hx hb dL_1353 (by decide) ?_
  refine lv_iadd hx hb dL_1354 ?_
  refine pv_sldJ (kn := 1) (x := x1) hx hb hX hbl hbA hS hL hj (by decide) (by decide) hx1.2 dL_1355 ?_
  refine lv_aload_n hx hb dL_1356 rfl (lv_at hl 3 rfl) ?_
  refine lv_iload_n hx hb dL_1357 rfl (lv_at hl 0 rfl) ?_
  refine lv_iconst (v := 2) hx hb dL_1358 (by decide) ?_
  refine lv_iadd hx hb dL_1359 ?_
  refine pv_sldJ (kn := 2) (x := x2) hx hb hX hbl hbA hS hL hj (by decide) (by decide) hx2.2 dL_1360 ?_
  refine lv_aload_n hx hb dL_1361 rfl (lv_at hl 3 rfl) ?_
  refine lv_iload_n hx hb dL_1362 rfl (lv_at hl 0 rfl) ?_
  refine lv_iconst (v := 3) hx hb dL_1363 (by decide) ?_
  refine lv_iadd hx hb dL_1364 ?_
  refine pv_sldJ (kn := 3) (x := x3) hx hb hX hbl hbA hS hL hj (by decide) (by decide) hx3.2 dL_1365 ?_
  obtain ⟨fs0, hcell0, -⟩ := (hT h0 0 t0).1 _ rfl
  refine pv_lawcall (As := [.int (pv_I x1), .int (pv_I x2), .int (pv_I x3)]) (rest := []) hx hb hml hown hts hWd lk176 (ct176R (τ := τ) (ρ := ρ) hT t0 hx1.1 hx2.1 hx3.1) hcell0 rfl (by rw [m176]; exact Nat.le_of_ble_eq_true rfl) hR hP hD hS (Nat.le_of_ble_eq_true rfl) hl.1 dL_1366 hc (fun r h' H locs ws hq hR hP hD hS => ?_)
  obtain ⟨hT', hF', z0, er, lo0, hi0, p0_0, p0_1⟩ := hq
  subst er
  have hN := hN.fr hT hF' (by decide)
  have hM : pw_ok (pv_aI h' (ρ h1 1)) := by rw [hF'.aeq r1 (by decide)]; exact hM
  have hI : im_ok (pv_aI h' (ρ h1 2)) := by rw [hF'.aeq r2 (by decide)]; exact hI
  have e24 := hF'.aeq k24 (by decide)
  have e25 := hF'.aeq k25 (by decide)
  have hT := hT'
  refine W.eq (g2 := F0 m 1369 ls [.int (pv_I z0)]) rfl ?_
  refine lv_pop hx hb dL_1369 rfl ?_
  refine lv_aload_n hx hb dL_1370 rfl (lv_at hl 1 rfl) ?_
  refine lv_aload_n hx hb dL_1371 rfl (lv_at hl 3 rfl) ?_
  refine lv_iload_n hx hb dL_1372 rfl (lv_at hl 0 rfl) ?_
  refine lv_iconst (v := 1) hx hb dL_1373 (by decide) ?_
  refine lv_iadd hx hb dL_1374 ?_
  refine pv_sldJ (kn := 1) (x := x1) hx hb hX hbl hbA hS hL hj (by decide) (by decide) hx1.2 dL_1375 ?_
  refine lv_aload_n hx hb dL_1376 rfl (lv_at hl 3 rfl) ?_
  refine lv_iload_n hx hb dL_1377 rfl (lv_at hl 0 rfl) ?_
  refine lv_iconst (v := 2) hx hb dL_1378 (by decide) ?_
  refine lv_iadd hx hb dL_1379 ?_
  refine pv_sldJ (kn := 2) (x := x2) hx hb hX hbl hbA hS hL hj (by decide) (by decide) hx2.2 dL_1380 ?_
  refine lv_aload_n hx hb dL_1381 rfl (lv_at hl 3 rfl) ?_
  refine lv_iload_n hx hb dL_1382 rfl (lv_at hl 0 rfl) ?_
  refine lv_iconst (v := 3) hx hb dL_1383 (by decide) ?_
  refine lv_iadd hx hb dL_1384 ?_
  refine pv_sldJ (kn := 3) (x := x3) hx hb hX hbl hbA hS hL hj (by decide) (by decide) hx3.2 dL_1385 ?_
  obtain ⟨fs1, hcell1, -⟩ := (hT h1 7 t1).1 _ rfl
  refine pv_lawcall (As := [.int (pv_I x1), .int (pv_I x2), .int (pv_I x3)]) (rest := []) hx hb hml hown hts hWd lk316 (ct316R (τ := τ) (ρ := ρ) hT t1 hx1.1 hx2.1 hx3.1) hcell1 rfl (by rw [m316]; exact Nat.le_of_ble_eq_true rfl) hR hP hD hS (Nat.le_of_ble_eq_true rfl) hl.1 dL_1386 hc (fun r h' H locs ws hq hR hP hD hS => ?_)
  obtain ⟨hT', hF', z1, er, lo1, hi1, p1_0, p1_1, p1_2⟩ := hq
  subst er
  have hN := hN.fr hT hF' (by decide)
  have hM : pw_ok (pv_aI h' (ρ h1 1)) := by rw [hF'.aeq r1 (by decide)]; exact hM
  have hI : im_ok (pv_aI h' (ρ h1 2)) := by rw [hF'.aeq r2 (by decide)]; exact hI
  have hQ := rl_row hQ0 hT0 k5 p0_1 e24 e25 p1_1 p1_2 hF' (by decide)
  have hT := hT'
  refine W.eq (g2 := F0 m 1389 ls [.int (pv_I z1)]) rfl ?_
  refine lv_pop hx hb dL_1389 rfl ?_
  refine lv_goto (tgt := 1529) hx hb dL_1390 (by decide) ?_
  exact kk _ _ _ _ ⟨hT, t0, t1, hN, hM, hI, hQ, hR, hP, hD, hS⟩
set_option maxHeartbeats 4000000 in
theorem lc_41 (X : pv_LX p s m meth c b L xs K adV dC dI dA) (hL : L ≤ 3072) (hj : 6 * j + 6 ≤ L) (hKok : pv_Kok K) (Y : pv_LY s dC dI dA τ ρ h h0 h1 ws H locs) (hl : lv_has ls 4 [(3, .int (pv_I ((6 * j : Nat) : Int))), (2, .ref h1), (1, .ref h0), (0, .ref b)]) (hc : cells ≤ 600000 ∧ slots ≤ 7302250) (kk : ∀ (h : pv_H) (ws : va_W) (H : Heap) (locs : List Loc), pv_LY s dC dI dA τ ρ h h0 h1 ws H locs → W p l e room_1 s m #[Value.ref b] below meth c H locs cells slots (lw_Z below #[Value.ref b] s) (F0 m 1529 ls [])) : W p l e room_1 s m #[Value.ref b] below meth c H locs cells slots (lw_Z below #[Value.ref b] s) (F0 m 1393 ls []) := by
  obtain ⟨hx, hb, hr, hml, hown, hts, hX, hbl, hlk, hWd⟩ := X
  obtain ⟨hT, t0, t1, hN, hM, hI, hQ, hR, hP, hD, hS⟩ := Y
  have hbA : ¬ (fun q => s.heap.size ≤ q) b := fun z => by have : s.heap.size ≤ b := z; omega
  have n1 : τ (ρ h0 1) = some 2 := hT.rf (t' := 2) t0 rfl rfl
  have r1 : τ (ρ h1 1) = some 40 := hT.rf (t' := 40) t1 rfl rfl
  have r2 : τ (ρ h1 2) = some 41 := hT.rf (t' := 41) t1 rfl rfl
  have k5 : τ (ρ h0 5) = some 12 := hT.rf (t' := 12) t0 rfl rfl
  have k24 : τ (ρ h1 24) = some 53 := hT.rf (t' := 53) t1 rfl rfl
  have k25 : τ (ρ h1 25) = some 54 := hT.rf (t' := 54) t1 rfl rfl
  have hQ0 := hQ
  have hT0 := hT
  obtain ⟨x1, hx1⟩ : ∃ x : Int, (-2147483648 ≤ x ∧ x ≤ 2147483647) ∧ xs (6 * j + 1) = pv_I x := ⟨_, pv_I_rep _⟩
  obtain ⟨x2, hx2⟩ : ∃ x : Int, (-2147483648 ≤ x ∧ x ≤ 2147483647) ∧ xs (6 * j + 2) = pv_I x := ⟨_, pv_I_rep _⟩
  obtain ⟨x3, hx3⟩ : ∃ x : Int, (-2147483648 ≤ x ∧ x ≤ 2147483647) ∧ xs (6 * j + 3) = pv_I x := ⟨_, pv_I_rep _⟩
  obtain ⟨x4, hx4⟩ : ∃ x : Int, (-2147483648 ≤ x ∧ x ≤ 2147483647) ∧ xs (6 * j + 4) = pv_I x := ⟨_, pv_I_rep _⟩

  refine lv_aload_n hx hb dL_1393 rfl (lv_at hl 2 rfl) ?_
  refine lv_aload_n hx hb dL_1394 rfl (lv_at hl 3 rfl) ?_
  refine lv_iload_n hx hb dL_1395 rfl (lv_at hl 0 rfl) ?_
  refine lv_iconst (v := 1) hx hb dL_1396 (by decide) ?_
  refine lv_iadd hx hb dL_1397 ?_
  refine pv_sldJ (kn := 1) (x := x1) hx hb hX hbl hbA hS hL hj (by decide) (by decide) hx1.2 dL_1398 ?_
  refine lv_aload_n hx hb dL_1399 rfl (lv_at hl 3 rfl) ?_
  refine lv_iload_n hx hb dL_1400 rfl (lv_at hl 0 rfl) ?_
  refine lv_iconst (v := 2) hx hb dL_1401 (by decide) ?_
  refine lv_iadd hx hb dL_1402 ?_
  refine pv_sldJ (kn := 2) (x := x2) hx hb hX hbl hbA hS hL hj (by decide) (by decide) hx2.2 dL_1403 ?_
  refine lv_aload_n hx hb dL_1404 rfl (lv_at hl 3 rfl) ?_
  refine lv_iload_n hx hb dL_1405 rfl (lv_at hl 0 rfl) ?_
  refine lv_iconst (v := 3) hx hb dL_1406 (by decide) ?_
  refine lv_iadd hx hb dL_1407 ?_
  refine pv_sldJ (kn := 3) (x := x3) hx hb hX hbl hbA hS hL hj (by decide) (by decide) hx3.2 dL_1408 ?_
  refine lv_i2l (v := (pv_I x3).toInt64) hx hb dL_1409 rfl ?_
  refine lv_bipush (v := 32) hx hb dL_1410 (by decide) ?_
  refine lv_lshl hx hb dL_1412 rfl ?_
  refine lv_aload_n hx hb dL_1413 rfl (lv_at hl 3 rfl) ?_
  refine lv_iload_n hx hb dL_1414 rfl (lv_at hl 0 rfl) ?_
  refine lv_iconst (v := 4) hx hb dL_1415 (by decide) ?_
  refine lv_iadd hx hb dL_1416 ?_
  refine pv_sldJ (kn := 4) (x := x4) hx hb hX hbl hbA hS hL hj (by decide) (by decide) hx4.2 dL_1417 ?_
  refine lv_i2l (v := (pv_I x4).toInt64) hx hb dL_1418 rfl ?_
  refine lv_ldc2 (v := 4294967295) hx hb hown (hts (.constantLong R_law 186 4294967295) (by decide +kernel)) dL_1419 ?_
  refine lv_land hx hb dL_1422 ?_
  refine lv_lor hx hb dL_1423 ?_
  refine pv_topJ (fun w0 hw0 => ?_)
  obtain ⟨fs0, hcell0, -⟩ := (hT h0 0 t0).1 _ rfl
  refine pv_lawcall (As := [.int (pv_I x1), .int (pv_I x2), .long (pv_J w0)]) (rest := []) hx hb hml hown hts hWd lk178 (ct178R (τ := τ) (ρ := ρ) hT t0 hx1.1 hx2.1 hw0) hcell0 rfl (by rw [m178]; exact Nat.le_of_ble_eq_true rfl) hR hP hD hS (Nat.le_of_ble_eq_true rfl) hl.1 dL_1424 hc (fun r h' H locs ws hq hR hP hD hS => ?_)
  obtain ⟨hT', hF', z0, er, lo0, hi0, p0_0⟩ := hq
  subst er
  have hN := hN.fr hT hF' (by decide)
  have hM : pw_ok (pv_aI h' (ρ h1 1)) := by rw [hF'.aeq r1 (by decide)]; exact hM
  have hI : im_ok (pv_aI h' (ρ h1 2)) := by rw [hF'.aeq r2 (by decide)]; exact hI
  have e24 := hF'.aeq k24 (by decide)
  have e25 := hF'.aeq k25 (by decide)
  have hQ := hQ.fr hT k5 k24 k25 hF' (by decide)
  have hT := hT'
  refine W.eq (g2 := F0 m 1427 ls [.int (pv_I z0)]) rfl ?_
  refine lv_pop hx hb dL_1427 rfl ?_
  refine lv_aload_n hx hb dL_1428 rfl (lv_at hl 1 rfl) ?_
  refine lv_aload_n hx hb dL_1429 rfl (lv_at hl 3 rfl) ?_
  refine lv_iload_n hx hb dL_1430 rfl (lv_at hl 0 rfl) ?_
  refine lv_iconst (v := 1) hx hb dL_1431 (by decide) ?_
  refine lv_iadd hx hb dL_1432 ?_
  refine pv_sldJ (kn := 1) (x := x1) hx hb hX hbl hbA hS hL hj (by decide) (by decide) hx1.2 dL_1433 ?_
  refine lv_aload_n hx hb dL_1434 rfl (lv_at hl 3 rfl) ?_
  refine lv_iload_n hx hb dL_1435 rfl (lv_at hl 0 rfl) ?_
  refine lv_iconst (v := 2) hx hb dL_1436 (by decide) ?_
  refine lv_iadd hx hb dL_1437 ?_
  refine pv_sldJ (kn := 2) (x := x2) hx hb hX hbl hbA hS hL hj (by decide) (by decide) hx2.2 dL_1438 ?_
  refine lv_aload_n hx hb dL_1439 rfl (lv_at hl 3 rfl) ?_
  refine lv_iload_n hx hb dL_1440 rfl (lv_at hl 0 rfl) ?_
  refine lv_iconst (v := 3) hx hb dL_1441 (by decide) ?_
  refine lv_iadd hx hb dL_1442 ?_
  refine pv_sldJ (kn := 3) (x := x3) hx hb hX hbl hbA hS hL hj (by decide) (by decide) hx3.2 dL_1443 ?_
  refine lv_i2l (v := (pv_I x3).toInt64) hx hb dL_1444 rfl ?_
  refine lv_bipush (v := 32) hx hb dL_1445 (by decide) ?_
  refine lv_lshl hx hb dL_1447 rfl ?_
  refine lv_aload_n hx hb dL_1448 rfl (lv_at hl 3 rfl) ?_
  refine lv_iload_n hx hb dL_1449 rfl (lv_at hl 0 rfl) ?_
  refine lv_iconst (v := 4) hx hb dL_1450 (by decide) ?_
  refine lv_iadd hx hb dL_1451 ?_
  refine pv_sldJ (kn := 4) (x := x4) hx hb hX hbl hbA hS hL hj (by decide) (by decide) hx4.2 dL_1452 ?_
  refine lv_i2l (v := (pv_I x4).toInt64) hx hb dL_1453 rfl ?_
  refine lv_ldc2 (v := 4294967295) hx hb hown (hts (.constantLong R_law 186 4294967295) (by decide +kernel)) dL_1454 ?_
  refine lv_land hx hb dL_1457 ?_
  refine lv_lor hx hb dL_1458 ?_
  refine pv_topJ (fun w1 hw1 => ?_)
  obtain ⟨fs1, hcell1, -⟩ := (hT h1 7 t1).1 _ rfl
  refine pv_lawcall (As := [.int (pv_I x1), .int (pv_I x2), .long (pv_J w1)]) (rest := []) hx hb hml hown hts hWd lk317 (ct317R (τ := τ) (ρ := ρ) hT t1 hx1.1 hx2.1 hw1) hcell1 rfl (by rw [m317]; exact Nat.le_of_ble_eq_true rfl) hR hP hD hS (Nat.le_of_ble_eq_true rfl) hl.1 dL_1459 hc (fun r h' H locs ws hq hR hP hD hS => ?_)
  obtain ⟨hT', hF', z1, er, lo1, hi1, p1_0⟩ := hq
  subst er
  have hN := hN.fr hT hF' (by decide)
  have hM : pw_ok (pv_aI h' (ρ h1 1)) := by rw [hF'.aeq r1 (by decide)]; exact hM
  have hI : im_ok (pv_aI h' (ρ h1 2)) := by rw [hF'.aeq r2 (by decide)]; exact hI
  have hQ := hQ.fr hT k5 k24 k25 hF' (by decide)
  have hT := hT'
  refine W.eq (g2 := F0 m 1462 ls [.int (pv_I z1)]) rfl ?_
  refine lv_pop hx hb dL_1462 rfl ?_
  refine lv_goto (tgt := 1529) hx hb dL_1463 (by decide) ?_
  exact kk _ _ _ _ ⟨hT, t0, t1, hN, hM, hI, hQ, hR, hP, hD, hS⟩
set_option maxHeartbeats 4000000 in
theorem lc_42 (X : pv_LX p s m meth c b L xs K adV dC dI dA) (hL : L ≤ 3072) (hj : 6 * j + 6 ≤ L) (hKok : pv_Kok K) (Y : pv_LY s dC dI dA τ ρ h h0 h1 ws H locs) (hl : lv_has ls 4 [(3, .int (pv_I ((6 * j : Nat) : Int))), (2, .ref h1), (1, .ref h0), (0, .ref b)]) (hc : cells ≤ 600000 ∧ slots ≤ 7302250) (kk : ∀ (h : pv_H) (ws : va_W) (H : Heap) (locs : List Loc), pv_LY s dC dI dA τ ρ h h0 h1 ws H locs → W p l e room_1 s m #[Value.ref b] below meth c H locs cells slots (lw_Z below #[Value.ref b] s) (F0 m 1529 ls [])) : W p l e room_1 s m #[Value.ref b] below meth c H locs cells slots (lw_Z below #[Value.ref b] s) (F0 m 1466 ls []) := by
  obtain ⟨hx, hb, hr, hml, hown, hts, hX, hbl, hlk, hWd⟩ := X
  obtain ⟨hT, t0, t1, hN, hM, hI, hQ, hR, hP, hD, hS⟩ := Y
  have hbA : ¬ (fun q => s.heap.size ≤ q) b := fun z => by have : s.heap.size ≤ b := z; omega
  have n1 : τ (ρ h0 1) = some 2 := hT.rf (t' := 2) t0 rfl rfl
  have r1 : τ (ρ h1 1) = some 40 := hT.rf (t' := 40) t1 rfl rfl
  have r2 : τ (ρ h1 2) = some 41 := hT.rf (t' := 41) t1 rfl rfl
  have k5 : τ (ρ h0 5) = some 12 := hT.rf (t' := 12) t0 rfl rfl
  have k24 : τ (ρ h1 24) = some 53 := hT.rf (t' := 53) t1 rfl rfl
  have k25 : τ (ρ h1 25) = some 54 := hT.rf (t' := 54) t1 rfl rfl
  have hQ0 := hQ
  have hT0 := hT
  obtain ⟨x1, hx1⟩ : ∃ x : Int, (-2147483648 ≤ x ∧ x ≤ 2147483647) ∧ xs (6 * j + 1) = pv_I x := ⟨_, pv_I_rep _⟩
  obtain ⟨x2, hx2⟩ : ∃ x : Int, (-2147483648 ≤ x ∧ x ≤ 2147483647) ∧ xs (6 * j + 2) = pv_I x := ⟨_, pv_I_rep _⟩
  obtain ⟨x3, hx3⟩ : ∃ x : Int, (-2147483648 ≤ x ∧ x ≤ 2147483647) ∧ xs (6 * j + 3) = pv_I x := ⟨_, pv_I_rep _⟩
  obtain ⟨x4, hx4⟩ : ∃ x : Int, (-2147483648 ≤ x ∧ x ≤ 2147483647) ∧ xs (6 * j + 4) = pv_I x := ⟨_, pv_I_rep _⟩
  obtain ⟨x5, hx5⟩ : ∃ x : Int, (-2147483648 ≤ x ∧ x ≤ 2147483647) ∧ xs (6 * j + 5) = pv_I x := ⟨_, pv_I_rep _⟩

  refine lv_aload_n hx hb dL_1466 rfl (lv_at hl 2 rfl) ?_
  refine lv_aload_n hx hb dL_1467 rfl (lv_at hl 3 rfl) ?_
  refine lv_iload_n hx hb dL_1468 rfl (lv_at hl 0 rfl) ?_
  refine lv_iconst (v := 1) hx hb dL_1469 (by decide) ?_
  refine lv_iadd hx hb dL_1470 ?_
  refine pv_sldJ (kn := 1) (x := x1) hx hb hX hbl hbA hS hL hj (by decide) (by decide) hx1.2 dL_1471 ?_
  refine lv_aload_n hx hb dL_1472 rfl (lv_at hl 3 rfl) ?_
  refine lv_iload_n hx hb dL_1473 rfl (lv_at hl 0 rfl) ?_
  refine lv_iconst (v := 2) hx hb dL_1474 (by decide) ?_
  refine lv_iadd hx hb dL_1475 ?_
  refine pv_sldJ (kn := 2) (x := x2) hx hb hX hbl hbA hS hL hj (by decide) (by decide) hx2.2 dL_1476 ?_
  refine lv_aload_n hx hb dL_1477 rfl (lv_at hl 3 rfl) ?_
  refine lv_iload_n hx hb dL_1478 rfl (lv_at hl 0 rfl) ?_
  refine lv_iconst (v := 3) hx hb dL_1479 (by decide) ?_
  refine lv_iadd hx hb dL_1480 ?_
  refine pv_sldJ (kn := 3) (x := x3) hx hb hX hbl hbA hS hL hj (by decide) (by decide) hx3.2 dL_1481 ?_
  refine lv_aload_n hx hb dL_1482 rfl (lv_at hl 3 rfl) ?_
  refine lv_iload_n hx hb dL_1483 rfl (lv_at hl 0 rfl) ?_
  refine lv_iconst (v := 4) hx hb dL_1484 (by decide) ?_
  refine lv_iadd hx hb dL_1485 ?_
  refine pv_sldJ (kn := 4) (x := x4) hx hb hX hbl hbA hS hL hj (by decide) (by decide) hx4.2 dL_1486 ?_
  refine lv_aload_n hx hb dL_1487 rfl (lv_at hl 3 rfl) ?_
  refine lv_iload_n hx hb dL_1488 rfl (lv_at hl 0 rfl) ?_
  refine lv_iconst (v := 5) hx hb dL_1489 (by decide) ?_
  refine lv_iadd hx hb dL_1490 ?_
  refine pv_sldJ (kn := 5) (x := x5) hx hb hX hbl hbA hS hL hj (by decide) (by decide) hx5.2 dL_1491 ?_
  obtain ⟨fs0, hcell0, -⟩ := (hT h0 0 t0).1 _ rfl
  refine pv_lawcall (As := [.int (pv_I x1), .int (pv_I x2), .int (pv_I x3), .int (pv_I x4), .int (pv_I x5)]) (rest := []) hx hb hml hown hts hWd lk180 (ct180R (τ := τ) (ρ := ρ) hT t0 hx1.1 hx2.1 hx3.1 hx4.1 hx5.1) hcell0 rfl (by rw [m180]; exact Nat.le_of_ble_eq_true rfl) hR hP hD hS (Nat.le_of_ble_eq_true rfl) hl.1 dL_1492 hc (fun r h' H locs ws hq hR hP hD hS => ?_)
  obtain ⟨hT', hF', z0, er, lo0, hi0, p0_0⟩ := hq
  subst er
  have hN := hN.fr hT hF' (by decide)
  have hM : pw_ok (pv_aI h' (ρ h1 1)) := by rw [hF'.aeq r1 (by decide)]; exact hM
  have hI : im_ok (pv_aI h' (ρ h1 2)) := by rw [hF'.aeq r2 (by decide)]; exact hI
  have e24 := hF'.aeq k24 (by decide)
  have e25 := hF'.aeq k25 (by decide)
  have hQ := hQ.fr hT k5 k24 k25 hF' (by decide)
  have hT := hT'
  refine W.eq (g2 := F0 m 1495 ls [.int (pv_I z0)]) rfl ?_
  refine lv_aload_n hx hb dL_1495 rfl (lv_at hl 1 rfl) ?_
  refine lv_aload_n hx hb dL_1496 rfl (lv_at hl 3 rfl) ?_
  refine lv_iload_n hx hb dL_1497 rfl (lv_at hl 0 rfl) ?_
  refine lv_iconst (v := 1) hx hb dL_1498 (by decide) ?_
  refine lv_iadd hx hb dL_1499 ?_
  refine pv_sldJ (kn := 1) (x := x1) hx hb hX hbl hbA hS hL hj (by decide) (by decide) hx1.2 dL_1500 ?_
  refine lv_aload_n hx hb dL_1501 rfl (lv_at hl 3 rfl) ?_
  refine lv_iload_n hx hb dL_1502 rfl (lv_at hl 0 rfl) ?_
  refine lv_iconst (v := 2) hx hb dL_1503 (by decide) ?_
  refine lv_iadd hx hb dL_1504 ?_
  refine pv_sldJ (kn := 2) (x := x2) hx hb hX hbl hbA hS hL hj (by decide) (by decide) hx2.2 dL_1505 ?_
  refine lv_aload_n hx hb dL_1506 rfl (lv_at hl 3 rfl) ?_
  refine lv_iload_n hx hb dL_1507 rfl (lv_at hl 0 rfl) ?_
  refine lv_iconst (v := 3) hx hb dL_1508 (by decide) ?_
  refine lv_iadd hx hb dL_1509 ?_
  refine pv_sldJ (kn := 3) (x := x3) hx hb hX hbl hbA hS hL hj (by decide) (by decide) hx3.2 dL_1510 ?_
  refine lv_aload_n hx hb dL_1511 rfl (lv_at hl 3 rfl) ?_
  refine lv_iload_n hx hb dL_1512 rfl (lv_at hl 0 rfl) ?_
  refine lv_iconst (v := 4) hx hb dL_1513 (by decide) ?_
  refine lv_iadd hx hb dL_1514 ?_
  refine pv_sldJ (kn := 4) (x := x4) hx hb hX hbl hbA hS hL hj (by decide) (by decide) hx4.2 dL_1515 ?_
  refine lv_aload_n hx hb dL_1516 rfl (lv_at hl 3 rfl) ?_
  refine lv_iload_n hx hb dL_1517 rfl (lv_at hl 0 rfl) ?_
  refine lv_iconst (v := 5) hx hb dL_1518 (by decide) ?_
  refine lv_iadd hx hb dL_1519 ?_
  refine pv_sldJ (kn := 5) (x := x5) hx hb hX hbl hbA hS hL hj (by decide) (by decide) hx5.2 dL_1520 ?_
  obtain ⟨fs1, hcell1, -⟩ := (hT h1 7 t1).1 _ rfl
  refine pv_lawcall (As := [.int (pv_I x1), .int (pv_I x2), .int (pv_I x3), .int (pv_I x4), .int (pv_I x5)]) (rest := [.int (pv_I z0)]) hx hb hml hown hts hWd lk319 (ct319R (τ := τ) (ρ := ρ) hT t1 hx1.1 hx2.1 hx3.1 hx4.1 hx5.1) hcell1 rfl (by rw [m319]; exact Nat.le_of_ble_eq_true rfl) hR hP hD hS (Nat.le_of_ble_eq_true rfl) hl.1 dL_1521 hc (fun r h' H locs ws hq hR hP hD hS => ?_)
  obtain ⟨hT', hF', z1, er, lo1, hi1, p1_0⟩ := hq
  subst er
  have hN := hN.fr hT hF' (by decide)
  have hM : pw_ok (pv_aI h' (ρ h1 1)) := by rw [hF'.aeq r1 (by decide)]; exact hM
  have hI : im_ok (pv_aI h' (ρ h1 2)) := by rw [hF'.aeq r2 (by decide)]; exact hI
  have hQ := hQ.fr hT k5 k24 k25 hF' (by decide)
  have hT := hT'
  refine W.eq (g2 := F0 m 1524 ls [.int (pv_I z1), .int (pv_I z0)]) rfl ?_
  have ez : z0 = z1 := rl_paste (fun c => by have u := hQ0.2 x1.toNat (by omega); have v := hQ0.2 x3.toNat (by omega); rw [← e24, ← e25] at u v; exact ⟨u, v⟩) p0_0 p1_0
  refine lv_icmp_eq (tgt := 1529) hx hb dL_1524 (by decide) (fun c9 => ?_) (fun c9 => absurd (by rw [ez]) c9)
  exact kk _ _ _ _ ⟨hT, t0, t1, hN, hM, hI, hQ, hR, hP, hD, hS⟩
end LE
