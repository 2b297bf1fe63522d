section LE
variable {p : Program} {l : Launch} {e : Env} {s : State} {m : MethodId} {below : List Frame} {meth : Method} {c : Code} {H : Heap} {locs : List Loc} {cells slots : Nat} {K adV : Nat → Nat} {dC : Nat → ClassId} {dI : Nat → Nat → Nat} {dA : Nat → ClassId} {b h0 h1 L j : Nat} {xs : Nat → Int32} {ls : Array Slot} {τ : Nat → Option Nat} {ρ : Nat → Nat → Nat} {h : pv_H} {ws : va_W}
set_option maxHeartbeats 4000000 in
theorem lc_11 (X : pv_LX p s m meth c b L xs K adV dC dI dA) (hL : L ≤ 3072) (hj : 6 * j + 6 ≤ L) (hKok : pv_Kok K) (Y : pv_LY s dC dI dA τ ρ h h0 h1 ws H locs) (hl : lv_has ls 4 [(3, .int (pv_I ((6 * j : Nat) : Int))), (2, .ref h1), (1, .ref h0), (0, .ref b)]) (hc : cells ≤ 600000 ∧ slots ≤ 7302250) (kk : ∀ (h : pv_H) (ws : va_W) (H : Heap) (locs : List Loc), pv_LY s dC dI dA τ ρ h h0 h1 ws H locs → W p l e room_1 s m #[Value.ref b] below meth c H locs cells slots (lw_Z below #[Value.ref b] s) (F0 m 1529 ls [])) : W p l e room_1 s m #[Value.ref b] below meth c H locs cells slots (lw_Z below #[Value.ref b] s) (F0 m 533 ls []) := by
  obtain ⟨hx, hb, hr, hml, hown, hts, hX, hbl, hlk, hWd⟩ := X
  obtain ⟨hT, t0, t1, hN, hM, hI, hQ, hR, hP, hD, hS⟩ := Y
  have hbA : ¬ (fun q => s.heap.size ≤ q) b := fun z => by have : s.heap.size ≤ b := z; omega
  have n1 : τ (ρ h0 1) = some 2 := hT.rf (t' := 2) t0 rfl rfl
  have r1 : τ (ρ h1 1) = some 40 := hT.rf (t' := 40) t1 rfl rfl
  have r2 : τ (ρ h1 2) = some 41 := hT.rf (t' := 41) t1 rfl rfl
  have k5 : τ (ρ h0 5) = some 12 := hT.rf (t' := 12) t0 rfl rfl
  have k24 : τ (ρ h1 24) = some 53 := hT.rf (t' := 53) t1 rfl rfl
  have k25 : τ (ρ h1 25) = some 54 := hT.rf (t' := 54) t1 rfl rfl
  have hQ0 := hQ
  have hT0 := hT

  refine lv_aload_n hx hb dL_533 rfl (lv_at hl 2 rfl) ?_
  obtain ⟨fs0, hcell0, -⟩ := (hT h0 0 t0).1 _ rfl
  refine pv_lawcall (As := []) (rest := []) hx hb hml hown hts hWd lk92 (ct92 (τ := τ) (ρ := ρ) hT t0) hcell0 rfl (by rw [m92]; exact Nat.le_of_ble_eq_true rfl) hR hP hD hS (Nat.le_of_ble_eq_true rfl) hl.1 dL_534 hc (fun r h' H locs ws hq hR hP hD hS => ?_)
  obtain ⟨hT', hF', z0, er, lo0, hi0⟩ := hq
  subst er
  have hN := hN.fr hT hF' (by decide)
  have hM : pw_ok (pv_aI h' (ρ h1 1)) := by rw [hF'.aeq r1 (by decide)]; exact hM
  have hI : im_ok (pv_aI h' (ρ h1 2)) := by rw [hF'.aeq r2 (by decide)]; exact hI
  have e24 := hF'.aeq k24 (by decide)
  have e25 := hF'.aeq k25 (by decide)
  have hQ := hQ.fr hT k5 k24 k25 hF' (by decide)
  have hT := hT'
  refine W.eq (g2 := F0 m 537 ls [.int (pv_I z0)]) rfl ?_
  refine lv_pop hx hb dL_537 rfl ?_
  refine lv_aload_n hx hb dL_538 rfl (lv_at hl 1 rfl) ?_
  obtain ⟨fs1, hcell1, -⟩ := (hT h1 7 t1).1 _ rfl
  refine pv_lawcall (As := []) (rest := []) hx hb hml hown hts hWd lk247 (ct247 (τ := τ) (ρ := ρ) hT t1) hcell1 rfl (by rw [m247]; exact Nat.le_of_ble_eq_true rfl) hR hP hD hS (Nat.le_of_ble_eq_true rfl) hl.1 dL_539 hc (fun r h' H locs ws hq hR hP hD hS => ?_)
  obtain ⟨hT', hF', z1, er, lo1, hi1⟩ := hq
  subst er
  have hN := hN.fr hT hF' (by decide)
  have hM : pw_ok (pv_aI h' (ρ h1 1)) := by rw [hF'.aeq r1 (by decide)]; exact hM
  have hI : im_ok (pv_aI h' (ρ h1 2)) := by rw [hF'.aeq r2 (by decide)]; exact hI
  have hQ := hQ.fr hT k5 k24 k25 hF' (by decide)
  have hT := hT'
  refine W.eq (g2 := F0 m 542 ls [.int (pv_I z1)]) rfl ?_
  refine lv_pop hx hb dL_542 rfl ?_
  refine lv_goto (tgt := 1529) hx hb dL_543 (by decide) ?_
  exact kk _ _ _ _ ⟨hT, t0, t1, hN, hM, hI, hQ, hR, hP, hD, hS⟩
set_option maxHeartbeats 4000000 in
theorem lc_12 (X : pv_LX p s m meth c b L xs K adV dC dI dA) (hL : L ≤ 3072) (hj : 6 * j + 6 ≤ L) (hKok : pv_Kok K) (Y : pv_LY s dC dI dA τ ρ h h0 h1 ws H locs) (hl : lv_has ls 4 [(3, .int (pv_I ((6 * j : Nat) : Int))), (2, .ref h1), (1, .ref h0), (0, .ref b)]) (hc : cells ≤ 600000 ∧ slots ≤ 7302250) (kk : ∀ (h : pv_H) (ws : va_W) (H : Heap) (locs : List Loc), pv_LY s dC dI dA τ ρ h h0 h1 ws H locs → W p l e room_1 s m #[Value.ref b] below meth c H locs cells slots (lw_Z below #[Value.ref b] s) (F0 m 1529 ls [])) : W p l e room_1 s m #[Value.ref b] below meth c H locs cells slots (lw_Z below #[Value.ref b] s) (F0 m 546 ls []) := by
  obtain ⟨hx, hb, hr, hml, hown, hts, hX, hbl, hlk, hWd⟩ := X
  obtain ⟨hT, t0, t1, hN, hM, hI, hQ, hR, hP, hD, hS⟩ := Y
  have hbA : ¬ (fun q => s.heap.size ≤ q) b := fun z => by have : s.heap.size ≤ b := z; omega
  have n1 : τ (ρ h0 1) = some 2 := hT.rf (t' := 2) t0 rfl rfl
  have r1 : τ (ρ h1 1) = some 40 := hT.rf (t' := 40) t1 rfl rfl
  have r2 : τ (ρ h1 2) = some 41 := hT.rf (t' := 41) t1 rfl rfl
  have k5 : τ (ρ h0 5) = some 12 := hT.rf (t' := 12) t0 rfl rfl
  have k24 : τ (ρ h1 24) = some 53 := hT.rf (t' := 53) t1 rfl rfl
  have k25 : τ (ρ h1 25) = some 54 := hT.rf (t' := 54) t1 rfl rfl
  have hQ0 := hQ
  have hT0 := hT
  obtain ⟨x1, hx1⟩ : ∃ x : Int, (-2147483648 ≤ x ∧ x ≤ 2147483647) ∧ xs (6 * j + 1) = pv_I x := ⟨_, pv_I_rep _⟩

  refine lv_aload_n hx hb dL_546 rfl (lv_at hl 2 rfl) ?_
  refine lv_aload_n hx hb dL_547 rfl (lv_at hl 3 rfl) ?_
  refine lv_iload_n hx hb dL_548 rfl (lv_at hl 0 rfl) ?_
  refine lv_iconst (v := 1) hx hb dL_549 (by decide) ?_
  refine lv_iadd hx hb dL_550 ?_
  refine pv_sldJ (kn := 1) (x := x1) hx hb hX hbl hbA hS hL hj (by decide) (by decide) hx1.2 dL_551 ?_
  obtain ⟨fs0, hcell0, -⟩ := (hT h0 0 t0).1 _ rfl
  refine pv_lawcall (As := [.int (pv_I x1)]) (rest := []) hx hb hml hown hts hWd lk103 (ct103 (τ := τ) (ρ := ρ) hT t0 hx1.1) hcell0 rfl (by rw [m103]; exact Nat.le_of_ble_eq_true rfl) hR hP hD hS (Nat.le_of_ble_eq_true rfl) hl.1 dL_552 hc (fun r h' H locs ws hq hR hP hD hS => ?_)
  obtain ⟨hT', hF', z0, er, lo0, hi0⟩ := hq
  subst er
  have hN := hN.fr hT hF' (by decide)
  have hM : pw_ok (pv_aI h' (ρ h1 1)) := by rw [hF'.aeq r1 (by decide)]; exact hM
  have hI : im_ok (pv_aI h' (ρ h1 2)) := by rw [hF'.aeq r2 (by decide)]; exact hI
  have e24 := hF'.aeq k24 (by decide)
  have e25 := hF'.aeq k25 (by decide)
  have hQ := hQ.fr hT k5 k24 k25 hF' (by decide)
  have hT := hT'
  refine W.eq (g2 := F0 m 555 ls [.int (pv_I z0)]) rfl ?_
  refine lv_pop hx hb dL_555 rfl ?_
  refine lv_aload_n hx hb dL_556 rfl (lv_at hl 1 rfl) ?_
  refine lv_aload_n hx hb dL_557 rfl (lv_at hl 3 rfl) ?_
  refine lv_iload_n hx hb dL_558 rfl (lv_at hl 0 rfl) ?_
  refine lv_iconst (v := 1) hx hb dL_559 (by decide) ?_
  refine lv_iadd hx hb dL_560 ?_
  refine pv_sldJ (kn := 1) (x := x1) hx hb hX hbl hbA hS hL hj (by decide) (by decide) hx1.2 dL_561 ?_
  obtain ⟨fs1, hcell1, -⟩ := (hT h1 7 t1).1 _ rfl
  refine pv_lawcall (As := [.int (pv_I x1)]) (rest := []) hx hb hml hown hts hWd lk253 (ct253 (τ := τ) (ρ := ρ) hT t1 hx1.1) hcell1 rfl (by rw [m253]; exact Nat.le_of_ble_eq_true rfl) hR hP hD hS (Nat.le_of_ble_eq_true rfl) hl.1 dL_562 hc (fun r h' H locs ws hq hR hP hD hS => ?_)
  obtain ⟨hT', hF', z1, er, lo1, hi1⟩ := hq
  subst er
  have hN := hN.fr hT hF' (by decide)
  have hM : pw_ok (pv_aI h' (ρ h1 1)) := by rw [hF'.aeq r1 (by decide)]; exact hM
  have hI : im_ok (pv_aI h' (ρ h1 2)) := by rw [hF'.aeq r2 (by decide)]; exact hI
  have hQ := hQ.fr hT k5 k24 k25 hF' (by decide)
  have hT := hT'
  refine W.eq (g2 := F0 m 565 ls [.int (pv_I z1)]) rfl ?_
  refine lv_pop hx hb dL_565 rfl ?_
  refine lv_goto (tgt := 1529) hx hb dL_566 (by decide) ?_
  exact kk _ _ _ _ ⟨hT, t0, t1, hN, hM, hI, hQ, hR, hP, hD, hS⟩
set_option maxHeartbeats 4000000 in
theorem lc_13 (X : pv_LX p s m meth c b L xs K adV dC dI dA) (hL : L ≤ 3072) (hj : 6 * j + 6 ≤ L) (hKok : pv_Kok K) (Y : pv_LY s dC dI dA τ ρ h h0 h1 ws H locs) (hl : lv_has ls 4 [(3, .int (pv_I ((6 * j : Nat) : Int))), (2, .ref h1), (1, .ref h0), (0, .ref b)]) (hc : cells ≤ 600000 ∧ slots ≤ 7302250) (kk : ∀ (h : pv_H) (ws : va_W) (H : Heap) (locs : List Loc), pv_LY s dC dI dA τ ρ h h0 h1 ws H locs → W p l e room_1 s m #[Value.ref b] below meth c H locs cells slots (lw_Z below #[Value.ref b] s) (F0 m 1529 ls [])) : W p l e room_1 s m #[Value.ref b] below meth c H locs cells slots (lw_Z below #[Value.ref b] s) (F0 m 569 ls []) := by
  obtain ⟨hx, hb, hr, hml, hown, hts, hX, hbl, hlk, hWd⟩ := X
  obtain ⟨hT, t0, t1, hN, hM, hI, hQ, hR, hP, hD, hS⟩ := Y
  have hbA : ¬ (fun q => s.heap.size ≤ q) b := fun z => by have : s.heap.size ≤ b := z; omega
  have n1 : τ (ρ h0 1) = some 2 := hT.rf (t' := 2) t0 rfl rfl
  have r1 : τ (ρ h1 1) = some 40 := hT.rf (t' := 40) t1 rfl rfl
  have r2 : τ (ρ h1 2) = some 41 := hT.rf (t' := 41) t1 rfl rfl
  have k5 : τ (ρ h0 5) = some 12 := hT.rf (t' := 12) t0 rfl rfl
  have k24 : τ (ρ h1 24) = some 53 := hT.rf (t' := 53) t1 rfl rfl
  have k25 : τ (ρ h1 25) = some 54 := hT.rf (t' := 54) t1 rfl rfl
  have hQ0 := hQ
  have hT0 := hT
  obtain ⟨x1, hx1⟩ : ∃ x : Int, (-2147483648 ≤ x ∧ x ≤ 2147483647) ∧ xs (6 * j + 1) = pv_I x := ⟨_, pv_I_rep _⟩
  obtain ⟨x2, hx2⟩ : ∃ x : Int, (-2147483648 ≤ x ∧ x ≤ 2147483647) ∧ xs (6 * j + 2) = pv_I x := ⟨_, pv_I_rep _⟩
  obtain ⟨x3, hx3⟩ : ∃ x : Int, (-2147483648 ≤ x ∧ x ≤ 2147483647) ∧ xs (6 * j + 3) = pv_I x := ⟨_, pv_I_rep _⟩

  refine lv_aload_n hx hb dL_569 rfl (lv_at hl 2 rfl) ?_
  refine lv_aload_n hx hb dL_570 rfl (lv_at hl 3 rfl) ?_
  refine lv_iload_n hx hb dL_571 rfl (lv_at hl 0 rfl) ?_
  refine lv_iconst (v := 1) hx hb dL_572 (by decide) ?_
  refine lv_iadd hx hb dL_573 ?_
  refine pv_sldJ (kn := 1) (x := x1) hx hb hX hbl hbA hS hL hj (by decide) (by decide) hx1.2 dL_574 ?_
  refine lv_aload_n hx hb dL_575 rfl (lv_at hl 3 rfl) ?_
  refine lv_iload_n hx hb dL_576 rfl (lv_at hl 0 rfl) ?_
  refine lv_iconst (v := 2) hx hb dL_577 (by decide) ?_
  refine lv_iadd hx hb dL_578 ?_
  refine pv_sldJ (kn := 2) (x := x2) hx hb hX hbl hbA hS hL hj (by decide) (by decide) hx2.2 dL_579 ?_
  refine lv_aload_n hx hb dL_580 rfl (lv_at hl 3 rfl) ?_
  refine lv_iload_n hx hb dL_581 rfl (lv_at hl 0 rfl) ?_
  refine lv_iconst (v := 3) hx hb dL_582 (by decide) ?_
  refine lv_iadd hx hb dL_583 ?_
  refine pv_sldJ (kn := 3) (x := x3) hx hb hX hbl hbA hS hL hj (by decide) (by decide) hx3.2 dL_584 ?_
  obtain ⟨fs0, hcell0, -⟩ := (hT h0 0 t0).1 _ rfl
  refine pv_lawcall (As := [.int (pv_I x1), .int (pv_I x2), .int (pv_I x3)]) (rest := []) hx hb hml hown hts hWd lk104 (ct104 (τ := τ) (ρ := ρ) hT t0 hx1.1 hx2.1 hx3.1) hcell0 rfl (by rw [m104]; exact Nat.le_of_ble_eq_true rfl) hR hP hD hS (Nat.le_of_ble_eq_true rfl) hl.1 dL_585 hc (fun r h' H locs ws hq hR hP hD hS => ?_)
  obtain ⟨hT', hF', z0, er, lo0, hi0⟩ := hq
  subst er
  have hN := hN.fr hT hF' (by decide)
  have hM : pw_ok (pv_aI h' (ρ h1 1)) := by rw [hF'.aeq r1 (by decide)]; exact hM
  have hI : im_ok (pv_aI h' (ρ h1 2)) := by rw [hF'.aeq r2 (by decide)]; exact hI
  have e24 := hF'.aeq k24 (by decide)
  have e25 := hF'.aeq k25 (by decide)
  have hQ := hQ.fr hT k5 k24 k25 hF' (by decide)
  have hT := hT'
  refine W.eq (g2 := F0 m 588 ls [.int (pv_I z0)]) rfl ?_
  refine lv_pop hx hb dL_588 rfl ?_
  refine lv_aload_n hx hb dL_589 rfl (lv_at hl 1 rfl) ?_
  refine lv_aload_n hx hb dL_590 rfl (lv_at hl 3 rfl) ?_
  refine lv_iload_n hx hb dL_591 rfl (lv_at hl 0 rfl) ?_
  refine lv_iconst (v := 1) hx hb dL_592 (by decide) ?_
  refine lv_iadd hx hb dL_593 ?_
  refine pv_sldJ (kn := 1) (x := x1) hx hb hX hbl hbA hS hL hj (by decide) (by decide) hx1.2 dL_594 ?_
  refine lv_aload_n hx hb dL_595 rfl (lv_at hl 3 rfl) ?_
  refine lv_iload_n hx hb dL_596 rfl (lv_at hl 0 rfl) ?_
  refine lv_iconst (v := 2) hx hb dL_597 (by decide) ?_
  refine lv_iadd hx hb dL_598 ?_
  refine pv_sldJ (kn := 2) (x := x2) hx hb hX hbl hbA hS hL hj (by decide) (by decide) hx2.2 dL_599 ?_
  refine lv_aload_n hx hb dL_600 rfl (lv_at hl 3 rfl) ?_
  refine lv_iload_n hx hb dL_601 rfl (lv_at hl 0 rfl) ?_
  refine lv_iconst (v := 3) hx hb dL_602 (by decide) ?_
  refine lv_iadd hx hb dL_603 ?_
  refine pv_sldJ (kn := 3) (x := x3) hx hb hX hbl hbA hS hL hj (by decide) (by decide) hx3.2 dL_604 ?_
  obtain ⟨fs1, hcell1, -⟩ := (hT h1 7 t1).1 _ rfl
  refine pv_lawcall (As := [.int (pv_I x1), .int (pv_I x2), .int (pv_I x3)]) (rest := []) hx hb hml hown hts hWd lk255 (ct255 (τ := τ) (ρ := ρ) hT t1 hx1.1 hx2.1 hx3.1) hcell1 rfl (by rw [m255]; exact Nat.le_of_ble_eq_true rfl) hR hP hD hS (Nat.le_of_ble_eq_true rfl) hl.1 dL_605 hc (fun r h' H locs ws hq hR hP hD hS => ?_)
  obtain ⟨hT', hF', z1, er, lo1, hi1⟩ := hq
  subst er
  have hN := hN.fr hT hF' (by decide)
  have hM : pw_ok (pv_aI h' (ρ h1 1)) := by rw [hF'.aeq r1 (by decide)]; exact hM
  have hI : im_ok (pv_aI h' (ρ h1 2)) := by rw [hF'.aeq r2 (by decide)]; exact hI
  have hQ := hQ.fr hT k5 k24 k25 hF' (by decide)
  have hT := hT'
  refine W.eq (g2 := F0 m 608 ls [.int (pv_I z1)]) rfl ?_
  refine lv_pop hx hb dL_608 rfl ?_
  refine lv_goto (tgt := 1529) hx hb dL_609 (by decide) ?_
  exact kk _ _ _ _ ⟨hT, t0, t1, hN, hM, hI, hQ, hR, hP, hD, hS⟩
set_option maxHeartbeats 4000000 in
theorem lc_14 (X : pv_LX p s m meth c b L xs K adV dC dI dA) (hL : L ≤ 3072) (hj : 6 * j + 6 ≤ L) (hKok : pv_Kok K) (Y : pv_LY s dC dI dA τ ρ h h0 h1 ws H locs) (hl : lv_has ls 4 [(3, .int (pv_I ((6 * j : Nat) : Int))), (2, .ref h1), (1, .ref h0), (0, .ref b)]) (hc : cells ≤ 600000 ∧ slots ≤ 7302250) (kk : ∀ (h : pv_H) (ws : va_W) (H : Heap) (locs : List Loc), pv_LY s dC dI dA τ ρ h h0 h1 ws H locs → W p l e room_1 s m #[Value.ref b] below meth c H locs cells slots (lw_Z below #[Value.ref b] s) (F0 m 1529 ls [])) : W p l e room_1 s m #[Value.ref b] below meth c H locs cells slots (lw_Z below #[Value.ref b] s) (F0 m 612 ls []) := by
  obtain ⟨hx, hb, hr, hml, hown, hts, hX, hbl, hlk, hWd⟩ := X
  obtain ⟨hT, t0, t1, hN, hM, hI, hQ, hR, hP, hD, hS⟩ := Y
  have hbA : ¬ (fun q => s.heap.size ≤ q) b := fun z => by have : s.heap.size ≤ b := z; omega
  have n1 : τ (ρ h0 1) = some 2 := hT.rf (t' := 2) t0 rfl rfl
  have r1 : τ (ρ h1 1) = some 40 := hT.rf (t' := 40) t1 rfl rfl
  have r2 : τ (ρ h1 2) = some 41 := hT.rf (t' := 41) t1 rfl rfl
  have k5 : τ (ρ h0 5) = some 12 := hT.rf (t' := 12) t0 rfl rfl
  have k24 : τ (ρ h1 24) = some 53 := hT.rf (t' := 53) t1 rfl rfl
  have k25 : τ (ρ h1 25) = some 54 := hT.rf (t' := 54) t1 rfl rfl
  have hQ0 := hQ
  have hT0 := hT
  obtain ⟨x1, hx1⟩ : ∃ x : Int, (-2147483648 ≤ x ∧ x ≤ 2147483647) ∧ xs (6 * j + 1) = pv_I x := ⟨_, pv_I_rep _⟩
  obtain ⟨x2, hx2⟩ : ∃ x : Int, (-2147483648 ≤ x ∧ x ≤ 2147483647) ∧ xs (6 * j + 2) = pv_I x := ⟨_, pv_I_rep _⟩

  refine lv_aload_n hx hb dL_612 rfl (lv_at hl 2 rfl) ?_
  refine lv_aload_n hx hb dL_613 rfl (lv_at hl 3 rfl) ?_
  refine lv_iload_n hx hb dL_614 rfl (lv_at hl 0 rfl) ?_
  refine lv_iconst (v := 1) hx hb dL_615 (by decide) ?_
  refine lv_iadd hx hb dL_616 ?_
  refine pv_sldJ (kn := 1) (x := x1) hx hb hX hbl hbA hS hL hj (by decide) (by decide) hx1.2 dL_617 ?_
  refine lv_aload_n hx hb dL_618 rfl (lv_at hl 3 rfl) ?_
  refine lv_iload_n hx hb dL_619 rfl (lv_at hl 0 rfl) ?_
  refine lv_iconst (v := 2) hx hb dL_620 (by decide) ?_
  refine lv_iadd hx hb dL_621 ?_
  refine pv_sldJ (kn := 2) (x := x2) hx hb hX hbl hbA hS hL hj (by decide) (by decide) hx2.2 dL_622 ?_
  obtain ⟨fs0, hcell0, -⟩ := (hT h0 0 t0).1 _ rfl
  refine pv_lawcall (As := [.int (pv_I x1), .int (pv_I x2)]) (rest := []) hx hb hml hown hts hWd lk108 (ct108 (τ := τ) (ρ := ρ) hT t0 hx1.1 hx2.1) hcell0 rfl (by rw [m108]; exact Nat.le_of_ble_eq_true rfl) hR hP hD hS (Nat.le_of_ble_eq_true rfl) hl.1 dL_623 hc (fun r h' H locs ws hq hR hP hD hS => ?_)
  obtain ⟨hT', hF', z0, er, lo0, hi0⟩ := hq
  subst er
  have hN := hN.fr hT hF' (by decide)
  have hM : pw_ok (pv_aI h' (ρ h1 1)) := by rw [hF'.aeq r1 (by decide)]; exact hM
  have hI : im_ok (pv_aI h' (ρ h1 2)) := by rw [hF'.aeq r2 (by decide)]; exact hI
  have e24 := hF'.aeq k24 (by decide)
  have e25 := hF'.aeq k25 (by decide)
  have hQ := hQ.fr hT k5 k24 k25 hF' (by decide)
  have hT := hT'
  refine W.eq (g2 := F0 m 626 ls [.int (pv_I z0)]) rfl ?_
  refine lv_pop hx hb dL_626 rfl ?_
  refine lv_aload_n hx hb dL_627 rfl (lv_at hl 1 rfl) ?_
  refine lv_aload_n hx hb dL_628 rfl (lv_at hl 3 rfl) ?_
  refine lv_iload_n hx hb dL_629 rfl (lv_at hl 0 rfl) ?_
  refine lv_iconst (v := 1) hx hb dL_630 (by decide) ?_
  refine lv_iadd hx hb dL_631 ?_
  refine pv_sldJ (kn := 1) (x := x1) hx hb hX hbl hbA hS hL hj (by decide) (by decide) hx1.2 dL_632 ?_
  refine lv_aload_n hx hb dL_633 rfl (lv_at hl 3 rfl) ?_
  refine lv_iload_n hx hb dL_634 rfl (lv_at hl 0 rfl) ?_
  refine lv_iconst (v := 2) hx hb dL_635 (by decide) ?_
  refine lv_iadd hx hb dL_636 ?_
  refine pv_sldJ (kn := 2) (x := x2) hx hb hX hbl hbA hS hL hj (by decide) (by decide) hx2.2 dL_637 ?_
  obtain ⟨fs1, hcell1, -⟩ := (hT h1 7 t1).1 _ rfl
  refine pv_lawcall (As := [.int (pv_I x1), .int (pv_I x2)]) (rest := []) hx hb hml hown hts hWd lk257 (ct257F (τ := τ) (ρ := ρ) hT t1 hx1.1 hx2.1) hcell1 rfl (by rw [m257]; exact Nat.le_of_ble_eq_true rfl) hR hP hD hS (Nat.le_of_ble_eq_true rfl) hl.1 dL_638 hc (fun r h' H locs ws hq hR hP hD hS => ?_)
  obtain ⟨hT', hF', z1, er, lo1, hi1, p1_0⟩ := hq
  subst er
  have hN := hN.fr hT hF' (by decide)
  have hM : pw_ok (pv_aI h' (ρ h1 1)) := p1_0 hM
  have hI : im_ok (pv_aI h' (ρ h1 2)) := by rw [hF'.aeq r2 (by decide)]; exact hI
  have hQ := hQ.fr hT k5 k24 k25 hF' (by decide)
  have hT := hT'
  refine W.eq (g2 := F0 m 641 ls [.int (pv_I z1)]) rfl ?_
  refine lv_pop hx hb dL_641 rfl ?_
  refine lv_goto (tgt := 1529) hx hb dL_642 (by decide) ?_
  exact kk _ _ _ _ ⟨hT, t0, t1, hN, hM, hI, hQ, hR, hP, hD, hS⟩
set_option maxHeartbeats 4000000 in
theorem lc_15 (X : pv_LX p s m meth c b L xs K adV dC dI dA) (hL : L ≤ 3072) (hj : 6 * j + 6 ≤ L) (hKok : pv_Kok K) (Y : pv_LY s dC dI dA τ ρ h h0 h1 ws H locs) (hl : lv_has ls 4 [(3, .int (pv_I ((6 * j : Nat) : Int))), (2, .ref h1), (1, .ref h0), (0, .ref b)]) (hc : cells ≤ 600000 ∧ slots ≤ 7302250) (kk : ∀ (h : pv_H) (ws : va_W) (H : Heap) (locs : List Loc), pv_LY s dC dI dA τ ρ h h0 h1 ws H locs → W p l e room_1 s m #[Value.ref b] below meth c H locs cells slots (lw_Z below #[Value.ref b] s) (F0 m 1529 ls [])) : W p l e room_1 s m #[Value.ref b] below meth c H locs cells slots (lw_Z below #[Value.ref b] s) (F0 m 645 ls []) := by
  obtain ⟨hx, hb, hr, hml, hown, hts, hX, hbl, hlk, hWd⟩ := X
  obtain ⟨hT, t0, t1, hN, hM, hI, hQ, hR, hP, hD, hS⟩ := Y
  have hbA : ¬ (fun q => s.heap.size ≤ q) b := fun z => by have : s.heap.size ≤ b := z; omega
  have n1 : τ (ρ h0 1) = some 2 := hT.rf (t' := 2) t0 rfl rfl
  have r1 : τ (ρ h1 1) = some 40 := hT.rf (t' := 40) t1 rfl rfl
  have r2 : τ (ρ h1 2) = some 41 := hT.rf (t' := 41) t1 rfl rfl
  have k5 : τ (ρ h0 5) = some 12 := hT.rf (t' := 12) t0 rfl rfl
  have k24 : τ (ρ h1 24) = some 53 := hT.rf (t' := 53) t1 rfl rfl
  have k25 : τ (ρ h1 25) = some 54 := hT.rf (t' := 54) t1 rfl rfl
  have hQ0 := hQ
  have hT0 := hT
  obtain ⟨x1, hx1⟩ : ∃ x : Int, (-2147483648 ≤ x ∧ x ≤ 2147483647) ∧ xs (6 * j + 1) = pv_I x := ⟨_, pv_I_rep _⟩
  obtain ⟨x2, hx2⟩ : ∃ x : Int, (-2147483648 ≤ x ∧ x ≤ 2147483647) ∧ xs (6 * j + 2) = pv_I x := ⟨_, pv_I_rep _⟩

  refine lv_aload_n hx hb dL_645 rfl (lv_at hl 2 rfl) ?_
  refine lv_aload_n hx hb dL_646 rfl (lv_at hl 3 rfl) ?_
  refine lv_iload_n hx hb dL_647 rfl (lv_at hl 0 rfl) ?_
  refine lv_iconst (v := 1) hx hb dL_648 (by decide) ?_
  refine lv_iadd hx hb dL_649 ?_
  refine pv_sldJ (kn := 1) (x := x1) hx hb hX hbl hbA hS hL hj (by decide) (by decide) hx1.2 dL_650 ?_
  refine lv_aload_n hx hb dL_651 rfl (lv_at hl 3 rfl) ?_
  refine lv_iload_n hx hb dL_652 rfl (lv_at hl 0 rfl) ?_
  refine lv_iconst (v := 2) hx hb dL_653 (by decide) ?_
  refine lv_iadd hx hb dL_654 ?_
  refine pv_sldJ (kn := 2) (x := x2) hx hb hX hbl hbA hS hL hj (by decide) (by decide) hx2.2 dL_655 ?_
  obtain ⟨fs0, hcell0, -⟩ := (hT h0 0 t0).1 _ rfl
  refine pv_lawcall (As := [.int (pv_I x1), .int (pv_I x2)]) (rest := []) hx hb hml hown hts hWd lk109 (ct109 (τ := τ) (ρ := ρ) hT t0 hx1.1 hx2.1) hcell0 rfl (by rw [m109]; exact Nat.le_of_ble_eq_true rfl) hR hP hD hS (Nat.le_of_ble_eq_true rfl) hl.1 dL_656 hc (fun r h' H locs ws hq hR hP hD hS => ?_)
  obtain ⟨hT', hF', z0, er, lo0, hi0⟩ := hq
  subst er
  have hN := hN.fr hT hF' (by decide)
  have hM : pw_ok (pv_aI h' (ρ h1 1)) := by rw [hF'.aeq r1 (by decide)]; exact hM
  have hI : im_ok (pv_aI h' (ρ h1 2)) := by rw [hF'.aeq r2 (by decide)]; exact hI
  have e24 := hF'.aeq k24 (by decide)
  have e25 := hF'.aeq k25 (by decide)
  have hQ := hQ.fr hT k5 k24 k25 hF' (by decide)
  have hT := hT'
  refine W.eq (g2 := F0 m 659 ls [.int (pv_I z0)]) rfl ?_
  refine lv_pop hx hb dL_659 rfl ?_
  refine lv_aload_n hx hb dL_660 rfl (lv_at hl 1 rfl) ?_
  refine lv_aload_n hx hb dL_661 rfl (lv_at hl 3 rfl) ?_
  refine lv_iload_n hx hb dL_662 rfl (lv_at hl 0 rfl) ?_
  refine lv_iconst (v := 1) hx hb dL_663 (by decide) ?_
  refine lv_iadd hx hb dL_664 ?_
  refine pv_sldJ (kn := 1) (x := x1) hx hb hX hbl hbA hS hL hj (by decide) (by decide) hx1.2 dL_665 ?_
  refine lv_aload_n hx hb dL_666 rfl (lv_at hl 3 rfl) ?_
  refine lv_iload_n hx hb dL_667 rfl (lv_at hl 0 rfl) ?_
  refine lv_iconst (v := 2) hx hb dL_668 (by decide) ?_
  refine lv_iadd hx hb dL_669 ?_
  refine pv_sldJ (kn := 2) (x := x2) hx hb hX hbl hbA hS hL hj (by decide) (by decide) hx2.2 dL_670 ?_
  obtain ⟨fs1, hcell1, -⟩ := (hT h1 7 t1).1 _ rfl
  refine pv_lawcall (As := [.int (pv_I x1), .int (pv_I x2)]) (rest := []) hx hb hml hown hts hWd lk258 (ct258 (τ := τ) (ρ := ρ) hT t1 hx1.1 hx2.1) hcell1 rfl (by rw [m258]; exact Nat.le_of_ble_eq_true rfl) hR hP hD hS (Nat.le_of_ble_eq_true rfl) hl.1 dL_671 hc (fun r h' H locs ws hq hR hP hD hS => ?_)
  obtain ⟨hT', hF', z1, er, lo1, hi1⟩ := hq
  subst er
  have hN := hN.fr hT hF' (by decide)
  have hM : pw_ok (pv_aI h' (ρ h1 1)) := by rw [hF'.aeq r1 (by decide)]; exact hM
  have hI : im_ok (pv_aI h' (ρ h1 2)) := by rw [hF'.aeq r2 (by decide)]; exact hI
  have hQ := hQ.fr hT k5 k24 k25 hF' (by decide)
  have hT := hT'
  refine W.eq (g2 := F0 m 674 ls [.int (pv_I z1)]) rfl ?_
  refine lv_pop hx hb dL_674 rfl ?_
  refine lv_goto (tgt := 1529) hx hb dL_675 (by decide) ?_
  exact kk _ _ _ _ ⟨hT, t0, t1, hN, hM, hI, hQ, hR, hP, hD, hS⟩
set_option maxHeartbeats 4000000 in
theorem lc_16 (X : pv_LX p s m meth c b L xs K adV dC dI dA) (hL : L ≤ 3072) (hj : 6 * j + 6 ≤ L) (hKok : pv_Kok K) (Y : pv_LY s dC dI dA τ ρ h h0 h1 ws H locs) (hl : lv_has ls 4 [(3, .int (pv_I ((6 * j : Nat) : Int))), (2, .ref h1), (1, .ref h0), (0, .ref b)]) (hc : cells ≤ 600000 ∧ slots ≤ 7302250) (kk : ∀ (h : pv_H) (ws : va_W) (H : Heap) (locs : List Loc), pv_LY s dC dI dA τ ρ h h0 h1 ws H locs → W p l e room_1 s m #[Value.ref b] below meth c H locs cells slots (lw_Z below #[Value.ref b] s) (F0 m 1529 ls [])) : W p l e room_1 s m #[Value.ref b] below meth c H locs cells slots (lw_Z below #[Value.ref b] s) (F0 m 678 ls []) := by
  obtain ⟨hx, hb, hr, hml, hown, hts, hX, hbl, hlk, hWd⟩ := X
  obtain ⟨hT, t0, t1, hN, hM, hI, hQ, hR, hP, hD, hS⟩ := Y
  have hbA : ¬ (fun q => s.heap.size ≤ q) b := fun z => by have : s.heap.size ≤ b := z; omega
  have n1 : τ (ρ h0 1) = some 2 := hT.rf (t' := 2) t0 rfl rfl
  have r1 : τ (ρ h1 1) = some 40 := hT.rf (t' := 40) t1 rfl rfl
  have r2 : τ (ρ h1 2) = some 41 := hT.rf (t' := 41) t1 rfl rfl
  have k5 : τ (ρ h0 5) = some 12 := hT.rf (t' := 12) t0 rfl rfl
  have k24 : τ (ρ h1 24) = some 53 := hT.rf (t' := 53) t1 rfl rfl
  have k25 : τ (ρ h1 25) = some 54 := hT.rf (t' := 54) t1 rfl rfl
  have hQ0 := hQ
  have hT0 := hT
  obtain ⟨x1, hx1⟩ : ∃ x : Int, (-2147483648 ≤ x ∧ x ≤ 2147483647) ∧ xs (6 * j + 1) = pv_I x := ⟨_, pv_I_rep _⟩
  obtain ⟨x2, hx2⟩ : ∃ x : Int, (-2147483648 ≤ x ∧ x ≤ 2147483647) ∧ xs (6 * j + 2) = pv_I x := ⟨_, pv_I_rep _⟩
  obtain ⟨x3, hx3⟩ : ∃ x : Int, (-2147483648 ≤ x ∧ x ≤ 2147483647) ∧ xs (6 * j + 3) = pv_I x := ⟨_, pv_I_rep _⟩

  refine lv_aload_n hx hb dL_678 rfl (lv_at hl 2 rfl) ?_
  refine lv_aload_n hx hb dL_679 rfl (lv_at hl 3 rfl) ?_
  refine lv_iload_n hx hb dL_680 rfl (lv_at hl 0 rfl) ?_
  refine lv_iconst (v := 1) hx hb dL_681 (by decide) ?_
  refine lv_iadd hx hb dL_682 ?_
  refine pv_sldJ (kn := 1) (x := x1) hx hb hX hbl hbA hS hL hj (by decide) (by decide) hx1.2 dL_683 ?_
  refine lv_aload_n hx hb dL_684 rfl (lv_at hl 3 rfl) ?_
  refine lv_iload_n hx hb dL_685 rfl (lv_at hl 0 rfl) ?_
  refine lv_iconst (v := 2) hx hb dL_686 (by decide) ?_
  refine lv_iadd hx hb dL_687 ?_
  refine pv_sldJ (kn := 2) (x := x2) hx hb hX hbl hbA hS hL hj (by decide) (by decide) hx2.2 dL_688 ?_
  refine lv_aload_n hx hb dL_689 rfl (lv_at hl 3 rfl) ?_
  refine lv_iload_n hx hb dL_690 rfl (lv_at hl 0 rfl) ?_
  refine lv_iconst (v := 3) hx hb dL_691 (by decide) ?_
  refine lv_iadd hx hb dL_692 ?_
  refine pv_sldJ (kn := 3) (x := x3) hx hb hX hbl hbA hS hL hj (by decide) (by decide) hx3.2 dL_693 ?_
  obtain ⟨fs0, hcell0, -⟩ := (hT h0 0 t0).1 _ rfl
  refine pv_lawcall (As := [.int (pv_I x1), .int (pv_I x2), .int (pv_I x3)]) (rest := []) hx hb hml hown hts hWd lk111 (ct111 (τ := τ) (ρ := ρ) hT t0 hx1.1 hx2.1 hx3.1) hcell0 rfl (by rw [m111]; exact Nat.le_of_ble_eq_true rfl) hR hP hD hS (Nat.le_of_ble_eq_true rfl) hl.1 dL_694 hc (fun r h' H locs ws hq hR hP hD hS => ?_)
  obtain ⟨eh, z0, er, lo0, hi0, p0_0⟩ := hq
  subst eh
  subst er
  refine W.eq (g2 := F0 m 697 ls [.int (pv_I z0)]) rfl ?_
  refine lv_pop hx hb dL_697 rfl ?_
  refine lv_aload_n hx hb dL_698 rfl (lv_at hl 1 rfl) ?_
  refine lv_aload_n hx hb dL_699 rfl (lv_at hl 3 rfl) ?_
  refine lv_iload_n hx hb dL_700 rfl (lv_at hl 0 rfl) ?_
  refine lv_iconst (v := 1) hx hb dL_701 (by decide) ?_
  refine lv_iadd hx hb dL_702 ?_
  refine pv_sldJ (kn := 1) (x := x1) hx hb hX hbl hbA hS hL hj (by decide) (by decide) hx1.2 dL_703 ?_
  refine lv_aload_n hx hb dL_704 rfl (lv_at hl 3 rfl) ?_
  refine lv_iload_n hx hb dL_705 rfl (lv_at hl 0 rfl) ?_
  refine lv_iconst (v := 2) hx hb dL_706 (by decide) ?_
  refine lv_iadd hx hb dL_707 ?_
  refine pv_sldJ (kn := 2) (x := x2) hx hb hX hbl hbA hS hL hj (by decide) (by decide) hx2.2 dL_708 ?_
  refine lv_aload_n hx hb dL_709 rfl (lv_at hl 3 rfl) ?_
  refine lv_iload_n hx hb dL_710 rfl (lv_at hl 0 rfl) ?_
  refine lv_iconst (v := 3) hx hb dL_711 (by decide) ?_
  refine lv_iadd hx hb dL_712 ?_
  refine pv_sldJ (kn := 3) (x := x3) hx hb hX hbl hbA hS hL hj (by decide) (by decide) hx3.2 dL_713 ?_
  obtain ⟨fs1, hcell1, -⟩ := (hT h1 7 t1).1 _ rfl
  refine pv_lawcall (As := [.int (pv_I x1), .int (pv_I x2), .int (pv_I x3)]) (rest := []) hx hb hml hown hts hWd lk259 (ct259 (τ := τ) (ρ := ρ) hT t1 hx1.1 hx2.1 hx3.1) hcell1 rfl (by rw [m259]; exact Nat.le_of_ble_eq_true rfl) hR hP hD hS (Nat.le_of_ble_eq_true rfl) hl.1 dL_714 hc (fun r h' H locs ws hq hR hP hD hS => ?_)
  obtain ⟨eh, z1, er, lo1, hi1⟩ := hq
  subst eh
  subst er
  refine W.eq (g2 := F0 m 717 ls [.int (pv_I z1)]) rfl ?_
  refine lv_pop hx hb dL_717 rfl ?_
  refine lv_goto (tgt := 1529) hx hb dL_718 (by decide) ?_
  exact kk _ _ _ _ ⟨hT, t0, t1, hN, hM, hI, hQ, hR, hP, hD, hS⟩
set_option maxHeartbeats 4000000 in
theorem lc_17 (X : pv_LX p s m meth c b L xs K adV dC dI dA) (hL : L ≤ 3072) (hj : 6 * j + 6 ≤ L) (hKok : pv_Kok K) (Y : pv_LY s dC dI dA τ ρ h h0 h1 ws H locs) (hl : lv_has ls 4 [(3, .int (pv_I ((6 * j : Nat) : Int))), (2, .ref h1), (1, .ref h0), (0, .ref b)]) (hc : cells ≤ 600000 ∧ slots ≤ 7302250) (kk : ∀ (h : pv_H) (ws : va_W) (H : Heap) (locs : List Loc), pv_LY s dC dI dA τ ρ h h0 h1 ws H locs → W p l e room_1 s m #[Value.ref b] below meth c H locs cells slots (lw_Z below #[Value.ref b] s) (F0 m 1529 ls [])) : W p l e room_1 s m #[Value.ref b] below meth c H locs cells slots (lw_Z below #[Value.ref b] s) (F0 m 721 ls []) := by
  obtain ⟨hx, hb, hr, hml, hown, hts, hX, hbl, hlk, hWd⟩ := X
  obtain ⟨hT, t0, t1, hN, hM, hI, hQ, hR, hP, hD, hS⟩ := Y
  have hbA : ¬ (fun q => s.heap.size ≤ q) b := fun z => by have : s.heap.size ≤ b := z; omega
  have n1 : τ (ρ h0 1) = some 2 := hT.rf (t' := 2) t0 rfl rfl
  have r1 : τ (ρ h1 1) = some 40 := hT.rf (t' := 40) t1 rfl rfl
  have r2 : τ (ρ h1 2) = some 41 := hT.rf (t' := 41) t1 rfl rfl
  have k5 : τ (ρ h0 5) = some 12 := hT.rf (t' := 12) t0 rfl rfl
  have k24 : τ (ρ h1 24) = some 53 := hT.rf (t' := 53) t1 rfl rfl
  have k25 : τ (ρ h1 25) = some 54 := hT.rf (t' := 54) t1 rfl rfl
  have hQ0 := hQ
  have hT0 := hT
  obtain ⟨x1, hx1⟩ : ∃ x : Int, (-2147483648 ≤ x ∧ x ≤ 2147483647) ∧ xs (6 * j + 1) = pv_I x := ⟨_, pv_I_rep _⟩
  obtain ⟨x2, hx2⟩ : ∃ x : Int, (-2147483648 ≤ x ∧ x ≤ 2147483647) ∧ xs (6 * j + 2) = pv_I x := ⟨_, pv_I_rep _⟩
  obtain ⟨x3, hx3⟩ : ∃ x : Int, (-2147483648 ≤ x ∧ x ≤ 2147483647) ∧ xs (6 * j + 3) = pv_I x := ⟨_, pv_I_rep _⟩
  obtain ⟨x4, hx4⟩ : ∃ x : Int, (-2147483648 ≤ x ∧ x ≤ 2147483647) ∧ xs (6 * j + 4) = pv_I x := ⟨_, pv_I_rep _⟩

  refine lv_aload_n hx hb dL_721 rfl (lv_at hl 2 rfl) ?_
  refine lv_aload_n hx hb dL_722 rfl (lv_at hl 3 rfl) ?_
  refine lv_iload_n hx hb dL_723 rfl (lv_at hl 0 rfl) ?_
  refine lv_iconst (v := 1) hx hb dL_724 (by decide) ?_
  refine lv_iadd hx hb dL_725 ?_
  refine pv_sldJ (kn := 1) (x := x1) hx hb hX hbl hbA hS hL hj (by decide) (by decide) hx1.2 dL_726 ?_
  refine lv_aload_n hx hb dL_727 rfl (lv_at hl 3 rfl) ?_
  refine lv_iload_n hx hb dL_728 rfl (lv_at hl 0 rfl) ?_
  refine lv_iconst (v := 2) hx hb dL_729 (by decide) ?_
  refine lv_iadd hx hb dL_730 ?_
  refine pv_sldJ (kn := 2) (x := x2) hx hb hX hbl hbA hS hL hj (by decide) (by decide) hx2.2 dL_731 ?_
  refine lv_aload_n hx hb dL_732 rfl (lv_at hl 3 rfl) ?_
  refine lv_iload_n hx hb dL_733 rfl (lv_at hl 0 rfl) ?_
  refine lv_iconst (v := 3) hx hb dL_734 (by decide) ?_
  refine lv_iadd hx hb dL_735 ?_
  refine pv_sldJ (kn := 3) (x := x3) hx hb hX hbl hbA hS hL hj (by decide) (by decide) hx3.2 dL_736 ?_
  refine lv_aload_n hx hb dL_737 rfl (lv_at hl 3 rfl) ?_
  refine lv_iload_n hx hb dL_738 rfl (lv_at hl 0 rfl) ?_
  refine lv_iconst (v := 4) hx hb dL_739 (by decide) ?_
  refine lv_iadd hx hb dL_740 ?_
  refine pv_sldJ (kn := 4) (x := x4) hx hb hX hbl hbA hS hL hj (by decide) (by decide) hx4.2 dL_741 ?_
  obtain ⟨fs0, hcell0, -⟩ := (hT h0 0 t0).1 _ rfl
  refine pv_lawcall (As := [.int (pv_I x1), .int (pv_I x2), .int (pv_I x3), .int (pv_I x4)]) (rest := []) hx hb hml hown hts hWd lk114 (ct114 (τ := τ) (ρ := ρ) hT t0 hx1.1 hx2.1 hx3.1 hx4.1) hcell0 rfl (by rw [m114]; exact Nat.le_of_ble_eq_true rfl) hR hP hD hS (Nat.le_of_ble_eq_true rfl) hl.1 dL_742 hc (fun r h' H locs ws hq hR hP hD hS => ?_)
  obtain ⟨eh, z0, er, lo0, hi0⟩ := hq
  subst eh
  subst er
  refine W.eq (g2 := F0 m 745 ls [.int (pv_I z0)]) rfl ?_
  refine lv_pop hx hb dL_745 rfl ?_
  refine lv_aload_n hx hb dL_746 rfl (lv_at hl 1 rfl) ?_
  refine lv_aload_n hx hb dL_747 rfl (lv_at hl 3 rfl) ?_
  refine lv_iload_n hx hb dL_748 rfl (lv_at hl 0 rfl) ?_
  refine lv_iconst (v := 1) hx hb dL_749 (by decide) ?_
  refine lv_iadd hx hb dL_750 ?_
  refine pv_sldJ (kn := 1) (x := x1) hx hb hX hbl hbA hS hL hj (by decide) (by decide) hx1.2 dL_751 ?_
  refine lv_aload_n hx hb dL_752 rfl (lv_at hl 3 rfl) ?_
  refine lv_iload_n hx hb dL_753 rfl (lv_at hl 0 rfl) ?_
  refine lv_iconst (v := 2) hx hb dL_754 (by decide) ?_
  refine lv_iadd hx hb dL_755 ?_
  refine pv_sldJ (kn := 2) (x := x2) hx hb hX hbl hbA hS hL hj (by decide) (by decide) hx2.2 dL_756 ?_
  refine lv_aload_n hx hb dL_757 rfl (lv_at hl 3 rfl) ?_
  refine lv_iload_n hx hb dL_758 rfl (lv_at hl 0 rfl) ?_
  refine lv_iconst (v := 3) hx hb dL_759 (by decide) ?_
  refine lv_iadd hx hb dL_760 ?_
  refine pv_sldJ (kn := 3) (x := x3) hx hb hX hbl hbA hS hL hj (by decide) (by decide) hx3.2 dL_761 ?_
  refine lv_aload_n hx hb dL_762 rfl (lv_at hl 3 rfl) ?_
  refine lv_iload_n hx hb dL_763 rfl (lv_at hl 0 rfl) ?_
  refine lv_iconst (v := 4) hx hb dL_764 (by decide) ?_
  refine lv_iadd hx hb dL_765 ?_
  refine pv_sldJ (kn := 4) (x := x4) hx hb hX hbl hbA hS hL hj (by decide) (by decide) hx4.2 dL_766 ?_
  obtain ⟨fs1, hcell1, -⟩ := (hT h1 7 t1).1 _ rfl
  refine pv_lawcall (As := [.int (pv_I x1), .int (pv_I x2), .int (pv_I x3), .int (pv_I x4)]) (rest := []) hx hb hml hown hts hWd lk263 (ct263 (τ := τ) (ρ := ρ) hT t1 hx1.1 hx2.1 hx3.1 hx4.1) hcell1 rfl (by rw [m263]; exact Nat.le_of_ble_eq_true rfl) hR hP hD hS (Nat.le_of_ble_eq_true rfl) hl.1 dL_767 hc (fun r h' H locs ws hq hR hP hD hS => ?_)
  obtain ⟨eh, z1, er, lo1, hi1⟩ := hq
  subst eh
  subst er
  refine W.eq (g2 := F0 m 770 ls [.int (pv_I z1)]) rfl ?_
  refine lv_pop hx hb dL_770 rfl ?_
  refine lv_goto (tgt := 1529) hx hb dL_771 (by decide) ?_
  exact kk _ _ _ _ ⟨hT, t0, t1, hN, hM, hI, hQ, hR, hP, hD, hS⟩
set_option maxHeartbeats 4000000 in
theorem lc_18 (X : pv_LX p s m meth c b L xs K adV dC dI dA) (hL : L ≤ 3072) (hj : 6 * j + 6 ≤ L) (hKok : pv_Kok K) (Y : pv_LY s dC dI dA τ ρ h h0 h1 ws H locs) (hl : lv_has ls 4 [(3, .int (pv_I ((6 * j : Nat) : Int))), (2, .ref h1), (1, .ref h0), (0, .ref b)]) (hc : cells ≤ 600000 ∧ slots ≤ 7302250) (kk : ∀ (h : pv_H) (ws : va_W) (H : Heap) (locs : List Loc), pv_LY s dC dI dA τ ρ h h0 h1 ws H locs → W p l e room_1 s m #[Value.ref b] below meth c H locs cells slots (lw_Z below #[Value.ref b] s) (F0 m 1529 ls [])) : W p l e room_1 s m #[Value.ref b] below meth c H locs cells slots (lw_Z below #[Value.ref b] s) (F0 m 774 ls []) := by
  obtain ⟨hx, hb, hr, hml, hown, hts, hX, hbl, hlk, hWd⟩ := X
  obtain ⟨hT, t0, t1, hN, hM, hI, hQ, hR, hP, hD, hS⟩ := Y
  have hbA : ¬ (fun q => s.heap.size ≤ q) b := fun z => by have : s.heap.size ≤ b := z; omega
  have n1 : τ (ρ h0 1) = some 2 := hT.rf (t' := 2) t0 rfl rfl
  have r1 : τ (ρ h1 1) = some 40 := hT.rf (t' := 40) t1 rfl rfl
  have r2 : τ (ρ h1 2) = some 41 := hT.rf (t' := 41) t1 rfl rfl
  have k5 : τ (ρ h0 5) = some 12 := hT.rf (t' := 12) t0 rfl rfl
  have k24 : τ (ρ h1 24) = some 53 := hT.rf (t' := 53) t1 rfl rfl
  have k25 : τ (ρ h1 25) = some 54 := hT.rf (t' := 54) t1 rfl rfl
  have hQ0 := hQ
  have hT0 := hT
  obtain ⟨x1, hx1⟩ : ∃ x : Int, (-2147483648 ≤ x ∧ x ≤ 2147483647) ∧ xs (6 * j + 1) = pv_I x := ⟨_, pv_I_rep _⟩
  obtain ⟨x2, hx2⟩ : ∃ x : Int, (-2147483648 ≤ x ∧ x ≤ 2147483647) ∧ xs (6 * j + 2) = pv_I x := ⟨_, pv_I_rep _⟩

  refine lv_aload_n hx hb dL_774 rfl (lv_at hl 2 rfl) ?_
  refine lv_aload_n hx hb dL_775 rfl (lv_at hl 3 rfl) ?_
  refine lv_iload_n hx hb dL_776 rfl (lv_at hl 0 rfl) ?_
  refine lv_iconst (v := 1) hx hb dL_777 (by decide) ?_
  refine lv_iadd hx hb dL_778 ?_
  refine pv_sldJ (kn := 1) (x := x1) hx hb hX hbl hbA hS hL hj (by decide) (by decide) hx1.2 dL_779 ?_
  refine lv_aload_n hx hb dL_780 rfl (lv_at hl 3 rfl) ?_
  refine lv_iload_n hx hb dL_781 rfl (lv_at hl 0 rfl) ?_
  refine lv_iconst (v := 2) hx hb dL_782 (by decide) ?_
  refine lv_iadd hx hb dL_783 ?_
  refine pv_sldJ (kn := 2) (x := x2) hx hb hX hbl hbA hS hL hj (by decide) (by decide) hx2.2 dL_784 ?_
  obtain ⟨fs0, hcell0, -⟩ := (hT h0 0 t0).1 _ rfl
  refine pv_lawcall (As := [.int (pv_I x1), .int (pv_I x2)]) (rest := []) hx hb hml hown hts hWd lk118 (ct118 (τ := τ) (ρ := ρ) hT t0 hx1.1 hx2.1 (hN.2 _ n1).1) hcell0 rfl (by rw [m118]; exact Nat.le_of_ble_eq_true rfl) hR hP hD hS (Nat.le_of_ble_eq_true rfl) hl.1 dL_785 hc (fun r h' H locs ws hq hR hP hD hS => ?_)
  obtain ⟨eh, z0, er, lo0, hi0⟩ := hq
  subst eh
  subst er
  refine W.eq (g2 := F0 m 788 ls [.int (pv_I z0)]) rfl ?_
  refine lv_pop hx hb dL_788 rfl ?_
  refine lv_aload_n hx hb dL_789 rfl (lv_at hl 1 rfl) ?_
  refine lv_aload_n hx hb dL_790 rfl (lv_at hl 3 rfl) ?_
  refine lv_iload_n hx hb dL_791 rfl (lv_at hl 0 rfl) ?_
  refine lv_iconst (v := 1) hx hb dL_792 (by decide) ?_
  refine lv_iadd hx hb dL_793 ?_
  refine pv_sldJ (kn := 1) (x := x1) hx hb hX hbl hbA hS hL hj (by decide) (by decide) hx1.2 dL_794 ?_
  refine lv_aload_n hx hb dL_795 rfl (lv_at hl 3 rfl) ?_
  refine lv_iload_n hx hb dL_796 rfl (lv_at hl 0 rfl) ?_
  refine lv_iconst (v := 2) hx hb dL_797 (by decide) ?_
  refine lv_iadd hx hb dL_798 ?_
  refine pv_sldJ (kn := 2) (x := x2) hx hb hX hbl hbA hS hL hj (by decide) (by decide) hx2.2 dL_799 ?_
  obtain ⟨fs1, hcell1, -⟩ := (hT h1 7 t1).1 _ rfl
  refine pv_lawcall (As := [.int (pv_I x1), .int (pv_I x2)]) (rest := []) hx hb hml hown hts hWd lk266 (ct266 (τ := τ) (ρ := ρ) hT t1 hx1.1 hx2.1 (hM.G (((hT.wc r1 (j := 0) rfl (by decide)).2.1 (by decide)).2))) hcell1 rfl (by rw [m266]; exact Nat.le_of_ble_eq_true rfl) hR hP hD hS (Nat.le_of_ble_eq_true rfl) hl.1 dL_800 hc (fun r h' H locs ws hq hR hP hD hS => ?_)
  obtain ⟨eh, z1, er, lo1, hi1⟩ := hq
  subst eh
  subst er
  refine W.eq (g2 := F0 m 803 ls [.int (pv_I z1)]) rfl ?_
  refine lv_pop hx hb dL_803 rfl ?_
  refine lv_goto (tgt := 1529) hx hb dL_804 (by decide) ?_
  exact kk _ _ _ _ ⟨hT, t0, t1, hN, hM, hI, hQ, hR, hP, hD, hS⟩
set_option maxHeartbeats 4000000 in
theorem lc_19 (X : pv_LX p s m meth c b L xs K adV dC dI dA) (hL : L ≤ 3072) (hj : 6 * j + 6 ≤ L) (hKok : pv_Kok K) (Y : pv_LY s dC dI dA τ ρ h h0 h1 ws H locs) (hl : lv_has ls 4 [(3, .int (pv_I ((6 * j : Nat) : Int))), (2, .ref h1), (1, .ref h0), (0, .ref b)]) (hc : cells ≤ 600000 ∧ slots ≤ 7302250) (kk : ∀ (h : pv_H) (ws : va_W) (H : Heap) (locs : List Loc), pv_LY s dC dI dA τ ρ h h0 h1 ws H locs → W p l e room_1 s m #[Value.ref b] below meth c H locs cells slots (lw_Z below #[Value.ref b] s) (F0 m 1529 ls [])) : W p l e room_1 s m #[Value.ref b] below meth c H locs cells slots (lw_Z below #[Value.ref b] s) (F0 m 807 ls []) := by
  obtain ⟨hx, hb, hr, hml, hown, hts, hX, hbl, hlk, hWd⟩ := X
  obtain ⟨hT, t0, t1, hN, hM, hI, hQ, hR, hP, hD, hS⟩ := Y
  have hbA : ¬ (fun q => s.heap.size ≤ q) b := fun z => by have : s.heap.size ≤ b := z; omega
  have n1 : τ (ρ h0 1) = some 2 := hT.rf (t' := 2) t0 rfl rfl
  have r1 : τ (ρ h1 1) = some 40 := hT.rf (t' := 40) t1 rfl rfl
  have r2 : τ (ρ h1 2) = some 41 := hT.rf (t' := 41) t1 rfl rfl
  have k5 : τ (ρ h0 5) = some 12 := hT.rf (t' := 12) t0 rfl rfl
  have k24 : τ (ρ h1 24) = some 53 := hT.rf (t' := 53) t1 rfl rfl
  have k25 : τ (ρ h1 25) = some 54 := hT.rf (t' := 54) t1 rfl rfl
  have hQ0 := hQ
  have hT0 := hT
  obtain ⟨x1, hx1⟩ : ∃ x : Int, (-2147483648 ≤ x ∧ x ≤ 2147483647) ∧ xs (6 * j + 1) = pv_I x := ⟨_, pv_I_rep _⟩
  obtain ⟨x2, hx2⟩ : ∃ x : Int, (-2147483648 ≤ x ∧ x ≤ 2147483647) ∧ xs (6 * j + 2) = pv_I x := ⟨_, pv_I_rep _⟩

  refine lv_aload_n hx hb dL_807 rfl (lv_at hl 2 rfl) ?_
  refine lv_aload_n hx hb dL_808 rfl (lv_at hl 3 rfl) ?_
  refine lv_iload_n hx hb dL_809 rfl (lv_at hl 0 rfl) ?_
  refine lv_iconst (v := 1) hx hb dL_810 (by decide) ?_
  refine lv_iadd hx hb dL_811 ?_
  refine pv_sldJ (kn := 1) (x := x1) hx hb hX hbl hbA hS hL hj (by decide) (by decide) hx1.2 dL_812 ?_
  refine lv_aload_n hx hb dL_813 rfl (lv_at hl 3 rfl) ?_
  refine lv_iload_n hx hb dL_814 rfl (lv_at hl 0 rfl) ?_
  refine lv_iconst (v := 2) hx hb dL_815 (by decide) ?_
  refine lv_iadd hx hb dL_816 ?_
  refine pv_sldJ (kn := 2) (x := x2) hx hb hX hbl hbA hS hL hj (by decide) (by decide) hx2.2 dL_817 ?_
  obtain ⟨fs0, hcell0, -⟩ := (hT h0 0 t0).1 _ rfl
  refine pv_lawcall (As := [.int (pv_I x1), .int (pv_I x2)]) (rest := []) hx hb hml hown hts hWd lk122 (ct122 (τ := τ) (ρ := ρ) hT t0 hx1.1 hx2.1 hN) hcell0 rfl (by rw [m122]; exact Nat.le_of_ble_eq_true rfl) hR hP hD hS (Nat.le_of_ble_eq_true rfl) hl.1 dL_818 hc (fun r h' H locs ws hq hR hP hD hS => ?_)
  obtain ⟨hT', hF', z0, er, lo0, hi0, p0_0⟩ := hq
  subst er
  have hN := p0_0
  have hM : pw_ok (pv_aI h' (ρ h1 1)) := by rw [hF'.aeq r1 (by decide)]; exact hM
  have hI : im_ok (pv_aI h' (ρ h1 2)) := by rw [hF'.aeq r2 (by decide)]; exact hI
  have e24 := hF'.aeq k24 (by decide)
  have e25 := hF'.aeq k25 (by decide)
  have hQ := hQ.fr hT k5 k24 k25 hF' (by decide)
  have hT := hT'
  refine W.eq (g2 := F0 m 821 ls [.int (pv_I z0)]) rfl ?_
  refine lv_pop hx hb dL_821 rfl ?_
  refine lv_aload_n hx hb dL_822 rfl (lv_at hl 1 rfl) ?_
  refine lv_aload_n hx hb dL_823 rfl (lv_at hl 3 rfl) ?_
  refine lv_iload_n hx hb dL_824 rfl (lv_at hl 0 rfl) ?_
  refine lv_iconst (v := 1) hx hb dL_825 (by decide) ?_
  refine lv_iadd hx hb dL_826 ?_
  refine pv_sldJ (kn := 1) (x := x1) hx hb hX hbl hbA hS hL hj (by decide) (by decide) hx1.2 dL_827 ?_
  refine lv_aload_n hx hb dL_828 rfl (lv_at hl 3 rfl) ?_
  refine lv_iload_n hx hb dL_829 rfl (lv_at hl 0 rfl) ?_
  refine lv_iconst (v := 2) hx hb dL_830 (by decide) ?_
  refine lv_iadd hx hb dL_831 ?_
  refine pv_sldJ (kn := 2) (x := x2) hx hb hX hbl hbA hS hL hj (by decide) (by decide) hx2.2 dL_832 ?_
  obtain ⟨fs1, hcell1, -⟩ := (hT h1 7 t1).1 _ rfl
  refine pv_lawcall (As := [.int (pv_I x1), .int (pv_I x2)]) (rest := []) hx hb hml hown hts hWd lk271 (ct271 (τ := τ) (ρ := ρ) hT t1 hx1.1 hx2.1 (hM.G (((hT.wc r1 (j := 0) rfl (by decide)).2.1 (by decide)).2))) hcell1 rfl (by rw [m271]; exact Nat.le_of_ble_eq_true rfl) hR hP hD hS (Nat.le_of_ble_eq_true rfl) hl.1 dL_833 hc (fun r h' H locs ws hq hR hP hD hS => ?_)
  obtain ⟨hT', hF', z1, er, lo1, hi1, p1_0, p1_1, p1_2, p1_3⟩ := hq
  subst er
  have hN := hN.fr hT hF' (by decide)
  have hM : pw_ok (pv_aI h' (ρ h1 1)) := p1_0 hM
  have hI : im_ok (pv_aI h' (ρ h1 2)) := by rw [hF'.aeq r2 (by decide)]; exact hI
  have hQ := hQ.fr hT k5 k24 k25 hF' (by decide)
  have hT := hT'
  refine W.eq (g2 := F0 m 836 ls [.int (pv_I z1)]) rfl ?_
  refine lv_pop hx hb dL_836 rfl ?_
  refine lv_goto (tgt := 1529) hx hb dL_837 (by decide) ?_
  exact kk _ _ _ _ ⟨hT, t0, t1, hN, hM, hI, hQ, hR, hP, hD, hS⟩
set_option maxHeartbeats 4000000 in
theorem lc_20 (X : pv_LX p s m meth c b L xs K adV dC dI dA) (hL : L ≤ 3072) (hj : 6 * j + 6 ≤ L) (hKok : pv_Kok K) (Y : pv_LY s dC dI dA τ ρ h h0 h1 ws H locs) (hl : lv_has ls 4 [(3, .int (pv_I ((6 * j : Nat) : Int))), (2, .ref h1), (1, .ref h0), (0, .ref b)]) (hc : cells ≤ 600000 ∧ slots ≤ 7302250) (kk : ∀ (h : pv_H) (ws : va_W) (H : Heap) (locs : List Loc), pv_LY s dC dI dA τ ρ h h0 h1 ws H locs → W p l e room_1 s m #[Value.ref b] below meth c H locs cells slots (lw_Z below #[Value.ref b] s) (F0 m 1529 ls [])) : W p l e room_1 s m #[Value.ref b] below meth c H locs cells slots (lw_Z below #[Value.ref b] s) (F0 m 840 ls []) := by
  obtain ⟨hx, hb, hr, hml, hown, hts, hX, hbl, hlk, hWd⟩ := X
  obtain ⟨hT, t0, t1, hN, hM, hI, hQ, hR, hP, hD, hS⟩ := Y
  have hbA : ¬ (fun q => s.heap.size ≤ q) b := fun z => by have : s.heap.size ≤ b := z; omega
  have n1 : τ (ρ h0 1) = some 2 := hT.rf (t' := 2) t0 rfl rfl
  have r1 : τ (ρ h1 1) = some 40 := hT.rf (t' := 40) t1 rfl rfl
  have r2 : τ (ρ h1 2) = some 41 := hT.rf (t' := 41) t1 rfl rfl
  have k5 : τ (ρ h0 5) = some 12 := hT.rf (t' := 12) t0 rfl rfl
  have k24 : τ (ρ h1 24) = some 53 := hT.rf (t' := 53) t1 rfl rfl
  have k25 : τ (ρ h1 25) = some 54 := hT.rf (t' := 54) t1 rfl rfl
  have hQ0 := hQ
  have hT0 := hT

  refine lv_aload_n hx hb dL_840 rfl (lv_at hl 2 rfl) ?_
  obtain ⟨fs0, hcell0, -⟩ := (hT h0 0 t0).1 _ rfl
  refine pv_lawcall (As := []) (rest := []) hx hb hml hown hts hWd lk127 (ct127 (τ := τ) (ρ := ρ) hT t0 (hN.2 _ n1).1) hcell0 rfl (by rw [m127]; exact Nat.le_of_ble_eq_true rfl) hR hP hD hS (Nat.le_of_ble_eq_true rfl) hl.1 dL_841 hc (fun r h' H locs ws hq hR hP hD hS => ?_)
  obtain ⟨eh, z0, er, lo0, hi0⟩ := hq
  subst eh
  subst er
  refine W.eq (g2 := F0 m 844 ls [.int (pv_I z0)]) rfl ?_
  refine lv_pop hx hb dL_844 rfl ?_
  refine lv_aload_n hx hb dL_845 rfl (lv_at hl 1 rfl) ?_
  obtain ⟨fs1, hcell1, -⟩ := (hT h1 7 t1).1 _ rfl
  refine pv_lawcall (As := []) (rest := []) hx hb hml hown hts hWd lk275 (ct275 (τ := τ) (ρ := ρ) hT t1 (hM.G (((hT.wc r1 (j := 0) rfl (by decide)).2.1 (by decide)).2))) hcell1 rfl (by rw [m275]; exact Nat.le_of_ble_eq_true rfl) hR hP hD hS (Nat.le_of_ble_eq_true rfl) hl.1 dL_846 hc (fun r h' H locs ws hq hR hP hD hS => ?_)
  obtain ⟨eh, z1, er, lo1, hi1⟩ := hq
  subst eh
  subst er
  refine W.eq (g2 := F0 m 849 ls [.int (pv_I z1)]) rfl ?_
  refine lv_pop hx hb dL_849 rfl ?_
  refine lv_goto (tgt := 1529) hx hb dL_850 (by decide) ?_
  exact kk _ _ _ _ ⟨hT, t0, t1, hN, hM, hI, hQ, hR, hP, hD, hS⟩
set_option maxHeartbeats 4000000 in
theorem lc_21 (X : pv_LX p s m meth c b L xs K adV dC dI dA) (hL : L ≤ 3072) (hj : 6 * j + 6 ≤ L) (hKok : pv_Kok K) (Y : pv_LY s dC dI dA τ ρ h h0 h1 ws H locs) (hl : lv_has ls 4 [(3, .int (pv_I ((6 * j : Nat) : Int))), (2, .ref h1), (1, .ref h0), (0, .ref b)]) (hc : cells ≤ 600000 ∧ slots ≤ 7302250) (kk : ∀ (h : pv_H) (ws : va_W) (H : Heap) (locs : List Loc), pv_LY s dC dI dA τ ρ h h0 h1 ws H locs → W p l e room_1 s m #[Value.ref b] below meth c H locs cells slots (lw_Z below #[Value.ref b] s) (F0 m 1529 ls [])) : W p l e room_1 s m #[Value.ref b] below meth c H locs cells slots (lw_Z below #[Value.ref b] s) (F0 m 853 ls []) := by
  obtain ⟨hx, hb, hr, hml, hown, hts, hX, hbl, hlk, hWd⟩ := X
  obtain ⟨hT, t0, t1, hN, hM, hI, hQ, hR, hP, hD, hS⟩ := Y
  have hbA : ¬ (fun q => s.heap.size ≤ q) b := fun z => by have : s.heap.size ≤ b := z; omega
  have n1 : τ (ρ h0 1) = some 2 := hT.rf (t' := 2) t0 rfl rfl
  have r1 : τ (ρ h1 1) = some 40 := hT.rf (t' := 40) t1 rfl rfl
  have r2 : τ (ρ h1 2) = some 41 := hT.rf (t' := 41) t1 rfl rfl
  have k5 : τ (ρ h0 5) = some 12 := hT.rf (t' := 12) t0 rfl rfl
  have k24 : τ (ρ h1 24) = some 53 := hT.rf (t' := 53) t1 rfl rfl
  have k25 : τ (ρ h1 25) = some 54 := hT.rf (t' := 54) t1 rfl rfl
  have hQ0 := hQ
  have hT0 := hT
  obtain ⟨x1, hx1⟩ : ∃ x : Int, (-2147483648 ≤ x ∧ x ≤ 2147483647) ∧ xs (6 * j + 1) = pv_I x := ⟨_, pv_I_rep _⟩

  refine lv_aload_n hx hb dL_853 rfl (lv_at hl 2 rfl) ?_
  refine lv_aload_n hx hb dL_854 rfl (lv_at hl 3 rfl) ?_
  refine lv_iload_n hx hb dL_855 rfl (lv_at hl 0 rfl) ?_
  refine lv_iconst (v := 1) hx hb dL_856 (by decide) ?_
  refine lv_iadd hx hb dL_857 ?_
  refine pv_sldJ (kn := 1) (x := x1) hx hb hX hbl hbA hS hL hj (by decide) (by decide) hx1.2 dL_858 ?_
  obtain ⟨fs0, hcell0, -⟩ := (hT h0 0 t0).1 _ rfl
  refine pv_lawcall (As := [.int (pv_I x1)]) (rest := []) hx hb hml hown hts hWd lk129 (ct129 (τ := τ) (ρ := ρ) hT t0 hx1.1 hN) hcell0 rfl (by rw [m129]; exact Nat.le_of_ble_eq_true rfl) hR hP hD hS (Nat.le_of_ble_eq_true rfl) hl.1 dL_859 hc (fun r h' H locs ws hq hR hP hD hS => ?_)
  obtain ⟨hT', hF', z0, er, lo0, hi0, p0_0⟩ := hq
  subst er
  have hN := p0_0
  have hM : pw_ok (pv_aI h' (ρ h1 1)) := by rw [hF'.aeq r1 (by decide)]; exact hM
  have hI : im_ok (pv_aI h' (ρ h1 2)) := by rw [hF'.aeq r2 (by decide)]; exact hI
  have e24 := hF'.aeq k24 (by decide)
  have e25 := hF'.aeq k25 (by decide)
  have hQ := hQ.fr hT k5 k24 k25 hF' (by decide)
  have hT := hT'
  refine W.eq (g2 := F0 m 862 ls [.int (pv_I z0)]) rfl ?_
  refine lv_pop hx hb dL_862 rfl ?_
  refine lv_aload_n hx hb dL_863 rfl (lv_at hl 1 rfl) ?_
  refine lv_aload_n hx hb dL_864 rfl (lv_at hl 3 rfl) ?_
  refine lv_iload_n hx hb dL_865 rfl (lv_at hl 0 rfl) ?_
  refine lv_iconst (v := 1) hx hb dL_866 (by decide) ?_
  refine lv_iadd hx hb dL_867 ?_
  refine pv_sldJ (kn := 1) (x := x1) hx hb hX hbl hbA hS hL hj (by decide) (by decide) hx1.2 dL_868 ?_
  obtain ⟨fs1, hcell1, -⟩ := (hT h1 7 t1).1 _ rfl
  refine pv_lawcall (As := [.int (pv_I x1)]) (rest := []) hx hb hml hown hts hWd lk277 (ct277 (τ := τ) (ρ := ρ) hT t1 hx1.1 (hM.G (((hT.wc r1 (j := 0) rfl (by decide)).2.1 (by decide)).2))) hcell1 rfl (by rw [m277]; exact Nat.le_of_ble_eq_true rfl) hR hP hD hS (Nat.le_of_ble_eq_true rfl) hl.1 dL_869 hc (fun r h' H locs ws hq hR hP hD hS => ?_)
  obtain ⟨hT', hF', z1, er, lo1, hi1, p1_0, p1_1⟩ := hq
  subst er
  have hN := hN.fr hT hF' (by decide)
  have hM : pw_ok (pv_aI h' (ρ h1 1)) := p1_0 hM
  have hI : im_ok (pv_aI h' (ρ h1 2)) := by rw [hF'.aeq r2 (by decide)]; exact hI
  have hQ := hQ.fr hT k5 k24 k25 hF' (by decide)
  have hT := hT'
  refine W.eq (g2 := F0 m 872 ls [.int (pv_I z1)]) rfl ?_
  refine lv_pop hx hb dL_872 rfl ?_
  refine lv_goto (tgt := 1529) hx hb dL_873 (by decide) ?_
  exact kk _ _ _ _ ⟨hT, t0, t1, hN, hM, hI, hQ, hR, hP, hD, hS⟩
end LE
