section LE
variable {p : Program} {l : Launch} {e : Env} {s : State} {m : MethodId} {below : List Frame} {meth : Method} {c : Code} {H : Heap} {locs : List Loc} {cells slots : Nat} {K adV : Nat → Nat} {dC : Nat → ClassId} {dI : Nat → Nat → Nat} {dA : Nat → ClassId} {b h0 h1 L j : Nat} {xs : Nat → Int32} {ls : Array Slot} {τ : Nat → Option Nat} {ρ : Nat → Nat → Nat} {h : pv_H} {ws : va_W}
set_option maxHeartbeats 4000000 in
theorem lc_22 (X : pv_LX p s m meth c b L xs K adV dC dI dA) (hL : L ≤ 3072) (hj : 6 * j + 6 ≤ L) (hKok : pv_Kok K) (Y : pv_LY s dC dI dA τ ρ h h0 h1 ws H locs) (hl : lv_has ls 4 [(3, .int (pv_I ((6 * j : Nat) : Int))), (2, .ref h1), (1, .ref h0), (0, .ref b)]) (hc : cells ≤ 600000 ∧ slots ≤ 7302250) (kk : ∀ (h : pv_H) (ws : va_W) (H : Heap) (locs : List Loc), pv_LY s dC dI dA τ ρ h h0 h1 ws H locs → W p l e room_1 s m #[Value.ref b] below meth c H locs cells slots (lw_Z below #[Value.ref b] s) (F0 m 1529 ls [])) : W p l e room_1 s m #[Value.ref b] below meth c H locs cells slots (lw_Z below #[Value.ref b] s) (F0 m 876 ls []) := by
  obtain ⟨hx, hb, hr, hml, hown, hts, hX, hbl, hlk, hWd⟩ := X
  obtain ⟨hT, t0, t1, hN, hM, hI, hQ, hR, hP, hD, hS⟩ := Y
  have hbA : ¬ (fun q => s.heap.size ≤ q) b := fun z => by have : s.heap.size ≤ b := z; omega
  have n1 : τ (ρ h0 1) = some 2 := hT.rf (t' := 2) t0 rfl rfl
  have r1 : τ (ρ h1 1) = some 40 := hT.rf (t' := 40) t1 rfl rfl
  have r2 : τ (ρ h1 2) = some 41 := hT.rf (t' := 41) t1 rfl rfl
  have k5 : τ (ρ h0 5) = some 12 := hT.rf (t' := 12) t0 rfl rfl
  have k24 : τ (ρ h1 24) = some 53 := hT.rf (t' := 53) t1 rfl rfl
  have k25 : τ (ρ h1 25) = some 54 := hT.rf (t' := 54) t1 rfl rfl
  have hQ0 := hQ
  have hT0 := hT

  refine lv_aload_n hx hb dL_876 rfl (lv_at hl 2 rfl) ?_
  obtain ⟨fs0, hcell0, -⟩ := (hT h0 0 t0).1 _ rfl
  refine pv_lawcall (As := []) (rest := []) hx hb hml hown hts hWd lk130 (ct130 (τ := τ) (ρ := ρ) hT t0 hN) hcell0 rfl (by rw [m130]; exact Nat.le_of_ble_eq_true rfl) hR hP hD hS (Nat.le_of_ble_eq_true rfl) hl.1 dL_877 hc (fun r h' H locs ws hq hR hP hD hS => ?_)
  obtain ⟨hT', hF', z0, er, lo0, hi0, p0_0⟩ := hq
  subst er
  have hN := p0_0
  have hM : pw_ok (pv_aI h' (ρ h1 1)) := by rw [hF'.aeq r1 (by decide)]; exact hM
  have hI : im_ok (pv_aI h' (ρ h1 2)) := by rw [hF'.aeq r2 (by decide)]; exact hI
  have e24 := hF'.aeq k24 (by decide)
  have e25 := hF'.aeq k25 (by decide)
  have hQ := hQ.fr hT k5 k24 k25 hF' (by decide)
  have hT := hT'
  refine W.eq (g2 := F0 m 880 ls [.int (pv_I z0)]) rfl ?_
  refine lv_pop hx hb dL_880 rfl ?_
  refine lv_aload_n hx hb dL_881 rfl (lv_at hl 1 rfl) ?_
  obtain ⟨fs1, hcell1, -⟩ := (hT h1 7 t1).1 _ rfl
  refine pv_lawcall (As := []) (rest := []) hx hb hml hown hts hWd lk278 (ct278 (τ := τ) (ρ := ρ) hT t1 hM) hcell1 rfl (by rw [m278]; exact Nat.le_of_ble_eq_true rfl) hR hP hD hS (Nat.le_of_ble_eq_true rfl) hl.1 dL_882 hc (fun r h' H locs ws hq hR hP hD hS => ?_)
  obtain ⟨hT', hF', z1, er, lo1, hi1, p1_0⟩ := hq
  subst er
  have hN := hN.fr hT hF' (by decide)
  have hM : pw_ok (pv_aI h' (ρ h1 1)) := p1_0
  have hI : im_ok (pv_aI h' (ρ h1 2)) := by rw [hF'.aeq r2 (by decide)]; exact hI
  have hQ := hQ.fr hT k5 k24 k25 hF' (by decide)
  have hT := hT'
  refine W.eq (g2 := F0 m 885 ls [.int (pv_I z1)]) rfl ?_
  refine lv_pop hx hb dL_885 rfl ?_
  refine lv_goto (tgt := 1529) hx hb dL_886 (by decide) ?_
  exact kk _ _ _ _ ⟨hT, t0, t1, hN, hM, hI, hQ, hR, hP, hD, hS⟩
set_option maxHeartbeats 4000000 in
theorem lc_23 (X : pv_LX p s m meth c b L xs K adV dC dI dA) (hL : L ≤ 3072) (hj : 6 * j + 6 ≤ L) (hKok : pv_Kok K) (Y : pv_LY s dC dI dA τ ρ h h0 h1 ws H locs) (hl : lv_has ls 4 [(3, .int (pv_I ((6 * j : Nat) : Int))), (2, .ref h1), (1, .ref h0), (0, .ref b)]) (hc : cells ≤ 600000 ∧ slots ≤ 7302250) (kk : ∀ (h : pv_H) (ws : va_W) (H : Heap) (locs : List Loc), pv_LY s dC dI dA τ ρ h h0 h1 ws H locs → W p l e room_1 s m #[Value.ref b] below meth c H locs cells slots (lw_Z below #[Value.ref b] s) (F0 m 1529 ls [])) : W p l e room_1 s m #[Value.ref b] below meth c H locs cells slots (lw_Z below #[Value.ref b] s) (F0 m 889 ls []) := by
  obtain ⟨hx, hb, hr, hml, hown, hts, hX, hbl, hlk, hWd⟩ := X
  obtain ⟨hT, t0, t1, hN, hM, hI, hQ, hR, hP, hD, hS⟩ := Y
  have hbA : ¬ (fun q => s.heap.size ≤ q) b := fun z => by have : s.heap.size ≤ b := z; omega
  have n1 : τ (ρ h0 1) = some 2 := hT.rf (t' := 2) t0 rfl rfl
  have r1 : τ (ρ h1 1) = some 40 := hT.rf (t' := 40) t1 rfl rfl
  have r2 : τ (ρ h1 2) = some 41 := hT.rf (t' := 41) t1 rfl rfl
  have k5 : τ (ρ h0 5) = some 12 := hT.rf (t' := 12) t0 rfl rfl
  have k24 : τ (ρ h1 24) = some 53 := hT.rf (t' := 53) t1 rfl rfl
  have k25 : τ (ρ h1 25) = some 54 := hT.rf (t' := 54) t1 rfl rfl
  have hQ0 := hQ
  have hT0 := hT

  refine lv_aload_n hx hb dL_889 rfl (lv_at hl 2 rfl) ?_
  obtain ⟨fs0, hcell0, -⟩ := (hT h0 0 t0).1 _ rfl
  refine pv_lawcall (As := []) (rest := []) hx hb hml hown hts hWd lk133 (ct133 (τ := τ) (ρ := ρ) hT t0 hN) hcell0 rfl (by rw [m133]; exact Nat.le_of_ble_eq_true rfl) hR hP hD hS (Nat.le_of_ble_eq_true rfl) hl.1 dL_890 hc (fun r h' H locs ws hq hR hP hD hS => ?_)
  obtain ⟨hT', hF', z0, er, lo0, hi0, p0_0⟩ := hq
  subst er
  have hN := p0_0
  have hM : pw_ok (pv_aI h' (ρ h1 1)) := by rw [hF'.aeq r1 (by decide)]; exact hM
  have hI : im_ok (pv_aI h' (ρ h1 2)) := by rw [hF'.aeq r2 (by decide)]; exact hI
  have e24 := hF'.aeq k24 (by decide)
  have e25 := hF'.aeq k25 (by decide)
  have hQ := hQ.fr hT k5 k24 k25 hF' (by decide)
  have hT := hT'
  refine W.eq (g2 := F0 m 893 ls [.int (pv_I z0)]) rfl ?_
  refine lv_pop hx hb dL_893 rfl ?_
  refine lv_aload_n hx hb dL_894 rfl (lv_at hl 1 rfl) ?_
  obtain ⟨fs1, hcell1, -⟩ := (hT h1 7 t1).1 _ rfl
  refine pv_lawcall (As := []) (rest := []) hx hb hml hown hts hWd lk279 (ct279 (τ := τ) (ρ := ρ) hT t1 hM) hcell1 rfl (by rw [m279]; exact Nat.le_of_ble_eq_true rfl) hR hP hD hS (Nat.le_of_ble_eq_true rfl) hl.1 dL_895 hc (fun r h' H locs ws hq hR hP hD hS => ?_)
  obtain ⟨hT', hF', z1, er, lo1, hi1, p1_0⟩ := hq
  subst er
  have hN := hN.fr hT hF' (by decide)
  have hM : pw_ok (pv_aI h' (ρ h1 1)) := p1_0
  have hI : im_ok (pv_aI h' (ρ h1 2)) := by rw [hF'.aeq r2 (by decide)]; exact hI
  have hQ := hQ.fr hT k5 k24 k25 hF' (by decide)
  have hT := hT'
  refine W.eq (g2 := F0 m 898 ls [.int (pv_I z1)]) rfl ?_
  refine lv_pop hx hb dL_898 rfl ?_
  refine lv_goto (tgt := 1529) hx hb dL_899 (by decide) ?_
  exact kk _ _ _ _ ⟨hT, t0, t1, hN, hM, hI, hQ, hR, hP, hD, hS⟩
set_option maxHeartbeats 4000000 in
theorem lc_24 (X : pv_LX p s m meth c b L xs K adV dC dI dA) (hL : L ≤ 3072) (hj : 6 * j + 6 ≤ L) (hKok : pv_Kok K) (Y : pv_LY s dC dI dA τ ρ h h0 h1 ws H locs) (hl : lv_has ls 4 [(3, .int (pv_I ((6 * j : Nat) : Int))), (2, .ref h1), (1, .ref h0), (0, .ref b)]) (hc : cells ≤ 600000 ∧ slots ≤ 7302250) (kk : ∀ (h : pv_H) (ws : va_W) (H : Heap) (locs : List Loc), pv_LY s dC dI dA τ ρ h h0 h1 ws H locs → W p l e room_1 s m #[Value.ref b] below meth c H locs cells slots (lw_Z below #[Value.ref b] s) (F0 m 1529 ls [])) : W p l e room_1 s m #[Value.ref b] below meth c H locs cells slots (lw_Z below #[Value.ref b] s) (F0 m 902 ls []) := by
  obtain ⟨hx, hb, hr, hml, hown, hts, hX, hbl, hlk, hWd⟩ := X
  obtain ⟨hT, t0, t1, hN, hM, hI, hQ, hR, hP, hD, hS⟩ := Y
  have hbA : ¬ (fun q => s.heap.size ≤ q) b := fun z => by have : s.heap.size ≤ b := z; omega
  have n1 : τ (ρ h0 1) = some 2 := hT.rf (t' := 2) t0 rfl rfl
  have r1 : τ (ρ h1 1) = some 40 := hT.rf (t' := 40) t1 rfl rfl
  have r2 : τ (ρ h1 2) = some 41 := hT.rf (t' := 41) t1 rfl rfl
  have k5 : τ (ρ h0 5) = some 12 := hT.rf (t' := 12) t0 rfl rfl
  have k24 : τ (ρ h1 24) = some 53 := hT.rf (t' := 53) t1 rfl rfl
  have k25 : τ (ρ h1 25) = some 54 := hT.rf (t' := 54) t1 rfl rfl
  have hQ0 := hQ
  have hT0 := hT
  obtain ⟨x1, hx1⟩ : ∃ x : Int, (-2147483648 ≤ x ∧ x ≤ 2147483647) ∧ xs (6 * j + 1) = pv_I x := ⟨_, pv_I_rep _⟩
  obtain ⟨x2, hx2⟩ : ∃ x : Int, (-2147483648 ≤ x ∧ x ≤ 2147483647) ∧ xs (6 * j + 2) = pv_I x := ⟨_, pv_I_rep _⟩

  refine lv_aload_n hx hb dL_902 rfl (lv_at hl 2 rfl) ?_
  refine lv_aload_n hx hb dL_903 rfl (lv_at hl 3 rfl) ?_
  refine lv_iload_n hx hb dL_904 rfl (lv_at hl 0 rfl) ?_
  refine lv_iconst (v := 1) hx hb dL_905 (by decide) ?_
  refine lv_iadd hx hb dL_906 ?_
  refine pv_sldJ (kn := 1) (x := x1) hx hb hX hbl hbA hS hL hj (by decide) (by decide) hx1.2 dL_907 ?_
  refine lv_aload_n hx hb dL_908 rfl (lv_at hl 3 rfl) ?_
  refine lv_iload_n hx hb dL_909 rfl (lv_at hl 0 rfl) ?_
  refine lv_iconst (v := 2) hx hb dL_910 (by decide) ?_
  refine lv_iadd hx hb dL_911 ?_
  refine pv_sldJ (kn := 2) (x := x2) hx hb hX hbl hbA hS hL hj (by decide) (by decide) hx2.2 dL_912 ?_
  obtain ⟨fs0, hcell0, -⟩ := (hT h0 0 t0).1 _ rfl
  refine pv_lawcall (As := [.int (pv_I x1), .int (pv_I x2)]) (rest := []) hx hb hml hown hts hWd lk135 (ct135 (τ := τ) (ρ := ρ) hT t0 hx1.1 hx2.1 hN) hcell0 rfl (by rw [m135]; exact Nat.le_of_ble_eq_true rfl) hR hP hD hS (Nat.le_of_ble_eq_true rfl) hl.1 dL_913 hc (fun r h' H locs ws hq hR hP hD hS => ?_)
  obtain ⟨hT', hF', z0, er, lo0, hi0, p0_0⟩ := hq
  subst er
  have hN := p0_0
  have hM : pw_ok (pv_aI h' (ρ h1 1)) := by rw [hF'.aeq r1 (by decide)]; exact hM
  have hI : im_ok (pv_aI h' (ρ h1 2)) := by rw [hF'.aeq r2 (by decide)]; exact hI
  have e24 := hF'.aeq k24 (by decide)
  have e25 := hF'.aeq k25 (by decide)
  have hQ := hQ.fr hT k5 k24 k25 hF' (by decide)
  have hT := hT'
  refine W.eq (g2 := F0 m 916 ls [.int (pv_I z0)]) rfl ?_
  refine lv_pop hx hb dL_916 rfl ?_
  refine lv_aload_n hx hb dL_917 rfl (lv_at hl 1 rfl) ?_
  refine lv_aload_n hx hb dL_918 rfl (lv_at hl 3 rfl) ?_
  refine lv_iload_n hx hb dL_919 rfl (lv_at hl 0 rfl) ?_
  refine lv_iconst (v := 1) hx hb dL_920 (by decide) ?_
  refine lv_iadd hx hb dL_921 ?_
  refine pv_sldJ (kn := 1) (x := x1) hx hb hX hbl hbA hS hL hj (by decide) (by decide) hx1.2 dL_922 ?_
  refine lv_aload_n hx hb dL_923 rfl (lv_at hl 3 rfl) ?_
  refine lv_iload_n hx hb dL_924 rfl (lv_at hl 0 rfl) ?_
  refine lv_iconst (v := 2) hx hb dL_925 (by decide) ?_
  refine lv_iadd hx hb dL_926 ?_
  refine pv_sldJ (kn := 2) (x := x2) hx hb hX hbl hbA hS hL hj (by decide) (by decide) hx2.2 dL_927 ?_
  obtain ⟨fs1, hcell1, -⟩ := (hT h1 7 t1).1 _ rfl
  refine pv_lawcall (As := [.int (pv_I x1), .int (pv_I x2)]) (rest := []) hx hb hml hown hts hWd lk280 (ct280 (τ := τ) (ρ := ρ) hT t1 hx1.1 hx2.1 hM) hcell1 rfl (by rw [m280]; exact Nat.le_of_ble_eq_true rfl) hR hP hD hS (Nat.le_of_ble_eq_true rfl) hl.1 dL_928 hc (fun r h' H locs ws hq hR hP hD hS => ?_)
  obtain ⟨hT', hF', z1, er, lo1, hi1, p1_0⟩ := hq
  subst er
  have hN := hN.fr hT hF' (by decide)
  have hM : pw_ok (pv_aI h' (ρ h1 1)) := p1_0
  have hI : im_ok (pv_aI h' (ρ h1 2)) := by rw [hF'.aeq r2 (by decide)]; exact hI
  have hQ := hQ.fr hT k5 k24 k25 hF' (by decide)
  have hT := hT'
  refine W.eq (g2 := F0 m 931 ls [.int (pv_I z1)]) rfl ?_
  refine lv_pop hx hb dL_931 rfl ?_
  refine lv_goto (tgt := 1529) hx hb dL_932 (by decide) ?_
  exact kk _ _ _ _ ⟨hT, t0, t1, hN, hM, hI, hQ, hR, hP, hD, hS⟩
set_option maxHeartbeats 4000000 in
theorem lc_25 (X : pv_LX p s m meth c b L xs K adV dC dI dA) (hL : L ≤ 3072) (hj : 6 * j + 6 ≤ L) (hKok : pv_Kok K) (Y : pv_LY s dC dI dA τ ρ h h0 h1 ws H locs) (hl : lv_has ls 4 [(3, .int (pv_I ((6 * j : Nat) : Int))), (2, .ref h1), (1, .ref h0), (0, .ref b)]) (hc : cells ≤ 600000 ∧ slots ≤ 7302250) (kk : ∀ (h : pv_H) (ws : va_W) (H : Heap) (locs : List Loc), pv_LY s dC dI dA τ ρ h h0 h1 ws H locs → W p l e room_1 s m #[Value.ref b] below meth c H locs cells slots (lw_Z below #[Value.ref b] s) (F0 m 1529 ls [])) : W p l e room_1 s m #[Value.ref b] below meth c H locs cells slots (lw_Z below #[Value.ref b] s) (F0 m 935 ls []) := by
  obtain ⟨hx, hb, hr, hml, hown, hts, hX, hbl, hlk, hWd⟩ := X
  obtain ⟨hT, t0, t1, hN, hM, hI, hQ, hR, hP, hD, hS⟩ := Y
  have hbA : ¬ (fun q => s.heap.size ≤ q) b := fun z => by have : s.heap.size ≤ b := z; omega
  have n1 : τ (ρ h0 1) = some 2 := hT.rf (t' := 2) t0 rfl rfl
  have r1 : τ (ρ h1 1) = some 40 := hT.rf (t' := 40) t1 rfl rfl
  have r2 : τ (ρ h1 2) = some 41 := hT.rf (t' := 41) t1 rfl rfl
  have k5 : τ (ρ h0 5) = some 12 := hT.rf (t' := 12) t0 rfl rfl
  have k24 : τ (ρ h1 24) = some 53 := hT.rf (t' := 53) t1 rfl rfl
  have k25 : τ (ρ h1 25) = some 54 := hT.rf (t' := 54) t1 rfl rfl
  have hQ0 := hQ
  have hT0 := hT
  obtain ⟨x1, hx1⟩ : ∃ x : Int, (-2147483648 ≤ x ∧ x ≤ 2147483647) ∧ xs (6 * j + 1) = pv_I x := ⟨_, pv_I_rep _⟩
  obtain ⟨x2, hx2⟩ : ∃ x : Int, (-2147483648 ≤ x ∧ x ≤ 2147483647) ∧ xs (6 * j + 2) = pv_I x := ⟨_, pv_I_rep _⟩
  obtain ⟨x3, hx3⟩ : ∃ x : Int, (-2147483648 ≤ x ∧ x ≤ 2147483647) ∧ xs (6 * j + 3) = pv_I x := ⟨_, pv_I_rep _⟩

  refine lv_aload_n hx hb dL_935 rfl (lv_at hl 2 rfl) ?_
  refine lv_aload_n hx hb dL_936 rfl (lv_at hl 3 rfl) ?_
  refine lv_iload_n hx hb dL_937 rfl (lv_at hl 0 rfl) ?_
  refine lv_iconst (v := 1) hx hb dL_938 (by decide) ?_
  refine lv_iadd hx hb dL_939 ?_
  refine pv_sldJ (kn := 1) (x := x1) hx hb hX hbl hbA hS hL hj (by decide) (by decide) hx1.2 dL_940 ?_
  refine lv_aload_n hx hb dL_941 rfl (lv_at hl 3 rfl) ?_
  refine lv_iload_n hx hb dL_942 rfl (lv_at hl 0 rfl) ?_
  refine lv_iconst (v := 2) hx hb dL_943 (by decide) ?_
  refine lv_iadd hx hb dL_944 ?_
  refine pv_sldJ (kn := 2) (x := x2) hx hb hX hbl hbA hS hL hj (by decide) (by decide) hx2.2 dL_945 ?_
  refine lv_aload_n hx hb dL_946 rfl (lv_at hl 3 rfl) ?_
  refine lv_iload_n hx hb dL_947 rfl (lv_at hl 0 rfl) ?_
  refine lv_iconst (v := 3) hx hb dL_948 (by decide) ?_
  refine lv_iadd hx hb dL_949 ?_
  refine pv_sldJ (kn := 3) (x := x3) hx hb hX hbl hbA hS hL hj (by decide) (by decide) hx3.2 dL_950 ?_
  obtain ⟨fs0, hcell0, -⟩ := (hT h0 0 t0).1 _ rfl
  refine pv_lawcall (As := [.int (pv_I x1), .int (pv_I x2), .int (pv_I x3)]) (rest := []) hx hb hml hown hts hWd lk136 (ct136 (τ := τ) (ρ := ρ) hT t0 hx1.1 hx2.1 hx3.1) hcell0 rfl (by rw [m136]; exact Nat.le_of_ble_eq_true rfl) hR hP hD hS (Nat.le_of_ble_eq_true rfl) hl.1 dL_951 hc (fun r h' H locs ws hq hR hP hD hS => ?_)
  obtain ⟨hT', hF', z0, er, lo0, hi0⟩ := hq
  subst er
  have hN := hN.fr hT hF' (by decide)
  have hM : pw_ok (pv_aI h' (ρ h1 1)) := by rw [hF'.aeq r1 (by decide)]; exact hM
  have hI : im_ok (pv_aI h' (ρ h1 2)) := by rw [hF'.aeq r2 (by decide)]; exact hI
  have e24 := hF'.aeq k24 (by decide)
  have e25 := hF'.aeq k25 (by decide)
  have hQ := hQ.fr hT k5 k24 k25 hF' (by decide)
  have hT := hT'
  refine W.eq (g2 := F0 m 954 ls [.int (pv_I z0)]) rfl ?_
  refine lv_pop hx hb dL_954 rfl ?_
  refine lv_aload_n hx hb dL_955 rfl (lv_at hl 1 rfl) ?_
  refine lv_aload_n hx hb dL_956 rfl (lv_at hl 3 rfl) ?_
  refine lv_iload_n hx hb dL_957 rfl (lv_at hl 0 rfl) ?_
  refine lv_iconst (v := 1) hx hb dL_958 (by decide) ?_
  refine lv_iadd hx hb dL_959 ?_
  refine pv_sldJ (kn := 1) (x := x1) hx hb hX hbl hbA hS hL hj (by decide) (by decide) hx1.2 dL_960 ?_
  refine lv_aload_n hx hb dL_961 rfl (lv_at hl 3 rfl) ?_
  refine lv_iload_n hx hb dL_962 rfl (lv_at hl 0 rfl) ?_
  refine lv_iconst (v := 2) hx hb dL_963 (by decide) ?_
  refine lv_iadd hx hb dL_964 ?_
  refine pv_sldJ (kn := 2) (x := x2) hx hb hX hbl hbA hS hL hj (by decide) (by decide) hx2.2 dL_965 ?_
  refine lv_aload_n hx hb dL_966 rfl (lv_at hl 3 rfl) ?_
  refine lv_iload_n hx hb dL_967 rfl (lv_at hl 0 rfl) ?_
  refine lv_iconst (v := 3) hx hb dL_968 (by decide) ?_
  refine lv_iadd hx hb dL_969 ?_
  refine pv_sldJ (kn := 3) (x := x3) hx hb hX hbl hbA hS hL hj (by decide) (by decide) hx3.2 dL_970 ?_
  obtain ⟨fs1, hcell1, -⟩ := (hT h1 7 t1).1 _ rfl
  refine pv_lawcall (As := [.int (pv_I x1), .int (pv_I x2), .int (pv_I x3)]) (rest := []) hx hb hml hown hts hWd lk282 (ct282F (τ := τ) (ρ := ρ) hT t1 hx1.1 hx2.1 hx3.1) hcell1 rfl (by rw [m282]; exact Nat.le_of_ble_eq_true rfl) hR hP hD hS (Nat.le_of_ble_eq_true rfl) hl.1 dL_971 hc (fun r h' H locs ws hq hR hP hD hS => ?_)
  obtain ⟨hT', hF', z1, er, lo1, hi1, p1_0⟩ := hq
  subst er
  have hN := hN.fr hT hF' (by decide)
  have hM : pw_ok (pv_aI h' (ρ h1 1)) := p1_0 hM
  have hI : im_ok (pv_aI h' (ρ h1 2)) := by rw [hF'.aeq r2 (by decide)]; exact hI
  have hQ := hQ.fr hT k5 k24 k25 hF' (by decide)
  have hT := hT'
  refine W.eq (g2 := F0 m 974 ls [.int (pv_I z1)]) rfl ?_
  refine lv_pop hx hb dL_974 rfl ?_
  refine lv_goto (tgt := 1529) hx hb dL_975 (by decide) ?_
  exact kk _ _ _ _ ⟨hT, t0, t1, hN, hM, hI, hQ, hR, hP, hD, hS⟩
set_option maxHeartbeats 4000000 in
theorem lc_26 (X : pv_LX p s m meth c b L xs K adV dC dI dA) (hL : L ≤ 3072) (hj : 6 * j + 6 ≤ L) (hKok : pv_Kok K) (Y : pv_LY s dC dI dA τ ρ h h0 h1 ws H locs) (hl : lv_has ls 4 [(3, .int (pv_I ((6 * j : Nat) : Int))), (2, .ref h1), (1, .ref h0), (0, .ref b)]) (hc : cells ≤ 600000 ∧ slots ≤ 7302250) (kk : ∀ (h : pv_H) (ws : va_W) (H : Heap) (locs : List Loc), pv_LY s dC dI dA τ ρ h h0 h1 ws H locs → W p l e room_1 s m #[Value.ref b] below meth c H locs cells slots (lw_Z below #[Value.ref b] s) (F0 m 1529 ls [])) : W p l e room_1 s m #[Value.ref b] below meth c H locs cells slots (lw_Z below #[Value.ref b] s) (F0 m 978 ls []) := by
  obtain ⟨hx, hb, hr, hml, hown, hts, hX, hbl, hlk, hWd⟩ := X
  obtain ⟨hT, t0, t1, hN, hM, hI, hQ, hR, hP, hD, hS⟩ := Y
  have hbA : ¬ (fun q => s.heap.size ≤ q) b := fun z => by have : s.heap.size ≤ b := z; omega
  have n1 : τ (ρ h0 1) = some 2 := hT.rf (t' := 2) t0 rfl rfl
  have r1 : τ (ρ h1 1) = some 40 := hT.rf (t' := 40) t1 rfl rfl
  have r2 : τ (ρ h1 2) = some 41 := hT.rf (t' := 41) t1 rfl rfl
  have k5 : τ (ρ h0 5) = some 12 := hT.rf (t' := 12) t0 rfl rfl
  have k24 : τ (ρ h1 24) = some 53 := hT.rf (t' := 53) t1 rfl rfl
  have k25 : τ (ρ h1 25) = some 54 := hT.rf (t' := 54) t1 rfl rfl
  have hQ0 := hQ
  have hT0 := hT

  refine lv_aload_n hx hb dL_978 rfl (lv_at hl 2 rfl) ?_
  obtain ⟨fs0, hcell0, -⟩ := (hT h0 0 t0).1 _ rfl
  refine pv_lawcall (As := []) (rest := []) hx hb hml hown hts hWd lk137 (ct137 (τ := τ) (ρ := ρ) hT t0) hcell0 rfl (by rw [m137]; exact Nat.le_of_ble_eq_true rfl) hR hP hD hS (Nat.le_of_ble_eq_true rfl) hl.1 dL_979 hc (fun r h' H locs ws hq hR hP hD hS => ?_)
  obtain ⟨eh, z0, er, lo0, hi0⟩ := hq
  subst eh
  subst er
  refine W.eq (g2 := F0 m 982 ls [.int (pv_I z0)]) rfl ?_
  refine lv_pop hx hb dL_982 rfl ?_
  refine lv_aload_n hx hb dL_983 rfl (lv_at hl 1 rfl) ?_
  obtain ⟨fs1, hcell1, -⟩ := (hT h1 7 t1).1 _ rfl
  refine pv_lawcall (As := []) (rest := []) hx hb hml hown hts hWd lk284 (ct284 (τ := τ) (ρ := ρ) hT t1) hcell1 rfl (by rw [m284]; exact Nat.le_of_ble_eq_true rfl) hR hP hD hS (Nat.le_of_ble_eq_true rfl) hl.1 dL_984 hc (fun r h' H locs ws hq hR hP hD hS => ?_)
  obtain ⟨eh, z1, er, lo1, hi1⟩ := hq
  subst eh
  subst er
  refine W.eq (g2 := F0 m 987 ls [.int (pv_I z1)]) rfl ?_
  refine lv_pop hx hb dL_987 rfl ?_
  refine lv_goto (tgt := 1529) hx hb dL_988 (by decide) ?_
  exact kk _ _ _ _ ⟨hT, t0, t1, hN, hM, hI, hQ, hR, hP, hD, hS⟩
set_option maxHeartbeats 4000000 in
theorem lc_27 (X : pv_LX p s m meth c b L xs K adV dC dI dA) (hL : L ≤ 3072) (hj : 6 * j + 6 ≤ L) (hKok : pv_Kok K) (Y : pv_LY s dC dI dA τ ρ h h0 h1 ws H locs) (hl : lv_has ls 4 [(3, .int (pv_I ((6 * j : Nat) : Int))), (2, .ref h1), (1, .ref h0), (0, .ref b)]) (hc : cells ≤ 600000 ∧ slots ≤ 7302250) (kk : ∀ (h : pv_H) (ws : va_W) (H : Heap) (locs : List Loc), pv_LY s dC dI dA τ ρ h h0 h1 ws H locs → W p l e room_1 s m #[Value.ref b] below meth c H locs cells slots (lw_Z below #[Value.ref b] s) (F0 m 1529 ls [])) : W p l e room_1 s m #[Value.ref b] below meth c H locs cells slots (lw_Z below #[Value.ref b] s) (F0 m 991 ls []) := by
  obtain ⟨hx, hb, hr, hml, hown, hts, hX, hbl, hlk, hWd⟩ := X
  obtain ⟨hT, t0, t1, hN, hM, hI, hQ, hR, hP, hD, hS⟩ := Y
  have hbA : ¬ (fun q => s.heap.size ≤ q) b := fun z => by have : s.heap.size ≤ b := z; omega
  have n1 : τ (ρ h0 1) = some 2 := hT.rf (t' := 2) t0 rfl rfl
  have r1 : τ (ρ h1 1) = some 40 := hT.rf (t' := 40) t1 rfl rfl
  have r2 : τ (ρ h1 2) = some 41 := hT.rf (t' := 41) t1 rfl rfl
  have k5 : τ (ρ h0 5) = some 12 := hT.rf (t' := 12) t0 rfl rfl
  have k24 : τ (ρ h1 24) = some 53 := hT.rf (t' := 53) t1 rfl rfl
  have k25 : τ (ρ h1 25) = some 54 := hT.rf (t' := 54) t1 rfl rfl
  have hQ0 := hQ
  have hT0 := hT
  obtain ⟨x1, hx1⟩ : ∃ x : Int, (-2147483648 ≤ x ∧ x ≤ 2147483647) ∧ xs (6 * j + 1) = pv_I x := ⟨_, pv_I_rep _⟩

  refine lv_aload_n hx hb dL_991 rfl (lv_at hl 2 rfl) ?_
  refine lv_aload_n hx hb dL_992 rfl (lv_at hl 3 rfl) ?_
  refine lv_iload_n hx hb dL_993 rfl (lv_at hl 0 rfl) ?_
  refine lv_iconst (v := 1) hx hb dL_994 (by decide) ?_
  refine lv_iadd hx hb dL_995 ?_
  refine pv_sldJ (kn := 1) (x := x1) hx hb hX hbl hbA hS hL hj (by decide) (by decide) hx1.2 dL_996 ?_
  obtain ⟨fs0, hcell0, -⟩ := (hT h0 0 t0).1 _ rfl
  refine pv_lawcall (As := [.int (pv_I x1)]) (rest := []) hx hb hml hown hts hWd lk144 (ct144 (τ := τ) (ρ := ρ) hT t0 hx1.1) hcell0 rfl (by rw [m144]; exact Nat.le_of_ble_eq_true rfl) hR hP hD hS (Nat.le_of_ble_eq_true rfl) hl.1 dL_997 hc (fun r h' H locs ws hq hR hP hD hS => ?_)
  obtain ⟨eh, z0, er, lo0, hi0⟩ := hq
  subst eh
  subst er
  refine W.eq (g2 := F0 m 1000 ls [.int (pv_I z0)]) rfl ?_
  refine lv_pop hx hb dL_1000 rfl ?_
  refine lv_aload_n hx hb dL_1001 rfl (lv_at hl 1 rfl) ?_
  refine lv_aload_n hx hb dL_1002 rfl (lv_at hl 3 rfl) ?_
  refine lv_iload_n hx hb dL_1003 rfl (lv_at hl 0 rfl) ?_
  refine lv_iconst (v := 1) hx hb dL_1004 (by decide) ?_
  refine lv_iadd hx hb dL_1005 ?_
  refine pv_sldJ (kn := 1) (x := x1) hx hb hX hbl hbA hS hL hj (by decide) (by decide) hx1.2 dL_1006 ?_
  obtain ⟨fs1, hcell1, -⟩ := (hT h1 7 t1).1 _ rfl
  refine pv_lawcall (As := [.int (pv_I x1)]) (rest := []) hx hb hml hown hts hWd lk290 (ct290 (τ := τ) (ρ := ρ) hT t1 hx1.1) hcell1 rfl (by rw [m290]; exact Nat.le_of_ble_eq_true rfl) hR hP hD hS (Nat.le_of_ble_eq_true rfl) hl.1 dL_1007 hc (fun r h' H locs ws hq hR hP hD hS => ?_)
  obtain ⟨eh, z1, er, lo1, hi1⟩ := hq
  subst eh
  subst er
  refine W.eq (g2 := F0 m 1010 ls [.int (pv_I z1)]) rfl ?_
  refine lv_pop hx hb dL_1010 rfl ?_
  refine lv_goto (tgt := 1529) hx hb dL_1011 (by decide) ?_
  exact kk _ _ _ _ ⟨hT, t0, t1, hN, hM, hI, hQ, hR, hP, hD, hS⟩
set_option maxHeartbeats 4000000 in
theorem lc_28 (X : pv_LX p s m meth c b L xs K adV dC dI dA) (hL : L ≤ 3072) (hj : 6 * j + 6 ≤ L) (hKok : pv_Kok K) (Y : pv_LY s dC dI dA τ ρ h h0 h1 ws H locs) (hl : lv_has ls 4 [(3, .int (pv_I ((6 * j : Nat) : Int))), (2, .ref h1), (1, .ref h0), (0, .ref b)]) (hc : cells ≤ 600000 ∧ slots ≤ 7302250) (kk : ∀ (h : pv_H) (ws : va_W) (H : Heap) (locs : List Loc), pv_LY s dC dI dA τ ρ h h0 h1 ws H locs → W p l e room_1 s m #[Value.ref b] below meth c H locs cells slots (lw_Z below #[Value.ref b] s) (F0 m 1529 ls [])) : W p l e room_1 s m #[Value.ref b] below meth c H locs cells slots (lw_Z below #[Value.ref b] s) (F0 m 1014 ls []) := by
  obtain ⟨hx, hb, hr, hml, hown, hts, hX, hbl, hlk, hWd⟩ := X
  obtain ⟨hT, t0, t1, hN, hM, hI, hQ, hR, hP, hD, hS⟩ := Y
  have hbA : ¬ (fun q => s.heap.size ≤ q) b := fun z => by have : s.heap.size ≤ b := z; omega
  have n1 : τ (ρ h0 1) = some 2 := hT.rf (t' := 2) t0 rfl rfl
  have r1 : τ (ρ h1 1) = some 40 := hT.rf (t' := 40) t1 rfl rfl
  have r2 : τ (ρ h1 2) = some 41 := hT.rf (t' := 41) t1 rfl rfl
  have k5 : τ (ρ h0 5) = some 12 := hT.rf (t' := 12) t0 rfl rfl
  have k24 : τ (ρ h1 24) = some 53 := hT.rf (t' := 53) t1 rfl rfl
  have k25 : τ (ρ h1 25) = some 54 := hT.rf (t' := 54) t1 rfl rfl
  have hQ0 := hQ
  have hT0 := hT
  obtain ⟨x1, hx1⟩ : ∃ x : Int, (-2147483648 ≤ x ∧ x ≤ 2147483647) ∧ xs (6 * j + 1) = pv_I x := ⟨_, pv_I_rep _⟩

  refine lv_aload_n hx hb dL_1014 rfl (lv_at hl 2 rfl) ?_
  refine lv_aload_n hx hb dL_1015 rfl (lv_at hl 3 rfl) ?_
  refine lv_iload_n hx hb dL_1016 rfl (lv_at hl 0 rfl) ?_
  refine lv_iconst (v := 1) hx hb dL_1017 (by decide) ?_
  refine lv_iadd hx hb dL_1018 ?_
  refine pv_sldJ (kn := 1) (x := x1) hx hb hX hbl hbA hS hL hj (by decide) (by decide) hx1.2 dL_1019 ?_
  obtain ⟨fs0, hcell0, -⟩ := (hT h0 0 t0).1 _ rfl
  refine pv_lawcall (As := [.int (pv_I x1)]) (rest := []) hx hb hml hown hts hWd lk145 (ct145 (τ := τ) (ρ := ρ) hT t0 hx1.1) hcell0 rfl (by rw [m145]; exact Nat.le_of_ble_eq_true rfl) hR hP hD hS (Nat.le_of_ble_eq_true rfl) hl.1 dL_1020 hc (fun r h' H locs ws hq hR hP hD hS => ?_)
  obtain ⟨eh, z0, er, lo0, hi0⟩ := hq
  subst eh
  subst er
  refine W.eq (g2 := F0 m 1023 ls [.int (pv_I z0)]) rfl ?_
  refine lv_pop hx hb dL_1023 rfl ?_
  refine lv_aload_n hx hb dL_1024 rfl (lv_at hl 1 rfl) ?_
  refine lv_aload_n hx hb dL_1025 rfl (lv_at hl 3 rfl) ?_
  refine lv_iload_n hx hb dL_1026 rfl (lv_at hl 0 rfl) ?_
  refine lv_iconst (v := 1) hx hb dL_1027 (by decide) ?_
  refine lv_iadd hx hb dL_1028 ?_
  refine pv_sldJ (kn := 1) (x := x1) hx hb hX hbl hbA hS hL hj (by decide) (by decide) hx1.2 dL_1029 ?_
  obtain ⟨fs1, hcell1, -⟩ := (hT h1 7 t1).1 _ rfl
  refine pv_lawcall (As := [.int (pv_I x1)]) (rest := []) hx hb hml hown hts hWd lk291 (ct291 (τ := τ) (ρ := ρ) hT t1 hx1.1) hcell1 rfl (by rw [m291]; exact Nat.le_of_ble_eq_true rfl) hR hP hD hS (Nat.le_of_ble_eq_true rfl) hl.1 dL_1030 hc (fun r h' H locs ws hq hR hP hD hS => ?_)
  obtain ⟨eh, z1, er, lo1, hi1⟩ := hq
  subst eh
  subst er
  refine W.eq (g2 := F0 m 1033 ls [.int (pv_I z1)]) rfl ?_
  refine lv_pop hx hb dL_1033 rfl ?_
  refine lv_goto (tgt := 1529) hx hb dL_1034 (by decide) ?_
  exact kk _ _ _ _ ⟨hT, t0, t1, hN, hM, hI, hQ, hR, hP, hD, hS⟩
set_option maxHeartbeats 4000000 in
theorem lc_29 (X : pv_LX p s m meth c b L xs K adV dC dI dA) (hL : L ≤ 3072) (hj : 6 * j + 6 ≤ L) (hKok : pv_Kok K) (Y : pv_LY s dC dI dA τ ρ h h0 h1 ws H locs) (hl : lv_has ls 4 [(3, .int (pv_I ((6 * j : Nat) : Int))), (2, .ref h1), (1, .ref h0), (0, .ref b)]) (hc : cells ≤ 600000 ∧ slots ≤ 7302250) (kk : ∀ (h : pv_H) (ws : va_W) (H : Heap) (locs : List Loc), pv_LY s dC dI dA τ ρ h h0 h1 ws H locs → W p l e room_1 s m #[Value.ref b] below meth c H locs cells slots (lw_Z below #[Value.ref b] s) (F0 m 1529 ls [])) : W p l e room_1 s m #[Value.ref b] below meth c H locs cells slots (lw_Z below #[Value.ref b] s) (F0 m 1037 ls []) := by
  obtain ⟨hx, hb, hr, hml, hown, hts, hX, hbl, hlk, hWd⟩ := X
  obtain ⟨hT, t0, t1, hN, hM, hI, hQ, hR, hP, hD, hS⟩ := Y
  have hbA : ¬ (fun q => s.heap.size ≤ q) b := fun z => by have : s.heap.size ≤ b := z; omega
  have n1 : τ (ρ h0 1) = some 2 := hT.rf (t' := 2) t0 rfl rfl
  have r1 : τ (ρ h1 1) = some 40 := hT.rf (t' := 40) t1 rfl rfl
  have r2 : τ (ρ h1 2) = some 41 := hT.rf (t' := 41) t1 rfl rfl
  have k5 : τ (ρ h0 5) = some 12 := hT.rf (t' := 12) t0 rfl rfl
  have k24 : τ (ρ h1 24) = some 53 := hT.rf (t' := 53) t1 rfl rfl
  have k25 : τ (ρ h1 25) = some 54 := hT.rf (t' := 54) t1 rfl rfl
  have hQ0 := hQ
  have hT0 := hT

  refine lv_aload_n hx hb dL_1037 rfl (lv_at hl 2 rfl) ?_
  obtain ⟨fs0, hcell0, -⟩ := (hT h0 0 t0).1 _ rfl
  refine pv_lawcall (As := []) (rest := []) hx hb hml hown hts hWd lk146 (ct146 (τ := τ) (ρ := ρ) hT t0) hcell0 rfl (by rw [m146]; exact Nat.le_of_ble_eq_true rfl) hR hP hD hS (Nat.le_of_ble_eq_true rfl) hl.1 dL_1038 hc (fun r h' H locs ws hq hR hP hD hS => ?_)
  obtain ⟨hT', hF', z0, er, lo0, hi0⟩ := hq
  subst er
  have hN := hN.fr hT hF' (by decide)
  have hM : pw_ok (pv_aI h' (ρ h1 1)) := by rw [hF'.aeq r1 (by decide)]; exact hM
  have hI : im_ok (pv_aI h' (ρ h1 2)) := by rw [hF'.aeq r2 (by decide)]; exact hI
  have e24 := hF'.aeq k24 (by decide)
  have e25 := hF'.aeq k25 (by decide)
  have hQ := hQ.fr hT k5 k24 k25 hF' (by decide)
  have hT := hT'
  refine W.eq (g2 := F0 m 1041 ls [.long (pv_J z0)]) rfl ?_
  refine lv_pop2_2 hx hb dL_1041 rfl ?_
  refine lv_aload_n hx hb dL_1042 rfl (lv_at hl 1 rfl) ?_
  obtain ⟨fs1, hcell1, -⟩ := (hT h1 7 t1).1 _ rfl
  refine pv_lawcall (As := []) (rest := []) hx hb hml hown hts hWd lk292 (ct292 (τ := τ) (ρ := ρ) hT t1) hcell1 rfl (by rw [m292]; exact Nat.le_of_ble_eq_true rfl) hR hP hD hS (Nat.le_of_ble_eq_true rfl) hl.1 dL_1043 hc (fun r h' H locs ws hq hR hP hD hS => ?_)
  obtain ⟨hT', hF', z1, er, lo1, hi1⟩ := hq
  subst er
  have hN := hN.fr hT hF' (by decide)
  have hM : pw_ok (pv_aI h' (ρ h1 1)) := by rw [hF'.aeq r1 (by decide)]; exact hM
  have hI : im_ok (pv_aI h' (ρ h1 2)) := by rw [hF'.aeq r2 (by decide)]; exact hI
  have hQ := hQ.fr hT k5 k24 k25 hF' (by decide)
  have hT := hT'
  refine W.eq (g2 := F0 m 1046 ls [.long (pv_J z1)]) rfl ?_
  refine lv_pop2_2 hx hb dL_1046 rfl ?_
  refine lv_goto (tgt := 1529) hx hb dL_1047 (by decide) ?_
  exact kk _ _ _ _ ⟨hT, t0, t1, hN, hM, hI, hQ, hR, hP, hD, hS⟩
set_option maxHeartbeats 4000000 in
theorem lc_30 (X : pv_LX p s m meth c b L xs K adV dC dI dA) (hL : L ≤ 3072) (hj : 6 * j + 6 ≤ L) (hKok : pv_Kok K) (Y : pv_LY s dC dI dA τ ρ h h0 h1 ws H locs) (hl : lv_has ls 4 [(3, .int (pv_I ((6 * j : Nat) : Int))), (2, .ref h1), (1, .ref h0), (0, .ref b)]) (hc : cells ≤ 600000 ∧ slots ≤ 7302250) (kk : ∀ (h : pv_H) (ws : va_W) (H : Heap) (locs : List Loc), pv_LY s dC dI dA τ ρ h h0 h1 ws H locs → W p l e room_1 s m #[Value.ref b] below meth c H locs cells slots (lw_Z below #[Value.ref b] s) (F0 m 1529 ls [])) : W p l e room_1 s m #[Value.ref b] below meth c H locs cells slots (lw_Z below #[Value.ref b] s) (F0 m 1050 ls []) := by
  obtain ⟨hx, hb, hr, hml, hown, hts, hX, hbl, hlk, hWd⟩ := X
  obtain ⟨hT, t0, t1, hN, hM, hI, hQ, hR, hP, hD, hS⟩ := Y
  have hbA : ¬ (fun q => s.heap.size ≤ q) b := fun z => by have : s.heap.size ≤ b := z; omega
  have n1 : τ (ρ h0 1) = some 2 := hT.rf (t' := 2) t0 rfl rfl
  have r1 : τ (ρ h1 1) = some 40 := hT.rf (t' := 40) t1 rfl rfl
  have r2 : τ (ρ h1 2) = some 41 := hT.rf (t' := 41) t1 rfl rfl
  have k5 : τ (ρ h0 5) = some 12 := hT.rf (t' := 12) t0 rfl rfl
  have k24 : τ (ρ h1 24) = some 53 := hT.rf (t' := 53) t1 rfl rfl
  have k25 : τ (ρ h1 25) = some 54 := hT.rf (t' := 54) t1 rfl rfl
  have hQ0 := hQ
  have hT0 := hT
  obtain ⟨x1, hx1⟩ : ∃ x : Int, (-2147483648 ≤ x ∧ x ≤ 2147483647) ∧ xs (6 * j + 1) = pv_I x := ⟨_, pv_I_rep _⟩
  obtain ⟨x2, hx2⟩ : ∃ x : Int, (-2147483648 ≤ x ∧ x ≤ 2147483647) ∧ xs (6 * j + 2) = pv_I x := ⟨_, pv_I_rep _⟩
  obtain ⟨x3, hx3⟩ : ∃ x : Int, (-2147483648 ≤ x ∧ x ≤ 2147483647) ∧ xs (6 * j + 3) = pv_I x := ⟨_, pv_I_rep _⟩

  refine lv_aload_n hx hb dL_1050 rfl (lv_at hl 2 rfl) ?_
  refine lv_aload_n hx hb dL_1051 rfl (lv_at hl 3 rfl) ?_
  refine lv_iload_n hx hb dL_1052 rfl (lv_at hl 0 rfl) ?_
  refine lv_iconst (v := 1) hx hb dL_1053 (by decide) ?_
  refine lv_iadd hx hb dL_1054 ?_
  refine pv_sldJ (kn := 1) (x := x1) hx hb hX hbl hbA hS hL hj (by decide) (by decide) hx1.2 dL_1055 ?_
  refine lv_aload_n hx hb dL_1056 rfl (lv_at hl 3 rfl) ?_
  refine lv_iload_n hx hb dL_1057 rfl (lv_at hl 0 rfl) ?_
  refine lv_iconst (v := 2) hx hb dL_1058 (by decide) ?_
  refine lv_iadd hx hb dL_1059 ?_
  refine pv_sldJ (kn := 2) (x := x2) hx hb hX hbl hbA hS hL hj (by decide) (by decide) hx2.2 dL_1060 ?_
  refine lv_aload_n hx hb dL_1061 rfl (lv_at hl 3 rfl) ?_
  refine lv_iload_n hx hb dL_1062 rfl (lv_at hl 0 rfl) ?_
  refine lv_iconst (v := 3) hx hb dL_1063 (by decide) ?_
  refine lv_iadd hx hb dL_1064 ?_
  refine pv_sldJ (kn := 3) (x := x3) hx hb hX hbl hbA hS hL hj (by decide) (by decide) hx3.2 dL_1065 ?_
  obtain ⟨fs0, hcell0, -⟩ := (hT h0 0 t0).1 _ rfl
  refine pv_lawcall (As := [.int (pv_I x1), .int (pv_I x2), .int (pv_I x3)]) (rest := []) hx hb hml hown hts hWd lk152 (ct152 (τ := τ) (ρ := ρ) hT t0 hx1.1 hx2.1 hx3.1) hcell0 rfl (by rw [m152]; exact Nat.le_of_ble_eq_true rfl) hR hP hD hS (Nat.le_of_ble_eq_true rfl) hl.1 dL_1066 hc (fun r h' H locs ws hq hR hP hD hS => ?_)
  obtain ⟨hT', hF', z0, er, lo0, hi0⟩ := hq
  subst er
  have hN := hN.fr hT hF' (by decide)
  have hM : pw_ok (pv_aI h' (ρ h1 1)) := by rw [hF'.aeq r1 (by decide)]; exact hM
  have hI : im_ok (pv_aI h' (ρ h1 2)) := by rw [hF'.aeq r2 (by decide)]; exact hI
  have e24 := hF'.aeq k24 (by decide)
  have e25 := hF'.aeq k25 (by decide)
  have hQ := hQ.fr hT k5 k24 k25 hF' (by decide)
  have hT := hT'
  refine W.eq (g2 := F0 m 1069 ls [.long (pv_J z0)]) rfl ?_
  refine lv_pop2_2 hx hb dL_1069 rfl ?_
  refine lv_aload_n hx hb dL_1070 rfl (lv_at hl 1 rfl) ?_
  refine lv_aload_n hx hb dL_1071 rfl (lv_at hl 3 rfl) ?_
  refine lv_iload_n hx hb dL_1072 rfl (lv_at hl 0 rfl) ?_
  refine lv_iconst (v := 1) hx hb dL_1073 (by decide) ?_
  refine lv_iadd hx hb dL_1074 ?_
  refine pv_sldJ (kn := 1) (x := x1) hx hb hX hbl hbA hS hL hj (by decide) (by decide) hx1.2 dL_1075 ?_
  refine lv_aload_n hx hb dL_1076 rfl (lv_at hl 3 rfl) ?_
  refine lv_iload_n hx hb dL_1077 rfl (lv_at hl 0 rfl) ?_
  refine lv_iconst (v := 2) hx hb dL_1078 (by decide) ?_
  refine lv_iadd hx hb dL_1079 ?_
  refine pv_sldJ (kn := 2) (x := x2) hx hb hX hbl hbA hS hL hj (by decide) (by decide) hx2.2 dL_1080 ?_
  refine lv_aload_n hx hb dL_1081 rfl (lv_at hl 3 rfl) ?_
  refine lv_iload_n hx hb dL_1082 rfl (lv_at hl 0 rfl) ?_
  refine lv_iconst (v := 3) hx hb dL_1083 (by decide) ?_
  refine lv_iadd hx hb dL_1084 ?_
  refine pv_sldJ (kn := 3) (x := x3) hx hb hX hbl hbA hS hL hj (by decide) (by decide) hx3.2 dL_1085 ?_
  obtain ⟨fs1, hcell1, -⟩ := (hT h1 7 t1).1 _ rfl
  refine pv_lawcall (As := [.int (pv_I x1), .int (pv_I x2), .int (pv_I x3)]) (rest := []) hx hb hml hown hts hWd lk298 (ct298 (τ := τ) (ρ := ρ) hT t1 hx1.1 hx2.1 hx3.1) hcell1 rfl (by rw [m298]; exact Nat.le_of_ble_eq_true rfl) hR hP hD hS (Nat.le_of_ble_eq_true rfl) hl.1 dL_1086 hc (fun r h' H locs ws hq hR hP hD hS => ?_)
  obtain ⟨hT', hF', z1, er, lo1, hi1⟩ := hq
  subst er
  have hN := hN.fr hT hF' (by decide)
  have hM : pw_ok (pv_aI h' (ρ h1 1)) := by rw [hF'.aeq r1 (by decide)]; exact hM
  have hI : im_ok (pv_aI h' (ρ h1 2)) := by rw [hF'.aeq r2 (by decide)]; exact hI
  have hQ := hQ.fr hT k5 k24 k25 hF' (by decide)
  have hT := hT'
  refine W.eq (g2 := F0 m 1089 ls [.long (pv_J z1)]) rfl ?_
  refine lv_pop2_2 hx hb dL_1089 rfl ?_
  refine lv_goto (tgt := 1529) hx hb dL_1090 (by decide) ?_
  exact kk _ _ _ _ ⟨hT, t0, t1, hN, hM, hI, hQ, hR, hP, hD, hS⟩
set_option maxHeartbeats 4000000 in
theorem lc_31 (X : pv_LX p s m meth c b L xs K adV dC dI dA) (hL : L ≤ 3072) (hj : 6 * j + 6 ≤ L) (hKok : pv_Kok K) (Y : pv_LY s dC dI dA τ ρ h h0 h1 ws H locs) (hl : lv_has ls 4 [(3, .int (pv_I ((6 * j : Nat) : Int))), (2, .ref h1), (1, .ref h0), (0, .ref b)]) (hc : cells ≤ 600000 ∧ slots ≤ 7302250) (kk : ∀ (h : pv_H) (ws : va_W) (H : Heap) (locs : List Loc), pv_LY s dC dI dA τ ρ h h0 h1 ws H locs → W p l e room_1 s m #[Value.ref b] below meth c H locs cells slots (lw_Z below #[Value.ref b] s) (F0 m 1529 ls [])) : W p l e room_1 s m #[Value.ref b] below meth c H locs cells slots (lw_Z below #[Value.ref b] s) (F0 m 1093 ls []) := by
  obtain ⟨hx, hb, hr, hml, hown, hts, hX, hbl, hlk, hWd⟩ := X
  obtain ⟨hT, t0, t1, hN, hM, hI, hQ, hR, hP, hD, hS⟩ := Y
  have hbA : ¬ (fun q => s.heap.size ≤ q) b := fun z => by have : s.heap.size ≤ b := z; omega
  have n1 : τ (ρ h0 1) = some 2 := hT.rf (t' := 2) t0 rfl rfl
  have r1 : τ (ρ h1 1) = some 40 := hT.rf (t' := 40) t1 rfl rfl
  have r2 : τ (ρ h1 2) = some 41 := hT.rf (t' := 41) t1 rfl rfl
  have k5 : τ (ρ h0 5) = some 12 := hT.rf (t' := 12) t0 rfl rfl
  have k24 : τ (ρ h1 24) = some 53 := hT.rf (t' := 53) t1 rfl rfl
  have k25 : τ (ρ h1 25) = some 54 := hT.rf (t' := 54) t1 rfl rfl
  have hQ0 := hQ
  have hT0 := hT
  obtain ⟨x1, hx1⟩ : ∃ x : Int, (-2147483648 ≤ x ∧ x ≤ 2147483647) ∧ xs (6 * j + 1) = pv_I x := ⟨_, pv_I_rep _⟩
  obtain ⟨x2, hx2⟩ : ∃ x : Int, (-2147483648 ≤ x ∧ x ≤ 2147483647) ∧ xs (6 * j + 2) = pv_I x := ⟨_, pv_I_rep _⟩
  obtain ⟨x3, hx3⟩ : ∃ x : Int, (-2147483648 ≤ x ∧ x ≤ 2147483647) ∧ xs (6 * j + 3) = pv_I x := ⟨_, pv_I_rep _⟩

  refine lv_aload_n hx hb dL_1093 rfl (lv_at hl 2 rfl) ?_
  refine lv_aload_n hx hb dL_1094 rfl (lv_at hl 3 rfl) ?_
  refine lv_iload_n hx hb dL_1095 rfl (lv_at hl 0 rfl) ?_
  refine lv_iconst (v := 1) hx hb dL_1096 (by decide) ?_
  refine lv_iadd hx hb dL_1097 ?_
  refine pv_sldJ (kn := 1) (x := x1) hx hb hX hbl hbA hS hL hj (by decide) (by decide) hx1.2 dL_1098 ?_
  refine lv_aload_n hx hb dL_1099 rfl (lv_at hl 3 rfl) ?_
  refine lv_iload_n hx hb dL_1100 rfl (lv_at hl 0 rfl) ?_
  refine lv_iconst (v := 2) hx hb dL_1101 (by decide) ?_
  refine lv_iadd hx hb dL_1102 ?_
  refine pv_sldJ (kn := 2) (x := x2) hx hb hX hbl hbA hS hL hj (by decide) (by decide) hx2.2 dL_1103 ?_
  refine lv_aload_n hx hb dL_1104 rfl (lv_at hl 3 rfl) ?_
  refine lv_iload_n hx hb dL_1105 rfl (lv_at hl 0 rfl) ?_
  refine lv_iconst (v := 3) hx hb dL_1106 (by decide) ?_
  refine lv_iadd hx hb dL_1107 ?_
  refine pv_sldJ (kn := 3) (x := x3) hx hb hX hbl hbA hS hL hj (by decide) (by decide) hx3.2 dL_1108 ?_
  obtain ⟨fs0, hcell0, -⟩ := (hT h0 0 t0).1 _ rfl
  refine pv_lawcall (As := [.int (pv_I x1), .int (pv_I x2), .int (pv_I x3)]) (rest := []) hx hb hml hown hts hWd lk154 (ct154 (τ := τ) (ρ := ρ) hT t0 hx1.1 hx2.1 hx3.1) hcell0 rfl (by rw [m154]; exact Nat.le_of_ble_eq_true rfl) hR hP hD hS (Nat.le_of_ble_eq_true rfl) hl.1 dL_1109 hc (fun r h' H locs ws hq hR hP hD hS => ?_)
  obtain ⟨hT', hF', z0, er, lo0, hi0⟩ := hq
  subst er
  have hN := hN.fr hT hF' (by decide)
  have hM : pw_ok (pv_aI h' (ρ h1 1)) := by rw [hF'.aeq r1 (by decide)]; exact hM
  have hI : im_ok (pv_aI h' (ρ h1 2)) := by rw [hF'.aeq r2 (by decide)]; exact hI
  have e24 := hF'.aeq k24 (by decide)
  have e25 := hF'.aeq k25 (by decide)
  have hQ := hQ.fr hT k5 k24 k25 hF' (by decide)
  have hT := hT'
  refine W.eq (g2 := F0 m 1112 ls [.long (pv_J z0)]) rfl ?_
  refine lv_pop2_2 hx hb dL_1112 rfl ?_
  refine lv_aload_n hx hb dL_1113 rfl (lv_at hl 1 rfl) ?_
  refine lv_aload_n hx hb dL_1114 rfl (lv_at hl 3 rfl) ?_
  refine lv_iload_n hx hb dL_1115 rfl (lv_at hl 0 rfl) ?_
  refine lv_iconst (v := 1) hx hb dL_1116 (by decide) ?_
  refine lv_iadd hx hb dL_1117 ?_
  refine pv_sldJ (kn := 1) (x := x1) hx hb hX hbl hbA hS hL hj (by decide) (by decide) hx1.2 dL_1118 ?_
  refine lv_aload_n hx hb dL_1119 rfl (lv_at hl 3 rfl) ?_
  refine lv_iload_n hx hb dL_1120 rfl (lv_at hl 0 rfl) ?_
  refine lv_iconst (v := 2) hx hb dL_1121 (by decide) ?_
  refine lv_iadd hx hb dL_1122 ?_
  refine pv_sldJ (kn := 2) (x := x2) hx hb hX hbl hbA hS hL hj (by decide) (by decide) hx2.2 dL_1123 ?_
  refine lv_aload_n hx hb dL_1124 rfl (lv_at hl 3 rfl) ?_
  refine lv_iload_n hx hb dL_1125 rfl (lv_at hl 0 rfl) ?_
  refine lv_iconst (v := 3) hx hb dL_1126 (by decide) ?_
  refine lv_iadd hx hb dL_1127 ?_
  refine pv_sldJ (kn := 3) (x := x3) hx hb hX hbl hbA hS hL hj (by decide) (by decide) hx3.2 dL_1128 ?_
  obtain ⟨fs1, hcell1, -⟩ := (hT h1 7 t1).1 _ rfl
  refine pv_lawcall (As := [.int (pv_I x1), .int (pv_I x2), .int (pv_I x3)]) (rest := []) hx hb hml hown hts hWd lk301 (ct301 (τ := τ) (ρ := ρ) hT t1 hx1.1 hx2.1 hx3.1) hcell1 rfl (by rw [m301]; exact Nat.le_of_ble_eq_true rfl) hR hP hD hS (Nat.le_of_ble_eq_true rfl) hl.1 dL_1129 hc (fun r h' H locs ws hq hR hP hD hS => ?_)
  obtain ⟨hT', hF', z1, er, lo1, hi1⟩ := hq
  subst er
  have hN := hN.fr hT hF' (by decide)
  have hM : pw_ok (pv_aI h' (ρ h1 1)) := by rw [hF'.aeq r1 (by decide)]; exact hM
  have hI : im_ok (pv_aI h' (ρ h1 2)) := by rw [hF'.aeq r2 (by decide)]; exact hI
  have hQ := hQ.fr hT k5 k24 k25 hF' (by decide)
  have hT := hT'
  refine W.eq (g2 := F0 m 1132 ls [.long (pv_J z1)]) rfl ?_
  refine lv_pop2_2 hx hb dL_1132 rfl ?_
  refine lv_goto (tgt := 1529) hx hb dL_1133 (by decide) ?_
  exact kk _ _ _ _ ⟨hT, t0, t1, hN, hM, hI, hQ, hR, hP, hD, hS⟩
set_option maxHeartbeats 4000000 in
theorem lc_32 (X : pv_LX p s m meth c b L xs K adV dC dI dA) (hL : L ≤ 3072) (hj : 6 * j + 6 ≤ L) (hKok : pv_Kok K) (Y : pv_LY s dC dI dA τ ρ h h0 h1 ws H locs) (hl : lv_has ls 4 [(3, .int (pv_I ((6 * j : Nat) : Int))), (2, .ref h1), (1, .ref h0), (0, .ref b)]) (hc : cells ≤ 600000 ∧ slots ≤ 7302250) (kk : ∀ (h : pv_H) (ws : va_W) (H : Heap) (locs : List Loc), pv_LY s dC dI dA τ ρ h h0 h1 ws H locs → W p l e room_1 s m #[Value.ref b] below meth c H locs cells slots (lw_Z below #[Value.ref b] s) (F0 m 1529 ls [])) : W p l e room_1 s m #[Value.ref b] below meth c H locs cells slots (lw_Z below #[Value.ref b] s) (F0 m 1136 ls []) := by
  obtain ⟨hx, hb, hr, hml, hown, hts, hX, hbl, hlk, hWd⟩ := X
  obtain ⟨hT, t0, t1, hN, hM, hI, hQ, hR, hP, hD, hS⟩ := Y
  have hbA : ¬ (fun q => s.heap.size ≤ q) b := fun z => by have : s.heap.size ≤ b := z; omega
  have n1 : τ (ρ h0 1) = some 2 := hT.rf (t' := 2) t0 rfl rfl
  have r1 : τ (ρ h1 1) = some 40 := hT.rf (t' := 40) t1 rfl rfl
  have r2 : τ (ρ h1 2) = some 41 := hT.rf (t' := 41) t1 rfl rfl
  have k5 : τ (ρ h0 5) = some 12 := hT.rf (t' := 12) t0 rfl rfl
  have k24 : τ (ρ h1 24) = some 53 := hT.rf (t' := 53) t1 rfl rfl
  have k25 : τ (ρ h1 25) = some 54 := hT.rf (t' := 54) t1 rfl rfl
  have hQ0 := hQ
  have hT0 := hT
  obtain ⟨x1, hx1⟩ : ∃ x : Int, (-2147483648 ≤ x ∧ x ≤ 2147483647) ∧ xs (6 * j + 1) = pv_I x := ⟨_, pv_I_rep _⟩
  obtain ⟨x2, hx2⟩ : ∃ x : Int, (-2147483648 ≤ x ∧ x ≤ 2147483647) ∧ xs (6 * j + 2) = pv_I x := ⟨_, pv_I_rep _⟩
  obtain ⟨x3, hx3⟩ : ∃ x : Int, (-2147483648 ≤ x ∧ x ≤ 2147483647) ∧ xs (6 * j + 3) = pv_I x := ⟨_, pv_I_rep _⟩
  obtain ⟨x4, hx4⟩ : ∃ x : Int, (-2147483648 ≤ x ∧ x ≤ 2147483647) ∧ xs (6 * j + 4) = pv_I x := ⟨_, pv_I_rep _⟩

  refine lv_aload_n hx hb dL_1136 rfl (lv_at hl 2 rfl) ?_
  refine lv_aload_n hx hb dL_1137 rfl (lv_at hl 3 rfl) ?_
  refine lv_iload_n hx hb dL_1138 rfl (lv_at hl 0 rfl) ?_
  refine lv_iconst (v := 1) hx hb dL_1139 (by decide) ?_
  refine lv_iadd hx hb dL_1140 ?_
  refine pv_sldJ (kn := 1) (x := x1) hx hb hX hbl hbA hS hL hj (by decide) (by decide) hx1.2 dL_1141 ?_
  refine lv_aload_n hx hb dL_1142 rfl (lv_at hl 3 rfl) ?_
  refine lv_iload_n hx hb dL_1143 rfl (lv_at hl 0 rfl) ?_
  refine lv_iconst (v := 2) hx hb dL_1144 (by decide) ?_
  refine lv_iadd hx hb dL_1145 ?_
  refine pv_sldJ (kn := 2) (x := x2) hx hb hX hbl hbA hS hL hj (by decide) (by decide) hx2.2 dL_1146 ?_
  refine lv_aload_n hx hb dL_1147 rfl (lv_at hl 3 rfl) ?_
  refine lv_iload_n hx hb dL_1148 rfl (lv_at hl 0 rfl) ?_
  refine lv_iconst (v := 3) hx hb dL_1149 (by decide) ?_
  refine lv_iadd hx hb dL_1150 ?_
  refine pv_sldJ (kn := 3) (x := x3) hx hb hX hbl hbA hS hL hj (by decide) (by decide) hx3.2 dL_1151 ?_
  refine lv_aload_n hx hb dL_1152 rfl (lv_at hl 3 rfl) ?_
  refine lv_iload_n hx hb dL_1153 rfl (lv_at hl 0 rfl) ?_
  refine lv_iconst (v := 4) hx hb dL_1154 (by decide) ?_
  refine lv_iadd hx hb dL_1155 ?_
  refine pv_sldJ (kn := 4) (x := x4) hx hb hX hbl hbA hS hL hj (by decide) (by decide) hx4.2 dL_1156 ?_
  obtain ⟨fs0, hcell0, -⟩ := (hT h0 0 t0).1 _ rfl
  refine pv_lawcall (As := [.int (pv_I x1), .int (pv_I x2), .int (pv_I x3), .int (pv_I x4)]) (rest := []) hx hb hml hown hts hWd lk159 (ct159 (τ := τ) (ρ := ρ) hT t0 hx1.1 hx2.1 hx3.1 hx4.1) hcell0 rfl (by rw [m159]; exact Nat.le_of_ble_eq_true rfl) hR hP hD hS (Nat.le_of_ble_eq_true rfl) hl.1 dL_1157 hc (fun r h' H locs ws hq hR hP hD hS => ?_)
  obtain ⟨hT', hF', z0, er, lo0, hi0⟩ := hq
  subst er
  have hN := hN.fr hT hF' (by decide)
  have hM : pw_ok (pv_aI h' (ρ h1 1)) := by rw [hF'.aeq r1 (by decide)]; exact hM
  have hI : im_ok (pv_aI h' (ρ h1 2)) := by rw [hF'.aeq r2 (by decide)]; exact hI
  have e24 := hF'.aeq k24 (by decide)
  have e25 := hF'.aeq k25 (by decide)
  have hQ := hQ.fr hT k5 k24 k25 hF' (by decide)
  have hT := hT'
  refine W.eq (g2 := F0 m 1160 ls [.long (pv_J z0)]) rfl ?_
  refine lv_pop2_2 hx hb dL_1160 rfl ?_
  refine lv_aload_n hx hb dL_1161 rfl (lv_at hl 1 rfl) ?_
  refine lv_aload_n hx hb dL_1162 rfl (lv_at hl 3 rfl) ?_
  refine lv_iload_n hx hb dL_1163 rfl (lv_at hl 0 rfl) ?_
  refine lv_iconst (v := 1) hx hb dL_1164 (by decide) ?_
  refine lv_iadd hx hb dL_1165 ?_
  refine pv_sldJ (kn := 1) (x := x1) hx hb hX hbl hbA hS hL hj (by decide) (by decide) hx1.2 dL_1166 ?_
  refine lv_aload_n hx hb dL_1167 rfl (lv_at hl 3 rfl) ?_
  refine lv_iload_n hx hb dL_1168 rfl (lv_at hl 0 rfl) ?_
  refine lv_iconst (v := 2) hx hb dL_1169 (by decide) ?_
  refine lv_iadd hx hb dL_1170 ?_
  refine pv_sldJ (kn := 2) (x := x2) hx hb hX hbl hbA hS hL hj (by decide) (by decide) hx2.2 dL_1171 ?_
  refine lv_aload_n hx hb dL_1172 rfl (lv_at hl 3 rfl) ?_
  refine lv_iload_n hx hb dL_1173 rfl (lv_at hl 0 rfl) ?_
  refine lv_iconst (v := 3) hx hb dL_1174 (by decide) ?_
  refine lv_iadd hx hb dL_1175 ?_
  refine pv_sldJ (kn := 3) (x := x3) hx hb hX hbl hbA hS hL hj (by decide) (by decide) hx3.2 dL_1176 ?_
  refine lv_aload_n hx hb dL_1177 rfl (lv_at hl 3 rfl) ?_
  refine lv_iload_n hx hb dL_1178 rfl (lv_at hl 0 rfl) ?_
  refine lv_iconst (v := 4) hx hb dL_1179 (by decide) ?_
  refine lv_iadd hx hb dL_1180 ?_
  refine pv_sldJ (kn := 4) (x := x4) hx hb hX hbl hbA hS hL hj (by decide) (by decide) hx4.2 dL_1181 ?_
  obtain ⟨fs1, hcell1, -⟩ := (hT h1 7 t1).1 _ rfl
  refine pv_lawcall (As := [.int (pv_I x1), .int (pv_I x2), .int (pv_I x3), .int (pv_I x4)]) (rest := []) hx hb hml hown hts hWd lk305 (ct305 (τ := τ) (ρ := ρ) hT t1 hx1.1 hx2.1 hx3.1 hx4.1) hcell1 rfl (by rw [m305]; exact Nat.le_of_ble_eq_true rfl) hR hP hD hS (Nat.le_of_ble_eq_true rfl) hl.1 dL_1182 hc (fun r h' H locs ws hq hR hP hD hS => ?_)
  obtain ⟨hT', hF', z1, er, lo1, hi1⟩ := hq
  subst er
  have hN := hN.fr hT hF' (by decide)
  have hM : pw_ok (pv_aI h' (ρ h1 1)) := by rw [hF'.aeq r1 (by decide)]; exact hM
  have hI : im_ok (pv_aI h' (ρ h1 2)) := by rw [hF'.aeq r2 (by decide)]; exact hI
  have hQ := hQ.fr hT k5 k24 k25 hF' (by decide)
  have hT := hT'
  refine W.eq (g2 := F0 m 1185 ls [.long (pv_J z1)]) rfl ?_
  refine lv_pop2_2 hx hb dL_1185 rfl ?_
  refine lv_goto (tgt := 1529) hx hb dL_1186 (by decide) ?_
  exact kk _ _ _ _ ⟨hT, t0, t1, hN, hM, hI, hQ, hR, hP, hD, hS⟩
end LE
