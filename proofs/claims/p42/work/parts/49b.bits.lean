/-! bits -/
theorem pv_and31 : ∀ n : Nat, n < 32 → (pv_I n &&& 31) = pv_I n := by decide
theorem pv_smod : ∀ n : Nat, n < 32 → ((pv_I n).toBitVec.smod 32#32).toNat = n := by decide
theorem pv_shl1n : ∀ n : Nat, n < 31 → (pv_I 1 <<< (pv_I n &&& 31)) = pv_I ((2 ^ n : Nat) : Int) := by decide
theorem pv_shr_n (z : Int32) (n : Nat) (h : n < 32) : (z >>> (pv_I n &&& 31)).toInt = z.toInt / ((2 ^ n : Nat) : Int) := by
  rw [pv_and31 n h]
  show (z >>> pv_I n).toBitVec.toInt = _
  rw [Int32.toBitVec_shiftRight]
  show (z.toBitVec.sshiftRight ((pv_I n).toBitVec.smod 32#32).toNat).toInt = _
  rw [pv_smod n h, BitVec.toInt_sshiftRight, Int.shiftRight_eq_div_pow]
  rfl
theorem pv_and1 (w : Int32) : (w &&& 1).toInt = w.toInt % 2 := by
  have e1 : (w &&& 1).toBitVec = w.toBitVec &&& 1#32 := rfl
  have e2 : (w.toBitVec &&& 1#32).toNat = w.toBitVec.toNat % 2 := by rw [BitVec.toNat_and]; exact Nat.and_one_is_mod _
  show (w &&& 1).toBitVec.toInt = w.toBitVec.toInt % 2
  rw [e1]
  have h1 := w.toBitVec.isLt
  have h2 : (w.toBitVec &&& 1#32).toInt = ((w.toBitVec &&& 1#32).toNat : Int) := BitVec.toInt_eq_toNat_of_lt (by rw [e2]; omega)
  rw [h2, e2, BitVec.toInt_eq_toNat_cond]
  split <;> omega
/-- 'x >> i & 1' -/
theorem pv_bit {x i z w : Int} (hx : pv_r x) (h0 : 0 ≤ i) (h1 : i ≤ 31) (hz : pv_r z) (hw : pv_r w) (e : pv_I x >>> (pv_I i &&& 31) = pv_I z) (e2 : pv_I z &&& pv_I 1 = pv_I w) : z = x / ((2 ^ i.toNat : Nat) : Int) ∧ w = x / ((2 ^ i.toNat : Nat) : Int) % 2 := by
  have hi : i = ((i.toNat : Nat) : Int) := by omega
  have a1 := congrArg Int32.toInt e
  rw [hi, pv_shr_n _ _ (by omega), pv_I_toInt hx, pv_I_toInt hz] at a1
  have a2 := congrArg Int32.toInt e2
  rw [show pv_I z &&& pv_I 1 = pv_I z &&& 1 from rfl, pv_and1, pv_I_toInt hz, pv_I_toInt hw] at a2
  have a3 : i.toNat = ((i.toNat : Nat) : Int).toNat := by omega
  exact ⟨by rw [← a1], by rw [← a2, ← a1]⟩
theorem pv_shl1 {y z : Int} (h0 : 0 ≤ y) (h1 : y ≤ 30) (hz : pv_r z) (e : pv_I 1 <<< (pv_I y &&& 31) = pv_I z) : z = ((2 ^ y.toNat : Nat) : Int) := by
  have hi : y = ((y.toNat : Nat) : Int) := by omega
  rw [hi, pv_shl1n _ (by omega)] at e
  have hb : 2 ^ y.toNat ≤ 2 ^ 30 := Nat.pow_le_pow_right (by omega) (by omega)
  generalize 2 ^ y.toNat = w at e hb ⊢
  have a1 := congrArg Int32.toInt e
  rw [pv_I_toInt ⟨by omega, by omega⟩, pv_I_toInt hz] at a1
  exact a1.symm
theorem pv_shl1_b {y z : Int} {n m : Nat} (h0 : 0 ≤ y) (h1 : y ≤ n) (hn : n ≤ 30) (hm : 2 ^ n = m) (hz : pv_r z) (e : pv_I 1 <<< (pv_I y &&& 31) = pv_I z) : 1 ≤ z ∧ z ≤ m := by
  have := pv_shl1 h0 (by omega) hz e
  have hb : 2 ^ y.toNat ≤ 2 ^ n := Nat.pow_le_pow_right (by omega) (by omega)
  have hp : 0 < 2 ^ y.toNat := Nat.pow_pos (by omega)
  omega
/-- the step of a search for the lowest bit -/
theorem pv_low_step {x i : Int} (h0 : 0 ≤ i) (ha : x % ((2 ^ i.toNat : Nat) : Int) = 0) (hb : x / ((2 ^ i.toNat : Nat) : Int) % 2 = 0) : x % ((2 ^ (i + 1).toNat : Nat) : Int) = 0 := by
  have e : (i + 1).toNat = i.toNat + 1 := by omega
  rw [e, Nat.pow_succ]
  generalize (2 ^ i.toNat : Nat) = m at *
  have h1 := Int.mul_ediv_add_emod x m
  have h2 := Int.mul_ediv_add_emod (x / m) 2
  rw [ha] at h1
  rw [hb] at h2
  generalize x / (m : Int) = y at *
  generalize y / 2 = w at *
  have e2 : ((m * 2 : Nat) : Int) = (m : Int) * 2 := by push_cast; rfl
  rw [e2, ← h1, ← h2, Int.add_zero, Int.add_zero, ← Int.mul_assoc]
  exact Int.mul_emod_right _ _
theorem pv_low_end {x i : Int} (h0 : 0 ≤ i) (ha : x % ((2 ^ i.toNat : Nat) : Int) = 0) (hx : 0 < x) (hx2 : x < 1024) : i ≤ 9 := by
  by_cases hi : i ≤ 9
  · exact hi
  · exfalso
    have hb : 2 ^ 10 ≤ 2 ^ i.toNat := Nat.pow_le_pow_right (by omega) (by omega)
    have h1 : x % ((2 ^ i.toNat : Nat) : Int) = x := Int.emod_eq_of_lt (by omega) (by omega)
    omega
