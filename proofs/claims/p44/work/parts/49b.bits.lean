/-! bits -/
theorem pv_and31 : ∀ n : Nat, n < 32 → (pv_I n &&& 31) = pv_I n := by decide
theorem pv_smod : ∀ n : Nat, n < 32 → ((pv_I n).toBitVec.smod 32#32).toNat = n := by decide
theorem pv_shl1n : ∀ n : Nat, n < 31 → (pv_I 1 <<< (pv_I n &&& 31)) = pv_I ((2 ^ n : Nat) : Int) := by decide
theorem pv_shr_n (z : Int32) (n : Nat) (h : n < 32) : (z >>> (pv_I n &&& 31)).toInt = z.toInt / ((2 ^ n : Nat) : Int) := by
  rw [pv_and31 n h]
  show (z >>> pv_I n).toBitVec.toInt = _
  rw [Int32.toBitVec_shiftRight]
  show (z.toBitVec.sshiftRight ((pv_I n).toBitVec.smod 32#32).toNat).toInt = _
  rw [pv_smod n h, BitVec.toInt_sshiftRight, Int.shiftRight_eq_div_pow]
  rfl
theorem pv_and1 (w : Int32) : (w &&& 1).toInt = w.toInt % 2 := by
  have e1 : (w &&& 1).toBitVec = w.toBitVec &&& 1#32 := rfl
  have e2 : (w.toBitVec &&& 1#32).toNat = w.toBitVec.toNat % 2 := by rw [BitVec.toNat_and]; exact Nat.and_one_is_mod _
  show (w &&& 1).toBitVec.toInt = w.toBitVec.toInt % 2
  rw [e1]
  have h1 := w.toBitVec.isLt
  have h2 : (w.toBitVec &&& 1#32).toInt = ((w.toBitVec &&& 1#32).toNat : Int) := BitVec.toInt_eq_toNat_of_lt (by rw [e2]; omega)
  rw [h2, e2, BitVec.toInt_eq_toNat_cond]
  split <;> omega
/-- 'x >> i & 1' -/
theorem pv_bit {x i z w : Int} (hx : pv_r x) (h0 : 0 ≤ i) (h1 : i ≤ 31) (hz : pv_r z) (hw : pv_r w) (e : pv_I x >>> (pv_I i &&& 31) = pv_I z) (e2 : pv_I z &&& pv_I 1 = pv_I w) : z = x / ((2 ^ i.toNat : Nat) : Int) ∧ w = x / ((2 ^ i.toNat : Nat) : Int) % 2 := by
  have hi : i = ((i.toNat : Nat) : Int) := by omega
  have a1 := congrArg Int32.toInt e
  rw [hi, pv_shr_n _ _ (by omega), pv_I_toInt hx, pv_I_toInt hz] at a1
  have a2 := congrArg Int32.toInt e2
  rw [show pv_I z &&& pv_I 1 = pv_I z &&& 1 from rfl, pv_and1, pv_I_toInt hz, pv_I_toInt hw] at a2
  have a3 : i.toNat = ((i.toNat : Nat) : Int).toNat := by omega
  exact ⟨by rw [← a1], by rw [← a2, ← a1]⟩
theorem pv_shl1 {y z : Int} (h0 : 0 ≤ y) (h1 : y ≤ 30) (hz : pv_r z) (e : pv_I 1 <<< (pv_I y &&& 31) = pv_I z) : z = ((2 ^ y.toNat : Nat) : Int) := by
  have hi : y = ((y.toNat : Nat) : Int) := by omega
  rw [hi, pv_shl1n _ (by omega)] at e
  have hb : 2 ^ y.toNat ≤ 2 ^ 30 := Nat.pow_le_pow_right (by omega) (by omega)
  generalize 2 ^ y.toNat = w at e hb ⊢
  have a1 := congrArg Int32.toInt e
  rw [pv_I_toInt ⟨by omega, by omega⟩, pv_I_toInt hz] at a1
  exact a1.symm
theorem pv_shl1_b {y z : Int} {n m : Nat} (h0 : 0 ≤ y) (h1 : y ≤ n) (hn : n ≤ 30) (hm : 2 ^ n = m) (hz : pv_r z) (e : pv_I 1 <<< (pv_I y &&& 31) = pv_I z) : 1 ≤ z ∧ z ≤ m := by
  have := pv_shl1 h0 (by omega) hz e
  have hb : 2 ^ y.toNat ≤ 2 ^ n := Nat.pow_le_pow_right (by omega) (by omega)
  have hp : 0 < 2 ^ y.toNat := Nat.pow_pos (by omega)
  omega
/-- the step of a search for the lowest bit -/
theorem pv_low_step {x i : Int} (h0 : 0 ≤ i) (ha : x % ((2 ^ i.toNat : Nat) : Int) = 0) (hb : x / ((2 ^ i.toNat : Nat) : Int) % 2 = 0) : x % ((2 ^ (i + 1).toNat : Nat) : Int) = 0 := by
  have e : (i + 1).toNat = i.toNat + 1 := by omega
  rw [e, Nat.pow_succ]
  generalize (2 ^ i.toNat : Nat) = m at *
  have h1 := Int.mul_ediv_add_emod x m
  have h2 := Int.mul_ediv_add_emod (x / m) 2
  rw [ha] at h1
  rw [hb] at h2
  generalize x / (m : Int) = y at *
  generalize y / 2 = w at *
  have e2 : ((m * 2 : Nat) : Int) = (m : Int) * 2 := by push_cast; rfl
  rw [e2, ← h1, ← h2, Int.add_zero, Int.add_zero, ← Int.mul_assoc]
  exact Int.mul_emod_right _ _
theorem pv_low_end {x i : Int} (h0 : 0 ≤ i) (ha : x % ((2 ^ i.toNat : Nat) : Int) = 0) (hx : 0 < x) (hx2 : x < 1024) : i ≤ 9 := by
  by_cases hi : i ≤ 9
  · exact hi
  · exfalso
    have hb : 2 ^ 10 ≤ 2 ^ i.toNat := Nat.pow_le_pow_right (by omega) (by omega)
    have h1 : x % ((2 ^ i.toNat : Nat) : Int) = x := Int.emod_eq_of_lt (by omega) (by omega)
    omega
theorem pv_and1_b {x z : Int} (hx : pv_r z) (e : pv_I x &&& pv_I 1 = pv_I z) : 0 ≤ z ∧ z ≤ 1 := by
  have a2 := congrArg Int32.toInt e
  rw [show pv_I x &&& pv_I 1 = pv_I x &&& 1 from rfl, pv_and1, pv_I_toInt hx] at a2
  omega
theorem pv_J_divn {x y : Int} (hx : pv_q x) (hy : pv_q y) (h0 : 0 ≤ x) (h1 : 0 < y) : pv_J x / pv_J y = pv_J (x / y) := by
  have h2 := pv_J_rep (pv_J x / pv_J y)
  rw [h2.2]
  congr 1
  rw [Int64.toInt_div, pv_J_toInt hx, pv_J_toInt hy, Int.tdiv_eq_ediv_of_nonneg h0]
  have hb : 0 ≤ x / y ∧ x / y ≤ x := ⟨Int.ediv_nonneg h0 (by omega), Int.ediv_le_self _ h0⟩
  exact Int.bmod_eq_of_le (by omega) (by omega)
section PB
variable {K : Nat → Nat} {M pc : Nat} {f : pv_F} {st : List Value} {h : pv_H} {Q : Option Value → pv_H → Prop}
theorem pw_ldiv {x y : Int} (hd : pv_dec M pc = some (.ldiv, 1)) (hx : pv_q x) (hy : pv_q y) (h0 : 0 ≤ x) (h1 : 0 < y) (k : pv_T K M (pc + 1) f (.long (pv_J (x / y)) :: st) h Q) : pv_T K M pc f (.long (pv_J y) :: .long (pv_J x) :: st) h Q := pw_step hd rfl (by simp only [pv_sp]; rw [if_neg (pv_J_ne0 hy (by omega)), pv_J_divn hx hy h0 h1]) k
theorem pw_lrem {x y : Int} (hd : pv_dec M pc = some (.lrem, 1)) (hx : pv_q x) (hy : pv_q y) (h0 : 0 ≤ x) (h1 : 0 < y) (k : pv_T K M (pc + 1) f (.long (pv_J (x % y)) :: st) h Q) : pv_T K M pc f (.long (pv_J y) :: .long (pv_J x) :: st) h Q := pw_step hd rfl (by simp only [pv_sp]; rw [if_neg (pv_J_ne0 hy (by omega)), pv_J_divn hx hy h0 h1, pv_J_mul, pv_J_sub, show x - x / y * y = x % y by rw [Int.emod_def, Int.mul_comm]]) k
end PB
theorem pv_I_toNat {x : Int} (h0 : 0 ≤ x) (h1 : x ≤ 2147483647) : (pv_I x).toBitVec.toNat = x.toNat := by
  have h2 : (pv_I x).toBitVec.toInt = x := pv_I_toInt ⟨by omega, h1⟩
  have h3 := (pv_I x).toBitVec.isLt
  rw [BitVec.toInt_eq_toNat_cond] at h2
  split at h2 <;> omega
theorem pv_or_b {x y z : Int} {n m : Nat} (h0 : 0 ≤ x) (h1 : x < m) (h2 : 0 ≤ y) (h3 : y < m) (hn : n ≤ 30) (hm : 2 ^ n = m) (hz : pv_r z) (e : pv_I x ||| pv_I y = pv_I z) : 0 ≤ z ∧ z < m := by
  have hb : 2 ^ n ≤ 2 ^ 30 := Nat.pow_le_pow_right (by omega) hn
  have a1 := congrArg (fun w : Int32 => w.toBitVec.toNat) e
  have e1 : (pv_I x ||| pv_I y).toBitVec = (pv_I x).toBitVec ||| (pv_I y).toBitVec := rfl
  simp only [e1, BitVec.toNat_or, pv_I_toNat h0 (by omega), pv_I_toNat h2 (by omega)] at a1
  have h4 : x.toNat ||| y.toNat < 2 ^ n := Nat.or_lt_two_pow (by omega) (by omega)
  have h5 : (pv_I z).toBitVec.toInt = z := pv_I_toInt hz
  rw [BitVec.toInt_eq_toNat_cond, ← a1] at h5
  split at h5 <;> omega
theorem pv_and255 {x z : Int} (hx : pv_r x) (hz : pv_r z) (e : pv_I x &&& pv_I 255 = pv_I z) : z = x % 256 := by
  have a1 := congrArg (fun w : Int32 => w.toBitVec.toNat) e
  have e1 : (pv_I x &&& pv_I 255).toBitVec = (pv_I x).toBitVec &&& (pv_I 255).toBitVec := rfl
  have e2 : (pv_I 255).toBitVec.toNat = 2 ^ 8 - 1 := by decide
  simp only [e1, BitVec.toNat_and, e2, Nat.and_two_pow_sub_one_eq_mod] at a1
  have h5 : (pv_I z).toBitVec.toInt = z := pv_I_toInt hz
  have h6 : (pv_I x).toBitVec.toInt = x := pv_I_toInt hx
  have h7 := (pv_I x).toBitVec.isLt
  rw [BitVec.toInt_eq_toNat_cond] at h5 h6
  split at h5 <;> split at h6 <;> omega
section PD
variable {K : Nat → Nat} {M pc : Nat} {f : pv_F} {st : List Value} {h : pv_H} {Q : Option Value → pv_H → Prop}
theorem pw_idivT {x y : Int} (hd : pv_dec M pc = some (.idiv, 1)) (hx : pv_r x) (hy : pv_r y) (h1 : 0 < y) (k : ∀ z, pv_r z → (0 ≤ x → z = x / y) ∧ (x < 0 → z = -((-x) / y)) → pv_T K M (pc + 1) f (.int (pv_I z) :: st) h Q) : pv_T K M pc f (.int (pv_I y) :: .int (pv_I x) :: st) h Q := by
  refine pw_idivU hd hy (by omega) (fun z hz e => k z hz ?_)
  rw [pv_I_div hx hy (by omega)] at e
  have hb : pv_r (x.tdiv y) := by
    by_cases h0 : 0 ≤ x
    · rw [Int.tdiv_eq_ediv_of_nonneg h0]
      exact ⟨by have := Int.ediv_nonneg h0 (show (0 : Int) ≤ y by omega); omega, by have := Int.ediv_le_self y h0; omega⟩
    · rw [show x = -(-x) by omega, Int.neg_tdiv, Int.tdiv_eq_ediv_of_nonneg (show (0 : Int) ≤ -x by omega)]
      have a1 := Int.ediv_nonneg (show (0 : Int) ≤ -x by omega) (show (0 : Int) ≤ y by omega)
      have a2 := Int.ediv_le_self y (show (0 : Int) ≤ -x by omega)
      exact ⟨by omega, by omega⟩
  have e2 := (pv_I_eq hb hz).mp e
  refine ⟨fun h0 => ?_, fun h0 => ?_⟩
  · rw [← e2, Int.tdiv_eq_ediv_of_nonneg h0]
  · rw [← e2]
    conv => lhs; rw [show x = -(-x) by omega]
    rw [Int.neg_tdiv, Int.tdiv_eq_ediv_of_nonneg (show (0 : Int) ≤ -x by omega)]
theorem pw_iremT {x y : Int} (hd : pv_dec M pc = some (.irem, 1)) (hx : pv_r x) (hy : pv_r y) (h1 : 0 < y) (k : ∀ z, pv_r z → (0 ≤ x → z = x % y) ∧ (x < 0 → z = -((-x) % y)) → pv_T K M (pc + 1) f (.int (pv_I z) :: st) h Q) : pv_T K M pc f (.int (pv_I y) :: .int (pv_I x) :: st) h Q := by
  refine pw_iremU hd hy (by omega) (fun z hz e => k z hz ?_)
  rw [pv_I_div hx hy (by omega), pv_I_mul, pv_I_sub] at e
  by_cases h0 : 0 ≤ x
  · rw [Int.tdiv_eq_ediv_of_nonneg h0, show x - x / y * y = x % y by rw [Int.emod_def, Int.mul_comm]] at e
    have a1 := Int.emod_nonneg x (show y ≠ 0 by omega)
    have a2 := Int.emod_lt_of_pos x h1
    have e2 := (pv_I_eq ⟨by omega, by omega⟩ hz).mp e
    exact ⟨fun _ => e2.symm, fun q => by omega⟩
  · have ex : x.tdiv y = -((-x) / y) := by
      conv => lhs; rw [show x = -(-x) by omega]
      rw [Int.neg_tdiv, Int.tdiv_eq_ediv_of_nonneg (show (0 : Int) ≤ -x by omega)]
    have em := Int.emod_def (-x) y
    rw [ex, Int.neg_mul, Int.mul_comm, show x - -(y * (-x / y)) = -((-x) % y) by omega] at e
    have a1 := Int.emod_nonneg (-x) (show y ≠ 0 by omega)
    have a2 := Int.emod_lt_of_pos (-x) h1
    have e2 := (pv_I_eq ⟨by omega, by omega⟩ hz).mp e
    exact ⟨fun q => by omega, fun _ => e2.symm⟩
end PD
