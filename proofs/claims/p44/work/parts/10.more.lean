section PM
variable {K : Nat → Nat} {M pc : Nat} {f : pv_F} {st : List Value} {h : pv_H} {Q : Option Value → pv_H → Prop} {τ : Nat → Option Nat} {ρ : Nat → Nat → Nat}
def pv_kC (M idx : Nat) : Bool := match pv_ml M idx with
  | some (y, none) => decide (y = pv_cpn) && pv_okC M
  | _ => false
/-- System.arraycopy of ints -/
theorem pw_copyG {a0 a t0 t n0 n1 idx : Nat} {sp dp n : Int} {p0 p1 : List (Int × Int)} (hd : pv_dec M pc = some (.invokestatic idx, 3)) (hk : pv_kC M idx = true) (hT : pv_Ty τ ρ h) (ha0 : τ a0 = some t0) (ha : τ a = some t) (ht0 : pv_tyA t0 = some (0, n0, 1, p0)) (ht : pv_tyA t = some (0, n1, 1, p1)) (hO : pv_tyO t = none) (hn0 : Nat.ble n0 2147483647 = true) (hn1 : Nat.ble n1 2147483647 = true) (hr : Nat.ble (st.map fun v => v.category).sum 8 = true) (h0 : 0 ≤ sp) (h1 : 0 ≤ dp) (h2 : 0 ≤ n) (h3 : sp + n ≤ n0) (h4 : dp + n ≤ n1)
    (hel : ∀ i : Nat, (i : Int) < n → ∀ q, p1[(dp.toNat + i) % p1.length]? = some q → q.1 ≤ pv_aI h a0 (sp.toNat + i) ∧ pv_aI h a0 (sp.toNat + i) ≤ q.2)
    (kk : ∀ h', pv_Ty τ ρ h' → pv_Fr τ [t * 64 + 63] h h' → (∀ b j, pv_aI h' b j = if b = a ∧ dp.toNat ≤ j ∧ j < dp.toNat + n.toNat then pv_aI h a0 (sp.toNat + (j - dp.toNat)) else pv_aI h b j) → pv_T K M (pc + 3) f st h' Q) : pv_T K M pc f (.int (pv_I n) :: .int (pv_I dp) :: .ref a :: .int (pv_I sp) :: .ref a0 :: st) h Q := by
  obtain ⟨g0, e0, hf0⟩ := (hT a0 t0 ha0).2 _ ht0
  obtain ⟨g1, e1, hf1⟩ := (hT a t ha).2 _ ht
  have hm0 := Nat.le_of_ble_eq_true hn0
  have hm1 := Nat.le_of_ble_eq_true hn1
  have hsum := Nat.le_of_ble_eq_true hr
  have hz : pv_r 0 := ⟨by omega, by omega⟩
  have e3 : ∀ j, pv_aI h a0 j = (g0 j).toInt := fun j => by simp only [pv_aI, e0]
  have e4 : ∀ j, pv_aI h a j = (g1 j).toInt := fun j => by simp only [pv_aI, e1]
  unfold pv_kC at hk
  split at hk
  · rename_i y hy
    simp only [Bool.and_eq_true, decide_eq_true_eq] at hk
    obtain ⟨rfl, hok⟩ := hk
    refine pw_steph hd rfl rfl ?_ (kk (pv_set h a (.inl (0, n1, .inl (va_cpy g0 g1 sp.toNat dp.toNat n.toNat)))) (hT.setA ha hO ht (fun h' e' => ⟨_, e', fun j hj q hjq => ?_⟩)) (pv_Fr.setA ha e1) (fun b j => ?_))
    · unfold pv_sh
      have c1 : ¬ pv_I sp < 0 := fun z => by have := (pv_I_lt (y := 0) ⟨by omega, by omega⟩ hz).mp z; omega
      have c2 : ¬ pv_I dp < 0 := fun z => by have := (pv_I_lt (y := 0) ⟨by omega, by omega⟩ hz).mp z; omega
      have c3 : ¬ pv_I n < 0 := fun z => by have := (pv_I_lt (y := 0) ⟨by omega, by omega⟩ hz).mp z; omega
      simp only [hy, hok, and_self, if_true]
      rw [if_pos ⟨hsum, c1, c2, c3⟩]
      simp only [e0, e1, pv_I_nat h0 (by omega), pv_I_nat h1 (by omega), pv_I_nat h2 (by omega)]
      rw [if_pos ⟨by omega, by omega⟩]
    · show q.1 ≤ (va_cpy g0 g1 sp.toNat dp.toNat n.toNat j).toInt ∧ (va_cpy g0 g1 sp.toNat dp.toNat n.toNat j).toInt ≤ q.2
      unfold va_cpy
      by_cases hc : dp.toNat ≤ j ∧ j < dp.toNat + n.toNat
      · rw [if_pos hc]
        have := hel (j - dp.toNat) (by omega) q (by rw [show dp.toNat + (j - dp.toNat) = j by omega]; exact hjq)
        rw [e3] at this
        exact this
      · rw [if_neg hc]
        exact hf1 j hj q hjq
    · by_cases hba : b = a
      · subst hba
        by_cases hc : dp.toNat ≤ j ∧ j < dp.toNat + n.toNat
        · rw [if_pos ⟨rfl, hc⟩, e3]
          simp only [pv_aI, pv_set_self, va_cpy, if_pos hc]
        · rw [if_neg (fun z => hc z.2), e4]
          simp only [pv_aI, pv_set_self, va_cpy, if_neg hc]
      · rw [(pv_set_fI hba).2.2.1, if_neg (fun z => hba z.1)]
  · cases hk
/-- two arrays of one type, from their starts on -/
theorem pw_copyT {a0 a t n1 idx : Nat} {n : Int} {p1 : List (Int × Int)} (hd : pv_dec M pc = some (.invokestatic idx, 3)) (hk : pv_kC M idx = true) (hT : pv_Ty τ ρ h) (ha0 : τ a0 = some t) (ha : τ a = some t) (ht : pv_tyA t = some (0, n1, 1, p1)) (hO : pv_tyO t = none) (hn1 : Nat.ble n1 2147483647 = true) (hr : Nat.ble (st.map fun v => v.category).sum 8 = true) (h2 : 0 ≤ n) (h4 : n ≤ n1)
    (kk : ∀ h', pv_Ty τ ρ h' → pv_Fr τ [t * 64 + 63] h h' → (∀ b j, pv_aI h' b j = if b = a ∧ j < n.toNat then pv_aI h a0 j else pv_aI h b j) → pv_T K M (pc + 3) f st h' Q) : pv_T K M pc f (.int (pv_I n) :: .int (pv_I 0) :: .ref a :: .int (pv_I 0) :: .ref a0 :: st) h Q := by
  refine pw_copyG hd hk hT ha0 ha ht ht hO hn1 hn1 hr (by omega) (by omega) h2 (by omega) (by omega) (fun i hi q hq => ?_) (fun h' T' F' E' => kk h' T' F' (fun b j => ?_))
  · obtain ⟨g0, e0, hf0⟩ := (hT a0 t ha0).2 _ ht
    have e3 : ∀ j, pv_aI h a0 j = (g0 j).toInt := fun j => by simp only [pv_aI, e0]
    have e6 : (0 : Int).toNat + i = i := by simp
    rw [e6] at hq ⊢
    rw [e3]
    exact hf0 i (show i < n1 by omega) q hq
  · rw [E' b j]
    simp only [Int.toNat_zero, Nat.zero_add, Nat.sub_zero, Nat.zero_le, true_and]
theorem pw_copyL {a0 a t0 t n0 n1 idx : Nat} {sp dp n : Int} {p0 p1 : List (Int × Int)} (hd : pv_dec M pc = some (.invokestatic idx, 3)) (hk : pv_kC M idx = true) (hT : pv_Ty τ ρ h) (ha0 : τ a0 = some t0) (ha : τ a = some t) (ht0 : pv_tyA t0 = some (1, n0, 2, p0)) (ht : pv_tyA t = some (1, n1, 2, p1)) (hO : pv_tyO t = none) (hn0 : Nat.ble n0 2147483647 = true) (hn1 : Nat.ble n1 2147483647 = true) (hr : Nat.ble (st.map fun v => v.category).sum 8 = true) (h0 : 0 ≤ sp) (h1 : 0 ≤ dp) (h2 : 0 ≤ n) (h3 : sp + n ≤ n0) (h4 : dp + n ≤ n1)
    (kk : ∀ h', pv_Ty τ ρ h' → pv_Fr τ [t * 64 + 63] h h' → pv_T K M (pc + 3) f st h' Q) : pv_T K M pc f (.int (pv_I n) :: .int (pv_I dp) :: .ref a :: .int (pv_I sp) :: .ref a0 :: st) h Q := by
  obtain ⟨g0, e0⟩ := (hT a0 t0 ha0).2 _ ht0
  obtain ⟨g1, e1⟩ := (hT a t ha).2 _ ht
  have hm0 := Nat.le_of_ble_eq_true hn0
  have hm1 := Nat.le_of_ble_eq_true hn1
  have hsum := Nat.le_of_ble_eq_true hr
  have hz : pv_r 0 := ⟨by omega, by omega⟩
  unfold pv_kC at hk
  split at hk
  · rename_i y hy
    simp only [Bool.and_eq_true, decide_eq_true_eq] at hk
    obtain ⟨rfl, hok⟩ := hk
    refine pw_steph hd rfl rfl ?_ (kk (pv_set h a (.inl (1, n1, .inr (.inl (va_cpy g0 g1 sp.toNat dp.toNat n.toNat))))) (hT.setA ha hO ht (fun h' e' => ⟨_, e'⟩)) (pv_Fr.setA ha e1))
    unfold pv_sh
    have c1 : ¬ pv_I sp < 0 := fun z => by have := (pv_I_lt (y := 0) ⟨by omega, by omega⟩ hz).mp z; omega
    have c2 : ¬ pv_I dp < 0 := fun z => by have := (pv_I_lt (y := 0) ⟨by omega, by omega⟩ hz).mp z; omega
    have c3 : ¬ pv_I n < 0 := fun z => by have := (pv_I_lt (y := 0) ⟨by omega, by omega⟩ hz).mp z; omega
    simp only [hy, hok, and_self, if_true]
    rw [if_pos ⟨hsum, c1, c2, c3⟩]
    simp only [e0, e1, pv_I_nat h0 (by omega), pv_I_nat h1 (by omega), pv_I_nat h2 (by omega)]
    rw [if_pos ⟨by omega, by omega⟩]
  · cases hk
/-- the literals: each is found by its place -/
def pv_Kok (K : Nat → Nat) : Prop := ∀ q, q < 9 → pv_si K (K q) = some q
def pv_kL (M idx : Nat) (y : MethodName) : Bool := match pv_ml M idx with
  | some (y', none) => decide (y' = y) && pv_okL M
  | _ => false
theorem pv_len_ok : ∀ q, q < 9 → 2 ≤ pv_len.getD q 0 ∧ pv_len.getD q 0 ≤ 6 := by decide
theorem pw_slen {q idx : Nat} (hd : pv_dec M pc = some (.invokevirtual idx, 3)) (hk : pv_kL M idx pv_sln = true) (hK : pv_Kok K) (hq : q < 9) (hr : Nat.ble (st.map fun v => v.category).sum 8 = true) (kk : (2 : Int) ≤ pv_len.getD q 0 → (pv_len.getD q 0 : Int) ≤ 6 → pv_T K M (pc + 3) f (.int (pv_I (pv_len.getD q 0)) :: st) h Q) : pv_T K M pc f (.ref (K q) :: st) h Q := by
  have hsum := Nat.le_of_ble_eq_true hr
  obtain ⟨l1, l2⟩ := pv_len_ok q hq
  unfold pv_kL at hk
  split at hk
  · rename_i y hy
    simp only [Bool.and_eq_true, decide_eq_true_eq] at hk
    obtain ⟨rfl, hok⟩ := hk
    refine pw_steph hd rfl rfl ?_ (kk (by omega) (by omega))
    have e5 : nI (pv_len.getD q 0) = pv_I (pv_len.getD q 0 : Int) := (Int32.ofInt_eq_ofNat).symm
    unfold pv_sh
    simp only [hy, if_true, hK q hq, e5]
    rw [if_pos ⟨hok, hsum⟩]
  · cases hk
theorem pw_scha {q idx : Nat} {j : Int} (hd : pv_dec M pc = some (.invokevirtual idx, 3)) (hk : pv_kL M idx pv_scn = true) (hK : pv_Kok K) (hq : q < 9) (hr : Nat.ble (st.map fun v => v.category).sum 8 = true) (h0 : 0 ≤ j) (hj : j < pv_len.getD q 0) (kk : ∀ z, pv_r z → (pv_byt.getD q []).getD j.toNat 0 &&& 255 = pv_I z → pv_T K M (pc + 3) f (.int (pv_I z) :: st) h Q) : pv_T K M pc f (.int (pv_I j) :: .ref (K q) :: st) h Q := by
  have hsum := Nat.le_of_ble_eq_true hr
  obtain ⟨l1, l2⟩ := pv_len_ok q hq
  unfold pv_kL at hk
  split at hk
  · rename_i y hy
    simp only [Bool.and_eq_true, decide_eq_true_eq] at hk
    obtain ⟨rfl, hok⟩ := hk
    refine pw_steph hd rfl rfl ?_ (pw_any kk)
    unfold pv_sh
    simp only [hy, if_true, hK q hq]
    rw [if_neg (by decide), if_pos ⟨hok, hsum, pv_in_I h0 hj (by omega)⟩, pv_I_nat h0 (by omega)]
  · cases hk
end PM
section PM2
variable {K : Nat → Nat} {M pc n : Nat} {l : List (Option Value)} {st : List Value} {h : pv_H} {Q : Option Value → pv_H → Prop}
theorem pw_iincU {j : Nat} {x z : Int} (hd : pv_dec M pc = some (.iinc j z, 3)) (hn : pv_mL M = n) (hj : Nat.blt j n = true) (hl : Nat.blt j l.length = true) (hf : l[j]? = some (some (.int (pv_I x)))) (k : ∀ w, pv_r w → pv_T K M (pc + 3) (pv_fl (pv_ls l j (.int (pv_I w)))) st h Q) : pv_T K M pc (pv_fl l) st h Q := by
  refine pw_iinc hd hn hj hl hf ?_
  have h1 := pv_I_rep (pv_I (x + z))
  rw [h1.2]
  exact k _ h1.1
end PM2
section PM3
variable {K : Nat → Nat} {M pc : Nat} {f : pv_F} {st : List Value} {h : pv_H} {Q : Option Value → pv_H → Prop}
def pv_kM (M idx : Nat) (y : MethodName) (cd : ByteArray) (n : Nat) (r : Option FieldType) : Bool := match pv_ml M idx with
  | some (y', none) => decide (y' = y) && pv_okM M y cd n r
  | _ => false
theorem pv_mn1 : Lib.Math.max.name ≠ pv_cpn ∧ Lib.Math.min.name ≠ pv_cpn ∧ Lib.MathLoose.abs_long.x ≠ pv_cpn ∧ Lib.Math.min.name ≠ Lib.Math.max.name ∧ Lib.MathLoose.abs_long.x ≠ Lib.Math.max.name ∧ Lib.MathLoose.abs_long.x ≠ Lib.Math.min.name := by decide +kernel
theorem pw_mmax {idx : Nat} {x y : Int} (hd : pv_dec M pc = some (.invokestatic idx, 3)) (hk : pv_kM M idx Lib.Math.max.name Lib.Math.max.code 2 (some .int) = true) (hr : Nat.ble (st.map fun v => v.category).sum 8 = true) (hx : pv_r x) (hy : pv_r y) (kk : ∀ z, z = x ∨ z = y → x ≤ z ∧ y ≤ z → pv_T K M (pc + 3) f (.int (pv_I z) :: st) h Q) : pv_T K M pc f (.int (pv_I y) :: .int (pv_I x) :: st) h Q := by
  have hsum := Nat.le_of_ble_eq_true hr
  unfold pv_kM at hk
  split at hk
  · rename_i y' hy'
    simp only [Bool.and_eq_true, decide_eq_true_eq] at hk
    obtain ⟨rfl, hok⟩ := hk
    have e : pv_sh K M pc (.invokestatic idx) (.int (pv_I y) :: .int (pv_I x) :: st) h = some (pc + 3, .int (if pv_I x < pv_I y then pv_I y else pv_I x) :: st, h) := by
      unfold pv_sh
      simp only [hy', pv_mn1.1, false_and, if_false, hok, and_self, if_true]
      rw [if_pos hsum]
    by_cases hc : x < y
    · rw [if_pos ((pv_I_lt hx hy).mpr hc)] at e
      exact pw_steph hd rfl rfl e (kk y (Or.inr rfl) (by omega))
    · rw [if_neg (fun q => hc ((pv_I_lt hx hy).mp q))] at e
      exact pw_steph hd rfl rfl e (kk x (Or.inl rfl) (by omega))
  · cases hk
theorem pw_mmin {idx : Nat} {x y : Int} (hd : pv_dec M pc = some (.invokestatic idx, 3)) (hk : pv_kM M idx Lib.Math.min.name Lib.Math.min.code 2 (some .int) = true) (hr : Nat.ble (st.map fun v => v.category).sum 8 = true) (hx : pv_r x) (hy : pv_r y) (kk : ∀ z, z = x ∨ z = y → z ≤ x ∧ z ≤ y → pv_T K M (pc + 3) f (.int (pv_I z) :: st) h Q) : pv_T K M pc f (.int (pv_I y) :: .int (pv_I x) :: st) h Q := by
  have hsum := Nat.le_of_ble_eq_true hr
  unfold pv_kM at hk
  split at hk
  · rename_i y' hy'
    simp only [Bool.and_eq_true, decide_eq_true_eq] at hk
    obtain ⟨rfl, hok⟩ := hk
    have e : pv_sh K M pc (.invokestatic idx) (.int (pv_I y) :: .int (pv_I x) :: st) h = some (pc + 3, .int (if pv_I y < pv_I x then pv_I y else pv_I x) :: st, h) := by
      unfold pv_sh
      simp only [hy', pv_mn1.2.1, pv_mn1.2.2.2.1, false_and, if_false, hok, and_self, if_true]
      rw [if_pos hsum]
    by_cases hc : y < x
    · rw [if_pos ((pv_I_lt hy hx).mpr hc)] at e
      exact pw_steph hd rfl rfl e (kk y (Or.inr rfl) (by omega))
    · rw [if_neg (fun q => hc ((pv_I_lt hy hx).mp q))] at e
      exact pw_steph hd rfl rfl e (kk x (Or.inl rfl) (by omega))
  · cases hk
theorem pw_mabs {idx : Nat} {u : Int64} (hd : pv_dec M pc = some (.invokestatic idx, 3)) (hk : pv_kM M idx Lib.MathLoose.abs_long.x Lib.MathLoose.abs_long.code 2 (some .long) = true) (hr : Nat.ble (st.map fun v => v.category).sum 8 = true) (kk : ∀ z, pv_q z → (if 0 < u then u else -u) = pv_J z → pv_T K M (pc + 3) f (.long (pv_J z) :: st) h Q) : pv_T K M pc f (.long u :: st) h Q := by
  have hsum := Nat.le_of_ble_eq_true hr
  unfold pv_kM at hk
  split at hk
  · rename_i y' hy'
    simp only [Bool.and_eq_true, decide_eq_true_eq] at hk
    obtain ⟨rfl, hok⟩ := hk
    refine pw_steph hd rfl rfl ?_ (pw_anyl kk)
    unfold pv_sh
    simp only [hy', pv_mn1.2.2.1, pv_mn1.2.2.2.2.1, pv_mn1.2.2.2.2.2, false_and, if_false, hok, and_self, if_true]
    rw [if_pos hsum]
  · cases hk
end PM3
