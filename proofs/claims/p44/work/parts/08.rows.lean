/-! ROWS OVER THE PURE MACHINE: ints by whole numbers. -/
abbrev pv_I (x : Int) : Int32 := Int32.ofInt x
abbrev pv_J (x : Int) : Int64 := Int64.ofInt x
abbrev pv_r (x : Int) : Prop := -2147483648 ≤ x ∧ x ≤ 2147483647
abbrev pv_q (x : Int) : Prop := -9223372036854775808 ≤ x ∧ x ≤ 9223372036854775807
theorem pv_I_toInt {x : Int} (h : pv_r x) : (pv_I x).toInt = x := Int32.toInt_ofInt_of_le h.1 (by have := h.2; omega)
theorem pv_J_toInt {x : Int} (h : pv_q x) : (pv_J x).toInt = x := Int64.toInt_ofInt_of_le h.1 (by have := h.2; omega)
theorem pv_I_rep (z : Int32) : pv_r z.toInt ∧ z = pv_I z.toInt := ⟨⟨Int32.le_toInt z, by have := Int32.toInt_lt z; omega⟩, (Int32.ofInt_toInt z).symm⟩
theorem pv_J_rep (z : Int64) : pv_q z.toInt ∧ z = pv_J z.toInt := ⟨⟨Int64.le_toInt z, by have := Int64.toInt_lt z; omega⟩, (Int64.ofInt_toInt z).symm⟩
theorem pv_I_add (x y : Int) : pv_I x + pv_I y = pv_I (x + y) := (Int32.ofInt_add ..).symm
theorem pv_I_sub (x y : Int) : pv_I x - pv_I y = pv_I (x - y) := (Int32.ofInt_sub ..).symm
theorem pv_I_mul (x y : Int) : pv_I x * pv_I y = pv_I (x * y) := (Int32.ofInt_mul ..).symm
theorem pv_I_neg (x : Int) : -(pv_I x) = pv_I (-x) := (Int32.ofInt_neg ..).symm
theorem pv_J_add (x y : Int) : pv_J x + pv_J y = pv_J (x + y) := (Int64.ofInt_add ..).symm
theorem pv_J_sub (x y : Int) : pv_J x - pv_J y = pv_J (x - y) := (Int64.ofInt_sub ..).symm
theorem pv_J_mul (x y : Int) : pv_J x * pv_J y = pv_J (x * y) := (Int64.ofInt_mul ..).symm
theorem pv_J_neg (x : Int) : -(pv_J x) = pv_J (-x) := (Int64.ofInt_neg ..).symm
theorem pv_I_lt {x y : Int} (hx : pv_r x) (hy : pv_r y) : (pv_I x < pv_I y) ↔ x < y := by rw [Int32.lt_iff_toInt_lt, pv_I_toInt hx, pv_I_toInt hy]
theorem pv_I_le {x y : Int} (hx : pv_r x) (hy : pv_r y) : (pv_I x ≤ pv_I y) ↔ x ≤ y := by rw [Int32.le_iff_toInt_le, pv_I_toInt hx, pv_I_toInt hy]
theorem pv_I_eq {x y : Int} (hx : pv_r x) (hy : pv_r y) : (pv_I x = pv_I y) ↔ x = y := by rw [← Int32.toInt_inj, pv_I_toInt hx, pv_I_toInt hy]
theorem pv_J_lt {x y : Int} (hx : pv_q x) (hy : pv_q y) : (pv_J x < pv_J y) ↔ x < y := by rw [Int64.lt_iff_toInt_lt, pv_J_toInt hx, pv_J_toInt hy]
theorem pv_J_eq {x y : Int} (hx : pv_q x) (hy : pv_q y) : (pv_J x = pv_J y) ↔ x = y := by rw [← Int64.toInt_inj, pv_J_toInt hx, pv_J_toInt hy]
theorem pv_I_nat {x : Int} (h0 : 0 ≤ x) (h : x ≤ 2147483647) : (pv_I x).toNatClampNeg = x.toNat := by
  show (pv_I x).toInt.toNat = _
  rw [pv_I_toInt ⟨by omega, h⟩]
theorem pv_in_I {x : Int} {n : Nat} (h0 : 0 ≤ x) (h : x < n) (hn : (n : Int) ≤ 2147483647) : pv_in (pv_I x) n = true := by
  simp only [pv_in, Bool.and_eq_true, decide_eq_true_eq]
  refine ⟨fun z => ?_, ?_⟩
  · have := (pv_I_lt (x := x) (y := 0) ⟨by omega, by omega⟩ ⟨by omega, by omega⟩).mp z
    omega
  · rw [pv_I_nat h0 (by omega)]
    omega
/-- comes to an end with Q -/
def pv_T (K : Nat → Nat) (M pc : Nat) (f : pv_F) (st : List Value) (h : pv_H) (Q : Option Value → pv_H → Prop) : Prop := ∃ n r h', pv_ev K n M pc f st h = some (r, h') ∧ Q r h'
abbrev pv_C (K : Nat → Nat) (M : Nat) (as : List Value) (h : pv_H) (Q : Option Value → pv_H → Prop) : Prop := pv_T K M 0 (pv_en as) [] h Q
theorem pv_T.mono {K : Nat → Nat} {M pc : Nat} {f : pv_F} {st : List Value} {h : pv_H} {Q Q' : Option Value → pv_H → Prop} (k : pv_T K M pc f st h Q) (hQ : ∀ r h', Q r h' → Q' r h') : pv_T K M pc f st h Q' := by
  obtain ⟨n, r, h', e, q⟩ := k
  exact ⟨n, r, h', e, hQ _ _ q⟩
section PW
variable {K : Nat → Nat} {M pc pc' len n : Nat} {f f' : pv_F} {st st' r : List Value} {h h' : pv_H} {Q : Option Value → pv_H → Prop} {i : Instr} {l : List (Option Value)}
theorem pw_step (hd : pv_dec M pc = some (i, len)) (hl : pv_ln i len = true) (hs : pv_sp (pv_mL M) pc f i st = some (pc', f', st')) (k : pv_T K M pc' f' st' h Q) : pv_T K M pc f st h Q := by
  obtain ⟨n, r, h', e, q⟩ := k
  refine ⟨n + 1, r, h', ?_, q⟩
  rw [pv_ev, hd]
  simp only [hl, if_true, hs]
  exact e
theorem pw_steph (hd : pv_dec M pc = some (i, len)) (hl : pv_ln i len = true) (h0 : pv_sp (pv_mL M) pc f i st = none) (hs : pv_sh K M pc i st h = some (pc', st', h')) (k : pv_T K M pc' f st' h' Q) : pv_T K M pc f st h Q := by
  obtain ⟨n, r, h2, e, q⟩ := k
  refine ⟨n + 1, r, h2, ?_, q⟩
  rw [pv_ev, hd]
  simp only [hl, if_true, h0, hs]
  exact e
theorem pw_ret {v : Option Value} (hd : pv_dec M pc = some (i, len)) (hl : pv_ln i len = true) (h0 : pv_sp (pv_mL M) pc f i st = none) (h1 : pv_sh K M pc i st h = none) (hs : pv_re M i st = some v) (k : Q v h) : pv_T K M pc f st h Q := by
  refine ⟨1, v, h, ?_, k⟩
  rw [pv_ev, hd]
  simp only [hl, if_true, h0, h1, hs]
theorem pw_call {M' : Nat} {as rest : List Value} {Q' : Option Value → pv_H → Prop} (hd : pv_dec M pc = some (i, len)) (hl : pv_ln i len = true) (h0 : pv_sp (pv_mL M) pc f i st = none) (h1 : pv_sh K M pc i st h = none) (h2 : pv_re M i st = none) (hs : pv_cs M i st h = some (M', as, rest)) (hc : pv_C K M' as h Q') (k : ∀ r h', Q' r h' → pv_T K M (pc + 3) f (r.toList ++ rest) h' Q) : pv_T K M pc f st h Q := by
  obtain ⟨n1, r1, h1', e1, q1⟩ := hc
  obtain ⟨n2, r2, h2', e2, q2⟩ := k r1 h1' q1
  refine ⟨max n1 n2 + 1, r2, h2', ?_, q2⟩
  rw [pv_ev, hd]
  simp only [hl, if_true, h0, h1, h2, hs]
  rw [pv_ev_mono K _ _ _ _ _ _ _ e1 _ (Nat.le_max_left _ _)]
  exact pv_ev_mono K _ _ _ _ _ _ _ e2 _ (Nat.le_max_right _ _)
/-- a store into the list of locals -/
def pv_kl (o : Option Value) : Option Value := match o with
  | some w => if w.category = 2 then none else some w
  | none => none
def pv_ls : List (Option Value) → Nat → Value → List (Option Value)
  | [], _, _ => []
  | _ :: t, 0, v => some v :: t
  | o :: t, 1, v => pv_kl o :: pv_ls t 0 v
  | o :: t, k + 2, v => o :: pv_ls t (k + 1) v
def pv_nx : List (Option Value) → List (Option Value)
  | [] => []
  | _ :: t => none :: t
def pv_ls2 : List (Option Value) → Nat → Value → List (Option Value)
  | [], _, _ => []
  | _ :: t, 0, v => some v :: pv_nx t
  | o :: t, 1, v => pv_kl o :: pv_ls2 t 0 v
  | o :: t, k + 2, v => o :: pv_ls2 t (k + 1) v
theorem pv_fl_cons (o : Option Value) (t : List (Option Value)) (j : Nat) : pv_fl (o :: t) j = match j with
    | 0 => o
    | j + 1 => pv_fl t j := by
  cases j <;> rfl
theorem pv_up1_zero (f : pv_F) (v : Value) : pv_up1 f 0 v = fun j => match j with
    | 0 => some v
    | j + 1 => f (j + 1) := by
  funext j
  unfold pv_up1
  cases j with
  | zero => rfl
  | succ j =>
    rw [if_neg (by omega)]
    cases hf : f (j + 1) with
    | none => simp [hf]
    | some w => simp [hf]
theorem pv_fl_ls : ∀ (l : List (Option Value)) (k : Nat) (v : Value), k < l.length → pv_up1 (pv_fl l) k v = pv_fl (pv_ls l k v) := by
  intro l
  induction l with
  | nil => intro k v h; simp at h
  | cons o t ih =>
    intro k v h
    match k, h with
    | 0, h =>
      rw [pv_up1_zero]
      funext j
      cases j <;> rfl
    | 1, h =>
      funext j
      rw [show pv_ls (o :: t) 1 v = pv_kl o :: pv_ls t 0 v from rfl, pv_fl_cons]
      have h2 := ih 0 v (by simp only [List.length_cons] at h; omega)
      rw [← h2]
      cases j with
      | zero =>
        show pv_up1 (pv_fl (o :: t)) 1 v 0 = pv_kl o
        unfold pv_up1 pv_kl
        rw [if_neg (by omega)]
        rw [show pv_fl (o :: t) 0 = o from rfl]
        cases o with
        | none => rfl
        | some w => simp
      | succ j =>
        show pv_up1 (pv_fl (o :: t)) 1 v (j + 1) = pv_up1 (pv_fl t) 0 v j
        unfold pv_up1
        simp only [pv_fl_cons]
        by_cases hj : j = 0
        · subst hj; simp
        · rw [if_neg (by omega), if_neg hj]
          cases pv_fl t j with
          | none => rfl
          | some w => simp <;> omega
    | k + 2, h =>
      funext j
      rw [show pv_ls (o :: t) (k + 2) v = o :: pv_ls t (k + 1) v from rfl, pv_fl_cons]
      have h2 := ih (k + 1) v (by simp only [List.length_cons] at h; omega)
      rw [← h2]
      cases j with
      | zero =>
        show pv_up1 (pv_fl (o :: t)) (k + 2) v 0 = o
        unfold pv_up1
        rw [if_neg (by omega)]
        rw [show pv_fl (o :: t) 0 = o from rfl]
        cases o with
        | none => rfl
        | some w => simp
      | succ j =>
        show pv_up1 (pv_fl (o :: t)) (k + 2) v (j + 1) = pv_up1 (pv_fl t) (k + 1) v j
        unfold pv_up1
        simp only [pv_fl_cons]
        by_cases hj : j = k + 1
        · subst hj; simp
        · rw [if_neg (by omega), if_neg hj]
          cases pv_fl t j with
          | none => rfl
          | some w =>
            have : (j + 1 + 1 = k + 2) ↔ (j + 1 = k + 1) := by omega
            simp only [this]
theorem pv_fl_nx (t : List (Option Value)) (j : Nat) : pv_fl (pv_nx t) j = if j = 0 then none else pv_fl t j := by
  cases t with
  | nil => cases j <;> rfl
  | cons o t => cases j <;> rfl
theorem pv_fl_ls2 : ∀ (l : List (Option Value)) (k : Nat) (v : Value), k < l.length → pv_up2 (pv_fl l) k v = pv_fl (pv_ls2 l k v) := by
  intro l
  induction l with
  | nil => intro k v h; simp at h
  | cons o t ih =>
    intro k v h
    match k, h with
    | 0, h =>
      funext j
      unfold pv_up2
      cases j with
      | zero => rfl
      | succ j =>
        rw [show pv_ls2 (o :: t) 0 v = some v :: pv_nx t from rfl, pv_fl_cons, if_neg (by omega)]
        show _ = pv_fl (pv_nx t) j
        rw [pv_fl_nx]
        by_cases hj : j = 0
        · subst hj; simp
        · rw [if_neg (by omega), if_neg hj]
          show (match pv_fl t j with | some w => _ | none => _) = _
          cases pv_fl t j with
          | none => rfl
          | some w => simp
    | 1, h =>
      funext j
      rw [show pv_ls2 (o :: t) 1 v = pv_kl o :: pv_ls2 t 0 v from rfl, pv_fl_cons]
      have h2 := ih 0 v (by simp only [List.length_cons] at h; omega)
      rw [← h2]
      cases j with
      | zero =>
        show pv_up2 (pv_fl (o :: t)) 1 v 0 = pv_kl o
        unfold pv_up2 pv_kl
        rw [if_neg (by omega), if_neg (by omega)]
        rw [show pv_fl (o :: t) 0 = o from rfl]
        cases o with
        | none => rfl
        | some w => simp
      | succ j =>
        show pv_up2 (pv_fl (o :: t)) 1 v (j + 1) = pv_up2 (pv_fl t) 0 v j
        unfold pv_up2
        simp only [pv_fl_cons]
        by_cases hj : j = 0
        · subst hj; simp
        · by_cases hj1 : j = 1
          · subst hj1; simp
          · rw [if_neg (by omega), if_neg (by omega), if_neg hj, if_neg (by omega)]
            cases pv_fl t j with
            | none => rfl
            | some w => simp <;> omega
    | k + 2, h =>
      funext j
      rw [show pv_ls2 (o :: t) (k + 2) v = o :: pv_ls2 t (k + 1) v from rfl, pv_fl_cons]
      have h2 := ih (k + 1) v (by simp only [List.length_cons] at h; omega)
      rw [← h2]
      cases j with
      | zero =>
        show pv_up2 (pv_fl (o :: t)) (k + 2) v 0 = o
        unfold pv_up2
        rw [if_neg (by omega), if_neg (by omega)]
        rw [show pv_fl (o :: t) 0 = o from rfl]
        cases o with
        | none => rfl
        | some w => simp
      | succ j =>
        show pv_up2 (pv_fl (o :: t)) (k + 2) v (j + 1) = pv_up2 (pv_fl t) (k + 1) v j
        unfold pv_up2
        simp only [pv_fl_cons]
        by_cases hj : j = k + 1
        · subst hj; simp
        · by_cases hj1 : j = k + 1 + 1
          · subst hj1; simp
          · rw [if_neg (by omega), if_neg (by omega), if_neg hj, if_neg hj1]
            cases pv_fl t j with
            | none => rfl
            | some w =>
              have : (j + 1 + 1 = k + 2) ↔ (j + 1 = k + 1) := by omega
              simp only [this]
/-- the entry's locals, filled up -/
theorem pv_fl_pad (l : List (Option Value)) (n : Nat) : pv_fl l = pv_fl (l ++ List.replicate n none) := by
  funext j
  unfold pv_fl
  by_cases hj : j < l.length
  · rw [List.getElem?_append_left hj]
  · rw [List.getElem?_append_right (by omega), List.getElem?_eq_none (by omega)]
    by_cases hr : j - l.length < n
    · simp [List.getElem?_replicate, hr]
    · simp [List.getElem?_replicate, hr]
theorem pw_entry {as : List Value} (n : Nat) (k : pv_T K M 0 (pv_fl (pv_es as ++ List.replicate n none)) [] h Q) : pv_C K M as h Q := by
  show pv_T K M 0 (pv_fl (pv_es as)) [] h Q
  rw [pv_fl_pad _ n]
  exact k
theorem pw_iconst {x : Int} (hd : pv_dec M pc = some (.iconst x, 1)) (k : pv_T K M (pc + 1) f (.int (pv_I x) :: st) h Q) : pv_T K M pc f st h Q := pw_step hd rfl rfl k
theorem pw_bipush {x : Int} (hd : pv_dec M pc = some (.bipush x, 2)) (hx : (Int8.ofInt x).toInt32 = pv_I x) (k : pv_T K M (pc + 2) f (.int (pv_I x) :: st) h Q) : pv_T K M pc f st h Q := pw_step hd rfl (by rw [← hx]; rfl) k
theorem pw_sipush {x : Int} (hd : pv_dec M pc = some (.sipush x, 3)) (hx : (Int16.ofInt x).toInt32 = pv_I x) (k : pv_T K M (pc + 3) f (.int (pv_I x) :: st) h Q) : pv_T K M pc f st h Q := pw_step hd rfl (by rw [← hx]; rfl) k
theorem pw_lconst {x : Fin 2} {z : Int} (hd : pv_dec M pc = some (.lconst x, 1)) (hx : Int64.ofNat (x : Nat) = pv_J z) (k : pv_T K M (pc + 1) f (.long (pv_J z) :: st) h Q) : pv_T K M pc f st h Q := pw_step hd rfl (by rw [← hx]; rfl) k
theorem pw_iload {j : Nat} {x : Int32} (hd : pv_dec M pc = some (.iload j, 2)) (hf : l[j]? = some (some (.int x))) (k : pv_T K M (pc + 2) (pv_fl l) (.int x :: st) h Q) : pv_T K M pc (pv_fl l) st h Q := pw_step hd rfl (by simp only [pv_sp, pv_fl, hf]) k
theorem pw_iload_n {j : Fin 4} {x : Int32} (hd : pv_dec M pc = some (.iload_n j, 1)) (hf : l[(j : Nat)]? = some (some (.int x))) (k : pv_T K M (pc + 1) (pv_fl l) (.int x :: st) h Q) : pv_T K M pc (pv_fl l) st h Q := pw_step hd rfl (by simp only [pv_sp, pv_fl, hf]) k
theorem pw_lload {j : Nat} {x : Int64} (hd : pv_dec M pc = some (.lload j, 2)) (hf : l[j]? = some (some (.long x))) (k : pv_T K M (pc + 2) (pv_fl l) (.long x :: st) h Q) : pv_T K M pc (pv_fl l) st h Q := pw_step hd rfl (by simp only [pv_sp, pv_fl, hf]) k
theorem pw_lload_n {j : Fin 4} {x : Int64} (hd : pv_dec M pc = some (.lload_n j, 1)) (hf : l[(j : Nat)]? = some (some (.long x))) (k : pv_T K M (pc + 1) (pv_fl l) (.long x :: st) h Q) : pv_T K M pc (pv_fl l) st h Q := pw_step hd rfl (by simp only [pv_sp, pv_fl, hf]) k
theorem pw_aload {j : Nat} {x : Nat} (hd : pv_dec M pc = some (.aload j, 2)) (hf : l[j]? = some (some (.ref x))) (k : pv_T K M (pc + 2) (pv_fl l) (.ref x :: st) h Q) : pv_T K M pc (pv_fl l) st h Q := pw_step hd rfl (by simp only [pv_sp, pv_fl, hf]) k
theorem pw_aload_n {j : Fin 4} {x : Nat} (hd : pv_dec M pc = some (.aload_n j, 1)) (hf : l[(j : Nat)]? = some (some (.ref x))) (k : pv_T K M (pc + 1) (pv_fl l) (.ref x :: st) h Q) : pv_T K M pc (pv_fl l) st h Q := pw_step hd rfl (by simp only [pv_sp, pv_fl, hf]) k
theorem pw_istore {j : Nat} {x : Int32} (hd : pv_dec M pc = some (.istore j, 2)) (hn : pv_mL M = n) (hj : Nat.blt (j) n = true) (hl : Nat.blt j l.length = true) (k : pv_T K M (pc + 2) (pv_fl (pv_ls l j (.int x))) st h Q) : pv_T K M pc (pv_fl l) (.int x :: st) h Q := pw_step hd rfl (by simp only [pv_sp, hn, if_pos (Nat.blt_eq.mp hj)]; rw [pv_fl_ls _ _ _ (Nat.blt_eq.mp hl)]) k
theorem pw_istore_n {j : Fin 4} {x : Int32} (hd : pv_dec M pc = some (.istore_n j, 1)) (hn : pv_mL M = n) (hj : Nat.blt ((j : Nat)) n = true) (hl : Nat.blt (j : Nat) l.length = true) (k : pv_T K M (pc + 1) (pv_fl (pv_ls l j (.int x))) st h Q) : pv_T K M pc (pv_fl l) (.int x :: st) h Q := pw_step hd rfl (by simp only [pv_sp, hn, if_pos (Nat.blt_eq.mp hj)]; rw [pv_fl_ls _ _ _ (Nat.blt_eq.mp hl)]) k
theorem pw_lstore {j : Nat} {x : Int64} (hd : pv_dec M pc = some (.lstore j, 2)) (hn : pv_mL M = n) (hj : Nat.blt (j + 1) n = true) (hl : Nat.blt j l.length = true) (k : pv_T K M (pc + 2) (pv_fl (pv_ls2 l j (.long x))) st h Q) : pv_T K M pc (pv_fl l) (.long x :: st) h Q := pw_step hd rfl (by simp only [pv_sp, hn, if_pos (Nat.blt_eq.mp hj)]; rw [pv_fl_ls2 _ _ _ (Nat.blt_eq.mp hl)]) k
theorem pw_lstore_n {j : Fin 4} {x : Int64} (hd : pv_dec M pc = some (.lstore_n j, 1)) (hn : pv_mL M = n) (hj : Nat.blt ((j : Nat) + 1) n = true) (hl : Nat.blt (j : Nat) l.length = true) (k : pv_T K M (pc + 1) (pv_fl (pv_ls2 l j (.long x))) st h Q) : pv_T K M pc (pv_fl l) (.long x :: st) h Q := pw_step hd rfl (by simp only [pv_sp, hn, if_pos (Nat.blt_eq.mp hj)]; rw [pv_fl_ls2 _ _ _ (Nat.blt_eq.mp hl)]) k
theorem pw_astore {j : Nat} {x : Nat} (hd : pv_dec M pc = some (.astore j, 2)) (hn : pv_mL M = n) (hj : Nat.blt (j) n = true) (hl : Nat.blt j l.length = true) (k : pv_T K M (pc + 2) (pv_fl (pv_ls l j (.ref x))) st h Q) : pv_T K M pc (pv_fl l) (.ref x :: st) h Q := pw_step hd rfl (by simp only [pv_sp, hn, if_pos (Nat.blt_eq.mp hj)]; rw [pv_fl_ls _ _ _ (Nat.blt_eq.mp hl)]) k
theorem pw_astore_n {j : Fin 4} {x : Nat} (hd : pv_dec M pc = some (.astore_n j, 1)) (hn : pv_mL M = n) (hj : Nat.blt ((j : Nat)) n = true) (hl : Nat.blt (j : Nat) l.length = true) (k : pv_T K M (pc + 1) (pv_fl (pv_ls l j (.ref x))) st h Q) : pv_T K M pc (pv_fl l) (.ref x :: st) h Q := pw_step hd rfl (by simp only [pv_sp, hn, if_pos (Nat.blt_eq.mp hj)]; rw [pv_fl_ls _ _ _ (Nat.blt_eq.mp hl)]) k
theorem pw_iinc {j : Nat} {x z : Int} (hd : pv_dec M pc = some (.iinc j z, 3)) (hn : pv_mL M = n) (hj : Nat.blt j n = true) (hl : Nat.blt j l.length = true) (hf : l[j]? = some (some (.int (pv_I x)))) (k : pv_T K M (pc + 3) (pv_fl (pv_ls l j (.int (pv_I (x + z))))) st h Q) : pv_T K M pc (pv_fl l) st h Q := pw_step hd rfl (by simp only [pv_sp, pv_fl, hf, hn, if_pos (Nat.blt_eq.mp hj)]; rw [show pv_I x + Int32.ofInt z = pv_I (x + z) from pv_I_add x z, ← pv_fl_ls _ _ _ (Nat.blt_eq.mp hl)]) k
theorem pw_iadd {x y : Int} (hd : pv_dec M pc = some (.iadd, 1)) (k : pv_T K M (pc + 1) f (.int (pv_I (x + y)) :: st) h Q) : pv_T K M pc f (.int (pv_I y) :: .int (pv_I x) :: st) h Q := pw_step hd rfl (by simp only [pv_sp]; rw [pv_I_add]) k
theorem pw_ladd {x y : Int} (hd : pv_dec M pc = some (.ladd, 1)) (k : pv_T K M (pc + 1) f (.long (pv_J (x + y)) :: st) h Q) : pv_T K M pc f (.long (pv_J y) :: .long (pv_J x) :: st) h Q := pw_step hd rfl (by simp only [pv_sp]; rw [pv_J_add]) k
theorem pw_isub {x y : Int} (hd : pv_dec M pc = some (.isub, 1)) (k : pv_T K M (pc + 1) f (.int (pv_I (x - y)) :: st) h Q) : pv_T K M pc f (.int (pv_I y) :: .int (pv_I x) :: st) h Q := pw_step hd rfl (by simp only [pv_sp]; rw [pv_I_sub]) k
theorem pw_lsub {x y : Int} (hd : pv_dec M pc = some (.lsub, 1)) (k : pv_T K M (pc + 1) f (.long (pv_J (x - y)) :: st) h Q) : pv_T K M pc f (.long (pv_J y) :: .long (pv_J x) :: st) h Q := pw_step hd rfl (by simp only [pv_sp]; rw [pv_J_sub]) k
theorem pw_imul {x y : Int} (hd : pv_dec M pc = some (.imul, 1)) (k : pv_T K M (pc + 1) f (.int (pv_I (x * y)) :: st) h Q) : pv_T K M pc f (.int (pv_I y) :: .int (pv_I x) :: st) h Q := pw_step hd rfl (by simp only [pv_sp]; rw [pv_I_mul]) k
theorem pw_lmul {x y : Int} (hd : pv_dec M pc = some (.lmul, 1)) (k : pv_T K M (pc + 1) f (.long (pv_J (x * y)) :: st) h Q) : pv_T K M pc f (.long (pv_J y) :: .long (pv_J x) :: st) h Q := pw_step hd rfl (by simp only [pv_sp]; rw [pv_J_mul]) k
theorem pw_ineg {x : Int} (hd : pv_dec M pc = some (.ineg, 1)) (k : pv_T K M (pc + 1) f (.int (pv_I (-x)) :: st) h Q) : pv_T K M pc f (.int (pv_I x) :: st) h Q := pw_step hd rfl (by simp only [pv_sp]; rw [pv_I_neg]) k
theorem pw_lneg {x : Int} (hd : pv_dec M pc = some (.lneg, 1)) (k : pv_T K M (pc + 1) f (.long (pv_J (-x)) :: st) h Q) : pv_T K M pc f (.long (pv_J x) :: st) h Q := pw_step hd rfl (by simp only [pv_sp]; rw [pv_J_neg]) k
/-- a number that is forgotten but for its being an int, a long -/
theorem pw_any {x : Int32} (k : ∀ z, pv_r z → x = pv_I z → pv_T K M pc f (.int (pv_I z) :: st) h Q) : pv_T K M pc f (.int x :: st) h Q := by
  have h1 := pv_I_rep x
  have h2 := k x.toInt h1.1 h1.2
  rw [← h1.2] at h2
  exact h2
theorem pw_anyl {x : Int64} (k : ∀ z, pv_q z → x = pv_J z → pv_T K M pc f (.long (pv_J z) :: st) h Q) : pv_T K M pc f (.long x :: st) h Q := by
  have h1 := pv_J_rep x
  have h2 := k x.toInt h1.1 h1.2
  rw [← h1.2] at h2
  exact h2
theorem pw_iand {x y : Int32} (hd : pv_dec M pc = some (.iand, 1)) (k : ∀ z, pv_r z → x &&& y = pv_I z → pv_T K M (pc + 1) f (.int (pv_I z) :: st) h Q) : pv_T K M pc f (.int y :: .int x :: st) h Q := pw_step hd rfl rfl (pw_any k)
theorem pw_ior {x y : Int32} (hd : pv_dec M pc = some (.ior, 1)) (k : ∀ z, pv_r z → x ||| y = pv_I z → pv_T K M (pc + 1) f (.int (pv_I z) :: st) h Q) : pv_T K M pc f (.int y :: .int x :: st) h Q := pw_step hd rfl rfl (pw_any k)
theorem pw_ixor {x y : Int32} (hd : pv_dec M pc = some (.ixor, 1)) (k : ∀ z, pv_r z → x ^^^ y = pv_I z → pv_T K M (pc + 1) f (.int (pv_I z) :: st) h Q) : pv_T K M pc f (.int y :: .int x :: st) h Q := pw_step hd rfl rfl (pw_any k)
theorem pw_ishl {x y : Int32} (hd : pv_dec M pc = some (.ishl, 1)) (k : ∀ z, pv_r z → x <<< (y &&& 31) = pv_I z → pv_T K M (pc + 1) f (.int (pv_I z) :: st) h Q) : pv_T K M pc f (.int y :: .int x :: st) h Q := pw_step hd rfl rfl (pw_any k)
theorem pw_ishr {x y : Int32} (hd : pv_dec M pc = some (.ishr, 1)) (k : ∀ z, pv_r z → x >>> (y &&& 31) = pv_I z → pv_T K M (pc + 1) f (.int (pv_I z) :: st) h Q) : pv_T K M pc f (.int y :: .int x :: st) h Q := pw_step hd rfl rfl (pw_any k)
theorem pw_iushr {x y : Int32} (hd : pv_dec M pc = some (.iushr, 1)) (k : ∀ z, pv_r z → (x.toUInt32 >>> (y.toUInt32 &&& Int32.toUInt32 31)).toInt32 = pv_I z → pv_T K M (pc + 1) f (.int (pv_I z) :: st) h Q) : pv_T K M pc f (.int y :: .int x :: st) h Q := pw_step hd rfl rfl (pw_any k)
theorem pw_land {x y : Int64} (hd : pv_dec M pc = some (.land, 1)) (k : ∀ z, pv_q z → x &&& y = pv_J z → pv_T K M (pc + 1) f (.long (pv_J z) :: st) h Q) : pv_T K M pc f (.long y :: .long x :: st) h Q := pw_step hd rfl rfl (pw_anyl k)
theorem pw_lor {x y : Int64} (hd : pv_dec M pc = some (.lor, 1)) (k : ∀ z, pv_q z → x ||| y = pv_J z → pv_T K M (pc + 1) f (.long (pv_J z) :: st) h Q) : pv_T K M pc f (.long y :: .long x :: st) h Q := pw_step hd rfl rfl (pw_anyl k)
theorem pw_lshl {x : Int64} {y : Int32} (hd : pv_dec M pc = some (.lshl, 1)) (k : ∀ z, pv_q z → x <<< (y.toInt64 &&& 63) = pv_J z → pv_T K M (pc + 1) f (.long (pv_J z) :: st) h Q) : pv_T K M pc f (.int y :: .long x :: st) h Q := pw_step hd rfl rfl (pw_anyl k)
theorem pw_lshr {x : Int64} {y : Int32} (hd : pv_dec M pc = some (.lshr, 1)) (k : ∀ z, pv_q z → x >>> (y.toInt64 &&& 63) = pv_J z → pv_T K M (pc + 1) f (.long (pv_J z) :: st) h Q) : pv_T K M pc f (.int y :: .long x :: st) h Q := pw_step hd rfl rfl (pw_anyl k)
/-- divisions -/
theorem pv_I_div {x y : Int} (hx : pv_r x) (hy : pv_r y) (h : ¬ (x = -2147483648 ∧ y = -1)) : pv_I x / pv_I y = pv_I (x.tdiv y) := by
  have h1 := pv_I_rep (pv_I x / pv_I y)
  rw [h1.2]
  congr 1
  rw [Int32.toInt_div, pv_I_toInt hx, pv_I_toInt hy]
  have hb : -2147483648 ≤ x.tdiv y ∧ x.tdiv y ≤ 2147483647 := by
    have e1 : (x.tdiv y).natAbs = x.natAbs / y.natAbs := Int.natAbs_tdiv x y
    have e2 : x.natAbs / y.natAbs ≤ x.natAbs := Nat.div_le_self _ _
    by_cases hm : x = -2147483648
    · by_cases hy1 : y = 1
      · subst hy1; simp; omega
      · by_cases hy0 : y = 0
        · subst hy0; simp
        · have : 2 ≤ y.natAbs := by
            have : y ≠ -1 := fun z => h ⟨hm, z⟩
            omega
          have e3 : x.natAbs / y.natAbs ≤ x.natAbs / 2 := Nat.div_le_div_left this (by omega)
          omega
    · omega
  rw [Int.bmod_eq_of_le (by omega) (by omega)]
theorem pv_I_divn {x y : Int} (hx : pv_r x) (hy : pv_r y) (h0 : 0 ≤ x) : pv_I x / pv_I y = pv_I (x / y) := by
  rw [pv_I_div hx hy (by omega), Int.tdiv_eq_ediv_of_nonneg h0]
theorem pv_I_ne0 {y : Int} (hy : pv_r y) (hne : y ≠ 0) : ¬ pv_I y = 0 := fun z => hne ((pv_I_eq (y := 0) hy ⟨by omega, by omega⟩).mp z)
theorem pv_J_ne0 {y : Int} (hy : pv_q y) (hne : y ≠ 0) : ¬ pv_J y = 0 := fun z => hne ((pv_J_eq (y := 0) hy ⟨by omega, by omega⟩).mp z)
theorem pw_idiv {x y : Int} (hd : pv_dec M pc = some (.idiv, 1)) (hx : pv_r x) (hy : pv_r y) (h0 : 0 ≤ x) (hne : y ≠ 0) (k : pv_T K M (pc + 1) f (.int (pv_I (x / y)) :: st) h Q) : pv_T K M pc f (.int (pv_I y) :: .int (pv_I x) :: st) h Q := pw_step hd rfl (by simp only [pv_sp]; rw [if_neg (pv_I_ne0 hy hne), pv_I_divn hx hy h0]) k
theorem pw_idivU {x : Int32} {y : Int} (hd : pv_dec M pc = some (.idiv, 1)) (hy : pv_r y) (hne : y ≠ 0) (k : ∀ z, pv_r z → x / pv_I y = pv_I z → pv_T K M (pc + 1) f (.int (pv_I z) :: st) h Q) : pv_T K M pc f (.int (pv_I y) :: .int x :: st) h Q := pw_step hd rfl (by simp only [pv_sp]; rw [if_neg (pv_I_ne0 hy hne)]) (pw_any k)
theorem pw_irem {x y : Int} (hd : pv_dec M pc = some (.irem, 1)) (hx : pv_r x) (hy : pv_r y) (h0 : 0 ≤ x) (hne : y ≠ 0) (k : pv_T K M (pc + 1) f (.int (pv_I (x % y)) :: st) h Q) : pv_T K M pc f (.int (pv_I y) :: .int (pv_I x) :: st) h Q := pw_step hd rfl (by simp only [pv_sp]; rw [if_neg (pv_I_ne0 hy hne), pv_I_divn hx hy h0, pv_I_mul, pv_I_sub, show x - x / y * y = x % y by rw [Int.emod_def, Int.mul_comm]]) k
theorem pw_iremU {x : Int32} {y : Int} (hd : pv_dec M pc = some (.irem, 1)) (hy : pv_r y) (hne : y ≠ 0) (k : ∀ z, pv_r z → x - x / pv_I y * pv_I y = pv_I z → pv_T K M (pc + 1) f (.int (pv_I z) :: st) h Q) : pv_T K M pc f (.int (pv_I y) :: .int x :: st) h Q := pw_step hd rfl (by simp only [pv_sp]; rw [if_neg (pv_I_ne0 hy hne)]) (pw_any k)
theorem pw_ldivU {x : Int64} {y : Int} (hd : pv_dec M pc = some (.ldiv, 1)) (hy : pv_q y) (hne : y ≠ 0) (k : ∀ z, pv_q z → x / pv_J y = pv_J z → pv_T K M (pc + 1) f (.long (pv_J z) :: st) h Q) : pv_T K M pc f (.long (pv_J y) :: .long x :: st) h Q := pw_step hd rfl (by simp only [pv_sp]; rw [if_neg (pv_J_ne0 hy hne)]) (pw_anyl k)
theorem pw_lremU {x : Int64} {y : Int} (hd : pv_dec M pc = some (.lrem, 1)) (hy : pv_q y) (hne : y ≠ 0) (k : ∀ z, pv_q z → x - x / pv_J y * pv_J y = pv_J z → pv_T K M (pc + 1) f (.long (pv_J z) :: st) h Q) : pv_T K M pc f (.long (pv_J y) :: .long x :: st) h Q := pw_step hd rfl (by simp only [pv_sp]; rw [if_neg (pv_J_ne0 hy hne)]) (pw_anyl k)
theorem pw_lcmp {x y : Int} (hd : pv_dec M pc = some (.lcmp, 1)) (hx : pv_q x) (hy : pv_q y) (k : ∀ z, (x < y ∧ z = -1) ∨ (x = y ∧ z = 0) ∨ (y < x ∧ z = 1) → pv_T K M (pc + 1) f (.int (pv_I z) :: st) h Q) : pv_T K M pc f (.long (pv_J y) :: .long (pv_J x) :: st) h Q := by
  refine pw_step hd rfl rfl ?_
  unfold lg_cmp
  by_cases h1 : y < x
  · have e : pv_J x > pv_J y := (pv_J_lt hy hx).mpr h1
    rw [if_pos e]
    exact k 1 (Or.inr (Or.inr ⟨h1, rfl⟩))
  · have e : ¬ pv_J x > pv_J y := fun z => h1 ((pv_J_lt hy hx).mp z)
    rw [if_neg e]
    by_cases h2 : x = y
    · rw [if_pos (by rw [h2])]
      exact k 0 (Or.inr (Or.inl ⟨h2, rfl⟩))
    · rw [if_neg (fun z => h2 ((pv_J_eq hx hy).mp z))]
      exact k (-1) (Or.inl ⟨by omega, rfl⟩)
theorem pw_i2l {x : Int} (hd : pv_dec M pc = some (.i2l, 1)) (hx : pv_r x) (k : pv_T K M (pc + 1) f (.long (pv_J x) :: st) h Q) : pv_T K M pc f (.int (pv_I x) :: st) h Q := pw_step hd rfl (by
  simp only [pv_sp]
  have : (pv_I x).toInt64 = pv_J x := by
    rw [← Int64.toInt_inj, Int32.toInt_toInt64, pv_I_toInt hx, pv_J_toInt ⟨by omega, by omega⟩]
  rw [this]) k
theorem pw_l2i {x : Int} (hd : pv_dec M pc = some (.l2i, 1)) (k : pv_T K M (pc + 1) f (.int (pv_I x) :: st) h Q) : pv_T K M pc f (.long (pv_J x) :: st) h Q := pw_step hd rfl (by
  simp only [pv_sp]
  have : (pv_J x).toInt32 = pv_I x := Int64.toInt32_ofInt
  rw [this]) k
theorem pw_i2b {x : Int32} (hd : pv_dec M pc = some (.i2b, 1)) (k : ∀ z, -128 ≤ z → z ≤ 127 → x.toInt8.toInt32 = pv_I z → pv_T K M (pc + 1) f (.int (pv_I z) :: st) h Q) : pv_T K M pc f (.int x :: st) h Q := pw_step hd rfl rfl (pw_any fun z hz e => k z (by
  have e2 : (x.toInt8.toInt32).toInt = z := by rw [e, pv_I_toInt hz]
  rw [Int8.toInt_toInt32] at e2
  have := Int8.le_toInt x.toInt8
  omega) (by
  have e2 : (x.toInt8.toInt32).toInt = z := by rw [e, pv_I_toInt hz]
  rw [Int8.toInt_toInt32] at e2
  have := Int8.toInt_lt x.toInt8
  omega) e)
theorem pw_i2s {x : Int32} (hd : pv_dec M pc = some (.i2s, 1)) (k : ∀ z, pv_r z → x.toInt16.toInt32 = pv_I z → pv_T K M (pc + 1) f (.int (pv_I z) :: st) h Q) : pv_T K M pc f (.int x :: st) h Q := pw_step hd rfl rfl (pw_any k)
theorem pw_dup {v : Value} (hd : pv_dec M pc = some (.dup, 1)) (hv : v.category = 1) (k : pv_T K M (pc + 1) f (v :: v :: st) h Q) : pv_T K M pc f (v :: st) h Q := pw_step hd rfl (by simp only [pv_sp]; rw [if_pos hv]) k
theorem pw_dup2 {v w : Value} (hd : pv_dec M pc = some (.dup2, 1)) (hv : v.category = 1) (hw : w.category = 1) (k : pv_T K M (pc + 1) f (v :: w :: v :: w :: st) h Q) : pv_T K M pc f (v :: w :: st) h Q := pw_step hd rfl (by simp only [pv_sp]; rw [if_pos ⟨hv, hw⟩]) k
theorem pw_pop {v : Value} (hd : pv_dec M pc = some (.pop, 1)) (hv : v.category = 1) (k : pv_T K M (pc + 1) f st h Q) : pv_T K M pc f (v :: st) h Q := pw_step hd rfl (by simp only [pv_sp]; rw [if_pos hv]) k
theorem pw_pop2 {v : Value} (hd : pv_dec M pc = some (.pop2, 1)) (hv : v.category = 2) (k : pv_T K M (pc + 1) f st h Q) : pv_T K M pc f (v :: st) h Q := pw_step hd rfl (by simp only [pv_sp]; rw [if_pos hv]) k
theorem pw_goto {z : Int} {t : Nat} (hd : pv_dec M pc = some (.goto z, 3)) (ht : pv_tg pc z = some t) (k : pv_T K M t f st h Q) : pv_T K M pc f st h Q := pw_step hd rfl (by simp only [pv_sp, ht]) k
theorem pw_icmp_eq {x y z : Int} {t : Nat} (hd : pv_dec M pc = some (.if_icmp .eq z, 3)) (ht : pv_tg pc z = some t) (hx : pv_r x) (hy : pv_r y) (kt : x = y → pv_T K M t f st h Q) (kf : x ≠ y → pv_T K M (pc + 3) f st h Q) : pv_T K M pc f (.int (pv_I y) :: .int (pv_I x) :: st) h Q := by
  by_cases hc : x = y
  · exact pw_step hd rfl (by simp only [pv_sp, ht]; rw [if_pos (by simp only [pv_cb, decide_eq_true_eq]; exact (pv_I_eq hx hy).mpr hc)]) (kt hc)
  · exact pw_step hd rfl (by simp only [pv_sp, ht]; rw [if_neg (by simp only [pv_cb, decide_eq_true_eq]; exact fun q => hc ((pv_I_eq hx hy).mp q))]) (kf (by omega))
theorem pw_if_eq {x z : Int} {t : Nat} (hd : pv_dec M pc = some (.ifCond .eq z, 3)) (ht : pv_tg pc z = some t) (hx : pv_r x) (kt : x = 0 → pv_T K M t f st h Q) (kf : x ≠ 0 → pv_T K M (pc + 3) f st h Q) : pv_T K M pc f (.int (pv_I x) :: st) h Q := by
  have hy : pv_r 0 := ⟨by omega, by omega⟩
  by_cases hc : x = 0
  · exact pw_step hd rfl (by simp only [pv_sp, ht]; rw [if_pos (by simp only [pv_cb, decide_eq_true_eq]; exact (pv_I_eq hx hy).mpr hc)]) (kt hc)
  · exact pw_step hd rfl (by simp only [pv_sp, ht]; rw [if_neg (by simp only [pv_cb, decide_eq_true_eq]; exact fun q => hc ((pv_I_eq hx hy).mp q))]) (kf (by omega))
theorem pw_icmp_ne {x y z : Int} {t : Nat} (hd : pv_dec M pc = some (.if_icmp .ne z, 3)) (ht : pv_tg pc z = some t) (hx : pv_r x) (hy : pv_r y) (kt : x ≠ y → pv_T K M t f st h Q) (kf : x = y → pv_T K M (pc + 3) f st h Q) : pv_T K M pc f (.int (pv_I y) :: .int (pv_I x) :: st) h Q := by
  by_cases hc : x ≠ y
  · exact pw_step hd rfl (by simp only [pv_sp, ht]; rw [if_pos (by simp only [pv_cb, decide_eq_true_eq]; exact (not_congr (pv_I_eq hx hy)).mpr hc)]) (kt hc)
  · exact pw_step hd rfl (by simp only [pv_sp, ht]; rw [if_neg (by simp only [pv_cb, decide_eq_true_eq]; exact fun q => hc ((not_congr (pv_I_eq hx hy)).mp q))]) (kf (by omega))
theorem pw_if_ne {x z : Int} {t : Nat} (hd : pv_dec M pc = some (.ifCond .ne z, 3)) (ht : pv_tg pc z = some t) (hx : pv_r x) (kt : x ≠ 0 → pv_T K M t f st h Q) (kf : x = 0 → pv_T K M (pc + 3) f st h Q) : pv_T K M pc f (.int (pv_I x) :: st) h Q := by
  have hy : pv_r 0 := ⟨by omega, by omega⟩
  by_cases hc : x ≠ 0
  · exact pw_step hd rfl (by simp only [pv_sp, ht]; rw [if_pos (by simp only [pv_cb, decide_eq_true_eq]; exact (not_congr (pv_I_eq hx hy)).mpr hc)]) (kt hc)
  · exact pw_step hd rfl (by simp only [pv_sp, ht]; rw [if_neg (by simp only [pv_cb, decide_eq_true_eq]; exact fun q => hc ((not_congr (pv_I_eq hx hy)).mp q))]) (kf (by omega))
theorem pw_icmp_lt {x y z : Int} {t : Nat} (hd : pv_dec M pc = some (.if_icmp .lt z, 3)) (ht : pv_tg pc z = some t) (hx : pv_r x) (hy : pv_r y) (kt : x < y → pv_T K M t f st h Q) (kf : y ≤ x → pv_T K M (pc + 3) f st h Q) : pv_T K M pc f (.int (pv_I y) :: .int (pv_I x) :: st) h Q := by
  by_cases hc : x < y
  · exact pw_step hd rfl (by simp only [pv_sp, ht]; rw [if_pos (by simp only [pv_cb, decide_eq_true_eq]; exact (pv_I_lt hx hy).mpr hc)]) (kt hc)
  · exact pw_step hd rfl (by simp only [pv_sp, ht]; rw [if_neg (by simp only [pv_cb, decide_eq_true_eq]; exact fun q => hc ((pv_I_lt hx hy).mp q))]) (kf (by omega))
theorem pw_if_lt {x z : Int} {t : Nat} (hd : pv_dec M pc = some (.ifCond .lt z, 3)) (ht : pv_tg pc z = some t) (hx : pv_r x) (kt : x < 0 → pv_T K M t f st h Q) (kf : 0 ≤ x → pv_T K M (pc + 3) f st h Q) : pv_T K M pc f (.int (pv_I x) :: st) h Q := by
  have hy : pv_r 0 := ⟨by omega, by omega⟩
  by_cases hc : x < 0
  · exact pw_step hd rfl (by simp only [pv_sp, ht]; rw [if_pos (by simp only [pv_cb, decide_eq_true_eq]; exact (pv_I_lt hx hy).mpr hc)]) (kt hc)
  · exact pw_step hd rfl (by simp only [pv_sp, ht]; rw [if_neg (by simp only [pv_cb, decide_eq_true_eq]; exact fun q => hc ((pv_I_lt hx hy).mp q))]) (kf (by omega))
theorem pw_icmp_ge {x y z : Int} {t : Nat} (hd : pv_dec M pc = some (.if_icmp .ge z, 3)) (ht : pv_tg pc z = some t) (hx : pv_r x) (hy : pv_r y) (kt : y ≤ x → pv_T K M t f st h Q) (kf : x < y → pv_T K M (pc + 3) f st h Q) : pv_T K M pc f (.int (pv_I y) :: .int (pv_I x) :: st) h Q := by
  by_cases hc : y ≤ x
  · exact pw_step hd rfl (by simp only [pv_sp, ht]; rw [if_pos (by simp only [pv_cb, decide_eq_true_eq]; exact (pv_I_le hy hx).mpr hc)]) (kt hc)
  · exact pw_step hd rfl (by simp only [pv_sp, ht]; rw [if_neg (by simp only [pv_cb, decide_eq_true_eq]; exact fun q => hc ((pv_I_le hy hx).mp q))]) (kf (by omega))
theorem pw_if_ge {x z : Int} {t : Nat} (hd : pv_dec M pc = some (.ifCond .ge z, 3)) (ht : pv_tg pc z = some t) (hx : pv_r x) (kt : 0 ≤ x → pv_T K M t f st h Q) (kf : x < 0 → pv_T K M (pc + 3) f st h Q) : pv_T K M pc f (.int (pv_I x) :: st) h Q := by
  have hy : pv_r 0 := ⟨by omega, by omega⟩
  by_cases hc : 0 ≤ x
  · exact pw_step hd rfl (by simp only [pv_sp, ht]; rw [if_pos (by simp only [pv_cb, decide_eq_true_eq]; exact (pv_I_le hy hx).mpr hc)]) (kt hc)
  · exact pw_step hd rfl (by simp only [pv_sp, ht]; rw [if_neg (by simp only [pv_cb, decide_eq_true_eq]; exact fun q => hc ((pv_I_le hy hx).mp q))]) (kf (by omega))
theorem pw_icmp_gt {x y z : Int} {t : Nat} (hd : pv_dec M pc = some (.if_icmp .gt z, 3)) (ht : pv_tg pc z = some t) (hx : pv_r x) (hy : pv_r y) (kt : y < x → pv_T K M t f st h Q) (kf : x ≤ y → pv_T K M (pc + 3) f st h Q) : pv_T K M pc f (.int (pv_I y) :: .int (pv_I x) :: st) h Q := by
  by_cases hc : y < x
  · exact pw_step hd rfl (by simp only [pv_sp, ht]; rw [if_pos (by simp only [pv_cb, decide_eq_true_eq]; exact (pv_I_lt hy hx).mpr hc)]) (kt hc)
  · exact pw_step hd rfl (by simp only [pv_sp, ht]; rw [if_neg (by simp only [pv_cb, decide_eq_true_eq]; exact fun q => hc ((pv_I_lt hy hx).mp q))]) (kf (by omega))
theorem pw_if_gt {x z : Int} {t : Nat} (hd : pv_dec M pc = some (.ifCond .gt z, 3)) (ht : pv_tg pc z = some t) (hx : pv_r x) (kt : 0 < x → pv_T K M t f st h Q) (kf : x ≤ 0 → pv_T K M (pc + 3) f st h Q) : pv_T K M pc f (.int (pv_I x) :: st) h Q := by
  have hy : pv_r 0 := ⟨by omega, by omega⟩
  by_cases hc : 0 < x
  · exact pw_step hd rfl (by simp only [pv_sp, ht]; rw [if_pos (by simp only [pv_cb, decide_eq_true_eq]; exact (pv_I_lt hy hx).mpr hc)]) (kt hc)
  · exact pw_step hd rfl (by simp only [pv_sp, ht]; rw [if_neg (by simp only [pv_cb, decide_eq_true_eq]; exact fun q => hc ((pv_I_lt hy hx).mp q))]) (kf (by omega))
theorem pw_icmp_le {x y z : Int} {t : Nat} (hd : pv_dec M pc = some (.if_icmp .le z, 3)) (ht : pv_tg pc z = some t) (hx : pv_r x) (hy : pv_r y) (kt : x ≤ y → pv_T K M t f st h Q) (kf : y < x → pv_T K M (pc + 3) f st h Q) : pv_T K M pc f (.int (pv_I y) :: .int (pv_I x) :: st) h Q := by
  by_cases hc : x ≤ y
  · exact pw_step hd rfl (by simp only [pv_sp, ht]; rw [if_pos (by simp only [pv_cb, decide_eq_true_eq]; exact (pv_I_le hx hy).mpr hc)]) (kt hc)
  · exact pw_step hd rfl (by simp only [pv_sp, ht]; rw [if_neg (by simp only [pv_cb, decide_eq_true_eq]; exact fun q => hc ((pv_I_le hx hy).mp q))]) (kf (by omega))
theorem pw_if_le {x z : Int} {t : Nat} (hd : pv_dec M pc = some (.ifCond .le z, 3)) (ht : pv_tg pc z = some t) (hx : pv_r x) (kt : x ≤ 0 → pv_T K M t f st h Q) (kf : 0 < x → pv_T K M (pc + 3) f st h Q) : pv_T K M pc f (.int (pv_I x) :: st) h Q := by
  have hy : pv_r 0 := ⟨by omega, by omega⟩
  by_cases hc : x ≤ 0
  · exact pw_step hd rfl (by simp only [pv_sp, ht]; rw [if_pos (by simp only [pv_cb, decide_eq_true_eq]; exact (pv_I_le hx hy).mpr hc)]) (kt hc)
  · exact pw_step hd rfl (by simp only [pv_sp, ht]; rw [if_neg (by simp only [pv_cb, decide_eq_true_eq]; exact fun q => hc ((pv_I_le hx hy).mp q))]) (kf (by omega))
theorem pw_tabOut {x d lo hi : Int} {os : Array Int} {len t : Nat} (hd : pv_dec M pc = some (.tableswitch d lo hi os, len)) (hx : pv_r x) (hc : x < lo ∨ hi < x) (ht : pv_tg pc d = some t) (k : pv_T K M t f st h Q) : pv_T K M pc f (.int (pv_I x) :: st) h Q := pw_step hd rfl (by simp only [pv_sp]; rw [if_pos (by rw [pv_I_toInt hx]; exact hc), ht]) k
theorem pw_tabIn {x d lo hi off : Int} {os : Array Int} {len t : Nat} (hd : pv_dec M pc = some (.tableswitch d lo hi os, len)) (hx : pv_r x) (hc : ¬ (x < lo ∨ hi < x)) (ho : os[(x - lo).toNat]? = some off) (ht : pv_tg pc off = some t) (k : pv_T K M t f st h Q) : pv_T K M pc f (.int (pv_I x) :: st) h Q := pw_step hd rfl (by simp only [pv_sp]; rw [if_neg (by rw [pv_I_toInt hx]; exact hc), pv_I_toInt hx, ho]; simp only [ht]) k
theorem pw_ireturn {v : Int32} (hd : pv_dec M pc = some (.ireturn, 1)) (hr : pv_rt M = some .int) (k : Q (some (.int v)) h) : pv_T K M pc f [.int v] h Q := pw_ret hd rfl rfl rfl (by simp only [pv_re]; rw [if_pos hr]) k
theorem pw_zreturn {x : Int} (hd : pv_dec M pc = some (.ireturn, 1)) (hr : pv_rt M = some .boolean) (hx : x = 0 ∨ x = 1) (k : Q (some (.int (pv_I x))) h) : pv_T K M pc f [.int (pv_I x)] h Q := pw_ret hd rfl rfl rfl (by
  simp only [pv_re]
  rw [if_neg (by rw [hr]; decide), if_pos ⟨hr, by rcases hx with rfl | rfl <;> rfl⟩]) k
theorem pw_lreturn {v : Int64} (hd : pv_dec M pc = some (.lreturn, 1)) (hr : pv_rt M = some .long) (k : Q (some (.long v)) h) : pv_T K M pc f [.long v] h Q := pw_ret hd rfl rfl rfl (by simp only [pv_re]; rw [if_pos hr]) k
theorem pw_return (hd : pv_dec M pc = some (.return_, 1)) (hr : pv_rt M = none) (k : Q none h) : pv_T K M pc f [] h Q := pw_ret hd rfl rfl rfl (by simp only [pv_re]; rw [if_pos hr]) k
theorem pw_ldc {idx : Nat} {v : Int32} (hd : pv_dec M pc = some (.ldc idx, 2)) (hk : pv_kc M idx = some v) (k : pv_T K M (pc + 2) f (.int v :: st) h Q) : pv_T K M pc f st h Q := pw_steph hd rfl rfl (by unfold pv_sh; dsimp only; rw [hk]) k
theorem pw_ldcS {idx q : Nat} (hd : pv_dec M pc = some (.ldc idx, 2)) (h0 : pv_kc M idx = none) (hk : pv_ks M idx = some q) (k : pv_T K M (pc + 2) f (.ref (K q) :: st) h Q) : pv_T K M pc f st h Q := pw_steph hd rfl rfl (by unfold pv_sh; dsimp only; rw [h0]; dsimp only; rw [hk]) k
theorem pw_ldcw {idx : Nat} {v : Int32} (hd : pv_dec M pc = some (.ldc_w idx, 3)) (hk : pv_kc M idx = some v) (k : pv_T K M (pc + 3) f (.int v :: st) h Q) : pv_T K M pc f st h Q := pw_steph hd rfl rfl (by unfold pv_sh; dsimp only; rw [hk]) k
theorem pw_ldc2 {idx : Nat} {v : Int64} (hd : pv_dec M pc = some (.ldc2_w idx, 3)) (hk : pv_kd M idx = some v) (k : pv_T K M (pc + 3) f (.long v :: st) h Q) : pv_T K M pc f st h Q := pw_steph hd rfl rfl (by unfold pv_sh; dsimp only; rw [hk]) k
end PW
