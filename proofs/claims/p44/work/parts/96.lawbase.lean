theorem pv_topJ {p : Program} {l : Launch} {e : Env} {R : Room} {s : State} {m : MethodId} {args : Array Value} {below : List Frame} {meth : Method} {c : Code} {H : Heap} {locs : List Loc} {cells slots : Nat} {Q : State → Prop} {pc : Nat} {ls : Array Slot} {rest : List Value} {v : Int64} (kk : ∀ w : Int, (-9223372036854775808 ≤ w ∧ w ≤ 9223372036854775807) → W p l e R s m args below meth c H locs cells slots Q (F0 m pc ls (.long (pv_J w) :: rest))) : W p l e R s m args below meth c H locs cells slots Q (F0 m pc ls (.long v :: rest)) := by
  have h := pv_J_rep v
  rw [h.2]
  exact kk _ h.1
theorem pv_lcmpE {p : Program} {l : Launch} {e : Env} {R : Room} {s : State} {m : MethodId} {args : Array Value} {below : List Frame} {meth : Method} {c : Code} {H : Heap} {locs : List Loc} {cells slots : Nat} {Q : State → Prop} {cc : ByteArray} {pc : Nat} {ls : Array Slot} {rest : List Value} {v : Int64} (hexec : p.tables.exec = Jvm.exec) (hb : c.code = cc) (hdg : decode cc pc = .ok (.lcmp, 1)) (kk : W p l e R s m args below meth c H locs cells slots Q (F0 m (pc + 1) ls (.int 0 :: rest))) : W p l e R s m args below meth c H locs cells slots Q (F0 m pc ls (.long v :: .long v :: rest)) := by
  refine W.lcmp hexec hb hdg ?_
  have e0 : lg_cmp v v = 0 := by
    unfold lg_cmp
    first
      | (simp; done)
      | (rw [if_neg (fun z => absurd z (Int64.lt_irrefl v))]; simp)
      | (split <;> simp_all)
  rw [e0]
  exact kk
theorem pv_sldJ {p : Program} {l : Launch} {e : Env} {R : Room} {s : State} {m : MethodId} {args : Array Value} {below : List Frame} {meth : Method} {c : Code} {H : Heap} {locs : List Loc} {cells slots : Nat} {Q : State → Prop} {cc : ByteArray} {pc b L j kn : Nat} {xs : Nat → Int32} {x : Int} {A : Nat → Prop} {H0 : Heap} {ls : Array Slot} {rest : List Value} {k : Int32} (hexec : p.tables.exec = Jvm.exec) (hb : c.code = cc) (hX : va_X b L xs s H0) (hbl : b < H0.size) (hbA : ¬ A b) (hS : va_S A H0 H locs) (hL : L ≤ 3072) (hj : 6 * j + 6 ≤ L) (hk : k = pv_I kn) (hkn : kn < 6) (hv : xs (6 * j + kn) = pv_I x) (hdg : decode cc pc = .ok (.iaload, 1)) (kk : W p l e R s m args below meth c H locs cells slots Q (F0 m (pc + 1) ls (.int (pv_I x) :: rest))) : W p l e R s m args below meth c H locs cells slots Q (F0 m pc ls (.int (pv_I ((6 * j : Nat) : Int) + k) :: .ref b :: rest)) := by
  have e1 : pv_I ((6 * j : Nat) : Int) + k = pv_I ((6 * j + kn : Nat) : Int) := by rw [hk, pv_I_add]; congr 1
  rw [e1]
  refine va_sld hexec hb hX hbl hbA hS (pv_in_spec (pv_in_I (by omega) (by omega) (by omega))) hdg ?_
  rw [pv_I_nat (by omega) (by omega), show (((6 * j + kn : Nat) : Int)).toNat = 6 * j + kn from rfl, hv]
  exact kk
def pv_LX (p : Program) (s : State) (m : MethodId) (meth : Method) (c : Code) (b L : Nat) (xs : Nat → Int32) (K adV : Nat → Nat) (dC : Nat → ClassId) (dI : Nat → Nat → Nat) (dA : Nat → ClassId) : Prop := p.tables.exec = Jvm.exec ∧ c.code = code ∧ meth.sig.returnType = ret ∧ c.maxLocals = 4 ∧ s.vm.findClass R_law = some m.cls ∧ (∀ w ∈ lw_tbl, w.before #[Value.ref b] s = true) ∧ va_X b L xs s s.heap ∧ b < s.heap.size ∧ meth.locks = false ∧ pv_Wd K adV dC dI dA (fun q => s.heap.size ≤ q) s
def rl_R (m w n M V : Int) : Prop := (m = 0 ∧ M = -1) ∨ (m = 1 ∧ M = n ∧ V = w ∧ 0 ≤ M)
def pv_RL (τ : Nat → Option Nat) (ρ : Nat → Nat → Nat) (h : pv_H) (h0 h1 : Nat) : Prop := (∀ i k : Nat, i < 4 → k < 4 → i ≠ k → ρ (ρ h0 5) i ≠ ρ (ρ h0 5) k) ∧ ∀ i : Nat, i < 4 → rl_R (pv_fI h (ρ (ρ h0 5) i) 0) (pv_fI h (ρ (ρ h0 5) i) 1) (pv_fI h (ρ (ρ h0 5) i) 2) (pv_aI h (ρ h1 24) i) (pv_aI h (ρ h1 25) i)
def pv_LY (s : State) (dC : Nat → ClassId) (dI : Nat → Nat → Nat) (dA : Nat → ClassId) (τ : Nat → Option Nat) (ρ : Nat → Nat → Nat) (h : pv_H) (h0 h1 : Nat) (ws : va_W) (H : Heap) (locs : List Loc) : Prop := pv_Ty τ ρ h ∧ τ h0 = some 0 ∧ τ h1 = some 7 ∧ nk_w τ ρ h ∧ pw_ok (pv_aI h (ρ h1 1)) ∧ im_ok (pv_aI h (ρ h1 2)) ∧ pv_RL τ ρ h h0 h1 ∧ pv_R dA h ws ∧ va_P (dC, dI) pv_cls ws H ∧ va_D (fun q => s.heap.size ≤ q) ws ∧ va_S (fun q => s.heap.size ≤ q) s.heap H locs
theorem pv_Ty.rows {τ : Nat → Option Nat} {ρ : Nat → Nat → Nat} {h : pv_H} {a : Nat} (hT : pv_Ty τ ρ h) (ha : τ a = some 12) : ∀ i : Nat, i < 4 → τ (ρ a i) = some 3 := by
  intro i hi
  obtain ⟨g, e, hf⟩ := (hT a 12 ha).2 _ rfl
  exact (hf i hi).2 _ rfl
theorem pv_RL.fr {τ : Nat → Option Nat} {ρ : Nat → Nat → Nat} {h h' : pv_H} {h0 h1 : Nat} {E : List Nat} (Q : pv_RL τ ρ h h0 h1) (hT : pv_Ty τ ρ h) (k5 : τ (ρ h0 5) = some 12) (k24 : τ (ρ h1 24) = some 53) (k25 : τ (ρ h1 25) = some 54) (F : pv_Fr τ E h h') (hE : E.all (fun q => decide (q ≠ 192 ∧ q ≠ 193 ∧ q ≠ 194 ∧ q ≠ 3455 ∧ q ≠ 3519)) = true) : pv_RL τ ρ h' h0 h1 := by
  have no : ∀ q, q = 192 ∨ q = 193 ∨ q = 194 ∨ q = 3455 ∨ q = 3519 → q ∉ E := fun q hq hc => by
    have := List.all_eq_true.mp hE _ hc
    rw [decide_eq_true_eq] at this
    omega
  refine ⟨Q.1, fun i hi => ?_⟩
  have t := hT.rows k5 i hi
  rw [((F _ 3 t).1 0 (no _ (by omega))).1, ((F _ 3 t).1 1 (no _ (by omega))).1, ((F _ 3 t).1 2 (no _ (by omega))).1, F.aeq k24 (no _ (by omega)), F.aeq k25 (no _ (by omega))]
  exact Q.2 i hi
theorem rl_row {τ : Nat → Option Nat} {ρ : Nat → Nat → Nat} {h h' h2 : pv_H} {h0 h1 : Nat} {E : List Nat} {x1 x2 x3 : Int} (Q : pv_RL τ ρ h h0 h1) (hT : pv_Ty τ ρ h) (k5 : τ (ρ h0 5) = some 12) (X : ∀ b, τ b = some 3 → rw_X ρ h h' h0 x1 x2 x3 b) (e24 : pv_aI h' (ρ h1 24) = pv_aI h (ρ h1 24)) (e25 : pv_aI h' (ρ h1 25) = pv_aI h (ρ h1 25)) (m24 : rw_M (pv_aI h' (ρ h1 24)) (pv_aI h2 (ρ h1 24)) x1 x2 x3 x3) (m25 : rw_M (pv_aI h' (ρ h1 25)) (pv_aI h2 (ρ h1 25)) x1 x2 x3 x2) (F : pv_Fr τ E h' h2) (hE : E.all (fun q => decide (q ≠ 192 ∧ q ≠ 193 ∧ q ≠ 194)) = true) : pv_RL τ ρ h2 h0 h1 := by
  have no : ∀ q, q = 192 ∨ q = 193 ∨ q = 194 → q ∉ E := fun q hq hc => by
    have := List.all_eq_true.mp hE _ hc
    rw [decide_eq_true_eq] at this
    omega
  refine ⟨Q.1, fun i hi => ?_⟩
  have t := hT.rows k5 i hi
  have q := Q.2 i hi
  obtain ⟨y, n⟩ := X _ t
  rw [((F _ 3 t).1 0 (no _ (by omega))).1, ((F _ 3 t).1 1 (no _ (by omega))).1, ((F _ 3 t).1 2 (no _ (by omega))).1]
  by_cases c : rw_ok x1 x2 x3
  · by_cases d : i = x1.toNat
    · obtain ⟨y0, y1, y2⟩ := (y c).1 (by rw [d])
      rw [y0, y1, y2, (m24 i).1 ⟨c, d⟩, (m25 i).1 ⟨c, d⟩]
      exact Or.inr ⟨rfl, rfl, rfl, c.2.2.2.2.1⟩
    · have hx : x1.toNat < 4 := by have := c.1; have := c.2.1; omega
      obtain ⟨y0, y1, y2⟩ := (y c).2 (Q.1 i _ hi hx d)
      rw [y0, y1, y2, (m24 i).2 (fun z => d z.2), (m25 i).2 (fun z => d z.2), e24, e25]
      exact q
  · obtain ⟨y0, y1, y2⟩ := n c
    rw [y0, y1, y2, (m24 i).2 (fun z => c z.1), (m25 i).2 (fun z => c z.1), e24, e25]
    exact q
theorem rl_write {m w n M V x1 x2 z0 z1 : Int} (Q : (0 ≤ x1 ∧ x1 ≤ 3) → rl_R m w n M V) (p0 : z0 = if 0 ≤ x1 ∧ x1 ≤ 3 then (if m = 0 then -6 else if 0 ≤ x2 ∧ x2 < n then 0 else -7) else -2) (p1 : z1 = if 0 ≤ x1 ∧ x1 ≤ 3 then (if M = -1 then -6 else if 0 ≤ x2 ∧ x2 < M then 0 else -7) else -2) : z0 = z1 := by
  rw [p0, p1]
  by_cases c : 0 ≤ x1 ∧ x1 ≤ 3
  · rw [if_pos c, if_pos c]
    rcases Q c with ⟨q1, q2⟩ | ⟨q1, q2, q3, q4⟩
    · rw [if_pos q1, if_pos q2]
    · rw [if_neg (show ¬ m = 0 by omega), if_neg (show ¬ M = -1 by omega), q2]
  · rw [if_neg c, if_neg c]
theorem rl_paste {m w n M V m' w' n' M' V' x1 x2 x3 x4 x5 z0 z1 : Int} (Q : (0 ≤ x1 ∧ x1 ≤ 3 ∧ 0 ≤ x3 ∧ x3 ≤ 3) → rl_R m w n M V ∧ rl_R m' w' n' M' V') (p0 : z0 = if 0 ≤ x1 ∧ x1 ≤ 3 ∧ 0 ≤ x3 ∧ x3 ≤ 3 then (if m = 0 ∨ m' = 0 then -6 else if w ≠ w' then -8 else if 0 ≤ x2 ∧ 0 ≤ x4 ∧ 0 ≤ x5 ∧ x2 + x5 ≤ n ∧ x4 + x5 ≤ n' then 0 else -7) else -2) (p1 : z1 = if 0 ≤ x1 ∧ x1 ≤ 3 ∧ 0 ≤ x3 ∧ x3 ≤ 3 then (if M = -1 ∨ M' = -1 then -6 else if V ≠ V' then -8 else if 0 ≤ x2 ∧ 0 ≤ x4 ∧ 0 ≤ x5 ∧ x2 + x5 ≤ M ∧ x4 + x5 ≤ M' then 0 else -7) else -2) : z0 = z1 := by
  rw [p0, p1]
  by_cases c : 0 ≤ x1 ∧ x1 ≤ 3 ∧ 0 ≤ x3 ∧ x3 ≤ 3
  · rw [if_pos c, if_pos c]
    obtain ⟨q, q'⟩ := Q c
    rcases q with ⟨q1, q2⟩ | ⟨q1, q2, q3, q4⟩
    · rw [if_pos (Or.inl q1), if_pos (Or.inl q2)]
    · rcases q' with ⟨r1, r2⟩ | ⟨r1, r2, r3, r4⟩
      · rw [if_pos (Or.inr r1), if_pos (Or.inr r2)]
      · rw [if_neg (show ¬ (m = 0 ∨ m' = 0) by omega), if_neg (show ¬ (M = -1 ∨ M' = -1) by omega), q3, r3, q2, r2]
  · rw [if_neg c, if_neg c]
/-! the fresh world is good -/
theorem pv_dZ_nets : ∀ i : Nat, i < 103 → pv_tl[i]? = some 2 → i = 2 ∨ i = 13 ∨ i = 23 ∨ i = 35 ∨ i = 45 ∨ i = 55 := by decide +kernel
theorem pv_dZ_len : pv_dZ.length = 103 := by decide +kernel
section FN
variable {ad : Nat → Nat}
theorem pv_tz_2 {a : Nat} (h : pv_tz ad pv_dZ pv_tl a = some 2) : ∃ i, a = ad i ∧ (i = 2 ∨ i = 13 ∨ i = 23 ∨ i = 35 ∨ i = 45 ∨ i = 55) := by
  unfold pv_tz at h
  split at h
  · rename_i i hi
    obtain ⟨h1, h2⟩ := pv_fd_some hi
    exact ⟨i, h2.symm, pv_dZ_nets i (by rw [pv_dZ_len] at h1; exact h1) h⟩
  · cases h
set_option maxRecDepth 100000 in
theorem pv_netz (hI : pv_Inj ad pv_dZ.length) {i : Nat} (hi : i = 2 ∨ i = 13 ∨ i = 23 ∨ i = 35 ∨ i = 45 ∨ i = 55) : pv_pz ad pv_dZ (ad i) 5 = ad (i + 1) ∧ pv_pz ad pv_dZ (ad i) 12 = ad (i + 8) ∧ pv_pz ad pv_dZ (ad i) 13 = ad (i + 9) := by
  rcases hi with rfl | rfl | rfl | rfl | rfl | rfl
  · exact ⟨pv_pz_ad hI (i := 2) rfl, pv_pz_ad hI (i := 2) rfl, pv_pz_ad hI (i := 2) rfl⟩
  · exact ⟨pv_pz_ad hI (i := 13) rfl, pv_pz_ad hI (i := 13) rfl, pv_pz_ad hI (i := 13) rfl⟩
  · exact ⟨pv_pz_ad hI (i := 23) rfl, pv_pz_ad hI (i := 23) rfl, pv_pz_ad hI (i := 23) rfl⟩
  · exact ⟨pv_pz_ad hI (i := 35) rfl, pv_pz_ad hI (i := 35) rfl, pv_pz_ad hI (i := 35) rfl⟩
  · exact ⟨pv_pz_ad hI (i := 45) rfl, pv_pz_ad hI (i := 45) rfl, pv_pz_ad hI (i := 45) rfl⟩
  · exact ⟨pv_pz_ad hI (i := 55) rfl, pv_pz_ad hI (i := 55) rfl, pv_pz_ad hI (i := 55) rfl⟩
theorem pv_injz (hI : pv_Inj ad pv_dZ.length) : nk_inj (pv_tz ad pv_dZ pv_tl) (pv_pz ad pv_dZ) := by
  intro a b ha hb hne
  obtain ⟨i, rfl, hi⟩ := pv_tz_2 ha
  obtain ⟨k, rfl, hk⟩ := pv_tz_2 hb
  have hik : i ≠ k := fun e => hne (by rw [e])
  obtain ⟨p1, p2, p3⟩ := pv_netz hI hi
  obtain ⟨q1, q2, q3⟩ := pv_netz hI hk
  have hl := pv_dZ_len
  rw [p1, p2, p3, q1, q2, q3]
  refine ⟨fun e => ?_, fun e => ?_, fun e => ?_⟩ <;> have := hI _ _ (by omega) (by omega) e <;> omega
set_option maxRecDepth 100000 in
theorem pv_netk (hI : pv_Inj ad pv_dZ.length) {i : Nat} (hi : i = 2 ∨ i = 13 ∨ i = 23 ∨ i = 35 ∨ i = 45 ∨ i = 55) : nk_k (pv_hz ad pv_dZ) (pv_pz ad pv_dZ) (ad i) := by
  obtain ⟨-, p2, -⟩ := pv_netz hI hi
  refine (nd_clear ?_ ?_ ?_ (fun j hj => ?_)).k
  · rcases hi with rfl | rfl | rfl | rfl | rfl | rfl <;> exact pv_fIz (x := 0) hI rfl rfl
  · rcases hi with rfl | rfl | rfl | rfl | rfl | rfl <;> exact pv_fIz (x := 0) hI rfl rfl
  · rcases hi with rfl | rfl | rfl | rfl | rfl | rfl <;> exact pv_fIz (x := 0) hI rfl rfl
  · rw [p2]
    rcases hi with rfl | rfl | rfl | rfl | rfl | rfl
    · rw [pv_aIz hI (i := 10) rfl (Or.inl rfl)]; rfl
    · rw [pv_aIz hI (i := 21) rfl (Or.inl rfl)]; rfl
    · rw [pv_aIz hI (i := 31) rfl (Or.inl rfl)]; rfl
    · rw [pv_aIz hI (i := 43) rfl (Or.inl rfl)]; rfl
    · rw [pv_aIz hI (i := 53) rfl (Or.inl rfl)]; rfl
    · rw [pv_aIz hI (i := 63) rfl (Or.inl rfl)]; rfl
theorem pv_nkz (hI : pv_Inj ad pv_dZ.length) : nk_w (pv_tz ad pv_dZ pv_tl) (pv_pz ad pv_dZ) (pv_hz ad pv_dZ) := by
  refine ⟨pv_injz hI, fun b hb => ?_⟩
  obtain ⟨i, rfl, hi⟩ := pv_tz_2 hb
  exact pv_netk hI hi
theorem pw_ok.zero {w : Nat → Int} (h : ∀ j, w j = 0) : pw_ok w := by
  have e : pr_n w = 0 := by unfold pr_n; rw [h]; rfl
  refine pw_ok.new (h 6) (h 7) ?_
  rw [e]
  exact ⟨fun t ht => by omega, fun t u ht => by omega⟩
set_option maxRecDepth 100000 in
theorem pv_imz (hI : pv_Inj ad pv_dZ.length) : im_ok (pv_aI (pv_hz ad pv_dZ) (pv_pz ad pv_dZ (ad 85) 2)) := by
  have r : pv_pz ad pv_dZ (ad 85) 2 = ad 87 := pv_pz_ad hI (i := 85) rfl
  intro k _
  refine pw_ok.zero (fun j => ?_)
  rw [r, pv_aIz hI (i := 87) rfl (Or.inl rfl)]
  rfl
set_option maxRecDepth 100000 in
theorem pv_rowz (hI : pv_Inj ad pv_dZ.length) : ∀ i k : Nat, i < 4 → k < 4 → i ≠ k → pv_pz ad pv_dZ (pv_pz ad pv_dZ (ad 0) 5) i ≠ pv_pz ad pv_dZ (pv_pz ad pv_dZ (ad 0) 5) k := by
  have r5 : pv_pz ad pv_dZ (ad 0) 5 = ad 65 := pv_pz_ad hI (i := 0) rfl
  have key : ∀ i : Nat, i < 4 → pv_pz ad pv_dZ (ad 65) i = ad (66 + 2 * i) := by
    intro i hi
    rcases (show i = 0 ∨ i = 1 ∨ i = 2 ∨ i = 3 by omega) with rfl | rfl | rfl | rfl
    · exact pv_pz_ad hI (i := 65) rfl
    · exact pv_pz_ad hI (i := 65) rfl
    · exact pv_pz_ad hI (i := 65) rfl
    · exact pv_pz_ad hI (i := 65) rfl
  have hl := pv_dZ_len
  intro i k hi hk hne e
  rw [r5, key i hi, key k hk] at e
  have := hI _ _ (by omega) (by omega) e
  omega
end FN
