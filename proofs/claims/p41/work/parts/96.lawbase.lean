theorem pv_topJ {p : Program} {l : Launch} {e : Env} {R : Room} {s : State} {m : MethodId} {args : Array Value} {below : List Frame} {meth : Method} {c : Code} {H : Heap} {locs : List Loc} {cells slots : Nat} {Q : State → Prop} {pc : Nat} {ls : Array Slot} {rest : List Value} {v : Int64} (kk : ∀ w : Int, (-9223372036854775808 ≤ w ∧ w ≤ 9223372036854775807) → W p l e R s m args below meth c H locs cells slots Q (F0 m pc ls (.long (pv_J w) :: rest))) : W p l e R s m args below meth c H locs cells slots Q (F0 m pc ls (.long v :: rest)) := by
  have h := pv_J_rep v
  rw [h.2]
  exact kk _ h.1
theorem pv_lcmpE {p : Program} {l : Launch} {e : Env} {R : Room} {s : State} {m : MethodId} {args : Array Value} {below : List Frame} {meth : Method} {c : Code} {H : Heap} {locs : List Loc} {cells slots : Nat} {Q : State → Prop} {cc : ByteArray} {pc : Nat} {ls : Array Slot} {rest : List Value} {v : Int64} (hexec : p.tables.exec = Jvm.exec) (hb : c.code = cc) (hdg : decode cc pc = .ok (.lcmp, 1)) (kk : W p l e R s m args below meth c H locs cells slots Q (F0 m (pc + 1) ls (.int 0 :: rest))) : W p l e R s m args below meth c H locs cells slots Q (F0 m pc ls (.long v :: .long v :: rest)) := by
  refine W.lcmp hexec hb hdg ?_
  have e0 : lg_cmp v v = 0 := by
    unfold lg_cmp
    first
      | (simp; done)
      | (rw [if_neg (fun z => absurd z (Int64.lt_irrefl v))]; simp)
      | (split <;> simp_all)
  rw [e0]
  exact kk
theorem pv_sldJ {p : Program} {l : Launch} {e : Env} {R : Room} {s : State} {m : MethodId} {args : Array Value} {below : List Frame} {meth : Method} {c : Code} {H : Heap} {locs : List Loc} {cells slots : Nat} {Q : State → Prop} {cc : ByteArray} {pc b L j kn : Nat} {xs : Nat → Int32} {x : Int} {A : Nat → Prop} {H0 : Heap} {ls : Array Slot} {rest : List Value} {k : Int32} (hexec : p.tables.exec = Jvm.exec) (hb : c.code = cc) (hX : va_X b L xs s H0) (hbl : b < H0.size) (hbA : ¬ A b) (hS : va_S A H0 H locs) (hL : L ≤ 3072) (hj : 6 * j + 6 ≤ L) (hk : k = pv_I kn) (hkn : kn < 6) (hv : xs (6 * j + kn) = pv_I x) (hdg : decode cc pc = .ok (.iaload, 1)) (kk : W p l e R s m args below meth c H locs cells slots Q (F0 m (pc + 1) ls (.int (pv_I x) :: rest))) : W p l e R s m args below meth c H locs cells slots Q (F0 m pc ls (.int (pv_I ((6 * j : Nat) : Int) + k) :: .ref b :: rest)) := by
  have e1 : pv_I ((6 * j : Nat) : Int) + k = pv_I ((6 * j + kn : Nat) : Int) := by rw [hk, pv_I_add]; congr 1
  rw [e1]
  refine va_sld hexec hb hX hbl hbA hS (pv_in_spec (pv_in_I (by omega) (by omega) (by omega))) hdg ?_
  rw [pv_I_nat (by omega) (by omega), show (((6 * j + kn : Nat) : Int)).toNat = 6 * j + kn from rfl, hv]
  exact kk
def pv_LX (p : Program) (s : State) (m : MethodId) (meth : Method) (c : Code) (b L : Nat) (xs : Nat → Int32) (K adV : Nat → Nat) (dC : Nat → ClassId) (dI : Nat → Nat → Nat) (dA : Nat → ClassId) : Prop := p.tables.exec = Jvm.exec ∧ c.code = code ∧ meth.sig.returnType = ret ∧ c.maxLocals = 4 ∧ s.vm.findClass R_law = some m.cls ∧ (∀ w ∈ lw_tbl, w.before #[Value.ref b] s = true) ∧ va_X b L xs s s.heap ∧ b < s.heap.size ∧ meth.locks = false ∧ pv_Wd K adV dC dI dA (fun q => s.heap.size ≤ q) s
def pv_RL (τ : Nat → Option Nat) (ρ : Nat → Nat → Nat) (h : pv_H) (h0 h1 : Nat) : Prop := ∀ i : Nat, i < 3 → (pv_aI h (ρ h0 4) i = 0 ↔ pv_aI h (ρ h1 3) i = 0)
def pv_LY (s : State) (dC : Nat → ClassId) (dI : Nat → Nat → Nat) (dA : Nat → ClassId) (τ : Nat → Option Nat) (ρ : Nat → Nat → Nat) (h : pv_H) (h0 h1 : Nat) (ws : va_W) (H : Heap) (locs : List Loc) : Prop := pv_Ty τ ρ h ∧ τ h0 = some 0 ∧ τ h1 = some 7 ∧ nk_w τ ρ h ∧ pw_ok (pv_aI h (ρ h1 1)) ∧ im_ok (pv_aI h (ρ h1 2)) ∧ pv_RL τ ρ h h0 h1 ∧ pv_R dA h ws ∧ va_P (dC, dI) pv_cls ws H ∧ va_D (fun q => s.heap.size ≤ q) ws ∧ va_S (fun q => s.heap.size ≤ q) s.heap H locs
theorem rl_back {A B B' : Nat → Int} {x z0 z1 : Int} (Q : ∀ i : Nat, i < 3 → (A i = 0 ↔ B i = 0)) (e : B' = B) (p0 : z0 = if 0 ≤ x ∧ x ≤ 2 then (if A x.toNat = 0 then -6 else 0) else -2) (p1 : z1 = if 0 ≤ x ∧ x ≤ 2 then (if B' x.toNat = 0 then -6 else 0) else -2) : z0 = z1 := by
  rw [p0, p1, e]
  by_cases c : 0 ≤ x ∧ x ≤ 2
  · rw [if_pos c, if_pos c]
    have q := Q x.toNat (by omega)
    by_cases d : A x.toNat = 0
    · rw [if_pos d, if_pos (q.mp d)]
    · rw [if_neg d, if_neg (fun z => d (q.mpr z))]
  · rw [if_neg c, if_neg c]
theorem rl_keep {A A1 A2 B B1 B2 : Nat → Int} {x : Int} (Q : ∀ i : Nat, i < 3 → (A i = 0 ↔ B i = 0)) (a1 : ∀ j : Nat, A1 j = if (0 ≤ x ∧ x ≤ 2) ∧ j = x.toNat then 1 else A j) (b1 : B1 = B) (b2 : ∀ j : Nat, B2 j = if (0 ≤ x ∧ x ≤ 2) ∧ j = x.toNat then 1 else B1 j) (a2 : A2 = A1) : ∀ i : Nat, i < 3 → (A2 i = 0 ↔ B2 i = 0) := by
  intro i hi
  rw [a2, a1, b2, b1]
  by_cases c : (0 ≤ x ∧ x ≤ 2) ∧ i = x.toNat
  · rw [if_pos c, if_pos c]
  · rw [if_neg c, if_neg c]; exact Q i hi
/-! the fresh world is good -/
theorem pv_dZ_nets : ∀ i : Nat, i < 103 → pv_tl[i]? = some 2 → i = 2 ∨ i = 13 ∨ i = 23 ∨ i = 35 ∨ i = 45 ∨ i = 55 := by decide +kernel
theorem pv_dZ_len : pv_dZ.length = 103 := by decide +kernel
section FN
variable {ad : Nat → Nat}
theorem pv_tz_2 {a : Nat} (h : pv_tz ad pv_dZ pv_tl a = some 2) : ∃ i, a = ad i ∧ (i = 2 ∨ i = 13 ∨ i = 23 ∨ i = 35 ∨ i = 45 ∨ i = 55) := by
  unfold pv_tz at h
  split at h
  · rename_i i hi
    obtain ⟨h1, h2⟩ := pv_fd_some hi
    exact ⟨i, h2.symm, pv_dZ_nets i (by rw [pv_dZ_len] at h1; exact h1) h⟩
  · cases h
set_option maxRecDepth 100000 in
theorem pv_netz (hI : pv_Inj ad pv_dZ.length) {i : Nat} (hi : i = 2 ∨ i = 13 ∨ i = 23 ∨ i = 35 ∨ i = 45 ∨ i = 55) : pv_pz ad pv_dZ (ad i) 5 = ad (i + 1) ∧ pv_pz ad pv_dZ (ad i) 12 = ad (i + 8) ∧ pv_pz ad pv_dZ (ad i) 13 = ad (i + 9) := by
  rcases hi with rfl | rfl | rfl | rfl | rfl | rfl
  · exact ⟨pv_pz_ad hI (i := 2) rfl, pv_pz_ad hI (i := 2) rfl, pv_pz_ad hI (i := 2) rfl⟩
  · exact ⟨pv_pz_ad hI (i := 13) rfl, pv_pz_ad hI (i := 13) rfl, pv_pz_ad hI (i := 13) rfl⟩
  · exact ⟨pv_pz_ad hI (i := 23) rfl, pv_pz_ad hI (i := 23) rfl, pv_pz_ad hI (i := 23) rfl⟩
  · exact ⟨pv_pz_ad hI (i := 35) rfl, pv_pz_ad hI (i := 35) rfl, pv_pz_ad hI (i := 35) rfl⟩
  · exact ⟨pv_pz_ad hI (i := 45) rfl, pv_pz_ad hI (i := 45) rfl, pv_pz_ad hI (i := 45) rfl⟩
  · exact ⟨pv_pz_ad hI (i := 55) rfl, pv_pz_ad hI (i := 55) rfl, pv_pz_ad hI (i := 55) rfl⟩
theorem pv_injz (hI : pv_Inj ad pv_dZ.length) : nk_inj (pv_tz ad pv_dZ pv_tl) (pv_pz ad pv_dZ) := by
  intro a b ha hb hne
  obtain ⟨i, rfl, hi⟩ := pv_tz_2 ha
  obtain ⟨k, rfl, hk⟩ := pv_tz_2 hb
  have hik : i ≠ k := fun e => hne (by rw [e])
  obtain ⟨p1, p2, p3⟩ := pv_netz hI hi
  obtain ⟨q1, q2, q3⟩ := pv_netz hI hk
  have hl := pv_dZ_len
  rw [p1, p2, p3, q1, q2, q3]
  refine ⟨fun e => ?_, fun e => ?_, fun e => ?_⟩ <;> have := hI _ _ (by omega) (by omega) e <;> omega
set_option maxRecDepth 100000 in
theorem pv_netk (hI : pv_Inj ad pv_dZ.length) {i : Nat} (hi : i = 2 ∨ i = 13 ∨ i = 23 ∨ i = 35 ∨ i = 45 ∨ i = 55) : nk_k (pv_hz ad pv_dZ) (pv_pz ad pv_dZ) (ad i) := by
  obtain ⟨-, p2, -⟩ := pv_netz hI hi
  refine (nd_clear ?_ ?_ ?_ (fun j hj => ?_)).k
  · rcases hi with rfl | rfl | rfl | rfl | rfl | rfl <;> exact pv_fIz (x := 0) hI rfl rfl
  · rcases hi with rfl | rfl | rfl | rfl | rfl | rfl <;> exact pv_fIz (x := 0) hI rfl rfl
  · rcases hi with rfl | rfl | rfl | rfl | rfl | rfl <;> exact pv_fIz (x := 0) hI rfl rfl
  · rw [p2]
    rcases hi with rfl | rfl | rfl | rfl | rfl | rfl
    · rw [pv_aIz hI (i := 10) rfl (Or.inl rfl)]; rfl
    · rw [pv_aIz hI (i := 21) rfl (Or.inl rfl)]; rfl
    · rw [pv_aIz hI (i := 31) rfl (Or.inl rfl)]; rfl
    · rw [pv_aIz hI (i := 43) rfl (Or.inl rfl)]; rfl
    · rw [pv_aIz hI (i := 53) rfl (Or.inl rfl)]; rfl
    · rw [pv_aIz hI (i := 63) rfl (Or.inl rfl)]; rfl
theorem pv_nkz (hI : pv_Inj ad pv_dZ.length) : nk_w (pv_tz ad pv_dZ pv_tl) (pv_pz ad pv_dZ) (pv_hz ad pv_dZ) := by
  refine ⟨pv_injz hI, fun b hb => ?_⟩
  obtain ⟨i, rfl, hi⟩ := pv_tz_2 hb
  exact pv_netk hI hi
theorem pw_ok.zero {w : Nat → Int} (h : ∀ j, w j = 0) : pw_ok w := by
  have e : pr_n w = 0 := by unfold pr_n; rw [h]; rfl
  refine pw_ok.new (h 6) (h 7) ?_
  rw [e]
  exact ⟨fun t ht => by omega, fun t u ht => by omega⟩
set_option maxRecDepth 100000 in
theorem pv_imz (hI : pv_Inj ad pv_dZ.length) : im_ok (pv_aI (pv_hz ad pv_dZ) (pv_pz ad pv_dZ (ad 85) 2)) := by
  have r : pv_pz ad pv_dZ (ad 85) 2 = ad 87 := pv_pz_ad hI (i := 85) rfl
  intro k _
  refine pw_ok.zero (fun j => ?_)
  rw [r, pv_aIz hI (i := 87) rfl (Or.inl rfl)]
  rfl
end FN
