/-! THE FRESH WORLD, typed: from a description by places, a checker that decides pv_Ty -/
def pv_fd (ad : Nat → Nat) (n a : Nat) : Option Nat := (List.range n).find? (fun i => decide (ad i = a))
def pv_Inj (ad : Nat → Nat) (n : Nat) : Prop := ∀ i j, i < n → j < n → ad i = ad j → i = j
theorem pv_fd_ad {ad : Nat → Nat} {n i : Nat} (h : pv_Inj ad n) (hi : i < n) : pv_fd ad n (ad i) = some i := by
  unfold pv_fd
  cases hf : (List.range n).find? (fun j => decide (ad j = ad i)) with
  | none =>
    have := List.find?_eq_none.mp hf i (List.mem_range.mpr hi)
    simp at this
  | some j =>
    have h1 := List.find?_some hf
    have h2 := List.mem_range.mp (List.mem_of_find?_eq_some hf)
    simp only [decide_eq_true_eq] at h1
    rw [h j i h2 hi h1]
theorem pv_fd_some {ad : Nat → Nat} {n a i : Nat} (h : pv_fd ad n a = some i) : i < n ∧ ad i = a := by
  have h1 := List.find?_some h
  have h2 := List.mem_range.mp (List.mem_of_find?_eq_some h)
  simp only [decide_eq_true_eq] at h1
  exact ⟨h2, h1⟩
def pv_hz (ad : Nat → Nat) (d : List pv_dE) : pv_H := fun a => match pv_fd ad d.length a with
  | some i => (d[i]?).map (pv_rE ad)
  | none => none
def pv_tz (ad : Nat → Nat) (d : List pv_dE) (tl : List Nat) : Nat → Option Nat := fun a => match pv_fd ad d.length a with
  | some i => tl[i]?
  | none => none
def pv_rf1 (e : pv_dE) (k : Nat) : Nat := match e with
  | .inr o => (match o.2[k]? with
    | some (.ref p) => p
    | _ => 0)
  | .inl x => (match x.2.2.find? (fun q => q.1 == k) with
    | some (_, .ref p) => p
    | _ => 0)
def pv_pz (ad : Nat → Nat) (d : List pv_dE) : Nat → Nat → Nat := fun a k => match pv_fd ad d.length a with
  | some i => (match d[i]? with
    | some e => ad (pv_rf1 e k)
    | none => 0)
  | none => 0
section TW
variable {ad : Nat → Nat} {d : List pv_dE} {tl : List Nat} {dA : Nat → ClassId}
theorem pv_hz_ad (h : pv_Inj ad d.length) {i : Nat} {e : pv_dE} (he : d[i]? = some e) : pv_hz ad d (ad i) = some (pv_rE ad e) := by
  have hi := (List.getElem?_eq_some_iff.mp he).1
  simp only [pv_hz, pv_fd_ad h hi, he, Option.map_some]
theorem pv_tz_ad (h : pv_Inj ad d.length) {i : Nat} (hi : i < d.length) : pv_tz ad d tl (ad i) = tl[i]? := by
  simp only [pv_tz, pv_fd_ad h hi]
theorem pv_pz_ad (h : pv_Inj ad d.length) {i k : Nat} {e : pv_dE} (he : d[i]? = some e) : pv_pz ad d (ad i) k = ad (pv_rf1 e k) := by
  have hi := (List.getElem?_eq_some_iff.mp he).1
  simp only [pv_pz, pv_fd_ad h hi, he]
theorem pv_rz_get : ∀ (d : List pv_dE) (j i : Nat), (pv_rz dA ad j d)[i]? = (d[i]?).map (fun e => (ad (j + i), pv_c dA (pv_rE ad e))) := by
  intro d
  induction d with
  | nil => intro j i; rfl
  | cons e r ih =>
    intro j i
    match i with
    | 0 => rfl
    | i + 1 =>
      show (pv_rz dA ad (j + 1) r)[i]? = _
      rw [ih, List.getElem?_cons_succ, show j + 1 + i = j + (i + 1) by omega]
theorem pv_Inj.of {A : Nat → Prop} (h : va_D A (pv_rz dA ad 0 d)) : pv_Inj ad d.length := by
  intro i j hi hj e
  refine h.1 i j _ _ ((pv_rz_get d 0 i).trans (by rw [List.getElem?_eq_getElem hi]; rfl)) ((pv_rz_get d 0 j).trans (by rw [List.getElem?_eq_getElem hj]; rfl)) ?_
  show ad (0 + i) = ad (0 + j)
  rw [Nat.zero_add, Nat.zero_add]
  exact e
theorem pv_R.hz : pv_R dA (pv_hz ad d) (pv_rz dA ad 0 d) := by
  intro a e h
  unfold pv_hz at h
  split at h
  · rename_i i hi
    obtain ⟨h1, h2⟩ := pv_fd_some hi
    rw [List.getElem?_eq_getElem h1] at h
    cases h
    refine ⟨i, ?_⟩
    rw [pv_rz_get, List.getElem?_eq_getElem h1, Nat.zero_add]
    simp only [Option.map_some, h2]
  · cases h
def pv_ckF (tl : List Nat) (ft : Nat × Int × Int) (v : Value) : Bool := match ft with
  | (1, lo, hi) => (match v with
    | .int x => decide (lo ≤ x.toInt) && decide (x.toInt ≤ hi)
    | _ => false)
  | (2, _, _) => (match v with
    | .long _ => true
    | _ => false)
  | (4, t, _) => (match v with
    | .ref p => decide (tl[p]? = some t.toNat)
    | _ => false)
  | _ => false
def pv_ck0 (pat : List (Int × Int)) (x : Int) : Bool := pat.all (fun q => decide (q.1 ≤ x) && decide (x ≤ q.2))
def pv_ck1 (pat : List (Int × Int)) (ov : List (Nat × Value)) : Bool := pv_ck0 pat 0 && ov.all (fun q => match q.2 with
  | .int x => pv_ck0 pat x.toInt
  | _ => false)
def pv_ck4 (tl : List Nat) (t : Nat) (ov : List (Nat × Value)) (k : Nat) : Bool := match ov.find? (fun q => q.1 == k) with
  | some (_, .ref p) => decide (tl[p]? = some t)
  | _ => false
def pv_ckE (tl : List Nat) (t : Nat) (e : pv_dE) : Bool := match e with
  | .inr o => (match pv_tyO t with
    | some q => decide (o.1 = q.1) && decide (o.2.length = q.2.length) && (List.zip q.2 o.2).all (fun z => pv_ckF tl z.1 z.2) && (pv_tyA t).isNone
    | none => false)
  | .inl x => (match pv_tyA t with
    | some (kd, n, cd, pat) => decide (x.1 = kd) && decide (x.2.1 = n) && (pv_tyO t).isNone && (match cd with
      | 1 => decide (kd ≠ 1 ∧ kd ≠ 4 ∧ kd ≠ 5) && pv_ck1 pat x.2.2
      | 2 => decide (kd = 1)
      | 3 => decide (kd = 0) && x.2.2.isEmpty
      | _ => decide (kd = 4 ∨ kd = 5) && decide (pat.length = 1) && (List.range n).all (fun k => pv_ck4 tl (pat.getD 0 (0, 0)).1.toNat x.2.2 k))
    | none => false)
theorem pv_ck0_spec {pat : List (Int × Int)} {x : Int} (h : pv_ck0 pat x = true) : ∀ q ∈ pat, q.1 ≤ x ∧ x ≤ q.2 := by
  intro q hq
  have := List.all_eq_true.mp h q hq
  simpa using this
theorem pv_oi_ok {pat : List (Int × Int)} (h0 : pv_ck0 pat 0 = true) : ∀ (ov : List (Nat × Value)), ov.all (fun q => match q.2 with
  | .int x => pv_ck0 pat x.toInt
  | _ => false) = true → ∀ i, pv_ck0 pat (pv_oi ov i).toInt = true := by
  intro ov
  induction ov with
  | nil => intro _ i; exact h0
  | cons q r ih =>
    intro h i
    rw [List.all_cons, Bool.and_eq_true] at h
    unfold pv_oi
    by_cases hi : i = q.1
    · simp only [upd, hi, if_true]
      have := h.1
      split at this
      · rename_i x hx
        simpa [hx] using this
      · cases this
    · simp only [upd, if_neg hi]
      exact ih h.2 i
theorem pv_or_get {k p : Nat} : ∀ (ov : List (Nat × Value)) (z : Nat), ov.find? (fun q => q.1 == k) = some (z, .ref p) → pv_or ad ov k = some (ad p) := by
  intro ov
  induction ov with
  | nil => intro z h; cases h
  | cons q r ih =>
    intro z h
    unfold pv_or
    rw [List.find?_cons] at h
    split at h
    · rename_i hq
      have hk : q.1 = k := by simpa using hq
      cases h
      simp [va_up, ← hk]
    · rename_i hq
      have hk : ¬ q.1 = k := by simpa using hq
      simp only [va_up, if_neg (Ne.symm hk)]
      exact ih z h
theorem pv_wok0 (i : Int) : pv_wok i 0 := by unfold pv_wok; omega
set_option maxHeartbeats 1000000 in
theorem pv_Ty.hz (hI : pv_Inj ad d.length) (hl : tl.length = d.length) (hc : (List.zip tl d).all (fun z => pv_ckE tl z.1 z.2) = true) : pv_Ty (pv_tz ad d tl) (pv_pz ad d) (pv_hz ad d) := by
  intro a t ht
  unfold pv_tz at ht
  split at ht
  · rename_i i hi
    obtain ⟨h1, h2⟩ := pv_fd_some hi
    subst h2
    have he : d[i]? = some d[i] := List.getElem?_eq_getElem h1
    generalize d[i] = e at he
    have hck : pv_ckE tl t e = true := by
      refine List.all_eq_true.mp hc (t, e) (List.mem_of_getElem? (i := i) ?_)
      rw [List.getElem?_zip_eq_some]
      exact ⟨ht, he⟩
    have hh := pv_hz_ad hI he
    have hρ : ∀ k, pv_pz ad d (ad i) k = ad (pv_rf1 e k) := fun k => pv_pz_ad hI he
    have hτ : ∀ p u, tl[p]? = some u → pv_tz ad d tl (ad p) = some u := fun p u hp => by
      rw [pv_tz_ad hI (by rw [← hl]; exact (List.getElem?_eq_some_iff.mp hp).1)]; exact hp
    unfold pv_ckE at hck
    refine ⟨fun q hq => ?_, fun q hq => ?_⟩
    · split at hck
      · rename_i o
        rw [hq] at hck
        simp only [Bool.and_eq_true, decide_eq_true_eq] at hck
        obtain ⟨⟨⟨k1, k2⟩, k3⟩, -⟩ := hck
        refine ⟨o.2.map (pv_rv ad), by rw [hh, ← k1]; rfl, by rw [List.length_map]; exact k2, fun k ft v hk hv => ?_⟩
        rw [List.getElem?_map] at hv
        cases hw : o.2[k]? with
        | none => rw [hw] at hv; cases hv
        | some w =>
          rw [hw] at hv
          cases hv
          have hz := List.all_eq_true.mp k3 (ft, w) (List.mem_of_getElem? (i := k) (by rw [List.getElem?_zip_eq_some]; exact ⟨hk, hw⟩))
          dsimp only at hz
          unfold pv_ckF at hz
          split at hz
          · split at hz
            · rename_i lo hi' x
              simp only [Bool.and_eq_true, decide_eq_true_eq] at hz
              exact ⟨x, rfl, hz.1, hz.2⟩
            · cases hz
          · split at hz
            · rename_i x
              exact ⟨x, rfl⟩
            · cases hz
          · split at hz
            · rename_i t' z p
              simp only [decide_eq_true_eq] at hz
              have hr : pv_pz ad d (ad i) k = ad p := by rw [hρ]; simp only [pv_rf1, hw]
              show Value.ref (ad p) = .ref _ ∧ pv_tz ad d tl _ = _
              rw [hr]
              exact ⟨rfl, hτ _ _ hz⟩
            · cases hz
          · cases hz
      · split at hck
        · simp only [Bool.and_eq_true, hq, Option.isNone_some] at hck
          simp at hck
        · cases hck
    · split at hck
      · split at hck
        · simp only [Bool.and_eq_true, hq, Option.isNone_some] at hck
          simp at hck
        · cases hck
      · rename_i x
        rw [hq] at hck
        obtain ⟨kd, n, cd, pat⟩ := q
        simp only [Bool.and_eq_true, decide_eq_true_eq] at hck
        obtain ⟨⟨⟨k1, k2⟩, -⟩, k4⟩ := hck
        subst k1
        subst k2
        show pv_okA _ _ _ _ _ _ cd pat
        split at k4
        · simp only [Bool.and_eq_true, decide_eq_true_eq, pv_ck1] at k4
          obtain ⟨⟨n1, n4, n5⟩, k0, kv⟩ := k4
          refine ⟨pv_oi x.2.2, ?_, fun j hj q hq' => pv_ck0_spec (pv_oi_ok k0 _ kv j) q (List.mem_of_getElem? hq')⟩
          rw [hh]
          show some (Sum.inl (x.1, pv_ra ad x.1 x.2.1 x.2.2)) = _
          congr 3
          unfold pv_ra
          split
          · exact absurd (by assumption) n1
          · exact absurd (by assumption) n4
          · exact absurd (by assumption) n5
          · rfl
        · simp only [decide_eq_true_eq] at k4
          refine ⟨fun _ => 0, ?_⟩
          rw [hh]
          show some (Sum.inl (x.1, pv_ra ad x.1 x.2.1 x.2.2)) = _
          rw [k4]
          rfl
        · simp only [Bool.and_eq_true, decide_eq_true_eq, List.isEmpty_iff] at k4
          refine ⟨pv_oi x.2.2, ?_, fun j hj => ?_⟩
          · rw [hh]
            show some (Sum.inl (x.1, pv_ra ad x.1 x.2.1 x.2.2)) = _
            rw [k4.1]
            rfl
          · rw [k4.2]
            show pv_wb pat j (0 : Int32).toInt
            unfold pv_wb
            split
            · exact pv_wok0 _
            · exact pv_wok0 _
        · rename_i hc1 hc2 hc3
          simp only [Bool.and_eq_true, decide_eq_true_eq] at k4
          obtain ⟨⟨k5, k6⟩, k7⟩ := k4
          unfold pv_okA
          split
          · exact absurd rfl hc1
          · exact absurd rfl hc2
          · exact absurd rfl hc3
          · refine ⟨pv_or ad x.2.2, ?_, fun j hj => ?_⟩
            · rw [hh]
              show some (Sum.inl (x.1, pv_ra ad x.1 x.2.1 x.2.2)) = _
              rcases k5 with k5 | k5 <;> (rw [k5]; rfl)
            · have hz := List.all_eq_true.mp k7 j (List.mem_range.mpr hj)
              unfold pv_ck4 at hz
              split at hz
              · rename_i z p hp
                simp only [decide_eq_true_eq] at hz
                have hr : pv_pz ad d (ad i) j = ad p := by rw [hρ]; simp only [pv_rf1, hp]
                rw [hr]
                refine ⟨pv_or_get _ z hp, fun q hq' => ?_⟩
                rw [hτ _ _ hz]
                match pat, k6, hq' with
                | [q0], _, hq' => cases hq'; rfl
              · cases hz
  · cases ht
end TW
