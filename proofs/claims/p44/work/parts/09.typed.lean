/-! TYPES OF CELLS: an object: its class, its fields (1, lo, hi) an int, (2, ..) a long, (4, t, ..) a cell of type t; an array: its kind, length, (1 ints, 2 longs, 4 cells), the bounds of its ints by a period. -/
def pv_tyO : Nat → Option (Nat × List (Nat × Int × Int))
  | 0 => some (0, [(4, 1, 0), (4, 2, 0), (4, 2, 0), (4, 10, 0), (4, 11, 0), (4, 12, 0), (4, 4, 0), (4, 5, 0), (4, 6, 0)])
  | 1 => some (1, [(1, 0, 1600), (1, 0, 3), (1, -1, 1600), (4, 2, 0), (4, 30, 0), (1, 0, 1600), (1, 0, 1600), (1, 0, 4), (1, -2147483648, 2147483647), (1, 0, 1600), (1, 0, 1)])
  | 2 => some (2, [(1, 0, 10), (1, 0, 18), (1, -2147483648, 2147483647), (1, 0, 360), (1, 0, 360), (4, 20, 0), (4, 21, 0), (4, 22, 0), (4, 23, 0), (4, 24, 0), (4, 25, 0), (4, 26, 0), (4, 27, 0), (4, 28, 0), (1, 0, 99), (1, 0, 99)])
  | 3 => some (3, [(1, 0, 1), (1, 0, 3), (1, 0, 60), (4, 31, 0)])
  | 4 => some (4, [(4, 32, 0), (4, 33, 0)])
  | 5 => some (5, [(4, 34, 0), (4, 35, 0), (4, 36, 0), (1, 0, 10), (1, -2147483648, 2147483647), (1, -2147483648, 2147483647), (1, -2147483648, 2147483647), (1, -2147483648, 2147483647)])
  | 6 => some (6, [(4, 37, 0), (4, 38, 0), (4, 39, 0), (1, 0, 10)])
  | 7 => some (7, [(1, -2147483648, 2147483647), (4, 40, 0), (4, 41, 0), (4, 42, 0), (4, 43, 0), (1, 0, 1600), (4, 44, 0), (1, 0, 1600), (1, 0, 1600), (1, 0, 1600), (1, 0, 4), (1, 0, 99999), (1, 0, 3), (1, -1, 1600), (4, 45, 0), (4, 46, 0), (4, 47, 0), (4, 48, 0), (2, 0, 0), (4, 49, 0), (4, 50, 0), (1, 0, 10), (4, 51, 0), (4, 52, 0), (4, 53, 0), (4, 54, 0), (4, 55, 0), (4, 56, 0)])
  | _ => none
def pv_tyA : Nat → Option (Nat × Nat × Nat × List (Int × Int))
  | 10 => some (4, 3, 4, [(2, 0)])
  | 11 => some (3, 3, 1, [(0, 1)])
  | 12 => some (5, 4, 4, [(3, 0)])
  | 20 => some (0, 54, 1, [(0, 9)])
  | 21 => some (0, 18, 1, [(0, 540)])
  | 22 => some (0, 10, 1, [(-1, 3600)])
  | 23 => some (0, 10, 1, [(-1, 99)])
  | 24 => some (0, 10, 1, [(-1, 99)])
  | 25 => some (0, 10, 1, [(-1, 9999)])
  | 26 => some (0, 100, 1, [(0, 360)])
  | 27 => some (0, 100, 1, [(-2147483648, 2147483647)])
  | 28 => some (0, 1287, 1, [(0, 9), (0, 9), (0, 360), (0, 17), (0, 9), (0, 9), (0, 9), (0, 540), (0, 17), (0, 9), (0, 9), (0, 9), (0, 540)])
  | 30 => some (2, 1600, 1, [(-128, 127)])
  | 31 => some (1, 60, 2, [(0, 0)])
  | 32 => some (0, 18, 1, [(-2147483648, 2147483647)])
  | 33 => some (0, 18, 1, [(0, 17)])
  | 34 => some (0, 10, 1, [(0, 9)])
  | 35 => some (0, 18, 1, [(-2147483648, 2147483647)])
  | 36 => some (0, 18, 1, [(-2147483648, 2147483647)])
  | 37 => some (1, 10, 2, [(0, 0)])
  | 38 => some (1, 110, 2, [(0, 0)])
  | 39 => some (0, 10, 1, [(0, 9)])
  | 40 => some (0, 1507, 3, [(0, 0)])
  | 41 => some (0, 4521, 3, [(1, 0)])
  | 42 => some (3, 3, 1, [(0, 1)])
  | 43 => some (2, 1600, 1, [(-128, 127)])
  | 44 => some (0, 5, 1, [(-2147483648, 2147483647)])
  | 45 => some (0, 1507, 3, [(0, 0)])
  | 46 => some (0, 18, 1, [(-2147483648, 2147483647)])
  | 47 => some (0, 54, 1, [(-2147483648, 2147483647)])
  | 48 => some (0, 54, 1, [(-2147483648, 2147483647)])
  | 49 => some (1, 100, 2, [(0, 0)])
  | 50 => some (0, 10, 1, [(0, 9)])
  | 51 => some (1, 10, 2, [(0, 0)])
  | 52 => some (0, 1507, 3, [(0, 0)])
  | 53 => some (0, 4, 1, [(-1, 60)])
  | 54 => some (0, 4, 1, [(0, 3)])
  | 55 => some (1, 240, 2, [(0, 0)])
  | 56 => some (1, 60, 2, [(0, 0)])
  | _ => none
def pv_okF (τ : Nat → Option Nat) (ρ : Nat → Nat → Nat) (a k : Nat) (ft : Nat × Int × Int) (v : Value) : Prop := match ft with
  | (1, lo, hi) => ∃ x : Int32, v = .int x ∧ lo ≤ x.toInt ∧ x.toInt ≤ hi
  | (2, _, _) => ∃ x : Int64, v = .long x
  | (4, t, _) => v = .ref (ρ a k) ∧ τ (ρ a k) = some t.toNat
  | _ => False
def pv_okO (τ : Nat → Option Nat) (ρ : Nat → Nat → Nat) (h : pv_H) (a ci : Nat) (fts : List (Nat × Int × Int)) : Prop := ∃ fs : List Value, h a = some (.inr (ci, fs)) ∧ fs.length = fts.length ∧ ∀ (k : Nat) (ft : Nat × Int × Int) (v : Value), fts[k]? = some ft → fs[k]? = some v → pv_okF τ ρ a k ft v
/-- what the reference's world has at a place -/
def pv_wok (i v : Int) : Prop :=
  (-2147483648 ≤ v ∧ v ≤ 2147483647) ∧ (i = 0 → 0 ≤ v ∧ v ≤ 10) ∧ (i = 1 → 0 ≤ v ∧ v ≤ 18) ∧ (i = 3 → 0 ≤ v ∧ v ≤ 360) ∧ (i = 4 → 0 ≤ v ∧ v ≤ 360) ∧ (i = 5 → 0 ≤ v ∧ v ≤ 1) ∧ (i = 6 → 0 ≤ v ∧ v ≤ 99) ∧ (i = 7 → 0 ≤ v ∧ v ≤ 99) ∧
  (8 ≤ i ∧ i < 80 ∧ (i - 8) % 4 ≤ 2 → 0 ≤ v ∧ v ≤ 9) ∧ (8 ≤ i ∧ i < 80 → 0 ≤ v ∧ v ≤ 540) ∧ (80 ≤ i ∧ i < 120 → -1 ≤ v ∧ v ≤ 9999) ∧ (120 ≤ i ∧ i < 220 → 0 ≤ v ∧ v ≤ 360) ∧
  (220 ≤ i ∧ ((i - 220) % 13 = 0 ∨ (i - 220) % 13 = 12) → 0 ≤ v ∧ v ≤ 99) ∧ (220 ≤ i ∧ (i - 220) % 13 = 1 → 0 ≤ v ∧ v ≤ 360) ∧ (220 ≤ i ∧ ((i - 220) % 13 = 2 ∨ (i - 220) % 13 = 3) → 0 ≤ v ∧ v ≤ 17) ∧
  (220 ≤ i ∧ ((4 ≤ (i - 220) % 13 ∧ (i - 220) % 13 ≤ 6) ∨ (8 ≤ (i - 220) % 13 ∧ (i - 220) % 13 ≤ 10)) → 0 ≤ v ∧ v ≤ 9) ∧ (220 ≤ i ∧ ((i - 220) % 13 = 7 ∨ (i - 220) % 13 = 11) → 0 ≤ v ∧ v ≤ 540)
def pv_wb (pat : List (Int × Int)) (i v : Int) : Prop := match pat with
  | (0, _) :: _ => pv_wok i v
  | _ => pv_wok (i % 1507) v
def pv_okA (τ : Nat → Option Nat) (ρ : Nat → Nat → Nat) (h : pv_H) (a kd n cd : Nat) (pat : List (Int × Int)) : Prop := match cd with
  | 1 => ∃ f : Nat → Int32, h a = some (.inl (kd, n, .inl f)) ∧ ∀ i : Nat, i < n → ∀ q, pat[i % pat.length]? = some q → q.1 ≤ (f i).toInt ∧ (f i).toInt ≤ q.2
  | 2 => ∃ f : Nat → Int64, h a = some (.inl (kd, n, .inr (.inl f)))
  | 3 => ∃ f : Nat → Int32, h a = some (.inl (kd, n, .inl f)) ∧ ∀ i : Nat, i < n → pv_wb pat i (f i).toInt
  | _ => ∃ f : Nat → Option Nat, h a = some (.inl (kd, n, .inr (.inr (.inr (.inr f))))) ∧ ∀ i : Nat, i < n → f i = some (ρ a i) ∧ ∀ q, pat[0]? = some q → τ (ρ a i) = some q.1.toNat
/-- the cells are of their types -/
def pv_Ty (τ : Nat → Option Nat) (ρ : Nat → Nat → Nat) (h : pv_H) : Prop := ∀ a t, τ a = some t → (∀ q, pv_tyO t = some q → pv_okO τ ρ h a q.1 q.2) ∧ ∀ q, pv_tyA t = some q → pv_okA τ ρ h a q.1 q.2.1 q.2.2.1 q.2.2.2
def pv_fI (h : pv_H) (a k : Nat) : Int := match h a with
  | some (.inr (_, fs)) => (match fs[k]? with
    | some (.int x) => x.toInt
    | _ => 0)
  | _ => 0
def pv_fJ (h : pv_H) (a k : Nat) : Int := match h a with
  | some (.inr (_, fs)) => (match fs[k]? with
    | some (.long x) => x.toInt
    | _ => 0)
  | _ => 0
def pv_aI (h : pv_H) (a i : Nat) : Int := match h a with
  | some (.inl (_, _, .inl f)) => (f i).toInt
  | _ => 0
def pv_aJ (h : pv_H) (a i : Nat) : Int := match h a with
  | some (.inl (_, _, .inr (.inl f))) => (f i).toInt
  | _ => 0
/-- what isn't named in E stays: t * 64 + k the field k of objects of type t, t * 64 + 63 arrays of type t -/
def pv_Fr (τ : Nat → Option Nat) (E : List Nat) (h h' : pv_H) : Prop := ∀ a t, τ a = some t → (∀ k, (t * 64 + k) ∉ E → pv_fI h' a k = pv_fI h a k ∧ pv_fJ h' a k = pv_fJ h a k) ∧ ((t * 64 + 63) ∉ E → ∀ i, pv_aI h' a i = pv_aI h a i ∧ pv_aJ h' a i = pv_aJ h a i)
theorem pv_Fr.rf {τ : Nat → Option Nat} {E : List Nat} {h : pv_H} : pv_Fr τ E h h := fun _ _ _ => ⟨fun _ _ => ⟨rfl, rfl⟩, fun _ _ => ⟨rfl, rfl⟩⟩
theorem pv_Fr.tr {τ : Nat → Option Nat} {E : List Nat} {h h1 h2 : pv_H} (a : pv_Fr τ E h h1) (b : pv_Fr τ E h1 h2) : pv_Fr τ E h h2 := fun q t ht => ⟨fun k hk => ⟨((b q t ht).1 k hk).1.trans ((a q t ht).1 k hk).1, ((b q t ht).1 k hk).2.trans ((a q t ht).1 k hk).2⟩, fun hk i => ⟨((b q t ht).2 hk i).1.trans ((a q t ht).2 hk i).1, ((b q t ht).2 hk i).2.trans ((a q t ht).2 hk i).2⟩⟩
theorem pv_Fr.up {τ : Nat → Option Nat} {E E' : List Nat} {h h1 : pv_H} (a : pv_Fr τ E h h1) (hE : E.all (fun q => E'.contains q) = true) : pv_Fr τ E' h h1 := fun q t ht => ⟨fun k hk => (a q t ht).1 k (fun z => hk (by
  have := List.all_eq_true.mp hE _ z
  simpa using this)), fun hk => (a q t ht).2 (fun z => hk (by
  have := List.all_eq_true.mp hE _ z
  simpa using this))⟩
/-- a field that may be written -/
def pv_ft (ci k : Nat) : Option FieldType := match pv_cls[ci]? with
  | some q => if (q.2.1 k).2.2.2 = false then parseFieldDescriptor (q.2.1 k).2.2.1 else none
  | none => none
/-- what must be so of a method that is called, by itself; and of two -/
def pv_cB (M' np mL' : Nat) (y : MethodName) : Bool := decide (pv_ix y = some M') && decide (pv_np M' = np) && decide ((pv_y M').cls ≠ "java/lang/invoke/MethodHandle") && decide ((pv_y M').cls ≠ "java/lang/invoke/VarHandle") && decide ((parseMethodDescriptor (pv_y M').desc).map (fun d => d.parameters.length) = some (pv_np M')) && plainName (pv_y M').cls && decide (Cond.initialized (pv_y M').cls ∈ lw_tbl) && decide (M' < pv_ms.length) && decide (pv_mL M' = mL')
def pv_cV (M' ci np mL' : Nat) (y : MethodName) : Bool := pv_cB M' np mL' y && decide (y ≠ pv_sln) && decide (y ≠ pv_scn) && decide (pv_find (pv_own M') = some ci) && decide (Cond.instanceMethod (pv_y M') ∈ lw_tbl) && decide (Cond.selects (pv_y M').cls (pv_y M') (pv_y M') ∈ lw_tbl)
def pv_cS (M' np mL' : Nat) (y : MethodName) : Bool := pv_cB M' np mL' y && decide (y ≠ pv_cpn) && decide (y ≠ Lib.Math.max.name) && decide (y ≠ Lib.Math.min.name) && decide (y ≠ Lib.MathLoose.abs_long.x) && decide (Cond.static (pv_y M') ∈ lw_tbl)
def pv_rk (M M' mL' : Nat) : Bool := decide (pv_fr M' + 1 ≤ pv_fr M) && decide (8 + (mL' + 11) + pv_lo M' ≤ pv_lo M)
def pv_kV (M idx M' ci np mL' : Nat) : Prop := ∃ y, pv_ml M idx = some (y, none) ∧ pv_cV M' ci np mL' y = true ∧ pv_rk M M' mL' = true
def pv_kS (M idx M' np mL' : Nat) : Prop := ∃ y o, pv_ml M idx = some (y, o) ∧ pv_cS M' np mL' y = true ∧ pv_rk M M' mL' = true
theorem pv_gfo_of {M idx : Nat} {o : String} {r : Nat × Nat} (h : pv_own M = o) (h1 : pv_gfo o idx = some r) : pv_gf M idx = some r := by rw [pv_gf, h, h1]
theorem pv_kV_of {M idx M' ci np mL' : Nat} {o : String} {y : MethodName} (h : pv_own M = o) (h1 : pv_mlo o idx = some (y, none)) (h2 : pv_cV M' ci np mL' y = true) (h3 : pv_rk M M' mL' = true) : pv_kV M idx M' ci np mL' := ⟨y, by rw [pv_ml, h, h1], h2, h3⟩
theorem pv_kS_of {M idx M' np mL' : Nat} {o : String} {y : MethodName} {z : Option String} (h : pv_own M = o) (h1 : pv_mlo o idx = some (y, z)) (h2 : pv_cS M' np mL' y = true) (h3 : pv_rk M M' mL' = true) : pv_kS M idx M' np mL' := ⟨y, z, by rw [pv_ml, h, h1], h2, h3⟩
section PY
variable {K : Nat → Nat} {M pc : Nat} {f : pv_F} {st : List Value} {h : pv_H} {Q : Option Value → pv_H → Prop} {τ : Nat → Option Nat} {ρ : Nat → Nat → Nat}
theorem pv_set_fI {h : pv_H} {a : Nat} {e : pv_E} {b k : Nat} (hb : b ≠ a) : pv_fI (pv_set h a e) b k = pv_fI h b k ∧ pv_fJ (pv_set h a e) b k = pv_fJ h b k ∧ pv_aI (pv_set h a e) b k = pv_aI h b k ∧ pv_aJ (pv_set h a e) b k = pv_aJ h b k := by
  simp only [pv_fI, pv_fJ, pv_aI, pv_aJ, pv_set, if_neg hb, and_self]
theorem pv_set_self {h : pv_H} {a : Nat} {e : pv_E} : pv_set h a e a = some e := by simp [pv_set]
/-- an int field is read -/
theorem pw_getI {a k ci t idx : Nat} {lo hi : Int} {fts : List (Nat × Int × Int)} (hd : pv_dec M pc = some (.getfield idx, 3)) (hg : pv_gf M idx = some (ci, k)) (hT : pv_Ty τ ρ h) (ha : τ a = some t) (ht : pv_tyO t = some (ci, fts)) (hk : fts[k]? = some (1, lo, hi)) (kk : lo ≤ pv_fI h a k → pv_fI h a k ≤ hi → pv_T K M (pc + 3) f (.int (pv_I (pv_fI h a k)) :: st) h Q) : pv_T K M pc f (.ref a :: st) h Q := by
  obtain ⟨fs, e, hl, hf⟩ := (hT a t ha).1 _ ht
  have hkl : k < fs.length := by rw [hl]; exact (List.getElem?_eq_some_iff.mp hk).1
  obtain ⟨x, hx, h1, h2⟩ := hf k _ _ hk (List.getElem?_eq_getElem hkl)
  have e2 : fs[k]? = some (.int x) := by rw [List.getElem?_eq_getElem hkl, hx]
  have e3 : pv_fI h a k = x.toInt := by simp only [pv_fI, e, e2]
  have e4 : pv_I (pv_fI h a k) = x := by rw [e3]; exact Int32.ofInt_toInt x
  refine pw_steph hd rfl rfl ?_ (kk (by rw [e3]; exact h1) (by rw [e3]; exact h2))
  unfold pv_sh
  simp only [hg, e, if_true, e2, e4]
theorem pw_getJ {a k ci t idx : Nat} {fts : List (Nat × Int × Int)} (hd : pv_dec M pc = some (.getfield idx, 3)) (hg : pv_gf M idx = some (ci, k)) (hT : pv_Ty τ ρ h) (ha : τ a = some t) (ht : pv_tyO t = some (ci, fts)) (hk : fts[k]? = some (2, 0, 0)) (kk : pv_q (pv_fJ h a k) → pv_T K M (pc + 3) f (.long (pv_J (pv_fJ h a k)) :: st) h Q) : pv_T K M pc f (.ref a :: st) h Q := by
  obtain ⟨fs, e, hl, hf⟩ := (hT a t ha).1 _ ht
  have hkl : k < fs.length := by rw [hl]; exact (List.getElem?_eq_some_iff.mp hk).1
  obtain ⟨x, hx⟩ := hf k _ _ hk (List.getElem?_eq_getElem hkl)
  have e2 : fs[k]? = some (.long x) := by rw [List.getElem?_eq_getElem hkl, hx]
  have e3 : pv_fJ h a k = x.toInt := by simp only [pv_fJ, e, e2]
  have e4 : pv_J (pv_fJ h a k) = x := by rw [e3]; exact Int64.ofInt_toInt x
  refine pw_steph hd rfl rfl ?_ (kk (by rw [e3]; exact (pv_J_rep x).1))
  unfold pv_sh
  simp only [hg, e, if_true, e2, e4]
/-- a field that holds a cell is read -/
theorem pw_getR {a k ci t idx : Nat} {t' z : Int} {fts : List (Nat × Int × Int)} (hd : pv_dec M pc = some (.getfield idx, 3)) (hg : pv_gf M idx = some (ci, k)) (hT : pv_Ty τ ρ h) (ha : τ a = some t) (ht : pv_tyO t = some (ci, fts)) (hk : fts[k]? = some (4, t', z)) (kk : τ (ρ a k) = some t'.toNat → pv_T K M (pc + 3) f (.ref (ρ a k) :: st) h Q) : pv_T K M pc f (.ref a :: st) h Q := by
  obtain ⟨fs, e, hl, hf⟩ := (hT a t ha).1 _ ht
  have hkl : k < fs.length := by rw [hl]; exact (List.getElem?_eq_some_iff.mp hk).1
  obtain ⟨hx, h1⟩ := hf k _ _ hk (List.getElem?_eq_getElem hkl)
  have e2 : fs[k]? = some (.ref (ρ a k)) := by rw [List.getElem?_eq_getElem hkl, hx]
  refine pw_steph hd rfl rfl ?_ (kk h1)
  unfold pv_sh
  simp only [hg, e, if_true, e2]
theorem pv_Ty.putF {a k ci t : Nat} {ft : Nat × Int × Int} {v : Value} {fs : List Value} {fts : List (Nat × Int × Int)} (hT : pv_Ty τ ρ h) (ha : τ a = some t) (ht : pv_tyO t = some (ci, fts)) (hA : pv_tyA t = none) (hk : fts[k]? = some ft) (e : h a = some (.inr (ci, fs))) (hv : pv_okF τ ρ a k ft v) : pv_Ty τ ρ (pv_set h a (.inr (ci, fs.set k v))) := by
  intro b u hb
  by_cases hba : b = a
  · subst hba
    cases ha.symm.trans hb
    refine ⟨fun q hq => ?_, fun q hq => ?_⟩
    · cases ht.symm.trans hq
      obtain ⟨fs', e', hl, hf⟩ := (hT b t ha).1 _ ht
      cases e.symm.trans e'
      refine ⟨fs.set k v, pv_set_self, by rw [List.length_set]; exact hl, fun j ft' v' h1 h2 => ?_⟩
      by_cases hj : j = k
      · subst hj
        cases hk.symm.trans h1
        have hkl : j < fs.length := by rw [hl]; exact (List.getElem?_eq_some_iff.mp hk).1
        rw [List.getElem?_set_self hkl] at h2
        cases h2
        exact hv
      · rw [List.getElem?_set_ne (Ne.symm hj)] at h2
        exact hf j ft' v' h1 h2
    · rw [hA] at hq; cases hq
  · obtain ⟨h1, h2⟩ := hT b u hb
    refine ⟨fun q hq => ?_, fun q hq => ?_⟩
    · obtain ⟨fs', e', r⟩ := h1 q hq
      exact ⟨fs', by simp only [pv_set, if_neg hba]; exact e', r⟩
    · have := h2 q hq
      unfold pv_okA at this ⊢
      simp only [pv_set, if_neg hba]
      exact this
theorem pv_Fr.putF {a k ci t : Nat} {v : Value} {fs : List Value} (ha : τ a = some t) (e : h a = some (.inr (ci, fs))) : pv_Fr τ [t * 64 + k] h (pv_set h a (.inr (ci, fs.set k v))) := by
  intro b u hb
  by_cases hba : b = a
  · subst hba
    cases ha.symm.trans hb
    refine ⟨fun j hj => ?_, fun _ i => ?_⟩
    · have hjk : k ≠ j := fun z => hj (by rw [z]; exact List.mem_singleton.mpr rfl)
      simp only [pv_fI, pv_fJ, pv_set_self, e, List.getElem?_set_ne hjk, and_self]
    · simp only [pv_aI, pv_aJ, pv_set_self, e, and_self]
  · exact ⟨fun j _ => ⟨(pv_set_fI hba).1, (pv_set_fI hba).2.1⟩, fun _ i => ⟨(pv_set_fI hba).2.2.1, (pv_set_fI hba).2.2.2⟩⟩
theorem pv_sh_put {a k ci idx : Nat} {v : Value} {ty : FieldType} {fs : List Value} (hg : pv_gf M idx = some (ci, k)) (hty : pv_ft ci k = some ty) (e : h a = some (.inr (ci, fs))) (hn : narrow ty v = v) (hfit : fits ty v = true) (hkl : k < fs.length) (hrk : refKind ty = false) : pv_sh K M pc (.putfield idx) (v :: .ref a :: st) h = some (pc + 3, st, pv_set h a (.inr (ci, fs.set k v))) := by
  unfold pv_ft at hty
  split at hty
  · rename_i q hq
    split at hty
    · rename_i hfin
      unfold pv_sh
      simp only [hg, e, hq, hty, hfin, hn, hfit, hkl, hrk, and_self, if_true]
    · cases hty
  · cases hty
/-- an int field is written -/
theorem pw_putI {a k ci t idx : Nat} {x lo hi : Int} {fts : List (Nat × Int × Int)} (hd : pv_dec M pc = some (.putfield idx, 3)) (hg : pv_gf M idx = some (ci, k)) (hty : pv_ft ci k = some .int) (hT : pv_Ty τ ρ h) (ha : τ a = some t) (ht : pv_tyO t = some (ci, fts)) (hA : pv_tyA t = none) (hk : fts[k]? = some (1, lo, hi)) (hr : pv_r x) (hx : lo ≤ x ∧ x ≤ hi) (kk : ∀ h', pv_Ty τ ρ h' → pv_Fr τ [t * 64 + k] h h' → pv_fI h' a k = x → pv_T K M (pc + 3) f st h' Q) : pv_T K M pc f (.int (pv_I x) :: .ref a :: st) h Q := by
  obtain ⟨fs, e, hl, hf⟩ := (hT a t ha).1 _ ht
  have hkl : k < fs.length := by rw [hl]; exact (List.getElem?_eq_some_iff.mp hk).1
  refine pw_steph hd rfl rfl (pv_sh_put hg hty e rfl rfl hkl rfl) (kk _ (hT.putF ha ht hA hk e ⟨_, rfl, by rw [pv_I_toInt hr]; exact hx.1, by rw [pv_I_toInt hr]; exact hx.2⟩) (pv_Fr.putF ha e) ?_)
  simp only [pv_fI, pv_set_self, List.getElem?_set_self hkl, pv_I_toInt hr]
theorem pw_putZ {a k ci t idx : Nat} {x lo hi : Int} {fts : List (Nat × Int × Int)} (hd : pv_dec M pc = some (.putfield idx, 3)) (hg : pv_gf M idx = some (ci, k)) (hty : pv_ft ci k = some .boolean) (hT : pv_Ty τ ρ h) (ha : τ a = some t) (ht : pv_tyO t = some (ci, fts)) (hA : pv_tyA t = none) (hk : fts[k]? = some (1, lo, hi)) (hr : x = 0 ∨ x = 1) (hx : lo ≤ x ∧ x ≤ hi) (kk : ∀ h', pv_Ty τ ρ h' → pv_Fr τ [t * 64 + k] h h' → pv_fI h' a k = x → pv_T K M (pc + 3) f st h' Q) : pv_T K M pc f (.int (pv_I x) :: .ref a :: st) h Q := by
  obtain ⟨fs, e, hl, hf⟩ := (hT a t ha).1 _ ht
  have hkl : k < fs.length := by rw [hl]; exact (List.getElem?_eq_some_iff.mp hk).1
  have hr2 : pv_r x := by rcases hr with rfl | rfl <;> exact ⟨by omega, by omega⟩
  refine pw_steph hd rfl rfl (pv_sh_put hg hty e (by rcases hr with rfl | rfl <;> rfl) (by rcases hr with rfl | rfl <;> rfl) hkl rfl) (kk _ (hT.putF ha ht hA hk e ⟨_, rfl, by rw [pv_I_toInt hr2]; exact hx.1, by rw [pv_I_toInt hr2]; exact hx.2⟩) (pv_Fr.putF ha e) ?_)
  simp only [pv_fI, pv_set_self, List.getElem?_set_self hkl, pv_I_toInt hr2]
theorem pw_putJ {a k ci t idx : Nat} {x : Int} {fts : List (Nat × Int × Int)} (hd : pv_dec M pc = some (.putfield idx, 3)) (hg : pv_gf M idx = some (ci, k)) (hty : pv_ft ci k = some .long) (hT : pv_Ty τ ρ h) (ha : τ a = some t) (ht : pv_tyO t = some (ci, fts)) (hA : pv_tyA t = none) (hk : fts[k]? = some (2, 0, 0)) (hr : pv_q x) (kk : ∀ h', pv_Ty τ ρ h' → pv_Fr τ [t * 64 + k] h h' → pv_fJ h' a k = x → pv_T K M (pc + 3) f st h' Q) : pv_T K M pc f (.long (pv_J x) :: .ref a :: st) h Q := by
  obtain ⟨fs, e, hl, hf⟩ := (hT a t ha).1 _ ht
  have hkl : k < fs.length := by rw [hl]; exact (List.getElem?_eq_some_iff.mp hk).1
  refine pw_steph hd rfl rfl (pv_sh_put hg hty e rfl rfl hkl rfl) (kk _ (hT.putF ha ht hA hk e ⟨_, rfl⟩) (pv_Fr.putF ha e) ?_)
  simp only [pv_fJ, pv_set_self, List.getElem?_set_self hkl, pv_J_toInt hr]
/-- an int of an array is read; its bounds by the place in the period -/
theorem pw_ialdP {a t n : Nat} {i lo hi : Int} {pat : List (Int × Int)} (hd : pv_dec M pc = some (.iaload, 1)) (hT : pv_Ty τ ρ h) (ha : τ a = some t) (ht : pv_tyA t = some (0, n, 1, pat)) (hn : Nat.ble n 2147483647 = true) (h0 : 0 ≤ i) (hin : i < n) (hq : pat[i.toNat % pat.length]? = some (lo, hi)) (kk : lo ≤ pv_aI h a i.toNat → pv_aI h a i.toNat ≤ hi → pv_T K M (pc + 1) f (.int (pv_I (pv_aI h a i.toNat)) :: st) h Q) : pv_T K M pc f (.int (pv_I i) :: .ref a :: st) h Q := by
  obtain ⟨g, e, hf⟩ := (hT a t ha).2 _ ht
  have hn2 := Nat.le_of_ble_eq_true hn
  obtain ⟨h1, h2⟩ := hf i.toNat (show i.toNat < n by omega) _ hq
  have e3 : pv_aI h a i.toNat = (g i.toNat).toInt := by simp only [pv_aI, e]
  have e4 : pv_I (pv_aI h a i.toNat) = g i.toNat := by rw [e3]; exact Int32.ofInt_toInt _
  refine pw_steph hd rfl rfl ?_ (kk (by rw [e3]; exact h1) (by rw [e3]; exact h2))
  unfold pv_sh
  simp only [e, pv_in_I h0 hin (by omega), if_true, pv_I_nat h0 (by omega), e4]
theorem pw_iald {a t n : Nat} {i lo hi : Int} (hd : pv_dec M pc = some (.iaload, 1)) (hT : pv_Ty τ ρ h) (ha : τ a = some t) (ht : pv_tyA t = some (0, n, 1, [(lo, hi)])) (hn : Nat.ble n 2147483647 = true) (h0 : 0 ≤ i) (hin : i < n) (kk : lo ≤ pv_aI h a i.toNat → pv_aI h a i.toNat ≤ hi → pv_T K M (pc + 1) f (.int (pv_I (pv_aI h a i.toNat)) :: st) h Q) : pv_T K M pc f (.int (pv_I i) :: .ref a :: st) h Q := pw_ialdP hd hT ha ht hn h0 hin (by simp [Nat.mod_one]) kk
theorem pw_bald {a t n kd : Nat} {i lo hi : Int} (hd : pv_dec M pc = some (.baload, 1)) (hT : pv_Ty τ ρ h) (ha : τ a = some t) (ht : pv_tyA t = some (kd, n, 1, [(lo, hi)])) (hkd : kd = 2 ∨ kd = 3) (hn : Nat.ble n 2147483647 = true) (h0 : 0 ≤ i) (hin : i < n) (kk : lo ≤ pv_aI h a i.toNat → pv_aI h a i.toNat ≤ hi → pv_T K M (pc + 1) f (.int (pv_I (pv_aI h a i.toNat)) :: st) h Q) : pv_T K M pc f (.int (pv_I i) :: .ref a :: st) h Q := by
  obtain ⟨g, e, hf⟩ := (hT a t ha).2 _ ht
  have hn2 := Nat.le_of_ble_eq_true hn
  obtain ⟨h1, h2⟩ := hf i.toNat (show i.toNat < n by omega) (lo, hi) (by simp [Nat.mod_one])
  have e3 : pv_aI h a i.toNat = (g i.toNat).toInt := by simp only [pv_aI, e]
  have e4 : pv_I (pv_aI h a i.toNat) = g i.toNat := by rw [e3]; exact Int32.ofInt_toInt _
  refine pw_steph hd rfl rfl ?_ (kk (by rw [e3]; exact h1) (by rw [e3]; exact h2))
  unfold pv_sh
  rcases hkd with rfl | rfl
  · simp only [e, pv_in_I h0 hin (by omega), if_true, pv_I_nat h0 (by omega), e4]
  · simp only [e, pv_in_I h0 hin (by omega), if_true, pv_I_nat h0 (by omega), e4]
theorem pw_lald {a t n : Nat} {i : Int} {pat : List (Int × Int)} (hd : pv_dec M pc = some (.laload, 1)) (hT : pv_Ty τ ρ h) (ha : τ a = some t) (ht : pv_tyA t = some (1, n, 2, pat)) (hn : Nat.ble n 2147483647 = true) (h0 : 0 ≤ i) (hin : i < n) (kk : pv_q (pv_aJ h a i.toNat) → pv_T K M (pc + 1) f (.long (pv_J (pv_aJ h a i.toNat)) :: st) h Q) : pv_T K M pc f (.int (pv_I i) :: .ref a :: st) h Q := by
  obtain ⟨g, e⟩ := (hT a t ha).2 _ ht
  have hn2 := Nat.le_of_ble_eq_true hn
  have e3 : pv_aJ h a i.toNat = (g i.toNat).toInt := by simp only [pv_aJ, e]
  have e4 : pv_J (pv_aJ h a i.toNat) = g i.toNat := by rw [e3]; exact Int64.ofInt_toInt _
  refine pw_steph hd rfl rfl ?_ (kk (by rw [e3]; exact (pv_J_rep _).1))
  unfold pv_sh
  simp only [e, pv_in_I h0 hin (by omega), if_true, pv_I_nat h0 (by omega), e4]
theorem pw_aald {a t n kd : Nat} {i t' z : Int} (hd : pv_dec M pc = some (.aaload, 1)) (hT : pv_Ty τ ρ h) (ha : τ a = some t) (ht : pv_tyA t = some (kd, n, 4, [(t', z)])) (hkd : kd = 4 ∨ kd = 5) (hn : Nat.ble n 2147483647 = true) (h0 : 0 ≤ i) (hin : i < n) (kk : τ (ρ a i.toNat) = some t'.toNat → pv_T K M (pc + 1) f (.ref (ρ a i.toNat) :: st) h Q) : pv_T K M pc f (.int (pv_I i) :: .ref a :: st) h Q := by
  obtain ⟨g, e, hf⟩ := (hT a t ha).2 _ ht
  have hn2 := Nat.le_of_ble_eq_true hn
  obtain ⟨h1, h2⟩ := hf i.toNat (show i.toNat < n by omega)
  refine pw_steph hd rfl rfl ?_ (kk (h2 _ rfl))
  unfold pv_sh
  rcases hkd with rfl | rfl
  · simp only [e, pv_in_I h0 hin (by omega), if_true, pv_I_nat h0 (by omega), h1, va_rf]
  · simp only [e, pv_in_I h0 hin (by omega), if_true, pv_I_nat h0 (by omega), h1, va_rf]
theorem pv_Ty.setA {a t : Nat} {q : Nat × Nat × Nat × List (Int × Int)} {e : pv_E} (hT : pv_Ty τ ρ h) (ha : τ a = some t) (hO : pv_tyO t = none) (ht : pv_tyA t = some q) (hv : ∀ h', h' a = some e → pv_okA τ ρ h' a q.1 q.2.1 q.2.2.1 q.2.2.2) : pv_Ty τ ρ (pv_set h a e) := by
  intro b u hb
  by_cases hba : b = a
  · subst hba
    cases ha.symm.trans hb
    refine ⟨fun q hq => ?_, fun q' hq => ?_⟩
    · rw [hO] at hq; cases hq
    · cases ht.symm.trans hq
      exact hv _ pv_set_self
  · obtain ⟨h1, h2⟩ := hT b u hb
    refine ⟨fun q hq => ?_, fun q hq => ?_⟩
    · obtain ⟨fs', e', r⟩ := h1 q hq
      exact ⟨fs', by simp only [pv_set, if_neg hba]; exact e', r⟩
    · have := h2 q hq
      unfold pv_okA at this ⊢
      simp only [pv_set, if_neg hba]
      exact this
theorem pv_Fr.setA {a t kd n kd' n' : Nat} {x x' : (Nat → Int32) ⊕ (Nat → Int64) ⊕ (Nat → UInt32) ⊕ (Nat → UInt64) ⊕ (Nat → Option Nat)} (ha : τ a = some t) (e : h a = some (.inl (kd, n, x))) : pv_Fr τ [t * 64 + 63] h (pv_set h a (.inl (kd', n', x'))) := by
  intro b u hb
  by_cases hba : b = a
  · subst hba
    cases ha.symm.trans hb
    refine ⟨fun j hj => ?_, fun hz i => absurd (List.mem_singleton.mpr rfl) hz⟩
    simp only [pv_fI, pv_fJ, pv_set_self, e, and_self]
  · exact ⟨fun j _ => ⟨(pv_set_fI hba).1, (pv_set_fI hba).2.1⟩, fun _ i => ⟨(pv_set_fI hba).2.2.1, (pv_set_fI hba).2.2.2⟩⟩
/-- an int of an array is written -/
theorem pw_iastP {a t n : Nat} {i x : Int} {pat : List (Int × Int)} (hd : pv_dec M pc = some (.iastore, 1)) (hT : pv_Ty τ ρ h) (ha : τ a = some t) (ht : pv_tyA t = some (0, n, 1, pat)) (hO : pv_tyO t = none) (hn : Nat.ble n 2147483647 = true) (h0 : 0 ≤ i) (hin : i < n) (hr : pv_r x) (hq : ∀ q, pat[i.toNat % pat.length]? = some q → q.1 ≤ x ∧ x ≤ q.2) (kk : ∀ h', pv_Ty τ ρ h' → pv_Fr τ [t * 64 + 63] h h' → (∀ b j, pv_aI h' b j = if b = a ∧ j = i.toNat then x else pv_aI h b j) → pv_T K M (pc + 1) f st h' Q) : pv_T K M pc f (.int (pv_I x) :: .int (pv_I i) :: .ref a :: st) h Q := by
  obtain ⟨g, e, hf⟩ := (hT a t ha).2 _ ht
  have hn2 := Nat.le_of_ble_eq_true hn
  refine pw_steph hd rfl rfl ?_ (kk (pv_set h a (.inl (0, n, .inl (upd g i.toNat (pv_I x))))) (hT.setA ha hO ht (fun h' e' => ⟨_, e', fun j hj q hjq => ?_⟩)) (pv_Fr.setA ha e) (fun b j => ?_))
  · unfold pv_sh
    simp only [e, pv_in_I h0 hin (by omega), if_true, pv_I_nat h0 (by omega)]
  · by_cases hji : j = i.toNat
    · subst hji
      simp only [upd, if_true, pv_I_toInt hr]
      exact hq q hjq
    · simp only [upd, if_neg hji]
      exact hf j hj q hjq
  · by_cases hba : b = a
    · subst hba
      by_cases hji : j = i.toNat
      · simp only [pv_aI, pv_set_self, upd, hji, and_self, if_true, pv_I_toInt hr]
      · simp only [pv_aI, pv_set_self, upd, hji, and_false, if_false, e]
    · rw [(pv_set_fI hba).2.2.1, if_neg (fun z => hba z.1)]
theorem pw_iast {a t n : Nat} {i x lo hi : Int} (hd : pv_dec M pc = some (.iastore, 1)) (hT : pv_Ty τ ρ h) (ha : τ a = some t) (ht : pv_tyA t = some (0, n, 1, [(lo, hi)])) (hO : pv_tyO t = none) (hn : Nat.ble n 2147483647 = true) (h0 : 0 ≤ i) (hin : i < n) (hr : pv_r x) (hx : lo ≤ x ∧ x ≤ hi) (kk : ∀ h', pv_Ty τ ρ h' → pv_Fr τ [t * 64 + 63] h h' → (∀ b j, pv_aI h' b j = if b = a ∧ j = i.toNat then x else pv_aI h b j) → pv_T K M (pc + 1) f st h' Q) : pv_T K M pc f (.int (pv_I x) :: .int (pv_I i) :: .ref a :: st) h Q := pw_iastP hd hT ha ht hO hn h0 hin hr (fun q hq => by simp [Nat.mod_one] at hq; subst hq; exact hx) kk
theorem pw_last {a t n : Nat} {i x : Int} {pat : List (Int × Int)} (hd : pv_dec M pc = some (.lastore, 1)) (hT : pv_Ty τ ρ h) (ha : τ a = some t) (ht : pv_tyA t = some (1, n, 2, pat)) (hO : pv_tyO t = none) (hn : Nat.ble n 2147483647 = true) (h0 : 0 ≤ i) (hin : i < n) (hr : pv_q x) (kk : ∀ h', pv_Ty τ ρ h' → pv_Fr τ [t * 64 + 63] h h' → (∀ b j, pv_aJ h' b j = if b = a ∧ j = i.toNat then x else pv_aJ h b j) → pv_T K M (pc + 1) f st h' Q) : pv_T K M pc f (.long (pv_J x) :: .int (pv_I i) :: .ref a :: st) h Q := by
  obtain ⟨g, e⟩ := (hT a t ha).2 _ ht
  have hn2 := Nat.le_of_ble_eq_true hn
  refine pw_steph hd rfl rfl ?_ (kk (pv_set h a (.inl (1, n, .inr (.inl (vp_updL g i.toNat (pv_J x)))))) (hT.setA ha hO ht (fun h' e' => ⟨_, e'⟩)) (pv_Fr.setA ha e) (fun b j => ?_))
  · unfold pv_sh
    simp only [e, pv_in_I h0 hin (by omega), if_true, pv_I_nat h0 (by omega)]
  · by_cases hba : b = a
    · subst hba
      by_cases hji : j = i.toNat
      · simp only [pv_aJ, pv_set_self, vp_updL, hji, and_self, if_true, pv_J_toInt hr]
      · simp only [pv_aJ, pv_set_self, vp_updL, hji, and_false, if_false, e]
    · rw [(pv_set_fI hba).2.2.2, if_neg (fun z => hba z.1)]
theorem pv_nar_byte (x : Int32) : -128 ≤ (vp_nar .byte x).toInt ∧ (vp_nar .byte x).toInt ≤ 127 := by
  show -128 ≤ (x.toInt8.toInt32).toInt ∧ (x.toInt8.toInt32).toInt ≤ 127
  rw [Int8.toInt_toInt32]
  have h1 := Int8.le_toInt x.toInt8
  have h2 := Int8.toInt_lt x.toInt8
  omega
theorem pw_bastB {a t n : Nat} {i : Int} {x : Int32} (hd : pv_dec M pc = some (.bastore, 1)) (hT : pv_Ty τ ρ h) (ha : τ a = some t) (ht : pv_tyA t = some (2, n, 1, [(-128, 127)])) (hO : pv_tyO t = none) (hn : Nat.ble n 2147483647 = true) (h0 : 0 ≤ i) (hin : i < n) (kk : ∀ h', pv_Ty τ ρ h' → pv_Fr τ [t * 64 + 63] h h' → (∀ b j, pv_aI h' b j = if b = a ∧ j = i.toNat then (vp_nar .byte x).toInt else pv_aI h b j) → pv_T K M (pc + 1) f st h' Q) : pv_T K M pc f (.int x :: .int (pv_I i) :: .ref a :: st) h Q := by
  obtain ⟨g, e, hf⟩ := (hT a t ha).2 _ ht
  have hn2 := Nat.le_of_ble_eq_true hn
  refine pw_steph hd rfl rfl ?_ (kk (pv_set h a (.inl (2, n, .inl (upd g i.toNat (vp_nar .byte x))))) (hT.setA ha hO ht (fun h' e' => ⟨_, e', fun j hj q hjq => ?_⟩)) (pv_Fr.setA ha e) (fun b j => ?_))
  · unfold pv_sh
    simp only [e, pv_in_I h0 hin (by omega), if_true, pv_I_nat h0 (by omega)]
  · by_cases hji : j = i.toNat
    · subst hji
      simp only [upd, if_true]
      simp [Nat.mod_one] at hjq
      subst hjq
      exact pv_nar_byte x
    · simp only [upd, if_neg hji]
      exact hf j hj q hjq
  · by_cases hba : b = a
    · subst hba
      by_cases hji : j = i.toNat
      · simp only [pv_aI, pv_set_self, upd, hji, and_self, if_true]
      · simp only [pv_aI, pv_set_self, upd, hji, and_false, if_false, e]
    · rw [(pv_set_fI hba).2.2.1, if_neg (fun z => hba z.1)]
theorem pw_bastZ {a t n : Nat} {i x : Int} (hd : pv_dec M pc = some (.bastore, 1)) (hT : pv_Ty τ ρ h) (ha : τ a = some t) (ht : pv_tyA t = some (3, n, 1, [(0, 1)])) (hO : pv_tyO t = none) (hn : Nat.ble n 2147483647 = true) (h0 : 0 ≤ i) (hin : i < n) (hx : x = 0 ∨ x = 1) (kk : ∀ h', pv_Ty τ ρ h' → pv_Fr τ [t * 64 + 63] h h' → (∀ b j, pv_aI h' b j = if b = a ∧ j = i.toNat then x else pv_aI h b j) → pv_T K M (pc + 1) f st h' Q) : pv_T K M pc f (.int (pv_I x) :: .int (pv_I i) :: .ref a :: st) h Q := by
  obtain ⟨g, e, hf⟩ := (hT a t ha).2 _ ht
  have hn2 := Nat.le_of_ble_eq_true hn
  have hnx : (vp_nar .boolean (pv_I x)).toInt = x := by rcases hx with rfl | rfl <;> rfl
  refine pw_steph hd rfl rfl ?_ (kk (pv_set h a (.inl (3, n, .inl (upd g i.toNat (vp_nar .boolean (pv_I x)))))) (hT.setA ha hO ht (fun h' e' => ⟨_, e', fun j hj q hjq => ?_⟩)) (pv_Fr.setA ha e) (fun b j => ?_))
  · unfold pv_sh
    simp only [e, pv_in_I h0 hin (by omega), if_true, pv_I_nat h0 (by omega)]
  · by_cases hji : j = i.toNat
    · subst hji
      simp only [upd, if_true]
      simp [Nat.mod_one] at hjq
      subst hjq
      rw [hnx]
      omega
    · simp only [upd, if_neg hji]
      exact hf j hj q hjq
  · by_cases hba : b = a
    · subst hba
      by_cases hji : j = i.toNat
      · simp only [pv_aI, pv_set_self, upd, hji, and_self, if_true, hnx]
      · simp only [pv_aI, pv_set_self, upd, hji, and_false, if_false, e]
    · rw [(pv_set_fI hba).2.2.1, if_neg (fun z => hba z.1)]
theorem pw_alen {a t n kd cd : Nat} {pat : List (Int × Int)} (hd : pv_dec M pc = some (.arraylength, 1)) (hT : pv_Ty τ ρ h) (ha : τ a = some t) (ht : pv_tyA t = some (kd, n, cd, pat)) (hkd : (kd = 0 ∧ cd = 1) ∨ (kd = 1 ∧ cd = 2)) (kk : pv_T K M (pc + 1) f (.int (pv_I n) :: st) h Q) : pv_T K M pc f (.ref a :: st) h Q := by
  have h1 := (hT a t ha).2 _ ht
  have e5 : Int32.ofNat n = pv_I (n : Int) := (Int32.ofInt_eq_ofNat).symm
  rcases hkd with ⟨rfl, rfl⟩ | ⟨rfl, rfl⟩
  · obtain ⟨g, e, -⟩ := h1
    refine pw_steph hd rfl rfl ?_ kk
    unfold pv_sh
    simp only [e, e5]
  · obtain ⟨g, e⟩ := h1
    refine pw_steph hd rfl rfl ?_ kk
    unfold pv_sh
    simp only [e, e5]
theorem pw_ialdB {a t n : Nat} {i : Int} {pat : List (Int × Int)} (hd : pv_dec M pc = some (.iaload, 1)) (hT : pv_Ty τ ρ h) (ha : τ a = some t) (ht : pv_tyA t = some (0, n, 3, pat)) (hn : Nat.ble n 2147483647 = true) (h0 : 0 ≤ i) (hin : i < n) (kk : pv_wb pat i (pv_aI h a i.toNat) → pv_T K M (pc + 1) f (.int (pv_I (pv_aI h a i.toNat)) :: st) h Q) : pv_T K M pc f (.int (pv_I i) :: .ref a :: st) h Q := by
  obtain ⟨g, e, hf⟩ := (hT a t ha).2 _ ht
  have hn2 := Nat.le_of_ble_eq_true hn
  have h1 := hf i.toNat (show i.toNat < n by omega)
  have e3 : pv_aI h a i.toNat = (g i.toNat).toInt := by simp only [pv_aI, e]
  have e4 : pv_I (pv_aI h a i.toNat) = g i.toNat := by rw [e3]; exact Int32.ofInt_toInt _
  rw [show ((i.toNat : Nat) : Int) = i by omega] at h1
  refine pw_steph hd rfl rfl ?_ (kk (by rw [e3]; exact h1))
  unfold pv_sh
  simp only [e, pv_in_I h0 hin (by omega), if_true, pv_I_nat h0 (by omega), e4]
theorem pw_iastB {a t n : Nat} {i x : Int} {pat : List (Int × Int)} (hd : pv_dec M pc = some (.iastore, 1)) (hT : pv_Ty τ ρ h) (ha : τ a = some t) (ht : pv_tyA t = some (0, n, 3, pat)) (hO : pv_tyO t = none) (hn : Nat.ble n 2147483647 = true) (h0 : 0 ≤ i) (hin : i < n) (hr : pv_r x) (hq : pv_wb pat i x) (kk : ∀ h', pv_Ty τ ρ h' → pv_Fr τ [t * 64 + 63] h h' → (∀ b j, pv_aI h' b j = if b = a ∧ j = i.toNat then x else pv_aI h b j) → pv_T K M (pc + 1) f st h' Q) : pv_T K M pc f (.int (pv_I x) :: .int (pv_I i) :: .ref a :: st) h Q := by
  obtain ⟨g, e, hf⟩ := (hT a t ha).2 _ ht
  have hn2 := Nat.le_of_ble_eq_true hn
  refine pw_steph hd rfl rfl ?_ (kk (pv_set h a (.inl (0, n, .inl (upd g i.toNat (pv_I x))))) (hT.setA ha hO ht (fun h' e' => ⟨_, e', fun j hj => ?_⟩)) (pv_Fr.setA ha e) (fun b j => ?_))
  · unfold pv_sh
    simp only [e, pv_in_I h0 hin (by omega), if_true, pv_I_nat h0 (by omega)]
  · by_cases hji : j = i.toNat
    · subst hji
      simp only [upd, if_true, pv_I_toInt hr]
      rw [show ((i.toNat : Nat) : Int) = i by omega]
      exact hq
    · simp only [upd, if_neg hji]
      exact hf j hj
  · by_cases hba : b = a
    · subst hba
      by_cases hji : j = i.toNat
      · simp only [pv_aI, pv_set_self, upd, hji, and_self, if_true, pv_I_toInt hr]
      · simp only [pv_aI, pv_set_self, upd, hji, and_false, if_false, e]
    · rw [(pv_set_fI hba).2.2.1, if_neg (fun z => hba z.1)]
theorem pw_callVa {M' ci np mL' t b : Nat} {fts : List (Nat × Int × Int)} {as : List Value} {Q' : Option Value → pv_H → Prop} {idx : Nat} (hd : pv_dec M pc = some (.invokevirtual idx, 3)) (hk : pv_kV M idx M' ci np mL') (hT : pv_Ty τ ρ h) (hb : τ b = some t) (ht : pv_tyO t = some (ci, fts)) (hn : as.length = np) (hr : Nat.ble (st.map fun v => v.category).sum 8 = true) (hsl : Nat.ble (lg_sl (.ref b :: as)).length mL' = true) (hc : pv_C K M' (.ref b :: as) h Q') (kk : ∀ z h', Q' z h' → pv_T K M (pc + 3) f (z.toList ++ st) h' Q) : pv_T K M pc f (as.reverse ++ .ref b :: st) h Q := by
  obtain ⟨fs, e, -⟩ := (hT b t hb).1 _ ht
  obtain ⟨y, hy, hc1, hc2⟩ := hk
  simp only [pv_cV, pv_cB, pv_rk, Bool.and_eq_true, decide_eq_true_eq] at hc1 hc2
  obtain ⟨⟨⟨⟨⟨⟨⟨⟨⟨⟨⟨⟨⟨k3, k4⟩, c1⟩, c2⟩, c3⟩, c6⟩, c7⟩, c8⟩, k7⟩, k1⟩, k2⟩, k5⟩, c9⟩, c10⟩ := hc1
  have k6 : pv_okV M M' = true := by
    simp only [pv_okV, pv_okB, Bool.and_eq_true, decide_eq_true_eq]
    exact ⟨⟨⟨⟨⟨⟨⟨⟨⟨c1, c2⟩, c3⟩, hc2.1⟩, by rw [k7]; exact hc2.2⟩, c6⟩, c7⟩, c8⟩, c9⟩, c10⟩
  refine pw_call hd rfl rfl ?_ rfl ?_ hc kk
  · unfold pv_sh
    simp only [hy, k1, k2, if_false]
  · have hnp : as.reverse.length = pv_np M' := by rw [List.length_reverse, hn, k4]
    have e1 : (as.reverse ++ .ref b :: st).drop (pv_np M') = .ref b :: st := by rw [← hnp, List.drop_left]
    have e2 : (as.reverse ++ .ref b :: st).take (pv_np M') = as.reverse := by rw [← hnp, List.take_left]
    unfold pv_cs
    simp only [hy, k3, e1, e2, e, List.reverse_reverse]
    rw [if_pos ⟨k5, k6, Nat.le_of_ble_eq_true hr, hnp, by rw [k7]; exact Nat.le_of_ble_eq_true hsl⟩]
theorem pw_callSa {M' np mL' : Nat} {as : List Value} {Q' : Option Value → pv_H → Prop} {idx : Nat} (hd : pv_dec M pc = some (.invokestatic idx, 3)) (hk : pv_kS M idx M' np mL') (hn : as.length = np) (hr : Nat.ble (st.map fun v => v.category).sum 8 = true) (hsl : Nat.ble (lg_sl as).length mL' = true) (hc : pv_C K M' as h Q') (kk : ∀ z h', Q' z h' → pv_T K M (pc + 3) f (z.toList ++ st) h' Q) : pv_T K M pc f (as.reverse ++ st) h Q := by
  obtain ⟨y, o, hy, hc1, hc2⟩ := hk
  simp only [pv_cS, pv_cB, pv_rk, Bool.and_eq_true, decide_eq_true_eq] at hc1 hc2
  obtain ⟨⟨⟨⟨⟨⟨⟨⟨⟨⟨⟨⟨⟨k3, k4⟩, c1⟩, c2⟩, c3⟩, c6⟩, c7⟩, c8⟩, k7⟩, k1⟩, l1⟩, l2⟩, l3⟩, c9⟩ := hc1
  have k6 : pv_okS M M' = true := by
    simp only [pv_okS, pv_okB, Bool.and_eq_true, decide_eq_true_eq]
    exact ⟨⟨⟨⟨⟨⟨⟨⟨c1, c2⟩, c3⟩, hc2.1⟩, by rw [k7]; exact hc2.2⟩, c6⟩, c7⟩, c8⟩, c9⟩
  refine pw_call hd rfl rfl ?_ rfl ?_ hc kk
  · unfold pv_sh
    cases o with
    | none => simp only [hy, k1, l1, l2, l3, false_and, if_false]
    | some z => simp only [hy]
  · have hnp : as.reverse.length = pv_np M' := by rw [List.length_reverse, hn, k4]
    have e1 : (as.reverse ++ st).drop (pv_np M') = st := by rw [← hnp, List.drop_left]
    have e2 : (as.reverse ++ st).take (pv_np M') = as.reverse := by rw [← hnp, List.take_left]
    unfold pv_cs
    simp only [hy, k3, e1, e2, List.reverse_reverse]
    rw [if_pos ⟨k6, Nat.le_of_ble_eq_true hr, hnp, by rw [k7]; exact Nat.le_of_ble_eq_true hsl⟩]
theorem pw_name {x : Int} (k : ∀ z, z = x → pv_T K M pc f (.int (pv_I z) :: st) h Q) : pv_T K M pc f (.int (pv_I x) :: st) h Q := k x rfl
theorem pw_namel {x : Int} (k : ∀ z, z = x → pv_T K M pc f (.long (pv_J z) :: st) h Q) : pv_T K M pc f (.long (pv_J x) :: st) h Q := k x rfl
theorem pv_mu (x : Int) : x < ((x + 1).toNat : Nat) := by omega
theorem pw_lookIn {x d off : Int} {ps : Array (Int × Int)} {len t : Nat} (hd : pv_dec M pc = some (.lookupswitch d ps, len)) (hx : pv_r x) (hp : (ps.toList.zip (ps.toList.drop 1)).all (fun (a, next) => a.1 < next.1) = true) (ho : Op.lookupswitch.offset ps.toList d x = off) (ht : pv_tg pc off = some t) (k : pv_T K M t f st h Q) : pv_T K M pc f (.int (pv_I x) :: st) h Q := pw_step hd rfl (by simp only [pv_sp]; rw [if_pos hp, pv_I_toInt hx, ho, ht]) k
theorem pv_dec_of {M pc : Nat} {c : ByteArray} {q : Instr × Nat} (hb : pv_bc M = c) (hd : decode c pc = .ok q) : pv_dec M pc = some q := by
  unfold pv_dec
  rw [hb, hd]
theorem pv_bcof {M i : Nat} {c : ByteArray} (h : pv_ms[M]?.map (fun q => q.2.1) = some c) : pv_bc M = c := by
  unfold pv_bc
  cases hq : pv_ms[M]? with
  | none => rw [hq] at h; cases h
  | some q => rw [hq] at h; cases h; rfl
theorem pw_callV0 {M' ci mL' t b : Nat} {fts : List (Nat × Int × Int)} {Q' : Option Value → pv_H → Prop} {idx : Nat} (hd : pv_dec M pc = some (.invokevirtual idx, 3)) (hk : pv_kV M idx M' ci 0 mL') (hT : pv_Ty τ ρ h) (hb : τ b = some t) (ht : pv_tyO t = some (ci, fts)) (hr : Nat.ble (st.map fun v => v.category).sum 8 = true) (hsl : Nat.ble (lg_sl ([.ref b] : List Value)).length mL' = true) (hc : pv_C K M' [.ref b] h Q') (kk : ∀ z h', Q' z h' → pv_T K M (pc + 3) f (z.toList ++ st) h' Q) : pv_T K M pc f (.ref b :: st) h Q := pw_callVa (as := []) hd hk hT hb ht rfl hr hsl hc kk
theorem pw_callV1 {M' ci mL' t b : Nat} {fts : List (Nat × Int × Int)} {v1 : Value} {Q' : Option Value → pv_H → Prop} {idx : Nat} (hd : pv_dec M pc = some (.invokevirtual idx, 3)) (hk : pv_kV M idx M' ci 1 mL') (hT : pv_Ty τ ρ h) (hb : τ b = some t) (ht : pv_tyO t = some (ci, fts)) (hr : Nat.ble (st.map fun v => v.category).sum 8 = true) (hsl : Nat.ble (lg_sl ([.ref b, v1] : List Value)).length mL' = true) (hc : pv_C K M' [.ref b, v1] h Q') (kk : ∀ z h', Q' z h' → pv_T K M (pc + 3) f (z.toList ++ st) h' Q) : pv_T K M pc f (v1 :: .ref b :: st) h Q := pw_callVa (as := [v1]) hd hk hT hb ht rfl hr hsl hc kk
theorem pw_callS1 {M' mL' : Nat} {v1 : Value} {Q' : Option Value → pv_H → Prop} {idx : Nat} (hd : pv_dec M pc = some (.invokestatic idx, 3)) (hk : pv_kS M idx M' 1 mL') (hr : Nat.ble (st.map fun v => v.category).sum 8 = true) (hsl : Nat.ble (lg_sl ([v1] : List Value)).length mL' = true) (hc : pv_C K M' [v1] h Q') (kk : ∀ z h', Q' z h' → pv_T K M (pc + 3) f (z.toList ++ st) h' Q) : pv_T K M pc f (v1 :: st) h Q := pw_callSa (as := [v1]) hd hk rfl hr hsl hc kk
theorem pw_callV2 {M' ci mL' t b : Nat} {fts : List (Nat × Int × Int)} {v1 v2 : Value} {Q' : Option Value → pv_H → Prop} {idx : Nat} (hd : pv_dec M pc = some (.invokevirtual idx, 3)) (hk : pv_kV M idx M' ci 2 mL') (hT : pv_Ty τ ρ h) (hb : τ b = some t) (ht : pv_tyO t = some (ci, fts)) (hr : Nat.ble (st.map fun v => v.category).sum 8 = true) (hsl : Nat.ble (lg_sl ([.ref b, v1, v2] : List Value)).length mL' = true) (hc : pv_C K M' [.ref b, v1, v2] h Q') (kk : ∀ z h', Q' z h' → pv_T K M (pc + 3) f (z.toList ++ st) h' Q) : pv_T K M pc f (v2 :: v1 :: .ref b :: st) h Q := pw_callVa (as := [v1, v2]) hd hk hT hb ht rfl hr hsl hc kk
theorem pw_callS2 {M' mL' : Nat} {v1 v2 : Value} {Q' : Option Value → pv_H → Prop} {idx : Nat} (hd : pv_dec M pc = some (.invokestatic idx, 3)) (hk : pv_kS M idx M' 2 mL') (hr : Nat.ble (st.map fun v => v.category).sum 8 = true) (hsl : Nat.ble (lg_sl ([v1, v2] : List Value)).length mL' = true) (hc : pv_C K M' [v1, v2] h Q') (kk : ∀ z h', Q' z h' → pv_T K M (pc + 3) f (z.toList ++ st) h' Q) : pv_T K M pc f (v2 :: v1 :: st) h Q := pw_callSa (as := [v1, v2]) hd hk rfl hr hsl hc kk
theorem pw_callV3 {M' ci mL' t b : Nat} {fts : List (Nat × Int × Int)} {v1 v2 v3 : Value} {Q' : Option Value → pv_H → Prop} {idx : Nat} (hd : pv_dec M pc = some (.invokevirtual idx, 3)) (hk : pv_kV M idx M' ci 3 mL') (hT : pv_Ty τ ρ h) (hb : τ b = some t) (ht : pv_tyO t = some (ci, fts)) (hr : Nat.ble (st.map fun v => v.category).sum 8 = true) (hsl : Nat.ble (lg_sl ([.ref b, v1, v2, v3] : List Value)).length mL' = true) (hc : pv_C K M' [.ref b, v1, v2, v3] h Q') (kk : ∀ z h', Q' z h' → pv_T K M (pc + 3) f (z.toList ++ st) h' Q) : pv_T K M pc f (v3 :: v2 :: v1 :: .ref b :: st) h Q := pw_callVa (as := [v1, v2, v3]) hd hk hT hb ht rfl hr hsl hc kk
theorem pw_callS3 {M' mL' : Nat} {v1 v2 v3 : Value} {Q' : Option Value → pv_H → Prop} {idx : Nat} (hd : pv_dec M pc = some (.invokestatic idx, 3)) (hk : pv_kS M idx M' 3 mL') (hr : Nat.ble (st.map fun v => v.category).sum 8 = true) (hsl : Nat.ble (lg_sl ([v1, v2, v3] : List Value)).length mL' = true) (hc : pv_C K M' [v1, v2, v3] h Q') (kk : ∀ z h', Q' z h' → pv_T K M (pc + 3) f (z.toList ++ st) h' Q) : pv_T K M pc f (v3 :: v2 :: v1 :: st) h Q := pw_callSa (as := [v1, v2, v3]) hd hk rfl hr hsl hc kk
theorem pw_callV4 {M' ci mL' t b : Nat} {fts : List (Nat × Int × Int)} {v1 v2 v3 v4 : Value} {Q' : Option Value → pv_H → Prop} {idx : Nat} (hd : pv_dec M pc = some (.invokevirtual idx, 3)) (hk : pv_kV M idx M' ci 4 mL') (hT : pv_Ty τ ρ h) (hb : τ b = some t) (ht : pv_tyO t = some (ci, fts)) (hr : Nat.ble (st.map fun v => v.category).sum 8 = true) (hsl : Nat.ble (lg_sl ([.ref b, v1, v2, v3, v4] : List Value)).length mL' = true) (hc : pv_C K M' [.ref b, v1, v2, v3, v4] h Q') (kk : ∀ z h', Q' z h' → pv_T K M (pc + 3) f (z.toList ++ st) h' Q) : pv_T K M pc f (v4 :: v3 :: v2 :: v1 :: .ref b :: st) h Q := pw_callVa (as := [v1, v2, v3, v4]) hd hk hT hb ht rfl hr hsl hc kk
theorem pw_callS4 {M' mL' : Nat} {v1 v2 v3 v4 : Value} {Q' : Option Value → pv_H → Prop} {idx : Nat} (hd : pv_dec M pc = some (.invokestatic idx, 3)) (hk : pv_kS M idx M' 4 mL') (hr : Nat.ble (st.map fun v => v.category).sum 8 = true) (hsl : Nat.ble (lg_sl ([v1, v2, v3, v4] : List Value)).length mL' = true) (hc : pv_C K M' [v1, v2, v3, v4] h Q') (kk : ∀ z h', Q' z h' → pv_T K M (pc + 3) f (z.toList ++ st) h' Q) : pv_T K M pc f (v4 :: v3 :: v2 :: v1 :: st) h Q := pw_callSa (as := [v1, v2, v3, v4]) hd hk rfl hr hsl hc kk
theorem pw_callV5 {M' ci mL' t b : Nat} {fts : List (Nat × Int × Int)} {v1 v2 v3 v4 v5 : Value} {Q' : Option Value → pv_H → Prop} {idx : Nat} (hd : pv_dec M pc = some (.invokevirtual idx, 3)) (hk : pv_kV M idx M' ci 5 mL') (hT : pv_Ty τ ρ h) (hb : τ b = some t) (ht : pv_tyO t = some (ci, fts)) (hr : Nat.ble (st.map fun v => v.category).sum 8 = true) (hsl : Nat.ble (lg_sl ([.ref b, v1, v2, v3, v4, v5] : List Value)).length mL' = true) (hc : pv_C K M' [.ref b, v1, v2, v3, v4, v5] h Q') (kk : ∀ z h', Q' z h' → pv_T K M (pc + 3) f (z.toList ++ st) h' Q) : pv_T K M pc f (v5 :: v4 :: v3 :: v2 :: v1 :: .ref b :: st) h Q := pw_callVa (as := [v1, v2, v3, v4, v5]) hd hk hT hb ht rfl hr hsl hc kk
theorem pw_callS5 {M' mL' : Nat} {v1 v2 v3 v4 v5 : Value} {Q' : Option Value → pv_H → Prop} {idx : Nat} (hd : pv_dec M pc = some (.invokestatic idx, 3)) (hk : pv_kS M idx M' 5 mL') (hr : Nat.ble (st.map fun v => v.category).sum 8 = true) (hsl : Nat.ble (lg_sl ([v1, v2, v3, v4, v5] : List Value)).length mL' = true) (hc : pv_C K M' [v1, v2, v3, v4, v5] h Q') (kk : ∀ z h', Q' z h' → pv_T K M (pc + 3) f (z.toList ++ st) h' Q) : pv_T K M pc f (v5 :: v4 :: v3 :: v2 :: v1 :: st) h Q := pw_callSa (as := [v1, v2, v3, v4, v5]) hd hk rfl hr hsl hc kk
end PY
