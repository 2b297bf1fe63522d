/-- the words that every method has -/
def pv_big : List Cond := lw_tbl.filter goodWord
def pv_wsM (M : Nat) : List Cond := Cond.code (pv_y M) (pv_bc M) (pv_mL M) (pv_rt M) :: pv_big
abbrev pv_rmM (M : Nat) : Room := { frames := pv_fr M, cells := 0, slots := 0, locals := pv_lo M }
theorem pv_bigmem {w : Cond} (h : w ∈ lw_tbl) (hg : goodWord w = true) : w ∈ pv_big := List.mem_filter.mpr ⟨h, hg⟩
theorem pv_gf_spec {M idx ci k : Nat} (h : pv_gf M idx = some (ci, k)) : ∃ q : vw_C, pv_cls[ci]? = some q ∧ k < q.2.2 ∧ Cond.fieldLink (pv_own M) idx (q.2.1 k).1 (q.2.1 k).2.1 (q.2.1 k).2.2.1 ∈ lw_tbl := by
  obtain ⟨w, hw, he⟩ := List.exists_of_findSome?_eq_some h
  split at he
  · rename_i o i r n d
    split at he
    · rename_i hc
      obtain ⟨hc1, hc2⟩ := hc
      subst hc1
      subst hc2
      cases hf : pv_find r with
      | none => rw [hf] at he; cases he
      | some cj =>
        rw [hf] at he
        simp only [Option.bind_some] at he
        split at he
        · rename_i q hq
          cases hk : (List.range q.2.2).find? fun k => decide (q.2.1 k = (r, n, d, (q.2.1 k).2.2.2)) with
          | none => rw [hk] at he; cases he
          | some k' =>
            rw [hk] at he
            simp only [Option.map_some, Option.some.injEq, Prod.mk.injEq] at he
            obtain ⟨rfl, rfl⟩ := he
            have h1 := List.find?_some hk
            have h2 := List.mem_of_find?_eq_some hk
            simp only [decide_eq_true_eq] at h1
            refine ⟨q, hq, List.mem_range.mp h2, ?_⟩
            rw [h1]
            exact hw
        · cases he
    · cases he
  · cases he
theorem pv_kc_spec {M idx : Nat} {v : Int32} (h : pv_kc M idx = some v) : Cond.constant (pv_own M) idx v ∈ lw_tbl := by
  obtain ⟨w, hw, he⟩ := List.exists_of_findSome?_eq_some h
  split at he
  · split at he
    · rename_i hc
      obtain ⟨hc1, hc2⟩ := hc
      subst hc1
      subst hc2
      cases he
      exact hw
    · cases he
  · cases he
theorem pv_kd_spec {M idx : Nat} {v : Int64} (h : pv_kd M idx = some v) : Cond.constantLong (pv_own M) idx v ∈ lw_tbl := by
  obtain ⟨w, hw, he⟩ := List.exists_of_findSome?_eq_some h
  split at he
  · split at he
    · rename_i hc
      obtain ⟨hc1, hc2⟩ := hc
      subst hc1
      subst hc2
      cases he
      exact hw
    · cases he
  · cases he
theorem pv_ml_spec {M idx : Nat} {y : MethodName} {o : Option String} (h : pv_ml M idx = some (y, o)) : (o = none ∧ Cond.methodLink (pv_own M) idx y ∈ lw_tbl) ∨ ∃ z, o = some z ∧ Cond.methodLinkNest (pv_own M) idx y z ∈ lw_tbl := by
  obtain ⟨w, hw, he⟩ := List.exists_of_findSome?_eq_some h
  split at he
  · split at he
    · rename_i hc
      obtain ⟨hc1, hc2⟩ := hc
      subst hc1
      subst hc2
      cases he
      exact Or.inl ⟨rfl, hw⟩
    · cases he
  · split at he
    · rename_i hc
      obtain ⟨hc1, hc2⟩ := hc
      subst hc1
      subst hc2
      cases he
      exact Or.inr ⟨_, rfl, hw⟩
    · cases he
  · cases he
theorem pv_lays_good (C : String) (T : u_T) (k : Nat) : goodWord (u_lay C T k) = true := by
  unfold u_lay
  split <;> rfl
theorem pv_cls_big {ci : Nat} {q : vw_C} (h : pv_cls[ci]? = some q) : ∀ w ∈ u_ws q.1 q.2.1 q.2.2, w ∈ pv_big := by
  intro w hw
  refine pv_bigmem ((pv_clsok ci q h).1 w hw) ?_
  obtain ⟨k, -, rfl⟩ := List.mem_map.mp hw
  exact pv_lays_good _ _ _
/-- cells -/
def pv_c (dA : Nat → ClassId) (e : pv_E) : va_E := match e with
  | .inl x => .inl (dA x.1, x.2)
  | .inr o => .inr o
def pv_R (dA : Nat → ClassId) (h : pv_H) (ws : va_W) : Prop := ∀ a e, h a = some e → ∃ k : Nat, ws[k]? = some (a, pv_c dA e)
theorem pv_R.set {dA : Nat → ClassId} {h : pv_H} {ws : va_W} {A : Nat → Prop} {a q0 : Nat} {e0 : va_E} {e : pv_E} (hR : pv_R dA h ws) (hD : va_D A ws) (h0 : ws[q0]? = some (a, e0)) : pv_R dA (pv_set h a e) (ws.set q0 (a, pv_c dA e)) := by
  have hl := (List.getElem?_eq_some_iff.mp h0).1
  intro b e' hb
  unfold pv_set at hb
  by_cases hba : b = a
  · rw [if_pos hba] at hb
    cases hb
    subst hba
    exact ⟨q0, List.getElem?_set_self hl⟩
  · rw [if_neg hba] at hb
    obtain ⟨k, hk⟩ := hR b e' hb
    refine ⟨k, ?_⟩
    rw [List.getElem?_set_ne (fun z => ?_)]
    · exact hk
    · subst z
      rw [h0] at hk
      cases hk
      exact hba rfl
theorem pv_in_spec {j : Int32} {n : Nat} (h : pv_in j n = true) : vp_in j n := by
  simp only [pv_in, Bool.and_eq_true, decide_eq_true_eq] at h
  intro z
  rcases z with z | z
  · exact h.1 z
  · omega
/-- what a method finds besides its cells -/
def pv_Wd (K adV : Nat → Nat) (dC : Nat → ClassId) (dI : Nat → Nat → Nat) (dA : Nat → ClassId) (A : Nat → Prop) (U : State) : Prop :=
  va_K (dC, dI) pv_cls (pv_tys dA) U ∧ vk_S 9 pv_len pv_byt K adV A U U.heap ∧ (∀ M idx k, pv_ks M idx = some k → ∃ tx, vk_R (pv_own M) idx tx (K k) U) ∧ (∀ o i y z, Cond.methodLinkNest o i y z ∈ lw_tbl → va_Nw (.methodLinkNest o i y z) U) ∧ va_Z "java/lang/String" "COMPACT_STRINGS" "Z" (.int 1) A U U.heap ∧ va_Zq "jdk/internal/util/Preconditions" "SIOOBE_FORMATTER" "Ljava/util/function/BiFunction;" A U U.heap
def pv_Act (K adV : Nat → Nat) (dC : Nat → ClassId) (dI : Nat → Nat → Nat) (dA : Nat → ClassId) (A : Nat → Prop) (M : Nat) (p : Program) (s : State) (m : MethodId) (args : Array Value) (meth : Method) (c : Code) : Prop :=
  p.tables.exec = Jvm.exec ∧ c.code = pv_bc M ∧ meth.sig.returnType = pv_rt M ∧ meth.locks = false ∧ c.maxLocals = pv_mL M ∧ s.vm.findClass (pv_own M) = some m.cls ∧ (∀ w ∈ pv_big, w.before args s = true) ∧ pv_Wd K adV dC dI dA A s
