theorem pv_tg_spec {pc : Nat} {o : Int} {t : Nat} (h : pv_tg pc o = some t) : (pc : Int) + o = (t : Int) := by
  unfold pv_tg at h
  split at h
  · rename_i t' ht
    cases h
    exact ht
  · cases h
/-- the real locals hold what the plain ones say -/
def pv_L (f : pv_F) (ls : Array Slot) (nL : Nat) : Prop := ls.size = nL ∧ lv_wf ls ∧ ∀ i v, f i = some v → ls[i]? = some (.val v)
def pv_ps (f : pv_F) (nL : Nat) : List (Nat × Value) := (List.range nL).filterMap fun i => (f i).map fun v => (i, v)
theorem pv_L.lt {f : pv_F} {ls : Array Slot} {nL i : Nat} {v : Value} (h : pv_L f ls nL) (hf : f i = some v) : i < nL := by
  have := h.2.2 i v hf
  have h2 := (Array.getElem?_eq_some_iff.mp this).1
  rw [h.1] at h2
  exact h2
theorem pv_L.mem {f : pv_F} {ls : Array Slot} {nL i : Nat} {v : Value} (h : pv_L f ls nL) (hf : f i = some v) : (i, v) ∈ pv_ps f nL := List.mem_filterMap.mpr ⟨i, List.mem_range.mpr (h.lt hf), by rw [hf]; rfl⟩
theorem pv_L.has {f : pv_F} {ls : Array Slot} {nL : Nat} (h : pv_L f ls nL) : lv_has ls nL (pv_ps f nL) := by
  refine ⟨h.1, h.2.1, fun q hq => ?_⟩
  obtain ⟨i, hi, e⟩ := List.mem_filterMap.mp hq
  cases hv : f i with
  | none => rw [hv] at e; cases e
  | some v => rw [hv] at e; cases e; exact h.2.2 _ _ hv
theorem pv_L.up1 {f : pv_F} {ls ls' : Array Slot} {nL i : Nat} {v : Value} (h : pv_L f ls nL) (h' : lv_has ls' nL ((i, v) :: (pv_ps f nL).filter (fun q => !(q.1 == i) && !(q.1 + 1 == i && q.2.category == 2)))) : pv_L (pv_up1 f i v) ls' nL := by
  refine ⟨h'.1, h'.2.1, fun j w hw => ?_⟩
  unfold pv_up1 at hw
  by_cases hj : j = i
  · rw [if_pos hj] at hw
    cases hw
    subst hj
    exact h'.2.2 (j, v) List.mem_cons_self
  · rw [if_neg hj] at hw
    split at hw
    · rename_i w' hw'
      split at hw
      · cases hw
      · rename_i hn
        cases hw
        refine h'.2.2 (j, w) (List.mem_cons_of_mem _ (List.mem_filter.mpr ⟨h.mem hw', ?_⟩))
        simp only [Bool.and_eq_true, Bool.not_eq_true', beq_eq_false_iff_ne, ne_eq, hj, not_false_eq_true, true_and]
        cases hb : (j + 1 == i && w.category == 2) with
        | false => rfl
        | true =>
          simp only [Bool.and_eq_true, beq_iff_eq] at hb
          exact absurd hb hn
    · cases hw
theorem pv_L.up2 {f : pv_F} {ls ls' : Array Slot} {nL i : Nat} {v : Value} (h : pv_L f ls nL) (h' : lv_has ls' nL ((i, v) :: (pv_ps f nL).filter (fun q => !(q.1 == i) && (!(q.1 == i + 1) && !(q.1 + 1 == i && q.2.category == 2))))) : pv_L (pv_up2 f i v) ls' nL := by
  refine ⟨h'.1, h'.2.1, fun j w hw => ?_⟩
  unfold pv_up2 at hw
  by_cases hj : j = i
  · rw [if_pos hj] at hw
    cases hw
    subst hj
    exact h'.2.2 (j, v) List.mem_cons_self
  · rw [if_neg hj] at hw
    by_cases hj1 : j = i + 1
    · rw [if_pos hj1] at hw
      cases hw
    rw [if_neg hj1] at hw
    split at hw
    · rename_i w' hw'
      split at hw
      · cases hw
      · rename_i hn
        cases hw
        refine h'.2.2 (j, w) (List.mem_cons_of_mem _ (List.mem_filter.mpr ⟨h.mem hw', ?_⟩))
        simp only [Bool.and_eq_true, Bool.not_eq_true', beq_eq_false_iff_ne, ne_eq, hj, hj1, not_false_eq_true, true_and]
        cases hb : (j + 1 == i && w.category == 2) with
        | false => rfl
        | true =>
          simp only [Bool.and_eq_true, beq_iff_eq] at hb
          exact absurd hb hn
    · cases hw
section SP
variable {p : Program} {l : Launch} {e : Env} {R : Room} {s : State} {m : MethodId} {args : Array Value} {below : List Frame} {meth : Method} {c : Code} {H : Heap} {locs : List Loc} {cells slots : Nat} {Q : State → Prop}
set_option maxHeartbeats 8000000 in
set_option maxRecDepth 20000 in
theorem pv_simP {cc : ByteArray} {pc pc' len nL : Nat} {f f' : pv_F} {st st' : List Value} {i : Instr} {ls : Array Slot} (hx : p.tables.exec = Jvm.exec) (hb : c.code = cc) (hdg : decode cc pc = .ok (i, len)) (hlen : pv_ln i len = true) (hs : pv_sp nL pc f i st = some (pc', f', st')) (hl : pv_L f ls nL)
    (k : ∀ ls', pv_L f' ls' nL → W p l e R s m args below meth c H locs cells slots Q (F0 m pc' ls' st')) : W p l e R s m args below meth c H locs cells slots Q (F0 m pc ls st) := by
  cases i with
  | iadd =>
    simp only [pv_sp] at hs
    split at hs
    · simp only [Option.some.injEq, Prod.mk.injEq] at hs
      obtain ⟨rfl, rfl, rfl⟩ := hs
      obtain rfl : len = 1 := by simpa [pv_ln] using hlen
      exact lv_iadd hx hb hdg (k _ hl)
    · cases hs
  | isub =>
    simp only [pv_sp] at hs
    split at hs
    · simp only [Option.some.injEq, Prod.mk.injEq] at hs
      obtain ⟨rfl, rfl, rfl⟩ := hs
      obtain rfl : len = 1 := by simpa [pv_ln] using hlen
      exact lv_isub hx hb hdg (k _ hl)
    · cases hs
  | imul =>
    simp only [pv_sp] at hs
    split at hs
    · simp only [Option.some.injEq, Prod.mk.injEq] at hs
      obtain ⟨rfl, rfl, rfl⟩ := hs
      obtain rfl : len = 1 := by simpa [pv_ln] using hlen
      exact lv_imul hx hb hdg (k _ hl)
    · cases hs
  | iand =>
    simp only [pv_sp] at hs
    split at hs
    · simp only [Option.some.injEq, Prod.mk.injEq] at hs
      obtain ⟨rfl, rfl, rfl⟩ := hs
      obtain rfl : len = 1 := by simpa [pv_ln] using hlen
      exact lv_iand hx hb hdg (k _ hl)
    · cases hs
  | ior =>
    simp only [pv_sp] at hs
    split at hs
    · simp only [Option.some.injEq, Prod.mk.injEq] at hs
      obtain ⟨rfl, rfl, rfl⟩ := hs
      obtain rfl : len = 1 := by simpa [pv_ln] using hlen
      exact lv_ior hx hb hdg (k _ hl)
    · cases hs
  | ixor =>
    simp only [pv_sp] at hs
    split at hs
    · simp only [Option.some.injEq, Prod.mk.injEq] at hs
      obtain ⟨rfl, rfl, rfl⟩ := hs
      obtain rfl : len = 1 := by simpa [pv_ln] using hlen
      exact lv_ixor hx hb hdg (k _ hl)
    · cases hs
  | ishl =>
    simp only [pv_sp] at hs
    split at hs
    · simp only [Option.some.injEq, Prod.mk.injEq] at hs
      obtain ⟨rfl, rfl, rfl⟩ := hs
      obtain rfl : len = 1 := by simpa [pv_ln] using hlen
      exact lv_ishl hx hb hdg (k _ hl)
    · cases hs
  | ishr =>
    simp only [pv_sp] at hs
    split at hs
    · simp only [Option.some.injEq, Prod.mk.injEq] at hs
      obtain ⟨rfl, rfl, rfl⟩ := hs
      obtain rfl : len = 1 := by simpa [pv_ln] using hlen
      exact lv_ishr hx hb hdg (k _ hl)
    · cases hs
  | ineg =>
    simp only [pv_sp] at hs
    split at hs
    · simp only [Option.some.injEq, Prod.mk.injEq] at hs
      obtain ⟨rfl, rfl, rfl⟩ := hs
      obtain rfl : len = 1 := by simpa [pv_ln] using hlen
      exact lv_ineg hx hb hdg (k _ hl)
    · cases hs
  | ladd =>
    simp only [pv_sp] at hs
    split at hs
    · simp only [Option.some.injEq, Prod.mk.injEq] at hs
      obtain ⟨rfl, rfl, rfl⟩ := hs
      obtain rfl : len = 1 := by simpa [pv_ln] using hlen
      exact lv_ladd hx hb hdg (k _ hl)
    · cases hs
  | lsub =>
    simp only [pv_sp] at hs
    split at hs
    · simp only [Option.some.injEq, Prod.mk.injEq] at hs
      obtain ⟨rfl, rfl, rfl⟩ := hs
      obtain rfl : len = 1 := by simpa [pv_ln] using hlen
      exact lv_lsub hx hb hdg (k _ hl)
    · cases hs
  | lmul =>
    simp only [pv_sp] at hs
    split at hs
    · simp only [Option.some.injEq, Prod.mk.injEq] at hs
      obtain ⟨rfl, rfl, rfl⟩ := hs
      obtain rfl : len = 1 := by simpa [pv_ln] using hlen
      exact lv_lmul hx hb hdg (k _ hl)
    · cases hs
  | land =>
    simp only [pv_sp] at hs
    split at hs
    · simp only [Option.some.injEq, Prod.mk.injEq] at hs
      obtain ⟨rfl, rfl, rfl⟩ := hs
      obtain rfl : len = 1 := by simpa [pv_ln] using hlen
      exact lv_land hx hb hdg (k _ hl)
    · cases hs
  | lor =>
    simp only [pv_sp] at hs
    split at hs
    · simp only [Option.some.injEq, Prod.mk.injEq] at hs
      obtain ⟨rfl, rfl, rfl⟩ := hs
      obtain rfl : len = 1 := by simpa [pv_ln] using hlen
      exact lv_lor hx hb hdg (k _ hl)
    · cases hs
  | lneg =>
    simp only [pv_sp] at hs
    split at hs
    · simp only [Option.some.injEq, Prod.mk.injEq] at hs
      obtain ⟨rfl, rfl, rfl⟩ := hs
      obtain rfl : len = 1 := by simpa [pv_ln] using hlen
      exact lv_lneg hx hb hdg (k _ hl)
    · cases hs
  | iushr =>
    simp only [pv_sp] at hs
    split at hs
    · simp only [Option.some.injEq, Prod.mk.injEq] at hs
      obtain ⟨rfl, rfl, rfl⟩ := hs
      obtain rfl : len = 1 := by simpa [pv_ln] using hlen
      exact lv_iushr hx hb hdg rfl (k _ hl)
    · cases hs
  | lshl =>
    simp only [pv_sp] at hs
    split at hs
    · simp only [Option.some.injEq, Prod.mk.injEq] at hs
      obtain ⟨rfl, rfl, rfl⟩ := hs
      obtain rfl : len = 1 := by simpa [pv_ln] using hlen
      exact lv_lshl hx hb hdg rfl (k _ hl)
    · cases hs
  | lshr =>
    simp only [pv_sp] at hs
    split at hs
    · simp only [Option.some.injEq, Prod.mk.injEq] at hs
      obtain ⟨rfl, rfl, rfl⟩ := hs
      obtain rfl : len = 1 := by simpa [pv_ln] using hlen
      exact lv_lshr hx hb hdg rfl (k _ hl)
    · cases hs
  | i2l =>
    simp only [pv_sp] at hs
    split at hs
    · simp only [Option.some.injEq, Prod.mk.injEq] at hs
      obtain ⟨rfl, rfl, rfl⟩ := hs
      obtain rfl : len = 1 := by simpa [pv_ln] using hlen
      exact lv_i2l hx hb hdg rfl (k _ hl)
    · cases hs
  | l2i =>
    simp only [pv_sp] at hs
    split at hs
    · simp only [Option.some.injEq, Prod.mk.injEq] at hs
      obtain ⟨rfl, rfl, rfl⟩ := hs
      obtain rfl : len = 1 := by simpa [pv_ln] using hlen
      exact lv_l2i hx hb hdg rfl (k _ hl)
    · cases hs
  | i2b =>
    simp only [pv_sp] at hs
    split at hs
    · simp only [Option.some.injEq, Prod.mk.injEq] at hs
      obtain ⟨rfl, rfl, rfl⟩ := hs
      obtain rfl : len = 1 := by simpa [pv_ln] using hlen
      exact lv_i2b hx hb hdg rfl (k _ hl)
    · cases hs
  | i2s =>
    simp only [pv_sp] at hs
    split at hs
    · simp only [Option.some.injEq, Prod.mk.injEq] at hs
      obtain ⟨rfl, rfl, rfl⟩ := hs
      obtain rfl : len = 1 := by simpa [pv_ln] using hlen
      exact lv_i2s hx hb hdg rfl (k _ hl)
    · cases hs
  | lcmp =>
    simp only [pv_sp] at hs
    split at hs
    · simp only [Option.some.injEq, Prod.mk.injEq] at hs
      obtain ⟨rfl, rfl, rfl⟩ := hs
      obtain rfl : len = 1 := by simpa [pv_ln] using hlen
      exact W.lcmp hx hb hdg (k _ hl)
    · cases hs
  | idiv =>
    simp only [pv_sp] at hs
    split at hs
    · split at hs
      · cases hs
      · rename_i hne
        simp only [Option.some.injEq, Prod.mk.injEq] at hs
        obtain ⟨rfl, rfl, rfl⟩ := hs
        obtain rfl : len = 1 := by simpa [pv_ln] using hlen
        exact lv_idiv hx hb hdg hne (k _ hl)
    · cases hs
  | irem =>
    simp only [pv_sp] at hs
    split at hs
    · split at hs
      · cases hs
      · rename_i hne
        simp only [Option.some.injEq, Prod.mk.injEq] at hs
        obtain ⟨rfl, rfl, rfl⟩ := hs
        obtain rfl : len = 1 := by simpa [pv_ln] using hlen
        exact lv_irem hx hb hdg hne (k _ hl)
    · cases hs
  | ldiv =>
    simp only [pv_sp] at hs
    split at hs
    · split at hs
      · cases hs
      · rename_i hne
        simp only [Option.some.injEq, Prod.mk.injEq] at hs
        obtain ⟨rfl, rfl, rfl⟩ := hs
        obtain rfl : len = 1 := by simpa [pv_ln] using hlen
        exact lv_ldiv hx hb hdg hne (k _ hl)
    · cases hs
  | lrem =>
    simp only [pv_sp] at hs
    split at hs
    · split at hs
      · cases hs
      · rename_i hne
        simp only [Option.some.injEq, Prod.mk.injEq] at hs
        obtain ⟨rfl, rfl, rfl⟩ := hs
        obtain rfl : len = 1 := by simpa [pv_ln] using hlen
        exact lv_lrem hx hb hdg hne (k _ hl)
    · cases hs
  | iconst n =>
    simp only [pv_sp, Option.some.injEq, Prod.mk.injEq] at hs
    obtain ⟨rfl, rfl, rfl⟩ := hs
    obtain rfl : len = 1 := by simpa [pv_ln] using hlen
    exact lv_iconst hx hb hdg rfl (k _ hl)
  | bipush n =>
    simp only [pv_sp, Option.some.injEq, Prod.mk.injEq] at hs
    obtain ⟨rfl, rfl, rfl⟩ := hs
    obtain rfl : len = 2 := by simpa [pv_ln] using hlen
    exact lv_bipush hx hb hdg rfl (k _ hl)
  | sipush n =>
    simp only [pv_sp, Option.some.injEq, Prod.mk.injEq] at hs
    obtain ⟨rfl, rfl, rfl⟩ := hs
    obtain rfl : len = 3 := by simpa [pv_ln] using hlen
    exact lv_sipush hx hb hdg rfl (k _ hl)
  | lconst n =>
    simp only [pv_sp, Option.some.injEq, Prod.mk.injEq] at hs
    obtain ⟨rfl, rfl, rfl⟩ := hs
    obtain rfl : len = 1 := by simpa [pv_ln] using hlen
    exact lv_lconst hx hb hdg rfl (k _ hl)
  | iload_n n =>
    simp only [pv_sp] at hs
    split at hs
    · rename_i x hfx
      simp only [Option.some.injEq, Prod.mk.injEq] at hs
      obtain ⟨rfl, rfl, rfl⟩ := hs
      obtain rfl : len = 1 := by simpa [pv_ln] using hlen
      exact lv_iload_n hx hb hdg rfl (hl.2.2 _ _ hfx) (k _ hl)
    · cases hs
  | iload n =>
    simp only [pv_sp] at hs
    split at hs
    · rename_i x hfx
      simp only [Option.some.injEq, Prod.mk.injEq] at hs
      obtain ⟨rfl, rfl, rfl⟩ := hs
      obtain rfl : len = 2 := by simpa [pv_ln] using hlen
      exact lv_iload hx hb hdg (hl.2.2 _ _ hfx) (k _ hl)
    · cases hs
  | lload_n n =>
    simp only [pv_sp] at hs
    split at hs
    · rename_i x hfx
      simp only [Option.some.injEq, Prod.mk.injEq] at hs
      obtain ⟨rfl, rfl, rfl⟩ := hs
      obtain rfl : len = 1 := by simpa [pv_ln] using hlen
      exact lv_lload_n hx hb hdg rfl (hl.2.2 _ _ hfx) (k _ hl)
    · cases hs
  | lload n =>
    simp only [pv_sp] at hs
    split at hs
    · rename_i x hfx
      simp only [Option.some.injEq, Prod.mk.injEq] at hs
      obtain ⟨rfl, rfl, rfl⟩ := hs
      obtain rfl : len = 2 := by simpa [pv_ln] using hlen
      exact lv_lload hx hb hdg (hl.2.2 _ _ hfx) (k _ hl)
    · cases hs
  | aload_n n =>
    simp only [pv_sp] at hs
    split at hs
    · rename_i x hfx
      simp only [Option.some.injEq, Prod.mk.injEq] at hs
      obtain ⟨rfl, rfl, rfl⟩ := hs
      obtain rfl : len = 1 := by simpa [pv_ln] using hlen
      exact lv_aload_n hx hb hdg rfl (hl.2.2 _ _ hfx) (k _ hl)
    · cases hs
  | aload n =>
    simp only [pv_sp] at hs
    split at hs
    · rename_i x hfx
      simp only [Option.some.injEq, Prod.mk.injEq] at hs
      obtain ⟨rfl, rfl, rfl⟩ := hs
      obtain rfl : len = 2 := by simpa [pv_ln] using hlen
      exact lv_aload hx hb hdg (hl.2.2 _ _ hfx) (k _ hl)
    · cases hs
  | istore_n n =>
    simp only [pv_sp] at hs
    split at hs
    · split at hs
      · rename_i hn
        simp only [Option.some.injEq, Prod.mk.injEq] at hs
        obtain ⟨rfl, rfl, rfl⟩ := hs
        obtain rfl : len = 1 := by simpa [pv_ln] using hlen
        exact lv_istore_n hx hb hdg rfl hl.has hn rfl (fun ls' hl' => k ls' (pv_L.up1 hl hl'))
      · cases hs
    · cases hs
  | istore n =>
    simp only [pv_sp] at hs
    split at hs
    · split at hs
      · rename_i hn
        simp only [Option.some.injEq, Prod.mk.injEq] at hs
        obtain ⟨rfl, rfl, rfl⟩ := hs
        obtain rfl : len = 2 := by simpa [pv_ln] using hlen
        exact lv_istore hx hb hdg hl.has hn rfl (fun ls' hl' => k ls' (pv_L.up1 hl hl'))
      · cases hs
    · cases hs
  | lstore_n n =>
    simp only [pv_sp] at hs
    split at hs
    · split at hs
      · rename_i hn
        simp only [Option.some.injEq, Prod.mk.injEq] at hs
        obtain ⟨rfl, rfl, rfl⟩ := hs
        obtain rfl : len = 1 := by simpa [pv_ln] using hlen
        exact lv_lstore_n hx hb hdg rfl hl.has hn rfl (fun ls' hl' => k ls' (pv_L.up2 hl hl'))
      · cases hs
    · cases hs
  | lstore n =>
    simp only [pv_sp] at hs
    split at hs
    · split at hs
      · rename_i hn
        simp only [Option.some.injEq, Prod.mk.injEq] at hs
        obtain ⟨rfl, rfl, rfl⟩ := hs
        obtain rfl : len = 2 := by simpa [pv_ln] using hlen
        exact lv_lstore hx hb hdg hl.has hn rfl (fun ls' hl' => k ls' (pv_L.up2 hl hl'))
      · cases hs
    · cases hs
  | astore_n n =>
    simp only [pv_sp] at hs
    split at hs
    · split at hs
      · rename_i hn
        simp only [Option.some.injEq, Prod.mk.injEq] at hs
        obtain ⟨rfl, rfl, rfl⟩ := hs
        obtain rfl : len = 1 := by simpa [pv_ln] using hlen
        exact lv_astore_n hx hb hdg rfl hl.has hn rfl (fun ls' hl' => k ls' (pv_L.up1 hl hl'))
      · cases hs
    · cases hs
  | astore n =>
    simp only [pv_sp] at hs
    split at hs
    · split at hs
      · rename_i hn
        simp only [Option.some.injEq, Prod.mk.injEq] at hs
        obtain ⟨rfl, rfl, rfl⟩ := hs
        obtain rfl : len = 2 := by simpa [pv_ln] using hlen
        exact lv_astore hx hb hdg hl.has hn rfl (fun ls' hl' => k ls' (pv_L.up1 hl hl'))
      · cases hs
    · cases hs
  | iinc n z =>
    simp only [pv_sp] at hs
    split at hs
    · rename_i x hfx
      split at hs
      · rename_i hn
        simp only [Option.some.injEq, Prod.mk.injEq] at hs
        obtain ⟨rfl, rfl, rfl⟩ := hs
        obtain rfl : len = 3 := by simpa [pv_ln] using hlen
        obtain ⟨q, hq⟩ := List.getElem?_of_mem (hl.mem hfx)
        exact lv_iinc hx hb hdg hl.has hq rfl hn rfl (fun ls' hl' => k ls' (pv_L.up1 hl hl'))
      · cases hs
    · cases hs
  | dup =>
    simp only [pv_sp] at hs
    split at hs
    · split at hs
      · rename_i hc
        simp only [Option.some.injEq, Prod.mk.injEq] at hs
        obtain ⟨rfl, rfl, rfl⟩ := hs
        obtain rfl : len = 1 := by simpa [pv_ln] using hlen
        exact lv_dup hx hb hdg hc (k _ hl)
      · cases hs
    · cases hs
  | pop =>
    simp only [pv_sp] at hs
    split at hs
    · split at hs
      · rename_i hc
        simp only [Option.some.injEq, Prod.mk.injEq] at hs
        obtain ⟨rfl, rfl, rfl⟩ := hs
        obtain rfl : len = 1 := by simpa [pv_ln] using hlen
        exact lv_pop hx hb hdg hc (k _ hl)
      · cases hs
    · cases hs
  | dup2 =>
    simp only [pv_sp] at hs
    split at hs
    · split at hs
      · rename_i hc
        simp only [Option.some.injEq, Prod.mk.injEq] at hs
        obtain ⟨rfl, rfl, rfl⟩ := hs
        obtain rfl : len = 1 := by simpa [pv_ln] using hlen
        exact lv_dup2_11 hx hb hdg hc.1 hc.2 (k _ hl)
      · cases hs
    · cases hs
  | pop2 =>
    simp only [pv_sp] at hs
    split at hs
    · split at hs
      · rename_i hc
        simp only [Option.some.injEq, Prod.mk.injEq] at hs
        obtain ⟨rfl, rfl, rfl⟩ := hs
        obtain rfl : len = 1 := by simpa [pv_ln] using hlen
        exact lv_pop2_2 hx hb hdg hc (k _ hl)
      · cases hs
    · cases hs
  | goto o =>
    simp only [pv_sp] at hs
    split at hs
    · rename_i t ht
      simp only [Option.some.injEq, Prod.mk.injEq] at hs
      obtain ⟨rfl, rfl, rfl⟩ := hs
      obtain rfl : len = 3 := by simpa [pv_ln] using hlen
      exact lv_goto hx hb hdg (pv_tg_spec ht) (k _ hl)
    · cases hs
  | ifCond cd o =>
    simp only [pv_sp] at hs
    split at hs
    · split at hs
      · rename_i t ht
        obtain rfl : len = 3 := by simpa [pv_ln] using hlen
        cases cd
        · refine lv_if_eq hx hb hdg (pv_tg_spec ht) (fun hc => ?_) (fun hc => ?_)
          · rw [if_pos (by simp [pv_cb]; first | exact hc | simpa using hc)] at hs
            simp only [Option.some.injEq, Prod.mk.injEq] at hs
            obtain ⟨rfl, rfl, rfl⟩ := hs
            exact k _ hl
          · rw [if_neg (by simp [pv_cb]; first | exact hc | simpa using hc)] at hs
            simp only [Option.some.injEq, Prod.mk.injEq] at hs
            obtain ⟨rfl, rfl, rfl⟩ := hs
            exact k _ hl
        · refine lv_if_ne hx hb hdg (pv_tg_spec ht) (fun hc => ?_) (fun hc => ?_)
          · rw [if_pos (by simp [pv_cb]; first | exact hc | simpa using hc)] at hs
            simp only [Option.some.injEq, Prod.mk.injEq] at hs
            obtain ⟨rfl, rfl, rfl⟩ := hs
            exact k _ hl
          · rw [if_neg (by simp [pv_cb]; first | exact hc | simpa using hc)] at hs
            simp only [Option.some.injEq, Prod.mk.injEq] at hs
            obtain ⟨rfl, rfl, rfl⟩ := hs
            exact k _ hl
        · refine lv_if_lt hx hb hdg (pv_tg_spec ht) (fun hc => ?_) (fun hc => ?_)
          · rw [if_pos (by simp [pv_cb]; first | exact hc | simpa using hc)] at hs
            simp only [Option.some.injEq, Prod.mk.injEq] at hs
            obtain ⟨rfl, rfl, rfl⟩ := hs
            exact k _ hl
          · rw [if_neg (by simp [pv_cb]; first | exact hc | simpa using hc)] at hs
            simp only [Option.some.injEq, Prod.mk.injEq] at hs
            obtain ⟨rfl, rfl, rfl⟩ := hs
            exact k _ hl
        · refine lv_if_ge hx hb hdg (pv_tg_spec ht) (fun hc => ?_) (fun hc => ?_)
          · rw [if_pos (by simp [pv_cb]; first | exact hc | simpa using hc)] at hs
            simp only [Option.some.injEq, Prod.mk.injEq] at hs
            obtain ⟨rfl, rfl, rfl⟩ := hs
            exact k _ hl
          · rw [if_neg (by simp [pv_cb]; first | exact hc | simpa using hc)] at hs
            simp only [Option.some.injEq, Prod.mk.injEq] at hs
            obtain ⟨rfl, rfl, rfl⟩ := hs
            exact k _ hl
        · refine lv_if_gt hx hb hdg (pv_tg_spec ht) (fun hc => ?_) (fun hc => ?_)
          · rw [if_pos (by simp [pv_cb]; first | exact hc | simpa using hc)] at hs
            simp only [Option.some.injEq, Prod.mk.injEq] at hs
            obtain ⟨rfl, rfl, rfl⟩ := hs
            exact k _ hl
          · rw [if_neg (by simp [pv_cb]; first | exact hc | simpa using hc)] at hs
            simp only [Option.some.injEq, Prod.mk.injEq] at hs
            obtain ⟨rfl, rfl, rfl⟩ := hs
            exact k _ hl
        · refine lv_if_le hx hb hdg (pv_tg_spec ht) (fun hc => ?_) (fun hc => ?_)
          · rw [if_pos (by simp [pv_cb]; first | exact hc | simpa using hc)] at hs
            simp only [Option.some.injEq, Prod.mk.injEq] at hs
            obtain ⟨rfl, rfl, rfl⟩ := hs
            exact k _ hl
          · rw [if_neg (by simp [pv_cb]; first | exact hc | simpa using hc)] at hs
            simp only [Option.some.injEq, Prod.mk.injEq] at hs
            obtain ⟨rfl, rfl, rfl⟩ := hs
            exact k _ hl
      · cases hs
    · cases hs
  | if_icmp cd o =>
    simp only [pv_sp] at hs
    split at hs
    · split at hs
      · rename_i t ht
        obtain rfl : len = 3 := by simpa [pv_ln] using hlen
        cases cd
        · refine lv_icmp_eq hx hb hdg (pv_tg_spec ht) (fun hc => ?_) (fun hc => ?_)
          · rw [if_pos (by simp [pv_cb]; first | exact hc | simpa using hc)] at hs
            simp only [Option.some.injEq, Prod.mk.injEq] at hs
            obtain ⟨rfl, rfl, rfl⟩ := hs
            exact k _ hl
          · rw [if_neg (by simp [pv_cb]; first | exact hc | simpa using hc)] at hs
            simp only [Option.some.injEq, Prod.mk.injEq] at hs
            obtain ⟨rfl, rfl, rfl⟩ := hs
            exact k _ hl
        · refine lv_icmp_ne hx hb hdg (pv_tg_spec ht) (fun hc => ?_) (fun hc => ?_)
          · rw [if_pos (by simp [pv_cb]; first | exact hc | simpa using hc)] at hs
            simp only [Option.some.injEq, Prod.mk.injEq] at hs
            obtain ⟨rfl, rfl, rfl⟩ := hs
            exact k _ hl
          · rw [if_neg (by simp [pv_cb]; first | exact hc | simpa using hc)] at hs
            simp only [Option.some.injEq, Prod.mk.injEq] at hs
            obtain ⟨rfl, rfl, rfl⟩ := hs
            exact k _ hl
        · refine lv_icmp_lt hx hb hdg (pv_tg_spec ht) (fun hc => ?_) (fun hc => ?_)
          · rw [if_pos (by simp [pv_cb]; first | exact hc | simpa using hc)] at hs
            simp only [Option.some.injEq, Prod.mk.injEq] at hs
            obtain ⟨rfl, rfl, rfl⟩ := hs
            exact k _ hl
          · rw [if_neg (by simp [pv_cb]; first | exact hc | simpa using hc)] at hs
            simp only [Option.some.injEq, Prod.mk.injEq] at hs
            obtain ⟨rfl, rfl, rfl⟩ := hs
            exact k _ hl
        · refine lv_icmp_ge hx hb hdg (pv_tg_spec ht) (fun hc => ?_) (fun hc => ?_)
          · rw [if_pos (by simp [pv_cb]; first | exact hc | simpa using hc)] at hs
            simp only [Option.some.injEq, Prod.mk.injEq] at hs
            obtain ⟨rfl, rfl, rfl⟩ := hs
            exact k _ hl
          · rw [if_neg (by simp [pv_cb]; first | exact hc | simpa using hc)] at hs
            simp only [Option.some.injEq, Prod.mk.injEq] at hs
            obtain ⟨rfl, rfl, rfl⟩ := hs
            exact k _ hl
        · refine lv_icmp_gt hx hb hdg (pv_tg_spec ht) (fun hc => ?_) (fun hc => ?_)
          · rw [if_pos (by simp [pv_cb]; first | exact hc | simpa using hc)] at hs
            simp only [Option.some.injEq, Prod.mk.injEq] at hs
            obtain ⟨rfl, rfl, rfl⟩ := hs
            exact k _ hl
          · rw [if_neg (by simp [pv_cb]; first | exact hc | simpa using hc)] at hs
            simp only [Option.some.injEq, Prod.mk.injEq] at hs
            obtain ⟨rfl, rfl, rfl⟩ := hs
            exact k _ hl
        · refine lv_icmp_le hx hb hdg (pv_tg_spec ht) (fun hc => ?_) (fun hc => ?_)
          · rw [if_pos (by simp [pv_cb]; first | exact hc | simpa using hc)] at hs
            simp only [Option.some.injEq, Prod.mk.injEq] at hs
            obtain ⟨rfl, rfl, rfl⟩ := hs
            exact k _ hl
          · rw [if_neg (by simp [pv_cb]; first | exact hc | simpa using hc)] at hs
            simp only [Option.some.injEq, Prod.mk.injEq] at hs
            obtain ⟨rfl, rfl, rfl⟩ := hs
            exact k _ hl
      · cases hs
    · cases hs
  | tableswitch d lo hi os =>
    simp only [pv_sp] at hs
    split at hs
    · split at hs
      · rename_i hout
        split at hs
        · rename_i t ht
          simp only [Option.some.injEq, Prod.mk.injEq] at hs
          obtain ⟨rfl, rfl, rfl⟩ := hs
          exact lv_tableOut hx hb hdg hout (pv_tg_spec ht) (k _ hl)
        · cases hs
      · rename_i hin
        split at hs
        · rename_i o ho
          split at hs
          · rename_i t ht
            simp only [Option.some.injEq, Prod.mk.injEq] at hs
            obtain ⟨rfl, rfl, rfl⟩ := hs
            exact lv_tableIn hx hb hdg (fun q => hin (Or.inl q)) (fun q => hin (Or.inr q)) ho (pv_tg_spec ht) (k _ hl)
          · cases hs
        · cases hs
    · cases hs
  | lookupswitch d ps =>
    simp only [pv_sp] at hs
    split at hs
    · split at hs
      · rename_i hp
        split at hs
        · rename_i t ht
          simp only [Option.some.injEq, Prod.mk.injEq] at hs
          obtain ⟨rfl, rfl, rfl⟩ := hs
          exact lv_lookup hx hb hdg hp rfl (pv_tg_spec ht) (k _ hl)
        · cases hs
      · cases hs
    · cases hs
  | _ => simp [pv_sp] at hs
end SP
