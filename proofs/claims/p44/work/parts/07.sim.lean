section SM
variable {K adV : Nat → Nat} {dC : Nat → ClassId} {dI : Nat → Nat → Nat} {dA : Nat → ClassId} {A : Nat → Prop}
/-- a method's start and end, over the plain cells -/
def pv_Pc (K adV : Nat → Nat) (dC : Nat → ClassId) (dI : Nat → Nat → Nat) (dA : Nat → ClassId) (A : Nat → Prop) (as : List Value) (ws : va_W) : Array Value → State → Prop := va_Pc as (fun U => va_P (dC, dI) pv_cls ws U.heap ∧ va_D A ws ∧ pv_Wd K adV dC dI dA A U)
def pv_Q (dC : Nat → ClassId) (dI : Nat → Nat → Nat) (dA : Nat → ClassId) (A : Nat → Prop) (r : Option Value) (h' : pv_H) : Array Value → State → Outcome → State → Prop := fun _ st oc t => (∃ u : va_W, oc = .returned r ∧ pv_R dA h' u ∧ va_P (dC, dI) pv_cls u t.heap ∧ va_D A u) ∧ va_F A st t
theorem pv_Pc.blind (as : List Value) (ws : va_W) : FrameBlind (pv_Pc K adV dC dI dA A as ws) := by
  intro a U g mk q
  obtain ⟨q0, q1, q2, q3⟩ := q
  exact ⟨q0, q1, q2, (pv_Wd.blind as a U g mk ⟨q0, q3⟩).2⟩
theorem pv_callM {p : Program} {l : Launch} {e : Env} {R : Room} {s : State} {m : MethodId} {args : Array Value} {below : List Frame} {meth : Method} {c : Code} {H : Heap} {locs : List Loc} {Q : State → Prop} {r : Option Value} {h' : pv_H} {pc : Nat} {ls : Array Slot} {rest st0 : List Value} {a : Array Value} (hr : va_Run p l e R s m args below meth c H locs 0 0 0 0 (F0 m pc ls st0) rest (pv_Q dC dI dA A r h' a) A) (hS : va_S A s.heap H locs)
    (kk : ∀ (H1 : Heap) (locs1 : List Loc) (u : va_W), pv_R dA h' u → va_P (dC, dI) pv_cls u H1 → va_D A u → va_S A s.heap H1 locs1 → W p l e R s m args below meth c H1 locs1 0 0 Q (F0 m (pc + 3) ls (r.toList ++ rest))) : W p l e R s m args below meth c H locs 0 0 Q (F0 m pc ls st0) := by
  intro T hT X
  obtain ⟨v, st₀, t, T', L, h0, X', hL, e1, e2, ⟨⟨u, hv, hu1, hu2, hu3⟩, hz, hk⟩, st⟩ := hr T hT X
  cases hv
  rw [h0] at hz hk
  obtain ⟨t2, a1, b1⟩ := kk T'.heap (locs ++ L) u hu1 (by rw [e1]; exact hu2) hu3
    ⟨Nat.le_trans hS.1 (by rw [e1]; exact hz), fun q h1 h2 => by rw [e1, hk q (Nat.lt_of_lt_of_le h1 hS.1) h2]; exact hS.2.1 q h1 h2, fun q hq => by
      rcases List.mem_append.mp hq with h | h
      · exact hS.2.2 q h
      · exact hL q h⟩ T' rfl X'
  exact ⟨t2, st t2 a1, b1⟩
theorem pv_es_sl : ∀ (as : List Value) (i : Nat) (v : Value), (pv_es as)[i]? = some (some v) → (lg_sl as)[i]? = some (.val v) := by
  intro as
  induction as with
  | nil => intro i v h; cases h
  | cons w as ih =>
    intro i v h
    unfold pv_es at h
    have e : lg_sl (w :: as) = (if w.category = 2 then [Slot.val w, Slot.second] else [Slot.val w]) ++ lg_sl as := by simp [lg_sl]
    rw [e]
    split at h
    · rename_i hc
      rw [if_pos hc]
      match i, h with
      | 0, h => simp only [List.getElem?_cons_zero, Option.some.injEq] at h; subst h; rfl
      | 1, h => simp at h
      | i + 2, h =>
        simp only [List.getElem?_cons_succ] at h
        simpa using ih i v h
    · rename_i hc
      rw [if_neg hc]
      match i, h with
      | 0, h => simp only [List.getElem?_cons_zero, Option.some.injEq] at h; subst h; rfl
      | i + 1, h =>
        simp only [List.getElem?_cons_succ] at h
        simpa using ih i v h
theorem pv_L.entry (as : List Value) {n : Nat} (h : (lg_sl as).length ≤ n) : pv_L (pv_en as) ((lg_sl as ++ List.replicate (n - (lg_sl as).length) Slot.unset).toArray) n := by
  have h1 := lv_entry as h
  refine ⟨h1.1, h1.2.1, fun i v hv => ?_⟩
  unfold pv_en pv_fl at hv
  split at hv
  · rename_i o ho
    subst hv
    have h2 := pv_es_sl as i v ho
    have h3 := (List.getElem?_eq_some_iff.mp h2).1
    rw [List.getElem?_toArray, List.getElem?_append_left h3]
    exact h2
  · cases hv
theorem pv_ix_spec {y : MethodName} {M : Nat} (h : pv_ix y = some M) : pv_y M = y := by
  obtain ⟨q, hq, hd⟩ : ∃ q, pv_ms[M]? = some q ∧ q.1 = y := by
    have h1 := List.findIdx?_eq_some_iff_getElem.mp h
    obtain ⟨hl, hd, -⟩ := h1
    simp only [decide_eq_true_eq] at hd
    exact ⟨_, List.getElem?_eq_getElem hl, hd⟩
  simp only [pv_y, hq]
  exact hd
theorem pv_dec_spec {M pc : Nat} {q : Instr × Nat} (h : pv_dec M pc = some q) : decode (pv_bc M) pc = .ok q := by
  unfold pv_dec at h
  split at h
  · rename_i z hz
    cases h
    exact hz
  · cases h
/-- what the real machine does where the plain one comes to its end: a frame's rest -/
def pv_Sim (l : Launch) (K adV : Nat → Nat) (dC : Nat → ClassId) (dI : Nat → Nat → Nat) (dA : Nat → ClassId) (A : Nat → Prop) (n : Nat) : Prop :=
  ∀ (M pc : Nat) (f : pv_F) (st : List Value) (h : pv_H) (r : Option Value) (h' : pv_H), pv_ev K n M pc f st h = some (r, h') → ∀ (p : Program) (e : Env) (s : State) (m : MethodId) (args : Array Value) (below : List Frame) (meth : Method) (c : Code) (H : Heap) (locs : List Loc) (ls : Array Slot) (ws : va_W), pv_Act K adV dC dI dA A M p s m args meth c → (∀ w ∈ pv_wsM M, w.before args s = true) → pv_L f ls (pv_mL M) → pv_R dA h ws → va_P (dC, dI) pv_cls ws H → va_D A ws → va_S A s.heap H locs →
    W p l e (headSpec (pv_wsM M) (pv_rmM M)).room s m args below meth c H locs 0 0 (MQ below (pv_Q dC dI dA A r h') args s 0 0 A) (F0 m pc ls st)
theorem pv_met_of {l : Launch} {n : Nat} (hSim : pv_Sim l K adV dC dI dA A n) {M : Nat} {as : List Value} {h : pv_H} {r : Option Value} {h' : pv_H} {ws : va_W} (hev : pv_ev K n M 0 (pv_en as) [] h = some (r, h')) (hplain : plainName (pv_y M).cls = true) (hlen : (lg_sl as).length ≤ pv_mL M) (hR : pv_R dA h ws) : Met l (pv_y M) (pv_wsM M) (pv_rmM M) (pv_Pc K adV dC dI dA A as ws) (pv_Q dC dI dA A r h') 0 0 A := by
  refine Met.ofW (cc := pv_bc M) (maxL := pv_mL M) (ret := pv_rt M) hplain rfl ?_
  intro p e s m args below meth c s₁ B hml hv
  obtain ⟨rfl, hP, hD, hWd⟩ := hv
  have hts := atoms_spec (ws := pv_wsM M) B.pre
  rw [lg_entry_eq]
  exact hSim M 0 (pv_en as) [] h r h' hev p e s m _ below meth c s.heap [] _ ws ⟨B.exec, B.bytes, B.returns, B.notSynchronized, hml, findClass_of_methodNamed B.named, fun w hw => hts w (List.mem_cons_of_mem _ hw), hWd⟩ hts (pv_L.entry as hlen) hR hP hD va_S.rf
set_option maxHeartbeats 4000000 in
theorem pv_sim {l : Launch} (hStr : pv_Str l K adV dC dI dA A) : ∀ n, pv_Sim l K adV dC dI dA A n := by
  intro n
  induction n with
  | zero => intro M pc f st h r h' hev; cases hev
  | succ n ih =>
    intro M pc f st h r h' hev p e s m args below meth c H locs ls ws hAct hts hl hR hP hD hS
    obtain ⟨hx, hb, hr, hlk, hml, hown, hbig, hWd⟩ := id hAct
    rw [pv_ev] at hev
    split at hev
    · cases hev
    · rename_i i len hd
      have hdg := pv_dec_spec hd
      split at hev
      · rename_i hlen
        split at hev
        · rename_i pc' f' st' hs
          exact pv_simP hx hb hdg hlen hs hl (fun ls' hl' => ih _ _ _ _ _ _ _ hev p e s m args below meth c H locs ls' ws hAct hts hl' hR hP hD hS)
        · split at hev
          · rename_i pc' st' h'' hs
            exact pv_simH hStr hAct rfl rfl rfl rfl hdg hlen hs hl hR hP hD hS hts (fun H' locs' ws' hR' hP' hD' hS' => ih _ _ _ _ _ _ _ hev p e s m args below meth c H' locs' ls ws' hAct hts hl hR' hP' hD' hS')
          · split at hev
            · rename_i rr hs
              cases hev
              unfold pv_re at hs
              split at hs
              · obtain rfl : len = 1 := by simpa [pv_ln] using hlen
                split at hs
                · split at hs
                  · rename_i hrt
                    cases hs
                    exact W.iret hx hb (hr.trans hrt) (fun t ht hW => ⟨⟨ws, rfl, hR, by rw [ht]; exact hP, hD⟩, hS.F ht⟩) hS.2.2 hdg hlk
                  · split at hs
                    · rename_i hrt
                      cases hs
                      exact W.zret hx hb (hr.trans hrt.1) hrt.2 (fun t ht hW => ⟨⟨ws, rfl, hR, by rw [ht]; exact hP, hD⟩, hS.F ht⟩) hS.2.2 hdg hlk
                    · cases hs
                · cases hs
              · obtain rfl : len = 1 := by simpa [pv_ln] using hlen
                split at hs
                · split at hs
                  · rename_i hrt
                    cases hs
                    exact W.lret hx hb (hr.trans hrt) (fun t ht hW => ⟨⟨ws, rfl, hR, by rw [ht]; exact hP, hD⟩, hS.F ht⟩) hS.2.2 hdg hlk
                  · cases hs
                · cases hs
              · obtain rfl : len = 1 := by simpa [pv_ln] using hlen
                split at hs
                · split at hs
                  · rename_i hrt
                    cases hs
                    exact W.vret hx hb (hr.trans hrt) (fun t ht hW => ⟨⟨ws, rfl, hR, by rw [ht]; exact hP, hD⟩, hS.F ht⟩) hS.2.2 hdg hlk
                  · cases hs
                · cases hs
              · cases hs
            · split at hev
              · rename_i M' as rest hs
                split at hev
                · rename_i r1 h1 hev1
                  unfold pv_cs at hs
                  split at hs
                  · obtain rfl : len = 3 := by simpa [pv_ln] using hlen
                    split at hs
                    · rename_i y hy
                      split at hs
                      · rename_i M2 hM2
                        split at hs
                        · rename_i b r2 hst
                          split at hs
                          · rename_i ci fs hhb
                            split at hs
                            · rename_i hc
                              obtain ⟨hfind, hok, hsum, htk, hsl⟩ := hc
                              simp only [Option.some.injEq, Prod.mk.injEq] at hs
                              obtain ⟨rfl, rfl, rfl⟩ := hs
                              have hyy := pv_ix_spec hM2
                              subst hyy
                              simp only [pv_okV, pv_okB, Bool.and_eq_true, decide_eq_true_eq] at hok
                              obtain ⟨⟨⟨⟨⟨⟨⟨⟨⟨c1, c2⟩, c3⟩, c4⟩, c5⟩, c6⟩, c7⟩, c8⟩, c9⟩, c10⟩ := hok
                              have hlw := (pv_ml_spec hy).elim (fun z => z.2) (fun z => by obtain ⟨z, z1, -⟩ := z; cases z1)
                              obtain ⟨q0, h0⟩ := hR _ _ hhb
                              have hcls : ∃ q : vw_C, pv_cls[ci]? = some q ∧ q.1 = pv_own M2 := by
                                have z1 := List.find?_some hfind
                                simp only [decide_eq_true_eq, List.getElem?_map] at z1
                                cases hq : pv_cls[ci]? with
                                | none => rw [hq] at z1; cases z1
                                | some q => rw [hq] at z1; exact ⟨q, rfl, Option.some.inj z1⟩
                              obtain ⟨q, hq, hqC⟩ := hcls
                              have hrecv := va_recv hWd.1 hP hq h0
                              rw [hqC] at hrecv
                              refine pv_callM (va_runV (C := (pv_y M2).cls) (b := b) (As := (st.take (pv_np M2)).reverse) (rest := r2) ⟨hx, hb, hml, hown, hts⟩ (pv_met_of ih (ws := ws) hev1 c6 hsl hR) ⟨callB_of (pv_np M2) hts (pv_GoodIn c8) rfl rfl rfl (hbig _ (pv_bigmem c7 rfl)) (hbig _ (pv_bigmem hlw rfl)) ⟨c1, c2, c3⟩ ⟨c4, c5⟩, hbig _ (pv_bigmem c9 rfl), hbig _ (pv_bigmem c10 rfl)⟩ ⟨pv_Pc.blind _ _, hrecv, fun U hU hW => ⟨rfl, by rw [hU]; exact hP, hD, hWd.at hS hU hW⟩⟩ rfl (by rw [List.length_reverse]; exact htk) hl.1 ?_ (lv_room hsum) hdg ⟨Nat.zero_le _, Nat.zero_le _⟩) hS (fun H1 locs1 u hu1 hu2 hu3 hS1 => ih _ _ _ _ _ _ _ hev p e s m args below meth c H1 locs1 ls u hAct hts hl hu1 hu2 hu3 hS1)
                              show st = _
                              rw [List.reverse_reverse, ← hst, List.take_append_drop]
                            · cases hs
                          · cases hs
                        · cases hs
                      · cases hs
                    · cases hs
                  · obtain rfl : len = 3 := by simpa [pv_ln] using hlen
                    split at hs
                    · rename_i y o hy
                      split at hs
                      · rename_i M2 hM2
                        split at hs
                        · rename_i hc
                          obtain ⟨hok, hsum, htk, hsl⟩ := hc
                          simp only [Option.some.injEq, Prod.mk.injEq] at hs
                          obtain ⟨rfl, rfl, rfl⟩ := hs
                          have hyy := pv_ix_spec hM2
                          subst hyy
                          simp only [pv_okS, pv_okB, Bool.and_eq_true, decide_eq_true_eq] at hok
                          obtain ⟨⟨⟨⟨⟨⟨⟨⟨c1, c2⟩, c3⟩, c4⟩, c5⟩, c6⟩, c7⟩, c8⟩, c9⟩ := hok
                          have hst : st = (List.reverse (List.reverse (List.take (pv_np M2) st))) ++ List.drop (pv_np M2) st := by rw [List.reverse_reverse, List.take_append_drop]
                          rcases pv_ml_spec hy with ⟨-, hlw⟩ | ⟨z, -, hlw⟩
                          · exact pv_callM (va_runS (As := (st.take (pv_np M2)).reverse) (rest := st.drop (pv_np M2)) ⟨hx, hb, hml, hown, hts⟩ (pv_met_of ih (ws := ws) hev1 c6 hsl hR) ⟨callB_of (pv_np M2) hts (pv_GoodIn c8) rfl rfl rfl (hbig _ (pv_bigmem c7 rfl)) (hbig _ (pv_bigmem hlw rfl)) ⟨c1, c2, c3⟩ ⟨c4, c5⟩, hbig _ (pv_bigmem c9 rfl)⟩ ⟨pv_Pc.blind _ _, fun U hU hW => ⟨rfl, by rw [hU]; exact hP, hD, hWd.at hS hU hW⟩⟩ rfl (by rw [List.length_reverse]; exact htk) hl.1 hst (lv_room hsum) hdg ⟨Nat.zero_le _, Nat.zero_le _⟩) hS (fun H1 locs1 u hu1 hu2 hu3 hS1 => ih _ _ _ _ _ _ _ hev p e s m args below meth c H1 locs1 ls u hAct hts hl hu1 hu2 hu3 hS1)
                          · exact pv_callM (va_runSN (host := z) (As := (st.take (pv_np M2)).reverse) (rest := st.drop (pv_np M2)) ⟨hx, hb, hml, hown, hts⟩ (pv_met_of ih (ws := ws) hev1 c6 hsl hR) ⟨va_cnB (pv_np M2) hts (pv_GoodIn c8) rfl rfl rfl (hWd.2.2.2.1 _ _ _ _ hlw) (hbig _ (pv_bigmem c7 rfl)) ⟨c1, c2, c3⟩ ⟨c4, c5⟩, hbig _ (pv_bigmem c9 rfl), trivial⟩ ⟨pv_Pc.blind _ _, fun U hU hW => ⟨rfl, by rw [hU]; exact hP, hD, hWd.at hS hU hW⟩⟩ rfl (by rw [List.length_reverse]; exact htk) hl.1 hst (lv_room hsum) hdg ⟨Nat.zero_le _, Nat.zero_le _⟩) hS (fun H1 locs1 u hu1 hu2 hu3 hS1 => ih _ _ _ _ _ _ _ hev p e s m args below meth c H1 locs1 ls u hAct hts hl hu1 hu2 hu3 hS1)
                        · cases hs
                      · cases hs
                    · cases hs
                  · cases hs
                · cases hev
              · cases hev
      · cases hev
end SM
