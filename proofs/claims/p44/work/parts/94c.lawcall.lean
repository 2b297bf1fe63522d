/-! THE LAW'S CALLS: a call of a method of the class or of the reference, over the pure machine -/
theorem pv_GoodL {M : Nat} (h : M < pv_ms.length) : GoodIn lw_tbl (pv_wsM M) := by
  intro w hw
  rcases List.mem_cons.mp hw with rfl | hw
  · obtain ⟨q, hq⟩ : ∃ q, pv_ms[M]? = some q := ⟨_, List.getElem?_eq_getElem h⟩
    have hm := List.mem_of_getElem? hq
    obtain ⟨w, hw1, hw2⟩ := List.mem_filterMap.mp hm
    split at hw2
    · rename_i y cd n rt
      cases hw2
      have : Cond.code (pv_y M) (pv_bc M) (pv_mL M) (pv_rt M) = Cond.code y cd n rt := by
        simp only [pv_y, pv_bc, pv_mL, pv_rt, hq]
      rw [this]
      exact ⟨List.mem_append_right _ hw1, Or.inl rfl⟩
    · cases hw2
  · exact ⟨(List.mem_filter.mp hw).1, good_of_word (List.mem_filter.mp hw).2⟩
section LC
variable {p : Program} {l : Launch} {e : Env} {s : State} {m : MethodId} {args : Array Value} {below : List Frame} {meth : Method} {c : Code} {H : Heap} {locs : List Loc} {cells slots : Nat} {Q : State → Prop} {K adV : Nat → Nat} {dC : Nat → ClassId} {dI : Nat → Nat → Nat} {dA : Nat → ClassId} {A : Nat → Prop}
theorem pv_callG {R : Room} {r : Option Value} {h' : pv_H} {pc : Nat} {ls : Array Slot} {rest st0 : List Value} {a : Array Value} (hr : va_Run p l e R s m args below meth c H locs cells slots 0 0 (F0 m pc ls st0) rest (pv_Q dC dI dA A r h' a) A) (hS : va_S A s.heap H locs)
    (kk : ∀ (H1 : Heap) (locs1 : List Loc) (u : va_W), pv_R dA h' u → va_P (dC, dI) pv_cls u H1 → va_D A u → va_S A s.heap H1 locs1 → W p l e R s m args below meth c H1 locs1 cells slots Q (F0 m (pc + 3) ls (r.toList ++ rest))) : W p l e R s m args below meth c H locs cells slots Q (F0 m pc ls st0) := by
  intro T hT X
  obtain ⟨v, st₀, t, T', L, h0, X', hL, e1, e2, ⟨⟨u, hv, hu1, hu2, hu3⟩, hz, hk⟩, st⟩ := hr T hT X
  cases hv
  rw [h0] at hz hk
  obtain ⟨t2, a1, b1⟩ := kk T'.heap (locs ++ L) u hu1 (by rw [e1]; exact hu2) hu3
    ⟨Nat.le_trans hS.1 (by rw [e1]; exact hz), fun q h1 h2 => by rw [e1, hk q (Nat.lt_of_lt_of_le h1 hS.1) h2]; exact hS.2.1 q h1 h2, fun q hq => by
      rcases List.mem_append.mp hq with h | h
      · exact hS.2.2 q h
      · exact hL q h⟩ T' rfl X'
  exact ⟨t2, st t2 a1, b1⟩
/-- what must be so of a method that the law calls -/
def pv_lk (M ci np idx : Nat) : Bool := decide ((pv_y M).cls ≠ "java/lang/invoke/MethodHandle") && decide ((pv_y M).cls ≠ "java/lang/invoke/VarHandle") && decide ((parseMethodDescriptor (pv_y M).desc).map (fun d => d.parameters.length) = some np) && decide (pv_fr M + 1 ≤ 15) && decide (8 + (pv_mL M + 11) + pv_lo M ≤ 558) && plainName (pv_y M).cls && decide (Cond.initialized (pv_y M).cls ∈ lw_tbl) && decide (M < pv_ms.length) && decide (Cond.instanceMethod (pv_y M) ∈ lw_tbl) && decide (Cond.selects (pv_y M).cls (pv_y M) (pv_y M) ∈ lw_tbl) && decide (pv_find (pv_own M) = some ci) && decide (Cond.methodLink R_law idx (pv_y M) ∈ lw_tbl)
theorem pv_lawcall {M ci np idx a pc : Nat} {fs : List Value} {As rest : List Value} {ls : Array Slot} {h : pv_H} {ws : va_W} {Q0 : Option Value → pv_H → Prop} (hx : p.tables.exec = Jvm.exec) (hb : c.code = code) (hml : c.maxLocals = 4) (hown : s.vm.findClass R_law = some m.cls) (hts : ∀ w ∈ lw_tbl, w.before args s = true) (hWd : pv_Wd K adV dC dI dA A s) (hk : pv_lk M ci np idx = true) (hC : pv_C K M (.ref a :: As) h Q0) (hcell : h a = some (.inr (ci, fs))) (hlen : As.length = np) (hsl : (lg_sl (.ref a :: As)).length ≤ pv_mL M) (hR : pv_R dA h ws) (hP : va_P (dC, dI) pv_cls ws H) (hD : va_D A ws) (hS : va_S A s.heap H locs) (hrest : (rest.map fun v => v.category).sum ≤ 8) (hls : ls.size = 4) (hdg : decode code pc = .ok (.invokevirtual idx, 3)) (hcs : cells ≤ 600000 ∧ slots ≤ 7302250)
    (kk : ∀ (r : Option Value) (h' : pv_H) (H1 : Heap) (locs1 : List Loc) (u : va_W), Q0 r h' → pv_R dA h' u → va_P (dC, dI) pv_cls u H1 → va_D A u → va_S A s.heap H1 locs1 → W p l e room_1 s m args below meth c H1 locs1 cells slots Q (F0 m (pc + 3) ls (r.toList ++ rest))) : W p l e room_1 s m args below meth c H locs cells slots Q (F0 m pc ls (As.reverse ++ .ref a :: rest)) := by
  obtain ⟨n, r, h', hev, hq⟩ := hC
  simp only [pv_lk, Bool.and_eq_true, decide_eq_true_eq] at hk
  obtain ⟨⟨⟨⟨⟨⟨⟨⟨⟨⟨⟨c1, c2⟩, c3⟩, c4⟩, c5⟩, c6⟩, c7⟩, c8⟩, c9⟩, c10⟩, c11⟩, c12⟩ := hk
  obtain ⟨q0, h0⟩ := hR _ _ hcell
  have hcls : ∃ q : vw_C, pv_cls[ci]? = some q ∧ q.1 = pv_own M := by
    have z1 := List.find?_some c11
    simp only [decide_eq_true_eq, List.getElem?_map] at z1
    cases hq : pv_cls[ci]? with
    | none => rw [hq] at z1; cases z1
    | some q => rw [hq] at z1; exact ⟨q, rfl, Option.some.inj z1⟩
  obtain ⟨q, hqc, hqC⟩ := hcls
  have hrecv := va_recv hWd.1 hP hqc h0
  rw [hqC] at hrecv
  exact pv_callG (va_runV (C := (pv_y M).cls) (b := a) (As := As) (rest := rest) ⟨hx, hb, hml, hown, hts⟩ (pv_met_of (pv_sim pv_Str_ok n) (ws := ws) hev c6 hsl hR) ⟨callB_of np hts (pv_GoodL c8) rfl rfl rfl (hts _ c7) (hts _ c12) ⟨c1, c2, c3⟩ ⟨c4, c5⟩, hts _ c9, hts _ c10⟩ ⟨pv_Pc.blind _ _, hrecv, fun U hU hW => ⟨rfl, by rw [hU]; exact hP, hD, hWd.at hS hU hW⟩⟩ rfl hlen hls rfl (lv_room hrest) hdg hcs) hS (fun H1 locs1 u hu1 hu2 hu3 hS1 => kk r h' H1 locs1 u hq hu1 hu2 hu3 hS1)
end LC
