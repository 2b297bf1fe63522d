theorem pv_sl21 : 21 < pv_ms.length ∧ pv_wsM 21 = Cond.code pv_sln (pv_bc 21) (pv_mL 21) (pv_rt 21) :: pv_big ∧ Cond.initialized "java/lang/String" ∈ lw_tbl ∧ pv_fr 21 + 1 ≤ 5 ∧ 8 + (pv_mL 21 + 11) + pv_lo 21 ≤ 110 ∧ Cond.instanceMethod pv_sln ∈ lw_tbl ∧ Cond.selects "java/lang/String" pv_sln pv_sln ∈ lw_tbl := by
  refine ⟨by decide +kernel, ?_, by decide +kernel, by decide +kernel, by decide +kernel, by decide +kernel, by decide +kernel⟩
  have : pv_y 21 = pv_sln := by decide +kernel
  unfold pv_wsM
  rw [this]
theorem pv_sl23 : 23 < pv_ms.length ∧ pv_wsM 23 = Cond.code pv_scn (pv_bc 23) (pv_mL 23) (pv_rt 23) :: pv_big ∧ pv_fr 23 + 1 ≤ 5 ∧ 8 + (pv_mL 23 + 11) + pv_lo 23 ≤ 110 ∧ Cond.instanceMethod pv_scn ∈ lw_tbl ∧ Cond.selects "java/lang/String" pv_scn pv_scn ∈ lw_tbl := by
  refine ⟨by decide +kernel, ?_, by decide +kernel, by decide +kernel, by decide +kernel, by decide +kernel⟩
  have : pv_y 23 = pv_scn := by decide +kernel
  unfold pv_wsM
  rw [this]
section SH
variable {p : Program} {l : Launch} {e : Env} {R : Room} {s : State} {m : MethodId} {args : Array Value} {below : List Frame} {meth : Method} {c : Code} {H : Heap} {locs : List Loc} {cells slots : Nat} {Q : State → Prop}
variable {K adV : Nat → Nat} {dC : Nat → ClassId} {dI : Nat → Nat → Nat} {dA : Nat → ClassId} {A : Nat → Prop} {M : Nat}
/-- the two members of String that the system calls, as they must be met -/
def pv_Str (l : Launch) (K adV : Nat → Nat) (dC : Nat → ClassId) (dI : Nat → Nat → Nat) (dA : Nat → ClassId) (A : Nat → Prop) : Prop :=
  (∀ k, k < 9 → Met l pv_sln (pv_wsM 21) (pv_rmM 21) (va_Pc [.ref (K k)] (pv_Wd K adV dC dI dA A)) (vp_Si (fun r => r = nI (pv_len.getD k 0))) 0 0 (fun _ => False)) ∧
  (∀ (k : Nat) (j : Int32), k < 9 → pv_in j (pv_len.getD k 0) = true → Met l pv_scn (pv_wsM 23) (pv_rmM 23) (va_Pc [.ref (K k), .int j] (pv_Wd K adV dC dI dA A)) (vp_Si (fun r => r = (pv_byt.getD k []).getD j.toNatClampNeg 0 &&& 255)) 0 0 (fun _ => False))
theorem pv_Wd.at {s U : State} (h : pv_Wd K adV dC dI dA A s) (hS : va_S A s.heap H locs) (hU : U.heap = H) (hW : s.WarmedH U.vm) : pv_Wd K adV dC dI dA A U := by
  obtain ⟨h1, h2, h3, h4, h5, h6⟩ := h
  subst hU
  exact ⟨va_K.moved hW.alike h1, (h2.kept (fun a q1 q2 => hS.2.1 a q1 q2)).moved hW.alike, fun M idx k q => (h3 M idx k q).elim fun tx z => ⟨tx, z.warm hW⟩, fun o i y z q => va_Nw.warmM hW (h4 o i y z q), (h5.kept (fun a q1 q2 => hS.2.1 a q1 q2)).moved hW.alike, (h6.kept (fun a q1 q2 => hS.2.1 a q1 q2)).moved hW.alike⟩
theorem pv_Wd.blind (as : List Value) : FrameBlind (va_Pc as (pv_Wd K adV dC dI dA A)) := by
  intro a U g mk q
  obtain ⟨q0, q1, q2, q3, q4, q5, q6⟩ := q
  exact ⟨q0, va_K.moved (u := U) (U := U.calling g mk a) (Vm.Alike.refl U.vm) q1, vk_S.moved (u := U) (U := U.calling g mk a) (Vm.Alike.refl U.vm) q2, fun M idx k z => (q3 M idx k z).elim fun tx w => ⟨tx, vk_R.same (u := U) (U := U.calling g mk a) rfl w⟩, fun o i y z w => va_Nw.same (u := U) (U := U.calling g mk a) rfl rfl (q4 o i y z w), va_Z.moved (u := U) (U := U.calling g mk a) (Vm.Alike.refl U.vm) q5, va_Zq.moved (u := U) (U := U.calling g mk a) (Vm.Alike.refl U.vm) q6⟩
/-- behind a call that leaves the cells -/
theorem pv_callS {r0 : Int32} {pc : Nat} {ls : Array Slot} {rest st0 : List Value} {a : Array Value} (hr : va_Run p l e R s m args below meth c H locs cells slots 0 0 (F0 m pc ls st0) rest (vp_Si (fun r => r = r0) a) (fun _ => False)) (kk : W p l e R s m args below meth c H locs cells slots Q (F0 m (pc + 3) ls (.int r0 :: rest))) : W p l e R s m args below meth c H locs cells slots Q (F0 m pc ls st0) := by
  intro T hT X
  obtain ⟨v, st₀, t, T', L, h0, X', hL, e1, e2, ⟨r, hv, hp, hb⟩, st⟩ := hr T hT X
  cases hv
  subst hp
  have hLn : L = [] := by
    cases L with
    | nil => rfl
    | cons q L => exact (hL q List.mem_cons_self).elim
  subst hLn
  rw [List.append_nil] at X'
  obtain ⟨t2, a1, b1⟩ := kk T' (by rw [e1, hb, h0]) X'
  exact ⟨t2, st t2 a1, b1⟩
theorem pv_si_spec {b k : Nat} (h : pv_si K b = some k) : k < 9 ∧ K k = b := by
  have h1 := List.find?_some h
  have h2 := List.mem_of_find?_eq_some h
  simp only [decide_eq_true_eq] at h1
  exact ⟨List.mem_range.mp h2, h1⟩
theorem pv_GoodIn {M M' : Nat} (h : M' < pv_ms.length) : GoodIn (pv_wsM M) (pv_wsM M') := by
  intro w hw
  rcases List.mem_cons.mp hw with rfl | hw
  · obtain ⟨q, hq⟩ : ∃ q, pv_ms[M']? = some q := ⟨_, List.getElem?_eq_getElem h⟩
    have hm := List.mem_of_getElem? hq
    obtain ⟨w, hw1, hw2⟩ := List.mem_filterMap.mp hm
    split at hw2
    · rename_i y cd n rt
      cases hw2
      have : Cond.code (pv_y M') (pv_bc M') (pv_mL M') (pv_rt M') = Cond.code y cd n rt := by
        simp only [pv_y, pv_bc, pv_mL, pv_rt, hq]
      rw [this]
      exact ⟨List.mem_cons_of_mem _ (pv_bigmem (List.mem_append_right _ hw1) rfl), Or.inl rfl⟩
    · cases hw2
  · exact ⟨List.mem_cons_of_mem _ hw, good_of_word (List.mem_filter.mp hw).2⟩
set_option maxHeartbeats 8000000 in
set_option maxRecDepth 20000 in
theorem pv_simH {pc pc' len : Nat} {f : pv_F} {st st' : List Value} {i : Instr} {ls : Array Slot} {h h' : pv_H} {ws : va_W} (hStr : pv_Str l K adV dC dI dA A) (hAct : pv_Act K adV dC dI dA A M p s m args meth c) (hfr : R.frames = pv_fr M) (hlo : R.locals = pv_lo M) (hrc : R.cells = 0) (hrs : R.slots = 0) (hdg : decode (pv_bc M) pc = .ok (i, len)) (hlen : pv_ln i len = true) (hs : pv_sh K M pc i st h = some (pc', st', h')) (hl : pv_L f ls (pv_mL M)) (hR : pv_R dA h ws) (hP : va_P (dC, dI) pv_cls ws H) (hD : va_D A ws) (hS : va_S A s.heap H locs) (hts : ∀ w ∈ pv_wsM M, w.before args s = true)
    (k : ∀ (H' : Heap) (locs' : List Loc) (ws' : va_W), pv_R dA h' ws' → va_P (dC, dI) pv_cls ws' H' → va_D A ws' → va_S A s.heap H' locs' → W p l e R s m args below meth c H' locs' 0 0 Q (F0 m pc' ls st')) : W p l e R s m args below meth c H locs 0 0 Q (F0 m pc ls st) := by
  obtain ⟨hx, hb, hr, hlk, hml, hown, hbig, hWd⟩ := id hAct
  have hK := hWd.1
  cases i with
  | getfield idx =>
    obtain rfl : len = 3 := by simpa [pv_ln] using hlen
    unfold pv_sh at hs
    dsimp only at hs
    split at hs
    · split at hs
      · rename_i ci kf hg
        split at hs
        · rename_i cj fs ha
          split at hs
          · rename_i hcc
            subst hcc
            split at hs
            · rename_i v hv
              simp only [Option.some.injEq, Prod.mk.injEq] at hs
              obtain ⟨rfl, rfl, rfl⟩ := hs
              obtain ⟨q, hq, hkf, hlink⟩ := pv_gf_spec hg
              obtain ⟨q0, h0⟩ := hR _ _ ha
              exact va_get (D := (dC, dI)) (C := q.1) (T := q.2.1) (N := q.2.2) hx hb hbig (pv_cls_big hq) hown hK hP q0 h0 hq kf hkf (hbig _ (pv_bigmem hlink rfl)) (fun _ z => z) hv hdg (k H locs ws hR hP hD hS)
            · cases hs
          · cases hs
        · cases hs
      · cases hs
    · cases hs
  | putfield idx =>
    obtain rfl : len = 3 := by simpa [pv_ln] using hlen
    unfold pv_sh at hs
    dsimp only at hs
    split at hs
    · split at hs
      · rename_i ci kf hg
        split at hs
        · rename_i cj fs ha
          split at hs
          · rename_i q hq
            split at hs
            · rename_i ty hty
              split at hs
              · rename_i hcc
                obtain ⟨rfl, hfin, hnar, hfit, hkl, -⟩ := hcc
                simp only [Option.some.injEq, Prod.mk.injEq] at hs
                obtain ⟨rfl, rfl, rfl⟩ := hs
                obtain ⟨q', hq', hkf, hlink⟩ := pv_gf_spec hg
                cases hq.symm.trans hq'
                obtain ⟨q0, h0⟩ := hR _ _ ha
                obtain ⟨-, hnm, ty0, hty0⟩ := pv_clsok _ _ hq
                exact va_put (D := (dC, dI)) (C := q.1) (T := q.2.1) (N := q.2.2) hx hb hbig (pv_cls_big hq) ty0 hty0 hnm hown hK hP hD hS q0 h0 hq kf hkf (hbig _ (pv_bigmem hlink rfl)) (fun _ z => z) hfin hty hnar hfit hkl hdg (fun H1 locs1 hP1 hD1 hS1 => k H1 locs1 _ (hR.set hD h0) hP1 hD1 hS1)
              · cases hs
            · cases hs
          · cases hs
        · cases hs
      · cases hs
    · cases hs
  | iaload =>
    obtain rfl : len = 1 := by simpa [pv_ln] using hlen
    unfold pv_sh at hs
    dsimp only at hs
    split at hs
    · split at hs
      · rename_i n g ha
        split at hs
        · rename_i hin
          simp only [Option.some.injEq, Prod.mk.injEq] at hs
          obtain ⟨rfl, rfl, rfl⟩ := hs
          obtain ⟨q0, h0⟩ := hR _ _ ha
          exact va_iald (D := (dC, dI)) hx hb hK hP q0 0 h0 rfl (pv_in_spec hin) hdg (k H locs ws hR hP hD hS)
        · cases hs
      · cases hs
    · cases hs
  | laload =>
    obtain rfl : len = 1 := by simpa [pv_ln] using hlen
    unfold pv_sh at hs
    dsimp only at hs
    split at hs
    · split at hs
      · rename_i n g ha
        split at hs
        · rename_i hin
          simp only [Option.some.injEq, Prod.mk.injEq] at hs
          obtain ⟨rfl, rfl, rfl⟩ := hs
          obtain ⟨q0, h0⟩ := hR _ _ ha
          exact va_lald (D := (dC, dI)) hx hb hK hP q0 1 h0 rfl (pv_in_spec hin) hdg (k H locs ws hR hP hD hS)
        · cases hs
      · cases hs
    · cases hs
  | baload =>
    obtain rfl : len = 1 := by simpa [pv_ln] using hlen
    unfold pv_sh at hs
    dsimp only at hs
    split at hs
    · split at hs
      · rename_i n g ha
        split at hs
        · rename_i hin
          simp only [Option.some.injEq, Prod.mk.injEq] at hs
          obtain ⟨rfl, rfl, rfl⟩ := hs
          obtain ⟨q0, h0⟩ := hR _ _ ha
          exact va_bald (D := (dC, dI)) hx hb hK hP q0 2 h0 rfl (pv_in_spec hin) hdg (k H locs ws hR hP hD hS)
        · cases hs
      · rename_i n g ha
        split at hs
        · rename_i hin
          simp only [Option.some.injEq, Prod.mk.injEq] at hs
          obtain ⟨rfl, rfl, rfl⟩ := hs
          obtain ⟨q0, h0⟩ := hR _ _ ha
          exact va_zald (D := (dC, dI)) hx hb hK hP q0 3 h0 rfl (pv_in_spec hin) hdg (k H locs ws hR hP hD hS)
        · cases hs
      · cases hs
    · cases hs
  | aaload =>
    obtain rfl : len = 1 := by simpa [pv_ln] using hlen
    unfold pv_sh at hs
    dsimp only at hs
    split at hs
    · split at hs
      · rename_i n g ha
        split at hs
        · rename_i hin
          simp only [Option.some.injEq, Prod.mk.injEq] at hs
          obtain ⟨rfl, rfl, rfl⟩ := hs
          obtain ⟨q0, h0⟩ := hR _ _ ha
          exact va_aldq (D := (dC, dI)) hx hb hK hP q0 4 h0 rfl (pv_in_spec hin) hdg (k H locs ws hR hP hD hS)
        · cases hs
      · rename_i n g ha
        split at hs
        · rename_i hin
          simp only [Option.some.injEq, Prod.mk.injEq] at hs
          obtain ⟨rfl, rfl, rfl⟩ := hs
          obtain ⟨q0, h0⟩ := hR _ _ ha
          exact va_aldq (D := (dC, dI)) hx hb hK hP q0 5 h0 rfl (pv_in_spec hin) hdg (k H locs ws hR hP hD hS)
        · cases hs
      · cases hs
    · cases hs
  | iastore =>
    obtain rfl : len = 1 := by simpa [pv_ln] using hlen
    unfold pv_sh at hs
    dsimp only at hs
    split at hs
    · split at hs
      · rename_i n g ha
        split at hs
        · rename_i hin
          simp only [Option.some.injEq, Prod.mk.injEq] at hs
          obtain ⟨rfl, rfl, rfl⟩ := hs
          obtain ⟨q0, h0⟩ := hR _ _ ha
          exact va_iast (D := (dC, dI)) hx hb hK hP hD hS q0 0 h0 rfl (pv_in_spec hin) hdg (fun H1 locs1 hP1 hD1 hS1 => k H1 locs1 _ (hR.set hD h0) hP1 hD1 hS1)
        · cases hs
      · cases hs
    · cases hs
  | lastore =>
    obtain rfl : len = 1 := by simpa [pv_ln] using hlen
    unfold pv_sh at hs
    dsimp only at hs
    split at hs
    · split at hs
      · rename_i n g ha
        split at hs
        · rename_i hin
          simp only [Option.some.injEq, Prod.mk.injEq] at hs
          obtain ⟨rfl, rfl, rfl⟩ := hs
          obtain ⟨q0, h0⟩ := hR _ _ ha
          exact va_last (D := (dC, dI)) hx hb hK hP hD hS q0 1 h0 rfl (pv_in_spec hin) hdg (fun H1 locs1 hP1 hD1 hS1 => k H1 locs1 _ (hR.set hD h0) hP1 hD1 hS1)
        · cases hs
      · cases hs
    · cases hs
  | bastore =>
    obtain rfl : len = 1 := by simpa [pv_ln] using hlen
    unfold pv_sh at hs
    dsimp only at hs
    split at hs
    · split at hs
      · rename_i n g ha
        split at hs
        · rename_i hin
          simp only [Option.some.injEq, Prod.mk.injEq] at hs
          obtain ⟨rfl, rfl, rfl⟩ := hs
          obtain ⟨q0, h0⟩ := hR _ _ ha
          exact va_bast (D := (dC, dI)) hx hb hK hP hD hS q0 2 h0 rfl (pv_in_spec hin) hdg (fun H1 locs1 hP1 hD1 hS1 => k H1 locs1 _ (hR.set hD h0) hP1 hD1 hS1)
        · cases hs
      · rename_i n g ha
        split at hs
        · rename_i hin
          simp only [Option.some.injEq, Prod.mk.injEq] at hs
          obtain ⟨rfl, rfl, rfl⟩ := hs
          obtain ⟨q0, h0⟩ := hR _ _ ha
          exact va_zast (D := (dC, dI)) hx hb hK hP hD hS q0 3 h0 rfl (pv_in_spec hin) hdg (fun H1 locs1 hP1 hD1 hS1 => k H1 locs1 _ (hR.set hD h0) hP1 hD1 hS1)
        · cases hs
      · cases hs
    · cases hs
  | arraylength =>
    obtain rfl : len = 1 := by simpa [pv_ln] using hlen
    unfold pv_sh at hs
    dsimp only at hs
    split at hs
    · split at hs
      · rename_i x ha
        simp only [Option.some.injEq, Prod.mk.injEq] at hs
        obtain ⟨rfl, rfl, rfl⟩ := hs
        obtain ⟨q0, h0⟩ := hR _ _ ha
        exact va_alen (D := (dC, dI)) hx hb hK hP q0 0 h0 (ty := .int) rfl rfl hdg (k H locs ws hR hP hD hS)
      · rename_i x ha
        simp only [Option.some.injEq, Prod.mk.injEq] at hs
        obtain ⟨rfl, rfl, rfl⟩ := hs
        obtain ⟨q0, h0⟩ := hR _ _ ha
        exact va_alen (D := (dC, dI)) hx hb hK hP q0 1 h0 (ty := .long) rfl rfl hdg (k H locs ws hR hP hD hS)
      · cases hs
    · cases hs
  | ldc idx =>
    obtain rfl : len = 2 := by simpa [pv_ln] using hlen
    unfold pv_sh at hs
    dsimp only at hs
    split at hs
    · rename_i v hv
      simp only [Option.some.injEq, Prod.mk.injEq] at hs
      obtain ⟨rfl, rfl, rfl⟩ := hs
      exact lv_ldc hx hb hown (hbig _ (pv_bigmem (pv_kc_spec hv) rfl)) hdg (k H locs ws hR hP hD hS)
    · split at hs
      · rename_i q hq
        simp only [Option.some.injEq, Prod.mk.injEq] at hs
        obtain ⟨rfl, rfl, rfl⟩ := hs
        obtain ⟨tx, hz⟩ := hWd.2.2.1 _ _ _ hq
        exact va_ldcS hx hb hown hz hdg (k H locs ws hR hP hD hS)
      · cases hs
  | ldc_w idx =>
    obtain rfl : len = 3 := by simpa [pv_ln] using hlen
    unfold pv_sh at hs
    dsimp only at hs
    split at hs
    · rename_i v hv
      simp only [Option.some.injEq, Prod.mk.injEq] at hs
      obtain ⟨rfl, rfl, rfl⟩ := hs
      exact lv_ldcw hx hb hown (hbig _ (pv_bigmem (pv_kc_spec hv) rfl)) hdg (k H locs ws hR hP hD hS)
    · cases hs
  | ldc2_w idx =>
    obtain rfl : len = 3 := by simpa [pv_ln] using hlen
    unfold pv_sh at hs
    dsimp only at hs
    split at hs
    · rename_i v hv
      simp only [Option.some.injEq, Prod.mk.injEq] at hs
      obtain ⟨rfl, rfl, rfl⟩ := hs
      exact lv_ldc2 hx hb hown (hbig _ (pv_bigmem (pv_kd_spec hv) rfl)) hdg (k H locs ws hR hP hD hS)
    · cases hs
  | invokevirtual idx =>
    obtain rfl : len = 3 := by simpa [pv_ln] using hlen
    unfold pv_sh at hs
    dsimp only at hs
    split at hs
    · rename_i y hy
      have hlink : (Cond.methodLink (pv_own M) idx y).before args s = true := by
        rcases pv_ml_spec hy with ⟨-, z⟩ | ⟨z, z1, -⟩
        · exact hbig _ (pv_bigmem z rfl)
        · cases z1
      split at hs
      · rename_i hyl
        subst hyl
        split at hs
        · split at hs
          · rename_i q hq
            split at hs
            · rename_i hok
              simp only [Option.some.injEq, Prod.mk.injEq] at hs
              obtain ⟨rfl, rfl, rfl⟩ := hs
              obtain ⟨hq9, rfl⟩ := pv_si_spec hq
              simp only [pv_okL, Bool.and_eq_true, decide_eq_true_eq] at hok
              have cb : CallB R s args (pv_own M) idx pv_sln (pv_bc 21) (pv_mL 21) (pv_rt 21) (pv_wsM 21) (pv_rmM 21) 0 0 0 := callB_of 0 hts (pv_GoodIn pv_sl21.1) pv_sl21.2.1 rfl rfl (hbig _ (pv_bigmem pv_sl21.2.2.1 rfl)) hlink (by decide +kernel) ⟨by rw [hfr]; exact Nat.le_trans pv_sl21.2.2.2.1 hok.1.1, by rw [hlo]; exact Nat.le_trans pv_sl21.2.2.2.2.1 hok.1.2⟩
              exact pv_callS (va_runV (As := []) ⟨hx, hb, hml, hown, hts⟩ (hStr.1 q hq9) ⟨cb, hbig _ (pv_bigmem pv_sl21.2.2.2.2.2.1 rfl), hbig _ (pv_bigmem pv_sl21.2.2.2.2.2.2 rfl)⟩ ⟨pv_Wd.blind _, vk_recv hWd.2.1 hq9 hS, fun U hU hW => ⟨rfl, hWd.at hS hU hW⟩⟩ rfl rfl hl.1 rfl (lv_room hok.2) hdg ⟨by omega, by omega⟩) (k H locs ws hR hP hD hS)
            · cases hs
          · cases hs
        · cases hs
      · split at hs
        · rename_i hyl
          subst hyl
          split at hs
          · split at hs
            · rename_i q hq
              split at hs
              · rename_i hok
                simp only [Option.some.injEq, Prod.mk.injEq] at hs
                obtain ⟨rfl, rfl, rfl⟩ := hs
                obtain ⟨hq9, rfl⟩ := pv_si_spec hq
                simp only [pv_okL, Bool.and_eq_true, decide_eq_true_eq] at hok
                have cb : CallB R s args (pv_own M) idx pv_scn (pv_bc 23) (pv_mL 23) (pv_rt 23) (pv_wsM 23) (pv_rmM 23) 0 0 1 := callB_of 1 hts (pv_GoodIn pv_sl23.1) pv_sl23.2.1 rfl rfl (hbig _ (pv_bigmem pv_sl21.2.2.1 rfl)) hlink (by decide +kernel) ⟨by rw [hfr]; exact Nat.le_trans pv_sl23.2.2.1 hok.1.1, by rw [hlo]; exact Nat.le_trans pv_sl23.2.2.2.1 hok.1.2⟩
                exact pv_callS (va_runV (As := [.int _]) ⟨hx, hb, hml, hown, hts⟩ (hStr.2 q _ hq9 hok.2.2) ⟨cb, hbig _ (pv_bigmem pv_sl23.2.2.2.2.1 rfl), hbig _ (pv_bigmem pv_sl23.2.2.2.2.2 rfl)⟩ ⟨pv_Wd.blind _, vk_recv hWd.2.1 hq9 hS, fun U hU hW => ⟨rfl, hWd.at hS hU hW⟩⟩ rfl rfl hl.1 rfl (lv_room hok.2.1) hdg ⟨by omega, by omega⟩) (k H locs ws hR hP hD hS)
              · cases hs
            · cases hs
          · cases hs
        · cases hs
    · cases hs
  | invokestatic idx =>
    obtain rfl : len = 3 := by simpa [pv_ln] using hlen
    unfold pv_sh at hs
    dsimp only at hs
    split at hs
    · rename_i y hy
      have hlink : (Cond.methodLink (pv_own M) idx y).before args s = true := by
        rcases pv_ml_spec hy with ⟨-, z⟩ | ⟨z, z1, -⟩
        · exact hbig _ (pv_bigmem z rfl)
        · cases z1
      split at hs
      · rename_i hyl
        obtain ⟨rfl, hokC⟩ := hyl
        simp only [pv_okC, Bool.and_eq_true, decide_eq_true_eq] at hokC
        obtain ⟨⟨⟨⟨hc1, hc2⟩, hc3⟩, hc4⟩, hc5⟩ := hokC
        have hnw : nativeFrameWords "java/lang/System" "arraycopy" 5 = 7 := by decide +kernel
        split at hs
        · split at hs
          · rename_i hcc
            obtain ⟨hsum, hsp, hdp, hn0⟩ := hcc
            split at hs
            · rename_i n0 f0 n1 g0 ha0 ha
              split at hs
              · rename_i hle
                simp only [Option.some.injEq, Prod.mk.injEq] at hs
                obtain ⟨rfl, rfl, rfl⟩ := hs
                obtain ⟨q0, h0⟩ := hR _ _ ha0
                obtain ⟨q1, h1⟩ := hR _ _ ha
                exact va_copyi (D := (dC, dI)) hx hb (by rw [hml, hl.1]) hown hlink (hbig _ (pv_bigmem hc1 rfl)) (hbig _ (pv_bigmem hc2 rfl)) (hbig _ (pv_bigmem hc3 rfl)) hK hP hD hS q0 q1 0 0 h0 h1 rfl rfl rfl hsp hdp hn0 hle.1 hle.2 (fun _ _ => rfl) (by rw [hfr]; exact hc4) (by rw [hlo, hnw]; omega) hdg (fun H1 locs1 hP1 hD1 hS1 => k H1 locs1 _ (hR.set hD h1) hP1 hD1 hS1)
              · cases hs
            · rename_i n0 f0 n1 g0 ha0 ha
              split at hs
              · rename_i hle
                simp only [Option.some.injEq, Prod.mk.injEq] at hs
                obtain ⟨rfl, rfl, rfl⟩ := hs
                obtain ⟨q0, h0⟩ := hR _ _ ha0
                obtain ⟨q1, h1⟩ := hR _ _ ha
                exact va_copyl (D := (dC, dI)) hx hb (by rw [hml, hl.1]) hown hlink (hbig _ (pv_bigmem hc1 rfl)) (hbig _ (pv_bigmem hc2 rfl)) (hbig _ (pv_bigmem hc3 rfl)) hK hP hD hS q0 q1 1 1 h0 h1 rfl rfl rfl hsp hdp hn0 hle.1 hle.2 (fun _ _ => rfl) (by rw [hfr]; exact hc4) (by rw [hlo, hnw]; omega) hdg (fun H1 locs1 hP1 hD1 hS1 => k H1 locs1 _ (hR.set hD h1) hP1 hD1 hS1)
              · cases hs
            · cases hs
          · cases hs
        · cases hs
      · split at hs
        · rename_i hyl
          obtain ⟨rfl, hokM⟩ := hyl
          simp only [pv_okM, Bool.and_eq_true, decide_eq_true_eq] at hokM
          obtain ⟨⟨⟨⟨hc1, hc2⟩, hc3⟩, hc4⟩, hc5⟩ := hokM
          split at hs
          · split at hs
            · rename_i hsum
              simp only [Option.some.injEq, Prod.mk.injEq] at hs
              obtain ⟨rfl, rfl, rfl⟩ := hs
              exact va_mmax hx hb (by rw [hml, hl.1]) hown hlink (hbig _ (pv_bigmem hc1 rfl)) (hbig _ (pv_bigmem hc2 rfl)) (hbig _ (pv_bigmem hc3 rfl)) (by rw [hfr]; exact hc4) (by rw [hlo]; omega) (by omega) (by omega) hdg (k H locs ws hR hP hD hS)
            · cases hs
          · cases hs
        · split at hs
          · rename_i hyl
            obtain ⟨rfl, hokM⟩ := hyl
            simp only [pv_okM, Bool.and_eq_true, decide_eq_true_eq] at hokM
            obtain ⟨⟨⟨⟨hc1, hc2⟩, hc3⟩, hc4⟩, hc5⟩ := hokM
            split at hs
            · split at hs
              · rename_i hsum
                simp only [Option.some.injEq, Prod.mk.injEq] at hs
                obtain ⟨rfl, rfl, rfl⟩ := hs
                exact va_mmin hx hb (by rw [hml, hl.1]) hown hlink (hbig _ (pv_bigmem hc1 rfl)) (hbig _ (pv_bigmem hc2 rfl)) (hbig _ (pv_bigmem hc3 rfl)) (by rw [hfr]; exact hc4) (by rw [hlo]; omega) (by omega) (by omega) hdg (k H locs ws hR hP hD hS)
              · cases hs
            · cases hs
          · split at hs
            · rename_i hyl
              obtain ⟨rfl, hokM⟩ := hyl
              simp only [pv_okM, Bool.and_eq_true, decide_eq_true_eq] at hokM
              obtain ⟨⟨⟨⟨hc1, hc2⟩, hc3⟩, hc4⟩, hc5⟩ := hokM
              split at hs
              · split at hs
                · rename_i hsum
                  simp only [Option.some.injEq, Prod.mk.injEq] at hs
                  obtain ⟨rfl, rfl, rfl⟩ := hs
                  exact va_mabs_long hx hb (by rw [hml, hl.1]) hown hlink (hbig _ (pv_bigmem hc1 rfl)) (hbig _ (pv_bigmem hc2 rfl)) (hbig _ (pv_bigmem hc3 rfl)) (by rw [hfr]; exact hc4) (by rw [hlo]; omega) (by omega) (by omega) hdg (k H locs ws hR hP hD hS)
                · cases hs
              · cases hs
            · cases hs
    · cases hs
  | _ =>
    unfold pv_sh at hs
    dsimp only at hs
    cases hs
end SH
