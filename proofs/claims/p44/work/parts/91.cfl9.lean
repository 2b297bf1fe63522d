/-! what a call does not reach stays -/
def pv_res (τ : Nat → Option Nat) (S : Nat → Bool) : Nat → Option Nat := fun x => if S x = true then τ x else some 60
def pv_clo (τ : Nat → Option Nat) (ρ : Nat → Nat → Nat) (S : Nat → Bool) : Prop := ∀ a t, S a = true → τ a = some t → (∀ q k t' z, pv_tyO t = some q → q.2[k]? = some (4, t', z) → S (ρ a k) = true) ∧ ∀ q, pv_tyA t = some q → q.2.2.1 = 1 ∨ q.2.2.1 = 2 ∨ q.2.2.1 = 3
theorem pv_Ty.res {τ : Nat → Option Nat} {ρ : Nat → Nat → Nat} {h : pv_H} {S : Nat → Bool} (hT : pv_Ty τ ρ h) (hS : pv_clo τ ρ S) : pv_Ty (pv_res τ S) ρ h := by
  intro a t ha
  unfold pv_res at ha
  split at ha
  · rename_i hs
    obtain ⟨h1, h2⟩ := hT a t ha
    obtain ⟨s1, s2⟩ := hS a t hs ha
    refine ⟨fun q hq => ?_, fun q hq => ?_⟩
    · obtain ⟨fs, e, hl, hf⟩ := h1 q hq
      refine ⟨fs, e, hl, fun k ft v k1 k2 => ?_⟩
      have := hf k ft v k1 k2
      unfold pv_okF at this ⊢
      split at this
      · exact this
      · exact this
      · rename_i t' z
        refine ⟨this.1, ?_⟩
        unfold pv_res
        rw [if_pos (s1 q k t' z hq k1)]
        exact this.2
      · exact this
    · have := h2 q hq
      rcases s2 q hq with r | r | r <;> rw [r] at this ⊢ <;> exact this
  · cases ha
    exact ⟨fun q hq => (by cases hq), fun q hq => (by cases hq)⟩
theorem nk_wrap {K : Nat → Nat} {M : Nat} {as : List Value} {h : pv_H} {E : List Nat} {τ : Nat → Option Nat} {ρ : Nat → Nat → Nat} {Qf : (Nat → Option Nat) → Option Value → pv_H → Prop} (S : Nat → Bool) (hT : pv_Ty τ ρ h) (hS : pv_clo τ ρ S) (c : ∀ τ', pv_Ty τ' ρ h → (∀ x, S x = true → τ' x = τ x) → pv_C K M as h (Qf τ')) (hQ : ∀ τ' r h', Qf τ' r h' → pv_Fr τ' E h h') (hE : E.all (fun q => decide (q < 3840)) = true) : pv_C K M as h (fun r h' => Qf τ r h' ∧ ∀ x, S x = false → (∀ k, pv_fI h' x k = pv_fI h x k) ∧ ∀ i, pv_aI h' x i = pv_aI h x i) := by
  refine (pv_T.and (c τ hT (fun _ _ => rfl)) (c (pv_res τ S) (hT.res hS) (fun x hx => by unfold pv_res; rw [if_pos hx]))).mono (fun r h' q => ⟨q.1, fun x hx => ?_⟩)
  have F := hQ _ _ _ q.2 x 60 (by unfold pv_res; rw [if_neg (by rw [hx]; decide)])
  have no : ∀ k, 60 * 64 + k ∉ E := fun k hk => by
    have := List.all_eq_true.mp hE _ hk
    rw [decide_eq_true_eq] at this
    omega
  exact ⟨fun k => (F.1 k (no k)).1, fun i => (F.2 (no 63) i).1⟩
/-! ALL NETS OF THE CLASS -/
theorem nk_k.same {h h' : pv_H} {ρ : Nat → Nat → Nat} {a : Nat} (k : nk_k h ρ a) (f0 : pv_fI h' a 0 = pv_fI h a 0) (f1 : pv_fI h' a 1 = pv_fI h a 1) (f2 : pv_fI h' a 14 = pv_fI h a 14) (f3 : pv_fI h' a 15 = pv_fI h a 15) (a0 : pv_aI h' (ρ a 5) = pv_aI h (ρ a 5)) (a1 : pv_aI h' (ρ a 12) = pv_aI h (ρ a 12)) (a2 : pv_aI h' (ρ a 13) = pv_aI h (ρ a 13)) : nk_k h' ρ a := by
  unfold nk_k nk_ok nk_n nk_c at *
  rw [f0, f1, f2, f3, a0, a1, a2]
  exact k
def nk_inj (τ : Nat → Option Nat) (ρ : Nat → Nat → Nat) : Prop := ∀ a b, τ a = some 2 → τ b = some 2 → a ≠ b → ρ a 5 ≠ ρ b 5 ∧ ρ a 12 ≠ ρ b 12 ∧ ρ a 13 ≠ ρ b 13
def nk_w (τ : Nat → Option Nat) (ρ : Nat → Nat → Nat) (h : pv_H) : Prop := nk_inj τ ρ ∧ ∀ b, τ b = some 2 → nk_k h ρ b
theorem pv_Ty.net {τ : Nat → Option Nat} {ρ : Nat → Nat → Nat} {h : pv_H} {a : Nat} (hT : pv_Ty τ ρ h) (ha : τ a = some 2) : (τ (ρ a 5) = some 20 ∧ τ (ρ a 6) = some 21 ∧ τ (ρ a 7) = some 22 ∧ τ (ρ a 8) = some 23 ∧ τ (ρ a 9) = some 24) ∧ τ (ρ a 10) = some 25 ∧ τ (ρ a 11) = some 26 ∧ τ (ρ a 12) = some 27 ∧ τ (ρ a 13) = some 28 :=
  ⟨⟨hT.rf (t' := 20) ha rfl rfl, hT.rf (t' := 21) ha rfl rfl, hT.rf (t' := 22) ha rfl rfl, hT.rf (t' := 23) ha rfl rfl, hT.rf (t' := 24) ha rfl rfl⟩, hT.rf (t' := 25) ha rfl rfl, hT.rf (t' := 26) ha rfl rfl, hT.rf (t' := 27) ha rfl rfl, hT.rf (t' := 28) ha rfl rfl⟩
theorem nk_w.fr {τ : Nat → Option Nat} {ρ : Nat → Nat → Nat} {h h' : pv_H} {E : List Nat} (w : nk_w τ ρ h) (hT : pv_Ty τ ρ h) (F : pv_Fr τ E h h') (hE : E.all (fun q => decide (q ≠ 128 ∧ q ≠ 129 ∧ q ≠ 142 ∧ q ≠ 143 ∧ q ≠ 1343 ∧ q ≠ 1791 ∧ q ≠ 1855)) = true) : nk_w τ ρ h' := by
  have no : ∀ q, q = 128 ∨ q = 129 ∨ q = 142 ∨ q = 143 ∨ q = 1343 ∨ q = 1791 ∨ q = 1855 → q ∉ E := fun q hq hc => by
    have := List.all_eq_true.mp hE _ hc
    rw [decide_eq_true_eq] at this
    omega
  refine ⟨w.1, fun b hb => (w.2 b hb).same ((F b 2 hb).1 0 (no _ (by omega))).1 ((F b 2 hb).1 1 (no _ (by omega))).1 ((F b 2 hb).1 14 (no _ (by omega))).1 ((F b 2 hb).1 15 (no _ (by omega))).1 (funext fun j => ?_) (funext fun j => ?_) (funext fun j => ?_)⟩
  · exact ((F _ 20 (hT.net hb).1.1).2 (no _ (by omega)) j).1
  · exact ((F _ 27 (hT.net hb).2.2.2.1).2 (no _ (by omega)) j).1
  · exact ((F _ 28 (hT.net hb).2.2.2.2).2 (no _ (by omega)) j).1
def nk_S (ρ : Nat → Nat → Nat) (a : Nat) (x : Nat) : Bool := x == a || x == ρ a 5 || x == ρ a 6 || x == ρ a 7 || x == ρ a 8 || x == ρ a 9 || x == ρ a 10 || x == ρ a 11 || x == ρ a 12 || x == ρ a 13
theorem nk_S_t {ρ : Nat → Nat → Nat} {a x : Nat} : nk_S ρ a x = true ↔ x = a ∨ x = ρ a 5 ∨ x = ρ a 6 ∨ x = ρ a 7 ∨ x = ρ a 8 ∨ x = ρ a 9 ∨ x = ρ a 10 ∨ x = ρ a 11 ∨ x = ρ a 12 ∨ x = ρ a 13 := by
  unfold nk_S
  simp only [Bool.or_eq_true, beq_iff_eq, or_assoc]
theorem nk_netk {k : Nat} {t' z : Int} {q : Nat × List (Nat × Int × Int)} (hq : pv_tyO 2 = some q) (h : q.2[k]? = some (4, t', z)) : 5 ≤ k ∧ k ≤ 13 := by
  cases hq
  rcases Nat.lt_or_ge k 16 with r | r
  · have : k = 0 ∨ k = 1 ∨ k = 2 ∨ k = 3 ∨ k = 4 ∨ k = 14 ∨ k = 15 ∨ (5 ≤ k ∧ k ≤ 13) := by omega
    rcases this with r | r | r | r | r | r | r | r
    all_goals first | exact r | (subst r; exact absurd h (by simp))
  · rw [List.getElem?_eq_none (by exact r)] at h
    cases h
theorem nk_S_clo {τ : Nat → Option Nat} {ρ : Nat → Nat → Nat} {h : pv_H} {a : Nat} (hT : pv_Ty τ ρ h) (ha : τ a = some 2) : pv_clo τ ρ (nk_S ρ a) := by
  intro x t hx ht
  obtain ⟨⟨n5, n6, n7, n8, n9⟩, n10, n11, n12, n13⟩ := hT.net ha
  rcases nk_S_t.mp hx with r | r | r | r | r | r | r | r | r | r
  · subst r
    cases ha.symm.trans ht
    refine ⟨fun q k t' z hq hk => ?_, fun q hq => (by cases hq)⟩
    have := nk_netk hq hk
    rw [nk_S_t]
    rcases (show k = 5 ∨ k = 6 ∨ k = 7 ∨ k = 8 ∨ k = 9 ∨ k = 10 ∨ k = 11 ∨ k = 12 ∨ k = 13 by omega) with r | r | r | r | r | r | r | r | r <;> subst r <;> simp
  all_goals
    subst r
    first
    | cases n5.symm.trans ht
    | cases n6.symm.trans ht
    | cases n7.symm.trans ht
    | cases n8.symm.trans ht
    | cases n9.symm.trans ht
    | cases n10.symm.trans ht
    | cases n11.symm.trans ht
    | cases n12.symm.trans ht
    | cases n13.symm.trans ht
    exact ⟨fun q k t' z hq => (by cases hq), fun q hq => (by cases hq; exact Or.inl rfl)⟩
/-- another net, and its cells, lie outside -/
theorem nk_S_no {τ : Nat → Option Nat} {ρ : Nat → Nat → Nat} {h : pv_H} {a b : Nat} (hT : pv_Ty τ ρ h) (hi : nk_inj τ ρ) (ha : τ a = some 2) (hb : τ b = some 2) (hne : b ≠ a) : nk_S ρ a b = false ∧ nk_S ρ a (ρ b 5) = false ∧ nk_S ρ a (ρ b 12) = false ∧ nk_S ρ a (ρ b 13) = false := by
  obtain ⟨⟨n5, n6, n7, n8, n9⟩, n10, n11, n12, n13⟩ := hT.net ha
  obtain ⟨⟨m5, m6, m7, m8, m9⟩, m10, m11, m12, m13⟩ := hT.net hb
  obtain ⟨i1, i2, i3⟩ := hi a b ha hb (Ne.symm hne)
  have key : ∀ x t, τ x = some t → (x = a → False) → (x = ρ a 5 → False) → (x = ρ a 12 → False) → (x = ρ a 13 → False) → (t = 2 ∨ t = 20 ∨ t = 27 ∨ t = 28) → nk_S ρ a x = false := by
    intro x t hx k0 k5 k12 k13 ht
    rw [← Bool.not_eq_true, nk_S_t]
    rintro (r | r | r | r | r | r | r | r | r | r)
    · exact k0 r
    · exact k5 r
    · subst r; cases hx.symm.trans n6; omega
    · subst r; cases hx.symm.trans n7; omega
    · subst r; cases hx.symm.trans n8; omega
    · subst r; cases hx.symm.trans n9; omega
    · subst r; cases hx.symm.trans n10; omega
    · subst r; cases hx.symm.trans n11; omega
    · exact k12 r
    · exact k13 r
  refine ⟨key b 2 hb hne ?_ ?_ ?_ (by omega), key _ 20 m5 ?_ (fun e => i1 e.symm) ?_ ?_ (by omega), key _ 27 m12 ?_ ?_ (fun e => i2 e.symm) ?_ (by omega), key _ 28 m13 ?_ ?_ ?_ (fun e => i3 e.symm) (by omega)⟩
  all_goals
    intro e
    first
    | (rw [e, n5] at hb; cases hb; done)
    | (rw [e, n12] at hb; cases hb; done)
    | (rw [e, n13] at hb; cases hb; done)
    | (rw [e, ha] at m5; cases m5; done)
    | (rw [e, n12] at m5; cases m5; done)
    | (rw [e, n13] at m5; cases m5; done)
    | (rw [e, ha] at m12; cases m12; done)
    | (rw [e, n5] at m12; cases m12; done)
    | (rw [e, n13] at m12; cases m12; done)
    | (rw [e, ha] at m13; cases m13; done)
    | (rw [e, n5] at m13; cases m13; done)
    | (rw [e, n12] at m13; cases m13; done)
/-- a net is changed, and stays good: so do all -/
theorem nk_w.one {τ : Nat → Option Nat} {ρ : Nat → Nat → Nat} {h h' : pv_H} {a : Nat} {S : Nat → Bool} (w : nk_w τ ρ h) (k : nk_k h' ρ a) (hS : ∀ b, τ b = some 2 → b ≠ a → S b = false ∧ S (ρ b 5) = false ∧ S (ρ b 12) = false ∧ S (ρ b 13) = false) (hs : ∀ x, S x = false → (∀ k, pv_fI h' x k = pv_fI h x k) ∧ ∀ i, pv_aI h' x i = pv_aI h x i) : nk_w τ ρ h' := by
  refine ⟨w.1, fun b hb => ?_⟩
  by_cases e : b = a
  · rw [e]; exact k
  · obtain ⟨s1, s2, s3, s4⟩ := hS b hb e
    exact (w.2 b hb).same ((hs b s1).1 0) ((hs b s1).1 1) ((hs b s1).1 14) ((hs b s1).1 15) (funext (hs _ s2).2) (funext (hs _ s3).2) (funext (hs _ s4).2)
/-- after a flip, all of the row are remembered -/
theorem nk_ok.pr {h h' : pv_H} {ρ : Nat → Nat → Nat} {a : Nat} (k : nk_ok h ρ a) (f3 : pv_fI h' a 15 = pv_fI h a 14) (a2 : pv_aI h' (ρ a 13) = pv_aI h (ρ a 13)) : ∀ i : Nat, (i : Int) < pv_fI h' a 15 → pv_aI h' (ρ a 13) (13 * i) ≠ pv_aI h' (ρ a 13) (13 * i + 1) := by
  intro i hi
  rw [a2]
  obtain ⟨h0, G, h1, h2, h3⟩ := k.2
  obtain ⟨t, u, x, y, k1, -⟩ := h3 i (by omega)
  have : pv_aI h (ρ a 13) (13 * i) < pv_aI h (ρ a 13) (13 * i + 1) := k1.1.2.2.1
  omega
theorem nk_k.rem {h h' : pv_H} {ρ : Nat → Nat → Nat} {a : Nat} (k : nk_ok h ρ a) (f0 : pv_fI h' a 0 = pv_fI h a 0) (f1 : pv_fI h' a 1 = pv_fI h a 1) (f2 : pv_fI h' a 14 = pv_fI h a 14) (f3 : pv_fI h' a 15 = pv_fI h a 14) (a0 : pv_aI h' (ρ a 5) = pv_aI h (ρ a 5)) (a1 : pv_aI h' (ρ a 12) = pv_aI h (ρ a 12)) (a2 : pv_aI h' (ρ a 13) = pv_aI h (ρ a 13)) : nk_k h' ρ a := by
  refine ⟨?_, k.pr f3 a2⟩
  unfold nk_ok nk_n nk_c at *
  rw [f0, f1, f2, a0, a1, a2]
  exact k
/-- flips forgotten -/
theorem nk_k.non {h h' : pv_H} {ρ : Nat → Nat → Nat} {a : Nat} (k : nk_ok h ρ a) (f0 : pv_fI h' a 0 = pv_fI h a 0) (f1 : pv_fI h' a 1 = pv_fI h a 1) (f2 : pv_fI h' a 14 = 0) (f3 : pv_fI h' a 15 = 0) (a0 : pv_aI h' (ρ a 5) = pv_aI h (ρ a 5)) (a1 : pv_aI h' (ρ a 12) = pv_aI h (ρ a 12)) : nk_k h' ρ a := by
  refine ⟨⟨?_, ?_⟩, fun i hi => by omega⟩
  · have := k.1
    unfold nk_n nk_c at *
    rw [f1, a0, a1]
    exact this
  · have := k.2.good
    unfold nk_n nk_c at *
    rw [f0, f1, f2, a0]
    exact pf_ch.zero this
/-- a net is as another was -/
theorem nk_k.cp {h h' : pv_H} {ρ : Nat → Nat → Nat} {a b : Nat} (k : nk_k h ρ a) (hn : nk_n h a ≤ 18) (hd : pv_fI h a 14 ≤ 99) (hr : pv_fI h a 15 ≤ 99) (f0 : pv_fI h' b 0 = pv_fI h a 0) (f1 : pv_fI h' b 1 = pv_fI h a 1) (f2 : pv_fI h' b 14 = pv_fI h a 14) (f3 : pv_fI h' b 15 = pv_fI h a 15) (a0 : ∀ j : Nat, j < 54 → pv_aI h' (ρ b 5) j = pv_aI h (ρ a 5) j) (a1 : ∀ j : Nat, j < 100 → pv_aI h' (ρ b 12) j = pv_aI h (ρ a 12) j) (a2 : ∀ j : Nat, j < 1287 → pv_aI h' (ρ b 13) j = pv_aI h (ρ a 13) j) : nk_k h' ρ b := by
  have en : nk_n h' b = nk_n h a := by unfold nk_n; rw [f1]
  have ec : ∀ t k : Nat, t < nk_n h a → k < 3 → nk_c h' ρ b t k = nk_c h ρ a t k := fun t k ht hk => a0 _ (by omega)
  refine ⟨⟨?_, ?_⟩, fun i hi => ?_⟩
  · rw [en]
    intro p q hp hq
    rw [a1 _ (by omega), k.1.1 p q hp hq]
    exact pd_sum_congr (fun t ht => pf_cn_c (fun k hk => (ec t k ht hk).symm))
  · rw [en, f0, f2]
    refine k.1.2.congr (fun t k ht hk => (ec t k ht hk).symm) (fun i hi => ⟨a2 _ (by omega), a2 _ (by omega)⟩) (fun i hi => ⟨a2 _ (by omega), a2 _ (by omega), fun k hk => ⟨a2 _ (by omega), a2 _ (by omega)⟩⟩)
  · rw [f3] at hi
    rw [a2 _ (by omega), a2 _ (by omega)]
    exact k.2 i hi
theorem cf_end {τ : Nat → Option Nat} {ρ : Nat → Nat → Nat} {h h' : pv_H} {a b : Nat} (w : nk_w τ ρ h) (hT : pv_Ty τ ρ h) (ha : τ a = some 2) (hb : τ b = some 2)
    (f0 : ∀ c, τ c = some 2 → pv_fI h' c 0 = if c = a then pv_fI h b 0 else pv_fI h c 0) (f1 : ∀ c, τ c = some 2 → pv_fI h' c 1 = if c = a then pv_fI h b 1 else pv_fI h c 1) (f2 : ∀ c, τ c = some 2 → pv_fI h' c 14 = if c = a then pv_fI h b 14 else pv_fI h c 14) (f3 : ∀ c, τ c = some 2 → pv_fI h' c 15 = if c = a then pv_fI h b 15 else pv_fI h c 15)
    (a0 : ∀ c, τ c = some 20 → ∀ j, pv_aI h' c j = if c = ρ a 5 ∧ j < 54 then pv_aI h (ρ b 5) j else pv_aI h c j) (a1 : ∀ c, τ c = some 27 → ∀ j, pv_aI h' c j = if c = ρ a 12 ∧ j < 100 then pv_aI h (ρ b 12) j else pv_aI h c j) (a2 : ∀ c, τ c = some 28 → ∀ j, pv_aI h' c j = if c = ρ a 13 ∧ j < 1287 then pv_aI h (ρ b 13) j else pv_aI h c j) : nk_w τ ρ h' := by
  refine ⟨w.1, fun c hc => ?_⟩
  obtain ⟨⟨n5, -, -, -, -⟩, -, -, n12, n13⟩ := hT.net hc
  by_cases e : c = a
  · subst e
    have g14 := hT.fI (k := 14) hb rfl rfl
    have g15 := hT.fI (k := 15) hb rfl rfl
    refine (w.2 b hb).cp (nk_18 hT hb) g14.2 g15.2 (by rw [f0 _ hc, if_pos rfl]) (by rw [f1 _ hc, if_pos rfl]) (by rw [f2 _ hc, if_pos rfl]) (by rw [f3 _ hc, if_pos rfl]) (fun j hj => ?_) (fun j hj => ?_) (fun j hj => ?_)
    · rw [a0 _ n5, if_pos ⟨rfl, hj⟩]
    · rw [a1 _ n12, if_pos ⟨rfl, hj⟩]
    · rw [a2 _ n13, if_pos ⟨rfl, hj⟩]
  · obtain ⟨i1, i2, i3⟩ := w.1 c a hc ha e
    refine (w.2 c hc).same (by rw [f0 _ hc, if_neg e]) (by rw [f1 _ hc, if_neg e]) (by rw [f2 _ hc, if_neg e]) (by rw [f3 _ hc, if_neg e]) (funext fun j => ?_) (funext fun j => ?_) (funext fun j => ?_)
    · rw [a0 _ n5, if_neg (fun z => i1 z.1)]
    · rw [a1 _ n12, if_neg (fun z => i2 z.1)]
    · rw [a2 _ n13, if_neg (fun z => i3 z.1)]
/-- all are remembered -/
theorem fa_end {τ : Nat → Option Nat} {ρ : Nat → Nat → Nat} {h h' : pv_H} {a : Nat} (w : nk_w τ ρ h) (hT : pv_Ty τ ρ h) (F : pv_Fr τ [143] h h') (E : ∀ b j, pv_fI h' b j = if b = a ∧ j = 15 then pv_fI h a 14 else pv_fI h b j) : nk_w τ ρ h' := by
  refine ⟨w.1, fun c hc => ?_⟩
  obtain ⟨⟨n5, -, -, -, -⟩, -, -, n12, n13⟩ := hT.net hc
  have e5 := F.aeq n5 (by decide)
  have e12 := F.aeq n12 (by decide)
  have e13 := F.aeq n13 (by decide)
  by_cases e : c = a
  · subst e
    exact nk_k.rem (w.2 c hc).1 (by rw [E, if_neg (by omega)]) (by rw [E, if_neg (by omega)]) (by rw [E, if_neg (by omega)]) (by rw [E, if_pos ⟨rfl, rfl⟩]) e5 e12 e13
  · exact (w.2 c hc).same (by rw [E, if_neg (fun z => e z.1)]) (by rw [E, if_neg (fun z => e z.1)]) (by rw [E, if_neg (fun z => e z.1)]) (by rw [E, if_neg (fun z => e z.1)]) e5 e12 e13
