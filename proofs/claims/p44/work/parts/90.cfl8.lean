/-! two ends of one run are one -/
theorem pv_T.and {K : Nat → Nat} {M pc : Nat} {f : pv_F} {st : List Value} {h : pv_H} {Q Q' : Option Value → pv_H → Prop} (k : pv_T K M pc f st h Q) (k' : pv_T K M pc f st h Q') : pv_T K M pc f st h (fun r h' => Q r h' ∧ Q' r h') := by
  obtain ⟨n1, r1, h1, e1, q1⟩ := k
  obtain ⟨n2, r2, h2, e2, q2⟩ := k'
  have a1 := pv_ev_mono K _ _ _ _ _ _ _ e1 _ (Nat.le_max_left n1 n2)
  have a2 := pv_ev_mono K _ _ _ _ _ _ _ e2 _ (Nat.le_max_right n1 n2)
  have e := a1.symm.trans a2
  cases e
  exact ⟨_, _, _, a1, q1, q2⟩
/-- an int field is written, and no other -/
theorem pw_putIA {K : Nat → Nat} {M pc : Nat} {f : pv_F} {st : List Value} {h : pv_H} {Q : Option Value → pv_H → Prop} {τ : Nat → Option Nat} {ρ : Nat → Nat → Nat} {a k ci t idx : Nat} {x lo hi : Int} {fts : List (Nat × Int × Int)} (hd : pv_dec M pc = some (.putfield idx, 3)) (hg : pv_gf M idx = some (ci, k)) (hty : pv_ft ci k = some .int) (hT : pv_Ty τ ρ h) (ha : τ a = some t) (ht : pv_tyO t = some (ci, fts)) (hA : pv_tyA t = none) (hk : fts[k]? = some (1, lo, hi)) (hr : pv_r x) (hx : lo ≤ x ∧ x ≤ hi) (kk : ∀ h', pv_Ty τ ρ h' → pv_Fr τ [t * 64 + k] h h' → (∀ b j, pv_fI h' b j = if b = a ∧ j = k then x else pv_fI h b j) → pv_T K M (pc + 3) f st h' Q) : pv_T K M pc f (.int (pv_I x) :: .ref a :: st) h Q := by
  obtain ⟨fs, e, hl, hf⟩ := (hT a t ha).1 _ ht
  have hkl : k < fs.length := by rw [hl]; exact (List.getElem?_eq_some_iff.mp hk).1
  refine pw_steph hd rfl rfl (pv_sh_put hg hty e rfl rfl hkl rfl) (kk _ (hT.putF ha ht hA hk e ⟨_, rfl, by rw [pv_I_toInt hr]; exact hx.1, by rw [pv_I_toInt hr]; exact hx.2⟩) (pv_Fr.putF ha e) (fun b j => ?_))
  by_cases hba : b = a
  · subst hba
    by_cases hj : j = k
    · subst hj
      rw [if_pos ⟨rfl, rfl⟩]
      simp only [pv_fI, pv_set_self, List.getElem?_set_self hkl, pv_I_toInt hr]
    · rw [if_neg (fun z => hj z.2)]
      simp only [pv_fI, pv_set_self, e, List.getElem?_set_ne (Ne.symm hj)]
  · rw [if_neg (fun z => hba z.1)]
    exact (pv_set_fI hba).1
/-- corners are noted: they fit where they go -/
theorem cp_hel {τ : Nat → Option Nat} {ρ : Nat → Nat → Nat} {h : pv_H} {a : Nat} {sp dp : Int} (hT : pv_Ty τ ρ h) (ha : τ a = some 20) (h0 : 0 ≤ sp ∧ sp ≤ 51) (hd0 : 0 ≤ dp) (hd : dp % 13 = 4 ∨ dp % 13 = 9) : ∀ i : Nat, (i : Int) < 3 → ∀ q, ([(0, 9), (0, 9), (0, 360), (0, 17), (0, 9), (0, 9), (0, 9), (0, 540), (0, 17), (0, 9), (0, 9), (0, 9), (0, 540)] : List (Int × Int))[(dp.toNat + i) % ([(0, 9), (0, 9), (0, 360), (0, 17), (0, 9), (0, 9), (0, 9), (0, 540), (0, 17), (0, 9), (0, 9), (0, 9), (0, 540)] : List (Int × Int)).length]? = some q → q.1 ≤ pv_aI h a (sp.toNat + i) ∧ pv_aI h a (sp.toNat + i) ≤ q.2 := by
  intro i hi q hq
  obtain ⟨g0, e0, hf0⟩ := (hT a 20 ha).2 _ rfl
  have e3 : pv_aI h a (sp.toNat + i) = (g0 (sp.toNat + i)).toInt := by simp only [pv_aI, e0]
  have b := hf0 (sp.toNat + i) (show sp.toNat + i < 54 by omega) (0, 9) (by simp [Nat.mod_one])
  rw [e3]
  have hl : ([(0, 9), (0, 9), (0, 360), (0, 17), (0, 9), (0, 9), (0, 9), (0, 540), (0, 17), (0, 9), (0, 9), (0, 9), (0, 540)] : List (Int × Int)).length = 13 := rfl
  rw [hl] at hq
  rcases (show (dp.toNat + i) % 13 = 4 ∨ (dp.toNat + i) % 13 = 5 ∨ (dp.toNat + i) % 13 = 6 ∨ (dp.toNat + i) % 13 = 9 ∨ (dp.toNat + i) % 13 = 10 ∨ (dp.toNat + i) % 13 = 11 by omega) with r | r | r | r | r | r <;> rw [r] at hq <;> cases hq <;> exact b
theorem pe_cp {h h' : pv_H} {a s dp n sp : Nat} (E : ∀ b j, pv_aI h' b j = if b = a ∧ dp ≤ j ∧ j < dp + n then pv_aI h s (sp + (j - dp)) else pv_aI h b j) : ∀ j, pv_aI h' a j = if dp ≤ j ∧ j < dp + n then pv_aI h s (sp + (j - dp)) else pv_aI h a j := fun j => by rw [E]; simp only [true_and]
/-- what note writes -/
theorem nt_w {C H H1 H2 H3 : Nat → Int} {x t s : Int} (h0 : 0 ≤ x) (ht : 0 ≤ t) (e1 : ∀ j, H1 j = if j = x.toNat then t else H j) (e2 : ∀ j, H2 j = if (x + 1).toNat ≤ j ∧ j < (x + 1).toNat + (3 : Int).toNat then C ((3 * t).toNat + (j - (x + 1).toNat)) else H1 j) (e3 : ∀ j, H3 j = if j = (x + 4).toNat then s else H2 j) : (H3 x.toNat = t ∧ ∀ k : Nat, k < 3 → H3 (x.toNat + 1 + k) = C (3 * t.toNat + k)) ∧ ∀ j, (j < x.toNat ∨ x.toNat + 5 ≤ j) → H3 j = H j := by
  have e9 : (3 : Int).toNat = 3 := rfl
  rw [e9] at e2
  refine ⟨⟨?_, fun k hk => ?_⟩, fun j hj => ?_⟩
  · rw [e3, if_neg (by omega), e2, if_neg (by omega), e1, if_pos rfl]
  · rw [e3, if_neg (by omega), e2, if_pos (by omega)]
    congr 1
    omega
  · rw [e3, if_neg (by omega), e2, if_neg (by omega), e1, if_neg (by omega)]
theorem pf_cn_b {c : Nat → Nat → Int} {t : Nat} {p q : Int} : 0 ≤ pf_cn c t p q ∧ pf_cn c t p q ≤ 6 := @sh_s_b c t 3 p q
theorem pf_sh.b {n : Nat} {c : Nat → Nat → Int} {S : Nat → Int} (h : pf_sh n c S) (hn : n ≤ 18) : ∀ j : Nat, j < 100 → 0 ≤ S j ∧ S j ≤ 108 := by
  intro j hj
  have e := h (j / 10) (j % 10) (by omega) (by omega)
  rw [show 10 * (j / 10) + j % 10 = j by omega] at e
  have l1 := pd_sum_le (n := n) (f := fun _ => 0) (g := fun t => pf_cn c t (j / 10 : Nat) (j % 10 : Nat)) (fun i _ => pf_cn_b.1)
  have l2 := pd_sum_le (n := n) (g := fun _ => 6) (f := fun t => pf_cn c t (j / 10 : Nat) (j % 10 : Nat)) (fun i _ => pf_cn_b.2)
  have l3 : ∀ m : Nat, pd_sum m (fun _ => (6 : Int)) = 6 * m := by
    intro m
    induction m with
    | zero => rfl
    | succ m ih => rw [show pd_sum (m + 1) (fun _ => (6 : Int)) = pd_sum m (fun _ => 6) + 6 from rfl, ih]; omega
  rw [pd_sum_zero (fun _ _ => rfl)] at l1
  rw [l3] at l2
  omega
/-- a count within bounds after a third is lifted or put -/
theorem sh_b {S S' : Nat → Int} {c : Nat → Nat → Int} {t : Nat} {lo hi : Int} (h : ∀ j : Nat, j < 100 → lo ≤ S j ∧ S j ≤ hi) (e : (∀ p q : Nat, p < 10 → q < 10 → S' (10 * p + q) = S (10 * p + q) - pf_cn c t p q) ∨ (∀ p q : Nat, p < 10 → q < 10 → S' (10 * p + q) = S (10 * p + q) + pf_cn c t p q)) : ∀ j : Nat, j < 100 → lo - 6 ≤ S' j ∧ S' j ≤ hi + 6 := by
  intro j hj
  have b := h j hj
  have c1 := @pf_cn_b c t (j / 10 : Nat) (j % 10 : Nat)
  rcases e with e | e
  · have e := e (j / 10) (j % 10) (by omega) (by omega)
    rw [show 10 * (j / 10) + j % 10 = j by omega] at e
    omega
  · have e := e (j / 10) (j % 10) (by omega) (by omega)
    rw [show 10 * (j / 10) + j % 10 = j by omega] at e
    omega
theorem sh_1000 {S : Nat → Int} {lo hi : Int} (h : ∀ j : Nat, j < 100 → lo ≤ S j ∧ S j ≤ hi) (h1 : -1000 ≤ lo) (h2 : hi ≤ 1000) : ∀ j : Nat, j < 100 → -1000 ≤ S j ∧ S j ≤ 1000 := fun j hj => by have := h j hj; omega
theorem pf_cn_c {c c' : Nat → Nat → Int} {t : Nat} {p q : Int} (h : ∀ k, k < 3 → c t k = c' t k) : pf_cn c t p q = pf_cn c' t p q := by
  unfold pf_cn
  rw [h 0 (by omega), h 1 (by omega), h 2 (by omega)]
/-- two thirds lifted, two put -/
theorem sh_swap {n : Nat} {c c1 c2 : Nat → Nat → Int} {S S1 S2 S3 S4 : Nat → Int} {t u : Nat} (h : pf_sh n c S) (ht : t < n) (hu : u < n) (htu : t ≠ u) (e1 : ∀ p q : Nat, p < 10 → q < 10 → S1 (10 * p + q) = S (10 * p + q) - pf_cn c t p q) (e2 : ∀ p q : Nat, p < 10 → q < 10 → S2 (10 * p + q) = S1 (10 * p + q) - pf_cn c u p q) (k1 : ∀ v k : Nat, k < 3 → v ≠ t → c1 v k = c v k) (e3 : ∀ p q : Nat, p < 10 → q < 10 → S3 (10 * p + q) = S2 (10 * p + q) + pf_cn c1 t p q) (k2 : ∀ v k : Nat, k < 3 → v ≠ u → c2 v k = c1 v k) (e4 : ∀ p q : Nat, p < 10 → q < 10 → S4 (10 * p + q) = S3 (10 * p + q) + pf_cn c2 u p q) : pf_sh n c2 S4 := by
  intro p q hp hq
  rw [e4 p q hp hq, e3 p q hp hq, e2 p q hp hq, e1 p q hp hq, h p q hp hq]
  have a1 := pd_sum_chg (f := fun v => pf_cn c1 v p q) (g := fun v => pf_cn c v p q) ht (fun i _ hne => pf_cn_c (fun k hk => k1 i k hk hne))
  have a2 := pd_sum_chg (f := fun v => pf_cn c2 v p q) (g := fun v => pf_cn c1 v p q) hu (fun i _ hne => pf_cn_c (fun k hk => k2 i k hk hne))
  have a3 : pf_cn c1 u p q = pf_cn c u p q := pf_cn_c (fun k hk => k1 u k hk (Ne.symm htu))
  omega
/-- a net of the class, with the sides of what is remembered -/
def nk_k (h : pv_H) (ρ : Nat → Nat → Nat) (a : Nat) : Prop := nk_ok h ρ a ∧ ∀ i : Nat, (i : Int) < pv_fI h a 15 → pv_aI h (ρ a 13) (13 * i) ≠ pv_aI h (ρ a 13) (13 * i + 1)
theorem nk_18 {τ : Nat → Option Nat} {ρ : Nat → Nat → Nat} {h : pv_H} {a : Nat} (hT : pv_Ty τ ρ h) (ha : τ a = some 2) : nk_n h a ≤ 18 := by
  have := hT.fI (k := 1) ha rfl rfl
  unfold nk_n
  omega
/-- after a flip -/
theorem ap_end {h h' : pv_H} {ρ : Nat → Nat → Nat} {a : Nat} {p q t u x y w : Int} {c1 : Nat → Nat → Int} {S1 S2 S3 H1 H2 H3 H4 : Nat → Int} (ok : nk_k h ρ a) (f0 : nk_ff h ρ a p q) (hpq : p < q) (ht : 0 ≤ t ∧ t < pv_fI h a 1 ∧ pf_on (nk_c h ρ a) t.toNat p q) (hu : 0 ≤ u ∧ u < pv_fI h a 1 ∧ pf_on (nk_c h ρ a) u.toNat p q) (mt : ∀ v : Nat, 0 ≤ (v : Int) → (v : Int) < t → ¬ pf_on (nk_c h ρ a) v p q) (mu : ∀ v : Nat, t + 1 ≤ (v : Int) → (v : Int) < u → ¬ pf_on (nk_c h ρ a) v p q) (htu : t + 1 ≤ u)
    (ex : x = min (pf_by (nk_c h ρ a) t.toNat p q) (pf_by (nk_c h ρ a) u.toNat p q)) (ey : y = max (pf_by (nk_c h ρ a) t.toNat p q) (pf_by (nk_c h ρ a) u.toNat p q)) (hd : 0 ≤ pv_fI h a 14)
    (g1 : ∀ j, H1 j = if j = (13 * pv_fI h a 14).toNat then p else pv_aI h (ρ a 13) j) (g2 : ∀ j, H2 j = if j = (13 * pv_fI h a 14 + 1).toNat then q else H1 j) (g3 : ∀ j, H3 j = if j = (13 * pv_fI h a 14 + 2).toNat then w else H2 j)
    (g4 : (H4 (13 * pv_fI h a 14 + 3).toNat = t ∧ ∀ k : Nat, k < 3 → H4 ((13 * pv_fI h a 14 + 3).toNat + 1 + k) = nk_c h ρ a t.toNat k) ∧ ∀ j, (j < (13 * pv_fI h a 14 + 3).toNat ∨ (13 * pv_fI h a 14 + 3).toNat + 5 ≤ j) → H4 j = H3 j)
    (g5 : (pv_aI h' (ρ a 13) (13 * pv_fI h a 14 + 8).toNat = u ∧ ∀ k : Nat, k < 3 → pv_aI h' (ρ a 13) ((13 * pv_fI h a 14 + 8).toNat + 1 + k) = nk_c h ρ a u.toNat k) ∧ ∀ j, (j < (13 * pv_fI h a 14 + 8).toNat ∨ (13 * pv_fI h a 14 + 8).toNat + 5 ≤ j) → pv_aI h' (ρ a 13) j = H4 j)
    (e1 : ∀ p q : Nat, p < 10 → q < 10 → S1 (10 * p + q) = pv_aI h (ρ a 12) (10 * p + q) - pf_cn (nk_c h ρ a) t.toNat p q) (e2 : ∀ p q : Nat, p < 10 → q < 10 → S2 (10 * p + q) = S1 (10 * p + q) - pf_cn (nk_c h ρ a) u.toNat p q)
    (k1 : (c1 t.toNat 0 = p ∧ c1 t.toNat 1 = x ∧ c1 t.toNat 2 = y) ∧ ∀ v k : Nat, k < 3 → v ≠ t.toNat → c1 v k = nk_c h ρ a v k) (e3 : ∀ p q : Nat, p < 10 → q < 10 → S3 (10 * p + q) = S2 (10 * p + q) + pf_cn c1 t.toNat p q)
    (k2 : (nk_c h' ρ a u.toNat 0 = q ∧ nk_c h' ρ a u.toNat 1 = x ∧ nk_c h' ρ a u.toNat 2 = y) ∧ ∀ v k : Nat, k < 3 → v ≠ u.toNat → nk_c h' ρ a v k = c1 v k) (e4 : ∀ p q : Nat, p < 10 → q < 10 → pv_aI h' (ρ a 12) (10 * p + q) = S3 (10 * p + q) + pf_cn (nk_c h' ρ a) u.toNat p q)
    (f1 : pv_fI h' a 0 = pv_fI h a 0) (f2 : pv_fI h' a 1 = pv_fI h a 1) (f3 : pv_fI h' a 14 = pv_fI h a 14 + 1) (f4 : pv_fI h' a 15 = pv_fI h a 15) : nk_k h' ρ a := by
  obtain ⟨⟨sh, ch⟩, pr⟩ := ok
  have en : nk_n h' a = nk_n h a := by unfold nk_n; rw [f2]
  have nt : t.toNat < nk_n h a := by unfold nk_n; omega
  have nu : u.toNat < nk_n h a := by unfold nk_n; omega
  have g := ch.good
  -- the two thirds are those of the flip
  have fs : ∀ v, v < nk_n h a → ¬ pf_on (nk_c h ρ a) v (pf_by (nk_c h ρ a) t.toNat p q) (pf_by (nk_c h ρ a) u.toNat p q) := by
    obtain ⟨t', u', h1, h2, h3, h4, h5, h6, h7⟩ := f0
    have et : t' = t.toNat := by
      apply Classical.byContradiction
      intro hc
      rcases Nat.lt_or_ge t' t.toNat with r | r
      · exact mt t' (by omega) (by omega) h3
      · exact h5 t.toNat (by omega) ht.2.2
    have eu : u' = u.toNat := by
      apply Classical.byContradiction
      intro hc
      rcases Nat.lt_or_ge u' u.toNat with r | r
      · exact mu u' (by omega) (by omega) h4
      · exact h6 u.toNat (by omega) (by omega) hu.2.2
    rw [← et, ← eu]
    exact h7
  have hF : pf_F (nk_n h a) (nk_c h ρ a) (nk_c h' ρ a) p q t.toNat u.toNat x y := by
    rw [ex, ey]
    refine pf_F.mk g (by omega) nu hpq ht.2.2 hu.2.2 fs ?_ ?_ (fun v k _ hk n1 n2 => ?_)
    · rw [k2.2 _ 0 (by omega) (by omega), k2.2 _ 1 (by omega) (by omega), k2.2 _ 2 (by omega) (by omega), ← ex, ← ey]; exact k1.1
    · rw [← ex, ← ey]; exact k2.1
    · rw [k2.2 v k hk n2, k1.2 v k hk n1]
  -- the cells of the row
  have low : ∀ j : Nat, j < (13 * pv_fI h a 14).toNat ∨ (13 * pv_fI h a 14).toNat + 13 ≤ j → pv_aI h' (ρ a 13) j = pv_aI h (ρ a 13) j := by
    intro j hj
    rw [g5.2 j (by omega), g4.2 j (by omega), g3, if_neg (by omega), g2, if_neg (by omega), g1, if_neg (by omega)]
  have p0 : pv_aI h' (ρ a 13) (13 * (pv_fI h a 14).toNat) = p := by
    rw [g5.2 _ (by omega), g4.2 _ (by omega), g3, if_neg (by omega), g2, if_neg (by omega), g1, if_pos (by omega)]
  have p1 : pv_aI h' (ρ a 13) (13 * (pv_fI h a 14).toNat + 1) = q := by
    rw [g5.2 _ (by omega), g4.2 _ (by omega), g3, if_neg (by omega), g2, if_pos (by omega)]
  refine ⟨⟨?_, ?_⟩, fun i hi => ?_⟩
  · rw [en]
    exact sh_swap sh nt nu (by omega) e1 e2 k1.2 e3 k2.2 e4
  · rw [en, f1, f3, show (pv_fI h a 14 + 1).toNat = (pv_fI h a 14).toNat + 1 by omega]
    refine ch.flip hF (fun z => z.elim) (fun i hi => ⟨low _ (by omega), low _ (by omega)⟩) (fun i hi => ⟨low _ (by omega), low _ (by omega), fun k hk => ⟨low _ (by omega), low _ (by omega)⟩⟩) p0 p1 ?_ ?_ (fun k hk => ⟨?_, ?_⟩)
    · show pv_aI h' (ρ a 13) _ = _
      rw [g5.2 _ (by omega), show 13 * (pv_fI h a 14).toNat + 3 = (13 * pv_fI h a 14 + 3).toNat by omega, g4.1.1]; omega
    · show pv_aI h' (ρ a 13) _ = _
      rw [show 13 * (pv_fI h a 14).toNat + 8 = (13 * pv_fI h a 14 + 8).toNat by omega, g5.1.1]; omega
    · show pv_aI h' (ρ a 13) _ = _
      rw [g5.2 _ (by omega), show 13 * (pv_fI h a 14).toNat + 4 + k = (13 * pv_fI h a 14 + 3).toNat + 1 + k by omega, g4.1.2 k hk]
    · show pv_aI h' (ρ a 13) _ = _
      rw [show 13 * (pv_fI h a 14).toNat + 9 + k = (13 * pv_fI h a 14 + 8).toNat + 1 + k by omega, g5.1.2 k hk]
  · rw [f4] at hi
    by_cases ei : i = (pv_fI h a 14).toNat
    · rw [ei, p0, p1]; omega
    · rw [low _ (by omega), low _ (by omega)]
      exact pr i hi
/-- after one is taken back -/
theorem tb_end {h h' : pv_H} {ρ : Nat → Nat → Nat} {a : Nat} {t u d : Int} {c1 : Nat → Nat → Int} {S1 S2 S3 : Nat → Int} (ok : nk_k h ρ a) (hd : 0 < pv_fI h a 14) (ed : d = pv_fI h a 14 - 1) (et : t = pv_aI h (ρ a 13) (13 * d + 3).toNat) (eu : u = pv_aI h (ρ a 13) (13 * d + 8).toNat)
    (e1 : ∀ p q : Nat, p < 10 → q < 10 → S1 (10 * p + q) = pv_aI h (ρ a 12) (10 * p + q) - pf_cn (nk_c h ρ a) t.toNat p q) (e2 : ∀ p q : Nat, p < 10 → q < 10 → S2 (10 * p + q) = S1 (10 * p + q) - pf_cn (nk_c h ρ a) u.toNat p q)
    (k1 : (c1 t.toNat 0 = pv_aI h (ρ a 13) (13 * d + 3 + 1).toNat ∧ c1 t.toNat 1 = pv_aI h (ρ a 13) (13 * d + 3 + 2).toNat ∧ c1 t.toNat 2 = pv_aI h (ρ a 13) (13 * d + 3 + 3).toNat) ∧ ∀ v k : Nat, k < 3 → v ≠ t.toNat → c1 v k = nk_c h ρ a v k) (e3 : ∀ p q : Nat, p < 10 → q < 10 → S3 (10 * p + q) = S2 (10 * p + q) + pf_cn c1 t.toNat p q)
    (k2 : (nk_c h' ρ a u.toNat 0 = pv_aI h (ρ a 13) (13 * d + 8 + 1).toNat ∧ nk_c h' ρ a u.toNat 1 = pv_aI h (ρ a 13) (13 * d + 8 + 2).toNat ∧ nk_c h' ρ a u.toNat 2 = pv_aI h (ρ a 13) (13 * d + 8 + 3).toNat) ∧ ∀ v k : Nat, k < 3 → v ≠ u.toNat → nk_c h' ρ a v k = c1 v k) (e4 : ∀ p q : Nat, p < 10 → q < 10 → pv_aI h' (ρ a 12) (10 * p + q) = S3 (10 * p + q) + pf_cn (nk_c h' ρ a) u.toNat p q)
    (f1 : pv_fI h' a 0 = pv_fI h a 0) (f2 : pv_fI h' a 1 = pv_fI h a 1) (f3 : pv_fI h' a 14 = d) (f4 : pv_fI h' a 15 = pv_fI h a 15) (f5 : pv_aI h' (ρ a 13) = pv_aI h (ρ a 13)) : nk_k h' ρ a := by
  obtain ⟨⟨sh, ch⟩, pr⟩ := ok
  have en : nk_n h' a = nk_n h a := by unfold nk_n; rw [f2]
  have ed2 : (pv_fI h a 14).toNat = d.toNat + 1 := by omega
  rw [ed2] at ch
  obtain ⟨t', u', q1, q2, q3, q4, q5⟩ := ch.less.undo
  have z1 : t.toNat = t' := by
    rw [et, show (13 * d + 3).toNat = 13 * d.toNat + 3 by omega]
    have : pv_aI h (ρ a 13) (13 * d.toNat + 3) = t' := q1
    omega
  have z2 : u.toNat = u' := by
    rw [eu, show (13 * d + 8).toNat = 13 * d.toNat + 8 by omega]
    have : pv_aI h (ρ a 13) (13 * d.toNat + 8) = u' := q2
    omega
  subst z1
  subst z2
  refine ⟨⟨?_, ?_⟩, fun i hi => ?_⟩
  · rw [en]
    exact sh_swap sh (by omega) q4 (by omega) e1 e2 k1.2 e3 k2.2 e4
  · rw [en, f1, f3, f5]
    refine (q5 (nk_c h' ρ a) (fun k hk => ?_) (fun v k _ hk n1 n2 => ?_)).less
    · have c3 : ∀ k : Nat, k < 3 → nk_c h' ρ a t.toNat k = c1 t.toNat k := fun k hk => k2.2 t.toNat k hk (by omega)
      refine ⟨?_, ?_⟩
      · rw [c3 k hk]
        rcases (show k = 0 ∨ k = 1 ∨ k = 2 by omega) with rfl | rfl | rfl
        · rw [k1.1.1, show (13 * d + 3 + 1).toNat = 13 * d.toNat + 4 + 0 by omega]
        · rw [k1.1.2.1, show (13 * d + 3 + 2).toNat = 13 * d.toNat + 4 + 1 by omega]
        · rw [k1.1.2.2, show (13 * d + 3 + 3).toNat = 13 * d.toNat + 4 + 2 by omega]
      · rcases (show k = 0 ∨ k = 1 ∨ k = 2 by omega) with rfl | rfl | rfl
        · rw [k2.1.1, show (13 * d + 8 + 1).toNat = 13 * d.toNat + 9 + 0 by omega]
        · rw [k2.1.2.1, show (13 * d + 8 + 2).toNat = 13 * d.toNat + 9 + 1 by omega]
        · rw [k2.1.2.2, show (13 * d + 8 + 3).toNat = 13 * d.toNat + 9 + 2 by omega]
    · rw [k2.2 v k hk n2, k1.2 v k hk n1]
  · rw [f4] at hi
    rw [f5]
    exact pr i hi
