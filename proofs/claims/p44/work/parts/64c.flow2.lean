theorem dv_rem {x y z : Int} (hx : pv_q x) (hy : pv_q y) (hz : pv_q z) (hne : y ≠ 0) (e : pv_J x - pv_J x / pv_J y * pv_J y = pv_J z) : (z.natAbs : Int) < (y.natAbs : Int) := by
  have e1 : pv_J x / pv_J y = pv_J (x.tdiv y) := by
    have h2 := pv_J_rep (pv_J x / pv_J y)
    have h3 : (pv_J x / pv_J y).toInt = (x.tdiv y).bmod (2 ^ 64) := by rw [Int64.toInt_div, pv_J_toInt hx, pv_J_toInt hy]
    rw [h2.2]
    apply Int64.toInt_inj.mp
    rw [← h2.2, h3]
    exact (Int64.toInt_ofInt ..).symm
  rw [e1, pv_J_mul, pv_J_sub] at e
  have e2 : x - x.tdiv y * y = x.tmod y := by
    have := Int.tmod_add_mul_tdiv x y
    rw [Int.mul_comm] at this
    omega
  rw [e2] at e
  have h4 : (x.tmod y).natAbs < y.natAbs := by
    rw [Int.natAbs_tmod]
    exact Nat.mod_lt _ (by omega)
  have hb : pv_q (x.tmod y) := by
    unfold pv_q at hy ⊢
    omega
  have := (pv_J_eq hb hz).mp e
  rw [← this]
  omega
theorem dv_abs {a b z : Int} (ha : pv_q a) (hb : pv_q b) (hne : a ≠ b) (e : (if 0 < pv_J (a - b) then pv_J (a - b) else -pv_J (a - b)) = pv_J z) : z ≠ 0 := by
  intro hz
  subst hz
  have h0 : pv_J (a - b) = 0 := by
    split at e
    · exact e
    · have e9 := congrArg (fun x => -x) e
      simp only [Int64.neg_neg] at e9
      rw [e9]
      rfl
  rw [← pv_J_sub] at h0
  have h1 : pv_J a = pv_J b := by
    have := congrArg (fun x => x + pv_J b) h0
    simpa using this
  exact hne ((pv_J_eq ha hb).mp h1)
def pd_dv (w H : Nat → Int) (P Q v : Int) : Prop := (∃ p q : Nat, q < p ∧ ((p : Int) < P ∨ ((p : Int) = P ∧ (q : Int) < Q)) ∧ pr_s w p q ∧ H p ≠ H q) → v ≠ 0
theorem pd_dv.side {w H : Nat → Int} {P Q v : Int} (h : pd_dv w H P Q v) (hs : ¬ pr_s w P Q) (hQ : 0 ≤ Q) : pd_dv w H P (Q + 1) v := by
  rintro ⟨p, q, h1, h2, h3, h4⟩
  refine h ⟨p, q, h1, ?_, h3, h4⟩
  by_cases c : (p : Int) = P ∧ (q : Int) = Q
  · rw [c.1, c.2] at h3; exact absurd h3 hs
  · omega
theorem pd_dv.div {w H : Nat → Int} {P Q v y z : Int} (h : pd_dv w H P Q v) (hP : 0 ≤ P) (hQ : 0 ≤ Q) (ha : pv_q (H P.toNat)) (hb : pv_q (H Q.toNat)) (e : (if 0 < pv_J (H P.toNat - H Q.toNat) then pv_J (H P.toNat - H Q.toNat) else -pv_J (H P.toNat - H Q.toNat)) = pv_J y) (hz : v ≠ 0 ∨ y ≠ 0 → z ≠ 0) : pd_dv w H P (Q + 1) z := by
  rintro ⟨p, q, h1, h2, h3, h4⟩
  apply hz
  by_cases c : (p : Int) = P ∧ (q : Int) = Q
  · right
    rw [show p = P.toNat by omega, show q = Q.toNat by omega] at h4
    exact dv_abs ha hb h4 e
  · left
    exact h ⟨p, q, h1, by omega, h3, h4⟩
theorem pd_dv.row {w H : Nat → Int} {P Q v : Int} (h : pd_dv w H P Q v) (hQ : P ≤ Q) : pd_dv w H (P + 1) 0 v := by
  rintro ⟨p, q, h1, h2, h3, h4⟩
  exact h ⟨p, q, h1, by omega, h3, h4⟩
theorem pd_dv.zero {w H : Nat → Int} : pd_dv w H 0 0 0 := by
  rintro ⟨p, q, h1, h2, h3, h4⟩
  omega
theorem pd_dv.fin {w H : Nat → Int} {P v : Int} (h : pd_dv w H P 0 v) (hP : w 0 ≤ P) : (∃ p q : Nat, q < p ∧ p < pr_N w ∧ pr_s w p q ∧ H p ≠ H q) → v ≠ 0 := by
  rintro ⟨p, q, h1, h2, h3, h4⟩
  unfold pr_N at h2
  exact h ⟨p, q, h1, by omega, h3, h4⟩
/-- heights that aren't all alike differ along a side -/
theorem pr_fl.diff {w H : Nat → Int} {a b : Int} (h : pr_fl w a b) (ha : H a.toNat ≠ 0) (hb : H b.toNat = 0) : ∃ p q : Nat, q < p ∧ p < pr_N w ∧ pr_s w p q ∧ H p ≠ H q := by
  apply Classical.byContradiction
  intro hno
  have h' := h
  obtain ⟨-, ⟨ra, ra', rb, rb', rN⟩, hab, ua, ub⟩ := h'
  have hc : pr_cl w (fun x => H x = 0) := by
    intro p q hp hq hs hP
    apply Classical.byContradiction
    intro hq0
    rcases (show q < p ∨ p < q by have := hs.1; omega) with c | c
    · exact hno ⟨p, q, c, hp, hs, fun e => hq0 (by rw [← e]; exact hP)⟩
    · exact hno ⟨q, p, c, hq, pr_s_sy hs, fun e => hq0 (by rw [e]; exact hP)⟩
  refine ha (h.conn hc (x := b.toNat) (y := a.toNat) (by omega) (by omega) ?_ ?_ hb)
  · rw [show ((b.toNat : Nat) : Int) = b by omega]; exact ub
  · rw [show ((a.toNat : Nat) : Int) = a by omega]; exact ua
theorem pr_flI {w : Nat → Int} {s a b n : Int} (hu : ∀ x : Nat, x < 10 → (pb s x = true ↔ pr_u w x)) (h1 : n = 1 → pr_one w s) (hn : n = 1) (ra : 0 ≤ a ∧ a ≤ 9 ∧ a < w (0 : Int).toNat) (rb : 0 ≤ b ∧ b ≤ 9 ∧ b < w (0 : Int).toNat) (hw : w (0 : Int).toNat ≤ 10) (hab : a ≠ b) (ta : pb s a.toNat = true) (tb : pb s b.toNat = true) : pr_fl w a b := by
  have e0 : w (0 : Int).toNat = w 0 := rfl
  rw [e0] at ra rb hw
  refine ⟨⟨s, h1 hn, hu⟩, ⟨ra.1, ra.2.2, rb.1, rb.2.2, hw⟩, hab, ?_, ?_⟩
  · have := (hu a.toNat (by omega)).mp ta
    rwa [show ((a.toNat : Nat) : Int) = a by omega] at this
  · have := (hu b.toNat (by omega)).mp tb
    rwa [show ((b.toNat : Nat) : Int) = b by omega] at this
theorem gv_step {w : Nat → Int} {x1 x2 L S r : Int} (hr : 0 ≤ r) (h : x1 = x2 → L = pd_sum r.toNat (fun r => if x1 ≠ (r : Int) ∧ 0 < pr_m w x1 r then 1 else 0)) (hS : (S = 1 ∧ pr_s w x1 r) ∨ (S = 0 ∧ ¬ pr_s w x1 r)) : x1 = x2 → L + S = pd_sum (r + 1).toNat (fun r => if x1 ≠ (r : Int) ∧ 0 < pr_m w x1 r then 1 else 0) := by
  intro e
  rw [pd_sum_S hr, h e]
  have er : ((r.toNat : Nat) : Int) = r := by omega
  rw [er]
  rcases hS with ⟨h1, h2⟩ | ⟨h1, h2⟩
  · rw [if_pos (show x1 ≠ r ∧ 0 < pr_m w x1 r from h2), h1]
  · rw [if_neg (show ¬ (x1 ≠ r ∧ 0 < pr_m w x1 r) from h2), h1]
def hw_r (w : Nat → Int) (x1 x3 : Int) (v : Nat → Int) (m : Nat) (R : Nat → Nat → Int) (i j : Nat) : Prop := ∀ r s, r < m → s < m → (r < i ∨ (r = i ∧ s < j)) → R r s = if v s = x3 then (if v r = x1 then 1 else 0) else pr_L w (v r) (v s)
theorem hw_r.zero {w : Nat → Int} {x1 x3 : Int} {v : Nat → Int} {m : Nat} {R : Nat → Nat → Int} : hw_r w x1 x3 v m R 0 0 := fun r s _ _ h => by omega
theorem hw_r.row {w : Nat → Int} {x1 x3 : Int} {v : Nat → Int} {m i j : Nat} {R : Nat → Nat → Int} (h : hw_r w x1 x3 v m R i j) (hj : m ≤ j) : hw_r w x1 x3 v m R (i + 1) 0 := fun r s hr hs hc => h r s hr hs (by omega)
theorem hw_r.cell {w : Nat → Int} {x1 x3 : Int} {v : Nat → Int} {m : Nat} {F F' : Nat → Int} {L4 L5 S : Int} (h : hw_r w x1 x3 v m (fun i j => F (10 * i + j)) L4.toNat L5.toNat) (h4 : 0 ≤ L4) (h5 : 0 ≤ L5) (hm : m ≤ 10) (h5' : L5.toNat < m) (hS : S = if v L5.toNat = x3 then (if v L4.toNat = x1 then 1 else 0) else pr_L w (v L4.toNat) (v L5.toNat)) (hF : ∀ j, F' j = if j = (10 * L4 + L5).toNat then S else F j) : hw_r w x1 x3 v m (fun i j => F' (10 * i + j)) L4.toNat (L5 + 1).toNat := by
  intro r s hr hs hc
  show F' (10 * r + s) = _
  rw [hF]
  by_cases c : r = L4.toNat ∧ s = L5.toNat
  · rw [if_pos (by omega), c.1, c.2]; exact hS
  · rw [if_neg (by omega)]
    exact h r s hr hs (by omega)
theorem gv_1 {w : Nat → Int} {x1 x2 z : Int} (h : (z = 1 ∧ pr_s w x1 x2) ∨ (z = 0 ∧ ¬ pr_s w x1 x2)) (hz : ¬ z = 0) (hne : x1 ≠ x2) : -1 = pr_L w x1 x2 := by
  rcases h with q | q
  · unfold pr_L; rw [if_neg hne, if_pos q.2.2]
  · exact absurd q.1 hz
theorem gv_0 {w : Nat → Int} {x1 x2 z : Int} (h : (z = 1 ∧ pr_s w x1 x2) ∨ (z = 0 ∧ ¬ pr_s w x1 x2)) (hz : z = 0) (hne : x1 ≠ x2) : 0 = pr_L w x1 x2 := by
  rcases h with q | q
  · omega
  · unfold pr_L; rw [if_neg hne, if_neg (fun z => q.2 ⟨hne, z⟩)]
section WT
variable {A : Nat → Nat → Int} {n : Nat} {D sg k L7 L8 L9 x1 : Int} {hh hh' : pv_H} {a : Nat} {P : Nat → Prop}
theorem pq_J.at {f k i j i' j' : Nat} {R : Nat → Nat → Int} (h : pq_J A n f k i j D sg R) (e1 : i = i') (e2 : j = j') : pq_J A n f k i' j' D sg R := by
  subst e1; subst e2; exact h
theorem wt_done (h : ∀ f, P f → pq_J A n f k.toNat L8.toNat L9.toNat D sg (pq_R hh a)) (h0 : 0 ≤ k) (h1 : k.toNat < n) (h2 : n ≤ L8.toNat) : ∀ f, P f → pq_8 A n f (k + 1).toNat (pv_aJ hh a (10 * k + k).toNat) sg (pq_R hh a) := by
  intro f hf
  have := (h f hf).done h1 h2
  rw [show (k + 1).toNat = k.toNat + 1 by omega, show (10 * k + k).toNat = 10 * k.toNat + k.toNat by omega]
  exact this
theorem wt_no {f : Nat} (h : pq_8 A n f k.toNat D sg (pq_R hh a)) (e : L7 = k) (h0 : 0 ≤ k) (h1 : k.toNat < n) (hz : pv_aJ hh a (10 * L7 + k).toNat = 0) : False := by
  have := h.piv h1
  subst e
  rw [show (10 * L7 + L7).toNat = 10 * L7.toNat + L7.toNat by omega] at hz
  exact this hz
theorem wt_pv {F : Nat → Int} (e : L7 = k) (hlt : ¬ x1 ≤ L7) (h : x1 ≤ L7 ∨ F (10 * L7 + k).toNat ≠ 0) : F (10 * k + k).toNat ≠ 0 := by
  rcases h with h | h
  · exact absurd h hlt
  · rw [e] at h; exact h
theorem wt_pt {F F' : Nat → Int} (p : ∀ j : Nat, (j : Int) < x1 → F' (10 * k.toNat + j) = F (10 * L7.toNat + j)) (h0 : 0 ≤ k ∧ k < x1) (h7 : 0 ≤ L7) (hlt : ¬ x1 ≤ L7) (h : x1 ≤ L7 ∨ F (10 * L7 + k).toNat ≠ 0) : F' (10 * k + k).toNat ≠ 0 := by
  rcases h with h | h
  · exact absurd h hlt
  · rw [show (10 * k + k).toNat = 10 * k.toNat + k.toNat by omega, p k.toNat (by omega), show 10 * L7.toNat + k.toNat = (10 * L7 + k).toNat by omega]
    exact h
theorem wt_row (h : ∀ f, P f → pq_J A n f k.toNat L8.toNat L9.toNat D sg (pq_R hh a)) (h8 : 0 ≤ L8) (hk : 0 ≤ k) (hj : n ≤ L9.toNat) : ∀ f, P f → pq_J A n f k.toNat (L8 + 1).toNat (k + 1).toNat D sg (pq_R hh a) := fun f hf => ((h f hf).row hj).at (by omega) (by omega)
theorem wt_keep {F F' : Nat → Int} {i : Nat} {z : Int} (E : ∀ j, F' j = if j = i then z else F j) (hne : (10 * k + k).toNat ≠ i) (h : F (10 * k + k).toNat ≠ 0) : F' (10 * k + k).toNat ≠ 0 := by
  rw [E, if_neg hne]; exact h
theorem wt_cell {z1 z2 z : Int} (h : ∀ f, P f → pq_J A n f k.toNat L8.toNat L9.toNat D sg (pq_R hh a)) (hn : n ≤ 10) (hi : k.toNat < L8.toNat) (hi' : L8.toNat < n) (hj : k.toNat < L9.toNat) (hj' : L9.toNat < n) (h0 : 0 ≤ k ∧ 0 ≤ L8 ∧ 0 ≤ L9) (q1 : pv_q z1) (q2 : pv_q z2) (qz : pv_q z) (e1 : pv_J (pv_aJ hh a (10 * L8 + L9).toNat * pv_aJ hh a (10 * k + k).toNat) = pv_J z1) (e2 : pv_J (pv_aJ hh a (10 * L8 + k).toNat * pv_aJ hh a (10 * k + L9).toNat) = pv_J z2) (e3 : pv_J (z1 - z2) / pv_J D = pv_J z) (E : ∀ j, pv_aJ hh' a j = if j = (10 * L8 + L9).toNat then z else pv_aJ hh a j) : ∀ f, P f → pq_J A n f k.toNat L8.toNat (L9 + 1).toNat D sg (pq_R hh' a) := by
  intro f hf
  have g := (h f hf).cell (R' := pq_R hh' a) hn hi hi' hj hj' q1 q2 qz (by rw [← e1]; unfold pq_R; rw [show 10 * L8.toNat + L9.toNat = (10 * L8 + L9).toNat by omega, show 10 * k.toNat + k.toNat = (10 * k + k).toNat by omega]) (by rw [← e2]; unfold pq_R; rw [show 10 * L8.toNat + k.toNat = (10 * L8 + k).toNat by omega, show 10 * k.toNat + L9.toNat = (10 * k + L9).toNat by omega]) e3 (fun r s hr hs => by
    unfold pq_R
    rw [E]
    by_cases c : r = L8.toNat ∧ s = L9.toNat
    · rw [if_pos c, if_pos (by omega)]
    · rw [if_neg c, if_neg (by omega)])
  rw [show (L9 + 1).toNat = L9.toNat + 1 by omega]
  exact g
end WT
theorem pk_skip {w v : Nat → Int} {b L : Int} {m : Nat} (h : pr_pk w b L.toNat m v) (h0 : 0 ≤ L) (hs : L = b ∨ ¬ pr_u w L) : pr_pk w b (L + 1).toNat m v := by
  rw [show (L + 1).toNat = L.toNat + 1 by omega]
  have e : ((L.toNat : Nat) : Int) = L := by omega
  refine h.skip ?_
  rw [e]
  rcases hs with hs | hs
  · exact Or.inl hs
  · exact Or.inr (fun z => hs (pr_u_m.mpr z))
theorem pk_take {w v v' : Nat → Int} {b L m m' : Int} (h : pr_pk w b L.toNat m.toNat v) (h0 : 0 ≤ L) (hm0 : 0 ≤ m) (em : m' = m + 1) (hb : L ≠ b) (hu : pr_u w L) (hv : ∀ j, v' j = if j = m.toNat then L else v j) : pr_pk w b (L + 1).toNat m'.toNat v' := by
  rw [show (L + 1).toNat = L.toNat + 1 by omega, em, show (m + 1).toNat = m.toNat + 1 by omega]
  have e : ((L.toNat : Nat) : Int) = L := by omega
  refine h.take (by rw [e]; exact hb) (by rw [e]; exact pr_u_m.mp hu) (fun j => ?_)
  rw [hv, e]
theorem us_bit {w : Nat → Int} {s i z b : Int} (hu : ∀ x : Nat, x < 10 → (pb s x = true ↔ pr_u w x)) (h0 : 0 ≤ i ∧ i ≤ 9) (hb : pv_r b) (e1 : pv_I s >>> (pv_I i &&& 31) = pv_I z) (e2 : pv_I z &&& pv_I 1 = pv_I b) : (b = 1 ∧ pr_u w i) ∨ (b = 0 ∧ ¬ pr_u w i) := by
  have e : ((i.toNat : Nat) : Int) = i := by omega
  have h := hu i.toNat (by omega)
  rw [e] at h
  rcases pb_tst h0.1 (by omega) hb e1 e2 with q | q
  · exact Or.inl ⟨q.1, h.mp q.2⟩
  · exact Or.inr ⟨q.1, fun z => by have := h.mpr z; rw [q.2] at this; cases this⟩
theorem ht_end {w v : Nat → Int} {x1 x2 x3 m i z : Int} {hh : pv_H} {a : Nat} (hpk : pr_pk w x2 (pr_N w) m.toNat v) (hr : hw_r w x1 x3 v m.toNat (fun i j => pv_aJ hh a (10 * i + j)) i.toNat 0) (hi : m ≤ i) (hz : ∀ f : Nat, pm_M (pq_R hh a) 1 0 m.toNat f → z ≠ 0) : pr_fl w x1 x2 → x1 = x3 → z ≠ 0 := by
  intro hf e
  subst e
  obtain ⟨f, hf'⟩ := pm_init (R := pq_R hh a) hf hpk (fun i j h1 h2 => hr i j h1 h2 (by omega))
  exact hz f hf'
theorem hw_rowS {w v : Nat → Int} {x1 x3 m L4 L5 : Int} {R : Nat → Nat → Int} (h : hw_r w x1 x3 v m.toNat R L4.toNat L5.toNat) (h4 : 0 ≤ L4) (hj : m ≤ L5) : hw_r w x1 x3 v m.toNat R (L4 + 1).toNat 0 := by
  rw [show (L4 + 1).toNat = L4.toNat + 1 by omega]
  exact h.row (by omega)
theorem fh_step {w F F0 F' : Nat → Int} {x1 x2 L S S1 : Int} (h : pr_fl w x1 x2 → (x1 < L → F0 x1.toNat ≠ 0) ∧ (x2 < L → F0 x2.toNat = 0)) (e0 : F = F0) (hs : pr_fl w x1 x2 → (L = x1 → S ≠ 0) ∧ (L = x2 → S = 0)) (e1 : S1 = L) (h0 : 0 ≤ L) (E : ∀ j, F' j = if j = S1.toNat then S else F j) : pr_fl w x1 x2 → (x1 < L + 1 → F' x1.toNat ≠ 0) ∧ (x2 < L + 1 → F' x2.toNat = 0) := by
  intro hf
  have r := hf.2.1
  subst e0
  subst e1
  refine ⟨fun hx => ?_, fun hx => ?_⟩
  · rw [E]
    by_cases c : S1 = x1
    · rw [if_pos (by omega)]; exact (hs hf).1 c
    · rw [if_neg (by omega)]; exact (h hf).1 (by omega)
  · rw [E]
    by_cases c : S1 = x2
    · rw [if_pos (by omega)]; exact (hs hf).2 c
    · rw [if_neg (by omega)]; exact (h hf).2 (by omega)
theorem fh_end {w F : Nat → Int} {x1 x2 L : Int} (h : pr_fl w x1 x2 → (x1 < L → F x1.toNat ≠ 0) ∧ (x2 < L → F x2.toNat = 0)) (hL : w (0 : Int).toNat ≤ L) : pr_fl w x1 x2 → F x1.toNat ≠ 0 ∧ F x2.toNat = 0 := by
  intro hf
  have r := hf.2.1
  have e : w (0 : Int).toNat = w 0 := rfl
  rw [e] at hL
  exact ⟨(h hf).1 (by omega), (h hf).2 (by omega)⟩
