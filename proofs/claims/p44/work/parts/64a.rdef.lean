/-! SETS AS BITS of a number, and the reference's net as a function of its cells -/
def pb (x : Int) (i : Nat) : Bool := (pv_I x).toBitVec.getLsbD i
theorem pb_or {x y z : Int} (e : pv_I x ||| pv_I y = pv_I z) (i : Nat) : pb z i = (pb x i || pb y i) := by
  unfold pb
  rw [← e]
  show ((pv_I x).toBitVec ||| (pv_I y).toBitVec).getLsbD i = _
  rw [BitVec.getLsbD_or]
theorem pb_and {x y z : Int} (e : pv_I x &&& pv_I y = pv_I z) (i : Nat) : pb z i = (pb x i && pb y i) := by
  unfold pb
  rw [← e]
  show ((pv_I x).toBitVec &&& (pv_I y).toBitVec).getLsbD i = _
  rw [BitVec.getLsbD_and]
theorem pb_m1 {i : Nat} (hi : i < 32) : pb (-1) i = true := by
  have : ∀ i : Nat, i < 32 → pb (-1) i = true := by decide +kernel
  exact this i hi
theorem pb_0 {i : Nat} : pb 0 i = false := by
  unfold pb
  show (0#32).getLsbD i = false
  exact BitVec.getLsbD_zero
theorem pb_not {x z : Int} (e : pv_I x ^^^ pv_I (-1) = pv_I z) {i : Nat} (hi : i < 32) : pb z i = !pb x i := by
  have h1 := pb_m1 hi
  unfold pb at h1 ⊢
  rw [← e]
  show ((pv_I x).toBitVec ^^^ (pv_I (-1)).toBitVec).getLsbD i = _
  rw [BitVec.getLsbD_xor, h1]
  cases (pv_I x).toBitVec.getLsbD i <;> rfl
theorem pb_pow : ∀ n : Nat, n < 31 → ∀ i : Nat, i < 32 → pb ((2 ^ n : Nat) : Int) i = decide (i = n) := by decide +kernel
theorem pb_shl {y z : Int} (h0 : 0 ≤ y) (h1 : y ≤ 30) (hz : pv_r z) (e : pv_I 1 <<< (pv_I y &&& 31) = pv_I z) {i : Nat} (hi : i < 32) : pb z i = decide (i = y.toNat) := by
  rw [pv_shl1 h0 h1 hz e]
  exact pb_pow _ (by omega) i hi
theorem pb_tst {x i z w : Int} (h0 : 0 ≤ i) (h1 : i ≤ 31) (hw : pv_r w) (e : pv_I x >>> (pv_I i &&& 31) = pv_I z) (e2 : pv_I z &&& pv_I 1 = pv_I w) : (w = 1 ∧ pb x i.toNat = true) ∨ (w = 0 ∧ pb x i.toNat = false) := by
  have hi : i = ((i.toNat : Nat) : Int) := by omega
  have hw1 := pv_and1_b hw e2
  have k1 : pb w 0 = pb x i.toNat := by
    rw [pb_and e2 0]
    have : pb 1 0 = true := by decide
    rw [this, Bool.and_true]
    unfold pb
    generalize hn : i.toNat = n at hi ⊢
    rw [← e, hi, pv_and31 _ (by omega)]
    show (pv_I x >>> pv_I (n : Int)).toBitVec.getLsbD 0 = _
    rw [Int32.toBitVec_shiftRight]
    show ((pv_I x).toBitVec.sshiftRight ((pv_I (n : Int)).toBitVec.smod 32#32).toNat).getLsbD 0 = _
    rw [pv_smod _ (by omega), BitVec.getLsbD_sshiftRight]
    have h9 : n < 32 := by omega
    rw [show n + 0 = n from rfl]
    simp only [h9, if_true]
    simp
  have z0 : pb 0 0 = false := by decide
  have z1 : pb 1 0 = true := by decide
  rcases (show w = 0 ∨ w = 1 by omega) with rfl | rfl
  · exact Or.inr ⟨rfl, by rw [← k1, z0]⟩
  · exact Or.inl ⟨rfl, by rw [← k1, z1]⟩
theorem pb_ext {x y : Int} (hx : pv_r x) (hy : pv_r y) (h : ∀ i, i < 32 → pb x i = pb y i) : x = y := by
  have : (pv_I x).toBitVec = (pv_I y).toBitVec := BitVec.eq_of_getLsbD_eq (fun i hi => h i hi)
  have h2 : (pv_I x).toBitVec.toInt = (pv_I y).toBitVec.toInt := by rw [this]
  have e1 : (pv_I x).toBitVec.toInt = x := pv_I_toInt hx
  have e2 : (pv_I y).toBitVec.toInt = y := pv_I_toInt hy
  omega
/-- of a number that isn't below 0: the bits of a natural number -/
theorem pb_nat {x : Int} (h0 : 0 ≤ x) (h1 : x ≤ 2147483647) (i : Nat) : pb x i = x.toNat.testBit i := by
  unfold pb
  rw [BitVec.getLsbD, pv_I_toNat h0 h1]
def pr_c (w : Nat → Int) (t k : Nat) : Int := w (8 + 4 * t + k)
def pr_n (w : Nat → Int) : Nat := (w 1).toNat
def pr_N (w : Nat → Int) : Nat := (w 0).toNat
def pf_i (c : Nat → Nat → Int) (t : Nat) (p q : Int) : Int := if (c t 0 = p ∨ c t 1 = p ∨ c t 2 = p) ∧ (c t 0 = q ∨ c t 1 = q ∨ c t 2 = q) then 1 else 0
theorem pf_i_on {c : Nat → Nat → Int} {t : Nat} {p q : Int} : (pf_i c t p q = 1 ∧ pf_on c t p q) ∨ (pf_i c t p q = 0 ∧ ¬ pf_on c t p q) := by
  unfold pf_i pf_on pf_has
  split
  · exact Or.inl ⟨rfl, by assumption⟩
  · exact Or.inr ⟨rfl, by assumption⟩
theorem pf_i_sy {c : Nat → Nat → Int} {t : Nat} {p q : Int} : pf_i c t p q = pf_i c t q p := by
  rcases @pf_i_on c t p q with ⟨h1, h2⟩ | ⟨h1, h2⟩ <;> rcases @pf_i_on c t q p with ⟨h3, h4⟩ | ⟨h3, h4⟩
  · rw [h1, h3]
  · exact absurd ⟨h2.2, h2.1⟩ h4
  · exact absurd ⟨h4.2, h4.1⟩ h2
  · rw [h1, h3]
/-- how many thirds have both -/
def pr_m (w : Nat → Int) (p q : Int) : Int := pd_sum (pr_n w) (fun t => pf_i (pr_c w) t p q)
theorem pr_m_sy {w : Nat → Int} {p q : Int} : pr_m w p q = pr_m w q p := pd_sum_congr (fun t _ => pf_i_sy)
theorem pf_i_nn {c : Nat → Nat → Int} {t : Nat} {p q : Int} : 0 ≤ pf_i c t p q ∧ pf_i c t p q ≤ 1 := by
  rcases @pf_i_on c t p q with ⟨h1, h2⟩ | ⟨h1, h2⟩ <;> omega
theorem pd_sum_pos {n : Nat} {f : Nat → Int} (h : 0 < pd_sum n f) : ∃ i, i < n ∧ 0 < f i := by
  induction n with
  | zero => exact absurd h (Int.lt_irrefl 0)
  | succ n ih =>
    simp only [pd_sum] at h
    by_cases h1 : 0 < f n
    · exact ⟨n, by omega, h1⟩
    · obtain ⟨i, hi, hf⟩ := ih (by omega)
      exact ⟨i, by omega, hf⟩
theorem pr_m_pos {w : Nat → Int} {p q : Int} : 0 < pr_m w p q ↔ ∃ t, t < pr_n w ∧ pf_on (pr_c w) t p q := by
  constructor
  · intro h
    obtain ⟨t, ht, h1⟩ := pd_sum_pos h
    rcases @pf_i_on (pr_c w) t p q with ⟨h2, h3⟩ | ⟨h2, h3⟩
    · exact ⟨t, ht, h3⟩
    · omega
  · intro ⟨t, ht, h1⟩
    have := pd_sum_nn (f := fun t => pf_i (pr_c w) t p q) (fun _ _ => pf_i_nn.1) t ht
    rcases @pf_i_on (pr_c w) t p q with ⟨h2, h3⟩ | ⟨h2, h3⟩
    · unfold pr_m; omega
    · exact absurd h1 h3
def pr_s (w : Nat → Int) (p q : Int) : Prop := p ≠ q ∧ 0 < pr_m w p q
theorem pr_s_sy {w : Nat → Int} {p q : Int} (h : pr_s w p q) : pr_s w q p := ⟨Ne.symm h.1, by rw [pr_m_sy]; exact h.2⟩
def pr_u (w : Nat → Int) (x : Int) : Prop := ∃ t, t < pr_n w ∧ pf_has (pr_c w) t x
theorem pr_s_u {w : Nat → Int} {p q : Int} (h : pr_s w p q) : pr_u w p ∧ pr_u w q := by
  obtain ⟨t, ht, h1⟩ := pr_m_pos.mp h.2
  exact ⟨⟨t, ht, h1.1⟩, ⟨t, ht, h1.2⟩⟩
theorem pd_sum_S {f : Nat → Int} {x : Int} (h : 0 ≤ x) : pd_sum (x + 1).toNat f = pd_sum x.toNat f + f x.toNat := by
  rw [show (x + 1).toNat = x.toNat + 1 by omega]
  rfl
theorem pv_Fr.aeq {τ : Nat → Option Nat} {E : List Nat} {h h' : pv_H} (hF : pv_Fr τ E h h') {a t : Nat} (ha : τ a = some t) (hE : (t * 64 + 63) ∉ E) : pv_aI h' a = pv_aI h a := funext fun i => ((hF a t ha).2 hE i).1
theorem pv_Fr.aeqJ {τ : Nat → Option Nat} {E : List Nat} {h h' : pv_H} (hF : pv_Fr τ E h h') {a t : Nat} (ha : τ a = some t) (hE : (t * 64 + 63) ∉ E) : pv_aJ h' a = pv_aJ h a := funext fun i => ((hF a t ha).2 hE i).2
theorem pv_Ty.wc {τ : Nat → Option Nat} {ρ : Nat → Nat → Nat} {h : pv_H} {a t n kd j : Nat} {z : Int} {r : List (Int × Int)} (hT : pv_Ty τ ρ h) (ha : τ a = some t) (ht : pv_tyA t = some (kd, n, 3, (0, z) :: r)) (hj : j < n) : pv_wok j (pv_aI h a j) := by
  obtain ⟨f, e, hf⟩ := (hT a t ha).2 _ ht
  have := hf j hj
  unfold pv_aI
  rw [e]
  exact this
theorem pu_step0 {w : Nat → Int} : ∀ x : Nat, x < 10 → (pb 0 x = true ↔ ∃ t, t < (0 : Int).toNat ∧ pf_has (pr_c w) t x) := by
  intro x hx
  rw [pb_0]
  constructor
  · intro h; cases h
  · intro ⟨t, ht, _⟩; exact absurd ht (Nat.not_lt_zero t)
theorem pu_step {w : Nat → Int} {L1 L2 z17 z20 z25 z28 z29 z34 z37 z38 z39 : Int} (h2 : 0 ≤ L2) (r17 : 0 ≤ z17 ∧ z17 ≤ 9) (r25 : 0 ≤ z25 ∧ z25 ≤ 9) (r34 : 0 ≤ z34 ∧ z34 ≤ 9) (e17 : z17 = w (8 + 4 * L2 + 0).toNat) (e25 : z25 = w (8 + 4 * L2 + 1).toNat) (e34 : z34 = w (8 + 4 * L2 + 2).toNat) (hz20 : pv_r z20) (hz28 : pv_r z28) (hz37 : pv_r z37) (ez20 : pv_I 1 <<< (pv_I z17 &&& 31) = pv_I z20) (ez28 : pv_I 1 <<< (pv_I z25 &&& 31) = pv_I z28) (ez29 : pv_I z20 ||| pv_I z28 = pv_I z29) (ez37 : pv_I 1 <<< (pv_I z34 &&& 31) = pv_I z37) (ez38 : pv_I z29 ||| pv_I z37 = pv_I z38) (ez39 : pv_I L1 ||| pv_I z38 = pv_I z39)
    (ih : ∀ x : Nat, x < 10 → (pb L1 x = true ↔ ∃ t, t < L2.toNat ∧ pf_has (pr_c w) t x)) : ∀ x : Nat, x < 10 → (pb z39 x = true ↔ ∃ t, t < (L2 + 1).toNat ∧ pf_has (pr_c w) t x) := by
  intro x hx
  have k0 : pr_c w L2.toNat 0 = z17 := by rw [e17]; unfold pr_c; rw [show 8 + 4 * L2.toNat + 0 = (8 + 4 * L2 + 0).toNat by omega]
  have k1 : pr_c w L2.toNat 1 = z25 := by rw [e25]; unfold pr_c; rw [show 8 + 4 * L2.toNat + 1 = (8 + 4 * L2 + 1).toNat by omega]
  have k2 : pr_c w L2.toNat 2 = z34 := by rw [e34]; unfold pr_c; rw [show 8 + 4 * L2.toNat + 2 = (8 + 4 * L2 + 2).toNat by omega]
  have hh : pf_has (pr_c w) L2.toNat x ↔ (z17 = x ∨ z25 = x ∨ z34 = x) := by unfold pf_has; rw [k0, k1, k2]
  rw [pb_or ez39, pb_or ez38, pb_or ez29, pb_shl r17.1 (by omega) hz20 ez20 (by omega), pb_shl r25.1 (by omega) hz28 ez28 (by omega), pb_shl r34.1 (by omega) hz37 ez37 (by omega)]
  simp only [Bool.or_eq_true, decide_eq_true_eq]
  rw [ih x hx]
  constructor
  · rintro (⟨t, ht, h⟩ | h)
    · exact ⟨t, by omega, h⟩
    · exact ⟨L2.toNat, by omega, hh.mpr (by omega)⟩
  · rintro ⟨t, ht, h⟩
    by_cases e : t = L2.toNat
    · subst e
      have := hh.mp h
      exact Or.inr (by omega)
    · exact Or.inl ⟨t, by omega, h⟩
/-- closed under sides -/
def pr_cl (w : Nat → Int) (P : Nat → Prop) : Prop := ∀ p q : Nat, p < pr_N w → q < pr_N w → pr_s w p q → P p → P q
theorem pr_cl.neg {w : Nat → Int} {P : Nat → Prop} (h : pr_cl w P) : pr_cl w (fun x => ¬ P x) := fun p q hp hq hs hn hP => hn (h q p hq hp (pr_s_sy hs) hP)
/-- what has grown from the set s0 along sides -/
def pr_gr (w : Nat → Int) (s0 s : Int) : Prop := (∀ x : Nat, x < 10 → pb s0 x = true → pb s x = true) ∧ ∀ P : Nat → Prop, pr_cl w P → (∀ x : Nat, x < 10 → pb s0 x = true → P x) → ∀ x : Nat, x < 10 → pb s x = true → P x
theorem pr_gr.rf {w : Nat → Int} {s : Int} : pr_gr w s s := ⟨fun _ _ h => h, fun _ _ h => h⟩
theorem pr_gr.or {w : Nat → Int} {s0 s m z : Int} {p q : Nat} (h : pr_gr w s0 s) (e : pv_I s ||| pv_I m = pv_I z) (hm : ∀ x : Nat, x < 10 → pb m x = true → x = q ∧ (p < 10 ∧ p < pr_N w ∧ q < pr_N w ∧ pr_s w p q ∧ pb s p = true)) : pr_gr w s0 z := by
  refine ⟨fun x hx h0 => ?_, fun P hc h0 x hx hz => ?_⟩
  · rw [pb_or e, h.1 x hx h0]; rfl
  · rw [pb_or e, Bool.or_eq_true] at hz
    rcases hz with hz | hz
    · exact h.2 P hc h0 x hx hz
    · obtain ⟨e1, p10, pN, qN, hs, hp⟩ := hm x hx hz
      subst e1
      exact hc p x pN qN hs (h.2 P hc h0 p p10 hp)
/-- the parts seen so far -/
def pr_pi (w : Nat → Int) (set left n p : Int) : Prop := (n = 0 ∧ left = set ∧ ∀ x : Nat, x < 10 → (x : Int) < p → pb set x = false) ∨ (n = 1 ∧ (∀ x : Nat, x < 10 → (x : Int) < p → pb left x = false) ∧ ∃ p0 : Nat, ∀ P : Nat → Prop, pr_cl w P → P p0 → ∀ x : Nat, x < 10 → pb set x = true → pb left x = false → P x) ∨ 2 ≤ n
theorem pr_pi.skip {w : Nat → Int} {set left n p z b : Int} (h : pr_pi w set left n p) (h0 : 0 ≤ p) (h1 : p ≤ 9) (hb : pv_r b) (e1 : pv_I left >>> (pv_I p &&& 31) = pv_I z) (e2 : pv_I z &&& pv_I 1 = pv_I b) (hz : b = 0) : pr_pi w set left n (p + 1) := by
  have ht := pb_tst h0 (by omega) hb e1 e2
  have hp : pb left p.toNat = false := by
    rcases ht with ht | ht
    · omega
    · exact ht.2
  have ex : ∀ x : Nat, (x : Int) < p + 1 → (x : Int) < p ∨ x = p.toNat := fun x hx => by omega
  rcases h with ⟨k1, k2, k3⟩ | ⟨k1, k2, k3⟩ | k
  · refine Or.inl ⟨k1, k2, fun x hx hlt => ?_⟩
    rcases ex x hlt with q | q
    · exact k3 x hx q
    · subst q; rw [← k2]; exact hp
  · refine Or.inr (Or.inl ⟨k1, fun x hx hlt => ?_, k3⟩)
    rcases ex x hlt with q | q
    · exact k2 x hx q
    · subst q; exact hp
  · exact Or.inr (Or.inr k)
theorem pr_pi.take {w : Nat → Int} {set left n p z b s0 g g' l' : Int} (h : pr_pi w set left n p) (h0 : 0 ≤ p) (h1 : p ≤ 9) (hb : pv_r b) (e1 : pv_I left >>> (pv_I p &&& 31) = pv_I z) (e2 : pv_I z &&& pv_I 1 = pv_I b) (hz : b ≠ 0) (hs0 : pv_r s0) (es : pv_I 1 <<< (pv_I p &&& 31) = pv_I s0) (hg : pr_gr w s0 g) (eg : pv_I g ^^^ pv_I (-1) = pv_I g') (el : pv_I left &&& pv_I g' = pv_I l') (hn : 0 ≤ n) : pr_pi w set l' (n + 1) (p + 1) := by
  rcases h with ⟨k1, k2, k3⟩ | ⟨k1, k2, k3⟩ | k
  · have hl : ∀ x : Nat, x < 10 → pb l' x = (pb set x && !pb g x) := fun x hx => by rw [pb_and el, pb_not eg (by omega), k2]
    have hs : ∀ x : Nat, x < 10 → pb s0 x = decide (x = p.toNat) := fun x hx => pb_shl h0 (by omega) hs0 es (by omega)
    refine Or.inr (Or.inl ⟨by omega, fun x hx hlt => ?_, p.toNat, fun P hc hP x hx hset hleft => ?_⟩)
    · rw [hl x hx]
      by_cases q : (x : Int) < p
      · rw [k3 x hx q]; rfl
      · have : x = p.toNat := by omega
        rw [hg.1 x hx (by rw [hs x hx]; exact decide_eq_true this)]
        cases pb set x <;> rfl
    · refine hg.2 P hc (fun y hy h9 => ?_) x hx ?_
      · rw [hs y hy] at h9
        rw [of_decide_eq_true h9]; exact hP
      · rw [hl x hx, hset] at hleft
        cases hq : pb g x with
        | true => rfl
        | false => rw [hq] at hleft; cases hleft
  · exact Or.inr (Or.inr (by omega))
  · exact Or.inr (Or.inr (by omega))
/-- all of a set hang together -/
def pr_one (w : Nat → Int) (set : Int) : Prop := ∀ P : Nat → Prop, pr_cl w P → ∀ x y : Nat, x < 10 → y < 10 → (x : Int) < w 0 → (y : Int) < w 0 → pb set x = true → pb set y = true → P x → P y
theorem pr_pi.one {w : Nat → Int} {set left n p : Int} (h : pr_pi w set left n p) (hn : n = 1) (hp : w 0 ≤ p) : pr_one w set := by
  intro P hc x y hx hy hx0 hy0 hsx hsy hP
  rcases h with ⟨k1, k2, k3⟩ | ⟨k1, k2, p0, k3⟩ | k
  · omega
  · apply Classical.byContradiction
    intro hno
    by_cases hp0 : P p0
    · exact hno (k3 P hc hp0 y hy hsy (k2 y hy (by omega)))
    · exact k3 (fun x => ¬ P x) hc.neg hp0 x hx hsx (k2 x hx (by omega)) hP
  · omega
theorem pr_grS {w : Nat → Int} {s0 s s' m z p q : Int} (hp : 0 ≤ p ∧ p ≤ 9) (hq : 0 ≤ q ∧ q ≤ 9) (hm : pv_r m) (h : pr_gr w s0 s) (es : s' = s) (e : pv_I s' ||| pv_I m = pv_I z) (hd : m = 0 ∨ (pv_I 1 <<< (pv_I q &&& 31) = pv_I m ∧ p ≠ q ∧ 0 < pr_m w p q ∧ p < w (0 : Int).toNat ∧ q < w (0 : Int).toNat ∧ pb s p.toNat = true)) : pr_gr w s0 z := by
  subst es
  refine h.or (p := p.toNat) (q := q.toNat) e (fun x hx hb => ?_)
  rcases hd with hd | ⟨h1, h2, h3, h4, h5, h6⟩
  · rw [hd, pb_0] at hb; cases hb
  · rw [pb_shl hq.1 (by omega) hm h1 (by omega)] at hb
    have h4' : p < w 0 := h4
    have h5' : q < w 0 := h5
    refine ⟨of_decide_eq_true hb, by omega, by unfold pr_N; omega, by unfold pr_N; omega, ?_, h6⟩
    have ep : ((p.toNat : Nat) : Int) = p := by omega
    have eq : ((q.toNat : Nat) : Int) = q := by omega
    rw [ep, eq]
    exact ⟨h2, h3⟩
theorem mi_1 {c : Nat → Nat → Int} {t : Nat} {p q z1 z2 : Int} (h1 : (z1 = 1 ∧ pf_has c t p) ∨ (z1 = 0 ∧ ¬ pf_has c t p)) (h2 : (z2 = 1 ∧ pf_has c t q) ∨ (z2 = 0 ∧ ¬ pf_has c t q)) (n1 : ¬ z1 = 0) (n2 : ¬ z2 = 0) : 1 = pf_i c t p q := by
  rcases h1 with h1 | h1
  · rcases h2 with h2 | h2
    · unfold pf_i; rw [if_pos ⟨h1.2, h2.2⟩]
    · exact absurd h2.1 n2
  · exact absurd h1.1 n1
theorem mi_2 {c : Nat → Nat → Int} {t : Nat} {p q z1 : Int} (h1 : (z1 = 1 ∧ pf_has c t p) ∨ (z1 = 0 ∧ ¬ pf_has c t p)) (n1 : z1 = 0) : pf_i c t p q = 0 := by
  rcases h1 with h1 | h1
  · omega
  · unfold pf_i; rw [if_neg (fun z => h1.2 z.1)]
theorem mi_3 {c : Nat → Nat → Int} {t : Nat} {p q z1 : Int} (h1 : (z1 = 1 ∧ pf_has c t q) ∨ (z1 = 0 ∧ ¬ pf_has c t q)) (n1 : z1 = 0) : pf_i c t p q = 0 := by
  rcases h1 with h1 | h1
  · omega
  · unfold pf_i; rw [if_neg (fun z => h1.2 z.2)]
