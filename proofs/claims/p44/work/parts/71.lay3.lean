theorem cb_b {w lo hi lo' hi' : Nat → Int} {x1 x2 : Int} (h : ∀ c : Nat, (c : Int) < 3 * w (1 : Int).toNat → lo c = w (3 : Int).toNat ∧ hi c = w (4 : Int).toNat) (h1 : 0 ≤ x1) (h2 : 0 ≤ x2 ∧ x2 ≤ 360) (h3 : 0 ≤ w (3 : Int).toNat ∧ w (3 : Int).toNat ≤ 360) (h4 : 0 ≤ w (4 : Int).toNat ∧ w (4 : Int).toNat ≤ 360) (el : ∀ j, lo' j = if j = x1.toNat then x2 else lo j) (eh : ∀ j, hi' j = if j = x1.toNat then x2 else hi j) : pl_b w lo' hi' := by
  intro c hc
  rw [el, eh]
  by_cases q : c = x1.toNat
  · rw [if_pos q, if_pos q]; exact ⟨h2, h2⟩
  · rw [if_neg q, if_neg q, (h c hc).1, (h c hc).2]; exact ⟨h3, h4⟩
theorem cb_e {w lo hi lo' hi' : Nat → Int} {x1 x2 : Int} (h : ∀ c : Nat, (c : Int) < 3 * w (1 : Int).toNat → lo c = w (3 : Int).toNat ∧ hi c = w (4 : Int).toNat) (el : ∀ j, lo' j = if j = x1.toNat then x2 else lo j) (eh : ∀ j, hi' j = if j = x1.toNat then x2 else hi j) : ∀ c : Nat, (c : Int) < 3 * w (1 : Int).toNat → lo' c = ph_up x1.toNat x2 (w (3 : Int).toNat) c ∧ hi' c = ph_up x1.toNat x2 (w (4 : Int).toNat) c := by
  intro c hc
  unfold ph_up
  rw [el, eh, (h c hc).1, (h c hc).2]
  exact ⟨rfl, rfl⟩
/-- a number at a corner that bars nothing -/
def pl_v (w : Nat → Int) (c v : Int) : Prop := ∀ T, pl_t w T → pl_ok w (ph_up c.toNat v (w (4 : Int).toNat)) (ph_up c.toNat v (w (3 : Int).toNat)) T
theorem cb_post {w lo hi lo' hi' w' : Nat → Int} {x1 x2 z : Int} (hN : w (0 : Int).toNat ≤ 10) (h : ∀ c : Nat, (c : Int) < 3 * w (1 : Int).toNat → lo c = w (3 : Int).toNat ∧ hi c = w (4 : Int).toNat) (el : ∀ j, lo' j = if j = x1.toNat then x2 else lo j) (eh : ∀ j, hi' j = if j = x1.toNat then x2 else hi j) (ew : w' = w) (hp : ∃ T : Nat, pl_t w' T ∧ ((z = 1 ∧ pl_ok w' hi' lo' T) ∨ (z = 0 ∧ ¬ pl_ok w' hi' lo' T))) : (z = 1 ∧ pl_v w x1 x2) ∨ (z = 0 ∧ ¬ pl_v w x1 x2) := by
  subst ew
  have he := cb_e h el eh
  obtain ⟨T, hT, q | q⟩ := hp
  · exact Or.inl ⟨q.1, fun T' hT' => hT.ok hN hT' (q.2.congr (fun c hc => ⟨(he c hc).1.symm, (he c hc).2.symm⟩))⟩
  · exact Or.inr ⟨q.1, fun hv => q.2 ((hv T hT).congr he)⟩
theorem rg_ex {w lo hi w' : Nat → Int} {x1 x2 z : Int} (hN : w (0 : Int).toNat ≤ 10) (h : ∀ c : Nat, (c : Int) < 3 * w (1 : Int).toNat → lo c = w (3 : Int).toNat ∧ hi c = w (4 : Int).toNat) (ew : w' = w) (hp : ∃ T : Nat, pl_t w' T ∧ ((z = 1 ∧ pl_ok w' hi lo T) ∨ (z = 0 ∧ ¬ pl_ok w' hi lo T))) (hz : ¬ z = 0) (h1 : 0 ≤ x1 ∧ x1 < w (1 : Int).toNat) (h2 : 0 ≤ x2 ∧ x2 ≤ 2) : ∃ v, w (3 : Int).toNat ≤ v ∧ v ≤ w (4 : Int).toNat ∧ pl_v w (3 * x1 + x2) v := by
  subst ew
  obtain ⟨T, hT, q | q⟩ := hp
  · have ho : pl_ok w' (fun _ => w' (4 : Int).toNat) (fun _ => w' (3 : Int).toNat) T := q.2.congr (fun c hc => ⟨(h c hc).1.symm, (h c hc).2.symm⟩)
    obtain ⟨v, v1, v2, v3⟩ := ph_main (t0 := x1.toNat) (k0 := x2.toNat) ho (show x1.toNat < (w' 1).toNat by have e : w' (1 : Int).toNat = w' 1 := rfl; omega) (by omega)
    refine ⟨v, v1, v2, fun T' hT' => hT.ok hN hT' ?_⟩
    rw [show (3 * x1 + x2).toNat = 3 * x1.toNat + x2.toNat by omega]
    exact v3
  · exact absurd q.1 hz
theorem rg_step {w : Nat → Int} {c x3 L L' S : Int} (hv : ∃ v : Int, w (3 : Int).toNat ≤ v ∧ v ≤ w (4 : Int).toNat ∧ pl_v w c v ∧ (x3 = 0 → L ≤ v) ∧ (x3 = 1 → v ≤ L)) (hn : ¬ pl_v w c L) (hs : (S = 1 ∧ x3 = 0) ∨ (S = -1 ∧ x3 = 1)) (eL : L' = L) : ∃ v : Int, w (3 : Int).toNat ≤ v ∧ v ≤ w (4 : Int).toNat ∧ pl_v w c v ∧ (x3 = 0 → L' + S ≤ v) ∧ (x3 = 1 → v ≤ L' + S) := by
  obtain ⟨v, h1, h2, h3, h4, h5⟩ := hv
  subst eL
  have : v ≠ L' := fun e => hn (e ▸ h3)
  exact ⟨v, h1, h2, h3, fun e => by have := h4 e; omega, fun e => by have := h5 e; omega⟩
theorem rg_in {w : Nat → Int} {c x3 L : Int} (hv : ∃ v : Int, w (3 : Int).toNat ≤ v ∧ v ≤ w (4 : Int).toNat ∧ pl_v w c v ∧ (x3 = 0 → L ≤ v) ∧ (x3 = 1 → v ≤ L)) : (x3 = 0 → L ≤ w (4 : Int).toNat) ∧ (x3 = 1 → w (3 : Int).toNat ≤ L) := by
  obtain ⟨v, h1, h2, h3, h4, h5⟩ := hv
  exact ⟨fun e => by have := h4 e; omega, fun e => by have := h5 e; omega⟩
theorem rg_0 {w : Nat → Int} {c x3 S : Int} (hv : ∃ v, w (3 : Int).toNat ≤ v ∧ v ≤ w (4 : Int).toNat ∧ pl_v w c v) (hs : (S = w (3 : Int).toNat ∧ x3 = 0) ∨ (S = w (4 : Int).toNat ∧ x3 = 1)) : ∃ v : Int, w (3 : Int).toNat ≤ v ∧ v ≤ w (4 : Int).toNat ∧ pl_v w c v ∧ (x3 = 0 → S ≤ v) ∧ (x3 = 1 → v ≤ S) := by
  obtain ⟨v, h1, h2, h3⟩ := hv
  exact ⟨v, h1, h2, h3, fun e => by omega, fun e => by omega⟩
