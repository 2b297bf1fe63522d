theorem rn_18 {t F : Nat → Int} {fk tk at' fr : Int} (h : ¬ fk = 0) : pt_w t fk tk at' fr 1 → F (1 : Int).toNat ≤ 17 := fun z => absurd z.1 h
/-- the reference's world: its thirds, and the row of its flips -/
def pw_ok (w : Nat → Int) : Prop := w 6 + w 7 ≤ 99 ∧ pf_ch True (w 0) (pr_n w) (w 6).toNat (w 6 + w 7).toNat (pr_c w) (fun i => w (220 + 13 * i) / 10) (fun i => w (220 + 13 * i) % 10) (fun i => w (220 + 13 * i + 2)) (fun i => w (220 + 13 * i + 3)) (fun i k => w (220 + 13 * i + 4 + k)) (fun i k => w (220 + 13 * i + 8 + k))
theorem pw_ok.new {w : Nat → Int} (h6 : w 6 = 0) (h7 : w 7 = 0) (g : pf_G (w 0) (pr_n w) (pr_c w)) : pw_ok w := by
  refine ⟨by omega, ?_⟩
  rw [h6, h7]
  exact pf_ch.zero g
theorem pf_G.nil {N : Int} {c : Nat → Nat → Int} : pf_G N 0 c := ⟨fun t h => by omega, fun t u h => by omega⟩
theorem nt_new {w F : Nat → Int} (h : ∀ j : Nat, (j : Int) < 1507 → w j = F j) (hn : F (1 : Int).toNat ≤ 18) (h6 : F 6 = 0) (h7 : F 7 = 0) (g : pf_G (F 0) (pr_n F) (pr_c F)) : pw_ok w := by
  have e1 : F (1 : Int).toNat = F 1 := rfl
  have e : pr_n w = pr_n F := by unfold pr_n; rw [h 1 (by omega)]
  refine pw_ok.new (by rw [h 6 (by omega)]; exact h6) (by rw [h 7 (by omega)]; exact h7) ?_
  rw [e, h 0 (by omega)]
  refine g.q (fun t k ht hk => ?_)
  unfold pr_n at ht
  unfold pr_c
  exact (h _ (by omega)).symm
theorem pf_G.up {N N' : Int} {n : Nat} {c : Nat → Nat → Int} (h : N ≤ N') (g : pf_G N n c) : pf_G N' n c := ⟨fun t ht => by have := g.1 t ht; exact ⟨⟨this.1.1, by omega, this.1.2.2.1, by omega, this.1.2.2.2.2.1, by omega⟩, this.2⟩, g.2⟩
/-- the first line: the number of posts -/
theorem rl_0 {F F1 F2 : Nat → Int} {v fk fk' : Int} (e1 : F1 = F) (E : ∀ j, F2 j = if j = (0 : Int).toNat then v else F1 j) (h2 : F (2 : Int).toNat = 0) (hk : fk' = 0 → fk = 0) : (fk' = 0 → fk = 0) ∧ (ps_G F fk → ps_G F2 fk') ∧ F2 6 = F 6 ∧ F2 7 = F 7 := by
  subst e1
  have t0 : (0 : Int).toNat = 0 := rfl
  have x2 : F1 (2 : Int).toNat = F1 2 := rfl
  rw [x2] at h2
  have k : ∀ j, j ≠ 0 → F2 j = F1 j := fun j hj => by rw [E, if_neg (by omega)]
  refine ⟨hk, fun g e => ?_, k 6 (by omega), k 7 (by omega)⟩
  have z := (g (hk e)).2 h2
  have z1 : F2 1 = 0 := by rw [k 1 (by omega), z]
  refine ⟨?_, fun _ => z1⟩
  have : pr_n F2 = 0 := by unfold pr_n; rw [z1]; rfl
  rw [this]
  exact ⟨fun t h => by omega, fun t u h => by omega⟩
/-- a line more -/
theorem rl_2 {F F1 : Nat → Int} {v fk fk' : Int} (E : ∀ j, F1 j = if j = (2 : Int).toNat then v else F j) (hv : fk' = 0 → v ≠ 0) (hn : F (1 : Int).toNat ≤ 18) (hk : fk' = 0 → fk = 0) : ps_T F F1 fk fk' := by
  have t2 : (2 : Int).toNat = 2 := rfl
  have x1 : F (1 : Int).toNat = F 1 := rfl
  have k : ∀ j, j ≠ 2 → F1 j = F j := fun j hj => by rw [E, if_neg (by omega)]
  refine ⟨hk, fun g e => ?_, k 6 (by omega), k 7 (by omega)⟩
  have G := (g (hk e)).1
  have en : pr_n F1 = pr_n F := by unfold pr_n; rw [k 1 (by omega)]
  refine ⟨?_, fun z => absurd z (by rw [E, if_pos (by omega)]; exact hv e)⟩
  rw [en, k 0 (by omega)]
  refine G.q (fun t q ht hq => ?_)
  unfold pr_n at ht
  unfold pr_c
  exact (k _ (by omega)).symm
