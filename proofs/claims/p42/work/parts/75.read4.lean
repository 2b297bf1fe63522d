theorem rn_18 {t F : Nat → Int} {fk tk at' fr : Int} (h : ¬ fk = 0) : pt_w t fk tk at' fr 1 → F (1 : Int).toNat ≤ 17 := fun z => absurd z.1 h
/-- the reference's world: its thirds, and the row of its flips -/
def pw_ok (w : Nat → Int) : Prop := w 6 + w 7 ≤ 99 ∧ pf_ch True 10 (pr_n w) (w 6).toNat (w 6 + w 7).toNat (pr_c w) (fun i => w (220 + 13 * i) / 10) (fun i => w (220 + 13 * i) % 10) (fun i => w (220 + 13 * i + 2)) (fun i => w (220 + 13 * i + 3)) (fun i k => w (220 + 13 * i + 4 + k)) (fun i k => w (220 + 13 * i + 8 + k))
theorem pw_ok.new {w : Nat → Int} (h6 : w 6 = 0) (h7 : w 7 = 0) (g : pf_G 10 (pr_n w) (pr_c w)) : pw_ok w := by
  refine ⟨by omega, ?_⟩
  rw [h6, h7]
  exact pf_ch.zero g
theorem pf_G.nil {N : Int} {c : Nat → Nat → Int} : pf_G N 0 c := ⟨fun t h => by omega, fun t u h => by omega⟩
theorem nt_new {w F : Nat → Int} (h : ∀ j : Nat, (j : Int) < 1507 → w j = F j) (hn : F (1 : Int).toNat ≤ 18) (h6 : F 6 = 0) (h7 : F 7 = 0) (g : pf_G 10 (pr_n F) (pr_c F)) : pw_ok w := by
  have e1 : F (1 : Int).toNat = F 1 := rfl
  have e : pr_n w = pr_n F := by unfold pr_n; rw [h 1 (by omega)]
  refine pw_ok.new (by rw [h 6 (by omega)]; exact h6) (by rw [h 7 (by omega)]; exact h7) ?_
  rw [e]
  refine g.q (fun t k ht hk => ?_)
  unfold pr_n at ht
  unfold pr_c
  exact (h _ (by omega)).symm
