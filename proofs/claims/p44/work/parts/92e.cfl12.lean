/-- a boolean field is written, and no other -/
theorem pw_putZA {K : Nat → Nat} {M pc : Nat} {f : pv_F} {st : List Value} {h : pv_H} {Q : Option Value → pv_H → Prop} {τ : Nat → Option Nat} {ρ : Nat → Nat → Nat} {a k ci t idx : Nat} {x lo hi : Int} {fts : List (Nat × Int × Int)} (hd : pv_dec M pc = some (.putfield idx, 3)) (hg : pv_gf M idx = some (ci, k)) (hty : pv_ft ci k = some .boolean) (hT : pv_Ty τ ρ h) (ha : τ a = some t) (ht : pv_tyO t = some (ci, fts)) (hA : pv_tyA t = none) (hk : fts[k]? = some (1, lo, hi)) (hr : x = 0 ∨ x = 1) (hx : lo ≤ x ∧ x ≤ hi) (kk : ∀ h', pv_Ty τ ρ h' → pv_Fr τ [t * 64 + k] h h' → (∀ b j, pv_fI h' b j = if b = a ∧ j = k then x else pv_fI h b j) → pv_T K M (pc + 3) f st h' Q) : pv_T K M pc f (.int (pv_I x) :: .ref a :: st) h Q := by
  obtain ⟨fs, e, hl, hf⟩ := (hT a t ha).1 _ ht
  have hkl : k < fs.length := by rw [hl]; exact (List.getElem?_eq_some_iff.mp hk).1
  have hr2 : pv_r x := by rcases hr with rfl | rfl <;> exact ⟨by omega, by omega⟩
  refine pw_steph hd rfl rfl (pv_sh_put hg hty e (by rcases hr with rfl | rfl <;> rfl) (by rcases hr with rfl | rfl <;> rfl) hkl rfl) (kk _ (hT.putF ha ht hA hk e ⟨_, rfl, by rw [pv_I_toInt hr2]; exact hx.1, by rw [pv_I_toInt hr2]; exact hx.2⟩) (pv_Fr.putF ha e) (fun b j => ?_))
  by_cases hba : b = a
  · subst hba
    by_cases hj : j = k
    · subst hj
      rw [if_pos ⟨rfl, rfl⟩]
      simp only [pv_fI, pv_set_self, List.getElem?_set_self hkl, pv_I_toInt hr2]
    · rw [if_neg (fun z => hj z.2)]
      simp only [pv_fI, pv_set_self, e, List.getElem?_set_ne (Ne.symm hj)]
  · rw [if_neg (fun z => hba z.1)]
    exact (pv_set_fI hba).1
/-- a row is begun: its fields, and no other row's -/
def rb_P (h h' : pv_H) (a : Nat) (w n : Int) (b : Nat) : Prop := (b = a → pv_fI h' b 0 = 1 ∧ pv_fI h' b 1 = w ∧ pv_fI h' b 2 = n) ∧ (b ≠ a → pv_fI h' b 0 = pv_fI h b 0 ∧ pv_fI h' b 1 = pv_fI h b 1 ∧ pv_fI h' b 2 = pv_fI h b 2)
theorem rb_end {h h1 h2 h3 h4 : pv_H} {a b : Nat} {w n : Int} (E1 : ∀ b j, pv_fI h1 b j = if b = a ∧ j = 0 then 1 else pv_fI h b j) (E2 : ∀ b j, pv_fI h2 b j = if b = a ∧ j = 1 then w else pv_fI h1 b j) (E3 : ∀ b j, pv_fI h3 b j = if b = a ∧ j = 2 then n else pv_fI h2 b j) (f0 : pv_fI h4 b 0 = pv_fI h3 b 0) (f1 : pv_fI h4 b 1 = pv_fI h3 b 1) (f2 : pv_fI h4 b 2 = pv_fI h3 b 2) : rb_P h h4 a w n b := by
  refine ⟨fun e => ⟨?_, ?_, ?_⟩, fun e => ⟨?_, ?_, ?_⟩⟩
  · rw [f0, E3, if_neg (by omega), E2, if_neg (by omega), E1, if_pos ⟨e, rfl⟩]
  · rw [f1, E3, if_neg (by omega), E2, if_pos ⟨e, rfl⟩]
  · rw [f2, E3, if_pos ⟨e, rfl⟩]
  · rw [f0, E3, if_neg (fun z => e z.1), E2, if_neg (fun z => e z.1), E1, if_neg (fun z => e z.1)]
  · rw [f1, E3, if_neg (fun z => e z.1), E2, if_neg (fun z => e z.1), E1, if_neg (fun z => e z.1)]
  · rw [f2, E3, if_neg (fun z => e z.1), E2, if_neg (fun z => e z.1), E1, if_neg (fun z => e z.1)]
/-- what row asks of its arguments -/
def rw_ok (x1 x2 x3 : Int) : Prop := 0 ≤ x1 ∧ x1 ≤ 3 ∧ 0 ≤ x2 ∧ x2 ≤ 3 ∧ 0 ≤ x3 ∧ x3 ≤ 60
def rw_X (ρ : Nat → Nat → Nat) (h h' : pv_H) (a : Nat) (x1 x2 x3 : Int) (b : Nat) : Prop := (rw_ok x1 x2 x3 → rb_P h h' (ρ (ρ a 5) x1.toNat) x2 x3 b) ∧ (¬ rw_ok x1 x2 x3 → pv_fI h' b 0 = pv_fI h b 0 ∧ pv_fI h' b 1 = pv_fI h b 1 ∧ pv_fI h' b 2 = pv_fI h b 2)
theorem rw_X.no {ρ : Nat → Nat → Nat} {h : pv_H} {a b : Nat} {x1 x2 x3 : Int} (hn : ¬ (0 ≤ x1 ∧ x1 ≤ 3 ∧ 0 ≤ x2 ∧ x2 ≤ 3 ∧ 0 ≤ x3 ∧ x3 ≤ 60)) : rw_X ρ h h a x1 x2 x3 b := ⟨fun k => absurd k hn, fun _ => ⟨rfl, rfl, rfl⟩⟩
theorem rw_X.yes {ρ : Nat → Nat → Nat} {h h' : pv_H} {a b : Nat} {x1 x2 x3 : Int} (hy : 0 ≤ x1 ∧ x1 ≤ 3 ∧ 0 ≤ x2 ∧ x2 ≤ 3 ∧ 0 ≤ x3 ∧ x3 ≤ 60) (k : rb_P h h' (ρ (ρ a 5) x1.toNat) x2 x3 b) : rw_X ρ h h' a x1 x2 x3 b := ⟨fun _ => k, fun n => absurd hy n⟩
/-- what the reference's row writes -/
def rw_M (A A' : Nat → Int) (x1 x2 x3 v : Int) : Prop := ∀ j : Nat, (rw_ok x1 x2 x3 ∧ j = x1.toNat → A' j = v) ∧ (¬ (rw_ok x1 x2 x3 ∧ j = x1.toNat) → A' j = A j)
theorem rw_M.no {A : Nat → Int} {x1 x2 x3 v : Int} (hn : ¬ (0 ≤ x1 ∧ x1 ≤ 3 ∧ 0 ≤ x2 ∧ x2 ≤ 3 ∧ 0 ≤ x3 ∧ x3 ≤ 60)) : rw_M A A x1 x2 x3 v := fun j => ⟨fun k => absurd k.1 hn, fun _ => rfl⟩
theorem rw_M.yes {A A' : Nat → Int} {x1 x2 x3 v : Int} (hy : 0 ≤ x1 ∧ x1 ≤ 3 ∧ 0 ≤ x2 ∧ x2 ≤ 3 ∧ 0 ≤ x3 ∧ x3 ≤ 60) (E : ∀ j, A' j = if j = x1.toNat then v else A j) : rw_M A A' x1 x2 x3 v := fun j => ⟨fun k => by rw [E, if_pos k.2], fun n => by rw [E, if_neg (fun z => n ⟨hy, z⟩)]⟩
