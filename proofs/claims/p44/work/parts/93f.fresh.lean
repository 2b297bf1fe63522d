def pv_dM : List pv_dE := [.inr (7, [.int 0, .ref 86, .ref 87, .ref 88, .ref 89, .int 0, .ref 90, .int 0, .int 0, .int 0, .int 0, .int 0, .int 0, .int (-1), .ref 91, .ref 92, .ref 93, .ref 94, .long 0, .ref 95, .ref 96, .int 0, .ref 97, .ref 98, .ref 99, .ref 100, .ref 101, .ref 102]), .inl (0, 1507, []), .inl (0, 4521, []), .inl (3, 3, []), .inl (2, 1600, []), .inl (0, 5, []), .inl (0, 1507, []), .inl (0, 18, []), .inl (0, 54, []), .inl (0, 54, []), .inl (1, 100, []), .inl (0, 10, []), .inl (1, 10, []), .inl (0, 1507, []), .inl (0, 4, [(3, .int (-1)), (2, .int (-1)), (1, .int (-1)), (0, .int (-1))]), .inl (0, 4, []), .inl (1, 240, []), .inl (1, 60, [])]
abbrev pv_dZ : List pv_dE := pv_d0 ++ pv_dM
def pv_tl : List Nat := [0, 1, 2, 20, 21, 22, 23, 24, 25, 26, 27, 28, 30, 2, 20, 21, 22, 23, 24, 25, 26, 27, 28, 2, 20, 21, 22, 23, 24, 25, 26, 27, 28, 10, 11, 2, 20, 21, 22, 23, 24, 25, 26, 27, 28, 2, 20, 21, 22, 23, 24, 25, 26, 27, 28, 2, 20, 21, 22, 23, 24, 25, 26, 27, 28, 12, 3, 31, 3, 31, 3, 31, 3, 31, 4, 32, 33, 5, 34, 35, 36, 6, 37, 38, 39, 7, 40, 41, 42, 43, 44, 45, 46, 47, 48, 49, 50, 51, 52, 53, 54, 55, 56]
def pv_ad (h0 : Nat) (as : List Nat) (h1 : Nat) (bs : List Nat) (i : Nat) : Nat := if i < 85 then (h0 :: as).getD i 0 else (h1 :: bs).getD (i - 85) 0
set_option maxRecDepth 100000 in
theorem pv_rz_ad (dA : Nat → ClassId) (h0 : Nat) (as : List Nat) (h1 : Nat) (bs : List Nat) : pv_rz dA (fun i => (h0 :: as).getD i 0) 0 pv_d0 ++ pv_rz dA (fun i => (h1 :: bs).getD i 0) 0 pv_d182 = pv_rz dA (pv_ad h0 as h1 bs) 0 pv_dZ := rfl
theorem pv_dZ_ok : pv_tl.length = pv_dZ.length ∧ (List.zip pv_tl pv_dZ).all (fun z => pv_ckE pv_tl z.1 z.2) = true := by decide +kernel
/-- what is so of a fresh object of the class, and of the reference -/
def pv_XF (ρ : Nat → Nat → Nat) (h : pv_H) (a : Nat) : Prop := (pv_fI h (ρ a 1) 0 = 0 ∧ pv_fI h (ρ a 1) 1 = 0 ∧ pv_fI h (ρ a 1) 2 = 0 ∧ pv_fI h (ρ a 1) 3 = 0 ∧ pv_fI h (ρ a 1) 4 = 0 ∧ pv_fI h (ρ a 1) 14 = 0 ∧ pv_fI h (ρ a 1) 15 = 0) ∧ (pv_fI h (ρ a 0) 0 = 0 ∧ pv_fI h (ρ a 0) 1 = 0 ∧ pv_fI h (ρ a 0) 2 = -1) ∧ (∀ i : Nat, i < 4 → pv_fI h (ρ (ρ a 5) i) 0 = 0) ∧ (∀ i : Nat, i < 3 → pv_aI h (ρ a 4) i = 0)
def pv_MF (ρ : Nat → Nat → Nat) (h : pv_H) (a : Nat) : Prop := (∀ i : Nat, pv_aI h (ρ a 1) i = 0) ∧ (∀ i : Nat, i < 4 → pv_aI h (ρ a 24) i = -1) ∧ (∀ i : Nat, i < 3 → pv_aI h (ρ a 3) i = 0) ∧ pv_fI h a 5 = 0 ∧ pv_fI h a 12 = 0 ∧ pv_fI h a 13 = -1
section FW
variable {ad : Nat → Nat}
theorem pv_fIz (hI : pv_Inj ad pv_dZ.length) {i ci k : Nat} {fs : List Value} {x : Int32} (he : pv_dZ[i]? = some (.inr (ci, fs))) (hk : fs[k]? = some (.int x)) : pv_fI (pv_hz ad pv_dZ) (ad i) k = x.toInt := by
  unfold pv_fI
  rw [pv_hz_ad hI he]
  simp only [pv_rE, List.getElem?_map, hk, Option.map_some, pv_rv]
theorem pv_aIz (hI : pv_Inj ad pv_dZ.length) {i kd n : Nat} {ov : List (Nat × Value)} (he : pv_dZ[i]? = some (.inl (kd, n, ov))) (hk : kd = 0 ∨ kd = 3) (j : Nat) : pv_aI (pv_hz ad pv_dZ) (ad i) j = (pv_oi ov j).toInt := by
  unfold pv_aI
  rw [pv_hz_ad hI he]
  rcases hk with rfl | rfl <;> rfl
set_option maxRecDepth 100000 in
theorem pv_XFz (hI : pv_Inj ad pv_dZ.length) : pv_XF (pv_pz ad pv_dZ) (pv_hz ad pv_dZ) (ad 0) := by
  have r1 : pv_pz ad pv_dZ (ad 0) 1 = ad 13 := pv_pz_ad hI (i := 0) rfl
  have r0 : pv_pz ad pv_dZ (ad 0) 0 = ad 1 := pv_pz_ad hI (i := 0) rfl
  have r5 : pv_pz ad pv_dZ (ad 0) 5 = ad 65 := pv_pz_ad hI (i := 0) rfl
  have r4 : pv_pz ad pv_dZ (ad 0) 4 = ad 34 := pv_pz_ad hI (i := 0) rfl
  unfold pv_XF
  rw [r1, r0, r5, r4]
  refine ⟨⟨pv_fIz (x := 0) hI rfl rfl, pv_fIz (x := 0) hI rfl rfl, pv_fIz (x := 0) hI rfl rfl, pv_fIz (x := 0) hI rfl rfl, pv_fIz (x := 0) hI rfl rfl, pv_fIz (x := 0) hI rfl rfl, pv_fIz (x := 0) hI rfl rfl⟩, ⟨pv_fIz (x := 0) hI rfl rfl, pv_fIz (x := 0) hI rfl rfl, pv_fIz (x := -1) hI rfl rfl⟩, fun i hi => ?_, fun i hi => ?_⟩
  · rcases (show i = 0 ∨ i = 1 ∨ i = 2 ∨ i = 3 by omega) with rfl | rfl | rfl | rfl
    · have r : pv_pz ad pv_dZ (ad 65) 0 = ad 66 := pv_pz_ad hI (i := 65) rfl
      rw [r]
      exact pv_fIz (x := 0) hI rfl rfl
    · have r : pv_pz ad pv_dZ (ad 65) 1 = ad 68 := pv_pz_ad hI (i := 65) rfl
      rw [r]
      exact pv_fIz (x := 0) hI rfl rfl
    · have r : pv_pz ad pv_dZ (ad 65) 2 = ad 70 := pv_pz_ad hI (i := 65) rfl
      rw [r]
      exact pv_fIz (x := 0) hI rfl rfl
    · have r : pv_pz ad pv_dZ (ad 65) 3 = ad 72 := pv_pz_ad hI (i := 65) rfl
      rw [r]
      exact pv_fIz (x := 0) hI rfl rfl
  · rw [pv_aIz hI (i := 34) rfl (Or.inr rfl)]
    rfl
set_option maxRecDepth 100000 in
theorem pv_MFz (hI : pv_Inj ad pv_dZ.length) : pv_MF (pv_pz ad pv_dZ) (pv_hz ad pv_dZ) (ad 85) := by
  have r1 : pv_pz ad pv_dZ (ad 85) 1 = ad 86 := pv_pz_ad hI (i := 85) rfl
  have r24 : pv_pz ad pv_dZ (ad 85) 24 = ad 99 := pv_pz_ad hI (i := 85) rfl
  have r3 : pv_pz ad pv_dZ (ad 85) 3 = ad 88 := pv_pz_ad hI (i := 85) rfl
  unfold pv_MF
  rw [r1, r24, r3]
  refine ⟨fun i => ?_, fun i hi => ?_, fun i hi => ?_, pv_fIz (x := 0) hI rfl rfl, pv_fIz (x := 0) hI rfl rfl, pv_fIz (x := -1) hI rfl rfl⟩
  · rw [pv_aIz hI (i := 86) rfl (Or.inl rfl)]
    rfl
  · rw [pv_aIz hI (i := 99) rfl (Or.inl rfl)]
    rcases (show i = 0 ∨ i = 1 ∨ i = 2 ∨ i = 3 by omega) with rfl | rfl | rfl | rfl <;> rfl
  · rw [pv_aIz hI (i := 88) rfl (Or.inr rfl)]
    rfl
end FW
/-- what the class does leaves the reference fresh -/
theorem pv_MF.fr {τ : Nat → Option Nat} {ρ : Nat → Nat → Nat} {E : List Nat} {h h' : pv_H} {a : Nat} (hT : pv_Ty τ ρ h) (ha : τ a = some 7) (hF : pv_Fr τ E h h') (hE : E.all (fun q => decide (q / 64 < 40 ∧ q / 64 ≠ 7)) = true) (h0 : pv_MF ρ h a) : pv_MF ρ h' a := by
  have no : ∀ q, 40 ≤ q / 64 ∨ q / 64 = 7 → q ∉ E := fun q hq hm => by
    have := List.all_eq_true.mp hE q hm
    simp only [decide_eq_true_eq] at this
    omega
  have f1 : τ (ρ a 1) = some 40 := hT.rf (t' := 40) ha rfl rfl
  have f2 : τ (ρ a 24) = some 53 := hT.rf (t' := 53) ha rfl rfl
  have f3 : τ (ρ a 3) = some 42 := hT.rf (t' := 42) ha rfl rfl
  obtain ⟨q1, q2, q3, q4, q5, q6⟩ := h0
  refine ⟨fun i => ?_, fun i hi => ?_, fun i hi => ?_, ?_, ?_, ?_⟩
  · rw [((hF _ _ f1).2 (no _ (by decide)) i).1]; exact q1 i
  · rw [((hF _ _ f2).2 (no _ (by decide)) i).1]; exact q2 i hi
  · rw [((hF _ _ f3).2 (no _ (by decide)) i).1]; exact q3 i hi
  · rw [((hF _ _ ha).1 5 (no _ (by decide))).1]; exact q4
  · rw [((hF _ _ ha).1 12 (no _ (by decide))).1]; exact q5
  · rw [((hF _ _ ha).1 13 (no _ (by decide))).1]; exact q6
