section LE
variable {p : Program} {l : Launch} {e : Env} {s : State} {m : MethodId} {below : List Frame} {meth : Method} {c : Code} {H : Heap} {locs : List Loc} {cells slots : Nat} {K adV : Nat → Nat} {dC : Nat → ClassId} {dI : Nat → Nat → Nat} {dA : Nat → ClassId} {b h0 h1 : Nat} {xs : Nat → Int32} {ls : Array Slot} {τ : Nat → Option Nat} {ρ : Nat → Nat → Nat} {h : pv_H} {ws : va_W}
set_option maxHeartbeats 4000000 in
theorem lc_15 (X : pv_LX p s m meth c b xs K adV dC dI dA) (hKok : pv_Kok K) (Y : pv_LY s dC dI dA τ ρ h h0 h1 ws H locs) (hl : lv_has ls 4 [(3, .int 0), (2, .ref h1), (1, .ref h0), (0, .ref b)]) (hc : cells ≤ 600000 ∧ slots ≤ 7302250) : W p l e room_1 s m #[Value.ref b] below meth c H locs cells slots (lw_Z below #[Value.ref b] s) (F0 m 645 ls []) := by
  obtain ⟨hx, hb, hr, hml, hown, hts, hX, hbl, hlk, hWd⟩ := X
  obtain ⟨hT, t0, t1, hXF, hMF, hR, hP, hD, hS⟩ := Y
  have hbA : ¬ (fun q => s.heap.size ≤ q) b := fun z => by have : s.heap.size ≤ b := z; omega
  obtain ⟨⟨hn0, hn1, hn2, hn3, hn4, hn14, hn15⟩, ⟨hp0, hp1, hp2⟩, hrows, himg⟩ := hXF
  obtain ⟨hm1, hm2, hm3, hm4, hm5, hm6⟩ := id hMF
  obtain ⟨x1, hx1⟩ : ∃ x : Int, (-2147483648 ≤ x ∧ x ≤ 2147483647) ∧ xs 1 = pv_I x := ⟨_, pv_I_rep _⟩
  obtain ⟨x2, hx2⟩ : ∃ x : Int, (-2147483648 ≤ x ∧ x ≤ 2147483647) ∧ xs 2 = pv_I x := ⟨_, pv_I_rep _⟩

  refine lv_aload_n hx hb dL_645 rfl (lv_at hl 2 rfl) ?_
  refine lv_aload_n hx hb dL_646 rfl (lv_at hl 3 rfl) ?_
  refine lv_iload_n hx hb dL_647 rfl (lv_at hl 0 rfl) ?_
  refine lv_iconst (v := 1) hx hb dL_648 (by decide) ?_
  refine lv_iadd hx hb dL_649 ?_
  refine pv_sldI (k := 1) (x := x1) hx hb hX hbl hbA hS (by decide) (by decide) hx1.2 dL_650 ?_
  refine lv_aload_n hx hb dL_651 rfl (lv_at hl 3 rfl) ?_
  refine lv_iload_n hx hb dL_652 rfl (lv_at hl 0 rfl) ?_
  refine lv_iconst (v := 2) hx hb dL_653 (by decide) ?_
  refine lv_iadd hx hb dL_654 ?_
  refine pv_sldI (k := 2) (x := x2) hx hb hX hbl hbA hS (by decide) (by decide) hx2.2 dL_655 ?_
  obtain ⟨fs0, hcell0, -⟩ := (hT h0 0 t0).1 _ rfl
  refine pv_lawcall (As := [.int (pv_I x1), .int (pv_I x2)]) (rest := []) hx hb hml hown hts hWd lk109 (ct109 (τ := τ) (ρ := ρ) hT t0 hx1.1 hx2.1 (by first | assumption | exact hm1 _)) hcell0 rfl (by rw [m109]; exact Nat.le_of_ble_eq_true rfl) hR hP hD hS (Nat.le_of_ble_eq_true rfl) hl.1 dL_656 hc (fun r h' H locs ws hq hR hP hD hS => ?_)
  obtain ⟨eh, z0, er, lo0, hi0⟩ := hq
  subst eh
  subst er
  refine W.eq (g2 := F0 m 659 ls [.int (pv_I z0)]) rfl ?_
  refine lv_aload_n hx hb dL_659 rfl (lv_at hl 1 rfl) ?_
  refine lv_aload_n hx hb dL_660 rfl (lv_at hl 3 rfl) ?_
  refine lv_iload_n hx hb dL_661 rfl (lv_at hl 0 rfl) ?_
  refine lv_iconst (v := 1) hx hb dL_662 (by decide) ?_
  refine lv_iadd hx hb dL_663 ?_
  refine pv_sldI (k := 1) (x := x1) hx hb hX hbl hbA hS (by decide) (by decide) hx1.2 dL_664 ?_
  refine lv_aload_n hx hb dL_665 rfl (lv_at hl 3 rfl) ?_
  refine lv_iload_n hx hb dL_666 rfl (lv_at hl 0 rfl) ?_
  refine lv_iconst (v := 2) hx hb dL_667 (by decide) ?_
  refine lv_iadd hx hb dL_668 ?_
  refine pv_sldI (k := 2) (x := x2) hx hb hX hbl hbA hS (by decide) (by decide) hx2.2 dL_669 ?_
  obtain ⟨fs1, hcell1, -⟩ := (hT h1 7 t1).1 _ rfl
  refine pv_lawcall (As := [.int (pv_I x1), .int (pv_I x2)]) (rest := [.int (pv_I z0)]) hx hb hml hown hts hWd lk258 (ct258 (τ := τ) (ρ := ρ) hT t1 hx1.1 hx2.1 (by first | assumption | exact hm1 _)) hcell1 rfl (by rw [m258]; exact Nat.le_of_ble_eq_true rfl) hR hP hD hS (Nat.le_of_ble_eq_true rfl) hl.1 dL_670 hc (fun r h' H locs ws hq hR hP hD hS => ?_)
  obtain ⟨eh, z1, er, lo1, hi1⟩ := hq
  subst eh
  subst er
  refine W.eq (g2 := F0 m 673 ls [.int (pv_I z1), .int (pv_I z0)]) rfl ?_
  have ez : z0 = z1 := by first | omega
  refine lv_icmp_eq (tgt := 1533) hx hb dL_673 (by decide) (fun c9 => ?_) (fun c9 => absurd (by rw [ez]) c9)
  exact pv_lend ⟨hx, hb, hr, hml, hown, hts, hX, hbl, hlk, hWd⟩ hS hl hc
set_option maxHeartbeats 4000000 in
theorem lc_16 (X : pv_LX p s m meth c b xs K adV dC dI dA) (hKok : pv_Kok K) (Y : pv_LY s dC dI dA τ ρ h h0 h1 ws H locs) (hl : lv_has ls 4 [(3, .int 0), (2, .ref h1), (1, .ref h0), (0, .ref b)]) (hc : cells ≤ 600000 ∧ slots ≤ 7302250) : W p l e room_1 s m #[Value.ref b] below meth c H locs cells slots (lw_Z below #[Value.ref b] s) (F0 m 678 ls []) := by
  obtain ⟨hx, hb, hr, hml, hown, hts, hX, hbl, hlk, hWd⟩ := X
  obtain ⟨hT, t0, t1, hXF, hMF, hR, hP, hD, hS⟩ := Y
  have hbA : ¬ (fun q => s.heap.size ≤ q) b := fun z => by have : s.heap.size ≤ b := z; omega
  obtain ⟨⟨hn0, hn1, hn2, hn3, hn4, hn14, hn15⟩, ⟨hp0, hp1, hp2⟩, hrows, himg⟩ := hXF
  obtain ⟨hm1, hm2, hm3, hm4, hm5, hm6⟩ := id hMF
  obtain ⟨x1, hx1⟩ : ∃ x : Int, (-2147483648 ≤ x ∧ x ≤ 2147483647) ∧ xs 1 = pv_I x := ⟨_, pv_I_rep _⟩
  obtain ⟨x2, hx2⟩ : ∃ x : Int, (-2147483648 ≤ x ∧ x ≤ 2147483647) ∧ xs 2 = pv_I x := ⟨_, pv_I_rep _⟩
  obtain ⟨x3, hx3⟩ : ∃ x : Int, (-2147483648 ≤ x ∧ x ≤ 2147483647) ∧ xs 3 = pv_I x := ⟨_, pv_I_rep _⟩

  refine lv_aload_n hx hb dL_678 rfl (lv_at hl 2 rfl) ?_
  refine lv_aload_n hx hb dL_679 rfl (lv_at hl 3 rfl) ?_
  refine lv_iload_n hx hb dL_680 rfl (lv_at hl 0 rfl) ?_
  refine lv_iconst (v := 1) hx hb dL_681 (by decide) ?_
  refine lv_iadd hx hb dL_682 ?_
  refine pv_sldI (k := 1) (x := x1) hx hb hX hbl hbA hS (by decide) (by decide) hx1.2 dL_683 ?_
  refine lv_aload_n hx hb dL_684 rfl (lv_at hl 3 rfl) ?_
  refine lv_iload_n hx hb dL_685 rfl (lv_at hl 0 rfl) ?_
  refine lv_iconst (v := 2) hx hb dL_686 (by decide) ?_
  refine lv_iadd hx hb dL_687 ?_
  refine pv_sldI (k := 2) (x := x2) hx hb hX hbl hbA hS (by decide) (by decide) hx2.2 dL_688 ?_
  refine lv_aload_n hx hb dL_689 rfl (lv_at hl 3 rfl) ?_
  refine lv_iload_n hx hb dL_690 rfl (lv_at hl 0 rfl) ?_
  refine lv_iconst (v := 3) hx hb dL_691 (by decide) ?_
  refine lv_iadd hx hb dL_692 ?_
  refine pv_sldI (k := 3) (x := x3) hx hb hX hbl hbA hS (by decide) (by decide) hx3.2 dL_693 ?_
  obtain ⟨fs0, hcell0, -⟩ := (hT h0 0 t0).1 _ rfl
  refine pv_lawcall (As := [.int (pv_I x1), .int (pv_I x2), .int (pv_I x3)]) (rest := []) hx hb hml hown hts hWd lk111 (ct111 (τ := τ) (ρ := ρ) hT t0 hx1.1 hx2.1 hx3.1 (by first | assumption | exact hm1 _)) hcell0 rfl (by rw [m111]; exact Nat.le_of_ble_eq_true rfl) hR hP hD hS (Nat.le_of_ble_eq_true rfl) hl.1 dL_694 hc (fun r h' H locs ws hq hR hP hD hS => ?_)
  obtain ⟨eh, z0, er, lo0, hi0⟩ := hq
  subst eh
  subst er
  refine W.eq (g2 := F0 m 697 ls [.int (pv_I z0)]) rfl ?_
  refine lv_aload_n hx hb dL_697 rfl (lv_at hl 1 rfl) ?_
  refine lv_aload_n hx hb dL_698 rfl (lv_at hl 3 rfl) ?_
  refine lv_iload_n hx hb dL_699 rfl (lv_at hl 0 rfl) ?_
  refine lv_iconst (v := 1) hx hb dL_700 (by decide) ?_
  refine lv_iadd hx hb dL_701 ?_
  refine pv_sldI (k := 1) (x := x1) hx hb hX hbl hbA hS (by decide) (by decide) hx1.2 dL_702 ?_
  refine lv_aload_n hx hb dL_703 rfl (lv_at hl 3 rfl) ?_
  refine lv_iload_n hx hb dL_704 rfl (lv_at hl 0 rfl) ?_
  refine lv_iconst (v := 2) hx hb dL_705 (by decide) ?_
  refine lv_iadd hx hb dL_706 ?_
  refine pv_sldI (k := 2) (x := x2) hx hb hX hbl hbA hS (by decide) (by decide) hx2.2 dL_707 ?_
  refine lv_aload_n hx hb dL_708 rfl (lv_at hl 3 rfl) ?_
  refine lv_iload_n hx hb dL_709 rfl (lv_at hl 0 rfl) ?_
  refine lv_iconst (v := 3) hx hb dL_710 (by decide) ?_
  refine lv_iadd hx hb dL_711 ?_
  refine pv_sldI (k := 3) (x := x3) hx hb hX hbl hbA hS (by decide) (by decide) hx3.2 dL_712 ?_
  obtain ⟨fs1, hcell1, -⟩ := (hT h1 7 t1).1 _ rfl
  refine pv_lawcall (As := [.int (pv_I x1), .int (pv_I x2), .int (pv_I x3)]) (rest := [.int (pv_I z0)]) hx hb hml hown hts hWd lk259 (ct259 (τ := τ) (ρ := ρ) hT t1 hx1.1 hx2.1 hx3.1 (by first | assumption | exact hm1 _)) hcell1 rfl (by rw [m259]; exact Nat.le_of_ble_eq_true rfl) hR hP hD hS (Nat.le_of_ble_eq_true rfl) hl.1 dL_713 hc (fun r h' H locs ws hq hR hP hD hS => ?_)
  obtain ⟨eh, z1, er, lo1, hi1⟩ := hq
  subst eh
  subst er
  refine W.eq (g2 := F0 m 716 ls [.int (pv_I z1), .int (pv_I z0)]) rfl ?_
  have ez : z0 = z1 := by first | omega
  refine lv_icmp_eq (tgt := 1533) hx hb dL_716 (by decide) (fun c9 => ?_) (fun c9 => absurd (by rw [ez]) c9)
  exact pv_lend ⟨hx, hb, hr, hml, hown, hts, hX, hbl, hlk, hWd⟩ hS hl hc
set_option maxHeartbeats 4000000 in
theorem lc_17 (X : pv_LX p s m meth c b xs K adV dC dI dA) (hKok : pv_Kok K) (Y : pv_LY s dC dI dA τ ρ h h0 h1 ws H locs) (hl : lv_has ls 4 [(3, .int 0), (2, .ref h1), (1, .ref h0), (0, .ref b)]) (hc : cells ≤ 600000 ∧ slots ≤ 7302250) : W p l e room_1 s m #[Value.ref b] below meth c H locs cells slots (lw_Z below #[Value.ref b] s) (F0 m 721 ls []) := by
  obtain ⟨hx, hb, hr, hml, hown, hts, hX, hbl, hlk, hWd⟩ := X
  obtain ⟨hT, t0, t1, hXF, hMF, hR, hP, hD, hS⟩ := Y
  have hbA : ¬ (fun q => s.heap.size ≤ q) b := fun z => by have : s.heap.size ≤ b := z; omega
  obtain ⟨⟨hn0, hn1, hn2, hn3, hn4, hn14, hn15⟩, ⟨hp0, hp1, hp2⟩, hrows, himg⟩ := hXF
  obtain ⟨hm1, hm2, hm3, hm4, hm5, hm6⟩ := id hMF
  obtain ⟨x1, hx1⟩ : ∃ x : Int, (-2147483648 ≤ x ∧ x ≤ 2147483647) ∧ xs 1 = pv_I x := ⟨_, pv_I_rep _⟩
  obtain ⟨x2, hx2⟩ : ∃ x : Int, (-2147483648 ≤ x ∧ x ≤ 2147483647) ∧ xs 2 = pv_I x := ⟨_, pv_I_rep _⟩
  obtain ⟨x3, hx3⟩ : ∃ x : Int, (-2147483648 ≤ x ∧ x ≤ 2147483647) ∧ xs 3 = pv_I x := ⟨_, pv_I_rep _⟩
  obtain ⟨x4, hx4⟩ : ∃ x : Int, (-2147483648 ≤ x ∧ x ≤ 2147483647) ∧ xs 4 = pv_I x := ⟨_, pv_I_rep _⟩

  refine lv_aload_n hx hb dL_721 rfl (lv_at hl 2 rfl) ?_
  refine lv_aload_n hx hb dL_722 rfl (lv_at hl 3 rfl) ?_
  refine lv_iload_n hx hb dL_723 rfl (lv_at hl 0 rfl) ?_
  refine lv_iconst (v := 1) hx hb dL_724 (by decide) ?_
  refine lv_iadd hx hb dL_725 ?_
  refine pv_sldI (k := 1) (x := x1) hx hb hX hbl hbA hS (by decide) (by decide) hx1.2 dL_726 ?_
  refine lv_aload_n hx hb dL_727 rfl (lv_at hl 3 rfl) ?_
  refine lv_iload_n hx hb dL_728 rfl (lv_at hl 0 rfl) ?_
  refine lv_iconst (v := 2) hx hb dL_729 (by decide) ?_
  refine lv_iadd hx hb dL_730 ?_
  refine pv_sldI (k := 2) (x := x2) hx hb hX hbl hbA hS (by decide) (by decide) hx2.2 dL_731 ?_
  refine lv_aload_n hx hb dL_732 rfl (lv_at hl 3 rfl) ?_
  refine lv_iload_n hx hb dL_733 rfl (lv_at hl 0 rfl) ?_
  refine lv_iconst (v := 3) hx hb dL_734 (by decide) ?_
  refine lv_iadd hx hb dL_735 ?_
  refine pv_sldI (k := 3) (x := x3) hx hb hX hbl hbA hS (by decide) (by decide) hx3.2 dL_736 ?_
  refine lv_aload_n hx hb dL_737 rfl (lv_at hl 3 rfl) ?_
  refine lv_iload_n hx hb dL_738 rfl (lv_at hl 0 rfl) ?_
  refine lv_iconst (v := 4) hx hb dL_739 (by decide) ?_
  refine lv_iadd hx hb dL_740 ?_
  refine pv_sldI (k := 4) (x := x4) hx hb hX hbl hbA hS (by decide) (by decide) hx4.2 dL_741 ?_
  obtain ⟨fs0, hcell0, -⟩ := (hT h0 0 t0).1 _ rfl
  refine pv_lawcall (As := [.int (pv_I x1), .int (pv_I x2), .int (pv_I x3), .int (pv_I x4)]) (rest := []) hx hb hml hown hts hWd lk114 (ct114 (τ := τ) (ρ := ρ) hT t0 hx1.1 hx2.1 hx3.1 hx4.1 (by first | assumption | exact hm1 _)) hcell0 rfl (by rw [m114]; exact Nat.le_of_ble_eq_true rfl) hR hP hD hS (Nat.le_of_ble_eq_true rfl) hl.1 dL_742 hc (fun r h' H locs ws hq hR hP hD hS => ?_)
  obtain ⟨eh, z0, er, lo0, hi0⟩ := hq
  subst eh
  subst er
  refine W.eq (g2 := F0 m 745 ls [.int (pv_I z0)]) rfl ?_
  refine lv_aload_n hx hb dL_745 rfl (lv_at hl 1 rfl) ?_
  refine lv_aload_n hx hb dL_746 rfl (lv_at hl 3 rfl) ?_
  refine lv_iload_n hx hb dL_747 rfl (lv_at hl 0 rfl) ?_
  refine lv_iconst (v := 1) hx hb dL_748 (by decide) ?_
  refine lv_iadd hx hb dL_749 ?_
  refine pv_sldI (k := 1) (x := x1) hx hb hX hbl hbA hS (by decide) (by decide) hx1.2 dL_750 ?_
  refine lv_aload_n hx hb dL_751 rfl (lv_at hl 3 rfl) ?_
  refine lv_iload_n hx hb dL_752 rfl (lv_at hl 0 rfl) ?_
  refine lv_iconst (v := 2) hx hb dL_753 (by decide) ?_
  refine lv_iadd hx hb dL_754 ?_
  refine pv_sldI (k := 2) (x := x2) hx hb hX hbl hbA hS (by decide) (by decide) hx2.2 dL_755 ?_
  refine lv_aload_n hx hb dL_756 rfl (lv_at hl 3 rfl) ?_
  refine lv_iload_n hx hb dL_757 rfl (lv_at hl 0 rfl) ?_
  refine lv_iconst (v := 3) hx hb dL_758 (by decide) ?_
  refine lv_iadd hx hb dL_759 ?_
  refine pv_sldI (k := 3) (x := x3) hx hb hX hbl hbA hS (by decide) (by decide) hx3.2 dL_760 ?_
  refine lv_aload_n hx hb dL_761 rfl (lv_at hl 3 rfl) ?_
  refine lv_iload_n hx hb dL_762 rfl (lv_at hl 0 rfl) ?_
  refine lv_iconst (v := 4) hx hb dL_763 (by decide) ?_
  refine lv_iadd hx hb dL_764 ?_
  refine pv_sldI (k := 4) (x := x4) hx hb hX hbl hbA hS (by decide) (by decide) hx4.2 dL_765 ?_
  obtain ⟨fs1, hcell1, -⟩ := (hT h1 7 t1).1 _ rfl
  refine pv_lawcall (As := [.int (pv_I x1), .int (pv_I x2), .int (pv_I x3), .int (pv_I x4)]) (rest := [.int (pv_I z0)]) hx hb hml hown hts hWd lk263 (ct263 (τ := τ) (ρ := ρ) hT t1 hx1.1 hx2.1 hx3.1 hx4.1 (by first | assumption | exact hm1 _)) hcell1 rfl (by rw [m263]; exact Nat.le_of_ble_eq_true rfl) hR hP hD hS (Nat.le_of_ble_eq_true rfl) hl.1 dL_766 hc (fun r h' H locs ws hq hR hP hD hS => ?_)
  obtain ⟨eh, z1, er, lo1, hi1⟩ := hq
  subst eh
  subst er
  refine W.eq (g2 := F0 m 769 ls [.int (pv_I z1), .int (pv_I z0)]) rfl ?_
  have ez : z0 = z1 := by first | omega
  refine lv_icmp_eq (tgt := 1533) hx hb dL_769 (by decide) (fun c9 => ?_) (fun c9 => absurd (by rw [ez]) c9)
  exact pv_lend ⟨hx, hb, hr, hml, hown, hts, hX, hbl, hlk, hWd⟩ hS hl hc
set_option maxHeartbeats 4000000 in
theorem lc_18 (X : pv_LX p s m meth c b xs K adV dC dI dA) (hKok : pv_Kok K) (Y : pv_LY s dC dI dA τ ρ h h0 h1 ws H locs) (hl : lv_has ls 4 [(3, .int 0), (2, .ref h1), (1, .ref h0), (0, .ref b)]) (hc : cells ≤ 600000 ∧ slots ≤ 7302250) : W p l e room_1 s m #[Value.ref b] below meth c H locs cells slots (lw_Z below #[Value.ref b] s) (F0 m 774 ls []) := by
  obtain ⟨hx, hb, hr, hml, hown, hts, hX, hbl, hlk, hWd⟩ := X
  obtain ⟨hT, t0, t1, hXF, hMF, hR, hP, hD, hS⟩ := Y
  have hbA : ¬ (fun q => s.heap.size ≤ q) b := fun z => by have : s.heap.size ≤ b := z; omega
  obtain ⟨⟨hn0, hn1, hn2, hn3, hn4, hn14, hn15⟩, ⟨hp0, hp1, hp2⟩, hrows, himg⟩ := hXF
  obtain ⟨hm1, hm2, hm3, hm4, hm5, hm6⟩ := id hMF
  obtain ⟨x1, hx1⟩ : ∃ x : Int, (-2147483648 ≤ x ∧ x ≤ 2147483647) ∧ xs 1 = pv_I x := ⟨_, pv_I_rep _⟩
  obtain ⟨x2, hx2⟩ : ∃ x : Int, (-2147483648 ≤ x ∧ x ≤ 2147483647) ∧ xs 2 = pv_I x := ⟨_, pv_I_rep _⟩

  refine lv_aload_n hx hb dL_774 rfl (lv_at hl 2 rfl) ?_
  refine lv_aload_n hx hb dL_775 rfl (lv_at hl 3 rfl) ?_
  refine lv_iload_n hx hb dL_776 rfl (lv_at hl 0 rfl) ?_
  refine lv_iconst (v := 1) hx hb dL_777 (by decide) ?_
  refine lv_iadd hx hb dL_778 ?_
  refine pv_sldI (k := 1) (x := x1) hx hb hX hbl hbA hS (by decide) (by decide) hx1.2 dL_779 ?_
  refine lv_aload_n hx hb dL_780 rfl (lv_at hl 3 rfl) ?_
  refine lv_iload_n hx hb dL_781 rfl (lv_at hl 0 rfl) ?_
  refine lv_iconst (v := 2) hx hb dL_782 (by decide) ?_
  refine lv_iadd hx hb dL_783 ?_
  refine pv_sldI (k := 2) (x := x2) hx hb hX hbl hbA hS (by decide) (by decide) hx2.2 dL_784 ?_
  obtain ⟨fs0, hcell0, -⟩ := (hT h0 0 t0).1 _ rfl
  refine pv_lawcall (As := [.int (pv_I x1), .int (pv_I x2)]) (rest := []) hx hb hml hown hts hWd lk118 (ct118 (τ := τ) (ρ := ρ) hT t0 hx1.1 hx2.1 (by first | assumption | exact hm1 _)) hcell0 rfl (by rw [m118]; exact Nat.le_of_ble_eq_true rfl) hR hP hD hS (Nat.le_of_ble_eq_true rfl) hl.1 dL_785 hc (fun r h' H locs ws hq hR hP hD hS => ?_)
  obtain ⟨eh, z0, er, lo0, hi0⟩ := hq
  subst eh
  subst er
  refine W.eq (g2 := F0 m 788 ls [.int (pv_I z0)]) rfl ?_
  refine lv_aload_n hx hb dL_788 rfl (lv_at hl 1 rfl) ?_
  refine lv_aload_n hx hb dL_789 rfl (lv_at hl 3 rfl) ?_
  refine lv_iload_n hx hb dL_790 rfl (lv_at hl 0 rfl) ?_
  refine lv_iconst (v := 1) hx hb dL_791 (by decide) ?_
  refine lv_iadd hx hb dL_792 ?_
  refine pv_sldI (k := 1) (x := x1) hx hb hX hbl hbA hS (by decide) (by decide) hx1.2 dL_793 ?_
  refine lv_aload_n hx hb dL_794 rfl (lv_at hl 3 rfl) ?_
  refine lv_iload_n hx hb dL_795 rfl (lv_at hl 0 rfl) ?_
  refine lv_iconst (v := 2) hx hb dL_796 (by decide) ?_
  refine lv_iadd hx hb dL_797 ?_
  refine pv_sldI (k := 2) (x := x2) hx hb hX hbl hbA hS (by decide) (by decide) hx2.2 dL_798 ?_
  obtain ⟨fs1, hcell1, -⟩ := (hT h1 7 t1).1 _ rfl
  refine pv_lawcall (As := [.int (pv_I x1), .int (pv_I x2)]) (rest := [.int (pv_I z0)]) hx hb hml hown hts hWd lk266 (ct266 (τ := τ) (ρ := ρ) hT t1 hx1.1 hx2.1 (by first | assumption | exact hm1 _)) hcell1 rfl (by rw [m266]; exact Nat.le_of_ble_eq_true rfl) hR hP hD hS (Nat.le_of_ble_eq_true rfl) hl.1 dL_799 hc (fun r h' H locs ws hq hR hP hD hS => ?_)
  obtain ⟨eh, z1, er, lo1, hi1⟩ := hq
  subst eh
  subst er
  refine W.eq (g2 := F0 m 802 ls [.int (pv_I z1), .int (pv_I z0)]) rfl ?_
  have ez : z0 = z1 := by first | omega
  refine lv_icmp_eq (tgt := 1533) hx hb dL_802 (by decide) (fun c9 => ?_) (fun c9 => absurd (by rw [ez]) c9)
  exact pv_lend ⟨hx, hb, hr, hml, hown, hts, hX, hbl, hlk, hWd⟩ hS hl hc
set_option maxHeartbeats 4000000 in
theorem lc_19 (X : pv_LX p s m meth c b xs K adV dC dI dA) (hKok : pv_Kok K) (Y : pv_LY s dC dI dA τ ρ h h0 h1 ws H locs) (hl : lv_has ls 4 [(3, .int 0), (2, .ref h1), (1, .ref h0), (0, .ref b)]) (hc : cells ≤ 600000 ∧ slots ≤ 7302250) : W p l e room_1 s m #[Value.ref b] below meth c H locs cells slots (lw_Z below #[Value.ref b] s) (F0 m 807 ls []) := by
  obtain ⟨hx, hb, hr, hml, hown, hts, hX, hbl, hlk, hWd⟩ := X
  obtain ⟨hT, t0, t1, hXF, hMF, hR, hP, hD, hS⟩ := Y
  have hbA : ¬ (fun q => s.heap.size ≤ q) b := fun z => by have : s.heap.size ≤ b := z; omega
  obtain ⟨⟨hn0, hn1, hn2, hn3, hn4, hn14, hn15⟩, ⟨hp0, hp1, hp2⟩, hrows, himg⟩ := hXF
  obtain ⟨hm1, hm2, hm3, hm4, hm5, hm6⟩ := id hMF
  obtain ⟨x1, hx1⟩ : ∃ x : Int, (-2147483648 ≤ x ∧ x ≤ 2147483647) ∧ xs 1 = pv_I x := ⟨_, pv_I_rep _⟩
  obtain ⟨x2, hx2⟩ : ∃ x : Int, (-2147483648 ≤ x ∧ x ≤ 2147483647) ∧ xs 2 = pv_I x := ⟨_, pv_I_rep _⟩

  refine lv_aload_n hx hb dL_807 rfl (lv_at hl 2 rfl) ?_
  refine lv_aload_n hx hb dL_808 rfl (lv_at hl 3 rfl) ?_
  refine lv_iload_n hx hb dL_809 rfl (lv_at hl 0 rfl) ?_
  refine lv_iconst (v := 1) hx hb dL_810 (by decide) ?_
  refine lv_iadd hx hb dL_811 ?_
  refine pv_sldI (k := 1) (x := x1) hx hb hX hbl hbA hS (by decide) (by decide) hx1.2 dL_812 ?_
  refine lv_aload_n hx hb dL_813 rfl (lv_at hl 3 rfl) ?_
  refine lv_iload_n hx hb dL_814 rfl (lv_at hl 0 rfl) ?_
  refine lv_iconst (v := 2) hx hb dL_815 (by decide) ?_
  refine lv_iadd hx hb dL_816 ?_
  refine pv_sldI (k := 2) (x := x2) hx hb hX hbl hbA hS (by decide) (by decide) hx2.2 dL_817 ?_
  obtain ⟨fs0, hcell0, -⟩ := (hT h0 0 t0).1 _ rfl
  refine pv_lawcall (As := [.int (pv_I x1), .int (pv_I x2)]) (rest := []) hx hb hml hown hts hWd lk122 (ct122 (τ := τ) (ρ := ρ) hT t0 hx1.1 hx2.1 (by first | assumption | exact hm1 _)) hcell0 rfl (by rw [m122]; exact Nat.le_of_ble_eq_true rfl) hR hP hD hS (Nat.le_of_ble_eq_true rfl) hl.1 dL_818 hc (fun r h' H locs ws hq hR hP hD hS => ?_)
  obtain ⟨eh, z0, er, lo0, hi0⟩ := hq
  subst eh
  subst er
  refine W.eq (g2 := F0 m 821 ls [.int (pv_I z0)]) rfl ?_
  refine lv_aload_n hx hb dL_821 rfl (lv_at hl 1 rfl) ?_
  refine lv_aload_n hx hb dL_822 rfl (lv_at hl 3 rfl) ?_
  refine lv_iload_n hx hb dL_823 rfl (lv_at hl 0 rfl) ?_
  refine lv_iconst (v := 1) hx hb dL_824 (by decide) ?_
  refine lv_iadd hx hb dL_825 ?_
  refine pv_sldI (k := 1) (x := x1) hx hb hX hbl hbA hS (by decide) (by decide) hx1.2 dL_826 ?_
  refine lv_aload_n hx hb dL_827 rfl (lv_at hl 3 rfl) ?_
  refine lv_iload_n hx hb dL_828 rfl (lv_at hl 0 rfl) ?_
  refine lv_iconst (v := 2) hx hb dL_829 (by decide) ?_
  refine lv_iadd hx hb dL_830 ?_
  refine pv_sldI (k := 2) (x := x2) hx hb hX hbl hbA hS (by decide) (by decide) hx2.2 dL_831 ?_
  obtain ⟨fs1, hcell1, -⟩ := (hT h1 7 t1).1 _ rfl
  refine pv_lawcall (As := [.int (pv_I x1), .int (pv_I x2)]) (rest := [.int (pv_I z0)]) hx hb hml hown hts hWd lk271 (ct271 (τ := τ) (ρ := ρ) hT t1 hx1.1 hx2.1 (by first | assumption | exact hm1 _)) hcell1 rfl (by rw [m271]; exact Nat.le_of_ble_eq_true rfl) hR hP hD hS (Nat.le_of_ble_eq_true rfl) hl.1 dL_832 hc (fun r h' H locs ws hq hR hP hD hS => ?_)
  obtain ⟨eh, z1, er, lo1, hi1⟩ := hq
  subst eh
  subst er
  refine W.eq (g2 := F0 m 835 ls [.int (pv_I z1), .int (pv_I z0)]) rfl ?_
  have ez : z0 = z1 := by first | omega
  refine lv_icmp_eq (tgt := 1533) hx hb dL_835 (by decide) (fun c9 => ?_) (fun c9 => absurd (by rw [ez]) c9)
  exact pv_lend ⟨hx, hb, hr, hml, hown, hts, hX, hbl, hlk, hWd⟩ hS hl hc
set_option maxHeartbeats 4000000 in
theorem lc_20 (X : pv_LX p s m meth c b xs K adV dC dI dA) (hKok : pv_Kok K) (Y : pv_LY s dC dI dA τ ρ h h0 h1 ws H locs) (hl : lv_has ls 4 [(3, .int 0), (2, .ref h1), (1, .ref h0), (0, .ref b)]) (hc : cells ≤ 600000 ∧ slots ≤ 7302250) : W p l e room_1 s m #[Value.ref b] below meth c H locs cells slots (lw_Z below #[Value.ref b] s) (F0 m 840 ls []) := by
  obtain ⟨hx, hb, hr, hml, hown, hts, hX, hbl, hlk, hWd⟩ := X
  obtain ⟨hT, t0, t1, hXF, hMF, hR, hP, hD, hS⟩ := Y
  have hbA : ¬ (fun q => s.heap.size ≤ q) b := fun z => by have : s.heap.size ≤ b := z; omega
  obtain ⟨⟨hn0, hn1, hn2, hn3, hn4, hn14, hn15⟩, ⟨hp0, hp1, hp2⟩, hrows, himg⟩ := hXF
  obtain ⟨hm1, hm2, hm3, hm4, hm5, hm6⟩ := id hMF

  refine lv_aload_n hx hb dL_840 rfl (lv_at hl 2 rfl) ?_
  obtain ⟨fs0, hcell0, -⟩ := (hT h0 0 t0).1 _ rfl
  refine pv_lawcall (As := []) (rest := []) hx hb hml hown hts hWd lk127 (ct127 (τ := τ) (ρ := ρ) hT t0 (by first | assumption | exact hm1 _)) hcell0 rfl (by rw [m127]; exact Nat.le_of_ble_eq_true rfl) hR hP hD hS (Nat.le_of_ble_eq_true rfl) hl.1 dL_841 hc (fun r h' H locs ws hq hR hP hD hS => ?_)
  obtain ⟨eh, z0, er, lo0, hi0⟩ := hq
  subst eh
  subst er
  refine W.eq (g2 := F0 m 844 ls [.int (pv_I z0)]) rfl ?_
  refine lv_aload_n hx hb dL_844 rfl (lv_at hl 1 rfl) ?_
  obtain ⟨fs1, hcell1, -⟩ := (hT h1 7 t1).1 _ rfl
  refine pv_lawcall (As := []) (rest := [.int (pv_I z0)]) hx hb hml hown hts hWd lk275 (ct275 (τ := τ) (ρ := ρ) hT t1 (by first | assumption | exact hm1 _)) hcell1 rfl (by rw [m275]; exact Nat.le_of_ble_eq_true rfl) hR hP hD hS (Nat.le_of_ble_eq_true rfl) hl.1 dL_845 hc (fun r h' H locs ws hq hR hP hD hS => ?_)
  obtain ⟨eh, z1, er, lo1, hi1⟩ := hq
  subst eh
  subst er
  refine W.eq (g2 := F0 m 848 ls [.int (pv_I z1), .int (pv_I z0)]) rfl ?_
  have ez : z0 = z1 := by first | omega
  refine lv_icmp_eq (tgt := 1533) hx hb dL_848 (by decide) (fun c9 => ?_) (fun c9 => absurd (by rw [ez]) c9)
  exact pv_lend ⟨hx, hb, hr, hml, hown, hts, hX, hbl, hlk, hWd⟩ hS hl hc
set_option maxHeartbeats 4000000 in
theorem lc_21 (X : pv_LX p s m meth c b xs K adV dC dI dA) (hKok : pv_Kok K) (Y : pv_LY s dC dI dA τ ρ h h0 h1 ws H locs) (hl : lv_has ls 4 [(3, .int 0), (2, .ref h1), (1, .ref h0), (0, .ref b)]) (hc : cells ≤ 600000 ∧ slots ≤ 7302250) : W p l e room_1 s m #[Value.ref b] below meth c H locs cells slots (lw_Z below #[Value.ref b] s) (F0 m 853 ls []) := by
  obtain ⟨hx, hb, hr, hml, hown, hts, hX, hbl, hlk, hWd⟩ := X
  obtain ⟨hT, t0, t1, hXF, hMF, hR, hP, hD, hS⟩ := Y
  have hbA : ¬ (fun q => s.heap.size ≤ q) b := fun z => by have : s.heap.size ≤ b := z; omega
  obtain ⟨⟨hn0, hn1, hn2, hn3, hn4, hn14, hn15⟩, ⟨hp0, hp1, hp2⟩, hrows, himg⟩ := hXF
  obtain ⟨hm1, hm2, hm3, hm4, hm5, hm6⟩ := id hMF
  obtain ⟨x1, hx1⟩ : ∃ x : Int, (-2147483648 ≤ x ∧ x ≤ 2147483647) ∧ xs 1 = pv_I x := ⟨_, pv_I_rep _⟩

  refine lv_aload_n hx hb dL_853 rfl (lv_at hl 2 rfl) ?_
  refine lv_aload_n hx hb dL_854 rfl (lv_at hl 3 rfl) ?_
  refine lv_iload_n hx hb dL_855 rfl (lv_at hl 0 rfl) ?_
  refine lv_iconst (v := 1) hx hb dL_856 (by decide) ?_
  refine lv_iadd hx hb dL_857 ?_
  refine pv_sldI (k := 1) (x := x1) hx hb hX hbl hbA hS (by decide) (by decide) hx1.2 dL_858 ?_
  obtain ⟨fs0, hcell0, -⟩ := (hT h0 0 t0).1 _ rfl
  refine pv_lawcall (As := [.int (pv_I x1)]) (rest := []) hx hb hml hown hts hWd lk129 (ct129 (τ := τ) (ρ := ρ) hT t0 hx1.1 (by first | assumption | exact hm1 _)) hcell0 rfl (by rw [m129]; exact Nat.le_of_ble_eq_true rfl) hR hP hD hS (Nat.le_of_ble_eq_true rfl) hl.1 dL_859 hc (fun r h' H locs ws hq hR hP hD hS => ?_)
  obtain ⟨eh, z0, er, lo0, hi0⟩ := hq
  subst eh
  subst er
  refine W.eq (g2 := F0 m 862 ls [.int (pv_I z0)]) rfl ?_
  refine lv_aload_n hx hb dL_862 rfl (lv_at hl 1 rfl) ?_
  refine lv_aload_n hx hb dL_863 rfl (lv_at hl 3 rfl) ?_
  refine lv_iload_n hx hb dL_864 rfl (lv_at hl 0 rfl) ?_
  refine lv_iconst (v := 1) hx hb dL_865 (by decide) ?_
  refine lv_iadd hx hb dL_866 ?_
  refine pv_sldI (k := 1) (x := x1) hx hb hX hbl hbA hS (by decide) (by decide) hx1.2 dL_867 ?_
  obtain ⟨fs1, hcell1, -⟩ := (hT h1 7 t1).1 _ rfl
  refine pv_lawcall (As := [.int (pv_I x1)]) (rest := [.int (pv_I z0)]) hx hb hml hown hts hWd lk277 (ct277 (τ := τ) (ρ := ρ) hT t1 hx1.1 (by first | assumption | exact hm1 _)) hcell1 rfl (by rw [m277]; exact Nat.le_of_ble_eq_true rfl) hR hP hD hS (Nat.le_of_ble_eq_true rfl) hl.1 dL_868 hc (fun r h' H locs ws hq hR hP hD hS => ?_)
  obtain ⟨eh, z1, er, lo1, hi1⟩ := hq
  subst eh
  subst er
  refine W.eq (g2 := F0 m 871 ls [.int (pv_I z1), .int (pv_I z0)]) rfl ?_
  have ez : z0 = z1 := by first | omega
  refine lv_icmp_eq (tgt := 1533) hx hb dL_871 (by decide) (fun c9 => ?_) (fun c9 => absurd (by rw [ez]) c9)
  exact pv_lend ⟨hx, hb, hr, hml, hown, hts, hX, hbl, hlk, hWd⟩ hS hl hc
set_option maxHeartbeats 4000000 in
theorem lc_22 (X : pv_LX p s m meth c b xs K adV dC dI dA) (hKok : pv_Kok K) (Y : pv_LY s dC dI dA τ ρ h h0 h1 ws H locs) (hl : lv_has ls 4 [(3, .int 0), (2, .ref h1), (1, .ref h0), (0, .ref b)]) (hc : cells ≤ 600000 ∧ slots ≤ 7302250) : W p l e room_1 s m #[Value.ref b] below meth c H locs cells slots (lw_Z below #[Value.ref b] s) (F0 m 876 ls []) := by
  obtain ⟨hx, hb, hr, hml, hown, hts, hX, hbl, hlk, hWd⟩ := X
  obtain ⟨hT, t0, t1, hXF, hMF, hR, hP, hD, hS⟩ := Y
  have hbA : ¬ (fun q => s.heap.size ≤ q) b := fun z => by have : s.heap.size ≤ b := z; omega
  obtain ⟨⟨hn0, hn1, hn2, hn3, hn4, hn14, hn15⟩, ⟨hp0, hp1, hp2⟩, hrows, himg⟩ := hXF
  obtain ⟨hm1, hm2, hm3, hm4, hm5, hm6⟩ := id hMF

  refine lv_aload_n hx hb dL_876 rfl (lv_at hl 2 rfl) ?_
  obtain ⟨fs0, hcell0, -⟩ := (hT h0 0 t0).1 _ rfl
  refine pv_lawcall (As := []) (rest := []) hx hb hml hown hts hWd lk130 (ct130 (τ := τ) (ρ := ρ) hT t0 (by first | assumption | exact hm1 _)) hcell0 rfl (by rw [m130]; exact Nat.le_of_ble_eq_true rfl) hR hP hD hS (Nat.le_of_ble_eq_true rfl) hl.1 dL_877 hc (fun r h' H locs ws hq hR hP hD hS => ?_)
  obtain ⟨eh, z0, er, lo0, hi0⟩ := hq
  subst eh
  subst er
  refine W.eq (g2 := F0 m 880 ls [.int (pv_I z0)]) rfl ?_
  refine lv_aload_n hx hb dL_880 rfl (lv_at hl 1 rfl) ?_
  obtain ⟨fs1, hcell1, -⟩ := (hT h1 7 t1).1 _ rfl
  refine pv_lawcall (As := []) (rest := [.int (pv_I z0)]) hx hb hml hown hts hWd lk278 (ct278 (τ := τ) (ρ := ρ) hT t1 (by first | assumption | exact hm1 _)) hcell1 rfl (by rw [m278]; exact Nat.le_of_ble_eq_true rfl) hR hP hD hS (Nat.le_of_ble_eq_true rfl) hl.1 dL_881 hc (fun r h' H locs ws hq hR hP hD hS => ?_)
  obtain ⟨eh, z1, er, lo1, hi1⟩ := hq
  subst eh
  subst er
  refine W.eq (g2 := F0 m 884 ls [.int (pv_I z1), .int (pv_I z0)]) rfl ?_
  have ez : z0 = z1 := by first | omega
  refine lv_icmp_eq (tgt := 1533) hx hb dL_884 (by decide) (fun c9 => ?_) (fun c9 => absurd (by rw [ez]) c9)
  exact pv_lend ⟨hx, hb, hr, hml, hown, hts, hX, hbl, hlk, hWd⟩ hS hl hc
set_option maxHeartbeats 4000000 in
theorem lc_23 (X : pv_LX p s m meth c b xs K adV dC dI dA) (hKok : pv_Kok K) (Y : pv_LY s dC dI dA τ ρ h h0 h1 ws H locs) (hl : lv_has ls 4 [(3, .int 0), (2, .ref h1), (1, .ref h0), (0, .ref b)]) (hc : cells ≤ 600000 ∧ slots ≤ 7302250) : W p l e room_1 s m #[Value.ref b] below meth c H locs cells slots (lw_Z below #[Value.ref b] s) (F0 m 889 ls []) := by
  obtain ⟨hx, hb, hr, hml, hown, hts, hX, hbl, hlk, hWd⟩ := X
  obtain ⟨hT, t0, t1, hXF, hMF, hR, hP, hD, hS⟩ := Y
  have hbA : ¬ (fun q => s.heap.size ≤ q) b := fun z => by have : s.heap.size ≤ b := z; omega
  obtain ⟨⟨hn0, hn1, hn2, hn3, hn4, hn14, hn15⟩, ⟨hp0, hp1, hp2⟩, hrows, himg⟩ := hXF
  obtain ⟨hm1, hm2, hm3, hm4, hm5, hm6⟩ := id hMF

  refine lv_aload_n hx hb dL_889 rfl (lv_at hl 2 rfl) ?_
  obtain ⟨fs0, hcell0, -⟩ := (hT h0 0 t0).1 _ rfl
  refine pv_lawcall (As := []) (rest := []) hx hb hml hown hts hWd lk133 (ct133 (τ := τ) (ρ := ρ) hT t0 (by first | assumption | exact hm1 _) (by first | assumption | exact hm1 _)) hcell0 rfl (by rw [m133]; exact Nat.le_of_ble_eq_true rfl) hR hP hD hS (Nat.le_of_ble_eq_true rfl) hl.1 dL_890 hc (fun r h' H locs ws hq hR hP hD hS => ?_)
  obtain ⟨eh, z0, er, lo0, hi0⟩ := hq
  subst eh
  subst er
  refine W.eq (g2 := F0 m 893 ls [.int (pv_I z0)]) rfl ?_
  refine lv_aload_n hx hb dL_893 rfl (lv_at hl 1 rfl) ?_
  obtain ⟨fs1, hcell1, -⟩ := (hT h1 7 t1).1 _ rfl
  refine pv_lawcall (As := []) (rest := [.int (pv_I z0)]) hx hb hml hown hts hWd lk279 (ct279 (τ := τ) (ρ := ρ) hT t1 (by first | assumption | exact hm1 _)) hcell1 rfl (by rw [m279]; exact Nat.le_of_ble_eq_true rfl) hR hP hD hS (Nat.le_of_ble_eq_true rfl) hl.1 dL_894 hc (fun r h' H locs ws hq hR hP hD hS => ?_)
  obtain ⟨eh, z1, er, lo1, hi1⟩ := hq
  subst eh
  subst er
  refine W.eq (g2 := F0 m 897 ls [.int (pv_I z1), .int (pv_I z0)]) rfl ?_
  have ez : z0 = z1 := by first | omega
  refine lv_icmp_eq (tgt := 1533) hx hb dL_897 (by decide) (fun c9 => ?_) (fun c9 => absurd (by rw [ez]) c9)
  exact pv_lend ⟨hx, hb, hr, hml, hown, hts, hX, hbl, hlk, hWd⟩ hS hl hc
set_option maxHeartbeats 4000000 in
theorem lc_24 (X : pv_LX p s m meth c b xs K adV dC dI dA) (hKok : pv_Kok K) (Y : pv_LY s dC dI dA τ ρ h h0 h1 ws H locs) (hl : lv_has ls 4 [(3, .int 0), (2, .ref h1), (1, .ref h0), (0, .ref b)]) (hc : cells ≤ 600000 ∧ slots ≤ 7302250) : W p l e room_1 s m #[Value.ref b] below meth c H locs cells slots (lw_Z below #[Value.ref b] s) (F0 m 902 ls []) := by
  obtain ⟨hx, hb, hr, hml, hown, hts, hX, hbl, hlk, hWd⟩ := X
  obtain ⟨hT, t0, t1, hXF, hMF, hR, hP, hD, hS⟩ := Y
  have hbA : ¬ (fun q => s.heap.size ≤ q) b := fun z => by have : s.heap.size ≤ b := z; omega
  obtain ⟨⟨hn0, hn1, hn2, hn3, hn4, hn14, hn15⟩, ⟨hp0, hp1, hp2⟩, hrows, himg⟩ := hXF
  obtain ⟨hm1, hm2, hm3, hm4, hm5, hm6⟩ := id hMF
  obtain ⟨x1, hx1⟩ : ∃ x : Int, (-2147483648 ≤ x ∧ x ≤ 2147483647) ∧ xs 1 = pv_I x := ⟨_, pv_I_rep _⟩
  obtain ⟨x2, hx2⟩ : ∃ x : Int, (-2147483648 ≤ x ∧ x ≤ 2147483647) ∧ xs 2 = pv_I x := ⟨_, pv_I_rep _⟩

  refine lv_aload_n hx hb dL_902 rfl (lv_at hl 2 rfl) ?_
  refine lv_aload_n hx hb dL_903 rfl (lv_at hl 3 rfl) ?_
  refine lv_iload_n hx hb dL_904 rfl (lv_at hl 0 rfl) ?_
  refine lv_iconst (v := 1) hx hb dL_905 (by decide) ?_
  refine lv_iadd hx hb dL_906 ?_
  refine pv_sldI (k := 1) (x := x1) hx hb hX hbl hbA hS (by decide) (by decide) hx1.2 dL_907 ?_
  refine lv_aload_n hx hb dL_908 rfl (lv_at hl 3 rfl) ?_
  refine lv_iload_n hx hb dL_909 rfl (lv_at hl 0 rfl) ?_
  refine lv_iconst (v := 2) hx hb dL_910 (by decide) ?_
  refine lv_iadd hx hb dL_911 ?_
  refine pv_sldI (k := 2) (x := x2) hx hb hX hbl hbA hS (by decide) (by decide) hx2.2 dL_912 ?_
  obtain ⟨fs0, hcell0, -⟩ := (hT h0 0 t0).1 _ rfl
  refine pv_lawcall (As := [.int (pv_I x1), .int (pv_I x2)]) (rest := []) hx hb hml hown hts hWd lk135 (ct135 (τ := τ) (ρ := ρ) hT t0 hx1.1 hx2.1 (by first | assumption | exact hm1 _)) hcell0 rfl (by rw [m135]; exact Nat.le_of_ble_eq_true rfl) hR hP hD hS (Nat.le_of_ble_eq_true rfl) hl.1 dL_913 hc (fun r h' H locs ws hq hR hP hD hS => ?_)
  obtain ⟨eh, z0, er, lo0, hi0⟩ := hq
  subst eh
  subst er
  refine W.eq (g2 := F0 m 916 ls [.int (pv_I z0)]) rfl ?_
  refine lv_aload_n hx hb dL_916 rfl (lv_at hl 1 rfl) ?_
  refine lv_aload_n hx hb dL_917 rfl (lv_at hl 3 rfl) ?_
  refine lv_iload_n hx hb dL_918 rfl (lv_at hl 0 rfl) ?_
  refine lv_iconst (v := 1) hx hb dL_919 (by decide) ?_
  refine lv_iadd hx hb dL_920 ?_
  refine pv_sldI (k := 1) (x := x1) hx hb hX hbl hbA hS (by decide) (by decide) hx1.2 dL_921 ?_
  refine lv_aload_n hx hb dL_922 rfl (lv_at hl 3 rfl) ?_
  refine lv_iload_n hx hb dL_923 rfl (lv_at hl 0 rfl) ?_
  refine lv_iconst (v := 2) hx hb dL_924 (by decide) ?_
  refine lv_iadd hx hb dL_925 ?_
  refine pv_sldI (k := 2) (x := x2) hx hb hX hbl hbA hS (by decide) (by decide) hx2.2 dL_926 ?_
  obtain ⟨fs1, hcell1, -⟩ := (hT h1 7 t1).1 _ rfl
  refine pv_lawcall (As := [.int (pv_I x1), .int (pv_I x2)]) (rest := [.int (pv_I z0)]) hx hb hml hown hts hWd lk280 (ct280 (τ := τ) (ρ := ρ) hT t1 hx1.1 hx2.1 (by first | assumption | exact hm1 _)) hcell1 rfl (by rw [m280]; exact Nat.le_of_ble_eq_true rfl) hR hP hD hS (Nat.le_of_ble_eq_true rfl) hl.1 dL_927 hc (fun r h' H locs ws hq hR hP hD hS => ?_)
  obtain ⟨eh, z1, er, lo1, hi1⟩ := hq
  subst eh
  subst er
  refine W.eq (g2 := F0 m 930 ls [.int (pv_I z1), .int (pv_I z0)]) rfl ?_
  have ez : z0 = z1 := by first | omega
  refine lv_icmp_eq (tgt := 1533) hx hb dL_930 (by decide) (fun c9 => ?_) (fun c9 => absurd (by rw [ez]) c9)
  exact pv_lend ⟨hx, hb, hr, hml, hown, hts, hX, hbl, hlk, hWd⟩ hS hl hc
set_option maxHeartbeats 4000000 in
theorem lc_25 (X : pv_LX p s m meth c b xs K adV dC dI dA) (hKok : pv_Kok K) (Y : pv_LY s dC dI dA τ ρ h h0 h1 ws H locs) (hl : lv_has ls 4 [(3, .int 0), (2, .ref h1), (1, .ref h0), (0, .ref b)]) (hc : cells ≤ 600000 ∧ slots ≤ 7302250) : W p l e room_1 s m #[Value.ref b] below meth c H locs cells slots (lw_Z below #[Value.ref b] s) (F0 m 935 ls []) := by
  obtain ⟨hx, hb, hr, hml, hown, hts, hX, hbl, hlk, hWd⟩ := X
  obtain ⟨hT, t0, t1, hXF, hMF, hR, hP, hD, hS⟩ := Y
  have hbA : ¬ (fun q => s.heap.size ≤ q) b := fun z => by have : s.heap.size ≤ b := z; omega
  obtain ⟨⟨hn0, hn1, hn2, hn3, hn4, hn14, hn15⟩, ⟨hp0, hp1, hp2⟩, hrows, himg⟩ := hXF
  obtain ⟨hm1, hm2, hm3, hm4, hm5, hm6⟩ := id hMF
  obtain ⟨x1, hx1⟩ : ∃ x : Int, (-2147483648 ≤ x ∧ x ≤ 2147483647) ∧ xs 1 = pv_I x := ⟨_, pv_I_rep _⟩
  obtain ⟨x2, hx2⟩ : ∃ x : Int, (-2147483648 ≤ x ∧ x ≤ 2147483647) ∧ xs 2 = pv_I x := ⟨_, pv_I_rep _⟩
  obtain ⟨x3, hx3⟩ : ∃ x : Int, (-2147483648 ≤ x ∧ x ≤ 2147483647) ∧ xs 3 = pv_I x := ⟨_, pv_I_rep _⟩

  refine lv_aload_n hx hb dL_935 rfl (lv_at hl 2 rfl) ?_
  refine lv_aload_n hx hb dL_936 rfl (lv_at hl 3 rfl) ?_
  refine lv_iload_n hx hb dL_937 rfl (lv_at hl 0 rfl) ?_
  refine lv_iconst (v := 1) hx hb dL_938 (by decide) ?_
  refine lv_iadd hx hb dL_939 ?_
  refine pv_sldI (k := 1) (x := x1) hx hb hX hbl hbA hS (by decide) (by decide) hx1.2 dL_940 ?_
  refine lv_aload_n hx hb dL_941 rfl (lv_at hl 3 rfl) ?_
  refine lv_iload_n hx hb dL_942 rfl (lv_at hl 0 rfl) ?_
  refine lv_iconst (v := 2) hx hb dL_943 (by decide) ?_
  refine lv_iadd hx hb dL_944 ?_
  refine pv_sldI (k := 2) (x := x2) hx hb hX hbl hbA hS (by decide) (by decide) hx2.2 dL_945 ?_
  refine lv_aload_n hx hb dL_946 rfl (lv_at hl 3 rfl) ?_
  refine lv_iload_n hx hb dL_947 rfl (lv_at hl 0 rfl) ?_
  refine lv_iconst (v := 3) hx hb dL_948 (by decide) ?_
  refine lv_iadd hx hb dL_949 ?_
  refine pv_sldI (k := 3) (x := x3) hx hb hX hbl hbA hS (by decide) (by decide) hx3.2 dL_950 ?_
  obtain ⟨fs0, hcell0, -⟩ := (hT h0 0 t0).1 _ rfl
  refine pv_lawcall (As := [.int (pv_I x1), .int (pv_I x2), .int (pv_I x3)]) (rest := []) hx hb hml hown hts hWd lk136 (ct136 (τ := τ) (ρ := ρ) hT t0 hx1.1 hx2.1 hx3.1 (by first | assumption | exact hm1 _)) hcell0 rfl (by rw [m136]; exact Nat.le_of_ble_eq_true rfl) hR hP hD hS (Nat.le_of_ble_eq_true rfl) hl.1 dL_951 hc (fun r h' H locs ws hq hR hP hD hS => ?_)
  obtain ⟨eh, z0, er, lo0, hi0⟩ := hq
  subst eh
  subst er
  refine W.eq (g2 := F0 m 954 ls [.int (pv_I z0)]) rfl ?_
  refine lv_aload_n hx hb dL_954 rfl (lv_at hl 1 rfl) ?_
  refine lv_aload_n hx hb dL_955 rfl (lv_at hl 3 rfl) ?_
  refine lv_iload_n hx hb dL_956 rfl (lv_at hl 0 rfl) ?_
  refine lv_iconst (v := 1) hx hb dL_957 (by decide) ?_
  refine lv_iadd hx hb dL_958 ?_
  refine pv_sldI (k := 1) (x := x1) hx hb hX hbl hbA hS (by decide) (by decide) hx1.2 dL_959 ?_
  refine lv_aload_n hx hb dL_960 rfl (lv_at hl 3 rfl) ?_
  refine lv_iload_n hx hb dL_961 rfl (lv_at hl 0 rfl) ?_
  refine lv_iconst (v := 2) hx hb dL_962 (by decide) ?_
  refine lv_iadd hx hb dL_963 ?_
  refine pv_sldI (k := 2) (x := x2) hx hb hX hbl hbA hS (by decide) (by decide) hx2.2 dL_964 ?_
  refine lv_aload_n hx hb dL_965 rfl (lv_at hl 3 rfl) ?_
  refine lv_iload_n hx hb dL_966 rfl (lv_at hl 0 rfl) ?_
  refine lv_iconst (v := 3) hx hb dL_967 (by decide) ?_
  refine lv_iadd hx hb dL_968 ?_
  refine pv_sldI (k := 3) (x := x3) hx hb hX hbl hbA hS (by decide) (by decide) hx3.2 dL_969 ?_
  obtain ⟨fs1, hcell1, -⟩ := (hT h1 7 t1).1 _ rfl
  refine pv_lawcall (As := [.int (pv_I x1), .int (pv_I x2), .int (pv_I x3)]) (rest := [.int (pv_I z0)]) hx hb hml hown hts hWd lk282 (ct282 (τ := τ) (ρ := ρ) hT t1 hx1.1 hx2.1 hx3.1 (by first | assumption | exact hm1 _)) hcell1 rfl (by rw [m282]; exact Nat.le_of_ble_eq_true rfl) hR hP hD hS (Nat.le_of_ble_eq_true rfl) hl.1 dL_970 hc (fun r h' H locs ws hq hR hP hD hS => ?_)
  obtain ⟨eh, z1, er, lo1, hi1⟩ := hq
  subst eh
  subst er
  refine W.eq (g2 := F0 m 973 ls [.int (pv_I z1), .int (pv_I z0)]) rfl ?_
  have ez : z0 = z1 := by first | omega
  refine lv_icmp_eq (tgt := 1533) hx hb dL_973 (by decide) (fun c9 => ?_) (fun c9 => absurd (by rw [ez]) c9)
  exact pv_lend ⟨hx, hb, hr, hml, hown, hts, hX, hbl, hlk, hWd⟩ hS hl hc
set_option maxHeartbeats 4000000 in
theorem lc_26 (X : pv_LX p s m meth c b xs K adV dC dI dA) (hKok : pv_Kok K) (Y : pv_LY s dC dI dA τ ρ h h0 h1 ws H locs) (hl : lv_has ls 4 [(3, .int 0), (2, .ref h1), (1, .ref h0), (0, .ref b)]) (hc : cells ≤ 600000 ∧ slots ≤ 7302250) : W p l e room_1 s m #[Value.ref b] below meth c H locs cells slots (lw_Z below #[Value.ref b] s) (F0 m 978 ls []) := by
  obtain ⟨hx, hb, hr, hml, hown, hts, hX, hbl, hlk, hWd⟩ := X
  obtain ⟨hT, t0, t1, hXF, hMF, hR, hP, hD, hS⟩ := Y
  have hbA : ¬ (fun q => s.heap.size ≤ q) b := fun z => by have : s.heap.size ≤ b := z; omega
  obtain ⟨⟨hn0, hn1, hn2, hn3, hn4, hn14, hn15⟩, ⟨hp0, hp1, hp2⟩, hrows, himg⟩ := hXF
  obtain ⟨hm1, hm2, hm3, hm4, hm5, hm6⟩ := id hMF

  refine lv_aload_n hx hb dL_978 rfl (lv_at hl 2 rfl) ?_
  obtain ⟨fs0, hcell0, -⟩ := (hT h0 0 t0).1 _ rfl
  refine pv_lawcall (As := []) (rest := []) hx hb hml hown hts hWd lk137 (ct137 (τ := τ) (ρ := ρ) hT t0 (by first | assumption | exact hm1 _)) hcell0 rfl (by rw [m137]; exact Nat.le_of_ble_eq_true rfl) hR hP hD hS (Nat.le_of_ble_eq_true rfl) hl.1 dL_979 hc (fun r h' H locs ws hq hR hP hD hS => ?_)
  obtain ⟨eh, z0, er, lo0, hi0⟩ := hq
  subst eh
  subst er
  refine W.eq (g2 := F0 m 982 ls [.int (pv_I z0)]) rfl ?_
  refine lv_aload_n hx hb dL_982 rfl (lv_at hl 1 rfl) ?_
  obtain ⟨fs1, hcell1, -⟩ := (hT h1 7 t1).1 _ rfl
  refine pv_lawcall (As := []) (rest := [.int (pv_I z0)]) hx hb hml hown hts hWd lk284 (ct284 (τ := τ) (ρ := ρ) hT t1 (by first | assumption | exact hm1 _)) hcell1 rfl (by rw [m284]; exact Nat.le_of_ble_eq_true rfl) hR hP hD hS (Nat.le_of_ble_eq_true rfl) hl.1 dL_983 hc (fun r h' H locs ws hq hR hP hD hS => ?_)
  obtain ⟨eh, z1, er, lo1, hi1⟩ := hq
  subst eh
  subst er
  refine W.eq (g2 := F0 m 986 ls [.int (pv_I z1), .int (pv_I z0)]) rfl ?_
  have ez : z0 = z1 := by first | omega
  refine lv_icmp_eq (tgt := 1533) hx hb dL_986 (by decide) (fun c9 => ?_) (fun c9 => absurd (by rw [ez]) c9)
  exact pv_lend ⟨hx, hb, hr, hml, hown, hts, hX, hbl, hlk, hWd⟩ hS hl hc
set_option maxHeartbeats 4000000 in
theorem lc_27 (X : pv_LX p s m meth c b xs K adV dC dI dA) (hKok : pv_Kok K) (Y : pv_LY s dC dI dA τ ρ h h0 h1 ws H locs) (hl : lv_has ls 4 [(3, .int 0), (2, .ref h1), (1, .ref h0), (0, .ref b)]) (hc : cells ≤ 600000 ∧ slots ≤ 7302250) : W p l e room_1 s m #[Value.ref b] below meth c H locs cells slots (lw_Z below #[Value.ref b] s) (F0 m 991 ls []) := by
  obtain ⟨hx, hb, hr, hml, hown, hts, hX, hbl, hlk, hWd⟩ := X
  obtain ⟨hT, t0, t1, hXF, hMF, hR, hP, hD, hS⟩ := Y
  have hbA : ¬ (fun q => s.heap.size ≤ q) b := fun z => by have : s.heap.size ≤ b := z; omega
  obtain ⟨⟨hn0, hn1, hn2, hn3, hn4, hn14, hn15⟩, ⟨hp0, hp1, hp2⟩, hrows, himg⟩ := hXF
  obtain ⟨hm1, hm2, hm3, hm4, hm5, hm6⟩ := id hMF
  obtain ⟨x1, hx1⟩ : ∃ x : Int, (-2147483648 ≤ x ∧ x ≤ 2147483647) ∧ xs 1 = pv_I x := ⟨_, pv_I_rep _⟩

  refine lv_aload_n hx hb dL_991 rfl (lv_at hl 2 rfl) ?_
  refine lv_aload_n hx hb dL_992 rfl (lv_at hl 3 rfl) ?_
  refine lv_iload_n hx hb dL_993 rfl (lv_at hl 0 rfl) ?_
  refine lv_iconst (v := 1) hx hb dL_994 (by decide) ?_
  refine lv_iadd hx hb dL_995 ?_
  refine pv_sldI (k := 1) (x := x1) hx hb hX hbl hbA hS (by decide) (by decide) hx1.2 dL_996 ?_
  obtain ⟨fs0, hcell0, -⟩ := (hT h0 0 t0).1 _ rfl
  refine pv_lawcall (As := [.int (pv_I x1)]) (rest := []) hx hb hml hown hts hWd lk144 (ct144 (τ := τ) (ρ := ρ) hT t0 hx1.1 (by first | assumption | exact hm1 _)) hcell0 rfl (by rw [m144]; exact Nat.le_of_ble_eq_true rfl) hR hP hD hS (Nat.le_of_ble_eq_true rfl) hl.1 dL_997 hc (fun r h' H locs ws hq hR hP hD hS => ?_)
  obtain ⟨eh, z0, er, lo0, hi0⟩ := hq
  subst eh
  subst er
  refine W.eq (g2 := F0 m 1000 ls [.int (pv_I z0)]) rfl ?_
  refine lv_aload_n hx hb dL_1000 rfl (lv_at hl 1 rfl) ?_
  refine lv_aload_n hx hb dL_1001 rfl (lv_at hl 3 rfl) ?_
  refine lv_iload_n hx hb dL_1002 rfl (lv_at hl 0 rfl) ?_
  refine lv_iconst (v := 1) hx hb dL_1003 (by decide) ?_
  refine lv_iadd hx hb dL_1004 ?_
  refine pv_sldI (k := 1) (x := x1) hx hb hX hbl hbA hS (by decide) (by decide) hx1.2 dL_1005 ?_
  obtain ⟨fs1, hcell1, -⟩ := (hT h1 7 t1).1 _ rfl
  refine pv_lawcall (As := [.int (pv_I x1)]) (rest := [.int (pv_I z0)]) hx hb hml hown hts hWd lk290 (ct290 (τ := τ) (ρ := ρ) hT t1 hx1.1 (by first | assumption | exact hm1 _)) hcell1 rfl (by rw [m290]; exact Nat.le_of_ble_eq_true rfl) hR hP hD hS (Nat.le_of_ble_eq_true rfl) hl.1 dL_1006 hc (fun r h' H locs ws hq hR hP hD hS => ?_)
  obtain ⟨eh, z1, er, lo1, hi1⟩ := hq
  subst eh
  subst er
  refine W.eq (g2 := F0 m 1009 ls [.int (pv_I z1), .int (pv_I z0)]) rfl ?_
  have ez : z0 = z1 := by first | omega
  refine lv_icmp_eq (tgt := 1533) hx hb dL_1009 (by decide) (fun c9 => ?_) (fun c9 => absurd (by rw [ez]) c9)
  exact pv_lend ⟨hx, hb, hr, hml, hown, hts, hX, hbl, hlk, hWd⟩ hS hl hc
set_option maxHeartbeats 4000000 in
theorem lc_28 (X : pv_LX p s m meth c b xs K adV dC dI dA) (hKok : pv_Kok K) (Y : pv_LY s dC dI dA τ ρ h h0 h1 ws H locs) (hl : lv_has ls 4 [(3, .int 0), (2, .ref h1), (1, .ref h0), (0, .ref b)]) (hc : cells ≤ 600000 ∧ slots ≤ 7302250) : W p l e room_1 s m #[Value.ref b] below meth c H locs cells slots (lw_Z below #[Value.ref b] s) (F0 m 1014 ls []) := by
  obtain ⟨hx, hb, hr, hml, hown, hts, hX, hbl, hlk, hWd⟩ := X
  obtain ⟨hT, t0, t1, hXF, hMF, hR, hP, hD, hS⟩ := Y
  have hbA : ¬ (fun q => s.heap.size ≤ q) b := fun z => by have : s.heap.size ≤ b := z; omega
  obtain ⟨⟨hn0, hn1, hn2, hn3, hn4, hn14, hn15⟩, ⟨hp0, hp1, hp2⟩, hrows, himg⟩ := hXF
  obtain ⟨hm1, hm2, hm3, hm4, hm5, hm6⟩ := id hMF
  obtain ⟨x1, hx1⟩ : ∃ x : Int, (-2147483648 ≤ x ∧ x ≤ 2147483647) ∧ xs 1 = pv_I x := ⟨_, pv_I_rep _⟩

  refine lv_aload_n hx hb dL_1014 rfl (lv_at hl 2 rfl) ?_
  refine lv_aload_n hx hb dL_1015 rfl (lv_at hl 3 rfl) ?_
  refine lv_iload_n hx hb dL_1016 rfl (lv_at hl 0 rfl) ?_
  refine lv_iconst (v := 1) hx hb dL_1017 (by decide) ?_
  refine lv_iadd hx hb dL_1018 ?_
  refine pv_sldI (k := 1) (x := x1) hx hb hX hbl hbA hS (by decide) (by decide) hx1.2 dL_1019 ?_
  obtain ⟨fs0, hcell0, -⟩ := (hT h0 0 t0).1 _ rfl
  refine pv_lawcall (As := [.int (pv_I x1)]) (rest := []) hx hb hml hown hts hWd lk145 (ct145 (τ := τ) (ρ := ρ) hT t0 hx1.1 (by first | assumption | exact hm1 _)) hcell0 rfl (by rw [m145]; exact Nat.le_of_ble_eq_true rfl) hR hP hD hS (Nat.le_of_ble_eq_true rfl) hl.1 dL_1020 hc (fun r h' H locs ws hq hR hP hD hS => ?_)
  obtain ⟨eh, z0, er, lo0, hi0⟩ := hq
  subst eh
  subst er
  refine W.eq (g2 := F0 m 1023 ls [.int (pv_I z0)]) rfl ?_
  refine lv_aload_n hx hb dL_1023 rfl (lv_at hl 1 rfl) ?_
  refine lv_aload_n hx hb dL_1024 rfl (lv_at hl 3 rfl) ?_
  refine lv_iload_n hx hb dL_1025 rfl (lv_at hl 0 rfl) ?_
  refine lv_iconst (v := 1) hx hb dL_1026 (by decide) ?_
  refine lv_iadd hx hb dL_1027 ?_
  refine pv_sldI (k := 1) (x := x1) hx hb hX hbl hbA hS (by decide) (by decide) hx1.2 dL_1028 ?_
  obtain ⟨fs1, hcell1, -⟩ := (hT h1 7 t1).1 _ rfl
  refine pv_lawcall (As := [.int (pv_I x1)]) (rest := [.int (pv_I z0)]) hx hb hml hown hts hWd lk291 (ct291 (τ := τ) (ρ := ρ) hT t1 hx1.1 (by first | assumption | exact hm1 _)) hcell1 rfl (by rw [m291]; exact Nat.le_of_ble_eq_true rfl) hR hP hD hS (Nat.le_of_ble_eq_true rfl) hl.1 dL_1029 hc (fun r h' H locs ws hq hR hP hD hS => ?_)
  obtain ⟨eh, z1, er, lo1, hi1⟩ := hq
  subst eh
  subst er
  refine W.eq (g2 := F0 m 1032 ls [.int (pv_I z1), .int (pv_I z0)]) rfl ?_
  have ez : z0 = z1 := by first | omega
  refine lv_icmp_eq (tgt := 1533) hx hb dL_1032 (by decide) (fun c9 => ?_) (fun c9 => absurd (by rw [ez]) c9)
  exact pv_lend ⟨hx, hb, hr, hml, hown, hts, hX, hbl, hlk, hWd⟩ hS hl hc
set_option maxHeartbeats 4000000 in
theorem lc_29 (X : pv_LX p s m meth c b xs K adV dC dI dA) (hKok : pv_Kok K) (Y : pv_LY s dC dI dA τ ρ h h0 h1 ws H locs) (hl : lv_has ls 4 [(3, .int 0), (2, .ref h1), (1, .ref h0), (0, .ref b)]) (hc : cells ≤ 600000 ∧ slots ≤ 7302250) : W p l e room_1 s m #[Value.ref b] below meth c H locs cells slots (lw_Z below #[Value.ref b] s) (F0 m 1037 ls []) := by
  obtain ⟨hx, hb, hr, hml, hown, hts, hX, hbl, hlk, hWd⟩ := X
  obtain ⟨hT, t0, t1, hXF, hMF, hR, hP, hD, hS⟩ := Y
  have hbA : ¬ (fun q => s.heap.size ≤ q) b := fun z => by have : s.heap.size ≤ b := z; omega
  obtain ⟨⟨hn0, hn1, hn2, hn3, hn4, hn14, hn15⟩, ⟨hp0, hp1, hp2⟩, hrows, himg⟩ := hXF
  obtain ⟨hm1, hm2, hm3, hm4, hm5, hm6⟩ := id hMF

  refine lv_aload_n hx hb dL_1037 rfl (lv_at hl 2 rfl) ?_
  obtain ⟨fs0, hcell0, -⟩ := (hT h0 0 t0).1 _ rfl
  refine pv_lawcall (As := []) (rest := []) hx hb hml hown hts hWd lk146 (ct146 (τ := τ) (ρ := ρ) hT t0 (by first | assumption | exact hm1 _)) hcell0 rfl (by rw [m146]; exact Nat.le_of_ble_eq_true rfl) hR hP hD hS (Nat.le_of_ble_eq_true rfl) hl.1 dL_1038 hc (fun r h' H locs ws hq hR hP hD hS => ?_)
  obtain ⟨eh, z0, er, lo0, hi0⟩ := hq
  subst eh
  subst er
  refine W.eq (g2 := F0 m 1041 ls [.long (pv_J z0)]) rfl ?_
  refine lv_aload_n hx hb dL_1041 rfl (lv_at hl 1 rfl) ?_
  obtain ⟨fs1, hcell1, -⟩ := (hT h1 7 t1).1 _ rfl
  refine pv_lawcall (As := []) (rest := [.long (pv_J z0)]) hx hb hml hown hts hWd lk292 (ct292 (τ := τ) (ρ := ρ) hT t1 (by first | assumption | exact hm1 _)) hcell1 rfl (by rw [m292]; exact Nat.le_of_ble_eq_true rfl) hR hP hD hS (Nat.le_of_ble_eq_true rfl) hl.1 dL_1042 hc (fun r h' H locs ws hq hR hP hD hS => ?_)
  obtain ⟨eh, z1, er, lo1, hi1⟩ := hq
  subst eh
  subst er
  refine W.eq (g2 := F0 m 1045 ls [.long (pv_J z1), .long (pv_J z0)]) rfl ?_
  have ez : z0 = z1 := by omega
  subst ez
  refine pv_lcmpE hx hb dL_1045 ?_
  refine lv_if_eq (tgt := 1533) hx hb dL_1046 (by decide) (fun c9 => ?_) (fun c9 => absurd rfl c9)
  exact pv_lend ⟨hx, hb, hr, hml, hown, hts, hX, hbl, hlk, hWd⟩ hS hl hc
end LE
