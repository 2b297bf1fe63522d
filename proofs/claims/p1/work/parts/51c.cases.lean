section LE
variable {p : Program} {l : Launch} {e : Env} {s : State} {m : MethodId} {below : List Frame} {meth : Method} {c : Code} {H : Heap} {locs : List Loc} {cells slots : Nat} {K adV : Nat → Nat} {dC : Nat → ClassId} {dI : Nat → Nat → Nat} {dA : Nat → ClassId} {b h0 h1 : Nat} {xs : Nat → Int32} {ls : Array Slot} {τ : Nat → Option Nat} {ρ : Nat → Nat → Nat} {h : pv_H} {ws : va_W}
set_option maxHeartbeats 4000000 in
theorem lc_30 (X : pv_LX p s m meth c b xs K adV dC dI dA) (hKok : pv_Kok K) (Y : pv_LY s dC dI dA τ ρ h h0 h1 ws H locs) (hl : lv_has ls 4 [(3, .int 0), (2, .ref h1), (1, .ref h0), (0, .ref b)]) (hc : cells ≤ 600000 ∧ slots ≤ 7302250) : W p l e room_1 s m #[Value.ref b] below meth c H locs cells slots (lw_Z below #[Value.ref b] s) (F0 m 1051 ls []) := by
  obtain ⟨hx, hb, hr, hml, hown, hts, hX, hbl, hlk, hWd⟩ := X
  obtain ⟨hT, t0, t1, hXF, hMF, hR, hP, hD, hS⟩ := Y
  have hbA : ¬ (fun q => s.heap.size ≤ q) b := fun z => by have : s.heap.size ≤ b := z; omega
  obtain ⟨⟨hn0, hn1, hn2, hn3, hn4, hn14, hn15⟩, ⟨hp0, hp1, hp2⟩, hrows, himg⟩ := hXF
  obtain ⟨hm1, hm2, hm3, hm4, hm5, hm6⟩ := id hMF
  obtain ⟨x1, hx1⟩ : ∃ x : Int, (-2147483648 ≤ x ∧ x ≤ 2147483647) ∧ xs 1 = pv_I x := ⟨_, pv_I_rep _⟩
  obtain ⟨x2, hx2⟩ : ∃ x : Int, (-2147483648 ≤ x ∧ x ≤ 2147483647) ∧ xs 2 = pv_I x := ⟨_, pv_I_rep _⟩
  obtain ⟨x3, hx3⟩ : ∃ x : Int, (-2147483648 ≤ x ∧ x ≤ 2147483647) ∧ xs 3 = pv_I x := ⟨_, pv_I_rep _⟩

  refine lv_aload_n hx hb dL_1051 rfl (lv_at hl 2 rfl) ?_
  refine lv_aload_n hx hb dL_1052 rfl (lv_at hl 3 rfl) ?_
  refine lv_iload_n hx hb dL_1053 rfl (lv_at hl 0 rfl) ?_
  refine lv_iconst (v := 1) hx hb dL_1054 (by decide) ?_
  refine lv_iadd hx hb dL_1055 ?_
  refine pv_sldI (k := 1) (x := x1) hx hb hX hbl hbA hS (by decide) (by decide) hx1.2 dL_1056 ?_
  refine lv_aload_n hx hb dL_1057 rfl (lv_at hl 3 rfl) ?_
  refine lv_iload_n hx hb dL_1058 rfl (lv_at hl 0 rfl) ?_
  refine lv_iconst (v := 2) hx hb dL_1059 (by decide) ?_
  refine lv_iadd hx hb dL_1060 ?_
  refine pv_sldI (k := 2) (x := x2) hx hb hX hbl hbA hS (by decide) (by decide) hx2.2 dL_1061 ?_
  refine lv_aload_n hx hb dL_1062 rfl (lv_at hl 3 rfl) ?_
  refine lv_iload_n hx hb dL_1063 rfl (lv_at hl 0 rfl) ?_
  refine lv_iconst (v := 3) hx hb dL_1064 (by decide) ?_
  refine lv_iadd hx hb dL_1065 ?_
  refine pv_sldI (k := 3) (x := x3) hx hb hX hbl hbA hS (by decide) (by decide) hx3.2 dL_1066 ?_
  obtain ⟨fs0, hcell0, -⟩ := (hT h0 0 t0).1 _ rfl
  refine pv_lawcall (As := [.int (pv_I x1), .int (pv_I x2), .int (pv_I x3)]) (rest := []) hx hb hml hown hts hWd lk152 (ct152 (τ := τ) (ρ := ρ) hT t0 hx1.1 hx2.1 hx3.1 (by first | assumption | exact hm1 _)) hcell0 rfl (by rw [m152]; exact Nat.le_of_ble_eq_true rfl) hR hP hD hS (Nat.le_of_ble_eq_true rfl) hl.1 dL_1067 hc (fun r h' H locs ws hq hR hP hD hS => ?_)
  obtain ⟨eh, z0, er, lo0, hi0⟩ := hq
  subst eh
  subst er
  refine W.eq (g2 := F0 m 1070 ls [.long (pv_J z0)]) rfl ?_
  refine lv_aload_n hx hb dL_1070 rfl (lv_at hl 1 rfl) ?_
  refine lv_aload_n hx hb dL_1071 rfl (lv_at hl 3 rfl) ?_
  refine lv_iload_n hx hb dL_1072 rfl (lv_at hl 0 rfl) ?_
  refine lv_iconst (v := 1) hx hb dL_1073 (by decide) ?_
  refine lv_iadd hx hb dL_1074 ?_
  refine pv_sldI (k := 1) (x := x1) hx hb hX hbl hbA hS (by decide) (by decide) hx1.2 dL_1075 ?_
  refine lv_aload_n hx hb dL_1076 rfl (lv_at hl 3 rfl) ?_
  refine lv_iload_n hx hb dL_1077 rfl (lv_at hl 0 rfl) ?_
  refine lv_iconst (v := 2) hx hb dL_1078 (by decide) ?_
  refine lv_iadd hx hb dL_1079 ?_
  refine pv_sldI (k := 2) (x := x2) hx hb hX hbl hbA hS (by decide) (by decide) hx2.2 dL_1080 ?_
  refine lv_aload_n hx hb dL_1081 rfl (lv_at hl 3 rfl) ?_
  refine lv_iload_n hx hb dL_1082 rfl (lv_at hl 0 rfl) ?_
  refine lv_iconst (v := 3) hx hb dL_1083 (by decide) ?_
  refine lv_iadd hx hb dL_1084 ?_
  refine pv_sldI (k := 3) (x := x3) hx hb hX hbl hbA hS (by decide) (by decide) hx3.2 dL_1085 ?_
  obtain ⟨fs1, hcell1, -⟩ := (hT h1 7 t1).1 _ rfl
  refine pv_lawcall (As := [.int (pv_I x1), .int (pv_I x2), .int (pv_I x3)]) (rest := [.long (pv_J z0)]) hx hb hml hown hts hWd lk298 (ct298 (τ := τ) (ρ := ρ) hT t1 hx1.1 hx2.1 hx3.1 (by first | assumption | exact hm1 _) (by first | assumption | exact hm1 _)) hcell1 rfl (by rw [m298]; exact Nat.le_of_ble_eq_true rfl) hR hP hD hS (Nat.le_of_ble_eq_true rfl) hl.1 dL_1086 hc (fun r h' H locs ws hq hR hP hD hS => ?_)
  obtain ⟨eh, z1, er, lo1, hi1⟩ := hq
  subst eh
  subst er
  refine W.eq (g2 := F0 m 1089 ls [.long (pv_J z1), .long (pv_J z0)]) rfl ?_
  have ez : z0 = z1 := by omega
  subst ez
  refine pv_lcmpE hx hb dL_1089 ?_
  refine lv_if_eq (tgt := 1533) hx hb dL_1090 (by decide) (fun c9 => ?_) (fun c9 => absurd rfl c9)
  exact pv_lend ⟨hx, hb, hr, hml, hown, hts, hX, hbl, hlk, hWd⟩ hS hl hc
set_option maxHeartbeats 4000000 in
theorem lc_31 (X : pv_LX p s m meth c b xs K adV dC dI dA) (hKok : pv_Kok K) (Y : pv_LY s dC dI dA τ ρ h h0 h1 ws H locs) (hl : lv_has ls 4 [(3, .int 0), (2, .ref h1), (1, .ref h0), (0, .ref b)]) (hc : cells ≤ 600000 ∧ slots ≤ 7302250) : W p l e room_1 s m #[Value.ref b] below meth c H locs cells slots (lw_Z below #[Value.ref b] s) (F0 m 1095 ls []) := by
  obtain ⟨hx, hb, hr, hml, hown, hts, hX, hbl, hlk, hWd⟩ := X
  obtain ⟨hT, t0, t1, hXF, hMF, hR, hP, hD, hS⟩ := Y
  have hbA : ¬ (fun q => s.heap.size ≤ q) b := fun z => by have : s.heap.size ≤ b := z; omega
  obtain ⟨⟨hn0, hn1, hn2, hn3, hn4, hn14, hn15⟩, ⟨hp0, hp1, hp2⟩, hrows, himg⟩ := hXF
  obtain ⟨hm1, hm2, hm3, hm4, hm5, hm6⟩ := id hMF
  obtain ⟨x1, hx1⟩ : ∃ x : Int, (-2147483648 ≤ x ∧ x ≤ 2147483647) ∧ xs 1 = pv_I x := ⟨_, pv_I_rep _⟩
  obtain ⟨x2, hx2⟩ : ∃ x : Int, (-2147483648 ≤ x ∧ x ≤ 2147483647) ∧ xs 2 = pv_I x := ⟨_, pv_I_rep _⟩
  obtain ⟨x3, hx3⟩ : ∃ x : Int, (-2147483648 ≤ x ∧ x ≤ 2147483647) ∧ xs 3 = pv_I x := ⟨_, pv_I_rep _⟩

  refine lv_aload_n hx hb dL_1095 rfl (lv_at hl 2 rfl) ?_
  refine lv_aload_n hx hb dL_1096 rfl (lv_at hl 3 rfl) ?_
  refine lv_iload_n hx hb dL_1097 rfl (lv_at hl 0 rfl) ?_
  refine lv_iconst (v := 1) hx hb dL_1098 (by decide) ?_
  refine lv_iadd hx hb dL_1099 ?_
  refine pv_sldI (k := 1) (x := x1) hx hb hX hbl hbA hS (by decide) (by decide) hx1.2 dL_1100 ?_
  refine lv_aload_n hx hb dL_1101 rfl (lv_at hl 3 rfl) ?_
  refine lv_iload_n hx hb dL_1102 rfl (lv_at hl 0 rfl) ?_
  refine lv_iconst (v := 2) hx hb dL_1103 (by decide) ?_
  refine lv_iadd hx hb dL_1104 ?_
  refine pv_sldI (k := 2) (x := x2) hx hb hX hbl hbA hS (by decide) (by decide) hx2.2 dL_1105 ?_
  refine lv_aload_n hx hb dL_1106 rfl (lv_at hl 3 rfl) ?_
  refine lv_iload_n hx hb dL_1107 rfl (lv_at hl 0 rfl) ?_
  refine lv_iconst (v := 3) hx hb dL_1108 (by decide) ?_
  refine lv_iadd hx hb dL_1109 ?_
  refine pv_sldI (k := 3) (x := x3) hx hb hX hbl hbA hS (by decide) (by decide) hx3.2 dL_1110 ?_
  obtain ⟨fs0, hcell0, -⟩ := (hT h0 0 t0).1 _ rfl
  refine pv_lawcall (As := [.int (pv_I x1), .int (pv_I x2), .int (pv_I x3)]) (rest := []) hx hb hml hown hts hWd lk154 (ct154 (τ := τ) (ρ := ρ) hT t0 hx1.1 hx2.1 hx3.1 (by first | assumption | exact hm1 _)) hcell0 rfl (by rw [m154]; exact Nat.le_of_ble_eq_true rfl) hR hP hD hS (Nat.le_of_ble_eq_true rfl) hl.1 dL_1111 hc (fun r h' H locs ws hq hR hP hD hS => ?_)
  obtain ⟨eh, z0, er, lo0, hi0⟩ := hq
  subst eh
  subst er
  refine W.eq (g2 := F0 m 1114 ls [.long (pv_J z0)]) rfl ?_
  refine lv_aload_n hx hb dL_1114 rfl (lv_at hl 1 rfl) ?_
  refine lv_aload_n hx hb dL_1115 rfl (lv_at hl 3 rfl) ?_
  refine lv_iload_n hx hb dL_1116 rfl (lv_at hl 0 rfl) ?_
  refine lv_iconst (v := 1) hx hb dL_1117 (by decide) ?_
  refine lv_iadd hx hb dL_1118 ?_
  refine pv_sldI (k := 1) (x := x1) hx hb hX hbl hbA hS (by decide) (by decide) hx1.2 dL_1119 ?_
  refine lv_aload_n hx hb dL_1120 rfl (lv_at hl 3 rfl) ?_
  refine lv_iload_n hx hb dL_1121 rfl (lv_at hl 0 rfl) ?_
  refine lv_iconst (v := 2) hx hb dL_1122 (by decide) ?_
  refine lv_iadd hx hb dL_1123 ?_
  refine pv_sldI (k := 2) (x := x2) hx hb hX hbl hbA hS (by decide) (by decide) hx2.2 dL_1124 ?_
  refine lv_aload_n hx hb dL_1125 rfl (lv_at hl 3 rfl) ?_
  refine lv_iload_n hx hb dL_1126 rfl (lv_at hl 0 rfl) ?_
  refine lv_iconst (v := 3) hx hb dL_1127 (by decide) ?_
  refine lv_iadd hx hb dL_1128 ?_
  refine pv_sldI (k := 3) (x := x3) hx hb hX hbl hbA hS (by decide) (by decide) hx3.2 dL_1129 ?_
  obtain ⟨fs1, hcell1, -⟩ := (hT h1 7 t1).1 _ rfl
  refine pv_lawcall (As := [.int (pv_I x1), .int (pv_I x2), .int (pv_I x3)]) (rest := [.long (pv_J z0)]) hx hb hml hown hts hWd lk301 (ct301 (τ := τ) (ρ := ρ) hT t1 hx1.1 hx2.1 hx3.1 (by first | assumption | exact hm1 _) (by first | assumption | exact hm1 _)) hcell1 rfl (by rw [m301]; exact Nat.le_of_ble_eq_true rfl) hR hP hD hS (Nat.le_of_ble_eq_true rfl) hl.1 dL_1130 hc (fun r h' H locs ws hq hR hP hD hS => ?_)
  obtain ⟨eh, z1, er, lo1, hi1⟩ := hq
  subst eh
  subst er
  refine W.eq (g2 := F0 m 1133 ls [.long (pv_J z1), .long (pv_J z0)]) rfl ?_
  have ez : z0 = z1 := by omega
  subst ez
  refine pv_lcmpE hx hb dL_1133 ?_
  refine lv_if_eq (tgt := 1533) hx hb dL_1134 (by decide) (fun c9 => ?_) (fun c9 => absurd rfl c9)
  exact pv_lend ⟨hx, hb, hr, hml, hown, hts, hX, hbl, hlk, hWd⟩ hS hl hc
set_option maxHeartbeats 4000000 in
theorem lc_32 (X : pv_LX p s m meth c b xs K adV dC dI dA) (hKok : pv_Kok K) (Y : pv_LY s dC dI dA τ ρ h h0 h1 ws H locs) (hl : lv_has ls 4 [(3, .int 0), (2, .ref h1), (1, .ref h0), (0, .ref b)]) (hc : cells ≤ 600000 ∧ slots ≤ 7302250) : W p l e room_1 s m #[Value.ref b] below meth c H locs cells slots (lw_Z below #[Value.ref b] s) (F0 m 1139 ls []) := by
  obtain ⟨hx, hb, hr, hml, hown, hts, hX, hbl, hlk, hWd⟩ := X
  obtain ⟨hT, t0, t1, hXF, hMF, hR, hP, hD, hS⟩ := Y
  have hbA : ¬ (fun q => s.heap.size ≤ q) b := fun z => by have : s.heap.size ≤ b := z; omega
  obtain ⟨⟨hn0, hn1, hn2, hn3, hn4, hn14, hn15⟩, ⟨hp0, hp1, hp2⟩, hrows, himg⟩ := hXF
  obtain ⟨hm1, hm2, hm3, hm4, hm5, hm6⟩ := id hMF
  obtain ⟨x1, hx1⟩ : ∃ x : Int, (-2147483648 ≤ x ∧ x ≤ 2147483647) ∧ xs 1 = pv_I x := ⟨_, pv_I_rep _⟩
  obtain ⟨x2, hx2⟩ : ∃ x : Int, (-2147483648 ≤ x ∧ x ≤ 2147483647) ∧ xs 2 = pv_I x := ⟨_, pv_I_rep _⟩
  obtain ⟨x3, hx3⟩ : ∃ x : Int, (-2147483648 ≤ x ∧ x ≤ 2147483647) ∧ xs 3 = pv_I x := ⟨_, pv_I_rep _⟩
  obtain ⟨x4, hx4⟩ : ∃ x : Int, (-2147483648 ≤ x ∧ x ≤ 2147483647) ∧ xs 4 = pv_I x := ⟨_, pv_I_rep _⟩

  refine lv_aload_n hx hb dL_1139 rfl (lv_at hl 2 rfl) ?_
  refine lv_aload_n hx hb dL_1140 rfl (lv_at hl 3 rfl) ?_
  refine lv_iload_n hx hb dL_1141 rfl (lv_at hl 0 rfl) ?_
  refine lv_iconst (v := 1) hx hb dL_1142 (by decide) ?_
  refine lv_iadd hx hb dL_1143 ?_
  refine pv_sldI (k := 1) (x := x1) hx hb hX hbl hbA hS (by decide) (by decide) hx1.2 dL_1144 ?_
  refine lv_aload_n hx hb dL_1145 rfl (lv_at hl 3 rfl) ?_
  refine lv_iload_n hx hb dL_1146 rfl (lv_at hl 0 rfl) ?_
  refine lv_iconst (v := 2) hx hb dL_1147 (by decide) ?_
  refine lv_iadd hx hb dL_1148 ?_
  refine pv_sldI (k := 2) (x := x2) hx hb hX hbl hbA hS (by decide) (by decide) hx2.2 dL_1149 ?_
  refine lv_aload_n hx hb dL_1150 rfl (lv_at hl 3 rfl) ?_
  refine lv_iload_n hx hb dL_1151 rfl (lv_at hl 0 rfl) ?_
  refine lv_iconst (v := 3) hx hb dL_1152 (by decide) ?_
  refine lv_iadd hx hb dL_1153 ?_
  refine pv_sldI (k := 3) (x := x3) hx hb hX hbl hbA hS (by decide) (by decide) hx3.2 dL_1154 ?_
  refine lv_aload_n hx hb dL_1155 rfl (lv_at hl 3 rfl) ?_
  refine lv_iload_n hx hb dL_1156 rfl (lv_at hl 0 rfl) ?_
  refine lv_iconst (v := 4) hx hb dL_1157 (by decide) ?_
  refine lv_iadd hx hb dL_1158 ?_
  refine pv_sldI (k := 4) (x := x4) hx hb hX hbl hbA hS (by decide) (by decide) hx4.2 dL_1159 ?_
  obtain ⟨fs0, hcell0, -⟩ := (hT h0 0 t0).1 _ rfl
  refine pv_lawcall (As := [.int (pv_I x1), .int (pv_I x2), .int (pv_I x3), .int (pv_I x4)]) (rest := []) hx hb hml hown hts hWd lk159 (ct159 (τ := τ) (ρ := ρ) hT t0 hx1.1 hx2.1 hx3.1 hx4.1 (by first | assumption | exact hm1 _)) hcell0 rfl (by rw [m159]; exact Nat.le_of_ble_eq_true rfl) hR hP hD hS (Nat.le_of_ble_eq_true rfl) hl.1 dL_1160 hc (fun r h' H locs ws hq hR hP hD hS => ?_)
  obtain ⟨eh, z0, er, lo0, hi0⟩ := hq
  subst eh
  subst er
  refine W.eq (g2 := F0 m 1163 ls [.long (pv_J z0)]) rfl ?_
  refine lv_aload_n hx hb dL_1163 rfl (lv_at hl 1 rfl) ?_
  refine lv_aload_n hx hb dL_1164 rfl (lv_at hl 3 rfl) ?_
  refine lv_iload_n hx hb dL_1165 rfl (lv_at hl 0 rfl) ?_
  refine lv_iconst (v := 1) hx hb dL_1166 (by decide) ?_
  refine lv_iadd hx hb dL_1167 ?_
  refine pv_sldI (k := 1) (x := x1) hx hb hX hbl hbA hS (by decide) (by decide) hx1.2 dL_1168 ?_
  refine lv_aload_n hx hb dL_1169 rfl (lv_at hl 3 rfl) ?_
  refine lv_iload_n hx hb dL_1170 rfl (lv_at hl 0 rfl) ?_
  refine lv_iconst (v := 2) hx hb dL_1171 (by decide) ?_
  refine lv_iadd hx hb dL_1172 ?_
  refine pv_sldI (k := 2) (x := x2) hx hb hX hbl hbA hS (by decide) (by decide) hx2.2 dL_1173 ?_
  refine lv_aload_n hx hb dL_1174 rfl (lv_at hl 3 rfl) ?_
  refine lv_iload_n hx hb dL_1175 rfl (lv_at hl 0 rfl) ?_
  refine lv_iconst (v := 3) hx hb dL_1176 (by decide) ?_
  refine lv_iadd hx hb dL_1177 ?_
  refine pv_sldI (k := 3) (x := x3) hx hb hX hbl hbA hS (by decide) (by decide) hx3.2 dL_1178 ?_
  refine lv_aload_n hx hb dL_1179 rfl (lv_at hl 3 rfl) ?_
  refine lv_iload_n hx hb dL_1180 rfl (lv_at hl 0 rfl) ?_
  refine lv_iconst (v := 4) hx hb dL_1181 (by decide) ?_
  refine lv_iadd hx hb dL_1182 ?_
  refine pv_sldI (k := 4) (x := x4) hx hb hX hbl hbA hS (by decide) (by decide) hx4.2 dL_1183 ?_
  obtain ⟨fs1, hcell1, -⟩ := (hT h1 7 t1).1 _ rfl
  refine pv_lawcall (As := [.int (pv_I x1), .int (pv_I x2), .int (pv_I x3), .int (pv_I x4)]) (rest := [.long (pv_J z0)]) hx hb hml hown hts hWd lk305 (ct305 (τ := τ) (ρ := ρ) hT t1 hx1.1 hx2.1 hx3.1 hx4.1 (by first | assumption | exact hm1 _) (by first | assumption | exact hm1 _)) hcell1 rfl (by rw [m305]; exact Nat.le_of_ble_eq_true rfl) hR hP hD hS (Nat.le_of_ble_eq_true rfl) hl.1 dL_1184 hc (fun r h' H locs ws hq hR hP hD hS => ?_)
  obtain ⟨eh, z1, er, lo1, hi1⟩ := hq
  subst eh
  subst er
  refine W.eq (g2 := F0 m 1187 ls [.long (pv_J z1), .long (pv_J z0)]) rfl ?_
  have ez : z0 = z1 := by omega
  subst ez
  refine pv_lcmpE hx hb dL_1187 ?_
  refine lv_if_eq (tgt := 1533) hx hb dL_1188 (by decide) (fun c9 => ?_) (fun c9 => absurd rfl c9)
  exact pv_lend ⟨hx, hb, hr, hml, hown, hts, hX, hbl, hlk, hWd⟩ hS hl hc
set_option maxHeartbeats 4000000 in
theorem lc_33 (X : pv_LX p s m meth c b xs K adV dC dI dA) (hKok : pv_Kok K) (Y : pv_LY s dC dI dA τ ρ h h0 h1 ws H locs) (hl : lv_has ls 4 [(3, .int 0), (2, .ref h1), (1, .ref h0), (0, .ref b)]) (hc : cells ≤ 600000 ∧ slots ≤ 7302250) : W p l e room_1 s m #[Value.ref b] below meth c H locs cells slots (lw_Z below #[Value.ref b] s) (F0 m 1193 ls []) := by
  obtain ⟨hx, hb, hr, hml, hown, hts, hX, hbl, hlk, hWd⟩ := X
  obtain ⟨hT, t0, t1, hXF, hMF, hR, hP, hD, hS⟩ := Y
  have hbA : ¬ (fun q => s.heap.size ≤ q) b := fun z => by have : s.heap.size ≤ b := z; omega
  obtain ⟨⟨hn0, hn1, hn2, hn3, hn4, hn14, hn15⟩, ⟨hp0, hp1, hp2⟩, hrows, himg⟩ := hXF
  obtain ⟨hm1, hm2, hm3, hm4, hm5, hm6⟩ := id hMF
  obtain ⟨x1, hx1⟩ : ∃ x : Int, (-2147483648 ≤ x ∧ x ≤ 2147483647) ∧ xs 1 = pv_I x := ⟨_, pv_I_rep _⟩
  obtain ⟨x2, hx2⟩ : ∃ x : Int, (-2147483648 ≤ x ∧ x ≤ 2147483647) ∧ xs 2 = pv_I x := ⟨_, pv_I_rep _⟩

  refine lv_aload_n hx hb dL_1193 rfl (lv_at hl 2 rfl) ?_
  refine lv_aload_n hx hb dL_1194 rfl (lv_at hl 3 rfl) ?_
  refine lv_iload_n hx hb dL_1195 rfl (lv_at hl 0 rfl) ?_
  refine lv_iconst (v := 1) hx hb dL_1196 (by decide) ?_
  refine lv_iadd hx hb dL_1197 ?_
  refine pv_sldI (k := 1) (x := x1) hx hb hX hbl hbA hS (by decide) (by decide) hx1.2 dL_1198 ?_
  refine lv_aload_n hx hb dL_1199 rfl (lv_at hl 3 rfl) ?_
  refine lv_iload_n hx hb dL_1200 rfl (lv_at hl 0 rfl) ?_
  refine lv_iconst (v := 2) hx hb dL_1201 (by decide) ?_
  refine lv_iadd hx hb dL_1202 ?_
  refine pv_sldI (k := 2) (x := x2) hx hb hX hbl hbA hS (by decide) (by decide) hx2.2 dL_1203 ?_
  obtain ⟨fs0, hcell0, -⟩ := (hT h0 0 t0).1 _ rfl
  refine pv_lawcall (As := [.int (pv_I x1), .int (pv_I x2)]) (rest := []) hx hb hml hown hts hWd lk160 (ct160 (τ := τ) (ρ := ρ) hT t0 hx1.1 hx2.1 (by first | assumption | exact hm1 _)) hcell0 rfl (by rw [m160]; exact Nat.le_of_ble_eq_true rfl) hR hP hD hS (Nat.le_of_ble_eq_true rfl) hl.1 dL_1204 hc (fun r h' H locs ws hq hR hP hD hS => ?_)
  obtain ⟨eh, z0, er, lo0, hi0⟩ := hq
  subst eh
  subst er
  refine W.eq (g2 := F0 m 1207 ls [.int (pv_I z0)]) rfl ?_
  refine lv_aload_n hx hb dL_1207 rfl (lv_at hl 1 rfl) ?_
  refine lv_aload_n hx hb dL_1208 rfl (lv_at hl 3 rfl) ?_
  refine lv_iload_n hx hb dL_1209 rfl (lv_at hl 0 rfl) ?_
  refine lv_iconst (v := 1) hx hb dL_1210 (by decide) ?_
  refine lv_iadd hx hb dL_1211 ?_
  refine pv_sldI (k := 1) (x := x1) hx hb hX hbl hbA hS (by decide) (by decide) hx1.2 dL_1212 ?_
  refine lv_aload_n hx hb dL_1213 rfl (lv_at hl 3 rfl) ?_
  refine lv_iload_n hx hb dL_1214 rfl (lv_at hl 0 rfl) ?_
  refine lv_iconst (v := 2) hx hb dL_1215 (by decide) ?_
  refine lv_iadd hx hb dL_1216 ?_
  refine pv_sldI (k := 2) (x := x2) hx hb hX hbl hbA hS (by decide) (by decide) hx2.2 dL_1217 ?_
  obtain ⟨fs1, hcell1, -⟩ := (hT h1 7 t1).1 _ rfl
  refine pv_lawcall (As := [.int (pv_I x1), .int (pv_I x2)]) (rest := [.int (pv_I z0)]) hx hb hml hown hts hWd lk306 (ct306 (τ := τ) (ρ := ρ) hT t1 hx1.1 hx2.1 (by first | assumption | exact hm1 _)) hcell1 rfl (by rw [m306]; exact Nat.le_of_ble_eq_true rfl) hR hP hD hS (Nat.le_of_ble_eq_true rfl) hl.1 dL_1218 hc (fun r h' H locs ws hq hR hP hD hS => ?_)
  obtain ⟨eh, z1, er, lo1, hi1⟩ := hq
  subst eh
  subst er
  refine W.eq (g2 := F0 m 1221 ls [.int (pv_I z1), .int (pv_I z0)]) rfl ?_
  have ez : z0 = z1 := by first | omega
  refine lv_icmp_eq (tgt := 1533) hx hb dL_1221 (by decide) (fun c9 => ?_) (fun c9 => absurd (by rw [ez]) c9)
  exact pv_lend ⟨hx, hb, hr, hml, hown, hts, hX, hbl, hlk, hWd⟩ hS hl hc
set_option maxHeartbeats 4000000 in
theorem lc_34 (X : pv_LX p s m meth c b xs K adV dC dI dA) (hKok : pv_Kok K) (Y : pv_LY s dC dI dA τ ρ h h0 h1 ws H locs) (hl : lv_has ls 4 [(3, .int 0), (2, .ref h1), (1, .ref h0), (0, .ref b)]) (hc : cells ≤ 600000 ∧ slots ≤ 7302250) : W p l e room_1 s m #[Value.ref b] below meth c H locs cells slots (lw_Z below #[Value.ref b] s) (F0 m 1226 ls []) := by
  obtain ⟨hx, hb, hr, hml, hown, hts, hX, hbl, hlk, hWd⟩ := X
  obtain ⟨hT, t0, t1, hXF, hMF, hR, hP, hD, hS⟩ := Y
  have hbA : ¬ (fun q => s.heap.size ≤ q) b := fun z => by have : s.heap.size ≤ b := z; omega
  obtain ⟨⟨hn0, hn1, hn2, hn3, hn4, hn14, hn15⟩, ⟨hp0, hp1, hp2⟩, hrows, himg⟩ := hXF
  obtain ⟨hm1, hm2, hm3, hm4, hm5, hm6⟩ := id hMF

  refine lv_aload_n hx hb dL_1226 rfl (lv_at hl 2 rfl) ?_
  obtain ⟨fs0, hcell0, -⟩ := (hT h0 0 t0).1 _ rfl
  refine pv_lawcall (As := []) (rest := []) hx hb hml hown hts hWd lk163 (ct163 (τ := τ) (ρ := ρ) hT t0 (by first | assumption | exact hm1 _)) hcell0 rfl (by rw [m163]; exact Nat.le_of_ble_eq_true rfl) hR hP hD hS (Nat.le_of_ble_eq_true rfl) hl.1 dL_1227 hc (fun r h' H locs ws hq hR hP hD hS => ?_)
  obtain ⟨eh, z0, er, lo0, hi0⟩ := hq
  subst eh
  subst er
  refine W.eq (g2 := F0 m 1230 ls [.int (pv_I z0)]) rfl ?_
  refine lv_aload_n hx hb dL_1230 rfl (lv_at hl 1 rfl) ?_
  obtain ⟨fs1, hcell1, -⟩ := (hT h1 7 t1).1 _ rfl
  refine pv_lawcall (As := []) (rest := [.int (pv_I z0)]) hx hb hml hown hts hWd lk308 (ct308 (τ := τ) (ρ := ρ) hT t1 (by first | assumption | exact hm1 _)) hcell1 rfl (by rw [m308]; exact Nat.le_of_ble_eq_true rfl) hR hP hD hS (Nat.le_of_ble_eq_true rfl) hl.1 dL_1231 hc (fun r h' H locs ws hq hR hP hD hS => ?_)
  obtain ⟨eh, z1, er, lo1, hi1⟩ := hq
  subst eh
  subst er
  refine W.eq (g2 := F0 m 1234 ls [.int (pv_I z1), .int (pv_I z0)]) rfl ?_
  have ez : z0 = z1 := by first | omega
  refine lv_icmp_eq (tgt := 1533) hx hb dL_1234 (by decide) (fun c9 => ?_) (fun c9 => absurd (by rw [ez]) c9)
  exact pv_lend ⟨hx, hb, hr, hml, hown, hts, hX, hbl, hlk, hWd⟩ hS hl hc
set_option maxHeartbeats 4000000 in
theorem lc_35 (X : pv_LX p s m meth c b xs K adV dC dI dA) (hKok : pv_Kok K) (Y : pv_LY s dC dI dA τ ρ h h0 h1 ws H locs) (hl : lv_has ls 4 [(3, .int 0), (2, .ref h1), (1, .ref h0), (0, .ref b)]) (hc : cells ≤ 600000 ∧ slots ≤ 7302250) : W p l e room_1 s m #[Value.ref b] below meth c H locs cells slots (lw_Z below #[Value.ref b] s) (F0 m 1239 ls []) := by
  obtain ⟨hx, hb, hr, hml, hown, hts, hX, hbl, hlk, hWd⟩ := X
  obtain ⟨hT, t0, t1, hXF, hMF, hR, hP, hD, hS⟩ := Y
  have hbA : ¬ (fun q => s.heap.size ≤ q) b := fun z => by have : s.heap.size ≤ b := z; omega
  obtain ⟨⟨hn0, hn1, hn2, hn3, hn4, hn14, hn15⟩, ⟨hp0, hp1, hp2⟩, hrows, himg⟩ := hXF
  obtain ⟨hm1, hm2, hm3, hm4, hm5, hm6⟩ := id hMF
  obtain ⟨x1, hx1⟩ : ∃ x : Int, (-2147483648 ≤ x ∧ x ≤ 2147483647) ∧ xs 1 = pv_I x := ⟨_, pv_I_rep _⟩

  refine lv_aload_n hx hb dL_1239 rfl (lv_at hl 2 rfl) ?_
  refine lv_aload_n hx hb dL_1240 rfl (lv_at hl 3 rfl) ?_
  refine lv_iload_n hx hb dL_1241 rfl (lv_at hl 0 rfl) ?_
  refine lv_iconst (v := 1) hx hb dL_1242 (by decide) ?_
  refine lv_iadd hx hb dL_1243 ?_
  refine pv_sldI (k := 1) (x := x1) hx hb hX hbl hbA hS (by decide) (by decide) hx1.2 dL_1244 ?_
  obtain ⟨fs0, hcell0, -⟩ := (hT h0 0 t0).1 _ rfl
  refine pv_lawcall (As := [.int (pv_I x1)]) (rest := []) hx hb hml hown hts hWd lk164 (ct164 (τ := τ) (ρ := ρ) hT t0 hx1.1 (by first | assumption | exact hm1 _)) hcell0 rfl (by rw [m164]; exact Nat.le_of_ble_eq_true rfl) hR hP hD hS (Nat.le_of_ble_eq_true rfl) hl.1 dL_1245 hc (fun r h' H locs ws hq hR hP hD hS => ?_)
  obtain ⟨eh, z0, er, lo0, hi0⟩ := hq
  subst eh
  subst er
  refine W.eq (g2 := F0 m 1248 ls [.int (pv_I z0)]) rfl ?_
  refine lv_aload_n hx hb dL_1248 rfl (lv_at hl 1 rfl) ?_
  refine lv_aload_n hx hb dL_1249 rfl (lv_at hl 3 rfl) ?_
  refine lv_iload_n hx hb dL_1250 rfl (lv_at hl 0 rfl) ?_
  refine lv_iconst (v := 1) hx hb dL_1251 (by decide) ?_
  refine lv_iadd hx hb dL_1252 ?_
  refine pv_sldI (k := 1) (x := x1) hx hb hX hbl hbA hS (by decide) (by decide) hx1.2 dL_1253 ?_
  obtain ⟨fs1, hcell1, -⟩ := (hT h1 7 t1).1 _ rfl
  refine pv_lawcall (As := [.int (pv_I x1)]) (rest := [.int (pv_I z0)]) hx hb hml hown hts hWd lk309 (ct309 (τ := τ) (ρ := ρ) hT t1 hx1.1 (by first | assumption | exact hm1 _)) hcell1 rfl (by rw [m309]; exact Nat.le_of_ble_eq_true rfl) hR hP hD hS (Nat.le_of_ble_eq_true rfl) hl.1 dL_1254 hc (fun r h' H locs ws hq hR hP hD hS => ?_)
  obtain ⟨eh, z1, er, lo1, hi1⟩ := hq
  subst eh
  subst er
  refine W.eq (g2 := F0 m 1257 ls [.int (pv_I z1), .int (pv_I z0)]) rfl ?_
  have ez : z0 = z1 := by first | omega
  refine lv_icmp_eq (tgt := 1533) hx hb dL_1257 (by decide) (fun c9 => ?_) (fun c9 => absurd (by rw [ez]) c9)
  exact pv_lend ⟨hx, hb, hr, hml, hown, hts, hX, hbl, hlk, hWd⟩ hS hl hc
set_option maxHeartbeats 4000000 in
theorem lc_36 (X : pv_LX p s m meth c b xs K adV dC dI dA) (hKok : pv_Kok K) (Y : pv_LY s dC dI dA τ ρ h h0 h1 ws H locs) (hl : lv_has ls 4 [(3, .int 0), (2, .ref h1), (1, .ref h0), (0, .ref b)]) (hc : cells ≤ 600000 ∧ slots ≤ 7302250) : W p l e room_1 s m #[Value.ref b] below meth c H locs cells slots (lw_Z below #[Value.ref b] s) (F0 m 1262 ls []) := by
  obtain ⟨hx, hb, hr, hml, hown, hts, hX, hbl, hlk, hWd⟩ := X
  obtain ⟨hT, t0, t1, hXF, hMF, hR, hP, hD, hS⟩ := Y
  have hbA : ¬ (fun q => s.heap.size ≤ q) b := fun z => by have : s.heap.size ≤ b := z; omega
  obtain ⟨⟨hn0, hn1, hn2, hn3, hn4, hn14, hn15⟩, ⟨hp0, hp1, hp2⟩, hrows, himg⟩ := hXF
  obtain ⟨hm1, hm2, hm3, hm4, hm5, hm6⟩ := id hMF
  obtain ⟨x1, hx1⟩ : ∃ x : Int, (-2147483648 ≤ x ∧ x ≤ 2147483647) ∧ xs 1 = pv_I x := ⟨_, pv_I_rep _⟩

  refine lv_aload_n hx hb dL_1262 rfl (lv_at hl 2 rfl) ?_
  refine lv_aload_n hx hb dL_1263 rfl (lv_at hl 3 rfl) ?_
  refine lv_iload_n hx hb dL_1264 rfl (lv_at hl 0 rfl) ?_
  refine lv_iconst (v := 1) hx hb dL_1265 (by decide) ?_
  refine lv_iadd hx hb dL_1266 ?_
  refine pv_sldI (k := 1) (x := x1) hx hb hX hbl hbA hS (by decide) (by decide) hx1.2 dL_1267 ?_
  obtain ⟨fs0, hcell0, -⟩ := (hT h0 0 t0).1 _ rfl
  refine pv_lawcall (As := [.int (pv_I x1)]) (rest := []) hx hb hml hown hts hWd lk167 (ct167 (τ := τ) (ρ := ρ) hT t0 hx1.1 (by first | assumption | exact hm1 _)) hcell0 rfl (by rw [m167]; exact Nat.le_of_ble_eq_true rfl) hR hP hD hS (Nat.le_of_ble_eq_true rfl) hl.1 dL_1268 hc (fun r h' H locs ws hq hR hP hD hS => ?_)
  obtain ⟨eh, z0, er, lo0, hi0⟩ := hq
  subst eh
  subst er
  refine W.eq (g2 := F0 m 1271 ls [.int (pv_I z0)]) rfl ?_
  refine lv_aload_n hx hb dL_1271 rfl (lv_at hl 1 rfl) ?_
  refine lv_aload_n hx hb dL_1272 rfl (lv_at hl 3 rfl) ?_
  refine lv_iload_n hx hb dL_1273 rfl (lv_at hl 0 rfl) ?_
  refine lv_iconst (v := 1) hx hb dL_1274 (by decide) ?_
  refine lv_iadd hx hb dL_1275 ?_
  refine pv_sldI (k := 1) (x := x1) hx hb hX hbl hbA hS (by decide) (by decide) hx1.2 dL_1276 ?_
  obtain ⟨fs1, hcell1, -⟩ := (hT h1 7 t1).1 _ rfl
  refine pv_lawcall (As := [.int (pv_I x1)]) (rest := [.int (pv_I z0)]) hx hb hml hown hts hWd lk311 (ct311 (τ := τ) (ρ := ρ) hT t1 hx1.1 (by first | assumption | exact hm1 _)) hcell1 rfl (by rw [m311]; exact Nat.le_of_ble_eq_true rfl) hR hP hD hS (Nat.le_of_ble_eq_true rfl) hl.1 dL_1277 hc (fun r h' H locs ws hq hR hP hD hS => ?_)
  obtain ⟨eh, z1, er, lo1, hi1⟩ := hq
  subst eh
  subst er
  refine W.eq (g2 := F0 m 1280 ls [.int (pv_I z1), .int (pv_I z0)]) rfl ?_
  have ez : z0 = z1 := by first | omega
  refine lv_icmp_eq (tgt := 1533) hx hb dL_1280 (by decide) (fun c9 => ?_) (fun c9 => absurd (by rw [ez]) c9)
  exact pv_lend ⟨hx, hb, hr, hml, hown, hts, hX, hbl, hlk, hWd⟩ hS hl hc
set_option maxHeartbeats 4000000 in
theorem lc_37 (X : pv_LX p s m meth c b xs K adV dC dI dA) (hKok : pv_Kok K) (Y : pv_LY s dC dI dA τ ρ h h0 h1 ws H locs) (hl : lv_has ls 4 [(3, .int 0), (2, .ref h1), (1, .ref h0), (0, .ref b)]) (hc : cells ≤ 600000 ∧ slots ≤ 7302250) : W p l e room_1 s m #[Value.ref b] below meth c H locs cells slots (lw_Z below #[Value.ref b] s) (F0 m 1285 ls []) := by
  obtain ⟨hx, hb, hr, hml, hown, hts, hX, hbl, hlk, hWd⟩ := X
  obtain ⟨hT, t0, t1, hXF, hMF, hR, hP, hD, hS⟩ := Y
  have hbA : ¬ (fun q => s.heap.size ≤ q) b := fun z => by have : s.heap.size ≤ b := z; omega
  obtain ⟨⟨hn0, hn1, hn2, hn3, hn4, hn14, hn15⟩, ⟨hp0, hp1, hp2⟩, hrows, himg⟩ := hXF
  obtain ⟨hm1, hm2, hm3, hm4, hm5, hm6⟩ := id hMF
  obtain ⟨x1, hx1⟩ : ∃ x : Int, (-2147483648 ≤ x ∧ x ≤ 2147483647) ∧ xs 1 = pv_I x := ⟨_, pv_I_rep _⟩

  refine lv_aload_n hx hb dL_1285 rfl (lv_at hl 2 rfl) ?_
  refine lv_aload_n hx hb dL_1286 rfl (lv_at hl 3 rfl) ?_
  refine lv_iload_n hx hb dL_1287 rfl (lv_at hl 0 rfl) ?_
  refine lv_iconst (v := 1) hx hb dL_1288 (by decide) ?_
  refine lv_iadd hx hb dL_1289 ?_
  refine pv_sldI (k := 1) (x := x1) hx hb hX hbl hbA hS (by decide) (by decide) hx1.2 dL_1290 ?_
  obtain ⟨fs0, hcell0, -⟩ := (hT h0 0 t0).1 _ rfl
  refine pv_lawcall (As := [.int (pv_I x1)]) (rest := []) hx hb hml hown hts hWd lk171 (ct171 (τ := τ) (ρ := ρ) hT t0 hx1.1 (by first | assumption | exact hm1 _) (by first | assumption | exact hm1 _) (by first | assumption | exact hm1 _) (by first | assumption | exact hm1 _) (by first | assumption | exact hm1 _) (by first | assumption | exact hm1 _) (by first | assumption | exact hm1 _) (by first | assumption | exact hm1 _) (by first | assumption | exact hm1 _)) hcell0 rfl (by rw [m171]; exact Nat.le_of_ble_eq_true rfl) hR hP hD hS (Nat.le_of_ble_eq_true rfl) hl.1 dL_1291 hc (fun r h' H locs ws hq hR hP hD hS => ?_)
  obtain ⟨eh, z0, er, lo0, hi0, p0_0⟩ := hq
  subst eh
  subst er
  refine W.eq (g2 := F0 m 1294 ls [.int (pv_I z0)]) rfl ?_
  refine lv_aload_n hx hb dL_1294 rfl (lv_at hl 1 rfl) ?_
  refine lv_aload_n hx hb dL_1295 rfl (lv_at hl 3 rfl) ?_
  refine lv_iload_n hx hb dL_1296 rfl (lv_at hl 0 rfl) ?_
  refine lv_iconst (v := 1) hx hb dL_1297 (by decide) ?_
  refine lv_iadd hx hb dL_1298 ?_
  refine pv_sldI (k := 1) (x := x1) hx hb hX hbl hbA hS (by decide) (by decide) hx1.2 dL_1299 ?_
  obtain ⟨fs1, hcell1, -⟩ := (hT h1 7 t1).1 _ rfl
  refine pv_lawcall (As := [.int (pv_I x1)]) (rest := [.int (pv_I z0)]) hx hb hml hown hts hWd lk314 (ct314 (τ := τ) (ρ := ρ) hT t1 hx1.1 (by first | assumption | exact hm1 _) (by first | assumption | exact hm1 _) (by first | assumption | exact hm1 _) (by first | assumption | exact hm1 _) (by first | assumption | exact hm1 _) (by first | assumption | exact hm1 _) (by first | assumption | exact hm1 _) (by first | assumption | exact hm1 _) (by first | assumption | exact hm1 _)) hcell1 rfl (by rw [m314]; exact Nat.le_of_ble_eq_true rfl) hR hP hD hS (Nat.le_of_ble_eq_true rfl) hl.1 dL_1300 hc (fun r h' H locs ws hq hR hP hD hS => ?_)
  obtain ⟨eh, z1, er, lo1, hi1, p1_0⟩ := hq
  subst eh
  subst er
  refine W.eq (g2 := F0 m 1303 ls [.int (pv_I z1), .int (pv_I z0)]) rfl ?_
  have ez : z0 = z1 := by first | omega | exact p0_0.trans p1_0.symm
  refine lv_icmp_eq (tgt := 1533) hx hb dL_1303 (by decide) (fun c9 => ?_) (fun c9 => absurd (by rw [ez]) c9)
  exact pv_lend ⟨hx, hb, hr, hml, hown, hts, hX, hbl, hlk, hWd⟩ hS hl hc
set_option maxHeartbeats 4000000 in
theorem lc_38 (X : pv_LX p s m meth c b xs K adV dC dI dA) (hKok : pv_Kok K) (Y : pv_LY s dC dI dA τ ρ h h0 h1 ws H locs) (hl : lv_has ls 4 [(3, .int 0), (2, .ref h1), (1, .ref h0), (0, .ref b)]) (hc : cells ≤ 600000 ∧ slots ≤ 7302250) : W p l e room_1 s m #[Value.ref b] below meth c H locs cells slots (lw_Z below #[Value.ref b] s) (F0 m 1308 ls []) := by
  obtain ⟨hx, hb, hr, hml, hown, hts, hX, hbl, hlk, hWd⟩ := X
  obtain ⟨hT, t0, t1, hXF, hMF, hR, hP, hD, hS⟩ := Y
  have hbA : ¬ (fun q => s.heap.size ≤ q) b := fun z => by have : s.heap.size ≤ b := z; omega
  obtain ⟨⟨hn0, hn1, hn2, hn3, hn4, hn14, hn15⟩, ⟨hp0, hp1, hp2⟩, hrows, himg⟩ := hXF
  obtain ⟨hm1, hm2, hm3, hm4, hm5, hm6⟩ := id hMF
  obtain ⟨x1, hx1⟩ : ∃ x : Int, (-2147483648 ≤ x ∧ x ≤ 2147483647) ∧ xs 1 = pv_I x := ⟨_, pv_I_rep _⟩

  refine lv_aload_n hx hb dL_1308 rfl (lv_at hl 2 rfl) ?_
  refine lv_aload_n hx hb dL_1309 rfl (lv_at hl 3 rfl) ?_
  refine lv_iload_n hx hb dL_1310 rfl (lv_at hl 0 rfl) ?_
  refine lv_iconst (v := 1) hx hb dL_1311 (by decide) ?_
  refine lv_iadd hx hb dL_1312 ?_
  refine pv_sldI (k := 1) (x := x1) hx hb hX hbl hbA hS (by decide) (by decide) hx1.2 dL_1313 ?_
  obtain ⟨fs0, hcell0, -⟩ := (hT h0 0 t0).1 _ rfl
  refine pv_lawcall (As := [.int (pv_I x1)]) (rest := []) hx hb hml hown hts hWd lk174 (ct174 (τ := τ) (ρ := ρ) hT t0 hx1.1) hcell0 rfl (by rw [m174]; exact Nat.le_of_ble_eq_true rfl) hR hP hD hS (Nat.le_of_ble_eq_true rfl) hl.1 dL_1314 hc (fun r h' H locs ws hq hR hP hD hS => ?_)
  obtain ⟨hT', hF', z0, er, lo0, hi0, p0_0⟩ := hq
  subst er
  have hMF := pv_MF.fr hT t1 hF' (by decide) hMF
  have hT := hT'
  obtain ⟨hm1, hm2, hm3, hm4, hm5, hm6⟩ := id hMF
  refine W.eq (g2 := F0 m 1317 ls [.int (pv_I z0)]) rfl ?_
  refine lv_aload_n hx hb dL_1317 rfl (lv_at hl 1 rfl) ?_
  refine lv_aload_n hx hb dL_1318 rfl (lv_at hl 3 rfl) ?_
  refine lv_iload_n hx hb dL_1319 rfl (lv_at hl 0 rfl) ?_
  refine lv_iconst (v := 1) hx hb dL_1320 (by decide) ?_
  refine lv_iadd hx hb dL_1321 ?_
  refine pv_sldI (k := 1) (x := x1) hx hb hX hbl hbA hS (by decide) (by decide) hx1.2 dL_1322 ?_
  obtain ⟨fs1, hcell1, -⟩ := (hT h1 7 t1).1 _ rfl
  refine pv_lawcall (As := [.int (pv_I x1)]) (rest := [.int (pv_I z0)]) hx hb hml hown hts hWd lk183 (ct183 (τ := τ) (ρ := ρ) hT t1 hx1.1) hcell1 rfl (by rw [m183]; exact Nat.le_of_ble_eq_true rfl) hR hP hD hS (Nat.le_of_ble_eq_true rfl) hl.1 dL_1323 hc (fun r h' H locs ws hq hR hP hD hS => ?_)
  obtain ⟨hT', hF', z1, er, lo1, hi1, p1_0⟩ := hq
  subst er
  refine W.eq (g2 := F0 m 1326 ls [.int (pv_I z1), .int (pv_I z0)]) rfl ?_
  have ez : z0 = z1 := by first | omega | exact p0_0.trans p1_0.symm
  refine lv_icmp_eq (tgt := 1533) hx hb dL_1326 (by decide) (fun c9 => ?_) (fun c9 => absurd (by rw [ez]) c9)
  exact pv_lend ⟨hx, hb, hr, hml, hown, hts, hX, hbl, hlk, hWd⟩ hS hl hc
set_option maxHeartbeats 4000000 in
theorem lc_39 (X : pv_LX p s m meth c b xs K adV dC dI dA) (hKok : pv_Kok K) (Y : pv_LY s dC dI dA τ ρ h h0 h1 ws H locs) (hl : lv_has ls 4 [(3, .int 0), (2, .ref h1), (1, .ref h0), (0, .ref b)]) (hc : cells ≤ 600000 ∧ slots ≤ 7302250) : W p l e room_1 s m #[Value.ref b] below meth c H locs cells slots (lw_Z below #[Value.ref b] s) (F0 m 1331 ls []) := by
  obtain ⟨hx, hb, hr, hml, hown, hts, hX, hbl, hlk, hWd⟩ := X
  obtain ⟨hT, t0, t1, hXF, hMF, hR, hP, hD, hS⟩ := Y
  have hbA : ¬ (fun q => s.heap.size ≤ q) b := fun z => by have : s.heap.size ≤ b := z; omega
  obtain ⟨⟨hn0, hn1, hn2, hn3, hn4, hn14, hn15⟩, ⟨hp0, hp1, hp2⟩, hrows, himg⟩ := hXF
  obtain ⟨hm1, hm2, hm3, hm4, hm5, hm6⟩ := id hMF
  obtain ⟨x1, hx1⟩ : ∃ x : Int, (-2147483648 ≤ x ∧ x ≤ 2147483647) ∧ xs 1 = pv_I x := ⟨_, pv_I_rep _⟩

  refine lv_aload_n hx hb dL_1331 rfl (lv_at hl 2 rfl) ?_
  refine lv_aload_n hx hb dL_1332 rfl (lv_at hl 3 rfl) ?_
  refine lv_iload_n hx hb dL_1333 rfl (lv_at hl 0 rfl) ?_
  refine lv_iconst (v := 1) hx hb dL_1334 (by decide) ?_
  refine lv_iadd hx hb dL_1335 ?_
  refine pv_sldI (k := 1) (x := x1) hx hb hX hbl hbA hS (by decide) (by decide) hx1.2 dL_1336 ?_
  obtain ⟨fs0, hcell0, -⟩ := (hT h0 0 t0).1 _ rfl
  refine pv_lawcall (As := [.int (pv_I x1)]) (rest := []) hx hb hml hown hts hWd lk175 (ct175 (τ := τ) (ρ := ρ) hT t0 hx1.1 (by first | assumption | exact hm1 _)) hcell0 rfl (by rw [m175]; exact Nat.le_of_ble_eq_true rfl) hR hP hD hS (Nat.le_of_ble_eq_true rfl) hl.1 dL_1337 hc (fun r h' H locs ws hq hR hP hD hS => ?_)
  obtain ⟨eh, z0, er, lo0, hi0, p0_0⟩ := hq
  subst eh
  subst er
  refine W.eq (g2 := F0 m 1340 ls [.int (pv_I z0)]) rfl ?_
  refine lv_aload_n hx hb dL_1340 rfl (lv_at hl 1 rfl) ?_
  refine lv_aload_n hx hb dL_1341 rfl (lv_at hl 3 rfl) ?_
  refine lv_iload_n hx hb dL_1342 rfl (lv_at hl 0 rfl) ?_
  refine lv_iconst (v := 1) hx hb dL_1343 (by decide) ?_
  refine lv_iadd hx hb dL_1344 ?_
  refine pv_sldI (k := 1) (x := x1) hx hb hX hbl hbA hS (by decide) (by decide) hx1.2 dL_1345 ?_
  obtain ⟨fs1, hcell1, -⟩ := (hT h1 7 t1).1 _ rfl
  refine pv_lawcall (As := [.int (pv_I x1)]) (rest := [.int (pv_I z0)]) hx hb hml hown hts hWd lk185 (ct185 (τ := τ) (ρ := ρ) hT t1 hx1.1 (by first | assumption | exact hm1 _)) hcell1 rfl (by rw [m185]; exact Nat.le_of_ble_eq_true rfl) hR hP hD hS (Nat.le_of_ble_eq_true rfl) hl.1 dL_1346 hc (fun r h' H locs ws hq hR hP hD hS => ?_)
  obtain ⟨eh, z1, er, lo1, hi1, p1_0⟩ := hq
  subst eh
  subst er
  refine W.eq (g2 := F0 m 1349 ls [.int (pv_I z1), .int (pv_I z0)]) rfl ?_
  have ez : z0 = z1 := by first | omega | exact p0_0.trans p1_0.symm
  refine lv_icmp_eq (tgt := 1533) hx hb dL_1349 (by decide) (fun c9 => ?_) (fun c9 => absurd (by rw [ez]) c9)
  exact pv_lend ⟨hx, hb, hr, hml, hown, hts, hX, hbl, hlk, hWd⟩ hS hl hc
set_option maxHeartbeats 4000000 in
theorem lc_40 (X : pv_LX p s m meth c b xs K adV dC dI dA) (hKok : pv_Kok K) (Y : pv_LY s dC dI dA τ ρ h h0 h1 ws H locs) (hl : lv_has ls 4 [(3, .int 0), (2, .ref h1), (1, .ref h0), (0, .ref b)]) (hc : cells ≤ 600000 ∧ slots ≤ 7302250) : W p l e room_1 s m #[Value.ref b] below meth c H locs cells slots (lw_Z below #[Value.ref b] s) (F0 m 1354 ls []) := by
  obtain ⟨hx, hb, hr, hml, hown, hts, hX, hbl, hlk, hWd⟩ := X
  obtain ⟨hT, t0, t1, hXF, hMF, hR, hP, hD, hS⟩ := Y
  have hbA : ¬ (fun q => s.heap.size ≤ q) b := fun z => by have : s.heap.size ≤ b := z; omega
  obtain ⟨⟨hn0, hn1, hn2, hn3, hn4, hn14, hn15⟩, ⟨hp0, hp1, hp2⟩, hrows, himg⟩ := hXF
  obtain ⟨hm1, hm2, hm3, hm4, hm5, hm6⟩ := id hMF
  obtain ⟨x1, hx1⟩ : ∃ x : Int, (-2147483648 ≤ x ∧ x ≤ 2147483647) ∧ xs 1 = pv_I x := ⟨_, pv_I_rep _⟩
  obtain ⟨x2, hx2⟩ : ∃ x : Int, (-2147483648 ≤ x ∧ x ≤ 2147483647) ∧ xs 2 = pv_I x := ⟨_, pv_I_rep _⟩
  obtain ⟨x3, hx3⟩ : ∃ x : Int, (-2147483648 ≤ x ∧ x ≤ 2147483647) ∧ xs 3 = pv_I x := ⟨_, pv_I_rep _⟩

  refine lv_aload_n hx hb dL_1354 rfl (lv_at hl 2 rfl) ?_
  refine lv_aload_n hx hb dL_1355 rfl (lv_at hl 3 rfl) ?_
  refine lv_iload_n hx hb dL_1356 rfl (lv_at hl 0 rfl) ?_
  refine lv_iconst (v := 1) hx hb dL_1357 (by decide) ?_
  refine lv_iadd hx hb dL_1358 ?_
  refine pv_sldI (k := 1) (x := x1) hx hb hX hbl hbA hS (by decide) (by decide) hx1.2 dL_1359 ?_
  refine lv_aload_n hx hb dL_1360 rfl (lv_at hl 3 rfl) ?_
  refine lv_iload_n hx hb dL_1361 rfl (lv_at hl 0 rfl) ?_
  refine lv_iconst (v := 2) hx hb dL_1362 (by decide) ?_
  refine lv_iadd hx hb dL_1363 ?_
  refine pv_sldI (k := 2) (x := x2) hx hb hX hbl hbA hS (by decide) (by decide) hx2.2 dL_1364 ?_
  refine lv_aload_n hx hb dL_1365 rfl (lv_at hl 3 rfl) ?_
  refine lv_iload_n hx hb dL_1366 rfl (lv_at hl 0 rfl) ?_
  refine lv_iconst (v := 3) hx hb dL_1367 (by decide) ?_
  refine lv_iadd hx hb dL_1368 ?_
  refine pv_sldI (k := 3) (x := x3) hx hb hX hbl hbA hS (by decide) (by decide) hx3.2 dL_1369 ?_
  obtain ⟨fs0, hcell0, -⟩ := (hT h0 0 t0).1 _ rfl
  refine pv_lawcall (As := [.int (pv_I x1), .int (pv_I x2), .int (pv_I x3)]) (rest := []) hx hb hml hown hts hWd lk176 (ct176 (τ := τ) (ρ := ρ) hT t0 hx1.1 hx2.1 hx3.1) hcell0 rfl (by rw [m176]; exact Nat.le_of_ble_eq_true rfl) hR hP hD hS (Nat.le_of_ble_eq_true rfl) hl.1 dL_1370 hc (fun r h' H locs ws hq hR hP hD hS => ?_)
  obtain ⟨hT', hF', z0, er, lo0, hi0, p0_0⟩ := hq
  subst er
  have hMF := pv_MF.fr hT t1 hF' (by decide) hMF
  have hT := hT'
  obtain ⟨hm1, hm2, hm3, hm4, hm5, hm6⟩ := id hMF
  refine W.eq (g2 := F0 m 1373 ls [.int (pv_I z0)]) rfl ?_
  refine lv_aload_n hx hb dL_1373 rfl (lv_at hl 1 rfl) ?_
  refine lv_aload_n hx hb dL_1374 rfl (lv_at hl 3 rfl) ?_
  refine lv_iload_n hx hb dL_1375 rfl (lv_at hl 0 rfl) ?_
  refine lv_iconst (v := 1) hx hb dL_1376 (by decide) ?_
  refine lv_iadd hx hb dL_1377 ?_
  refine pv_sldI (k := 1) (x := x1) hx hb hX hbl hbA hS (by decide) (by decide) hx1.2 dL_1378 ?_
  refine lv_aload_n hx hb dL_1379 rfl (lv_at hl 3 rfl) ?_
  refine lv_iload_n hx hb dL_1380 rfl (lv_at hl 0 rfl) ?_
  refine lv_iconst (v := 2) hx hb dL_1381 (by decide) ?_
  refine lv_iadd hx hb dL_1382 ?_
  refine pv_sldI (k := 2) (x := x2) hx hb hX hbl hbA hS (by decide) (by decide) hx2.2 dL_1383 ?_
  refine lv_aload_n hx hb dL_1384 rfl (lv_at hl 3 rfl) ?_
  refine lv_iload_n hx hb dL_1385 rfl (lv_at hl 0 rfl) ?_
  refine lv_iconst (v := 3) hx hb dL_1386 (by decide) ?_
  refine lv_iadd hx hb dL_1387 ?_
  refine pv_sldI (k := 3) (x := x3) hx hb hX hbl hbA hS (by decide) (by decide) hx3.2 dL_1388 ?_
  obtain ⟨fs1, hcell1, -⟩ := (hT h1 7 t1).1 _ rfl
  refine pv_lawcall (As := [.int (pv_I x1), .int (pv_I x2), .int (pv_I x3)]) (rest := [.int (pv_I z0)]) hx hb hml hown hts hWd lk316 (ct316 (τ := τ) (ρ := ρ) hT t1 hx1.1 hx2.1 hx3.1) hcell1 rfl (by rw [m316]; exact Nat.le_of_ble_eq_true rfl) hR hP hD hS (Nat.le_of_ble_eq_true rfl) hl.1 dL_1389 hc (fun r h' H locs ws hq hR hP hD hS => ?_)
  obtain ⟨hT', hF', z1, er, lo1, hi1, p1_0⟩ := hq
  subst er
  refine W.eq (g2 := F0 m 1392 ls [.int (pv_I z1), .int (pv_I z0)]) rfl ?_
  have ez : z0 = z1 := by first | omega | exact p0_0.trans p1_0.symm
  refine lv_icmp_eq (tgt := 1533) hx hb dL_1392 (by decide) (fun c9 => ?_) (fun c9 => absurd (by rw [ez]) c9)
  exact pv_lend ⟨hx, hb, hr, hml, hown, hts, hX, hbl, hlk, hWd⟩ hS hl hc
set_option maxHeartbeats 4000000 in
theorem lc_41 (X : pv_LX p s m meth c b xs K adV dC dI dA) (hKok : pv_Kok K) (Y : pv_LY s dC dI dA τ ρ h h0 h1 ws H locs) (hl : lv_has ls 4 [(3, .int 0), (2, .ref h1), (1, .ref h0), (0, .ref b)]) (hc : cells ≤ 600000 ∧ slots ≤ 7302250) : W p l e room_1 s m #[Value.ref b] below meth c H locs cells slots (lw_Z below #[Value.ref b] s) (F0 m 1397 ls []) := by
  obtain ⟨hx, hb, hr, hml, hown, hts, hX, hbl, hlk, hWd⟩ := X
  obtain ⟨hT, t0, t1, hXF, hMF, hR, hP, hD, hS⟩ := Y
  have hbA : ¬ (fun q => s.heap.size ≤ q) b := fun z => by have : s.heap.size ≤ b := z; omega
  obtain ⟨⟨hn0, hn1, hn2, hn3, hn4, hn14, hn15⟩, ⟨hp0, hp1, hp2⟩, hrows, himg⟩ := hXF
  obtain ⟨hm1, hm2, hm3, hm4, hm5, hm6⟩ := id hMF
  obtain ⟨x1, hx1⟩ : ∃ x : Int, (-2147483648 ≤ x ∧ x ≤ 2147483647) ∧ xs 1 = pv_I x := ⟨_, pv_I_rep _⟩
  obtain ⟨x2, hx2⟩ : ∃ x : Int, (-2147483648 ≤ x ∧ x ≤ 2147483647) ∧ xs 2 = pv_I x := ⟨_, pv_I_rep _⟩
  obtain ⟨x3, hx3⟩ : ∃ x : Int, (-2147483648 ≤ x ∧ x ≤ 2147483647) ∧ xs 3 = pv_I x := ⟨_, pv_I_rep _⟩
  obtain ⟨x4, hx4⟩ : ∃ x : Int, (-2147483648 ≤ x ∧ x ≤ 2147483647) ∧ xs 4 = pv_I x := ⟨_, pv_I_rep _⟩

  refine lv_aload_n hx hb dL_1397 rfl (lv_at hl 2 rfl) ?_
  refine lv_aload_n hx hb dL_1398 rfl (lv_at hl 3 rfl) ?_
  refine lv_iload_n hx hb dL_1399 rfl (lv_at hl 0 rfl) ?_
  refine lv_iconst (v := 1) hx hb dL_1400 (by decide) ?_
  refine lv_iadd hx hb dL_1401 ?_
  refine pv_sldI (k := 1) (x := x1) hx hb hX hbl hbA hS (by decide) (by decide) hx1.2 dL_1402 ?_
  refine lv_aload_n hx hb dL_1403 rfl (lv_at hl 3 rfl) ?_
  refine lv_iload_n hx hb dL_1404 rfl (lv_at hl 0 rfl) ?_
  refine lv_iconst (v := 2) hx hb dL_1405 (by decide) ?_
  refine lv_iadd hx hb dL_1406 ?_
  refine pv_sldI (k := 2) (x := x2) hx hb hX hbl hbA hS (by decide) (by decide) hx2.2 dL_1407 ?_
  refine lv_aload_n hx hb dL_1408 rfl (lv_at hl 3 rfl) ?_
  refine lv_iload_n hx hb dL_1409 rfl (lv_at hl 0 rfl) ?_
  refine lv_iconst (v := 3) hx hb dL_1410 (by decide) ?_
  refine lv_iadd hx hb dL_1411 ?_
  refine pv_sldI (k := 3) (x := x3) hx hb hX hbl hbA hS (by decide) (by decide) hx3.2 dL_1412 ?_
  refine lv_i2l (v := (pv_I x3).toInt64) hx hb dL_1413 rfl ?_
  refine lv_bipush (v := 32) hx hb dL_1414 (by decide) ?_
  refine lv_lshl hx hb dL_1416 rfl ?_
  refine lv_aload_n hx hb dL_1417 rfl (lv_at hl 3 rfl) ?_
  refine lv_iload_n hx hb dL_1418 rfl (lv_at hl 0 rfl) ?_
  refine lv_iconst (v := 4) hx hb dL_1419 (by decide) ?_
  refine lv_iadd hx hb dL_1420 ?_
  refine pv_sldI (k := 4) (x := x4) hx hb hX hbl hbA hS (by decide) (by decide) hx4.2 dL_1421 ?_
  refine lv_i2l (v := (pv_I x4).toInt64) hx hb dL_1422 rfl ?_
  refine lv_ldc2 (v := 4294967295) hx hb hown (hts (.constantLong R_law 186 4294967295) (by decide +kernel)) dL_1423 ?_
  refine lv_land hx hb dL_1426 ?_
  refine lv_lor hx hb dL_1427 ?_
  refine pv_topJ (fun w0 hw0 => ?_)
  obtain ⟨fs0, hcell0, -⟩ := (hT h0 0 t0).1 _ rfl
  refine pv_lawcall (As := [.int (pv_I x1), .int (pv_I x2), .long (pv_J w0)]) (rest := []) hx hb hml hown hts hWd lk178 (ct178 (τ := τ) (ρ := ρ) hT t0 hx1.1 hx2.1 hw0 (by first | assumption | exact hm1 _)) hcell0 rfl (by rw [m178]; exact Nat.le_of_ble_eq_true rfl) hR hP hD hS (Nat.le_of_ble_eq_true rfl) hl.1 dL_1428 hc (fun r h' H locs ws hq hR hP hD hS => ?_)
  obtain ⟨eh, z0, er, lo0, hi0, p0_0⟩ := hq
  subst eh
  subst er
  refine W.eq (g2 := F0 m 1431 ls [.int (pv_I z0)]) rfl ?_
  refine lv_aload_n hx hb dL_1431 rfl (lv_at hl 1 rfl) ?_
  refine lv_aload_n hx hb dL_1432 rfl (lv_at hl 3 rfl) ?_
  refine lv_iload_n hx hb dL_1433 rfl (lv_at hl 0 rfl) ?_
  refine lv_iconst (v := 1) hx hb dL_1434 (by decide) ?_
  refine lv_iadd hx hb dL_1435 ?_
  refine pv_sldI (k := 1) (x := x1) hx hb hX hbl hbA hS (by decide) (by decide) hx1.2 dL_1436 ?_
  refine lv_aload_n hx hb dL_1437 rfl (lv_at hl 3 rfl) ?_
  refine lv_iload_n hx hb dL_1438 rfl (lv_at hl 0 rfl) ?_
  refine lv_iconst (v := 2) hx hb dL_1439 (by decide) ?_
  refine lv_iadd hx hb dL_1440 ?_
  refine pv_sldI (k := 2) (x := x2) hx hb hX hbl hbA hS (by decide) (by decide) hx2.2 dL_1441 ?_
  refine lv_aload_n hx hb dL_1442 rfl (lv_at hl 3 rfl) ?_
  refine lv_iload_n hx hb dL_1443 rfl (lv_at hl 0 rfl) ?_
  refine lv_iconst (v := 3) hx hb dL_1444 (by decide) ?_
  refine lv_iadd hx hb dL_1445 ?_
  refine pv_sldI (k := 3) (x := x3) hx hb hX hbl hbA hS (by decide) (by decide) hx3.2 dL_1446 ?_
  refine lv_i2l (v := (pv_I x3).toInt64) hx hb dL_1447 rfl ?_
  refine lv_bipush (v := 32) hx hb dL_1448 (by decide) ?_
  refine lv_lshl hx hb dL_1450 rfl ?_
  refine lv_aload_n hx hb dL_1451 rfl (lv_at hl 3 rfl) ?_
  refine lv_iload_n hx hb dL_1452 rfl (lv_at hl 0 rfl) ?_
  refine lv_iconst (v := 4) hx hb dL_1453 (by decide) ?_
  refine lv_iadd hx hb dL_1454 ?_
  refine pv_sldI (k := 4) (x := x4) hx hb hX hbl hbA hS (by decide) (by decide) hx4.2 dL_1455 ?_
  refine lv_i2l (v := (pv_I x4).toInt64) hx hb dL_1456 rfl ?_
  refine lv_ldc2 (v := 4294967295) hx hb hown (hts (.constantLong R_law 186 4294967295) (by decide +kernel)) dL_1457 ?_
  refine lv_land hx hb dL_1460 ?_
  refine lv_lor hx hb dL_1461 ?_
  refine pv_topJ (fun w1 hw1 => ?_)
  obtain ⟨fs1, hcell1, -⟩ := (hT h1 7 t1).1 _ rfl
  refine pv_lawcall (As := [.int (pv_I x1), .int (pv_I x2), .long (pv_J w1)]) (rest := [.int (pv_I z0)]) hx hb hml hown hts hWd lk317 (ct317 (τ := τ) (ρ := ρ) hT t1 hx1.1 hx2.1 hw1 (by first | assumption | exact hm1 _)) hcell1 rfl (by rw [m317]; exact Nat.le_of_ble_eq_true rfl) hR hP hD hS (Nat.le_of_ble_eq_true rfl) hl.1 dL_1462 hc (fun r h' H locs ws hq hR hP hD hS => ?_)
  obtain ⟨eh, z1, er, lo1, hi1, p1_0⟩ := hq
  subst eh
  subst er
  refine W.eq (g2 := F0 m 1465 ls [.int (pv_I z1), .int (pv_I z0)]) rfl ?_
  have ez : z0 = z1 := by first | omega | exact p0_0.trans p1_0.symm
  refine lv_icmp_eq (tgt := 1533) hx hb dL_1465 (by decide) (fun c9 => ?_) (fun c9 => absurd (by rw [ez]) c9)
  exact pv_lend ⟨hx, hb, hr, hml, hown, hts, hX, hbl, hlk, hWd⟩ hS hl hc
set_option maxHeartbeats 4000000 in
theorem lc_42 (X : pv_LX p s m meth c b xs K adV dC dI dA) (hKok : pv_Kok K) (Y : pv_LY s dC dI dA τ ρ h h0 h1 ws H locs) (hl : lv_has ls 4 [(3, .int 0), (2, .ref h1), (1, .ref h0), (0, .ref b)]) (hc : cells ≤ 600000 ∧ slots ≤ 7302250) : W p l e room_1 s m #[Value.ref b] below meth c H locs cells slots (lw_Z below #[Value.ref b] s) (F0 m 1470 ls []) := by
  obtain ⟨hx, hb, hr, hml, hown, hts, hX, hbl, hlk, hWd⟩ := X
  obtain ⟨hT, t0, t1, hXF, hMF, hR, hP, hD, hS⟩ := Y
  have hbA : ¬ (fun q => s.heap.size ≤ q) b := fun z => by have : s.heap.size ≤ b := z; omega
  obtain ⟨⟨hn0, hn1, hn2, hn3, hn4, hn14, hn15⟩, ⟨hp0, hp1, hp2⟩, hrows, himg⟩ := hXF
  obtain ⟨hm1, hm2, hm3, hm4, hm5, hm6⟩ := id hMF
  obtain ⟨x1, hx1⟩ : ∃ x : Int, (-2147483648 ≤ x ∧ x ≤ 2147483647) ∧ xs 1 = pv_I x := ⟨_, pv_I_rep _⟩
  obtain ⟨x2, hx2⟩ : ∃ x : Int, (-2147483648 ≤ x ∧ x ≤ 2147483647) ∧ xs 2 = pv_I x := ⟨_, pv_I_rep _⟩
  obtain ⟨x3, hx3⟩ : ∃ x : Int, (-2147483648 ≤ x ∧ x ≤ 2147483647) ∧ xs 3 = pv_I x := ⟨_, pv_I_rep _⟩
  obtain ⟨x4, hx4⟩ : ∃ x : Int, (-2147483648 ≤ x ∧ x ≤ 2147483647) ∧ xs 4 = pv_I x := ⟨_, pv_I_rep _⟩
  obtain ⟨x5, hx5⟩ : ∃ x : Int, (-2147483648 ≤ x ∧ x ≤ 2147483647) ∧ xs 5 = pv_I x := ⟨_, pv_I_rep _⟩

  refine lv_aload_n hx hb dL_1470 rfl (lv_at hl 2 rfl) ?_
  refine lv_aload_n hx hb dL_1471 rfl (lv_at hl 3 rfl) ?_
  refine lv_iload_n hx hb dL_1472 rfl (lv_at hl 0 rfl) ?_
  refine lv_iconst (v := 1) hx hb dL_1473 (by decide) ?_
  refine lv_iadd hx hb dL_1474 ?_
  refine pv_sldI (k := 1) (x := x1) hx hb hX hbl hbA hS (by decide) (by decide) hx1.2 dL_1475 ?_
  refine lv_aload_n hx hb dL_1476 rfl (lv_at hl 3 rfl) ?_
  refine lv_iload_n hx hb dL_1477 rfl (lv_at hl 0 rfl) ?_
  refine lv_iconst (v := 2) hx hb dL_1478 (by decide) ?_
  refine lv_iadd hx hb dL_1479 ?_
  refine pv_sldI (k := 2) (x := x2) hx hb hX hbl hbA hS (by decide) (by decide) hx2.2 dL_1480 ?_
  refine lv_aload_n hx hb dL_1481 rfl (lv_at hl 3 rfl) ?_
  refine lv_iload_n hx hb dL_1482 rfl (lv_at hl 0 rfl) ?_
  refine lv_iconst (v := 3) hx hb dL_1483 (by decide) ?_
  refine lv_iadd hx hb dL_1484 ?_
  refine pv_sldI (k := 3) (x := x3) hx hb hX hbl hbA hS (by decide) (by decide) hx3.2 dL_1485 ?_
  refine lv_aload_n hx hb dL_1486 rfl (lv_at hl 3 rfl) ?_
  refine lv_iload_n hx hb dL_1487 rfl (lv_at hl 0 rfl) ?_
  refine lv_iconst (v := 4) hx hb dL_1488 (by decide) ?_
  refine lv_iadd hx hb dL_1489 ?_
  refine pv_sldI (k := 4) (x := x4) hx hb hX hbl hbA hS (by decide) (by decide) hx4.2 dL_1490 ?_
  refine lv_aload_n hx hb dL_1491 rfl (lv_at hl 3 rfl) ?_
  refine lv_iload_n hx hb dL_1492 rfl (lv_at hl 0 rfl) ?_
  refine lv_iconst (v := 5) hx hb dL_1493 (by decide) ?_
  refine lv_iadd hx hb dL_1494 ?_
  refine pv_sldI (k := 5) (x := x5) hx hb hX hbl hbA hS (by decide) (by decide) hx5.2 dL_1495 ?_
  obtain ⟨fs0, hcell0, -⟩ := (hT h0 0 t0).1 _ rfl
  refine pv_lawcall (As := [.int (pv_I x1), .int (pv_I x2), .int (pv_I x3), .int (pv_I x4), .int (pv_I x5)]) (rest := []) hx hb hml hown hts hWd lk180 (ct180 (τ := τ) (ρ := ρ) hT t0 hx1.1 hx2.1 hx3.1 hx4.1 hx5.1 (by first | assumption | exact hm1 _)) hcell0 rfl (by rw [m180]; exact Nat.le_of_ble_eq_true rfl) hR hP hD hS (Nat.le_of_ble_eq_true rfl) hl.1 dL_1496 hc (fun r h' H locs ws hq hR hP hD hS => ?_)
  obtain ⟨eh, z0, er, lo0, hi0, p0_0⟩ := hq
  subst eh
  subst er
  refine W.eq (g2 := F0 m 1499 ls [.int (pv_I z0)]) rfl ?_
  refine lv_aload_n hx hb dL_1499 rfl (lv_at hl 1 rfl) ?_
  refine lv_aload_n hx hb dL_1500 rfl (lv_at hl 3 rfl) ?_
  refine lv_iload_n hx hb dL_1501 rfl (lv_at hl 0 rfl) ?_
  refine lv_iconst (v := 1) hx hb dL_1502 (by decide) ?_
  refine lv_iadd hx hb dL_1503 ?_
  refine pv_sldI (k := 1) (x := x1) hx hb hX hbl hbA hS (by decide) (by decide) hx1.2 dL_1504 ?_
  refine lv_aload_n hx hb dL_1505 rfl (lv_at hl 3 rfl) ?_
  refine lv_iload_n hx hb dL_1506 rfl (lv_at hl 0 rfl) ?_
  refine lv_iconst (v := 2) hx hb dL_1507 (by decide) ?_
  refine lv_iadd hx hb dL_1508 ?_
  refine pv_sldI (k := 2) (x := x2) hx hb hX hbl hbA hS (by decide) (by decide) hx2.2 dL_1509 ?_
  refine lv_aload_n hx hb dL_1510 rfl (lv_at hl 3 rfl) ?_
  refine lv_iload_n hx hb dL_1511 rfl (lv_at hl 0 rfl) ?_
  refine lv_iconst (v := 3) hx hb dL_1512 (by decide) ?_
  refine lv_iadd hx hb dL_1513 ?_
  refine pv_sldI (k := 3) (x := x3) hx hb hX hbl hbA hS (by decide) (by decide) hx3.2 dL_1514 ?_
  refine lv_aload_n hx hb dL_1515 rfl (lv_at hl 3 rfl) ?_
  refine lv_iload_n hx hb dL_1516 rfl (lv_at hl 0 rfl) ?_
  refine lv_iconst (v := 4) hx hb dL_1517 (by decide) ?_
  refine lv_iadd hx hb dL_1518 ?_
  refine pv_sldI (k := 4) (x := x4) hx hb hX hbl hbA hS (by decide) (by decide) hx4.2 dL_1519 ?_
  refine lv_aload_n hx hb dL_1520 rfl (lv_at hl 3 rfl) ?_
  refine lv_iload_n hx hb dL_1521 rfl (lv_at hl 0 rfl) ?_
  refine lv_iconst (v := 5) hx hb dL_1522 (by decide) ?_
  refine lv_iadd hx hb dL_1523 ?_
  refine pv_sldI (k := 5) (x := x5) hx hb hX hbl hbA hS (by decide) (by decide) hx5.2 dL_1524 ?_
  obtain ⟨fs1, hcell1, -⟩ := (hT h1 7 t1).1 _ rfl
  refine pv_lawcall (As := [.int (pv_I x1), .int (pv_I x2), .int (pv_I x3), .int (pv_I x4), .int (pv_I x5)]) (rest := [.int (pv_I z0)]) hx hb hml hown hts hWd lk319 (ct319 (τ := τ) (ρ := ρ) hT t1 hx1.1 hx2.1 hx3.1 hx4.1 hx5.1 (by first | assumption | exact hm1 _)) hcell1 rfl (by rw [m319]; exact Nat.le_of_ble_eq_true rfl) hR hP hD hS (Nat.le_of_ble_eq_true rfl) hl.1 dL_1525 hc (fun r h' H locs ws hq hR hP hD hS => ?_)
  obtain ⟨eh, z1, er, lo1, hi1, p1_0⟩ := hq
  subst eh
  subst er
  refine W.eq (g2 := F0 m 1528 ls [.int (pv_I z1), .int (pv_I z0)]) rfl ?_
  have ez : z0 = z1 := by first | omega | exact p0_0.trans p1_0.symm
  refine lv_icmp_eq (tgt := 1533) hx hb dL_1528 (by decide) (fun c9 => ?_) (fun c9 => absurd (by rw [ez]) c9)
  exact pv_lend ⟨hx, hb, hr, hml, hown, hts, hX, hbl, hlk, hWd⟩ hS hl hc
end LE
