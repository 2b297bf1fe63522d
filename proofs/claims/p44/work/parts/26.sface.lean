theorem o8 : pv_own 8 = "AngleNet" := by decide +kernel
theorem b8 : pv_bc 8 = prog_1_method_2_code := pv_bcof (i := 8) rfl
theorem m8 : pv_mL 8 = 6 := by decide +kernel
theorem tt8 : pv_rt 8 = some .int := by decide +kernel
theorem d8_0 : pv_dec 8 0 = some (.aload_n 0, 1) := pv_dec_of b8 (by decide +kernel)
theorem d8_1 : pv_dec 8 1 = some (.getfield 10, 3) := pv_dec_of b8 (by decide +kernel)
theorem d8_4 : pv_dec 8 4 = some (.getfield 62, 3) := pv_dec_of b8 (by decide +kernel)
theorem d8_7 : pv_dec 8 7 = some (.bipush 20, 2) := pv_dec_of b8 (by decide +kernel)
theorem d8_9 : pv_dec 8 9 = some (.iadd, 1) := pv_dec_of b8 (by decide +kernel)
theorem d8_10 : pv_dec 8 10 = some (.sipush 1600, 3) := pv_dec_of b8 (by decide +kernel)
theorem d8_13 : pv_dec 8 13 = some (.if_icmp .le 5, 3) := pv_dec_of b8 (by decide +kernel)
theorem d8_16 : pv_dec 8 16 = some (.iconst (-1), 1) := pv_dec_of b8 (by decide +kernel)
theorem d8_17 : pv_dec 8 17 = some (.ireturn, 1) := pv_dec_of b8 (by decide +kernel)
theorem d8_18 : pv_dec 8 18 = some (.aload_n 0, 1) := pv_dec_of b8 (by decide +kernel)
theorem d8_19 : pv_dec 8 19 = some (.getfield 10, 3) := pv_dec_of b8 (by decide +kernel)
theorem d8_22 : pv_dec 8 22 = some (.iload_n 1, 1) := pv_dec_of b8 (by decide +kernel)
theorem d8_23 : pv_dec 8 23 = some (.invokevirtual 66, 3) := pv_dec_of b8 (by decide +kernel)
theorem d8_26 : pv_dec 8 26 = some (.aload_n 0, 1) := pv_dec_of b8 (by decide +kernel)
theorem d8_27 : pv_dec 8 27 = some (.getfield 10, 3) := pv_dec_of b8 (by decide +kernel)
theorem d8_30 : pv_dec 8 30 = some (.iload_n 2, 1) := pv_dec_of b8 (by decide +kernel)
theorem d8_31 : pv_dec 8 31 = some (.invokevirtual 66, 3) := pv_dec_of b8 (by decide +kernel)
theorem d8_34 : pv_dec 8 34 = some (.aload_n 0, 1) := pv_dec_of b8 (by decide +kernel)
theorem d8_35 : pv_dec 8 35 = some (.getfield 10, 3) := pv_dec_of b8 (by decide +kernel)
theorem d8_38 : pv_dec 8 38 = some (.iload_n 3, 1) := pv_dec_of b8 (by decide +kernel)
theorem d8_39 : pv_dec 8 39 = some (.invokevirtual 66, 3) := pv_dec_of b8 (by decide +kernel)
theorem d8_42 : pv_dec 8 42 = some (.aload_n 0, 1) := pv_dec_of b8 (by decide +kernel)
theorem d8_43 : pv_dec 8 43 = some (.getfield 10, 3) := pv_dec_of b8 (by decide +kernel)
theorem d8_46 : pv_dec 8 46 = some (.iload 4, 2) := pv_dec_of b8 (by decide +kernel)
theorem d8_48 : pv_dec 8 48 = some (.invokevirtual 66, 3) := pv_dec_of b8 (by decide +kernel)
theorem d8_51 : pv_dec 8 51 = some (.aload_n 0, 1) := pv_dec_of b8 (by decide +kernel)
theorem d8_52 : pv_dec 8 52 = some (.getfield 10, 3) := pv_dec_of b8 (by decide +kernel)
theorem d8_55 : pv_dec 8 55 = some (.iload 5, 2) := pv_dec_of b8 (by decide +kernel)
theorem d8_57 : pv_dec 8 57 = some (.invokevirtual 66, 3) := pv_dec_of b8 (by decide +kernel)
theorem d8_60 : pv_dec 8 60 = some (.aload_n 0, 1) := pv_dec_of b8 (by decide +kernel)
theorem d8_61 : pv_dec 8 61 = some (.getfield 10, 3) := pv_dec_of b8 (by decide +kernel)
theorem d8_64 : pv_dec 8 64 = some (.getfield 62, 3) := pv_dec_of b8 (by decide +kernel)
theorem d8_67 : pv_dec 8 67 = some (.ireturn, 1) := pv_dec_of b8 (by decide +kernel)
theorem G2_10 : pv_gfo "AngleNet" 10 = some (0, 0) := by decide +kernel
theorem g8_10 : pv_gf 8 10 = some (0, 0) := pv_gfo_of o8 G2_10
theorem G2_62 : pv_gfo "AngleNet" 62 = some (1, 0) := by decide +kernel
theorem g8_62 : pv_gf 8 62 = some (1, 0) := pv_gfo_of o8 G2_62
theorem Y2_66 : pv_mlo "AngleNet" 66 = some (⟨"AngleNet$Tape", "append", "(I)V"⟩, none) := by decide +kernel
theorem V9 : pv_cV 9 1 1 3 ⟨"AngleNet$Tape", "append", "(I)V"⟩ = true := by decide +kernel
theorem k8_66 : pv_kV 8 66 9 1 1 3 := pv_kV_of o8 Y2_66 V9 (by decide +kernel)
theorem o10 : pv_own 10 = "AngleNet" := by decide +kernel
theorem b10 : pv_bc 10 = prog_1_method_3_code := pv_bcof (i := 10) rfl
theorem m10 : pv_mL 10 = 2 := by decide +kernel
theorem tt10 : pv_rt 10 = some .int := by decide +kernel
theorem d10_0 : pv_dec 10 0 = some (.iload_n 1, 1) := pv_dec_of b10 (by decide +kernel)
theorem d10_1 : pv_dec 10 1 = some (.ifCond .lt 14, 3) := pv_dec_of b10 (by decide +kernel)
theorem d10_4 : pv_dec 10 4 = some (.iload_n 1, 1) := pv_dec_of b10 (by decide +kernel)
theorem d10_5 : pv_dec 10 5 = some (.aload_n 0, 1) := pv_dec_of b10 (by decide +kernel)
theorem d10_6 : pv_dec 10 6 = some (.getfield 10, 3) := pv_dec_of b10 (by decide +kernel)
theorem d10_9 : pv_dec 10 9 = some (.getfield 62, 3) := pv_dec_of b10 (by decide +kernel)
theorem d10_12 : pv_dec 10 12 = some (.if_icmp .le 5, 3) := pv_dec_of b10 (by decide +kernel)
theorem d10_15 : pv_dec 10 15 = some (.iconst (-1), 1) := pv_dec_of b10 (by decide +kernel)
theorem d10_16 : pv_dec 10 16 = some (.ireturn, 1) := pv_dec_of b10 (by decide +kernel)
theorem d10_17 : pv_dec 10 17 = some (.aload_n 0, 1) := pv_dec_of b10 (by decide +kernel)
theorem d10_18 : pv_dec 10 18 = some (.getfield 10, 3) := pv_dec_of b10 (by decide +kernel)
theorem d10_21 : pv_dec 10 21 = some (.iload_n 1, 1) := pv_dec_of b10 (by decide +kernel)
theorem d10_22 : pv_dec 10 22 = some (.putfield 62, 3) := pv_dec_of b10 (by decide +kernel)
theorem d10_25 : pv_dec 10 25 = some (.iload_n 1, 1) := pv_dec_of b10 (by decide +kernel)
theorem d10_26 : pv_dec 10 26 = some (.ireturn, 1) := pv_dec_of b10 (by decide +kernel)
theorem g10_10 : pv_gf 10 10 = some (0, 0) := pv_gfo_of o10 G2_10
theorem g10_62 : pv_gf 10 62 = some (1, 0) := pv_gfo_of o10 G2_62
theorem o11 : pv_own 11 = "AngleNet" := by decide +kernel
theorem b11 : pv_bc 11 = prog_1_method_4_code := pv_bcof (i := 11) rfl
theorem m11 : pv_mL 11 = 1 := by decide +kernel
theorem tt11 : pv_rt 11 = some .int := by decide +kernel
theorem d11_0 : pv_dec 11 0 = some (.aload_n 0, 1) := pv_dec_of b11 (by decide +kernel)
theorem d11_1 : pv_dec 11 1 = some (.getfield 10, 3) := pv_dec_of b11 (by decide +kernel)
theorem d11_4 : pv_dec 11 4 = some (.invokevirtual 70, 3) := pv_dec_of b11 (by decide +kernel)
theorem d11_7 : pv_dec 11 7 = some (.ifCond .ne 6, 3) := pv_dec_of b11 (by decide +kernel)
theorem d11_10 : pv_dec 11 10 = some (.bipush (-4), 2) := pv_dec_of b11 (by decide +kernel)
theorem d11_12 : pv_dec 11 12 = some (.ireturn, 1) := pv_dec_of b11 (by decide +kernel)
theorem d11_13 : pv_dec 11 13 = some (.aload_n 0, 1) := pv_dec_of b11 (by decide +kernel)
theorem d11_14 : pv_dec 11 14 = some (.getfield 10, 3) := pv_dec_of b11 (by decide +kernel)
theorem d11_17 : pv_dec 11 17 = some (.iconst 0, 1) := pv_dec_of b11 (by decide +kernel)
theorem d11_18 : pv_dec 11 18 = some (.putfield 62, 3) := pv_dec_of b11 (by decide +kernel)
theorem d11_21 : pv_dec 11 21 = some (.aload_n 0, 1) := pv_dec_of b11 (by decide +kernel)
theorem d11_22 : pv_dec 11 22 = some (.getfield 19, 3) := pv_dec_of b11 (by decide +kernel)
theorem d11_25 : pv_dec 11 25 = some (.aload_n 0, 1) := pv_dec_of b11 (by decide +kernel)
theorem d11_26 : pv_dec 11 26 = some (.getfield 10, 3) := pv_dec_of b11 (by decide +kernel)
theorem d11_29 : pv_dec 11 29 = some (.getfield 74, 3) := pv_dec_of b11 (by decide +kernel)
theorem d11_32 : pv_dec 11 32 = some (.invokevirtual 77, 3) := pv_dec_of b11 (by decide +kernel)
theorem d11_35 : pv_dec 11 35 = some (.aload_n 0, 1) := pv_dec_of b11 (by decide +kernel)
theorem d11_36 : pv_dec 11 36 = some (.getfield 19, 3) := pv_dec_of b11 (by decide +kernel)
theorem d11_39 : pv_dec 11 39 = some (.getfield 81, 3) := pv_dec_of b11 (by decide +kernel)
theorem d11_42 : pv_dec 11 42 = some (.ireturn, 1) := pv_dec_of b11 (by decide +kernel)
theorem g11_10 : pv_gf 11 10 = some (0, 0) := pv_gfo_of o11 G2_10
theorem G2_19 : pv_gfo "AngleNet" 19 = some (0, 1) := by decide +kernel
theorem g11_19 : pv_gf 11 19 = some (0, 1) := pv_gfo_of o11 G2_19
theorem g11_62 : pv_gf 11 62 = some (1, 0) := pv_gfo_of o11 G2_62
theorem G2_74 : pv_gfo "AngleNet" 74 = some (1, 3) := by decide +kernel
theorem g11_74 : pv_gf 11 74 = some (1, 3) := pv_gfo_of o11 G2_74
theorem G2_81 : pv_gfo "AngleNet" 81 = some (2, 2) := by decide +kernel
theorem g11_81 : pv_gf 11 81 = some (2, 2) := pv_gfo_of o11 G2_81
theorem Y2_70 : pv_mlo "AngleNet" 70 = some (⟨"AngleNet$Tape", "readAll", "()Z"⟩, none) := by decide +kernel
theorem V12 : pv_cV 12 1 0 2 ⟨"AngleNet$Tape", "readAll", "()Z"⟩ = true := by decide +kernel
theorem k11_70 : pv_kV 11 70 12 1 0 2 := pv_kV_of o11 Y2_70 V12 (by decide +kernel)
theorem Y2_77 : pv_mlo "AngleNet" 77 = some (⟨"AngleNet$Net", "copyFrom", "(LAngleNet$Net;)V"⟩, none) := by decide +kernel
theorem V52 : pv_cV 52 2 1 2 ⟨"AngleNet$Net", "copyFrom", "(LAngleNet$Net;)V"⟩ = true := by decide +kernel
theorem k11_77 : pv_kV 11 77 52 2 1 2 := pv_kV_of o11 Y2_77 V52 (by decide +kernel)
theorem o53 : pv_own 53 = "AngleNet" := by decide +kernel
theorem b53 : pv_bc 53 = prog_1_method_5_code := pv_bcof (i := 53) rfl
theorem m53 : pv_mL 53 = 2 := by decide +kernel
theorem tt53 : pv_rt 53 = some .int := by decide +kernel
theorem d53_0 : pv_dec 53 0 = some (.iload_n 1, 1) := pv_dec_of b53 (by decide +kernel)
theorem d53_1 : pv_dec 53 1 = some (.ifCond .ne 11, 3) := pv_dec_of b53 (by decide +kernel)
theorem d53_4 : pv_dec 53 4 = some (.aload_n 0, 1) := pv_dec_of b53 (by decide +kernel)
theorem d53_5 : pv_dec 53 5 = some (.getfield 10, 3) := pv_dec_of b53 (by decide +kernel)
theorem d53_8 : pv_dec 53 8 = some (.getfield 84, 3) := pv_dec_of b53 (by decide +kernel)
theorem d53_11 : pv_dec 53 11 = some (.ireturn, 1) := pv_dec_of b53 (by decide +kernel)
theorem d53_12 : pv_dec 53 12 = some (.iload_n 1, 1) := pv_dec_of b53 (by decide +kernel)
theorem d53_13 : pv_dec 53 13 = some (.iconst 1, 1) := pv_dec_of b53 (by decide +kernel)
theorem d53_14 : pv_dec 53 14 = some (.if_icmp .ne 13, 3) := pv_dec_of b53 (by decide +kernel)
theorem d53_17 : pv_dec 53 17 = some (.aload_n 0, 1) := pv_dec_of b53 (by decide +kernel)
theorem d53_18 : pv_dec 53 18 = some (.getfield 10, 3) := pv_dec_of b53 (by decide +kernel)
theorem d53_21 : pv_dec 53 21 = some (.getfield 87, 3) := pv_dec_of b53 (by decide +kernel)
theorem d53_24 : pv_dec 53 24 = some (.goto 4, 3) := pv_dec_of b53 (by decide +kernel)
theorem d53_27 : pv_dec 53 27 = some (.iconst (-1), 1) := pv_dec_of b53 (by decide +kernel)
theorem d53_28 : pv_dec 53 28 = some (.ireturn, 1) := pv_dec_of b53 (by decide +kernel)
theorem g53_10 : pv_gf 53 10 = some (0, 0) := pv_gfo_of o53 G2_10
theorem G2_84 : pv_gfo "AngleNet" 84 = some (1, 1) := by decide +kernel
theorem g53_84 : pv_gf 53 84 = some (1, 1) := pv_gfo_of o53 G2_84
theorem G2_87 : pv_gfo "AngleNet" 87 = some (1, 2) := by decide +kernel
theorem g53_87 : pv_gf 53 87 = some (1, 2) := pv_gfo_of o53 G2_87
theorem o54 : pv_own 54 = "AngleNet" := by decide +kernel
theorem b54 : pv_bc 54 = prog_1_method_6_code := pv_bcof (i := 54) rfl
theorem m54 : pv_mL 54 = 3 := by decide +kernel
theorem tt54 : pv_rt 54 = some .int := by decide +kernel
theorem d54_0 : pv_dec 54 0 = some (.aload_n 0, 1) := pv_dec_of b54 (by decide +kernel)
theorem d54_1 : pv_dec 54 1 = some (.getfield 19, 3) := pv_dec_of b54 (by decide +kernel)
theorem d54_4 : pv_dec 54 4 = some (.iload_n 1, 1) := pv_dec_of b54 (by decide +kernel)
theorem d54_5 : pv_dec 54 5 = some (.invokevirtual 90, 3) := pv_dec_of b54 (by decide +kernel)
theorem d54_8 : pv_dec 54 8 = some (.ifCond .eq 12, 3) := pv_dec_of b54 (by decide +kernel)
theorem d54_11 : pv_dec 54 11 = some (.iload_n 2, 1) := pv_dec_of b54 (by decide +kernel)
theorem d54_12 : pv_dec 54 12 = some (.ifCond .lt 8, 3) := pv_dec_of b54 (by decide +kernel)
theorem d54_15 : pv_dec 54 15 = some (.iload_n 2, 1) := pv_dec_of b54 (by decide +kernel)
theorem d54_16 : pv_dec 54 16 = some (.iconst 3, 1) := pv_dec_of b54 (by decide +kernel)
theorem d54_17 : pv_dec 54 17 = some (.if_icmp .le 6, 3) := pv_dec_of b54 (by decide +kernel)
theorem d54_20 : pv_dec 54 20 = some (.bipush (-2), 2) := pv_dec_of b54 (by decide +kernel)
theorem d54_22 : pv_dec 54 22 = some (.ireturn, 1) := pv_dec_of b54 (by decide +kernel)
theorem d54_23 : pv_dec 54 23 = some (.iload_n 2, 1) := pv_dec_of b54 (by decide +kernel)
theorem d54_24 : pv_dec 54 24 = some (.iconst 3, 1) := pv_dec_of b54 (by decide +kernel)
theorem d54_25 : pv_dec 54 25 = some (.if_icmp .ne 15, 3) := pv_dec_of b54 (by decide +kernel)
theorem d54_28 : pv_dec 54 28 = some (.aload_n 0, 1) := pv_dec_of b54 (by decide +kernel)
theorem d54_29 : pv_dec 54 29 = some (.getfield 19, 3) := pv_dec_of b54 (by decide +kernel)
theorem d54_32 : pv_dec 54 32 = some (.getfield 94, 3) := pv_dec_of b54 (by decide +kernel)
theorem d54_35 : pv_dec 54 35 = some (.iload_n 1, 1) := pv_dec_of b54 (by decide +kernel)
theorem d54_36 : pv_dec 54 36 = some (.iaload, 1) := pv_dec_of b54 (by decide +kernel)
theorem d54_37 : pv_dec 54 37 = some (.goto 16, 3) := pv_dec_of b54 (by decide +kernel)
theorem d54_40 : pv_dec 54 40 = some (.aload_n 0, 1) := pv_dec_of b54 (by decide +kernel)
theorem d54_41 : pv_dec 54 41 = some (.getfield 19, 3) := pv_dec_of b54 (by decide +kernel)
theorem d54_44 : pv_dec 54 44 = some (.getfield 98, 3) := pv_dec_of b54 (by decide +kernel)
theorem d54_47 : pv_dec 54 47 = some (.iconst 3, 1) := pv_dec_of b54 (by decide +kernel)
theorem d54_48 : pv_dec 54 48 = some (.iload_n 1, 1) := pv_dec_of b54 (by decide +kernel)
theorem d54_49 : pv_dec 54 49 = some (.imul, 1) := pv_dec_of b54 (by decide +kernel)
theorem d54_50 : pv_dec 54 50 = some (.iload_n 2, 1) := pv_dec_of b54 (by decide +kernel)
theorem d54_51 : pv_dec 54 51 = some (.iadd, 1) := pv_dec_of b54 (by decide +kernel)
theorem d54_52 : pv_dec 54 52 = some (.iaload, 1) := pv_dec_of b54 (by decide +kernel)
theorem d54_53 : pv_dec 54 53 = some (.ireturn, 1) := pv_dec_of b54 (by decide +kernel)
theorem g54_19 : pv_gf 54 19 = some (0, 1) := pv_gfo_of o54 G2_19
theorem G2_94 : pv_gfo "AngleNet" 94 = some (2, 6) := by decide +kernel
theorem g54_94 : pv_gf 54 94 = some (2, 6) := pv_gfo_of o54 G2_94
theorem G2_98 : pv_gfo "AngleNet" 98 = some (2, 5) := by decide +kernel
theorem g54_98 : pv_gf 54 98 = some (2, 5) := pv_gfo_of o54 G2_98
theorem Y2_90 : pv_mlo "AngleNet" 90 = some (⟨"AngleNet$Net", "isThird", "(I)Z"⟩, none) := by decide +kernel
theorem V55 : pv_cV 55 2 1 2 ⟨"AngleNet$Net", "isThird", "(I)Z"⟩ = true := by decide +kernel
theorem k54_90 : pv_kV 54 90 55 2 1 2 := pv_kV_of o54 Y2_90 V55 (by decide +kernel)
theorem o56 : pv_own 56 = "AngleNet" := by decide +kernel
theorem b56 : pv_bc 56 = prog_1_method_7_code := pv_bcof (i := 56) rfl
theorem m56 : pv_mL 56 = 3 := by decide +kernel
theorem tt56 : pv_rt 56 = some .int := by decide +kernel
theorem d56_0 : pv_dec 56 0 = some (.aload_n 0, 1) := pv_dec_of b56 (by decide +kernel)
theorem d56_1 : pv_dec 56 1 = some (.getfield 19, 3) := pv_dec_of b56 (by decide +kernel)
theorem d56_4 : pv_dec 56 4 = some (.iload_n 1, 1) := pv_dec_of b56 (by decide +kernel)
theorem d56_5 : pv_dec 56 5 = some (.invokevirtual 101, 3) := pv_dec_of b56 (by decide +kernel)
theorem d56_8 : pv_dec 56 8 = some (.ifCond .ne 6, 3) := pv_dec_of b56 (by decide +kernel)
theorem d56_11 : pv_dec 56 11 = some (.bipush (-2), 2) := pv_dec_of b56 (by decide +kernel)
theorem d56_13 : pv_dec 56 13 = some (.ireturn, 1) := pv_dec_of b56 (by decide +kernel)
theorem d56_14 : pv_dec 56 14 = some (.iload_n 2, 1) := pv_dec_of b56 (by decide +kernel)
theorem d56_15 : pv_dec 56 15 = some (.tableswitch 95 0 5 #[37, 47, 57, 67, 77, 86], 37) := pv_dec_of b56 (by decide +kernel)
theorem d56_52 : pv_dec 56 52 = some (.aload_n 0, 1) := pv_dec_of b56 (by decide +kernel)
theorem d56_53 : pv_dec 56 53 = some (.getfield 19, 3) := pv_dec_of b56 (by decide +kernel)
theorem d56_56 : pv_dec 56 56 = some (.getfield 104, 3) := pv_dec_of b56 (by decide +kernel)
theorem d56_59 : pv_dec 56 59 = some (.iload_n 1, 1) := pv_dec_of b56 (by decide +kernel)
theorem d56_60 : pv_dec 56 60 = some (.iaload, 1) := pv_dec_of b56 (by decide +kernel)
theorem d56_61 : pv_dec 56 61 = some (.ireturn, 1) := pv_dec_of b56 (by decide +kernel)
theorem d56_62 : pv_dec 56 62 = some (.aload_n 0, 1) := pv_dec_of b56 (by decide +kernel)
theorem d56_63 : pv_dec 56 63 = some (.getfield 19, 3) := pv_dec_of b56 (by decide +kernel)
theorem d56_66 : pv_dec 56 66 = some (.getfield 107, 3) := pv_dec_of b56 (by decide +kernel)
theorem d56_69 : pv_dec 56 69 = some (.iload_n 1, 1) := pv_dec_of b56 (by decide +kernel)
theorem d56_70 : pv_dec 56 70 = some (.iaload, 1) := pv_dec_of b56 (by decide +kernel)
theorem d56_71 : pv_dec 56 71 = some (.ireturn, 1) := pv_dec_of b56 (by decide +kernel)
theorem d56_72 : pv_dec 56 72 = some (.aload_n 0, 1) := pv_dec_of b56 (by decide +kernel)
theorem d56_73 : pv_dec 56 73 = some (.getfield 19, 3) := pv_dec_of b56 (by decide +kernel)
theorem d56_76 : pv_dec 56 76 = some (.getfield 110, 3) := pv_dec_of b56 (by decide +kernel)
theorem d56_79 : pv_dec 56 79 = some (.iload_n 1, 1) := pv_dec_of b56 (by decide +kernel)
theorem d56_80 : pv_dec 56 80 = some (.iaload, 1) := pv_dec_of b56 (by decide +kernel)
theorem d56_81 : pv_dec 56 81 = some (.ireturn, 1) := pv_dec_of b56 (by decide +kernel)
theorem d56_82 : pv_dec 56 82 = some (.aload_n 0, 1) := pv_dec_of b56 (by decide +kernel)
theorem d56_83 : pv_dec 56 83 = some (.getfield 19, 3) := pv_dec_of b56 (by decide +kernel)
theorem d56_86 : pv_dec 56 86 = some (.getfield 113, 3) := pv_dec_of b56 (by decide +kernel)
theorem d56_89 : pv_dec 56 89 = some (.iload_n 1, 1) := pv_dec_of b56 (by decide +kernel)
theorem d56_90 : pv_dec 56 90 = some (.iaload, 1) := pv_dec_of b56 (by decide +kernel)
theorem d56_91 : pv_dec 56 91 = some (.ireturn, 1) := pv_dec_of b56 (by decide +kernel)
theorem d56_92 : pv_dec 56 92 = some (.aload_n 0, 1) := pv_dec_of b56 (by decide +kernel)
theorem d56_93 : pv_dec 56 93 = some (.getfield 19, 3) := pv_dec_of b56 (by decide +kernel)
theorem d56_96 : pv_dec 56 96 = some (.iload_n 1, 1) := pv_dec_of b56 (by decide +kernel)
theorem d56_97 : pv_dec 56 97 = some (.invokevirtual 116, 3) := pv_dec_of b56 (by decide +kernel)
theorem d56_100 : pv_dec 56 100 = some (.ireturn, 1) := pv_dec_of b56 (by decide +kernel)
theorem d56_101 : pv_dec 56 101 = some (.aload_n 0, 1) := pv_dec_of b56 (by decide +kernel)
theorem d56_102 : pv_dec 56 102 = some (.getfield 19, 3) := pv_dec_of b56 (by decide +kernel)
theorem d56_105 : pv_dec 56 105 = some (.iload_n 1, 1) := pv_dec_of b56 (by decide +kernel)
theorem d56_106 : pv_dec 56 106 = some (.invokevirtual 120, 3) := pv_dec_of b56 (by decide +kernel)
theorem d56_109 : pv_dec 56 109 = some (.ireturn, 1) := pv_dec_of b56 (by decide +kernel)
theorem d56_110 : pv_dec 56 110 = some (.bipush (-2), 2) := pv_dec_of b56 (by decide +kernel)
theorem d56_112 : pv_dec 56 112 = some (.ireturn, 1) := pv_dec_of b56 (by decide +kernel)
theorem g56_19 : pv_gf 56 19 = some (0, 1) := pv_gfo_of o56 G2_19
theorem G2_104 : pv_gfo "AngleNet" 104 = some (2, 7) := by decide +kernel
theorem g56_104 : pv_gf 56 104 = some (2, 7) := pv_gfo_of o56 G2_104
theorem G2_107 : pv_gfo "AngleNet" 107 = some (2, 8) := by decide +kernel
theorem g56_107 : pv_gf 56 107 = some (2, 8) := pv_gfo_of o56 G2_107
theorem G2_110 : pv_gfo "AngleNet" 110 = some (2, 9) := by decide +kernel
theorem g56_110 : pv_gf 56 110 = some (2, 9) := pv_gfo_of o56 G2_110
theorem G2_113 : pv_gfo "AngleNet" 113 = some (2, 10) := by decide +kernel
theorem g56_113 : pv_gf 56 113 = some (2, 10) := pv_gfo_of o56 G2_113
theorem Y2_101 : pv_mlo "AngleNet" 101 = some (⟨"AngleNet$Net", "isPost", "(I)Z"⟩, none) := by decide +kernel
theorem k56_101 : pv_kV 56 101 48 2 1 2 := pv_kV_of o56 Y2_101 V48 (by decide +kernel)
theorem Y2_116 : pv_mlo "AngleNet" 116 = some (⟨"AngleNet$Net", "thirdsAt", "(I)I"⟩, none) := by decide +kernel
theorem k56_116 : pv_kV 56 116 57 2 1 4 := pv_kV_of o56 Y2_116 V57 (by decide +kernel)
theorem Y2_120 : pv_mlo "AngleNet" 120 = some (⟨"AngleNet$Net", "sidesAt", "(I)I"⟩, none) := by decide +kernel
theorem k56_120 : pv_kV 56 120 59 2 1 4 := pv_kV_of o56 Y2_120 V59 (by decide +kernel)
theorem o60 : pv_own 60 = "AngleNet" := by decide +kernel
theorem b60 : pv_bc 60 = prog_1_method_8_code := pv_bcof (i := 60) rfl
theorem m60 : pv_mL 60 = 3 := by decide +kernel
theorem tt60 : pv_rt 60 = some .int := by decide +kernel
theorem d60_0 : pv_dec 60 0 = some (.aload_n 0, 1) := pv_dec_of b60 (by decide +kernel)
theorem d60_1 : pv_dec 60 1 = some (.getfield 19, 3) := pv_dec_of b60 (by decide +kernel)
theorem d60_4 : pv_dec 60 4 = some (.iload_n 1, 1) := pv_dec_of b60 (by decide +kernel)
theorem d60_5 : pv_dec 60 5 = some (.invokevirtual 101, 3) := pv_dec_of b60 (by decide +kernel)
theorem d60_8 : pv_dec 60 8 = some (.ifCond .eq 19, 3) := pv_dec_of b60 (by decide +kernel)
theorem d60_11 : pv_dec 60 11 = some (.aload_n 0, 1) := pv_dec_of b60 (by decide +kernel)
theorem d60_12 : pv_dec 60 12 = some (.getfield 19, 3) := pv_dec_of b60 (by decide +kernel)
theorem d60_15 : pv_dec 60 15 = some (.iload_n 2, 1) := pv_dec_of b60 (by decide +kernel)
theorem d60_16 : pv_dec 60 16 = some (.invokevirtual 101, 3) := pv_dec_of b60 (by decide +kernel)
theorem d60_19 : pv_dec 60 19 = some (.ifCond .eq 8, 3) := pv_dec_of b60 (by decide +kernel)
theorem d60_22 : pv_dec 60 22 = some (.iload_n 1, 1) := pv_dec_of b60 (by decide +kernel)
theorem d60_23 : pv_dec 60 23 = some (.iload_n 2, 1) := pv_dec_of b60 (by decide +kernel)
theorem d60_24 : pv_dec 60 24 = some (.if_icmp .ne 6, 3) := pv_dec_of b60 (by decide +kernel)
theorem d60_27 : pv_dec 60 27 = some (.bipush (-2), 2) := pv_dec_of b60 (by decide +kernel)
theorem d60_29 : pv_dec 60 29 = some (.ireturn, 1) := pv_dec_of b60 (by decide +kernel)
theorem d60_30 : pv_dec 60 30 = some (.aload_n 0, 1) := pv_dec_of b60 (by decide +kernel)
theorem d60_31 : pv_dec 60 31 = some (.getfield 19, 3) := pv_dec_of b60 (by decide +kernel)
theorem d60_34 : pv_dec 60 34 = some (.getfield 123, 3) := pv_dec_of b60 (by decide +kernel)
theorem d60_37 : pv_dec 60 37 = some (.bipush 10, 2) := pv_dec_of b60 (by decide +kernel)
theorem d60_39 : pv_dec 60 39 = some (.iload_n 1, 1) := pv_dec_of b60 (by decide +kernel)
theorem d60_40 : pv_dec 60 40 = some (.imul, 1) := pv_dec_of b60 (by decide +kernel)
theorem d60_41 : pv_dec 60 41 = some (.iload_n 2, 1) := pv_dec_of b60 (by decide +kernel)
theorem d60_42 : pv_dec 60 42 = some (.iadd, 1) := pv_dec_of b60 (by decide +kernel)
theorem d60_43 : pv_dec 60 43 = some (.iaload, 1) := pv_dec_of b60 (by decide +kernel)
theorem d60_44 : pv_dec 60 44 = some (.ireturn, 1) := pv_dec_of b60 (by decide +kernel)
theorem g60_19 : pv_gf 60 19 = some (0, 1) := pv_gfo_of o60 G2_19
theorem G2_123 : pv_gfo "AngleNet" 123 = some (2, 12) := by decide +kernel
theorem g60_123 : pv_gf 60 123 = some (2, 12) := pv_gfo_of o60 G2_123
theorem k60_101 : pv_kV 60 101 48 2 1 2 := pv_kV_of o60 Y2_101 V48 (by decide +kernel)
theorem o61 : pv_own 61 = "AngleNet" := by decide +kernel
theorem b61 : pv_bc 61 = prog_1_method_9_code := pv_bcof (i := 61) rfl
theorem m61 : pv_mL 61 = 2 := by decide +kernel
theorem tt61 : pv_rt 61 = some .int := by decide +kernel
theorem d61_0 : pv_dec 61 0 = some (.aload_n 0, 1) := pv_dec_of b61 (by decide +kernel)
theorem d61_1 : pv_dec 61 1 = some (.getfield 19, 3) := pv_dec_of b61 (by decide +kernel)
theorem d61_4 : pv_dec 61 4 = some (.iload_n 1, 1) := pv_dec_of b61 (by decide +kernel)
theorem d61_5 : pv_dec 61 5 = some (.invokevirtual 126, 3) := pv_dec_of b61 (by decide +kernel)
theorem d61_8 : pv_dec 61 8 = some (.ireturn, 1) := pv_dec_of b61 (by decide +kernel)
theorem g61_19 : pv_gf 61 19 = some (0, 1) := pv_gfo_of o61 G2_19
theorem Y2_126 : pv_mlo "AngleNet" 126 = some (⟨"AngleNet$Net", "sideNumbered", "(I)I"⟩, none) := by decide +kernel
theorem V62 : pv_cV 62 2 1 5 ⟨"AngleNet$Net", "sideNumbered", "(I)I"⟩ = true := by decide +kernel
theorem k61_126 : pv_kV 61 126 62 2 1 5 := pv_kV_of o61 Y2_126 V62 (by decide +kernel)
theorem o63 : pv_own 63 = "AngleNet" := by decide +kernel
theorem b63 : pv_bc 63 = prog_1_method_10_code := pv_bcof (i := 63) rfl
theorem m63 : pv_mL 63 = 2 := by decide +kernel
theorem tt63 : pv_rt 63 = some .int := by decide +kernel
theorem d63_0 : pv_dec 63 0 = some (.aload_n 0, 1) := pv_dec_of b63 (by decide +kernel)
theorem d63_1 : pv_dec 63 1 = some (.getfield 19, 3) := pv_dec_of b63 (by decide +kernel)
theorem d63_4 : pv_dec 63 4 = some (.invokevirtual 129, 3) := pv_dec_of b63 (by decide +kernel)
theorem d63_7 : pv_dec 63 7 = some (.ifCond .ne 6, 3) := pv_dec_of b63 (by decide +kernel)
theorem d63_10 : pv_dec 63 10 = some (.bipush (-2), 2) := pv_dec_of b63 (by decide +kernel)
theorem d63_12 : pv_dec 63 12 = some (.ireturn, 1) := pv_dec_of b63 (by decide +kernel)
theorem d63_13 : pv_dec 63 13 = some (.iload_n 1, 1) := pv_dec_of b63 (by decide +kernel)
theorem d63_14 : pv_dec 63 14 = some (.tableswitch 160 0 6 #[42, 54, 74, 86, 106, 118, 148], 42) := pv_dec_of b63 (by decide +kernel)
theorem d63_56 : pv_dec 63 56 = some (.aload_n 0, 1) := pv_dec_of b63 (by decide +kernel)
theorem d63_57 : pv_dec 63 57 = some (.getfield 44, 3) := pv_dec_of b63 (by decide +kernel)
theorem d63_60 : pv_dec 63 60 = some (.aload_n 0, 1) := pv_dec_of b63 (by decide +kernel)
theorem d63_61 : pv_dec 63 61 = some (.getfield 19, 3) := pv_dec_of b63 (by decide +kernel)
theorem d63_64 : pv_dec 63 64 = some (.invokevirtual 132, 3) := pv_dec_of b63 (by decide +kernel)
theorem d63_67 : pv_dec 63 67 = some (.ireturn, 1) := pv_dec_of b63 (by decide +kernel)
theorem d63_68 : pv_dec 63 68 = some (.aload_n 0, 1) := pv_dec_of b63 (by decide +kernel)
theorem d63_69 : pv_dec 63 69 = some (.getfield 44, 3) := pv_dec_of b63 (by decide +kernel)
theorem d63_72 : pv_dec 63 72 = some (.aload_n 0, 1) := pv_dec_of b63 (by decide +kernel)
theorem d63_73 : pv_dec 63 73 = some (.getfield 19, 3) := pv_dec_of b63 (by decide +kernel)
theorem d63_76 : pv_dec 63 76 = some (.invokevirtual 136, 3) := pv_dec_of b63 (by decide +kernel)
theorem d63_79 : pv_dec 63 79 = some (.ifCond .eq 7, 3) := pv_dec_of b63 (by decide +kernel)
theorem d63_82 : pv_dec 63 82 = some (.iconst 1, 1) := pv_dec_of b63 (by decide +kernel)
theorem d63_83 : pv_dec 63 83 = some (.goto 4, 3) := pv_dec_of b63 (by decide +kernel)
theorem d63_86 : pv_dec 63 86 = some (.iconst 0, 1) := pv_dec_of b63 (by decide +kernel)
theorem d63_87 : pv_dec 63 87 = some (.ireturn, 1) := pv_dec_of b63 (by decide +kernel)
theorem d63_88 : pv_dec 63 88 = some (.aload_n 0, 1) := pv_dec_of b63 (by decide +kernel)
theorem d63_89 : pv_dec 63 89 = some (.getfield 44, 3) := pv_dec_of b63 (by decide +kernel)
theorem d63_92 : pv_dec 63 92 = some (.aload_n 0, 1) := pv_dec_of b63 (by decide +kernel)
theorem d63_93 : pv_dec 63 93 = some (.getfield 19, 3) := pv_dec_of b63 (by decide +kernel)
theorem d63_96 : pv_dec 63 96 = some (.invokevirtual 140, 3) := pv_dec_of b63 (by decide +kernel)
theorem d63_99 : pv_dec 63 99 = some (.ireturn, 1) := pv_dec_of b63 (by decide +kernel)
theorem d63_100 : pv_dec 63 100 = some (.aload_n 0, 1) := pv_dec_of b63 (by decide +kernel)
theorem d63_101 : pv_dec 63 101 = some (.getfield 44, 3) := pv_dec_of b63 (by decide +kernel)
theorem d63_104 : pv_dec 63 104 = some (.aload_n 0, 1) := pv_dec_of b63 (by decide +kernel)
theorem d63_105 : pv_dec 63 105 = some (.getfield 19, 3) := pv_dec_of b63 (by decide +kernel)
theorem d63_108 : pv_dec 63 108 = some (.invokevirtual 143, 3) := pv_dec_of b63 (by decide +kernel)
theorem d63_111 : pv_dec 63 111 = some (.ifCond .eq 7, 3) := pv_dec_of b63 (by decide +kernel)
theorem d63_114 : pv_dec 63 114 = some (.iconst 1, 1) := pv_dec_of b63 (by decide +kernel)
theorem d63_115 : pv_dec 63 115 = some (.goto 4, 3) := pv_dec_of b63 (by decide +kernel)
theorem d63_118 : pv_dec 63 118 = some (.iconst 0, 1) := pv_dec_of b63 (by decide +kernel)
theorem d63_119 : pv_dec 63 119 = some (.ireturn, 1) := pv_dec_of b63 (by decide +kernel)
theorem d63_120 : pv_dec 63 120 = some (.aload_n 0, 1) := pv_dec_of b63 (by decide +kernel)
theorem d63_121 : pv_dec 63 121 = some (.getfield 44, 3) := pv_dec_of b63 (by decide +kernel)
theorem d63_124 : pv_dec 63 124 = some (.aload_n 0, 1) := pv_dec_of b63 (by decide +kernel)
theorem d63_125 : pv_dec 63 125 = some (.getfield 19, 3) := pv_dec_of b63 (by decide +kernel)
theorem d63_128 : pv_dec 63 128 = some (.invokevirtual 146, 3) := pv_dec_of b63 (by decide +kernel)
theorem d63_131 : pv_dec 63 131 = some (.ireturn, 1) := pv_dec_of b63 (by decide +kernel)
theorem d63_132 : pv_dec 63 132 = some (.aload_n 0, 1) := pv_dec_of b63 (by decide +kernel)
theorem d63_133 : pv_dec 63 133 = some (.getfield 44, 3) := pv_dec_of b63 (by decide +kernel)
theorem d63_136 : pv_dec 63 136 = some (.aload_n 0, 1) := pv_dec_of b63 (by decide +kernel)
theorem d63_137 : pv_dec 63 137 = some (.getfield 19, 3) := pv_dec_of b63 (by decide +kernel)
theorem d63_140 : pv_dec 63 140 = some (.invokevirtual 136, 3) := pv_dec_of b63 (by decide +kernel)
theorem d63_143 : pv_dec 63 143 = some (.ifCond .eq 17, 3) := pv_dec_of b63 (by decide +kernel)
theorem d63_146 : pv_dec 63 146 = some (.aload_n 0, 1) := pv_dec_of b63 (by decide +kernel)
theorem d63_147 : pv_dec 63 147 = some (.getfield 44, 3) := pv_dec_of b63 (by decide +kernel)
theorem d63_150 : pv_dec 63 150 = some (.aload_n 0, 1) := pv_dec_of b63 (by decide +kernel)
theorem d63_151 : pv_dec 63 151 = some (.getfield 19, 3) := pv_dec_of b63 (by decide +kernel)
theorem d63_154 : pv_dec 63 154 = some (.invokevirtual 149, 3) := pv_dec_of b63 (by decide +kernel)
theorem d63_157 : pv_dec 63 157 = some (.goto 4, 3) := pv_dec_of b63 (by decide +kernel)
theorem d63_160 : pv_dec 63 160 = some (.iconst (-1), 1) := pv_dec_of b63 (by decide +kernel)
theorem d63_161 : pv_dec 63 161 = some (.ireturn, 1) := pv_dec_of b63 (by decide +kernel)
theorem d63_162 : pv_dec 63 162 = some (.aload_n 0, 1) := pv_dec_of b63 (by decide +kernel)
theorem d63_163 : pv_dec 63 163 = some (.getfield 44, 3) := pv_dec_of b63 (by decide +kernel)
theorem d63_166 : pv_dec 63 166 = some (.aload_n 0, 1) := pv_dec_of b63 (by decide +kernel)
theorem d63_167 : pv_dec 63 167 = some (.getfield 19, 3) := pv_dec_of b63 (by decide +kernel)
theorem d63_170 : pv_dec 63 170 = some (.invokevirtual 152, 3) := pv_dec_of b63 (by decide +kernel)
theorem d63_173 : pv_dec 63 173 = some (.ireturn, 1) := pv_dec_of b63 (by decide +kernel)
theorem d63_174 : pv_dec 63 174 = some (.bipush (-2), 2) := pv_dec_of b63 (by decide +kernel)
theorem d63_176 : pv_dec 63 176 = some (.ireturn, 1) := pv_dec_of b63 (by decide +kernel)
theorem g63_19 : pv_gf 63 19 = some (0, 1) := pv_gfo_of o63 G2_19
theorem G2_44 : pv_gfo "AngleNet" 44 = some (0, 6) := by decide +kernel
theorem g63_44 : pv_gf 63 44 = some (0, 6) := pv_gfo_of o63 G2_44
theorem Y2_129 : pv_mlo "AngleNet" 129 = some (⟨"AngleNet$Net", "isThere", "()Z"⟩, none) := by decide +kernel
theorem V64 : pv_cV 64 2 0 1 ⟨"AngleNet$Net", "isThere", "()Z"⟩ = true := by decide +kernel
theorem k63_129 : pv_kV 63 129 64 2 0 1 := pv_kV_of o63 Y2_129 V64 (by decide +kernel)
theorem Y2_132 : pv_mlo "AngleNet" 132 = some (⟨"AngleNet$Shape", "euler", "(LAngleNet$Net;)I"⟩, none) := by decide +kernel
theorem k63_132 : pv_kV 63 132 65 4 1 2 := pv_kV_of o63 Y2_132 V65 (by decide +kernel)
theorem Y2_136 : pv_mlo "AngleNet" 136 = some (⟨"AngleNet$Shape", "isGood", "(LAngleNet$Net;)Z"⟩, none) := by decide +kernel
theorem k63_136 : pv_kV 63 136 69 4 1 3 := pv_kV_of o63 Y2_136 V69 (by decide +kernel)
theorem Y2_140 : pv_mlo "AngleNet" 140 = some (⟨"AngleNet$Shape", "parts", "(LAngleNet$Net;)I"⟩, none) := by decide +kernel
theorem k63_140 : pv_kV 63 140 71 4 1 5 := pv_kV_of o63 Y2_140 V71 (by decide +kernel)
theorem Y2_143 : pv_mlo "AngleNet" 143 = some (⟨"AngleNet$Shape", "isTwoSided", "(LAngleNet$Net;)Z"⟩, none) := by decide +kernel
theorem k63_143 : pv_kV 63 143 73 4 1 3 := pv_kV_of o63 Y2_143 V73 (by decide +kernel)
theorem Y2_146 : pv_mlo "AngleNet" 146 = some (⟨"AngleNet$Shape", "rimSides", "(LAngleNet$Net;)I"⟩, none) := by decide +kernel
theorem k63_146 : pv_kV 63 146 78 4 1 4 := pv_kV_of o63 Y2_146 V78 (by decide +kernel)
theorem Y2_149 : pv_mlo "AngleNet" 149 = some (⟨"AngleNet$Shape", "rings", "(LAngleNet$Net;)I"⟩, none) := by decide +kernel
theorem k63_149 : pv_kV 63 149 81 4 1 5 := pv_kV_of o63 Y2_149 V81 (by decide +kernel)
theorem Y2_152 : pv_mlo "AngleNet" 152 = some (⟨"AngleNet$Shape", "handles", "(LAngleNet$Net;)I"⟩, none) := by decide +kernel
theorem V83 : pv_cV 83 4 1 2 ⟨"AngleNet$Shape", "handles", "(LAngleNet$Net;)I"⟩ = true := by decide +kernel
theorem k63_152 : pv_kV 63 152 83 4 1 2 := pv_kV_of o63 Y2_152 V83 (by decide +kernel)
theorem o84 : pv_own 84 = "AngleNet" := by decide +kernel
theorem b84 : pv_bc 84 = prog_1_method_11_code := pv_bcof (i := 84) rfl
theorem m84 : pv_mL 84 = 3 := by decide +kernel
theorem tt84 : pv_rt 84 = some .int := by decide +kernel
theorem d84_0 : pv_dec 84 0 = some (.aload_n 0, 1) := pv_dec_of b84 (by decide +kernel)
theorem d84_1 : pv_dec 84 1 = some (.getfield 19, 3) := pv_dec_of b84 (by decide +kernel)
theorem d84_4 : pv_dec 84 4 = some (.iload_n 1, 1) := pv_dec_of b84 (by decide +kernel)
theorem d84_5 : pv_dec 84 5 = some (.invokevirtual 101, 3) := pv_dec_of b84 (by decide +kernel)
theorem d84_8 : pv_dec 84 8 = some (.ifCond .ne 6, 3) := pv_dec_of b84 (by decide +kernel)
theorem d84_11 : pv_dec 84 11 = some (.bipush (-2), 2) := pv_dec_of b84 (by decide +kernel)
theorem d84_13 : pv_dec 84 13 = some (.ireturn, 1) := pv_dec_of b84 (by decide +kernel)
theorem d84_14 : pv_dec 84 14 = some (.aload_n 0, 1) := pv_dec_of b84 (by decide +kernel)
theorem d84_15 : pv_dec 84 15 = some (.getfield 44, 3) := pv_dec_of b84 (by decide +kernel)
theorem d84_18 : pv_dec 84 18 = some (.aload_n 0, 1) := pv_dec_of b84 (by decide +kernel)
theorem d84_19 : pv_dec 84 19 = some (.getfield 19, 3) := pv_dec_of b84 (by decide +kernel)
theorem d84_22 : pv_dec 84 22 = some (.invokevirtual 136, 3) := pv_dec_of b84 (by decide +kernel)
theorem d84_25 : pv_dec 84 25 = some (.ifCond .ne 5, 3) := pv_dec_of b84 (by decide +kernel)
theorem d84_28 : pv_dec 84 28 = some (.iconst (-1), 1) := pv_dec_of b84 (by decide +kernel)
theorem d84_29 : pv_dec 84 29 = some (.ireturn, 1) := pv_dec_of b84 (by decide +kernel)
theorem d84_30 : pv_dec 84 30 = some (.aload_n 0, 1) := pv_dec_of b84 (by decide +kernel)
theorem d84_31 : pv_dec 84 31 = some (.getfield 44, 3) := pv_dec_of b84 (by decide +kernel)
theorem d84_34 : pv_dec 84 34 = some (.aload_n 0, 1) := pv_dec_of b84 (by decide +kernel)
theorem d84_35 : pv_dec 84 35 = some (.getfield 19, 3) := pv_dec_of b84 (by decide +kernel)
theorem d84_38 : pv_dec 84 38 = some (.iload_n 1, 1) := pv_dec_of b84 (by decide +kernel)
theorem d84_39 : pv_dec 84 39 = some (.iload_n 2, 1) := pv_dec_of b84 (by decide +kernel)
theorem d84_40 : pv_dec 84 40 = some (.invokevirtual 155, 3) := pv_dec_of b84 (by decide +kernel)
theorem d84_43 : pv_dec 84 43 = some (.ireturn, 1) := pv_dec_of b84 (by decide +kernel)
theorem g84_19 : pv_gf 84 19 = some (0, 1) := pv_gfo_of o84 G2_19
theorem g84_44 : pv_gf 84 44 = some (0, 6) := pv_gfo_of o84 G2_44
theorem k84_101 : pv_kV 84 101 48 2 1 2 := pv_kV_of o84 Y2_101 V48 (by decide +kernel)
theorem k84_136 : pv_kV 84 136 69 4 1 3 := pv_kV_of o84 Y2_136 V69 (by decide +kernel)
theorem Y2_155 : pv_mlo "AngleNet" 155 = some (⟨"AngleNet$Shape", "beside", "(LAngleNet$Net;II)I"⟩, none) := by decide +kernel
theorem V85 : pv_cV 85 4 3 10 ⟨"AngleNet$Shape", "beside", "(LAngleNet$Net;II)I"⟩ = true := by decide +kernel
theorem k84_155 : pv_kV 84 155 85 4 3 10 := pv_kV_of o84 Y2_155 V85 (by decide +kernel)
theorem o91 : pv_own 91 = "AngleNet" := by decide +kernel
theorem b91 : pv_bc 91 = prog_1_method_12_code := pv_bcof (i := 91) rfl
theorem m91 : pv_mL 91 = 3 := by decide +kernel
theorem tt91 : pv_rt 91 = some .int := by decide +kernel
theorem d91_0 : pv_dec 91 0 = some (.aload_n 0, 1) := pv_dec_of b91 (by decide +kernel)
theorem d91_1 : pv_dec 91 1 = some (.getfield 19, 3) := pv_dec_of b91 (by decide +kernel)
theorem d91_4 : pv_dec 91 4 = some (.invokevirtual 129, 3) := pv_dec_of b91 (by decide +kernel)
theorem d91_7 : pv_dec 91 7 = some (.ifCond .ne 6, 3) := pv_dec_of b91 (by decide +kernel)
theorem d91_10 : pv_dec 91 10 = some (.ldc 159, 2) := pv_dec_of b91 (by decide +kernel)
theorem KC2_159 : pv_kco "AngleNet" 159 = some (pv_I (-1000000)) := by decide +kernel
theorem n91_10 : pv_kc 91 159 = some (pv_I (-1000000)) := by rw [pv_kc, o91]; exact KC2_159
theorem d91_12 : pv_dec 91 12 = some (.ireturn, 1) := pv_dec_of b91 (by decide +kernel)
theorem d91_13 : pv_dec 91 13 = some (.iconst 0, 1) := pv_dec_of b91 (by decide +kernel)
theorem d91_14 : pv_dec 91 14 = some (.istore_n 1, 1) := pv_dec_of b91 (by decide +kernel)
theorem d91_15 : pv_dec 91 15 = some (.iconst 0, 1) := pv_dec_of b91 (by decide +kernel)
theorem d91_16 : pv_dec 91 16 = some (.istore_n 2, 1) := pv_dec_of b91 (by decide +kernel)
theorem d91_17 : pv_dec 91 17 = some (.iload_n 2, 1) := pv_dec_of b91 (by decide +kernel)
theorem d91_18 : pv_dec 91 18 = some (.aload_n 0, 1) := pv_dec_of b91 (by decide +kernel)
theorem d91_19 : pv_dec 91 19 = some (.getfield 19, 3) := pv_dec_of b91 (by decide +kernel)
theorem d91_22 : pv_dec 91 22 = some (.getfield 160, 3) := pv_dec_of b91 (by decide +kernel)
theorem d91_25 : pv_dec 91 25 = some (.if_icmp .ge 51, 3) := pv_dec_of b91 (by decide +kernel)
theorem d91_28 : pv_dec 91 28 = some (.aload_n 0, 1) := pv_dec_of b91 (by decide +kernel)
theorem d91_29 : pv_dec 91 29 = some (.getfield 19, 3) := pv_dec_of b91 (by decide +kernel)
theorem d91_32 : pv_dec 91 32 = some (.getfield 104, 3) := pv_dec_of b91 (by decide +kernel)
theorem d91_35 : pv_dec 91 35 = some (.iload_n 2, 1) := pv_dec_of b91 (by decide +kernel)
theorem d91_36 : pv_dec 91 36 = some (.iaload, 1) := pv_dec_of b91 (by decide +kernel)
theorem d91_37 : pv_dec 91 37 = some (.iconst (-1), 1) := pv_dec_of b91 (by decide +kernel)
theorem d91_38 : pv_dec 91 38 = some (.if_icmp .eq 18, 3) := pv_dec_of b91 (by decide +kernel)
theorem d91_41 : pv_dec 91 41 = some (.iload_n 1, 1) := pv_dec_of b91 (by decide +kernel)
theorem d91_42 : pv_dec 91 42 = some (.aload_n 0, 1) := pv_dec_of b91 (by decide +kernel)
theorem d91_43 : pv_dec 91 43 = some (.getfield 19, 3) := pv_dec_of b91 (by decide +kernel)
theorem d91_46 : pv_dec 91 46 = some (.getfield 104, 3) := pv_dec_of b91 (by decide +kernel)
theorem d91_49 : pv_dec 91 49 = some (.iload_n 2, 1) := pv_dec_of b91 (by decide +kernel)
theorem d91_50 : pv_dec 91 50 = some (.iaload, 1) := pv_dec_of b91 (by decide +kernel)
theorem d91_51 : pv_dec 91 51 = some (.iadd, 1) := pv_dec_of b91 (by decide +kernel)
theorem d91_52 : pv_dec 91 52 = some (.istore_n 1, 1) := pv_dec_of b91 (by decide +kernel)
theorem d91_53 : pv_dec 91 53 = some (.goto 17, 3) := pv_dec_of b91 (by decide +kernel)
theorem d91_56 : pv_dec 91 56 = some (.aload_n 0, 1) := pv_dec_of b91 (by decide +kernel)
theorem d91_57 : pv_dec 91 57 = some (.getfield 19, 3) := pv_dec_of b91 (by decide +kernel)
theorem d91_60 : pv_dec 91 60 = some (.iload_n 2, 1) := pv_dec_of b91 (by decide +kernel)
theorem d91_61 : pv_dec 91 61 = some (.invokevirtual 116, 3) := pv_dec_of b91 (by decide +kernel)
theorem d91_64 : pv_dec 91 64 = some (.ifCond .le 6, 3) := pv_dec_of b91 (by decide +kernel)
theorem d91_67 : pv_dec 91 67 = some (.ldc 159, 2) := pv_dec_of b91 (by decide +kernel)
theorem n91_67 : pv_kc 91 159 = some (pv_I (-1000000)) := by rw [pv_kc, o91]; exact KC2_159
theorem d91_69 : pv_dec 91 69 = some (.ireturn, 1) := pv_dec_of b91 (by decide +kernel)
theorem d91_70 : pv_dec 91 70 = some (.iinc 2 1, 3) := pv_dec_of b91 (by decide +kernel)
theorem d91_73 : pv_dec 91 73 = some (.goto (-56), 3) := pv_dec_of b91 (by decide +kernel)
theorem d91_76 : pv_dec 91 76 = some (.iconst 0, 1) := pv_dec_of b91 (by decide +kernel)
theorem d91_77 : pv_dec 91 77 = some (.istore_n 2, 1) := pv_dec_of b91 (by decide +kernel)
theorem d91_78 : pv_dec 91 78 = some (.iload_n 2, 1) := pv_dec_of b91 (by decide +kernel)
theorem d91_79 : pv_dec 91 79 = some (.aload_n 0, 1) := pv_dec_of b91 (by decide +kernel)
theorem d91_80 : pv_dec 91 80 = some (.getfield 19, 3) := pv_dec_of b91 (by decide +kernel)
theorem d91_83 : pv_dec 91 83 = some (.getfield 163, 3) := pv_dec_of b91 (by decide +kernel)
theorem d91_86 : pv_dec 91 86 = some (.if_icmp .ge 21, 3) := pv_dec_of b91 (by decide +kernel)
theorem d91_89 : pv_dec 91 89 = some (.iload_n 1, 1) := pv_dec_of b91 (by decide +kernel)
theorem d91_90 : pv_dec 91 90 = some (.aload_n 0, 1) := pv_dec_of b91 (by decide +kernel)
theorem d91_91 : pv_dec 91 91 = some (.getfield 19, 3) := pv_dec_of b91 (by decide +kernel)
theorem d91_94 : pv_dec 91 94 = some (.getfield 94, 3) := pv_dec_of b91 (by decide +kernel)
theorem d91_97 : pv_dec 91 97 = some (.iload_n 2, 1) := pv_dec_of b91 (by decide +kernel)
theorem d91_98 : pv_dec 91 98 = some (.iaload, 1) := pv_dec_of b91 (by decide +kernel)
theorem d91_99 : pv_dec 91 99 = some (.isub, 1) := pv_dec_of b91 (by decide +kernel)
theorem d91_100 : pv_dec 91 100 = some (.istore_n 1, 1) := pv_dec_of b91 (by decide +kernel)
theorem d91_101 : pv_dec 91 101 = some (.iinc 2 1, 3) := pv_dec_of b91 (by decide +kernel)
theorem d91_104 : pv_dec 91 104 = some (.goto (-26), 3) := pv_dec_of b91 (by decide +kernel)
theorem d91_107 : pv_dec 91 107 = some (.iload_n 1, 1) := pv_dec_of b91 (by decide +kernel)
theorem d91_108 : pv_dec 91 108 = some (.ireturn, 1) := pv_dec_of b91 (by decide +kernel)
theorem g91_19 : pv_gf 91 19 = some (0, 1) := pv_gfo_of o91 G2_19
theorem g91_94 : pv_gf 91 94 = some (2, 6) := pv_gfo_of o91 G2_94
theorem g91_104 : pv_gf 91 104 = some (2, 7) := pv_gfo_of o91 G2_104
theorem G2_160 : pv_gfo "AngleNet" 160 = some (2, 0) := by decide +kernel
theorem g91_160 : pv_gf 91 160 = some (2, 0) := pv_gfo_of o91 G2_160
theorem G2_163 : pv_gfo "AngleNet" 163 = some (2, 1) := by decide +kernel
theorem g91_163 : pv_gf 91 163 = some (2, 1) := pv_gfo_of o91 G2_163
theorem k91_116 : pv_kV 91 116 57 2 1 4 := pv_kV_of o91 Y2_116 V57 (by decide +kernel)
theorem k91_129 : pv_kV 91 129 64 2 0 1 := pv_kV_of o91 Y2_129 V64 (by decide +kernel)
theorem o92 : pv_own 92 = "AngleNet" := by decide +kernel
theorem b92 : pv_bc 92 = prog_1_method_13_code := pv_bcof (i := 92) rfl
theorem m92 : pv_mL 92 = 1 := by decide +kernel
theorem tt92 : pv_rt 92 = some .int := by decide +kernel
theorem d92_0 : pv_dec 92 0 = some (.aload_n 0, 1) := pv_dec_of b92 (by decide +kernel)
theorem d92_1 : pv_dec 92 1 = some (.getfield 19, 3) := pv_dec_of b92 (by decide +kernel)
theorem d92_4 : pv_dec 92 4 = some (.invokevirtual 129, 3) := pv_dec_of b92 (by decide +kernel)
theorem d92_7 : pv_dec 92 7 = some (.ifCond .ne 6, 3) := pv_dec_of b92 (by decide +kernel)
theorem d92_10 : pv_dec 92 10 = some (.bipush (-2), 2) := pv_dec_of b92 (by decide +kernel)
theorem d92_12 : pv_dec 92 12 = some (.ireturn, 1) := pv_dec_of b92 (by decide +kernel)
theorem d92_13 : pv_dec 92 13 = some (.aload_n 0, 1) := pv_dec_of b92 (by decide +kernel)
theorem d92_14 : pv_dec 92 14 = some (.getfield 51, 3) := pv_dec_of b92 (by decide +kernel)
theorem d92_17 : pv_dec 92 17 = some (.aload_n 0, 1) := pv_dec_of b92 (by decide +kernel)
theorem d92_18 : pv_dec 92 18 = some (.getfield 19, 3) := pv_dec_of b92 (by decide +kernel)
theorem d92_21 : pv_dec 92 21 = some (.invokevirtual 166, 3) := pv_dec_of b92 (by decide +kernel)
theorem d92_24 : pv_dec 92 24 = some (.iconst (-1), 1) := pv_dec_of b92 (by decide +kernel)
theorem d92_25 : pv_dec 92 25 = some (.if_icmp .ne 7, 3) := pv_dec_of b92 (by decide +kernel)
theorem d92_28 : pv_dec 92 28 = some (.iconst 1, 1) := pv_dec_of b92 (by decide +kernel)
theorem d92_29 : pv_dec 92 29 = some (.goto 4, 3) := pv_dec_of b92 (by decide +kernel)
theorem d92_32 : pv_dec 92 32 = some (.iconst 0, 1) := pv_dec_of b92 (by decide +kernel)
theorem d92_33 : pv_dec 92 33 = some (.ireturn, 1) := pv_dec_of b92 (by decide +kernel)
theorem g92_19 : pv_gf 92 19 = some (0, 1) := pv_gfo_of o92 G2_19
theorem G2_51 : pv_gfo "AngleNet" 51 = some (0, 7) := by decide +kernel
theorem g92_51 : pv_gf 92 51 = some (0, 7) := pv_gfo_of o92 G2_51
theorem k92_129 : pv_kV 92 129 64 2 0 1 := pv_kV_of o92 Y2_129 V64 (by decide +kernel)
theorem Y2_166 : pv_mlo "AngleNet" 166 = some (⟨"AngleNet$Laying", "barring", "(LAngleNet$Net;)I"⟩, none) := by decide +kernel
theorem V93 : pv_cV 93 5 1 5 ⟨"AngleNet$Laying", "barring", "(LAngleNet$Net;)I"⟩ = true := by decide +kernel
theorem k92_166 : pv_kV 92 166 93 5 1 5 := pv_kV_of o92 Y2_166 V93 (by decide +kernel)
theorem o103 : pv_own 103 = "AngleNet" := by decide +kernel
theorem b103 : pv_bc 103 = prog_1_method_14_code := pv_bcof (i := 103) rfl
theorem m103 : pv_mL 103 = 3 := by decide +kernel
theorem tt103 : pv_rt 103 = some .int := by decide +kernel
theorem d103_0 : pv_dec 103 0 = some (.aload_n 0, 1) := pv_dec_of b103 (by decide +kernel)
theorem d103_1 : pv_dec 103 1 = some (.getfield 19, 3) := pv_dec_of b103 (by decide +kernel)
theorem d103_4 : pv_dec 103 4 = some (.invokevirtual 129, 3) := pv_dec_of b103 (by decide +kernel)
theorem d103_7 : pv_dec 103 7 = some (.ifCond .eq 12, 3) := pv_dec_of b103 (by decide +kernel)
theorem d103_10 : pv_dec 103 10 = some (.iload_n 1, 1) := pv_dec_of b103 (by decide +kernel)
theorem d103_11 : pv_dec 103 11 = some (.ifCond .lt 8, 3) := pv_dec_of b103 (by decide +kernel)
theorem d103_14 : pv_dec 103 14 = some (.iload_n 1, 1) := pv_dec_of b103 (by decide +kernel)
theorem d103_15 : pv_dec 103 15 = some (.iconst 1, 1) := pv_dec_of b103 (by decide +kernel)
theorem d103_16 : pv_dec 103 16 = some (.if_icmp .le 6, 3) := pv_dec_of b103 (by decide +kernel)
theorem d103_19 : pv_dec 103 19 = some (.bipush (-2), 2) := pv_dec_of b103 (by decide +kernel)
theorem d103_21 : pv_dec 103 21 = some (.ireturn, 1) := pv_dec_of b103 (by decide +kernel)
theorem d103_22 : pv_dec 103 22 = some (.aload_n 0, 1) := pv_dec_of b103 (by decide +kernel)
theorem d103_23 : pv_dec 103 23 = some (.getfield 51, 3) := pv_dec_of b103 (by decide +kernel)
theorem d103_26 : pv_dec 103 26 = some (.aload_n 0, 1) := pv_dec_of b103 (by decide +kernel)
theorem d103_27 : pv_dec 103 27 = some (.getfield 19, 3) := pv_dec_of b103 (by decide +kernel)
theorem d103_30 : pv_dec 103 30 = some (.invokevirtual 166, 3) := pv_dec_of b103 (by decide +kernel)
theorem d103_33 : pv_dec 103 33 = some (.istore_n 2, 1) := pv_dec_of b103 (by decide +kernel)
theorem d103_34 : pv_dec 103 34 = some (.iload_n 2, 1) := pv_dec_of b103 (by decide +kernel)
theorem d103_35 : pv_dec 103 35 = some (.iconst (-1), 1) := pv_dec_of b103 (by decide +kernel)
theorem d103_36 : pv_dec 103 36 = some (.if_icmp .ne 5, 3) := pv_dec_of b103 (by decide +kernel)
theorem d103_39 : pv_dec 103 39 = some (.iconst (-1), 1) := pv_dec_of b103 (by decide +kernel)
theorem d103_40 : pv_dec 103 40 = some (.ireturn, 1) := pv_dec_of b103 (by decide +kernel)
theorem d103_41 : pv_dec 103 41 = some (.iload_n 1, 1) := pv_dec_of b103 (by decide +kernel)
theorem d103_42 : pv_dec 103 42 = some (.ifCond .ne 10, 3) := pv_dec_of b103 (by decide +kernel)
theorem d103_45 : pv_dec 103 45 = some (.iload_n 2, 1) := pv_dec_of b103 (by decide +kernel)
theorem d103_46 : pv_dec 103 46 = some (.bipush 10, 2) := pv_dec_of b103 (by decide +kernel)
theorem d103_48 : pv_dec 103 48 = some (.idiv, 1) := pv_dec_of b103 (by decide +kernel)
theorem d103_49 : pv_dec 103 49 = some (.goto 7, 3) := pv_dec_of b103 (by decide +kernel)
theorem d103_52 : pv_dec 103 52 = some (.iload_n 2, 1) := pv_dec_of b103 (by decide +kernel)
theorem d103_53 : pv_dec 103 53 = some (.bipush 10, 2) := pv_dec_of b103 (by decide +kernel)
theorem d103_55 : pv_dec 103 55 = some (.irem, 1) := pv_dec_of b103 (by decide +kernel)
theorem d103_56 : pv_dec 103 56 = some (.ireturn, 1) := pv_dec_of b103 (by decide +kernel)
theorem g103_19 : pv_gf 103 19 = some (0, 1) := pv_gfo_of o103 G2_19
theorem g103_51 : pv_gf 103 51 = some (0, 7) := pv_gfo_of o103 G2_51
theorem k103_129 : pv_kV 103 129 64 2 0 1 := pv_kV_of o103 Y2_129 V64 (by decide +kernel)
theorem k103_166 : pv_kV 103 166 93 5 1 5 := pv_kV_of o103 Y2_166 V93 (by decide +kernel)
theorem o104 : pv_own 104 = "AngleNet" := by decide +kernel
theorem b104 : pv_bc 104 = prog_1_method_15_code := pv_bcof (i := 104) rfl
theorem m104 : pv_mL 104 = 4 := by decide +kernel
theorem tt104 : pv_rt 104 = some .int := by decide +kernel
theorem d104_0 : pv_dec 104 0 = some (.aload_n 0, 1) := pv_dec_of b104 (by decide +kernel)
theorem d104_1 : pv_dec 104 1 = some (.getfield 19, 3) := pv_dec_of b104 (by decide +kernel)
theorem d104_4 : pv_dec 104 4 = some (.iload_n 1, 1) := pv_dec_of b104 (by decide +kernel)
theorem d104_5 : pv_dec 104 5 = some (.invokevirtual 90, 3) := pv_dec_of b104 (by decide +kernel)
theorem d104_8 : pv_dec 104 8 = some (.ifCond .eq 21, 3) := pv_dec_of b104 (by decide +kernel)
theorem d104_11 : pv_dec 104 11 = some (.iload_n 2, 1) := pv_dec_of b104 (by decide +kernel)
theorem d104_12 : pv_dec 104 12 = some (.ifCond .lt 17, 3) := pv_dec_of b104 (by decide +kernel)
theorem d104_15 : pv_dec 104 15 = some (.iload_n 2, 1) := pv_dec_of b104 (by decide +kernel)
theorem d104_16 : pv_dec 104 16 = some (.iconst 2, 1) := pv_dec_of b104 (by decide +kernel)
theorem d104_17 : pv_dec 104 17 = some (.if_icmp .gt 12, 3) := pv_dec_of b104 (by decide +kernel)
theorem d104_20 : pv_dec 104 20 = some (.iload_n 3, 1) := pv_dec_of b104 (by decide +kernel)
theorem d104_21 : pv_dec 104 21 = some (.ifCond .lt 8, 3) := pv_dec_of b104 (by decide +kernel)
theorem d104_24 : pv_dec 104 24 = some (.iload_n 3, 1) := pv_dec_of b104 (by decide +kernel)
theorem d104_25 : pv_dec 104 25 = some (.iconst 1, 1) := pv_dec_of b104 (by decide +kernel)
theorem d104_26 : pv_dec 104 26 = some (.if_icmp .le 6, 3) := pv_dec_of b104 (by decide +kernel)
theorem d104_29 : pv_dec 104 29 = some (.bipush (-2), 2) := pv_dec_of b104 (by decide +kernel)
theorem d104_31 : pv_dec 104 31 = some (.ireturn, 1) := pv_dec_of b104 (by decide +kernel)
theorem d104_32 : pv_dec 104 32 = some (.aload_n 0, 1) := pv_dec_of b104 (by decide +kernel)
theorem d104_33 : pv_dec 104 33 = some (.getfield 51, 3) := pv_dec_of b104 (by decide +kernel)
theorem d104_36 : pv_dec 104 36 = some (.aload_n 0, 1) := pv_dec_of b104 (by decide +kernel)
theorem d104_37 : pv_dec 104 37 = some (.getfield 19, 3) := pv_dec_of b104 (by decide +kernel)
theorem d104_40 : pv_dec 104 40 = some (.iload_n 1, 1) := pv_dec_of b104 (by decide +kernel)
theorem d104_41 : pv_dec 104 41 = some (.aload_n 0, 1) := pv_dec_of b104 (by decide +kernel)
theorem d104_42 : pv_dec 104 42 = some (.getfield 19, 3) := pv_dec_of b104 (by decide +kernel)
theorem d104_45 : pv_dec 104 45 = some (.getfield 98, 3) := pv_dec_of b104 (by decide +kernel)
theorem d104_48 : pv_dec 104 48 = some (.iconst 3, 1) := pv_dec_of b104 (by decide +kernel)
theorem d104_49 : pv_dec 104 49 = some (.iload_n 1, 1) := pv_dec_of b104 (by decide +kernel)
theorem d104_50 : pv_dec 104 50 = some (.imul, 1) := pv_dec_of b104 (by decide +kernel)
theorem d104_51 : pv_dec 104 51 = some (.iload_n 2, 1) := pv_dec_of b104 (by decide +kernel)
theorem d104_52 : pv_dec 104 52 = some (.iadd, 1) := pv_dec_of b104 (by decide +kernel)
theorem d104_53 : pv_dec 104 53 = some (.iaload, 1) := pv_dec_of b104 (by decide +kernel)
theorem d104_54 : pv_dec 104 54 = some (.iload_n 3, 1) := pv_dec_of b104 (by decide +kernel)
theorem d104_55 : pv_dec 104 55 = some (.iconst 1, 1) := pv_dec_of b104 (by decide +kernel)
theorem d104_56 : pv_dec 104 56 = some (.if_icmp .ne 7, 3) := pv_dec_of b104 (by decide +kernel)
theorem d104_59 : pv_dec 104 59 = some (.iconst 1, 1) := pv_dec_of b104 (by decide +kernel)
theorem d104_60 : pv_dec 104 60 = some (.goto 4, 3) := pv_dec_of b104 (by decide +kernel)
theorem d104_63 : pv_dec 104 63 = some (.iconst 0, 1) := pv_dec_of b104 (by decide +kernel)
theorem d104_64 : pv_dec 104 64 = some (.invokevirtual 169, 3) := pv_dec_of b104 (by decide +kernel)
theorem d104_67 : pv_dec 104 67 = some (.ireturn, 1) := pv_dec_of b104 (by decide +kernel)
theorem g104_19 : pv_gf 104 19 = some (0, 1) := pv_gfo_of o104 G2_19
theorem g104_51 : pv_gf 104 51 = some (0, 7) := pv_gfo_of o104 G2_51
theorem g104_98 : pv_gf 104 98 = some (2, 5) := pv_gfo_of o104 G2_98
theorem Y2_169 : pv_mlo "AngleNet" 169 = some (⟨"AngleNet$Laying", "cornerBound", "(LAngleNet$Net;IIZ)I"⟩, none) := by decide +kernel
theorem V105 : pv_cV 105 5 4 8 ⟨"AngleNet$Laying", "cornerBound", "(LAngleNet$Net;IIZ)I"⟩ = true := by decide +kernel
theorem k104_169 : pv_kV 104 169 105 5 4 8 := pv_kV_of o104 Y2_169 V105 (by decide +kernel)
theorem k104_90 : pv_kV 104 90 55 2 1 2 := pv_kV_of o104 Y2_90 V55 (by decide +kernel)
theorem o108 : pv_own 108 = "AngleNet" := by decide +kernel
theorem b108 : pv_bc 108 = prog_1_method_16_code := pv_bcof (i := 108) rfl
theorem m108 : pv_mL 108 = 4 := by decide +kernel
theorem tt108 : pv_rt 108 = some .int := by decide +kernel
theorem d108_0 : pv_dec 108 0 = some (.aload_n 0, 1) := pv_dec_of b108 (by decide +kernel)
theorem d108_1 : pv_dec 108 1 = some (.getfield 19, 3) := pv_dec_of b108 (by decide +kernel)
theorem d108_4 : pv_dec 108 4 = some (.iload_n 1, 1) := pv_dec_of b108 (by decide +kernel)
theorem d108_5 : pv_dec 108 5 = some (.invokevirtual 101, 3) := pv_dec_of b108 (by decide +kernel)
theorem d108_8 : pv_dec 108 8 = some (.ifCond .eq 14, 3) := pv_dec_of b108 (by decide +kernel)
theorem d108_11 : pv_dec 108 11 = some (.iload_n 2, 1) := pv_dec_of b108 (by decide +kernel)
theorem d108_12 : pv_dec 108 12 = some (.ifCond .lt 10, 3) := pv_dec_of b108 (by decide +kernel)
theorem d108_15 : pv_dec 108 15 = some (.iload_n 2, 1) := pv_dec_of b108 (by decide +kernel)
theorem d108_16 : pv_dec 108 16 = some (.sipush 3600, 3) := pv_dec_of b108 (by decide +kernel)
theorem d108_19 : pv_dec 108 19 = some (.if_icmp .le 6, 3) := pv_dec_of b108 (by decide +kernel)
theorem d108_22 : pv_dec 108 22 = some (.bipush (-2), 2) := pv_dec_of b108 (by decide +kernel)
theorem d108_24 : pv_dec 108 24 = some (.ireturn, 1) := pv_dec_of b108 (by decide +kernel)
theorem d108_25 : pv_dec 108 25 = some (.aload_n 0, 1) := pv_dec_of b108 (by decide +kernel)
theorem d108_26 : pv_dec 108 26 = some (.getfield 19, 3) := pv_dec_of b108 (by decide +kernel)
theorem d108_29 : pv_dec 108 29 = some (.getfield 104, 3) := pv_dec_of b108 (by decide +kernel)
theorem d108_32 : pv_dec 108 32 = some (.iload_n 1, 1) := pv_dec_of b108 (by decide +kernel)
theorem d108_33 : pv_dec 108 33 = some (.iaload, 1) := pv_dec_of b108 (by decide +kernel)
theorem d108_34 : pv_dec 108 34 = some (.istore_n 3, 1) := pv_dec_of b108 (by decide +kernel)
theorem d108_35 : pv_dec 108 35 = some (.aload_n 0, 1) := pv_dec_of b108 (by decide +kernel)
theorem d108_36 : pv_dec 108 36 = some (.getfield 19, 3) := pv_dec_of b108 (by decide +kernel)
theorem d108_39 : pv_dec 108 39 = some (.getfield 104, 3) := pv_dec_of b108 (by decide +kernel)
theorem d108_42 : pv_dec 108 42 = some (.iload_n 1, 1) := pv_dec_of b108 (by decide +kernel)
theorem d108_43 : pv_dec 108 43 = some (.iload_n 2, 1) := pv_dec_of b108 (by decide +kernel)
theorem d108_44 : pv_dec 108 44 = some (.ifCond .ne 7, 3) := pv_dec_of b108 (by decide +kernel)
theorem d108_47 : pv_dec 108 47 = some (.iconst (-1), 1) := pv_dec_of b108 (by decide +kernel)
theorem d108_48 : pv_dec 108 48 = some (.goto 4, 3) := pv_dec_of b108 (by decide +kernel)
theorem d108_51 : pv_dec 108 51 = some (.iload_n 2, 1) := pv_dec_of b108 (by decide +kernel)
theorem d108_52 : pv_dec 108 52 = some (.iastore, 1) := pv_dec_of b108 (by decide +kernel)
theorem d108_53 : pv_dec 108 53 = some (.iload_n 3, 1) := pv_dec_of b108 (by decide +kernel)
theorem d108_54 : pv_dec 108 54 = some (.ireturn, 1) := pv_dec_of b108 (by decide +kernel)
theorem g108_19 : pv_gf 108 19 = some (0, 1) := pv_gfo_of o108 G2_19
theorem g108_104 : pv_gf 108 104 = some (2, 7) := pv_gfo_of o108 G2_104
theorem k108_101 : pv_kV 108 101 48 2 1 2 := pv_kV_of o108 Y2_101 V48 (by decide +kernel)
theorem o109 : pv_own 109 = "AngleNet" := by decide +kernel
theorem b109 : pv_bc 109 = prog_1_method_17_code := pv_bcof (i := 109) rfl
theorem m109 : pv_mL 109 = 3 := by decide +kernel
theorem tt109 : pv_rt 109 = some .int := by decide +kernel
theorem d109_0 : pv_dec 109 0 = some (.aload_n 0, 1) := pv_dec_of b109 (by decide +kernel)
theorem d109_1 : pv_dec 109 1 = some (.getfield 19, 3) := pv_dec_of b109 (by decide +kernel)
theorem d109_4 : pv_dec 109 4 = some (.iload_n 1, 1) := pv_dec_of b109 (by decide +kernel)
theorem d109_5 : pv_dec 109 5 = some (.invokevirtual 101, 3) := pv_dec_of b109 (by decide +kernel)
theorem d109_8 : pv_dec 109 8 = some (.ifCond .eq 23, 3) := pv_dec_of b109 (by decide +kernel)
theorem d109_11 : pv_dec 109 11 = some (.iload_n 2, 1) := pv_dec_of b109 (by decide +kernel)
theorem d109_12 : pv_dec 109 12 = some (.ifCond .lt 19, 3) := pv_dec_of b109 (by decide +kernel)
theorem d109_15 : pv_dec 109 15 = some (.iload_n 2, 1) := pv_dec_of b109 (by decide +kernel)
theorem d109_16 : pv_dec 109 16 = some (.iconst 1, 1) := pv_dec_of b109 (by decide +kernel)
theorem d109_17 : pv_dec 109 17 = some (.if_icmp .gt 14, 3) := pv_dec_of b109 (by decide +kernel)
theorem d109_20 : pv_dec 109 20 = some (.aload_n 0, 1) := pv_dec_of b109 (by decide +kernel)
theorem d109_21 : pv_dec 109 21 = some (.getfield 19, 3) := pv_dec_of b109 (by decide +kernel)
theorem d109_24 : pv_dec 109 24 = some (.iload_n 1, 1) := pv_dec_of b109 (by decide +kernel)
theorem d109_25 : pv_dec 109 25 = some (.invokevirtual 116, 3) := pv_dec_of b109 (by decide +kernel)
theorem d109_28 : pv_dec 109 28 = some (.ifCond .ne 6, 3) := pv_dec_of b109 (by decide +kernel)
theorem d109_31 : pv_dec 109 31 = some (.bipush (-2), 2) := pv_dec_of b109 (by decide +kernel)
theorem d109_33 : pv_dec 109 33 = some (.ireturn, 1) := pv_dec_of b109 (by decide +kernel)
theorem d109_34 : pv_dec 109 34 = some (.aload_n 0, 1) := pv_dec_of b109 (by decide +kernel)
theorem d109_35 : pv_dec 109 35 = some (.getfield 51, 3) := pv_dec_of b109 (by decide +kernel)
theorem d109_38 : pv_dec 109 38 = some (.aload_n 0, 1) := pv_dec_of b109 (by decide +kernel)
theorem d109_39 : pv_dec 109 39 = some (.getfield 19, 3) := pv_dec_of b109 (by decide +kernel)
theorem d109_42 : pv_dec 109 42 = some (.iload_n 1, 1) := pv_dec_of b109 (by decide +kernel)
theorem d109_43 : pv_dec 109 43 = some (.iload_n 2, 1) := pv_dec_of b109 (by decide +kernel)
theorem d109_44 : pv_dec 109 44 = some (.iconst 1, 1) := pv_dec_of b109 (by decide +kernel)
theorem d109_45 : pv_dec 109 45 = some (.if_icmp .ne 7, 3) := pv_dec_of b109 (by decide +kernel)
theorem d109_48 : pv_dec 109 48 = some (.iconst 1, 1) := pv_dec_of b109 (by decide +kernel)
theorem d109_49 : pv_dec 109 49 = some (.goto 4, 3) := pv_dec_of b109 (by decide +kernel)
theorem d109_52 : pv_dec 109 52 = some (.iconst 0, 1) := pv_dec_of b109 (by decide +kernel)
theorem d109_53 : pv_dec 109 53 = some (.invokevirtual 173, 3) := pv_dec_of b109 (by decide +kernel)
theorem d109_56 : pv_dec 109 56 = some (.ireturn, 1) := pv_dec_of b109 (by decide +kernel)
theorem g109_19 : pv_gf 109 19 = some (0, 1) := pv_gfo_of o109 G2_19
theorem g109_51 : pv_gf 109 51 = some (0, 7) := pv_gfo_of o109 G2_51
theorem k109_101 : pv_kV 109 101 48 2 1 2 := pv_kV_of o109 Y2_101 V48 (by decide +kernel)
theorem k109_116 : pv_kV 109 116 57 2 1 4 := pv_kV_of o109 Y2_116 V57 (by decide +kernel)
theorem Y2_173 : pv_mlo "AngleNet" 173 = some (⟨"AngleNet$Laying", "angleBound", "(LAngleNet$Net;IZ)I"⟩, none) := by decide +kernel
theorem V110 : pv_cV 110 5 3 8 ⟨"AngleNet$Laying", "angleBound", "(LAngleNet$Net;IZ)I"⟩ = true := by decide +kernel
theorem k109_173 : pv_kV 109 173 110 5 3 8 := pv_kV_of o109 Y2_173 V110 (by decide +kernel)
theorem o111 : pv_own 111 = "AngleNet" := by decide +kernel
theorem b111 : pv_bc 111 = prog_1_method_18_code := pv_bcof (i := 111) rfl
theorem m111 : pv_mL 111 = 4 := by decide +kernel
theorem tt111 : pv_rt 111 = some .int := by decide +kernel
theorem d111_0 : pv_dec 111 0 = some (.aload_n 0, 1) := pv_dec_of b111 (by decide +kernel)
theorem d111_1 : pv_dec 111 1 = some (.getfield 19, 3) := pv_dec_of b111 (by decide +kernel)
theorem d111_4 : pv_dec 111 4 = some (.iload_n 1, 1) := pv_dec_of b111 (by decide +kernel)
theorem d111_5 : pv_dec 111 5 = some (.invokevirtual 177, 3) := pv_dec_of b111 (by decide +kernel)
theorem d111_8 : pv_dec 111 8 = some (.ifCond .eq 40, 3) := pv_dec_of b111 (by decide +kernel)
theorem d111_11 : pv_dec 111 11 = some (.aload_n 0, 1) := pv_dec_of b111 (by decide +kernel)
theorem d111_12 : pv_dec 111 12 = some (.getfield 19, 3) := pv_dec_of b111 (by decide +kernel)
theorem d111_15 : pv_dec 111 15 = some (.iload_n 2, 1) := pv_dec_of b111 (by decide +kernel)
theorem d111_16 : pv_dec 111 16 = some (.invokevirtual 177, 3) := pv_dec_of b111 (by decide +kernel)
theorem d111_19 : pv_dec 111 19 = some (.ifCond .eq 29, 3) := pv_dec_of b111 (by decide +kernel)
theorem d111_22 : pv_dec 111 22 = some (.aload_n 0, 1) := pv_dec_of b111 (by decide +kernel)
theorem d111_23 : pv_dec 111 23 = some (.getfield 19, 3) := pv_dec_of b111 (by decide +kernel)
theorem d111_26 : pv_dec 111 26 = some (.iload_n 3, 1) := pv_dec_of b111 (by decide +kernel)
theorem d111_27 : pv_dec 111 27 = some (.invokevirtual 177, 3) := pv_dec_of b111 (by decide +kernel)
theorem d111_30 : pv_dec 111 30 = some (.ifCond .eq 18, 3) := pv_dec_of b111 (by decide +kernel)
theorem d111_33 : pv_dec 111 33 = some (.iload_n 1, 1) := pv_dec_of b111 (by decide +kernel)
theorem d111_34 : pv_dec 111 34 = some (.iload_n 2, 1) := pv_dec_of b111 (by decide +kernel)
theorem d111_35 : pv_dec 111 35 = some (.if_icmp .eq 13, 3) := pv_dec_of b111 (by decide +kernel)
theorem d111_38 : pv_dec 111 38 = some (.iload_n 1, 1) := pv_dec_of b111 (by decide +kernel)
theorem d111_39 : pv_dec 111 39 = some (.iload_n 3, 1) := pv_dec_of b111 (by decide +kernel)
theorem d111_40 : pv_dec 111 40 = some (.if_icmp .eq 8, 3) := pv_dec_of b111 (by decide +kernel)
theorem d111_43 : pv_dec 111 43 = some (.iload_n 2, 1) := pv_dec_of b111 (by decide +kernel)
theorem d111_44 : pv_dec 111 44 = some (.iload_n 3, 1) := pv_dec_of b111 (by decide +kernel)
theorem d111_45 : pv_dec 111 45 = some (.if_icmp .ne 6, 3) := pv_dec_of b111 (by decide +kernel)
theorem d111_48 : pv_dec 111 48 = some (.ldc 159, 2) := pv_dec_of b111 (by decide +kernel)
theorem n111_48 : pv_kc 111 159 = some (pv_I (-1000000)) := by rw [pv_kc, o111]; exact KC2_159
theorem d111_50 : pv_dec 111 50 = some (.ireturn, 1) := pv_dec_of b111 (by decide +kernel)
theorem d111_51 : pv_dec 111 51 = some (.aload_n 0, 1) := pv_dec_of b111 (by decide +kernel)
theorem d111_52 : pv_dec 111 52 = some (.getfield 19, 3) := pv_dec_of b111 (by decide +kernel)
theorem d111_55 : pv_dec 111 55 = some (.iload_n 1, 1) := pv_dec_of b111 (by decide +kernel)
theorem d111_56 : pv_dec 111 56 = some (.iload_n 2, 1) := pv_dec_of b111 (by decide +kernel)
theorem d111_57 : pv_dec 111 57 = some (.iload_n 3, 1) := pv_dec_of b111 (by decide +kernel)
theorem d111_58 : pv_dec 111 58 = some (.invokestatic 180, 3) := pv_dec_of b111 (by decide +kernel)
theorem d111_61 : pv_dec 111 61 = some (.ireturn, 1) := pv_dec_of b111 (by decide +kernel)
theorem g111_19 : pv_gf 111 19 = some (0, 1) := pv_gfo_of o111 G2_19
theorem Y2_177 : pv_mlo "AngleNet" 177 = some (⟨"AngleNet$Net", "hasPlace", "(I)Z"⟩, none) := by decide +kernel
theorem V112 : pv_cV 112 2 1 2 ⟨"AngleNet$Net", "hasPlace", "(I)Z"⟩ = true := by decide +kernel
theorem k111_177 : pv_kV 111 177 112 2 1 2 := pv_kV_of o111 Y2_177 V112 (by decide +kernel)
theorem Y2_180 : pv_mlo "AngleNet" 180 = some (⟨"AngleNet$Places", "turning", "(LAngleNet$Net;III)I"⟩, none) := by decide +kernel
theorem k111_180 : pv_kS 111 180 113 4 4 := pv_kS_of o111 Y2_180 Z113 (by decide +kernel)
theorem o114 : pv_own 114 = "AngleNet" := by decide +kernel
theorem b114 : pv_bc 114 = prog_1_method_19_code := pv_bcof (i := 114) rfl
theorem m114 : pv_mL 114 = 6 := by decide +kernel
theorem tt114 : pv_rt 114 = some .int := by decide +kernel
theorem d114_0 : pv_dec 114 0 = some (.aload_n 0, 1) := pv_dec_of b114 (by decide +kernel)
theorem d114_1 : pv_dec 114 1 = some (.getfield 19, 3) := pv_dec_of b114 (by decide +kernel)
theorem d114_4 : pv_dec 114 4 = some (.iload 4, 2) := pv_dec_of b114 (by decide +kernel)
theorem d114_6 : pv_dec 114 6 = some (.invokevirtual 177, 3) := pv_dec_of b114 (by decide +kernel)
theorem d114_9 : pv_dec 114 9 = some (.ifCond .eq 21, 3) := pv_dec_of b114 (by decide +kernel)
theorem d114_12 : pv_dec 114 12 = some (.iload 4, 2) := pv_dec_of b114 (by decide +kernel)
theorem d114_14 : pv_dec 114 14 = some (.iload_n 1, 1) := pv_dec_of b114 (by decide +kernel)
theorem d114_15 : pv_dec 114 15 = some (.if_icmp .eq 15, 3) := pv_dec_of b114 (by decide +kernel)
theorem d114_18 : pv_dec 114 18 = some (.iload 4, 2) := pv_dec_of b114 (by decide +kernel)
theorem d114_20 : pv_dec 114 20 = some (.iload_n 2, 1) := pv_dec_of b114 (by decide +kernel)
theorem d114_21 : pv_dec 114 21 = some (.if_icmp .eq 9, 3) := pv_dec_of b114 (by decide +kernel)
theorem d114_24 : pv_dec 114 24 = some (.iload 4, 2) := pv_dec_of b114 (by decide +kernel)
theorem d114_26 : pv_dec 114 26 = some (.iload_n 3, 1) := pv_dec_of b114 (by decide +kernel)
theorem d114_27 : pv_dec 114 27 = some (.if_icmp .ne 6, 3) := pv_dec_of b114 (by decide +kernel)
theorem d114_30 : pv_dec 114 30 = some (.ldc 159, 2) := pv_dec_of b114 (by decide +kernel)
theorem n114_30 : pv_kc 114 159 = some (pv_I (-1000000)) := by rw [pv_kc, o114]; exact KC2_159
theorem d114_32 : pv_dec 114 32 = some (.ireturn, 1) := pv_dec_of b114 (by decide +kernel)
theorem d114_33 : pv_dec 114 33 = some (.aload_n 0, 1) := pv_dec_of b114 (by decide +kernel)
theorem d114_34 : pv_dec 114 34 = some (.iload_n 1, 1) := pv_dec_of b114 (by decide +kernel)
theorem d114_35 : pv_dec 114 35 = some (.iload_n 2, 1) := pv_dec_of b114 (by decide +kernel)
theorem d114_36 : pv_dec 114 36 = some (.iload_n 3, 1) := pv_dec_of b114 (by decide +kernel)
theorem d114_37 : pv_dec 114 37 = some (.invokevirtual 186, 3) := pv_dec_of b114 (by decide +kernel)
theorem d114_40 : pv_dec 114 40 = some (.istore 5, 2) := pv_dec_of b114 (by decide +kernel)
theorem d114_42 : pv_dec 114 42 = some (.iload 5, 2) := pv_dec_of b114 (by decide +kernel)
theorem d114_44 : pv_dec 114 44 = some (.ldc 159, 2) := pv_dec_of b114 (by decide +kernel)
theorem n114_44 : pv_kc 114 159 = some (pv_I (-1000000)) := by rw [pv_kc, o114]; exact KC2_159
theorem d114_46 : pv_dec 114 46 = some (.if_icmp .eq 8, 3) := pv_dec_of b114 (by decide +kernel)
theorem d114_49 : pv_dec 114 49 = some (.iload 5, 2) := pv_dec_of b114 (by decide +kernel)
theorem d114_51 : pv_dec 114 51 = some (.ifCond .ne 6, 3) := pv_dec_of b114 (by decide +kernel)
theorem d114_54 : pv_dec 114 54 = some (.ldc 159, 2) := pv_dec_of b114 (by decide +kernel)
theorem n114_54 : pv_kc 114 159 = some (pv_I (-1000000)) := by rw [pv_kc, o114]; exact KC2_159
theorem d114_56 : pv_dec 114 56 = some (.ireturn, 1) := pv_dec_of b114 (by decide +kernel)
theorem d114_57 : pv_dec 114 57 = some (.aload_n 0, 1) := pv_dec_of b114 (by decide +kernel)
theorem d114_58 : pv_dec 114 58 = some (.getfield 19, 3) := pv_dec_of b114 (by decide +kernel)
theorem d114_61 : pv_dec 114 61 = some (.iload_n 1, 1) := pv_dec_of b114 (by decide +kernel)
theorem d114_62 : pv_dec 114 62 = some (.iload_n 2, 1) := pv_dec_of b114 (by decide +kernel)
theorem d114_63 : pv_dec 114 63 = some (.iload_n 3, 1) := pv_dec_of b114 (by decide +kernel)
theorem d114_64 : pv_dec 114 64 = some (.iload 4, 2) := pv_dec_of b114 (by decide +kernel)
theorem d114_66 : pv_dec 114 66 = some (.invokestatic 190, 3) := pv_dec_of b114 (by decide +kernel)
theorem d114_69 : pv_dec 114 69 = some (.ireturn, 1) := pv_dec_of b114 (by decide +kernel)
theorem g114_19 : pv_gf 114 19 = some (0, 1) := pv_gfo_of o114 G2_19
theorem k114_177 : pv_kV 114 177 112 2 1 2 := pv_kV_of o114 Y2_177 V112 (by decide +kernel)
theorem Y2_186 : pv_mlo "AngleNet" 186 = some (⟨"AngleNet", "turn", "(III)I"⟩, none) := by decide +kernel
theorem V111 : pv_cV 111 0 3 4 ⟨"AngleNet", "turn", "(III)I"⟩ = true := by decide +kernel
theorem k114_186 : pv_kV 114 186 111 0 3 4 := pv_kV_of o114 Y2_186 V111 (by decide +kernel)
theorem Y2_190 : pv_mlo "AngleNet" 190 = some (⟨"AngleNet$Places", "insideCircle", "(LAngleNet$Net;IIII)I"⟩, none) := by decide +kernel
theorem Z115 : pv_cS 115 5 7 ⟨"AngleNet$Places", "insideCircle", "(LAngleNet$Net;IIII)I"⟩ = true := by decide +kernel
theorem k114_190 : pv_kS 114 190 115 5 7 := pv_kS_of o114 Y2_190 Z115 (by decide +kernel)
theorem o136 : pv_own 136 = "AngleNet" := by decide +kernel
theorem b136 : pv_bc 136 = prog_1_method_28_code := pv_bcof (i := 136) rfl
theorem m136 : pv_mL 136 = 5 := by decide +kernel
theorem tt136 : pv_rt 136 = some .int := by decide +kernel
theorem d136_0 : pv_dec 136 0 = some (.aload_n 0, 1) := pv_dec_of b136 (by decide +kernel)
theorem d136_1 : pv_dec 136 1 = some (.getfield 19, 3) := pv_dec_of b136 (by decide +kernel)
theorem d136_4 : pv_dec 136 4 = some (.iload_n 1, 1) := pv_dec_of b136 (by decide +kernel)
theorem d136_5 : pv_dec 136 5 = some (.iload_n 2, 1) := pv_dec_of b136 (by decide +kernel)
theorem d136_6 : pv_dec 136 6 = some (.invokevirtual 194, 3) := pv_dec_of b136 (by decide +kernel)
theorem d136_9 : pv_dec 136 9 = some (.ifCond .eq 14, 3) := pv_dec_of b136 (by decide +kernel)
theorem d136_12 : pv_dec 136 12 = some (.iload_n 3, 1) := pv_dec_of b136 (by decide +kernel)
theorem d136_13 : pv_dec 136 13 = some (.ifCond .lt 10, 3) := pv_dec_of b136 (by decide +kernel)
theorem d136_16 : pv_dec 136 16 = some (.iload_n 3, 1) := pv_dec_of b136 (by decide +kernel)
theorem d136_17 : pv_dec 136 17 = some (.sipush 360, 3) := pv_dec_of b136 (by decide +kernel)
theorem d136_20 : pv_dec 136 20 = some (.if_icmp .le 6, 3) := pv_dec_of b136 (by decide +kernel)
theorem d136_23 : pv_dec 136 23 = some (.bipush (-2), 2) := pv_dec_of b136 (by decide +kernel)
theorem d136_25 : pv_dec 136 25 = some (.ireturn, 1) := pv_dec_of b136 (by decide +kernel)
theorem d136_26 : pv_dec 136 26 = some (.aload_n 0, 1) := pv_dec_of b136 (by decide +kernel)
theorem d136_27 : pv_dec 136 27 = some (.getfield 19, 3) := pv_dec_of b136 (by decide +kernel)
theorem d136_30 : pv_dec 136 30 = some (.getfield 242, 3) := pv_dec_of b136 (by decide +kernel)
theorem d136_33 : pv_dec 136 33 = some (.bipush 10, 2) := pv_dec_of b136 (by decide +kernel)
theorem d136_35 : pv_dec 136 35 = some (.iload_n 1, 1) := pv_dec_of b136 (by decide +kernel)
theorem d136_36 : pv_dec 136 36 = some (.imul, 1) := pv_dec_of b136 (by decide +kernel)
theorem d136_37 : pv_dec 136 37 = some (.iload_n 2, 1) := pv_dec_of b136 (by decide +kernel)
theorem d136_38 : pv_dec 136 38 = some (.iadd, 1) := pv_dec_of b136 (by decide +kernel)
theorem d136_39 : pv_dec 136 39 = some (.iaload, 1) := pv_dec_of b136 (by decide +kernel)
theorem d136_40 : pv_dec 136 40 = some (.istore 4, 2) := pv_dec_of b136 (by decide +kernel)
theorem d136_42 : pv_dec 136 42 = some (.aload_n 0, 1) := pv_dec_of b136 (by decide +kernel)
theorem d136_43 : pv_dec 136 43 = some (.getfield 19, 3) := pv_dec_of b136 (by decide +kernel)
theorem d136_46 : pv_dec 136 46 = some (.iload_n 1, 1) := pv_dec_of b136 (by decide +kernel)
theorem d136_47 : pv_dec 136 47 = some (.iload_n 2, 1) := pv_dec_of b136 (by decide +kernel)
theorem d136_48 : pv_dec 136 48 = some (.iload_n 3, 1) := pv_dec_of b136 (by decide +kernel)
theorem d136_49 : pv_dec 136 49 = some (.invokevirtual 245, 3) := pv_dec_of b136 (by decide +kernel)
theorem d136_52 : pv_dec 136 52 = some (.iload 4, 2) := pv_dec_of b136 (by decide +kernel)
theorem d136_54 : pv_dec 136 54 = some (.ireturn, 1) := pv_dec_of b136 (by decide +kernel)
theorem g136_19 : pv_gf 136 19 = some (0, 1) := pv_gfo_of o136 G2_19
theorem G2_242 : pv_gfo "AngleNet" 242 = some (2, 11) := by decide +kernel
theorem g136_242 : pv_gf 136 242 = some (2, 11) := pv_gfo_of o136 G2_242
theorem Y2_194 : pv_mlo "AngleNet" 194 = some (⟨"AngleNet$Net", "isSide", "(II)Z"⟩, none) := by decide +kernel
theorem k136_194 : pv_kV 136 194 47 2 2 3 := pv_kV_of o136 Y2_194 V47 (by decide +kernel)
theorem Y2_245 : pv_mlo "AngleNet" 245 = some (⟨"AngleNet$Net", "putWeight", "(III)V"⟩, none) := by decide +kernel
theorem k136_245 : pv_kV 136 245 49 2 3 4 := pv_kV_of o136 Y2_245 V49 (by decide +kernel)
theorem o137 : pv_own 137 = "AngleNet" := by decide +kernel
theorem b137 : pv_bc 137 = prog_1_method_29_code := pv_bcof (i := 137) rfl
theorem m137 : pv_mL 137 = 1 := by decide +kernel
theorem tt137 : pv_rt 137 = some .int := by decide +kernel
theorem d137_0 : pv_dec 137 0 = some (.aload_n 0, 1) := pv_dec_of b137 (by decide +kernel)
theorem d137_1 : pv_dec 137 1 = some (.getfield 19, 3) := pv_dec_of b137 (by decide +kernel)
theorem d137_4 : pv_dec 137 4 = some (.invokevirtual 129, 3) := pv_dec_of b137 (by decide +kernel)
theorem d137_7 : pv_dec 137 7 = some (.ifCond .ne 6, 3) := pv_dec_of b137 (by decide +kernel)
theorem d137_10 : pv_dec 137 10 = some (.bipush (-2), 2) := pv_dec_of b137 (by decide +kernel)
theorem d137_12 : pv_dec 137 12 = some (.ireturn, 1) := pv_dec_of b137 (by decide +kernel)
theorem d137_13 : pv_dec 137 13 = some (.aload_n 0, 1) := pv_dec_of b137 (by decide +kernel)
theorem d137_14 : pv_dec 137 14 = some (.getfield 44, 3) := pv_dec_of b137 (by decide +kernel)
theorem d137_17 : pv_dec 137 17 = some (.aload_n 0, 1) := pv_dec_of b137 (by decide +kernel)
theorem d137_18 : pv_dec 137 18 = some (.getfield 19, 3) := pv_dec_of b137 (by decide +kernel)
theorem d137_21 : pv_dec 137 21 = some (.invokevirtual 249, 3) := pv_dec_of b137 (by decide +kernel)
theorem d137_24 : pv_dec 137 24 = some (.ifCond .ne 5, 3) := pv_dec_of b137 (by decide +kernel)
theorem d137_27 : pv_dec 137 27 = some (.iconst 1, 1) := pv_dec_of b137 (by decide +kernel)
theorem d137_28 : pv_dec 137 28 = some (.ireturn, 1) := pv_dec_of b137 (by decide +kernel)
theorem d137_29 : pv_dec 137 29 = some (.aload_n 0, 1) := pv_dec_of b137 (by decide +kernel)
theorem d137_30 : pv_dec 137 30 = some (.getfield 19, 3) := pv_dec_of b137 (by decide +kernel)
theorem d137_33 : pv_dec 137 33 = some (.invokestatic 252, 3) := pv_dec_of b137 (by decide +kernel)
theorem d137_36 : pv_dec 137 36 = some (.iconst (-1), 1) := pv_dec_of b137 (by decide +kernel)
theorem d137_37 : pv_dec 137 37 = some (.if_icmp .eq 5, 3) := pv_dec_of b137 (by decide +kernel)
theorem d137_40 : pv_dec 137 40 = some (.iconst 2, 1) := pv_dec_of b137 (by decide +kernel)
theorem d137_41 : pv_dec 137 41 = some (.ireturn, 1) := pv_dec_of b137 (by decide +kernel)
theorem d137_42 : pv_dec 137 42 = some (.aload_n 0, 1) := pv_dec_of b137 (by decide +kernel)
theorem d137_43 : pv_dec 137 43 = some (.getfield 19, 3) := pv_dec_of b137 (by decide +kernel)
theorem d137_46 : pv_dec 137 46 = some (.invokestatic 257, 3) := pv_dec_of b137 (by decide +kernel)
theorem d137_49 : pv_dec 137 49 = some (.iconst (-1), 1) := pv_dec_of b137 (by decide +kernel)
theorem d137_50 : pv_dec 137 50 = some (.if_icmp .eq 5, 3) := pv_dec_of b137 (by decide +kernel)
theorem d137_53 : pv_dec 137 53 = some (.iconst 3, 1) := pv_dec_of b137 (by decide +kernel)
theorem d137_54 : pv_dec 137 54 = some (.ireturn, 1) := pv_dec_of b137 (by decide +kernel)
theorem d137_55 : pv_dec 137 55 = some (.aload_n 0, 1) := pv_dec_of b137 (by decide +kernel)
theorem d137_56 : pv_dec 137 56 = some (.getfield 19, 3) := pv_dec_of b137 (by decide +kernel)
theorem d137_59 : pv_dec 137 59 = some (.invokestatic 260, 3) := pv_dec_of b137 (by decide +kernel)
theorem d137_62 : pv_dec 137 62 = some (.iconst (-1), 1) := pv_dec_of b137 (by decide +kernel)
theorem d137_63 : pv_dec 137 63 = some (.if_icmp .eq 7, 3) := pv_dec_of b137 (by decide +kernel)
theorem d137_66 : pv_dec 137 66 = some (.iconst 4, 1) := pv_dec_of b137 (by decide +kernel)
theorem d137_67 : pv_dec 137 67 = some (.goto 4, 3) := pv_dec_of b137 (by decide +kernel)
theorem d137_70 : pv_dec 137 70 = some (.iconst 0, 1) := pv_dec_of b137 (by decide +kernel)
theorem d137_71 : pv_dec 137 71 = some (.ireturn, 1) := pv_dec_of b137 (by decide +kernel)
theorem g137_19 : pv_gf 137 19 = some (0, 1) := pv_gfo_of o137 G2_19
theorem g137_44 : pv_gf 137 44 = some (0, 6) := pv_gfo_of o137 G2_44
theorem k137_129 : pv_kV 137 129 64 2 0 1 := pv_kV_of o137 Y2_129 V64 (by decide +kernel)
theorem Y2_249 : pv_mlo "AngleNet" 249 = some (⟨"AngleNet$Shape", "isBall", "(LAngleNet$Net;)Z"⟩, none) := by decide +kernel
theorem V138 : pv_cV 138 4 1 2 ⟨"AngleNet$Shape", "isBall", "(LAngleNet$Net;)Z"⟩ = true := by decide +kernel
theorem k137_249 : pv_kV 137 249 138 4 1 2 := pv_kV_of o137 Y2_249 V138 (by decide +kernel)
theorem Y2_252 : pv_mlo "AngleNet" 252 = some (⟨"AngleNet$Body", "badSide", "(LAngleNet$Net;)I"⟩, none) := by decide +kernel
theorem Z139 : pv_cS 139 1 4 ⟨"AngleNet$Body", "badSide", "(LAngleNet$Net;)I"⟩ = true := by decide +kernel
theorem k137_252 : pv_kS 137 252 139 1 4 := pv_kS_of o137 Y2_252 Z139 (by decide +kernel)
theorem Y2_257 : pv_mlo "AngleNet" 257 = some (⟨"AngleNet$Body", "badPost", "(LAngleNet$Net;)I"⟩, none) := by decide +kernel
theorem Z140 : pv_cS 140 1 2 ⟨"AngleNet$Body", "badPost", "(LAngleNet$Net;)I"⟩ = true := by decide +kernel
theorem k137_257 : pv_kS 137 257 140 1 2 := pv_kS_of o137 Y2_257 Z140 (by decide +kernel)
theorem Y2_260 : pv_mlo "AngleNet" 260 = some (⟨"AngleNet$Body", "badSet", "(LAngleNet$Net;)I"⟩, none) := by decide +kernel
theorem Z142 : pv_cS 142 1 8 ⟨"AngleNet$Body", "badSet", "(LAngleNet$Net;)I"⟩ = true := by decide +kernel
theorem k137_260 : pv_kS 137 260 142 1 8 := pv_kS_of o137 Y2_260 Z142 (by decide +kernel)
theorem o144 : pv_own 144 = "AngleNet" := by decide +kernel
theorem b144 : pv_bc 144 = prog_1_method_30_code := pv_bcof (i := 144) rfl
theorem m144 : pv_mL 144 = 2 := by decide +kernel
theorem tt144 : pv_rt 144 = some .int := by decide +kernel
theorem d144_0 : pv_dec 144 0 = some (.aload_n 0, 1) := pv_dec_of b144 (by decide +kernel)
theorem d144_1 : pv_dec 144 1 = some (.getfield 19, 3) := pv_dec_of b144 (by decide +kernel)
theorem d144_4 : pv_dec 144 4 = some (.invokevirtual 129, 3) := pv_dec_of b144 (by decide +kernel)
theorem d144_7 : pv_dec 144 7 = some (.ifCond .eq 12, 3) := pv_dec_of b144 (by decide +kernel)
theorem d144_10 : pv_dec 144 10 = some (.iload_n 1, 1) := pv_dec_of b144 (by decide +kernel)
theorem d144_11 : pv_dec 144 11 = some (.ifCond .lt 8, 3) := pv_dec_of b144 (by decide +kernel)
theorem d144_14 : pv_dec 144 14 = some (.iload_n 1, 1) := pv_dec_of b144 (by decide +kernel)
theorem d144_15 : pv_dec 144 15 = some (.iconst 2, 1) := pv_dec_of b144 (by decide +kernel)
theorem d144_16 : pv_dec 144 16 = some (.if_icmp .le 6, 3) := pv_dec_of b144 (by decide +kernel)
theorem d144_19 : pv_dec 144 19 = some (.bipush (-2), 2) := pv_dec_of b144 (by decide +kernel)
theorem d144_21 : pv_dec 144 21 = some (.ireturn, 1) := pv_dec_of b144 (by decide +kernel)
theorem d144_22 : pv_dec 144 22 = some (.aload_n 0, 1) := pv_dec_of b144 (by decide +kernel)
theorem d144_23 : pv_dec 144 23 = some (.getfield 44, 3) := pv_dec_of b144 (by decide +kernel)
theorem d144_26 : pv_dec 144 26 = some (.aload_n 0, 1) := pv_dec_of b144 (by decide +kernel)
theorem d144_27 : pv_dec 144 27 = some (.getfield 19, 3) := pv_dec_of b144 (by decide +kernel)
theorem d144_30 : pv_dec 144 30 = some (.invokevirtual 249, 3) := pv_dec_of b144 (by decide +kernel)
theorem d144_33 : pv_dec 144 33 = some (.ifCond .ne 5, 3) := pv_dec_of b144 (by decide +kernel)
theorem d144_36 : pv_dec 144 36 = some (.iconst (-1), 1) := pv_dec_of b144 (by decide +kernel)
theorem d144_37 : pv_dec 144 37 = some (.ireturn, 1) := pv_dec_of b144 (by decide +kernel)
theorem d144_38 : pv_dec 144 38 = some (.iload_n 1, 1) := pv_dec_of b144 (by decide +kernel)
theorem d144_39 : pv_dec 144 39 = some (.lookupswitch 41 #[(0, 25), (1, 33)], 25) := pv_dec_of b144 (by decide +kernel)
theorem d144_64 : pv_dec 144 64 = some (.aload_n 0, 1) := pv_dec_of b144 (by decide +kernel)
theorem d144_65 : pv_dec 144 65 = some (.getfield 19, 3) := pv_dec_of b144 (by decide +kernel)
theorem d144_68 : pv_dec 144 68 = some (.invokestatic 252, 3) := pv_dec_of b144 (by decide +kernel)
theorem d144_71 : pv_dec 144 71 = some (.ireturn, 1) := pv_dec_of b144 (by decide +kernel)
theorem d144_72 : pv_dec 144 72 = some (.aload_n 0, 1) := pv_dec_of b144 (by decide +kernel)
theorem d144_73 : pv_dec 144 73 = some (.getfield 19, 3) := pv_dec_of b144 (by decide +kernel)
theorem d144_76 : pv_dec 144 76 = some (.invokestatic 257, 3) := pv_dec_of b144 (by decide +kernel)
theorem d144_79 : pv_dec 144 79 = some (.ireturn, 1) := pv_dec_of b144 (by decide +kernel)
theorem d144_80 : pv_dec 144 80 = some (.aload_n 0, 1) := pv_dec_of b144 (by decide +kernel)
theorem d144_81 : pv_dec 144 81 = some (.getfield 19, 3) := pv_dec_of b144 (by decide +kernel)
theorem d144_84 : pv_dec 144 84 = some (.invokestatic 260, 3) := pv_dec_of b144 (by decide +kernel)
theorem d144_87 : pv_dec 144 87 = some (.ireturn, 1) := pv_dec_of b144 (by decide +kernel)
theorem g144_19 : pv_gf 144 19 = some (0, 1) := pv_gfo_of o144 G2_19
theorem g144_44 : pv_gf 144 44 = some (0, 6) := pv_gfo_of o144 G2_44
theorem k144_129 : pv_kV 144 129 64 2 0 1 := pv_kV_of o144 Y2_129 V64 (by decide +kernel)
theorem k144_249 : pv_kV 144 249 138 4 1 2 := pv_kV_of o144 Y2_249 V138 (by decide +kernel)
theorem k144_252 : pv_kS 144 252 139 1 4 := pv_kS_of o144 Y2_252 Z139 (by decide +kernel)
theorem k144_257 : pv_kS 144 257 140 1 2 := pv_kS_of o144 Y2_257 Z140 (by decide +kernel)
theorem k144_260 : pv_kS 144 260 142 1 8 := pv_kS_of o144 Y2_260 Z142 (by decide +kernel)
theorem o145 : pv_own 145 = "AngleNet" := by decide +kernel
theorem b145 : pv_bc 145 = prog_1_method_31_code := pv_bcof (i := 145) rfl
theorem m145 : pv_mL 145 = 2 := by decide +kernel
theorem tt145 : pv_rt 145 = some .int := by decide +kernel
theorem d145_0 : pv_dec 145 0 = some (.aload_n 0, 1) := pv_dec_of b145 (by decide +kernel)
theorem d145_1 : pv_dec 145 1 = some (.getfield 19, 3) := pv_dec_of b145 (by decide +kernel)
theorem d145_4 : pv_dec 145 4 = some (.invokevirtual 129, 3) := pv_dec_of b145 (by decide +kernel)
theorem d145_7 : pv_dec 145 7 = some (.ifCond .eq 20, 3) := pv_dec_of b145 (by decide +kernel)
theorem d145_10 : pv_dec 145 10 = some (.iload_n 1, 1) := pv_dec_of b145 (by decide +kernel)
theorem d145_11 : pv_dec 145 11 = some (.ifCond .lt 16, 3) := pv_dec_of b145 (by decide +kernel)
theorem d145_14 : pv_dec 145 14 = some (.iload_n 1, 1) := pv_dec_of b145 (by decide +kernel)
theorem d145_15 : pv_dec 145 15 = some (.iconst 1, 1) := pv_dec_of b145 (by decide +kernel)
theorem d145_16 : pv_dec 145 16 = some (.aload_n 0, 1) := pv_dec_of b145 (by decide +kernel)
theorem d145_17 : pv_dec 145 17 = some (.getfield 19, 3) := pv_dec_of b145 (by decide +kernel)
theorem d145_20 : pv_dec 145 20 = some (.getfield 160, 3) := pv_dec_of b145 (by decide +kernel)
theorem d145_23 : pv_dec 145 23 = some (.ishl, 1) := pv_dec_of b145 (by decide +kernel)
theorem d145_24 : pv_dec 145 24 = some (.if_icmp .lt 6, 3) := pv_dec_of b145 (by decide +kernel)
theorem d145_27 : pv_dec 145 27 = some (.bipush (-2), 2) := pv_dec_of b145 (by decide +kernel)
theorem d145_29 : pv_dec 145 29 = some (.ireturn, 1) := pv_dec_of b145 (by decide +kernel)
theorem d145_30 : pv_dec 145 30 = some (.aload_n 0, 1) := pv_dec_of b145 (by decide +kernel)
theorem d145_31 : pv_dec 145 31 = some (.getfield 19, 3) := pv_dec_of b145 (by decide +kernel)
theorem d145_34 : pv_dec 145 34 = some (.iload_n 1, 1) := pv_dec_of b145 (by decide +kernel)
theorem d145_35 : pv_dec 145 35 = some (.invokestatic 263, 3) := pv_dec_of b145 (by decide +kernel)
theorem d145_38 : pv_dec 145 38 = some (.ireturn, 1) := pv_dec_of b145 (by decide +kernel)
theorem g145_19 : pv_gf 145 19 = some (0, 1) := pv_gfo_of o145 G2_19
theorem g145_160 : pv_gf 145 160 = some (2, 0) := pv_gfo_of o145 G2_160
theorem k145_129 : pv_kV 145 129 64 2 0 1 := pv_kV_of o145 Y2_129 V64 (by decide +kernel)
theorem Y2_263 : pv_mlo "AngleNet" 263 = some (⟨"AngleNet$Body", "weightBetween", "(LAngleNet$Net;I)I"⟩, none) := by decide +kernel
theorem k145_263 : pv_kS 145 263 141 2 5 := pv_kS_of o145 Y2_263 Z141 (by decide +kernel)
theorem o146 : pv_own 146 = "AngleNet" := by decide +kernel
theorem b146 : pv_bc 146 = prog_1_method_32_code := pv_bcof (i := 146) rfl
theorem m146 : pv_mL 146 = 3 := by decide +kernel
theorem tt146 : pv_rt 146 = some .long := by decide +kernel
theorem d146_0 : pv_dec 146 0 = some (.aload_n 0, 1) := pv_dec_of b146 (by decide +kernel)
theorem d146_1 : pv_dec 146 1 = some (.getfield 19, 3) := pv_dec_of b146 (by decide +kernel)
theorem d146_4 : pv_dec 146 4 = some (.invokevirtual 129, 3) := pv_dec_of b146 (by decide +kernel)
theorem d146_7 : pv_dec 146 7 = some (.ifCond .ne 7, 3) := pv_dec_of b146 (by decide +kernel)
theorem d146_10 : pv_dec 146 10 = some (.ldc2_w 267, 3) := pv_dec_of b146 (by decide +kernel)
theorem KL2_267 : pv_kdo "AngleNet" 267 = some (pv_J (-2)) := by decide +kernel
theorem n146_10 : pv_kd 146 267 = some (pv_J (-2)) := by rw [pv_kd, o146]; exact KL2_267
theorem d146_13 : pv_dec 146 13 = some (.lreturn, 1) := pv_dec_of b146 (by decide +kernel)
theorem d146_14 : pv_dec 146 14 = some (.aload_n 0, 1) := pv_dec_of b146 (by decide +kernel)
theorem d146_15 : pv_dec 146 15 = some (.getfield 44, 3) := pv_dec_of b146 (by decide +kernel)
theorem d146_18 : pv_dec 146 18 = some (.aload_n 0, 1) := pv_dec_of b146 (by decide +kernel)
theorem d146_19 : pv_dec 146 19 = some (.getfield 19, 3) := pv_dec_of b146 (by decide +kernel)
theorem d146_22 : pv_dec 146 22 = some (.invokevirtual 140, 3) := pv_dec_of b146 (by decide +kernel)
theorem d146_25 : pv_dec 146 25 = some (.iconst 1, 1) := pv_dec_of b146 (by decide +kernel)
theorem d146_26 : pv_dec 146 26 = some (.if_icmp .eq 5, 3) := pv_dec_of b146 (by decide +kernel)
theorem d146_29 : pv_dec 146 29 = some (.lconst 0, 1) := pv_dec_of b146 (by decide +kernel)
theorem d146_30 : pv_dec 146 30 = some (.lreturn, 1) := pv_dec_of b146 (by decide +kernel)
theorem d146_31 : pv_dec 146 31 = some (.aload_n 0, 1) := pv_dec_of b146 (by decide +kernel)
theorem d146_32 : pv_dec 146 32 = some (.getfield 44, 3) := pv_dec_of b146 (by decide +kernel)
theorem d146_35 : pv_dec 146 35 = some (.aload_n 0, 1) := pv_dec_of b146 (by decide +kernel)
theorem d146_36 : pv_dec 146 36 = some (.getfield 19, 3) := pv_dec_of b146 (by decide +kernel)
theorem d146_39 : pv_dec 146 39 = some (.invokevirtual 269, 3) := pv_dec_of b146 (by decide +kernel)
theorem d146_42 : pv_dec 146 42 = some (.istore_n 1, 1) := pv_dec_of b146 (by decide +kernel)
theorem d146_43 : pv_dec 146 43 = some (.iload_n 1, 1) := pv_dec_of b146 (by decide +kernel)
theorem d146_44 : pv_dec 146 44 = some (.invokestatic 272, 3) := pv_dec_of b146 (by decide +kernel)
theorem d146_47 : pv_dec 146 47 = some (.istore_n 2, 1) := pv_dec_of b146 (by decide +kernel)
theorem d146_48 : pv_dec 146 48 = some (.aload_n 0, 1) := pv_dec_of b146 (by decide +kernel)
theorem d146_49 : pv_dec 146 49 = some (.getfield 58, 3) := pv_dec_of b146 (by decide +kernel)
theorem d146_52 : pv_dec 146 52 = some (.aload_n 0, 1) := pv_dec_of b146 (by decide +kernel)
theorem d146_53 : pv_dec 146 53 = some (.getfield 19, 3) := pv_dec_of b146 (by decide +kernel)
theorem d146_56 : pv_dec 146 56 = some (.iload_n 1, 1) := pv_dec_of b146 (by decide +kernel)
theorem d146_57 : pv_dec 146 57 = some (.iload_n 2, 1) := pv_dec_of b146 (by decide +kernel)
theorem d146_58 : pv_dec 146 58 = some (.iload_n 2, 1) := pv_dec_of b146 (by decide +kernel)
theorem d146_59 : pv_dec 146 59 = some (.invokevirtual 275, 3) := pv_dec_of b146 (by decide +kernel)
theorem d146_62 : pv_dec 146 62 = some (.lreturn, 1) := pv_dec_of b146 (by decide +kernel)
theorem g146_19 : pv_gf 146 19 = some (0, 1) := pv_gfo_of o146 G2_19
theorem g146_44 : pv_gf 146 44 = some (0, 6) := pv_gfo_of o146 G2_44
theorem G2_58 : pv_gfo "AngleNet" 58 = some (0, 8) := by decide +kernel
theorem g146_58 : pv_gf 146 58 = some (0, 8) := pv_gfo_of o146 G2_58
theorem k146_129 : pv_kV 146 129 64 2 0 1 := pv_kV_of o146 Y2_129 V64 (by decide +kernel)
theorem k146_140 : pv_kV 146 140 71 4 1 5 := pv_kV_of o146 Y2_140 V71 (by decide +kernel)
theorem Y2_269 : pv_mlo "AngleNet" 269 = some (⟨"AngleNet$Shape", "usedPosts", "(LAngleNet$Net;)I"⟩, none) := by decide +kernel
theorem k146_269 : pv_kV 146 269 66 4 1 4 := pv_kV_of o146 Y2_269 V66 (by decide +kernel)
theorem Y2_272 : pv_mlo "AngleNet" 272 = some (⟨"AngleNet", "lowestBit", "(I)I"⟩, none) := by decide +kernel
theorem k146_272 : pv_kS 146 272 76 1 2 := pv_kS_of o146 Y2_272 Z76 (by decide +kernel)
theorem Y2_275 : pv_mlo "AngleNet" 275 = some (⟨"AngleNet$Currents", "solve", "(LAngleNet$Net;III)J"⟩, none) := by decide +kernel
theorem V147 : pv_cV 147 6 4 8 ⟨"AngleNet$Currents", "solve", "(LAngleNet$Net;III)J"⟩ = true := by decide +kernel
theorem k146_275 : pv_kV 146 275 147 6 4 8 := pv_kV_of o146 Y2_275 V147 (by decide +kernel)
theorem o153 : pv_own 153 = "AngleNet" := by decide +kernel
theorem b153 : pv_bc 153 = prog_1_method_34_code := pv_bcof (i := 153) rfl
theorem m153 : pv_mL 153 = 3 := by decide +kernel
theorem tt153 : pv_rt 153 = some .boolean := by decide +kernel
theorem d153_0 : pv_dec 153 0 = some (.aload_n 0, 1) := pv_dec_of b153 (by decide +kernel)
theorem d153_1 : pv_dec 153 1 = some (.getfield 19, 3) := pv_dec_of b153 (by decide +kernel)
theorem d153_4 : pv_dec 153 4 = some (.iload_n 1, 1) := pv_dec_of b153 (by decide +kernel)
theorem d153_5 : pv_dec 153 5 = some (.invokevirtual 101, 3) := pv_dec_of b153 (by decide +kernel)
theorem d153_8 : pv_dec 153 8 = some (.ifCond .eq 19, 3) := pv_dec_of b153 (by decide +kernel)
theorem d153_11 : pv_dec 153 11 = some (.aload_n 0, 1) := pv_dec_of b153 (by decide +kernel)
theorem d153_12 : pv_dec 153 12 = some (.getfield 19, 3) := pv_dec_of b153 (by decide +kernel)
theorem d153_15 : pv_dec 153 15 = some (.iload_n 2, 1) := pv_dec_of b153 (by decide +kernel)
theorem d153_16 : pv_dec 153 16 = some (.invokevirtual 101, 3) := pv_dec_of b153 (by decide +kernel)
theorem d153_19 : pv_dec 153 19 = some (.ifCond .eq 8, 3) := pv_dec_of b153 (by decide +kernel)
theorem d153_22 : pv_dec 153 22 = some (.iload_n 1, 1) := pv_dec_of b153 (by decide +kernel)
theorem d153_23 : pv_dec 153 23 = some (.iload_n 2, 1) := pv_dec_of b153 (by decide +kernel)
theorem d153_24 : pv_dec 153 24 = some (.if_icmp .ne 5, 3) := pv_dec_of b153 (by decide +kernel)
theorem d153_27 : pv_dec 153 27 = some (.iconst 0, 1) := pv_dec_of b153 (by decide +kernel)
theorem d153_28 : pv_dec 153 28 = some (.ireturn, 1) := pv_dec_of b153 (by decide +kernel)
theorem d153_29 : pv_dec 153 29 = some (.aload_n 0, 1) := pv_dec_of b153 (by decide +kernel)
theorem d153_30 : pv_dec 153 30 = some (.getfield 44, 3) := pv_dec_of b153 (by decide +kernel)
theorem d153_33 : pv_dec 153 33 = some (.aload_n 0, 1) := pv_dec_of b153 (by decide +kernel)
theorem d153_34 : pv_dec 153 34 = some (.getfield 19, 3) := pv_dec_of b153 (by decide +kernel)
theorem d153_37 : pv_dec 153 37 = some (.iload_n 1, 1) := pv_dec_of b153 (by decide +kernel)
theorem d153_38 : pv_dec 153 38 = some (.invokevirtual 282, 3) := pv_dec_of b153 (by decide +kernel)
theorem d153_41 : pv_dec 153 41 = some (.iload_n 2, 1) := pv_dec_of b153 (by decide +kernel)
theorem d153_42 : pv_dec 153 42 = some (.ishr, 1) := pv_dec_of b153 (by decide +kernel)
theorem d153_43 : pv_dec 153 43 = some (.iconst 1, 1) := pv_dec_of b153 (by decide +kernel)
theorem d153_44 : pv_dec 153 44 = some (.iand, 1) := pv_dec_of b153 (by decide +kernel)
theorem d153_45 : pv_dec 153 45 = some (.ifCond .eq 7, 3) := pv_dec_of b153 (by decide +kernel)
theorem d153_48 : pv_dec 153 48 = some (.iconst 1, 1) := pv_dec_of b153 (by decide +kernel)
theorem d153_49 : pv_dec 153 49 = some (.goto 4, 3) := pv_dec_of b153 (by decide +kernel)
theorem d153_52 : pv_dec 153 52 = some (.iconst 0, 1) := pv_dec_of b153 (by decide +kernel)
theorem d153_53 : pv_dec 153 53 = some (.ireturn, 1) := pv_dec_of b153 (by decide +kernel)
theorem g153_19 : pv_gf 153 19 = some (0, 1) := pv_gfo_of o153 G2_19
theorem g153_44 : pv_gf 153 44 = some (0, 6) := pv_gfo_of o153 G2_44
theorem k153_101 : pv_kV 153 101 48 2 1 2 := pv_kV_of o153 Y2_101 V48 (by decide +kernel)
theorem Y2_282 : pv_mlo "AngleNet" 282 = some (⟨"AngleNet$Shape", "partOf", "(LAngleNet$Net;I)I"⟩, none) := by decide +kernel
theorem k153_282 : pv_kV 153 282 72 4 2 7 := pv_kV_of o153 Y2_282 V72 (by decide +kernel)
theorem o152 : pv_own 152 = "AngleNet" := by decide +kernel
theorem b152 : pv_bc 152 = prog_1_method_33_code := pv_bcof (i := 152) rfl
theorem m152 : pv_mL 152 = 5 := by decide +kernel
theorem tt152 : pv_rt 152 = some .long := by decide +kernel
theorem d152_0 : pv_dec 152 0 = some (.aload_n 0, 1) := pv_dec_of b152 (by decide +kernel)
theorem d152_1 : pv_dec 152 1 = some (.getfield 19, 3) := pv_dec_of b152 (by decide +kernel)
theorem d152_4 : pv_dec 152 4 = some (.iload_n 3, 1) := pv_dec_of b152 (by decide +kernel)
theorem d152_5 : pv_dec 152 5 = some (.invokevirtual 101, 3) := pv_dec_of b152 (by decide +kernel)
theorem d152_8 : pv_dec 152 8 = some (.ifCond .eq 12, 3) := pv_dec_of b152 (by decide +kernel)
theorem d152_11 : pv_dec 152 11 = some (.aload_n 0, 1) := pv_dec_of b152 (by decide +kernel)
theorem d152_12 : pv_dec 152 12 = some (.iload_n 1, 1) := pv_dec_of b152 (by decide +kernel)
theorem d152_13 : pv_dec 152 13 = some (.iload_n 2, 1) := pv_dec_of b152 (by decide +kernel)
theorem d152_14 : pv_dec 152 14 = some (.invokevirtual 279, 3) := pv_dec_of b152 (by decide +kernel)
theorem d152_17 : pv_dec 152 17 = some (.ifCond .ne 7, 3) := pv_dec_of b152 (by decide +kernel)
theorem d152_20 : pv_dec 152 20 = some (.ldc2_w 267, 3) := pv_dec_of b152 (by decide +kernel)
theorem n152_20 : pv_kd 152 267 = some (pv_J (-2)) := by rw [pv_kd, o152]; exact KL2_267
theorem d152_23 : pv_dec 152 23 = some (.lreturn, 1) := pv_dec_of b152 (by decide +kernel)
theorem d152_24 : pv_dec 152 24 = some (.aload_n 0, 1) := pv_dec_of b152 (by decide +kernel)
theorem d152_25 : pv_dec 152 25 = some (.getfield 44, 3) := pv_dec_of b152 (by decide +kernel)
theorem d152_28 : pv_dec 152 28 = some (.aload_n 0, 1) := pv_dec_of b152 (by decide +kernel)
theorem d152_29 : pv_dec 152 29 = some (.getfield 19, 3) := pv_dec_of b152 (by decide +kernel)
theorem d152_32 : pv_dec 152 32 = some (.iload_n 1, 1) := pv_dec_of b152 (by decide +kernel)
theorem d152_33 : pv_dec 152 33 = some (.invokevirtual 282, 3) := pv_dec_of b152 (by decide +kernel)
theorem d152_36 : pv_dec 152 36 = some (.istore 4, 2) := pv_dec_of b152 (by decide +kernel)
theorem d152_38 : pv_dec 152 38 = some (.iload 4, 2) := pv_dec_of b152 (by decide +kernel)
theorem d152_40 : pv_dec 152 40 = some (.iload_n 3, 1) := pv_dec_of b152 (by decide +kernel)
theorem d152_41 : pv_dec 152 41 = some (.ishr, 1) := pv_dec_of b152 (by decide +kernel)
theorem d152_42 : pv_dec 152 42 = some (.iconst 1, 1) := pv_dec_of b152 (by decide +kernel)
theorem d152_43 : pv_dec 152 43 = some (.iand, 1) := pv_dec_of b152 (by decide +kernel)
theorem d152_44 : pv_dec 152 44 = some (.ifCond .ne 7, 3) := pv_dec_of b152 (by decide +kernel)
theorem d152_47 : pv_dec 152 47 = some (.ldc2_w 267, 3) := pv_dec_of b152 (by decide +kernel)
theorem n152_47 : pv_kd 152 267 = some (pv_J (-2)) := by rw [pv_kd, o152]; exact KL2_267
theorem d152_50 : pv_dec 152 50 = some (.lreturn, 1) := pv_dec_of b152 (by decide +kernel)
theorem d152_51 : pv_dec 152 51 = some (.aload_n 0, 1) := pv_dec_of b152 (by decide +kernel)
theorem d152_52 : pv_dec 152 52 = some (.getfield 58, 3) := pv_dec_of b152 (by decide +kernel)
theorem d152_55 : pv_dec 152 55 = some (.aload_n 0, 1) := pv_dec_of b152 (by decide +kernel)
theorem d152_56 : pv_dec 152 56 = some (.getfield 19, 3) := pv_dec_of b152 (by decide +kernel)
theorem d152_59 : pv_dec 152 59 = some (.iload 4, 2) := pv_dec_of b152 (by decide +kernel)
theorem d152_61 : pv_dec 152 61 = some (.iload_n 1, 1) := pv_dec_of b152 (by decide +kernel)
theorem d152_62 : pv_dec 152 62 = some (.iload_n 2, 1) := pv_dec_of b152 (by decide +kernel)
theorem d152_63 : pv_dec 152 63 = some (.invokevirtual 275, 3) := pv_dec_of b152 (by decide +kernel)
theorem d152_66 : pv_dec 152 66 = some (.pop2, 1) := pv_dec_of b152 (by decide +kernel)
theorem d152_67 : pv_dec 152 67 = some (.aload_n 0, 1) := pv_dec_of b152 (by decide +kernel)
theorem d152_68 : pv_dec 152 68 = some (.getfield 58, 3) := pv_dec_of b152 (by decide +kernel)
theorem d152_71 : pv_dec 152 71 = some (.getfield 285, 3) := pv_dec_of b152 (by decide +kernel)
theorem d152_74 : pv_dec 152 74 = some (.iload_n 3, 1) := pv_dec_of b152 (by decide +kernel)
theorem d152_75 : pv_dec 152 75 = some (.laload, 1) := pv_dec_of b152 (by decide +kernel)
theorem d152_76 : pv_dec 152 76 = some (.lreturn, 1) := pv_dec_of b152 (by decide +kernel)
theorem g152_19 : pv_gf 152 19 = some (0, 1) := pv_gfo_of o152 G2_19
theorem g152_44 : pv_gf 152 44 = some (0, 6) := pv_gfo_of o152 G2_44
theorem g152_58 : pv_gf 152 58 = some (0, 8) := pv_gfo_of o152 G2_58
theorem G2_285 : pv_gfo "AngleNet" 285 = some (6, 0) := by decide +kernel
theorem g152_285 : pv_gf 152 285 = some (6, 0) := pv_gfo_of o152 G2_285
theorem k152_101 : pv_kV 152 101 48 2 1 2 := pv_kV_of o152 Y2_101 V48 (by decide +kernel)
theorem k152_275 : pv_kV 152 275 147 6 4 8 := pv_kV_of o152 Y2_275 V147 (by decide +kernel)
theorem Y2_279 : pv_mlo "AngleNet" 279 = some (⟨"AngleNet", "hasFlow", "(II)Z"⟩, none) := by decide +kernel
theorem V153 : pv_cV 153 0 2 3 ⟨"AngleNet", "hasFlow", "(II)Z"⟩ = true := by decide +kernel
theorem k152_279 : pv_kV 152 279 153 0 2 3 := pv_kV_of o152 Y2_279 V153 (by decide +kernel)
theorem k152_282 : pv_kV 152 282 72 4 2 7 := pv_kV_of o152 Y2_282 V72 (by decide +kernel)
theorem o154 : pv_own 154 = "AngleNet" := by decide +kernel
theorem b154 : pv_bc 154 = prog_1_method_35_code := pv_bcof (i := 154) rfl
theorem m154 : pv_mL 154 = 6 := by decide +kernel
theorem tt154 : pv_rt 154 = some .long := by decide +kernel
theorem d154_0 : pv_dec 154 0 = some (.aload_n 0, 1) := pv_dec_of b154 (by decide +kernel)
theorem d154_1 : pv_dec 154 1 = some (.iload_n 1, 1) := pv_dec_of b154 (by decide +kernel)
theorem d154_2 : pv_dec 154 2 = some (.iload_n 2, 1) := pv_dec_of b154 (by decide +kernel)
theorem d154_3 : pv_dec 154 3 = some (.invokevirtual 279, 3) := pv_dec_of b154 (by decide +kernel)
theorem d154_6 : pv_dec 154 6 = some (.ifCond .eq 12, 3) := pv_dec_of b154 (by decide +kernel)
theorem d154_9 : pv_dec 154 9 = some (.iload_n 3, 1) := pv_dec_of b154 (by decide +kernel)
theorem d154_10 : pv_dec 154 10 = some (.ifCond .lt 8, 3) := pv_dec_of b154 (by decide +kernel)
theorem d154_13 : pv_dec 154 13 = some (.iload_n 3, 1) := pv_dec_of b154 (by decide +kernel)
theorem d154_14 : pv_dec 154 14 = some (.iconst 2, 1) := pv_dec_of b154 (by decide +kernel)
theorem d154_15 : pv_dec 154 15 = some (.if_icmp .le 7, 3) := pv_dec_of b154 (by decide +kernel)
theorem d154_18 : pv_dec 154 18 = some (.ldc2_w 267, 3) := pv_dec_of b154 (by decide +kernel)
theorem n154_18 : pv_kd 154 267 = some (pv_J (-2)) := by rw [pv_kd, o154]; exact KL2_267
theorem d154_21 : pv_dec 154 21 = some (.lreturn, 1) := pv_dec_of b154 (by decide +kernel)
theorem d154_22 : pv_dec 154 22 = some (.aload_n 0, 1) := pv_dec_of b154 (by decide +kernel)
theorem d154_23 : pv_dec 154 23 = some (.getfield 58, 3) := pv_dec_of b154 (by decide +kernel)
theorem d154_26 : pv_dec 154 26 = some (.aload_n 0, 1) := pv_dec_of b154 (by decide +kernel)
theorem d154_27 : pv_dec 154 27 = some (.getfield 19, 3) := pv_dec_of b154 (by decide +kernel)
theorem d154_30 : pv_dec 154 30 = some (.aload_n 0, 1) := pv_dec_of b154 (by decide +kernel)
theorem d154_31 : pv_dec 154 31 = some (.getfield 44, 3) := pv_dec_of b154 (by decide +kernel)
theorem d154_34 : pv_dec 154 34 = some (.aload_n 0, 1) := pv_dec_of b154 (by decide +kernel)
theorem d154_35 : pv_dec 154 35 = some (.getfield 19, 3) := pv_dec_of b154 (by decide +kernel)
theorem d154_38 : pv_dec 154 38 = some (.iload_n 1, 1) := pv_dec_of b154 (by decide +kernel)
theorem d154_39 : pv_dec 154 39 = some (.invokevirtual 282, 3) := pv_dec_of b154 (by decide +kernel)
theorem d154_42 : pv_dec 154 42 = some (.iload_n 1, 1) := pv_dec_of b154 (by decide +kernel)
theorem d154_43 : pv_dec 154 43 = some (.iload_n 2, 1) := pv_dec_of b154 (by decide +kernel)
theorem d154_44 : pv_dec 154 44 = some (.invokevirtual 275, 3) := pv_dec_of b154 (by decide +kernel)
theorem d154_47 : pv_dec 154 47 = some (.lstore 4, 2) := pv_dec_of b154 (by decide +kernel)
theorem d154_49 : pv_dec 154 49 = some (.iload_n 3, 1) := pv_dec_of b154 (by decide +kernel)
theorem d154_50 : pv_dec 154 50 = some (.ifCond .ne 6, 3) := pv_dec_of b154 (by decide +kernel)
theorem d154_53 : pv_dec 154 53 = some (.lload 4, 2) := pv_dec_of b154 (by decide +kernel)
theorem d154_55 : pv_dec 154 55 = some (.lreturn, 1) := pv_dec_of b154 (by decide +kernel)
theorem d154_56 : pv_dec 154 56 = some (.iload_n 3, 1) := pv_dec_of b154 (by decide +kernel)
theorem d154_57 : pv_dec 154 57 = some (.iconst 1, 1) := pv_dec_of b154 (by decide +kernel)
theorem d154_58 : pv_dec 154 58 = some (.if_icmp .ne 17, 3) := pv_dec_of b154 (by decide +kernel)
theorem d154_61 : pv_dec 154 61 = some (.aload_n 0, 1) := pv_dec_of b154 (by decide +kernel)
theorem d154_62 : pv_dec 154 62 = some (.getfield 58, 3) := pv_dec_of b154 (by decide +kernel)
theorem d154_65 : pv_dec 154 65 = some (.aload_n 0, 1) := pv_dec_of b154 (by decide +kernel)
theorem d154_66 : pv_dec 154 66 = some (.getfield 19, 3) := pv_dec_of b154 (by decide +kernel)
theorem d154_69 : pv_dec 154 69 = some (.invokevirtual 289, 3) := pv_dec_of b154 (by decide +kernel)
theorem d154_72 : pv_dec 154 72 = some (.goto 15, 3) := pv_dec_of b154 (by decide +kernel)
theorem d154_75 : pv_dec 154 75 = some (.aload_n 0, 1) := pv_dec_of b154 (by decide +kernel)
theorem d154_76 : pv_dec 154 76 = some (.getfield 58, 3) := pv_dec_of b154 (by decide +kernel)
theorem d154_79 : pv_dec 154 79 = some (.aload_n 0, 1) := pv_dec_of b154 (by decide +kernel)
theorem d154_80 : pv_dec 154 80 = some (.getfield 19, 3) := pv_dec_of b154 (by decide +kernel)
theorem d154_83 : pv_dec 154 83 = some (.invokevirtual 293, 3) := pv_dec_of b154 (by decide +kernel)
theorem d154_86 : pv_dec 154 86 = some (.i2l, 1) := pv_dec_of b154 (by decide +kernel)
theorem d154_87 : pv_dec 154 87 = some (.lreturn, 1) := pv_dec_of b154 (by decide +kernel)
theorem g154_19 : pv_gf 154 19 = some (0, 1) := pv_gfo_of o154 G2_19
theorem g154_44 : pv_gf 154 44 = some (0, 6) := pv_gfo_of o154 G2_44
theorem g154_58 : pv_gf 154 58 = some (0, 8) := pv_gfo_of o154 G2_58
theorem k154_275 : pv_kV 154 275 147 6 4 8 := pv_kV_of o154 Y2_275 V147 (by decide +kernel)
theorem k154_279 : pv_kV 154 279 153 0 2 3 := pv_kV_of o154 Y2_279 V153 (by decide +kernel)
theorem k154_282 : pv_kV 154 282 72 4 2 7 := pv_kV_of o154 Y2_282 V72 (by decide +kernel)
theorem Y2_289 : pv_mlo "AngleNet" 289 = some (⟨"AngleNet$Currents", "divisor", "(LAngleNet$Net;)J"⟩, none) := by decide +kernel
theorem V155 : pv_cV 155 6 1 6 ⟨"AngleNet$Currents", "divisor", "(LAngleNet$Net;)J"⟩ = true := by decide +kernel
theorem k154_289 : pv_kV 154 289 155 6 1 6 := pv_kV_of o154 Y2_289 V155 (by decide +kernel)
theorem Y2_293 : pv_mlo "AngleNet" 293 = some (⟨"AngleNet$Currents", "idleSides", "(LAngleNet$Net;)I"⟩, none) := by decide +kernel
theorem V158 : pv_cV 158 6 1 5 ⟨"AngleNet$Currents", "idleSides", "(LAngleNet$Net;)I"⟩ = true := by decide +kernel
theorem k154_293 : pv_kV 154 293 158 6 1 5 := pv_kV_of o154 Y2_293 V158 (by decide +kernel)
theorem o159 : pv_own 159 = "AngleNet" := by decide +kernel
theorem b159 : pv_bc 159 = prog_1_method_36_code := pv_bcof (i := 159) rfl
theorem m159 : pv_mL 159 = 8 := by decide +kernel
theorem tt159 : pv_rt 159 = some .long := by decide +kernel
theorem d159_0 : pv_dec 159 0 = some (.aload_n 0, 1) := pv_dec_of b159 (by decide +kernel)
theorem d159_1 : pv_dec 159 1 = some (.iload_n 1, 1) := pv_dec_of b159 (by decide +kernel)
theorem d159_2 : pv_dec 159 2 = some (.iload_n 2, 1) := pv_dec_of b159 (by decide +kernel)
theorem d159_3 : pv_dec 159 3 = some (.invokevirtual 279, 3) := pv_dec_of b159 (by decide +kernel)
theorem d159_6 : pv_dec 159 6 = some (.ifCond .eq 16, 3) := pv_dec_of b159 (by decide +kernel)
theorem d159_9 : pv_dec 159 9 = some (.aload_n 0, 1) := pv_dec_of b159 (by decide +kernel)
theorem d159_10 : pv_dec 159 10 = some (.getfield 19, 3) := pv_dec_of b159 (by decide +kernel)
theorem d159_13 : pv_dec 159 13 = some (.iload_n 3, 1) := pv_dec_of b159 (by decide +kernel)
theorem d159_14 : pv_dec 159 14 = some (.iload 4, 2) := pv_dec_of b159 (by decide +kernel)
theorem d159_16 : pv_dec 159 16 = some (.invokevirtual 194, 3) := pv_dec_of b159 (by decide +kernel)
theorem d159_19 : pv_dec 159 19 = some (.ifCond .ne 7, 3) := pv_dec_of b159 (by decide +kernel)
theorem d159_22 : pv_dec 159 22 = some (.ldc2_w 296, 3) := pv_dec_of b159 (by decide +kernel)
theorem KL2_296 : pv_kdo "AngleNet" 296 = some (pv_J (-1000000)) := by decide +kernel
theorem n159_22 : pv_kd 159 296 = some (pv_J (-1000000)) := by rw [pv_kd, o159]; exact KL2_296
theorem d159_25 : pv_dec 159 25 = some (.lreturn, 1) := pv_dec_of b159 (by decide +kernel)
theorem d159_26 : pv_dec 159 26 = some (.aload_n 0, 1) := pv_dec_of b159 (by decide +kernel)
theorem d159_27 : pv_dec 159 27 = some (.getfield 44, 3) := pv_dec_of b159 (by decide +kernel)
theorem d159_30 : pv_dec 159 30 = some (.aload_n 0, 1) := pv_dec_of b159 (by decide +kernel)
theorem d159_31 : pv_dec 159 31 = some (.getfield 19, 3) := pv_dec_of b159 (by decide +kernel)
theorem d159_34 : pv_dec 159 34 = some (.iload_n 1, 1) := pv_dec_of b159 (by decide +kernel)
theorem d159_35 : pv_dec 159 35 = some (.invokevirtual 282, 3) := pv_dec_of b159 (by decide +kernel)
theorem d159_38 : pv_dec 159 38 = some (.istore 5, 2) := pv_dec_of b159 (by decide +kernel)
theorem d159_40 : pv_dec 159 40 = some (.iload 5, 2) := pv_dec_of b159 (by decide +kernel)
theorem d159_42 : pv_dec 159 42 = some (.iload_n 3, 1) := pv_dec_of b159 (by decide +kernel)
theorem d159_43 : pv_dec 159 43 = some (.ishr, 1) := pv_dec_of b159 (by decide +kernel)
theorem d159_44 : pv_dec 159 44 = some (.iconst 1, 1) := pv_dec_of b159 (by decide +kernel)
theorem d159_45 : pv_dec 159 45 = some (.iand, 1) := pv_dec_of b159 (by decide +kernel)
theorem d159_46 : pv_dec 159 46 = some (.ifCond .ne 7, 3) := pv_dec_of b159 (by decide +kernel)
theorem d159_49 : pv_dec 159 49 = some (.ldc2_w 296, 3) := pv_dec_of b159 (by decide +kernel)
theorem n159_49 : pv_kd 159 296 = some (pv_J (-1000000)) := by rw [pv_kd, o159]; exact KL2_296
theorem d159_52 : pv_dec 159 52 = some (.lreturn, 1) := pv_dec_of b159 (by decide +kernel)
theorem d159_53 : pv_dec 159 53 = some (.aload_n 0, 1) := pv_dec_of b159 (by decide +kernel)
theorem d159_54 : pv_dec 159 54 = some (.getfield 58, 3) := pv_dec_of b159 (by decide +kernel)
theorem d159_57 : pv_dec 159 57 = some (.aload_n 0, 1) := pv_dec_of b159 (by decide +kernel)
theorem d159_58 : pv_dec 159 58 = some (.getfield 19, 3) := pv_dec_of b159 (by decide +kernel)
theorem d159_61 : pv_dec 159 61 = some (.iload 5, 2) := pv_dec_of b159 (by decide +kernel)
theorem d159_63 : pv_dec 159 63 = some (.iload_n 1, 1) := pv_dec_of b159 (by decide +kernel)
theorem d159_64 : pv_dec 159 64 = some (.iload_n 2, 1) := pv_dec_of b159 (by decide +kernel)
theorem d159_65 : pv_dec 159 65 = some (.invokevirtual 275, 3) := pv_dec_of b159 (by decide +kernel)
theorem d159_68 : pv_dec 159 68 = some (.pop2, 1) := pv_dec_of b159 (by decide +kernel)
theorem d159_69 : pv_dec 159 69 = some (.aload_n 0, 1) := pv_dec_of b159 (by decide +kernel)
theorem d159_70 : pv_dec 159 70 = some (.getfield 58, 3) := pv_dec_of b159 (by decide +kernel)
theorem d159_73 : pv_dec 159 73 = some (.aload_n 0, 1) := pv_dec_of b159 (by decide +kernel)
theorem d159_74 : pv_dec 159 74 = some (.getfield 19, 3) := pv_dec_of b159 (by decide +kernel)
theorem d159_77 : pv_dec 159 77 = some (.invokevirtual 289, 3) := pv_dec_of b159 (by decide +kernel)
theorem d159_80 : pv_dec 159 80 = some (.lstore 6, 2) := pv_dec_of b159 (by decide +kernel)
theorem d159_82 : pv_dec 159 82 = some (.lload 6, 2) := pv_dec_of b159 (by decide +kernel)
theorem d159_84 : pv_dec 159 84 = some (.lconst 0, 1) := pv_dec_of b159 (by decide +kernel)
theorem d159_85 : pv_dec 159 85 = some (.lcmp, 1) := pv_dec_of b159 (by decide +kernel)
theorem d159_86 : pv_dec 159 86 = some (.ifCond .ne 7, 3) := pv_dec_of b159 (by decide +kernel)
theorem d159_89 : pv_dec 159 89 = some (.ldc2_w 296, 3) := pv_dec_of b159 (by decide +kernel)
theorem n159_89 : pv_kd 159 296 = some (pv_J (-1000000)) := by rw [pv_kd, o159]; exact KL2_296
theorem d159_92 : pv_dec 159 92 = some (.lreturn, 1) := pv_dec_of b159 (by decide +kernel)
theorem d159_93 : pv_dec 159 93 = some (.aload_n 0, 1) := pv_dec_of b159 (by decide +kernel)
theorem d159_94 : pv_dec 159 94 = some (.getfield 58, 3) := pv_dec_of b159 (by decide +kernel)
theorem d159_97 : pv_dec 159 97 = some (.getfield 285, 3) := pv_dec_of b159 (by decide +kernel)
theorem d159_100 : pv_dec 159 100 = some (.iload_n 3, 1) := pv_dec_of b159 (by decide +kernel)
theorem d159_101 : pv_dec 159 101 = some (.laload, 1) := pv_dec_of b159 (by decide +kernel)
theorem d159_102 : pv_dec 159 102 = some (.aload_n 0, 1) := pv_dec_of b159 (by decide +kernel)
theorem d159_103 : pv_dec 159 103 = some (.getfield 58, 3) := pv_dec_of b159 (by decide +kernel)
theorem d159_106 : pv_dec 159 106 = some (.getfield 285, 3) := pv_dec_of b159 (by decide +kernel)
theorem d159_109 : pv_dec 159 109 = some (.iload 4, 2) := pv_dec_of b159 (by decide +kernel)
theorem d159_111 : pv_dec 159 111 = some (.laload, 1) := pv_dec_of b159 (by decide +kernel)
theorem d159_112 : pv_dec 159 112 = some (.lsub, 1) := pv_dec_of b159 (by decide +kernel)
theorem d159_113 : pv_dec 159 113 = some (.lload 6, 2) := pv_dec_of b159 (by decide +kernel)
theorem d159_115 : pv_dec 159 115 = some (.ldiv, 1) := pv_dec_of b159 (by decide +kernel)
theorem d159_116 : pv_dec 159 116 = some (.lreturn, 1) := pv_dec_of b159 (by decide +kernel)
theorem g159_19 : pv_gf 159 19 = some (0, 1) := pv_gfo_of o159 G2_19
theorem g159_44 : pv_gf 159 44 = some (0, 6) := pv_gfo_of o159 G2_44
theorem g159_58 : pv_gf 159 58 = some (0, 8) := pv_gfo_of o159 G2_58
theorem g159_285 : pv_gf 159 285 = some (6, 0) := pv_gfo_of o159 G2_285
theorem k159_194 : pv_kV 159 194 47 2 2 3 := pv_kV_of o159 Y2_194 V47 (by decide +kernel)
theorem k159_275 : pv_kV 159 275 147 6 4 8 := pv_kV_of o159 Y2_275 V147 (by decide +kernel)
theorem k159_279 : pv_kV 159 279 153 0 2 3 := pv_kV_of o159 Y2_279 V153 (by decide +kernel)
theorem k159_282 : pv_kV 159 282 72 4 2 7 := pv_kV_of o159 Y2_282 V72 (by decide +kernel)
theorem k159_289 : pv_kV 159 289 155 6 1 6 := pv_kV_of o159 Y2_289 V155 (by decide +kernel)
theorem o160 : pv_own 160 = "AngleNet" := by decide +kernel
theorem b160 : pv_bc 160 = prog_1_method_37_code := pv_bcof (i := 160) rfl
theorem m160 : pv_mL 160 = 5 := by decide +kernel
theorem tt160 : pv_rt 160 = some .int := by decide +kernel
theorem d160_0 : pv_dec 160 0 = some (.aload_n 0, 1) := pv_dec_of b160 (by decide +kernel)
theorem d160_1 : pv_dec 160 1 = some (.getfield 19, 3) := pv_dec_of b160 (by decide +kernel)
theorem d160_4 : pv_dec 160 4 = some (.iload_n 1, 1) := pv_dec_of b160 (by decide +kernel)
theorem d160_5 : pv_dec 160 5 = some (.invokevirtual 90, 3) := pv_dec_of b160 (by decide +kernel)
theorem d160_8 : pv_dec 160 8 = some (.ifCond .eq 12, 3) := pv_dec_of b160 (by decide +kernel)
theorem d160_11 : pv_dec 160 11 = some (.iload_n 2, 1) := pv_dec_of b160 (by decide +kernel)
theorem d160_12 : pv_dec 160 12 = some (.ifCond .lt 8, 3) := pv_dec_of b160 (by decide +kernel)
theorem d160_15 : pv_dec 160 15 = some (.iload_n 2, 1) := pv_dec_of b160 (by decide +kernel)
theorem d160_16 : pv_dec 160 16 = some (.iconst 1, 1) := pv_dec_of b160 (by decide +kernel)
theorem d160_17 : pv_dec 160 17 = some (.if_icmp .le 6, 3) := pv_dec_of b160 (by decide +kernel)
theorem d160_20 : pv_dec 160 20 = some (.ldc 159, 2) := pv_dec_of b160 (by decide +kernel)
theorem n160_20 : pv_kc 160 159 = some (pv_I (-1000000)) := by rw [pv_kc, o160]; exact KC2_159
theorem d160_22 : pv_dec 160 22 = some (.ireturn, 1) := pv_dec_of b160 (by decide +kernel)
theorem d160_23 : pv_dec 160 23 = some (.aload_n 0, 1) := pv_dec_of b160 (by decide +kernel)
theorem d160_24 : pv_dec 160 24 = some (.getfield 19, 3) := pv_dec_of b160 (by decide +kernel)
theorem d160_27 : pv_dec 160 27 = some (.iload_n 1, 1) := pv_dec_of b160 (by decide +kernel)
theorem d160_28 : pv_dec 160 28 = some (.invokestatic 298, 3) := pv_dec_of b160 (by decide +kernel)
theorem d160_31 : pv_dec 160 31 = some (.istore_n 3, 1) := pv_dec_of b160 (by decide +kernel)
theorem d160_32 : pv_dec 160 32 = some (.iload_n 3, 1) := pv_dec_of b160 (by decide +kernel)
theorem d160_33 : pv_dec 160 33 = some (.iconst (-1), 1) := pv_dec_of b160 (by decide +kernel)
theorem d160_34 : pv_dec 160 34 = some (.if_icmp .ne 6, 3) := pv_dec_of b160 (by decide +kernel)
theorem d160_37 : pv_dec 160 37 = some (.ldc 159, 2) := pv_dec_of b160 (by decide +kernel)
theorem n160_37 : pv_kc 160 159 = some (pv_I (-1000000)) := by rw [pv_kc, o160]; exact KC2_159
theorem d160_39 : pv_dec 160 39 = some (.ireturn, 1) := pv_dec_of b160 (by decide +kernel)
theorem d160_40 : pv_dec 160 40 = some (.aload_n 0, 1) := pv_dec_of b160 (by decide +kernel)
theorem d160_41 : pv_dec 160 41 = some (.getfield 19, 3) := pv_dec_of b160 (by decide +kernel)
theorem d160_44 : pv_dec 160 44 = some (.iload_n 1, 1) := pv_dec_of b160 (by decide +kernel)
theorem d160_45 : pv_dec 160 45 = some (.invokestatic 303, 3) := pv_dec_of b160 (by decide +kernel)
theorem d160_48 : pv_dec 160 48 = some (.istore 4, 2) := pv_dec_of b160 (by decide +kernel)
theorem d160_50 : pv_dec 160 50 = some (.iload_n 2, 1) := pv_dec_of b160 (by decide +kernel)
theorem d160_51 : pv_dec 160 51 = some (.ifCond .ne 12, 3) := pv_dec_of b160 (by decide +kernel)
theorem d160_54 : pv_dec 160 54 = some (.iload 4, 2) := pv_dec_of b160 (by decide +kernel)
theorem d160_56 : pv_dec 160 56 = some (.iconst 2, 1) := pv_dec_of b160 (by decide +kernel)
theorem d160_57 : pv_dec 160 57 = some (.iload_n 3, 1) := pv_dec_of b160 (by decide +kernel)
theorem d160_58 : pv_dec 160 58 = some (.imul, 1) := pv_dec_of b160 (by decide +kernel)
theorem d160_59 : pv_dec 160 59 = some (.iadd, 1) := pv_dec_of b160 (by decide +kernel)
theorem d160_60 : pv_dec 160 60 = some (.goto 9, 3) := pv_dec_of b160 (by decide +kernel)
theorem d160_63 : pv_dec 160 63 = some (.iload 4, 2) := pv_dec_of b160 (by decide +kernel)
theorem d160_65 : pv_dec 160 65 = some (.iconst 2, 1) := pv_dec_of b160 (by decide +kernel)
theorem d160_66 : pv_dec 160 66 = some (.iload_n 3, 1) := pv_dec_of b160 (by decide +kernel)
theorem d160_67 : pv_dec 160 67 = some (.imul, 1) := pv_dec_of b160 (by decide +kernel)
theorem d160_68 : pv_dec 160 68 = some (.isub, 1) := pv_dec_of b160 (by decide +kernel)
theorem d160_69 : pv_dec 160 69 = some (.ireturn, 1) := pv_dec_of b160 (by decide +kernel)
theorem g160_19 : pv_gf 160 19 = some (0, 1) := pv_gfo_of o160 G2_19
theorem Y2_298 : pv_mlo "AngleNet" 298 = some (⟨"AngleNet$Circles", "root", "(LAngleNet$Net;I)I"⟩, none) := by decide +kernel
theorem Z161 : pv_cS 161 2 10 ⟨"AngleNet$Circles", "root", "(LAngleNet$Net;I)I"⟩ = true := by decide +kernel
theorem k160_298 : pv_kS 160 298 161 2 10 := pv_kS_of o160 Y2_298 Z161 (by decide +kernel)
theorem Y2_303 : pv_mlo "AngleNet" 303 = some (⟨"AngleNet$Circles", "together", "(LAngleNet$Net;I)I"⟩, none) := by decide +kernel
theorem Z162 : pv_cS 162 2 2 ⟨"AngleNet$Circles", "together", "(LAngleNet$Net;I)I"⟩ = true := by decide +kernel
theorem k160_303 : pv_kS 160 303 162 2 2 := pv_kS_of o160 Y2_303 Z162 (by decide +kernel)
theorem k160_90 : pv_kV 160 90 55 2 1 2 := pv_kV_of o160 Y2_90 V55 (by decide +kernel)
theorem o163 : pv_own 163 = "AngleNet" := by decide +kernel
theorem b163 : pv_bc 163 = prog_1_method_38_code := pv_bcof (i := 163) rfl
theorem m163 : pv_mL 163 = 3 := by decide +kernel
theorem tt163 : pv_rt 163 = some .int := by decide +kernel
theorem d163_0 : pv_dec 163 0 = some (.aload_n 0, 1) := pv_dec_of b163 (by decide +kernel)
theorem d163_1 : pv_dec 163 1 = some (.getfield 19, 3) := pv_dec_of b163 (by decide +kernel)
theorem d163_4 : pv_dec 163 4 = some (.invokevirtual 129, 3) := pv_dec_of b163 (by decide +kernel)
theorem d163_7 : pv_dec 163 7 = some (.ifCond .ne 6, 3) := pv_dec_of b163 (by decide +kernel)
theorem d163_10 : pv_dec 163 10 = some (.bipush (-2), 2) := pv_dec_of b163 (by decide +kernel)
theorem d163_12 : pv_dec 163 12 = some (.ireturn, 1) := pv_dec_of b163 (by decide +kernel)
theorem d163_13 : pv_dec 163 13 = some (.iconst 0, 1) := pv_dec_of b163 (by decide +kernel)
theorem d163_14 : pv_dec 163 14 = some (.istore_n 1, 1) := pv_dec_of b163 (by decide +kernel)
theorem d163_15 : pv_dec 163 15 = some (.iconst 0, 1) := pv_dec_of b163 (by decide +kernel)
theorem d163_16 : pv_dec 163 16 = some (.istore_n 2, 1) := pv_dec_of b163 (by decide +kernel)
theorem d163_17 : pv_dec 163 17 = some (.iload_n 2, 1) := pv_dec_of b163 (by decide +kernel)
theorem d163_18 : pv_dec 163 18 = some (.aload_n 0, 1) := pv_dec_of b163 (by decide +kernel)
theorem d163_19 : pv_dec 163 19 = some (.getfield 19, 3) := pv_dec_of b163 (by decide +kernel)
theorem d163_22 : pv_dec 163 22 = some (.getfield 163, 3) := pv_dec_of b163 (by decide +kernel)
theorem d163_25 : pv_dec 163 25 = some (.if_icmp .ge 27, 3) := pv_dec_of b163 (by decide +kernel)
theorem d163_28 : pv_dec 163 28 = some (.aload_n 0, 1) := pv_dec_of b163 (by decide +kernel)
theorem d163_29 : pv_dec 163 29 = some (.getfield 19, 3) := pv_dec_of b163 (by decide +kernel)
theorem d163_32 : pv_dec 163 32 = some (.iload_n 2, 1) := pv_dec_of b163 (by decide +kernel)
theorem d163_33 : pv_dec 163 33 = some (.invokestatic 298, 3) := pv_dec_of b163 (by decide +kernel)
theorem d163_36 : pv_dec 163 36 = some (.iconst (-1), 1) := pv_dec_of b163 (by decide +kernel)
theorem d163_37 : pv_dec 163 37 = some (.if_icmp .eq 9, 3) := pv_dec_of b163 (by decide +kernel)
theorem d163_40 : pv_dec 163 40 = some (.iload_n 1, 1) := pv_dec_of b163 (by decide +kernel)
theorem d163_41 : pv_dec 163 41 = some (.iconst 1, 1) := pv_dec_of b163 (by decide +kernel)
theorem d163_42 : pv_dec 163 42 = some (.iload_n 2, 1) := pv_dec_of b163 (by decide +kernel)
theorem d163_43 : pv_dec 163 43 = some (.ishl, 1) := pv_dec_of b163 (by decide +kernel)
theorem d163_44 : pv_dec 163 44 = some (.ior, 1) := pv_dec_of b163 (by decide +kernel)
theorem d163_45 : pv_dec 163 45 = some (.istore_n 1, 1) := pv_dec_of b163 (by decide +kernel)
theorem d163_46 : pv_dec 163 46 = some (.iinc 2 1, 3) := pv_dec_of b163 (by decide +kernel)
theorem d163_49 : pv_dec 163 49 = some (.goto (-32), 3) := pv_dec_of b163 (by decide +kernel)
theorem d163_52 : pv_dec 163 52 = some (.iload_n 1, 1) := pv_dec_of b163 (by decide +kernel)
theorem d163_53 : pv_dec 163 53 = some (.ireturn, 1) := pv_dec_of b163 (by decide +kernel)
theorem g163_19 : pv_gf 163 19 = some (0, 1) := pv_gfo_of o163 G2_19
theorem g163_163 : pv_gf 163 163 = some (2, 1) := pv_gfo_of o163 G2_163
theorem k163_129 : pv_kV 163 129 64 2 0 1 := pv_kV_of o163 Y2_129 V64 (by decide +kernel)
theorem k163_298 : pv_kS 163 298 161 2 10 := pv_kS_of o163 Y2_298 Z161 (by decide +kernel)
theorem o165 : pv_own 165 = "AngleNet" := by decide +kernel
theorem b165 : pv_bc 165 = prog_1_method_41_code := pv_bcof (i := 165) rfl
theorem m165 : pv_mL 165 = 1 := by decide +kernel
theorem tt165 : pv_rt 165 = some .boolean := by decide +kernel
theorem d165_0 : pv_dec 165 0 = some (.iload_n 0, 1) := pv_dec_of b165 (by decide +kernel)
theorem d165_1 : pv_dec 165 1 = some (.ifCond .lt 12, 3) := pv_dec_of b165 (by decide +kernel)
theorem d165_4 : pv_dec 165 4 = some (.iload_n 0, 1) := pv_dec_of b165 (by decide +kernel)
theorem d165_5 : pv_dec 165 5 = some (.iconst 4, 1) := pv_dec_of b165 (by decide +kernel)
theorem d165_6 : pv_dec 165 6 = some (.if_icmp .ge 7, 3) := pv_dec_of b165 (by decide +kernel)
theorem d165_9 : pv_dec 165 9 = some (.iconst 1, 1) := pv_dec_of b165 (by decide +kernel)
theorem d165_10 : pv_dec 165 10 = some (.goto 4, 3) := pv_dec_of b165 (by decide +kernel)
theorem d165_13 : pv_dec 165 13 = some (.iconst 0, 1) := pv_dec_of b165 (by decide +kernel)
theorem d165_14 : pv_dec 165 14 = some (.ireturn, 1) := pv_dec_of b165 (by decide +kernel)
theorem o167 : pv_own 167 = "AngleNet" := by decide +kernel
theorem b167 : pv_bc 167 = prog_1_method_42_code := pv_bcof (i := 167) rfl
theorem m167 : pv_mL 167 = 6 := by decide +kernel
theorem tt167 : pv_rt 167 = some .int := by decide +kernel
theorem d167_0 : pv_dec 167 0 = some (.iload_n 1, 1) := pv_dec_of b167 (by decide +kernel)
theorem d167_1 : pv_dec 167 1 = some (.invokestatic 306, 3) := pv_dec_of b167 (by decide +kernel)
theorem d167_4 : pv_dec 167 4 = some (.ifCond .eq 13, 3) := pv_dec_of b167 (by decide +kernel)
theorem d167_7 : pv_dec 167 7 = some (.aload_n 0, 1) := pv_dec_of b167 (by decide +kernel)
theorem d167_8 : pv_dec 167 8 = some (.getfield 19, 3) := pv_dec_of b167 (by decide +kernel)
theorem d167_11 : pv_dec 167 11 = some (.invokevirtual 129, 3) := pv_dec_of b167 (by decide +kernel)
theorem d167_14 : pv_dec 167 14 = some (.ifCond .ne 6, 3) := pv_dec_of b167 (by decide +kernel)
theorem d167_17 : pv_dec 167 17 = some (.bipush (-2), 2) := pv_dec_of b167 (by decide +kernel)
theorem d167_19 : pv_dec 167 19 = some (.ireturn, 1) := pv_dec_of b167 (by decide +kernel)
theorem d167_20 : pv_dec 167 20 = some (.aload_n 0, 1) := pv_dec_of b167 (by decide +kernel)
theorem d167_21 : pv_dec 167 21 = some (.getfield 36, 3) := pv_dec_of b167 (by decide +kernel)
theorem d167_24 : pv_dec 167 24 = some (.iload_n 1, 1) := pv_dec_of b167 (by decide +kernel)
theorem d167_25 : pv_dec 167 25 = some (.aaload, 1) := pv_dec_of b167 (by decide +kernel)
theorem d167_26 : pv_dec 167 26 = some (.astore_n 2, 1) := pv_dec_of b167 (by decide +kernel)
theorem d167_27 : pv_dec 167 27 = some (.aload_n 2, 1) := pv_dec_of b167 (by decide +kernel)
theorem d167_28 : pv_dec 167 28 = some (.getfield 309, 3) := pv_dec_of b167 (by decide +kernel)
theorem d167_31 : pv_dec 167 31 = some (.ifCond .ne 6, 3) := pv_dec_of b167 (by decide +kernel)
theorem d167_34 : pv_dec 167 34 = some (.bipush (-6), 2) := pv_dec_of b167 (by decide +kernel)
theorem d167_36 : pv_dec 167 36 = some (.ireturn, 1) := pv_dec_of b167 (by decide +kernel)
theorem d167_37 : pv_dec 167 37 = some (.aload_n 2, 1) := pv_dec_of b167 (by decide +kernel)
theorem d167_38 : pv_dec 167 38 = some (.getfield 316, 3) := pv_dec_of b167 (by decide +kernel)
theorem d167_41 : pv_dec 167 41 = some (.iconst 3, 1) := pv_dec_of b167 (by decide +kernel)
theorem d167_42 : pv_dec 167 42 = some (.aload_n 0, 1) := pv_dec_of b167 (by decide +kernel)
theorem d167_43 : pv_dec 167 43 = some (.getfield 19, 3) := pv_dec_of b167 (by decide +kernel)
theorem d167_46 : pv_dec 167 46 = some (.getfield 163, 3) := pv_dec_of b167 (by decide +kernel)
theorem d167_49 : pv_dec 167 49 = some (.imul, 1) := pv_dec_of b167 (by decide +kernel)
theorem d167_50 : pv_dec 167 50 = some (.if_icmp .eq 6, 3) := pv_dec_of b167 (by decide +kernel)
theorem d167_53 : pv_dec 167 53 = some (.bipush (-7), 2) := pv_dec_of b167 (by decide +kernel)
theorem d167_55 : pv_dec 167 55 = some (.ireturn, 1) := pv_dec_of b167 (by decide +kernel)
theorem d167_56 : pv_dec 167 56 = some (.aload_n 2, 1) := pv_dec_of b167 (by decide +kernel)
theorem d167_57 : pv_dec 167 57 = some (.aload_n 0, 1) := pv_dec_of b167 (by decide +kernel)
theorem d167_58 : pv_dec 167 58 = some (.getfield 19, 3) := pv_dec_of b167 (by decide +kernel)
theorem d167_61 : pv_dec 167 61 = some (.invokevirtual 326, 3) := pv_dec_of b167 (by decide +kernel)
theorem d167_64 : pv_dec 167 64 = some (.istore_n 3, 1) := pv_dec_of b167 (by decide +kernel)
theorem d167_65 : pv_dec 167 65 = some (.iload_n 3, 1) := pv_dec_of b167 (by decide +kernel)
theorem d167_66 : pv_dec 167 66 = some (.iconst (-1), 1) := pv_dec_of b167 (by decide +kernel)
theorem d167_67 : pv_dec 167 67 = some (.if_icmp .eq 8, 3) := pv_dec_of b167 (by decide +kernel)
theorem d167_70 : pv_dec 167 70 = some (.bipush 100, 2) := pv_dec_of b167 (by decide +kernel)
theorem d167_72 : pv_dec 167 72 = some (.iload_n 3, 1) := pv_dec_of b167 (by decide +kernel)
theorem d167_73 : pv_dec 167 73 = some (.iadd, 1) := pv_dec_of b167 (by decide +kernel)
theorem d167_74 : pv_dec 167 74 = some (.ireturn, 1) := pv_dec_of b167 (by decide +kernel)
theorem d167_75 : pv_dec 167 75 = some (.aload_n 2, 1) := pv_dec_of b167 (by decide +kernel)
theorem d167_76 : pv_dec 167 76 = some (.aload_n 0, 1) := pv_dec_of b167 (by decide +kernel)
theorem d167_77 : pv_dec 167 77 = some (.getfield 19, 3) := pv_dec_of b167 (by decide +kernel)
theorem d167_80 : pv_dec 167 80 = some (.invokevirtual 329, 3) := pv_dec_of b167 (by decide +kernel)
theorem d167_83 : pv_dec 167 83 = some (.istore 4, 2) := pv_dec_of b167 (by decide +kernel)
theorem d167_85 : pv_dec 167 85 = some (.iload 4, 2) := pv_dec_of b167 (by decide +kernel)
theorem d167_87 : pv_dec 167 87 = some (.iconst (-1), 1) := pv_dec_of b167 (by decide +kernel)
theorem d167_88 : pv_dec 167 88 = some (.if_icmp .eq 10, 3) := pv_dec_of b167 (by decide +kernel)
theorem d167_91 : pv_dec 167 91 = some (.sipush 200, 3) := pv_dec_of b167 (by decide +kernel)
theorem d167_94 : pv_dec 167 94 = some (.iload 4, 2) := pv_dec_of b167 (by decide +kernel)
theorem d167_96 : pv_dec 167 96 = some (.iadd, 1) := pv_dec_of b167 (by decide +kernel)
theorem d167_97 : pv_dec 167 97 = some (.ireturn, 1) := pv_dec_of b167 (by decide +kernel)
theorem d167_98 : pv_dec 167 98 = some (.aload_n 2, 1) := pv_dec_of b167 (by decide +kernel)
theorem d167_99 : pv_dec 167 99 = some (.aload_n 0, 1) := pv_dec_of b167 (by decide +kernel)
theorem d167_100 : pv_dec 167 100 = some (.getfield 19, 3) := pv_dec_of b167 (by decide +kernel)
theorem d167_103 : pv_dec 167 103 = some (.invokevirtual 332, 3) := pv_dec_of b167 (by decide +kernel)
theorem d167_106 : pv_dec 167 106 = some (.istore 5, 2) := pv_dec_of b167 (by decide +kernel)
theorem d167_108 : pv_dec 167 108 = some (.iload 5, 2) := pv_dec_of b167 (by decide +kernel)
theorem d167_110 : pv_dec 167 110 = some (.iconst (-1), 1) := pv_dec_of b167 (by decide +kernel)
theorem d167_111 : pv_dec 167 111 = some (.if_icmp .eq 12, 3) := pv_dec_of b167 (by decide +kernel)
theorem d167_114 : pv_dec 167 114 = some (.sipush 300, 3) := pv_dec_of b167 (by decide +kernel)
theorem d167_117 : pv_dec 167 117 = some (.iload 5, 2) := pv_dec_of b167 (by decide +kernel)
theorem d167_119 : pv_dec 167 119 = some (.iadd, 1) := pv_dec_of b167 (by decide +kernel)
theorem d167_120 : pv_dec 167 120 = some (.goto 4, 3) := pv_dec_of b167 (by decide +kernel)
theorem d167_123 : pv_dec 167 123 = some (.iconst 0, 1) := pv_dec_of b167 (by decide +kernel)
theorem d167_124 : pv_dec 167 124 = some (.ireturn, 1) := pv_dec_of b167 (by decide +kernel)
theorem g167_19 : pv_gf 167 19 = some (0, 1) := pv_gfo_of o167 G2_19
theorem G2_36 : pv_gfo "AngleNet" 36 = some (0, 5) := by decide +kernel
theorem g167_36 : pv_gf 167 36 = some (0, 5) := pv_gfo_of o167 G2_36
theorem g167_163 : pv_gf 167 163 = some (2, 1) := pv_gfo_of o167 G2_163
theorem G2_309 : pv_gfo "AngleNet" 309 = some (3, 0) := by decide +kernel
theorem g167_309 : pv_gf 167 309 = some (3, 0) := pv_gfo_of o167 G2_309
theorem G2_316 : pv_gfo "AngleNet" 316 = some (3, 2) := by decide +kernel
theorem g167_316 : pv_gf 167 316 = some (3, 2) := pv_gfo_of o167 G2_316
theorem k167_129 : pv_kV 167 129 64 2 0 1 := pv_kV_of o167 Y2_129 V64 (by decide +kernel)
theorem Y2_306 : pv_mlo "AngleNet" 306 = some (⟨"AngleNet", "isSlot", "(I)Z"⟩, none) := by decide +kernel
theorem Z165 : pv_cS 165 1 1 ⟨"AngleNet", "isSlot", "(I)Z"⟩ = true := by decide +kernel
theorem k167_306 : pv_kS 167 306 165 1 1 := pv_kS_of o167 Y2_306 Z165 (by decide +kernel)
theorem Y2_326 : pv_mlo "AngleNet" 326 = some (⟨"AngleNet$Row", "wrongThird", "(LAngleNet$Net;)I"⟩, none) := by decide +kernel
theorem V168 : pv_cV 168 3 1 9 ⟨"AngleNet$Row", "wrongThird", "(LAngleNet$Net;)I"⟩ = true := by decide +kernel
theorem k167_326 : pv_kV 167 326 168 3 1 9 := pv_kV_of o167 Y2_326 V168 (by decide +kernel)
theorem Y2_329 : pv_mlo "AngleNet" 329 = some (⟨"AngleNet$Row", "wrongPost", "(LAngleNet$Net;)I"⟩, none) := by decide +kernel
theorem V169 : pv_cV 169 3 1 6 ⟨"AngleNet$Row", "wrongPost", "(LAngleNet$Net;)I"⟩ = true := by decide +kernel
theorem k167_329 : pv_kV 167 329 169 3 1 6 := pv_kV_of o167 Y2_329 V169 (by decide +kernel)
theorem Y2_332 : pv_mlo "AngleNet" 332 = some (⟨"AngleNet$Row", "wrongCorner", "(LAngleNet$Net;)I"⟩, none) := by decide +kernel
theorem V170 : pv_cV 170 3 1 3 ⟨"AngleNet$Row", "wrongCorner", "(LAngleNet$Net;)I"⟩ = true := by decide +kernel
theorem k167_332 : pv_kV 167 332 170 3 1 3 := pv_kV_of o167 Y2_332 V170 (by decide +kernel)
theorem o173 : pv_own 173 = "AngleNet" := by decide +kernel
theorem b173 : pv_bc 173 = prog_1_method_44_code := pv_bcof (i := 173) rfl
theorem m173 : pv_mL 173 = 3 := by decide +kernel
theorem tt173 : pv_rt 173 = some .int := by decide +kernel
theorem d173_0 : pv_dec 173 0 = some (.iconst 0, 1) := pv_dec_of b173 (by decide +kernel)
theorem d173_1 : pv_dec 173 1 = some (.istore_n 1, 1) := pv_dec_of b173 (by decide +kernel)
theorem d173_2 : pv_dec 173 2 = some (.iconst 0, 1) := pv_dec_of b173 (by decide +kernel)
theorem d173_3 : pv_dec 173 3 = some (.istore_n 2, 1) := pv_dec_of b173 (by decide +kernel)
theorem d173_4 : pv_dec 173 4 = some (.iload_n 2, 1) := pv_dec_of b173 (by decide +kernel)
theorem d173_5 : pv_dec 173 5 = some (.iconst 4, 1) := pv_dec_of b173 (by decide +kernel)
theorem d173_6 : pv_dec 173 6 = some (.if_icmp .ge 29, 3) := pv_dec_of b173 (by decide +kernel)
theorem d173_9 : pv_dec 173 9 = some (.iload_n 1, 1) := pv_dec_of b173 (by decide +kernel)
theorem d173_10 : pv_dec 173 10 = some (.aload_n 0, 1) := pv_dec_of b173 (by decide +kernel)
theorem d173_11 : pv_dec 173 11 = some (.getfield 36, 3) := pv_dec_of b173 (by decide +kernel)
theorem d173_14 : pv_dec 173 14 = some (.iload_n 2, 1) := pv_dec_of b173 (by decide +kernel)
theorem d173_15 : pv_dec 173 15 = some (.aaload, 1) := pv_dec_of b173 (by decide +kernel)
theorem d173_16 : pv_dec 173 16 = some (.getfield 309, 3) := pv_dec_of b173 (by decide +kernel)
theorem d173_19 : pv_dec 173 19 = some (.ifCond .eq 7, 3) := pv_dec_of b173 (by decide +kernel)
theorem d173_22 : pv_dec 173 22 = some (.iconst 1, 1) := pv_dec_of b173 (by decide +kernel)
theorem d173_23 : pv_dec 173 23 = some (.goto 4, 3) := pv_dec_of b173 (by decide +kernel)
theorem d173_26 : pv_dec 173 26 = some (.iconst 0, 1) := pv_dec_of b173 (by decide +kernel)
theorem d173_27 : pv_dec 173 27 = some (.iadd, 1) := pv_dec_of b173 (by decide +kernel)
theorem d173_28 : pv_dec 173 28 = some (.istore_n 1, 1) := pv_dec_of b173 (by decide +kernel)
theorem d173_29 : pv_dec 173 29 = some (.iinc 2 1, 3) := pv_dec_of b173 (by decide +kernel)
theorem d173_32 : pv_dec 173 32 = some (.goto (-28), 3) := pv_dec_of b173 (by decide +kernel)
theorem d173_35 : pv_dec 173 35 = some (.iload_n 1, 1) := pv_dec_of b173 (by decide +kernel)
theorem d173_36 : pv_dec 173 36 = some (.ireturn, 1) := pv_dec_of b173 (by decide +kernel)
theorem g173_36 : pv_gf 173 36 = some (0, 5) := pv_gfo_of o173 G2_36
theorem g173_309 : pv_gf 173 309 = some (3, 0) := pv_gfo_of o173 G2_309
theorem o171 : pv_own 171 = "AngleNet" := by decide +kernel
theorem b171 : pv_bc 171 = prog_1_method_43_code := pv_bcof (i := 171) rfl
theorem m171 : pv_mL 171 = 2 := by decide +kernel
theorem tt171 : pv_rt 171 = some .int := by decide +kernel
theorem d171_0 : pv_dec 171 0 = some (.iload_n 1, 1) := pv_dec_of b171 (by decide +kernel)
theorem d171_1 : pv_dec 171 1 = some (.tableswitch 152 0 10 #[59, 67, 75, 83, 91, 99, 107, 123, 131, 139, 147], 59) := pv_dec_of b171 (by decide +kernel)
theorem d171_60 : pv_dec 171 60 = some (.aload_n 0, 1) := pv_dec_of b171 (by decide +kernel)
theorem d171_61 : pv_dec 171 61 = some (.getfield 19, 3) := pv_dec_of b171 (by decide +kernel)
theorem d171_64 : pv_dec 171 64 = some (.getfield 160, 3) := pv_dec_of b171 (by decide +kernel)
theorem d171_67 : pv_dec 171 67 = some (.ireturn, 1) := pv_dec_of b171 (by decide +kernel)
theorem d171_68 : pv_dec 171 68 = some (.aload_n 0, 1) := pv_dec_of b171 (by decide +kernel)
theorem d171_69 : pv_dec 171 69 = some (.getfield 19, 3) := pv_dec_of b171 (by decide +kernel)
theorem d171_72 : pv_dec 171 72 = some (.getfield 163, 3) := pv_dec_of b171 (by decide +kernel)
theorem d171_75 : pv_dec 171 75 = some (.ireturn, 1) := pv_dec_of b171 (by decide +kernel)
theorem d171_76 : pv_dec 171 76 = some (.aload_n 0, 1) := pv_dec_of b171 (by decide +kernel)
theorem d171_77 : pv_dec 171 77 = some (.getfield 19, 3) := pv_dec_of b171 (by decide +kernel)
theorem d171_80 : pv_dec 171 80 = some (.invokevirtual 229, 3) := pv_dec_of b171 (by decide +kernel)
theorem d171_83 : pv_dec 171 83 = some (.ireturn, 1) := pv_dec_of b171 (by decide +kernel)
theorem d171_84 : pv_dec 171 84 = some (.aload_n 0, 1) := pv_dec_of b171 (by decide +kernel)
theorem d171_85 : pv_dec 171 85 = some (.getfield 19, 3) := pv_dec_of b171 (by decide +kernel)
theorem d171_88 : pv_dec 171 88 = some (.getfield 81, 3) := pv_dec_of b171 (by decide +kernel)
theorem d171_91 : pv_dec 171 91 = some (.ireturn, 1) := pv_dec_of b171 (by decide +kernel)
theorem d171_92 : pv_dec 171 92 = some (.aload_n 0, 1) := pv_dec_of b171 (by decide +kernel)
theorem d171_93 : pv_dec 171 93 = some (.getfield 10, 3) := pv_dec_of b171 (by decide +kernel)
theorem d171_96 : pv_dec 171 96 = some (.getfield 62, 3) := pv_dec_of b171 (by decide +kernel)
theorem d171_99 : pv_dec 171 99 = some (.ireturn, 1) := pv_dec_of b171 (by decide +kernel)
theorem d171_100 : pv_dec 171 100 = some (.aload_n 0, 1) := pv_dec_of b171 (by decide +kernel)
theorem d171_101 : pv_dec 171 101 = some (.getfield 19, 3) := pv_dec_of b171 (by decide +kernel)
theorem d171_104 : pv_dec 171 104 = some (.getfield 207, 3) := pv_dec_of b171 (by decide +kernel)
theorem d171_107 : pv_dec 171 107 = some (.ireturn, 1) := pv_dec_of b171 (by decide +kernel)
theorem d171_108 : pv_dec 171 108 = some (.aload_n 0, 1) := pv_dec_of b171 (by decide +kernel)
theorem d171_109 : pv_dec 171 109 = some (.getfield 19, 3) := pv_dec_of b171 (by decide +kernel)
theorem d171_112 : pv_dec 171 112 = some (.getfield 217, 3) := pv_dec_of b171 (by decide +kernel)
theorem d171_115 : pv_dec 171 115 = some (.aload_n 0, 1) := pv_dec_of b171 (by decide +kernel)
theorem d171_116 : pv_dec 171 116 = some (.getfield 19, 3) := pv_dec_of b171 (by decide +kernel)
theorem d171_119 : pv_dec 171 119 = some (.getfield 207, 3) := pv_dec_of b171 (by decide +kernel)
theorem d171_122 : pv_dec 171 122 = some (.isub, 1) := pv_dec_of b171 (by decide +kernel)
theorem d171_123 : pv_dec 171 123 = some (.ireturn, 1) := pv_dec_of b171 (by decide +kernel)
theorem d171_124 : pv_dec 171 124 = some (.aload_n 0, 1) := pv_dec_of b171 (by decide +kernel)
theorem d171_125 : pv_dec 171 125 = some (.getfield 19, 3) := pv_dec_of b171 (by decide +kernel)
theorem d171_128 : pv_dec 171 128 = some (.getfield 335, 3) := pv_dec_of b171 (by decide +kernel)
theorem d171_131 : pv_dec 171 131 = some (.ireturn, 1) := pv_dec_of b171 (by decide +kernel)
theorem d171_132 : pv_dec 171 132 = some (.aload_n 0, 1) := pv_dec_of b171 (by decide +kernel)
theorem d171_133 : pv_dec 171 133 = some (.getfield 19, 3) := pv_dec_of b171 (by decide +kernel)
theorem d171_136 : pv_dec 171 136 = some (.getfield 338, 3) := pv_dec_of b171 (by decide +kernel)
theorem d171_139 : pv_dec 171 139 = some (.ireturn, 1) := pv_dec_of b171 (by decide +kernel)
theorem d171_140 : pv_dec 171 140 = some (.aload_n 0, 1) := pv_dec_of b171 (by decide +kernel)
theorem d171_141 : pv_dec 171 141 = some (.getfield 19, 3) := pv_dec_of b171 (by decide +kernel)
theorem d171_144 : pv_dec 171 144 = some (.invokevirtual 341, 3) := pv_dec_of b171 (by decide +kernel)
theorem d171_147 : pv_dec 171 147 = some (.ireturn, 1) := pv_dec_of b171 (by decide +kernel)
theorem d171_148 : pv_dec 171 148 = some (.aload_n 0, 1) := pv_dec_of b171 (by decide +kernel)
theorem d171_149 : pv_dec 171 149 = some (.invokevirtual 344, 3) := pv_dec_of b171 (by decide +kernel)
theorem d171_152 : pv_dec 171 152 = some (.ireturn, 1) := pv_dec_of b171 (by decide +kernel)
theorem d171_153 : pv_dec 171 153 = some (.iconst (-1), 1) := pv_dec_of b171 (by decide +kernel)
theorem d171_154 : pv_dec 171 154 = some (.ireturn, 1) := pv_dec_of b171 (by decide +kernel)
theorem g171_10 : pv_gf 171 10 = some (0, 0) := pv_gfo_of o171 G2_10
theorem g171_19 : pv_gf 171 19 = some (0, 1) := pv_gfo_of o171 G2_19
theorem g171_62 : pv_gf 171 62 = some (1, 0) := pv_gfo_of o171 G2_62
theorem g171_81 : pv_gf 171 81 = some (2, 2) := pv_gfo_of o171 G2_81
theorem g171_160 : pv_gf 171 160 = some (2, 0) := pv_gfo_of o171 G2_160
theorem g171_163 : pv_gf 171 163 = some (2, 1) := pv_gfo_of o171 G2_163
theorem G2_207 : pv_gfo "AngleNet" 207 = some (2, 14) := by decide +kernel
theorem g171_207 : pv_gf 171 207 = some (2, 14) := pv_gfo_of o171 G2_207
theorem G2_217 : pv_gfo "AngleNet" 217 = some (2, 15) := by decide +kernel
theorem g171_217 : pv_gf 171 217 = some (2, 15) := pv_gfo_of o171 G2_217
theorem G2_335 : pv_gfo "AngleNet" 335 = some (2, 3) := by decide +kernel
theorem g171_335 : pv_gf 171 335 = some (2, 3) := pv_gfo_of o171 G2_335
theorem G2_338 : pv_gfo "AngleNet" 338 = some (2, 4) := by decide +kernel
theorem g171_338 : pv_gf 171 338 = some (2, 4) := pv_gfo_of o171 G2_338
theorem Y2_229 : pv_mlo "AngleNet" 229 = some (⟨"AngleNet$Net", "sideCount", "()I"⟩, none) := by decide +kernel
theorem k171_229 : pv_kV 171 229 68 2 0 3 := pv_kV_of o171 Y2_229 V68 (by decide +kernel)
theorem Y2_341 : pv_mlo "AngleNet" 341 = some (⟨"AngleNet$Net", "placedPosts", "()I"⟩, none) := by decide +kernel
theorem V172 : pv_cV 172 2 0 3 ⟨"AngleNet$Net", "placedPosts", "()I"⟩ = true := by decide +kernel
theorem k171_341 : pv_kV 171 341 172 2 0 3 := pv_kV_of o171 Y2_341 V172 (by decide +kernel)
theorem Y2_344 : pv_mlo "AngleNet" 344 = some (⟨"AngleNet", "slotsInUse", "()I"⟩, none) := by decide +kernel
theorem V173 : pv_cV 173 0 0 3 ⟨"AngleNet", "slotsInUse", "()I"⟩ = true := by decide +kernel
theorem k171_344 : pv_kV 171 344 173 0 0 3 := pv_kV_of o171 Y2_344 V173 (by decide +kernel)
theorem o174 : pv_own 174 = "AngleNet" := by decide +kernel
theorem b174 : pv_bc 174 = prog_1_method_45_code := pv_bcof (i := 174) rfl
theorem m174 : pv_mL 174 = 2 := by decide +kernel
theorem tt174 : pv_rt 174 = some .int := by decide +kernel
theorem d174_0 : pv_dec 174 0 = some (.iload_n 1, 1) := pv_dec_of b174 (by decide +kernel)
theorem d174_1 : pv_dec 174 1 = some (.ifCond .lt 8, 3) := pv_dec_of b174 (by decide +kernel)
theorem d174_4 : pv_dec 174 4 = some (.iload_n 1, 1) := pv_dec_of b174 (by decide +kernel)
theorem d174_5 : pv_dec 174 5 = some (.iconst 3, 1) := pv_dec_of b174 (by decide +kernel)
theorem d174_6 : pv_dec 174 6 = some (.if_icmp .lt 6, 3) := pv_dec_of b174 (by decide +kernel)
theorem d174_9 : pv_dec 174 9 = some (.bipush (-2), 2) := pv_dec_of b174 (by decide +kernel)
theorem d174_11 : pv_dec 174 11 = some (.ireturn, 1) := pv_dec_of b174 (by decide +kernel)
theorem d174_12 : pv_dec 174 12 = some (.aload_n 0, 1) := pv_dec_of b174 (by decide +kernel)
theorem d174_13 : pv_dec 174 13 = some (.getfield 26, 3) := pv_dec_of b174 (by decide +kernel)
theorem d174_16 : pv_dec 174 16 = some (.iload_n 1, 1) := pv_dec_of b174 (by decide +kernel)
theorem d174_17 : pv_dec 174 17 = some (.aaload, 1) := pv_dec_of b174 (by decide +kernel)
theorem d174_18 : pv_dec 174 18 = some (.aload_n 0, 1) := pv_dec_of b174 (by decide +kernel)
theorem d174_19 : pv_dec 174 19 = some (.getfield 19, 3) := pv_dec_of b174 (by decide +kernel)
theorem d174_22 : pv_dec 174 22 = some (.invokevirtual 77, 3) := pv_dec_of b174 (by decide +kernel)
theorem d174_25 : pv_dec 174 25 = some (.aload_n 0, 1) := pv_dec_of b174 (by decide +kernel)
theorem d174_26 : pv_dec 174 26 = some (.getfield 30, 3) := pv_dec_of b174 (by decide +kernel)
theorem d174_29 : pv_dec 174 29 = some (.iload_n 1, 1) := pv_dec_of b174 (by decide +kernel)
theorem d174_30 : pv_dec 174 30 = some (.iconst 1, 1) := pv_dec_of b174 (by decide +kernel)
theorem d174_31 : pv_dec 174 31 = some (.bastore, 1) := pv_dec_of b174 (by decide +kernel)
theorem d174_32 : pv_dec 174 32 = some (.iconst 0, 1) := pv_dec_of b174 (by decide +kernel)
theorem d174_33 : pv_dec 174 33 = some (.ireturn, 1) := pv_dec_of b174 (by decide +kernel)
theorem g174_19 : pv_gf 174 19 = some (0, 1) := pv_gfo_of o174 G2_19
theorem G2_26 : pv_gfo "AngleNet" 26 = some (0, 3) := by decide +kernel
theorem g174_26 : pv_gf 174 26 = some (0, 3) := pv_gfo_of o174 G2_26
theorem G2_30 : pv_gfo "AngleNet" 30 = some (0, 4) := by decide +kernel
theorem g174_30 : pv_gf 174 30 = some (0, 4) := pv_gfo_of o174 G2_30
theorem k174_77 : pv_kV 174 77 52 2 1 2 := pv_kV_of o174 Y2_77 V52 (by decide +kernel)
theorem o175 : pv_own 175 = "AngleNet" := by decide +kernel
theorem b175 : pv_bc 175 = prog_1_method_46_code := pv_bcof (i := 175) rfl
theorem m175 : pv_mL 175 = 2 := by decide +kernel
theorem tt175 : pv_rt 175 = some .int := by decide +kernel
theorem d175_0 : pv_dec 175 0 = some (.iload_n 1, 1) := pv_dec_of b175 (by decide +kernel)
theorem d175_1 : pv_dec 175 1 = some (.ifCond .lt 8, 3) := pv_dec_of b175 (by decide +kernel)
theorem d175_4 : pv_dec 175 4 = some (.iload_n 1, 1) := pv_dec_of b175 (by decide +kernel)
theorem d175_5 : pv_dec 175 5 = some (.iconst 3, 1) := pv_dec_of b175 (by decide +kernel)
theorem d175_6 : pv_dec 175 6 = some (.if_icmp .lt 6, 3) := pv_dec_of b175 (by decide +kernel)
theorem d175_9 : pv_dec 175 9 = some (.bipush (-2), 2) := pv_dec_of b175 (by decide +kernel)
theorem d175_11 : pv_dec 175 11 = some (.ireturn, 1) := pv_dec_of b175 (by decide +kernel)
theorem d175_12 : pv_dec 175 12 = some (.aload_n 0, 1) := pv_dec_of b175 (by decide +kernel)
theorem d175_13 : pv_dec 175 13 = some (.getfield 30, 3) := pv_dec_of b175 (by decide +kernel)
theorem d175_16 : pv_dec 175 16 = some (.iload_n 1, 1) := pv_dec_of b175 (by decide +kernel)
theorem d175_17 : pv_dec 175 17 = some (.baload, 1) := pv_dec_of b175 (by decide +kernel)
theorem d175_18 : pv_dec 175 18 = some (.ifCond .ne 6, 3) := pv_dec_of b175 (by decide +kernel)
theorem d175_21 : pv_dec 175 21 = some (.bipush (-6), 2) := pv_dec_of b175 (by decide +kernel)
theorem d175_23 : pv_dec 175 23 = some (.ireturn, 1) := pv_dec_of b175 (by decide +kernel)
theorem d175_24 : pv_dec 175 24 = some (.aload_n 0, 1) := pv_dec_of b175 (by decide +kernel)
theorem d175_25 : pv_dec 175 25 = some (.getfield 19, 3) := pv_dec_of b175 (by decide +kernel)
theorem d175_28 : pv_dec 175 28 = some (.aload_n 0, 1) := pv_dec_of b175 (by decide +kernel)
theorem d175_29 : pv_dec 175 29 = some (.getfield 26, 3) := pv_dec_of b175 (by decide +kernel)
theorem d175_32 : pv_dec 175 32 = some (.iload_n 1, 1) := pv_dec_of b175 (by decide +kernel)
theorem d175_33 : pv_dec 175 33 = some (.aaload, 1) := pv_dec_of b175 (by decide +kernel)
theorem d175_34 : pv_dec 175 34 = some (.invokevirtual 77, 3) := pv_dec_of b175 (by decide +kernel)
theorem d175_37 : pv_dec 175 37 = some (.iconst 0, 1) := pv_dec_of b175 (by decide +kernel)
theorem d175_38 : pv_dec 175 38 = some (.ireturn, 1) := pv_dec_of b175 (by decide +kernel)
theorem g175_19 : pv_gf 175 19 = some (0, 1) := pv_gfo_of o175 G2_19
theorem g175_26 : pv_gf 175 26 = some (0, 3) := pv_gfo_of o175 G2_26
theorem g175_30 : pv_gf 175 30 = some (0, 4) := pv_gfo_of o175 G2_30
theorem k175_77 : pv_kV 175 77 52 2 1 2 := pv_kV_of o175 Y2_77 V52 (by decide +kernel)
theorem o176 : pv_own 176 = "AngleNet" := by decide +kernel
theorem b176 : pv_bc 176 = prog_1_method_47_code := pv_bcof (i := 176) rfl
theorem m176 : pv_mL 176 = 4 := by decide +kernel
theorem tt176 : pv_rt 176 = some .int := by decide +kernel
theorem d176_0 : pv_dec 176 0 = some (.iload_n 1, 1) := pv_dec_of b176 (by decide +kernel)
theorem d176_1 : pv_dec 176 1 = some (.invokestatic 306, 3) := pv_dec_of b176 (by decide +kernel)
theorem d176_4 : pv_dec 176 4 = some (.ifCond .eq 18, 3) := pv_dec_of b176 (by decide +kernel)
theorem d176_7 : pv_dec 176 7 = some (.iload_n 2, 1) := pv_dec_of b176 (by decide +kernel)
theorem d176_8 : pv_dec 176 8 = some (.ifCond .lt 14, 3) := pv_dec_of b176 (by decide +kernel)
theorem d176_11 : pv_dec 176 11 = some (.iload_n 2, 1) := pv_dec_of b176 (by decide +kernel)
theorem d176_12 : pv_dec 176 12 = some (.iconst 4, 1) := pv_dec_of b176 (by decide +kernel)
theorem d176_13 : pv_dec 176 13 = some (.if_icmp .ge 9, 3) := pv_dec_of b176 (by decide +kernel)
theorem d176_16 : pv_dec 176 16 = some (.iload_n 3, 1) := pv_dec_of b176 (by decide +kernel)
theorem d176_17 : pv_dec 176 17 = some (.bipush 60, 2) := pv_dec_of b176 (by decide +kernel)
theorem d176_19 : pv_dec 176 19 = some (.if_icmp .le 6, 3) := pv_dec_of b176 (by decide +kernel)
theorem d176_22 : pv_dec 176 22 = some (.bipush (-2), 2) := pv_dec_of b176 (by decide +kernel)
theorem d176_24 : pv_dec 176 24 = some (.ireturn, 1) := pv_dec_of b176 (by decide +kernel)
theorem d176_25 : pv_dec 176 25 = some (.iload_n 3, 1) := pv_dec_of b176 (by decide +kernel)
theorem d176_26 : pv_dec 176 26 = some (.ifCond .ge 6, 3) := pv_dec_of b176 (by decide +kernel)
theorem d176_29 : pv_dec 176 29 = some (.bipush (-3), 2) := pv_dec_of b176 (by decide +kernel)
theorem d176_31 : pv_dec 176 31 = some (.ireturn, 1) := pv_dec_of b176 (by decide +kernel)
theorem d176_32 : pv_dec 176 32 = some (.aload_n 0, 1) := pv_dec_of b176 (by decide +kernel)
theorem d176_33 : pv_dec 176 33 = some (.getfield 36, 3) := pv_dec_of b176 (by decide +kernel)
theorem d176_36 : pv_dec 176 36 = some (.iload_n 1, 1) := pv_dec_of b176 (by decide +kernel)
theorem d176_37 : pv_dec 176 37 = some (.aaload, 1) := pv_dec_of b176 (by decide +kernel)
theorem d176_38 : pv_dec 176 38 = some (.iload_n 2, 1) := pv_dec_of b176 (by decide +kernel)
theorem d176_39 : pv_dec 176 39 = some (.iload_n 3, 1) := pv_dec_of b176 (by decide +kernel)
theorem d176_40 : pv_dec 176 40 = some (.invokevirtual 347, 3) := pv_dec_of b176 (by decide +kernel)
theorem d176_43 : pv_dec 176 43 = some (.iconst 0, 1) := pv_dec_of b176 (by decide +kernel)
theorem d176_44 : pv_dec 176 44 = some (.ireturn, 1) := pv_dec_of b176 (by decide +kernel)
theorem g176_36 : pv_gf 176 36 = some (0, 5) := pv_gfo_of o176 G2_36
theorem k176_306 : pv_kS 176 306 165 1 1 := pv_kS_of o176 Y2_306 Z165 (by decide +kernel)
theorem Y2_347 : pv_mlo "AngleNet" 347 = some (⟨"AngleNet$Row", "begin", "(II)V"⟩, none) := by decide +kernel
theorem V177 : pv_cV 177 3 2 3 ⟨"AngleNet$Row", "begin", "(II)V"⟩ = true := by decide +kernel
theorem k176_347 : pv_kV 176 347 177 3 2 3 := pv_kV_of o176 Y2_347 V177 (by decide +kernel)
theorem o178 : pv_own 178 = "AngleNet" := by decide +kernel
theorem b178 : pv_bc 178 = prog_1_method_48_code := pv_bcof (i := 178) rfl
theorem m178 : pv_mL 178 = 6 := by decide +kernel
theorem tt178 : pv_rt 178 = some .int := by decide +kernel
theorem d178_0 : pv_dec 178 0 = some (.iload_n 1, 1) := pv_dec_of b178 (by decide +kernel)
theorem d178_1 : pv_dec 178 1 = some (.invokestatic 306, 3) := pv_dec_of b178 (by decide +kernel)
theorem d178_4 : pv_dec 178 4 = some (.ifCond .ne 6, 3) := pv_dec_of b178 (by decide +kernel)
theorem d178_7 : pv_dec 178 7 = some (.bipush (-2), 2) := pv_dec_of b178 (by decide +kernel)
theorem d178_9 : pv_dec 178 9 = some (.ireturn, 1) := pv_dec_of b178 (by decide +kernel)
theorem d178_10 : pv_dec 178 10 = some (.aload_n 0, 1) := pv_dec_of b178 (by decide +kernel)
theorem d178_11 : pv_dec 178 11 = some (.getfield 36, 3) := pv_dec_of b178 (by decide +kernel)
theorem d178_14 : pv_dec 178 14 = some (.iload_n 1, 1) := pv_dec_of b178 (by decide +kernel)
theorem d178_15 : pv_dec 178 15 = some (.aaload, 1) := pv_dec_of b178 (by decide +kernel)
theorem d178_16 : pv_dec 178 16 = some (.astore 5, 2) := pv_dec_of b178 (by decide +kernel)
theorem d178_18 : pv_dec 178 18 = some (.aload 5, 2) := pv_dec_of b178 (by decide +kernel)
theorem d178_20 : pv_dec 178 20 = some (.getfield 309, 3) := pv_dec_of b178 (by decide +kernel)
theorem d178_23 : pv_dec 178 23 = some (.ifCond .ne 6, 3) := pv_dec_of b178 (by decide +kernel)
theorem d178_26 : pv_dec 178 26 = some (.bipush (-6), 2) := pv_dec_of b178 (by decide +kernel)
theorem d178_28 : pv_dec 178 28 = some (.ireturn, 1) := pv_dec_of b178 (by decide +kernel)
theorem d178_29 : pv_dec 178 29 = some (.iload_n 2, 1) := pv_dec_of b178 (by decide +kernel)
theorem d178_30 : pv_dec 178 30 = some (.ifCond .lt 12, 3) := pv_dec_of b178 (by decide +kernel)
theorem d178_33 : pv_dec 178 33 = some (.iload_n 2, 1) := pv_dec_of b178 (by decide +kernel)
theorem d178_34 : pv_dec 178 34 = some (.aload 5, 2) := pv_dec_of b178 (by decide +kernel)
theorem d178_36 : pv_dec 178 36 = some (.getfield 316, 3) := pv_dec_of b178 (by decide +kernel)
theorem d178_39 : pv_dec 178 39 = some (.if_icmp .lt 6, 3) := pv_dec_of b178 (by decide +kernel)
theorem d178_42 : pv_dec 178 42 = some (.bipush (-7), 2) := pv_dec_of b178 (by decide +kernel)
theorem d178_44 : pv_dec 178 44 = some (.ireturn, 1) := pv_dec_of b178 (by decide +kernel)
theorem d178_45 : pv_dec 178 45 = some (.aload 5, 2) := pv_dec_of b178 (by decide +kernel)
theorem d178_47 : pv_dec 178 47 = some (.iload_n 2, 1) := pv_dec_of b178 (by decide +kernel)
theorem d178_48 : pv_dec 178 48 = some (.lload_n 3, 1) := pv_dec_of b178 (by decide +kernel)
theorem d178_49 : pv_dec 178 49 = some (.invokevirtual 351, 3) := pv_dec_of b178 (by decide +kernel)
theorem d178_52 : pv_dec 178 52 = some (.iconst 0, 1) := pv_dec_of b178 (by decide +kernel)
theorem d178_53 : pv_dec 178 53 = some (.ireturn, 1) := pv_dec_of b178 (by decide +kernel)
theorem g178_36 : pv_gf 178 36 = some (0, 5) := pv_gfo_of o178 G2_36
theorem g178_309 : pv_gf 178 309 = some (3, 0) := pv_gfo_of o178 G2_309
theorem g178_316 : pv_gf 178 316 = some (3, 2) := pv_gfo_of o178 G2_316
theorem k178_306 : pv_kS 178 306 165 1 1 := pv_kS_of o178 Y2_306 Z165 (by decide +kernel)
theorem Y2_351 : pv_mlo "AngleNet" 351 = some (⟨"AngleNet$Row", "put", "(IJ)V"⟩, none) := by decide +kernel
theorem V179 : pv_cV 179 3 2 4 ⟨"AngleNet$Row", "put", "(IJ)V"⟩ = true := by decide +kernel
theorem k178_351 : pv_kV 178 351 179 3 2 4 := pv_kV_of o178 Y2_351 V179 (by decide +kernel)
theorem o180 : pv_own 180 = "AngleNet" := by decide +kernel
theorem b180 : pv_bc 180 = prog_1_method_49_code := pv_bcof (i := 180) rfl
theorem m180 : pv_mL 180 = 8 := by decide +kernel
theorem tt180 : pv_rt 180 = some .int := by decide +kernel
theorem d180_0 : pv_dec 180 0 = some (.iload_n 1, 1) := pv_dec_of b180 (by decide +kernel)
theorem d180_1 : pv_dec 180 1 = some (.invokestatic 306, 3) := pv_dec_of b180 (by decide +kernel)
theorem d180_4 : pv_dec 180 4 = some (.ifCond .eq 10, 3) := pv_dec_of b180 (by decide +kernel)
theorem d180_7 : pv_dec 180 7 = some (.iload_n 3, 1) := pv_dec_of b180 (by decide +kernel)
theorem d180_8 : pv_dec 180 8 = some (.invokestatic 306, 3) := pv_dec_of b180 (by decide +kernel)
theorem d180_11 : pv_dec 180 11 = some (.ifCond .ne 6, 3) := pv_dec_of b180 (by decide +kernel)
theorem d180_14 : pv_dec 180 14 = some (.bipush (-2), 2) := pv_dec_of b180 (by decide +kernel)
theorem d180_16 : pv_dec 180 16 = some (.ireturn, 1) := pv_dec_of b180 (by decide +kernel)
theorem d180_17 : pv_dec 180 17 = some (.aload_n 0, 1) := pv_dec_of b180 (by decide +kernel)
theorem d180_18 : pv_dec 180 18 = some (.getfield 36, 3) := pv_dec_of b180 (by decide +kernel)
theorem d180_21 : pv_dec 180 21 = some (.iload_n 1, 1) := pv_dec_of b180 (by decide +kernel)
theorem d180_22 : pv_dec 180 22 = some (.aaload, 1) := pv_dec_of b180 (by decide +kernel)
theorem d180_23 : pv_dec 180 23 = some (.astore 6, 2) := pv_dec_of b180 (by decide +kernel)
theorem d180_25 : pv_dec 180 25 = some (.aload_n 0, 1) := pv_dec_of b180 (by decide +kernel)
theorem d180_26 : pv_dec 180 26 = some (.getfield 36, 3) := pv_dec_of b180 (by decide +kernel)
theorem d180_29 : pv_dec 180 29 = some (.iload_n 3, 1) := pv_dec_of b180 (by decide +kernel)
theorem d180_30 : pv_dec 180 30 = some (.aaload, 1) := pv_dec_of b180 (by decide +kernel)
theorem d180_31 : pv_dec 180 31 = some (.astore 7, 2) := pv_dec_of b180 (by decide +kernel)
theorem d180_33 : pv_dec 180 33 = some (.aload 6, 2) := pv_dec_of b180 (by decide +kernel)
theorem d180_35 : pv_dec 180 35 = some (.getfield 309, 3) := pv_dec_of b180 (by decide +kernel)
theorem d180_38 : pv_dec 180 38 = some (.ifCond .eq 11, 3) := pv_dec_of b180 (by decide +kernel)
theorem d180_41 : pv_dec 180 41 = some (.aload 7, 2) := pv_dec_of b180 (by decide +kernel)
theorem d180_43 : pv_dec 180 43 = some (.getfield 309, 3) := pv_dec_of b180 (by decide +kernel)
theorem d180_46 : pv_dec 180 46 = some (.ifCond .ne 6, 3) := pv_dec_of b180 (by decide +kernel)
theorem d180_49 : pv_dec 180 49 = some (.bipush (-6), 2) := pv_dec_of b180 (by decide +kernel)
theorem d180_51 : pv_dec 180 51 = some (.ireturn, 1) := pv_dec_of b180 (by decide +kernel)
theorem d180_52 : pv_dec 180 52 = some (.aload 6, 2) := pv_dec_of b180 (by decide +kernel)
theorem d180_54 : pv_dec 180 54 = some (.getfield 355, 3) := pv_dec_of b180 (by decide +kernel)
theorem d180_57 : pv_dec 180 57 = some (.aload 7, 2) := pv_dec_of b180 (by decide +kernel)
theorem d180_59 : pv_dec 180 59 = some (.getfield 355, 3) := pv_dec_of b180 (by decide +kernel)
theorem d180_62 : pv_dec 180 62 = some (.if_icmp .eq 6, 3) := pv_dec_of b180 (by decide +kernel)
theorem d180_65 : pv_dec 180 65 = some (.bipush (-8), 2) := pv_dec_of b180 (by decide +kernel)
theorem d180_67 : pv_dec 180 67 = some (.ireturn, 1) := pv_dec_of b180 (by decide +kernel)
theorem d180_68 : pv_dec 180 68 = some (.aload 6, 2) := pv_dec_of b180 (by decide +kernel)
theorem d180_70 : pv_dec 180 70 = some (.iload_n 2, 1) := pv_dec_of b180 (by decide +kernel)
theorem d180_71 : pv_dec 180 71 = some (.iload 5, 2) := pv_dec_of b180 (by decide +kernel)
theorem d180_73 : pv_dec 180 73 = some (.invokevirtual 358, 3) := pv_dec_of b180 (by decide +kernel)
theorem d180_76 : pv_dec 180 76 = some (.ifCond .eq 15, 3) := pv_dec_of b180 (by decide +kernel)
theorem d180_79 : pv_dec 180 79 = some (.aload 7, 2) := pv_dec_of b180 (by decide +kernel)
theorem d180_81 : pv_dec 180 81 = some (.iload 4, 2) := pv_dec_of b180 (by decide +kernel)
theorem d180_83 : pv_dec 180 83 = some (.iload 5, 2) := pv_dec_of b180 (by decide +kernel)
theorem d180_85 : pv_dec 180 85 = some (.invokevirtual 358, 3) := pv_dec_of b180 (by decide +kernel)
theorem d180_88 : pv_dec 180 88 = some (.ifCond .ne 6, 3) := pv_dec_of b180 (by decide +kernel)
theorem d180_91 : pv_dec 180 91 = some (.bipush (-7), 2) := pv_dec_of b180 (by decide +kernel)
theorem d180_93 : pv_dec 180 93 = some (.ireturn, 1) := pv_dec_of b180 (by decide +kernel)
theorem d180_94 : pv_dec 180 94 = some (.aload 6, 2) := pv_dec_of b180 (by decide +kernel)
theorem d180_96 : pv_dec 180 96 = some (.getfield 317, 3) := pv_dec_of b180 (by decide +kernel)
theorem d180_99 : pv_dec 180 99 = some (.iload_n 2, 1) := pv_dec_of b180 (by decide +kernel)
theorem d180_100 : pv_dec 180 100 = some (.aload 7, 2) := pv_dec_of b180 (by decide +kernel)
theorem d180_102 : pv_dec 180 102 = some (.getfield 317, 3) := pv_dec_of b180 (by decide +kernel)
theorem d180_105 : pv_dec 180 105 = some (.iload 4, 2) := pv_dec_of b180 (by decide +kernel)
theorem d180_107 : pv_dec 180 107 = some (.iload 5, 2) := pv_dec_of b180 (by decide +kernel)
theorem d180_109 : pv_dec 180 109 = some (.invokestatic 361, 3) := pv_dec_of b180 (by decide +kernel)
theorem d180_112 : pv_dec 180 112 = some (.iconst 0, 1) := pv_dec_of b180 (by decide +kernel)
theorem d180_113 : pv_dec 180 113 = some (.ireturn, 1) := pv_dec_of b180 (by decide +kernel)
theorem g180_36 : pv_gf 180 36 = some (0, 5) := pv_gfo_of o180 G2_36
theorem g180_309 : pv_gf 180 309 = some (3, 0) := pv_gfo_of o180 G2_309
theorem G2_317 : pv_gfo "AngleNet" 317 = some (3, 3) := by decide +kernel
theorem g180_317 : pv_gf 180 317 = some (3, 3) := pv_gfo_of o180 G2_317
theorem G2_355 : pv_gfo "AngleNet" 355 = some (3, 1) := by decide +kernel
theorem g180_355 : pv_gf 180 355 = some (3, 1) := pv_gfo_of o180 G2_355
theorem k180_306 : pv_kS 180 306 165 1 1 := pv_kS_of o180 Y2_306 Z165 (by decide +kernel)
theorem Y2_358 : pv_mlo "AngleNet" 358 = some (⟨"AngleNet$Row", "reaches", "(II)Z"⟩, none) := by decide +kernel
theorem V181 : pv_cV 181 3 2 3 ⟨"AngleNet$Row", "reaches", "(II)Z"⟩ = true := by decide +kernel
theorem k180_358 : pv_kV 180 358 181 3 2 3 := pv_kV_of o180 Y2_358 V181 (by decide +kernel)
theorem k180_361 : pv_kC 180 361 = true := by decide +kernel
