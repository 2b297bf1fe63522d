theorem o128 : pv_own 128 = "AngleNet$Flips" := by decide +kernel
theorem b128 : pv_bc 128 = prog_5_method_5_code := pv_bcof (i := 128) rfl
theorem m128 : pv_mL 128 = 3 := by decide +kernel
theorem tt128 : pv_rt 128 = some .int := by decide +kernel
theorem d128_0 : pv_dec 128 0 = some (.iconst 0, 1) := pv_dec_of b128 (by decide +kernel)
theorem d128_1 : pv_dec 128 1 = some (.istore_n 1, 1) := pv_dec_of b128 (by decide +kernel)
theorem d128_2 : pv_dec 128 2 = some (.iload_n 1, 1) := pv_dec_of b128 (by decide +kernel)
theorem d128_3 : pv_dec 128 3 = some (.aload_n 0, 1) := pv_dec_of b128 (by decide +kernel)
theorem d128_4 : pv_dec 128 4 = some (.getfield 59, 3) := pv_dec_of b128 (by decide +kernel)
theorem d128_7 : pv_dec 128 7 = some (.if_icmp .ge 54, 3) := pv_dec_of b128 (by decide +kernel)
theorem d128_10 : pv_dec 128 10 = some (.iload_n 1, 1) := pv_dec_of b128 (by decide +kernel)
theorem d128_11 : pv_dec 128 11 = some (.iconst 1, 1) := pv_dec_of b128 (by decide +kernel)
theorem d128_12 : pv_dec 128 12 = some (.iadd, 1) := pv_dec_of b128 (by decide +kernel)
theorem d128_13 : pv_dec 128 13 = some (.istore_n 2, 1) := pv_dec_of b128 (by decide +kernel)
theorem d128_14 : pv_dec 128 14 = some (.iload_n 2, 1) := pv_dec_of b128 (by decide +kernel)
theorem d128_15 : pv_dec 128 15 = some (.aload_n 0, 1) := pv_dec_of b128 (by decide +kernel)
theorem d128_16 : pv_dec 128 16 = some (.getfield 59, 3) := pv_dec_of b128 (by decide +kernel)
theorem d128_19 : pv_dec 128 19 = some (.if_icmp .ge 36, 3) := pv_dec_of b128 (by decide +kernel)
theorem d128_22 : pv_dec 128 22 = some (.aload_n 0, 1) := pv_dec_of b128 (by decide +kernel)
theorem d128_23 : pv_dec 128 23 = some (.iload_n 1, 1) := pv_dec_of b128 (by decide +kernel)
theorem d128_24 : pv_dec 128 24 = some (.iload_n 2, 1) := pv_dec_of b128 (by decide +kernel)
theorem d128_25 : pv_dec 128 25 = some (.invokevirtual 18, 3) := pv_dec_of b128 (by decide +kernel)
theorem d128_28 : pv_dec 128 28 = some (.ifCond .eq 21, 3) := pv_dec_of b128 (by decide +kernel)
theorem d128_31 : pv_dec 128 31 = some (.aload_n 0, 1) := pv_dec_of b128 (by decide +kernel)
theorem d128_32 : pv_dec 128 32 = some (.iload_n 1, 1) := pv_dec_of b128 (by decide +kernel)
theorem d128_33 : pv_dec 128 33 = some (.iload_n 2, 1) := pv_dec_of b128 (by decide +kernel)
theorem d128_34 : pv_dec 128 34 = some (.invokestatic 63, 3) := pv_dec_of b128 (by decide +kernel)
theorem d128_37 : pv_dec 128 37 = some (.iconst 4, 1) := pv_dec_of b128 (by decide +kernel)
theorem d128_38 : pv_dec 128 38 = some (.iand, 1) := pv_dec_of b128 (by decide +kernel)
theorem d128_39 : pv_dec 128 39 = some (.ifCond .eq 10, 3) := pv_dec_of b128 (by decide +kernel)
theorem d128_42 : pv_dec 128 42 = some (.bipush 10, 2) := pv_dec_of b128 (by decide +kernel)
theorem d128_44 : pv_dec 128 44 = some (.iload_n 1, 1) := pv_dec_of b128 (by decide +kernel)
theorem d128_45 : pv_dec 128 45 = some (.imul, 1) := pv_dec_of b128 (by decide +kernel)
theorem d128_46 : pv_dec 128 46 = some (.iload_n 2, 1) := pv_dec_of b128 (by decide +kernel)
theorem d128_47 : pv_dec 128 47 = some (.iadd, 1) := pv_dec_of b128 (by decide +kernel)
theorem d128_48 : pv_dec 128 48 = some (.ireturn, 1) := pv_dec_of b128 (by decide +kernel)
theorem d128_49 : pv_dec 128 49 = some (.iinc 2 1, 3) := pv_dec_of b128 (by decide +kernel)
theorem d128_52 : pv_dec 128 52 = some (.goto (-38), 3) := pv_dec_of b128 (by decide +kernel)
theorem d128_55 : pv_dec 128 55 = some (.iinc 1 1, 3) := pv_dec_of b128 (by decide +kernel)
theorem d128_58 : pv_dec 128 58 = some (.goto (-56), 3) := pv_dec_of b128 (by decide +kernel)
theorem d128_61 : pv_dec 128 61 = some (.iconst (-1), 1) := pv_dec_of b128 (by decide +kernel)
theorem d128_62 : pv_dec 128 62 = some (.ireturn, 1) := pv_dec_of b128 (by decide +kernel)
theorem G12_59 : pv_gfo "AngleNet$Flips" 59 = some (2, 0) := by decide +kernel
theorem g128_59 : pv_gf 128 59 = some (2, 0) := pv_gfo_of o128 G12_59
theorem k128_18 : pv_kV 128 18 47 2 2 3 := pv_kV_of o128 Y12_18 V47 (by decide +kernel)
theorem Y12_63 : pv_mlo "AngleNet$Flips" 63 = some (⟨"AngleNet$Flips", "standing", "(LAngleNet$Net;II)I"⟩, none) := by decide +kernel
theorem Z119 : pv_cS 119 3 8 ⟨"AngleNet$Flips", "standing", "(LAngleNet$Net;II)I"⟩ = true := by decide +kernel
theorem k128_63 : pv_kS 128 63 119 3 8 := pv_kS_of o128 Y12_63 Z119 (by decide +kernel)
theorem o118 : pv_own 118 = "AngleNet" := by decide +kernel
theorem b118 : pv_bc 118 = prog_1_method_20_code := pv_bcof (i := 118) rfl
theorem m118 : pv_mL 118 = 3 := by decide +kernel
theorem tt118 : pv_rt 118 = some .int := by decide +kernel
theorem d118_0 : pv_dec 118 0 = some (.aload_n 0, 1) := pv_dec_of b118 (by decide +kernel)
theorem d118_1 : pv_dec 118 1 = some (.getfield 19, 3) := pv_dec_of b118 (by decide +kernel)
theorem d118_4 : pv_dec 118 4 = some (.iload_n 1, 1) := pv_dec_of b118 (by decide +kernel)
theorem d118_5 : pv_dec 118 5 = some (.iload_n 2, 1) := pv_dec_of b118 (by decide +kernel)
theorem d118_6 : pv_dec 118 6 = some (.invokevirtual 194, 3) := pv_dec_of b118 (by decide +kernel)
theorem d118_9 : pv_dec 118 9 = some (.ifCond .ne 6, 3) := pv_dec_of b118 (by decide +kernel)
theorem d118_12 : pv_dec 118 12 = some (.bipush (-2), 2) := pv_dec_of b118 (by decide +kernel)
theorem d118_14 : pv_dec 118 14 = some (.ireturn, 1) := pv_dec_of b118 (by decide +kernel)
theorem d118_15 : pv_dec 118 15 = some (.aload_n 0, 1) := pv_dec_of b118 (by decide +kernel)
theorem d118_16 : pv_dec 118 16 = some (.getfield 19, 3) := pv_dec_of b118 (by decide +kernel)
theorem d118_19 : pv_dec 118 19 = some (.iload_n 1, 1) := pv_dec_of b118 (by decide +kernel)
theorem d118_20 : pv_dec 118 20 = some (.iload_n 2, 1) := pv_dec_of b118 (by decide +kernel)
theorem d118_21 : pv_dec 118 21 = some (.invokestatic 198, 3) := pv_dec_of b118 (by decide +kernel)
theorem d118_24 : pv_dec 118 24 = some (.ireturn, 1) := pv_dec_of b118 (by decide +kernel)
theorem g118_19 : pv_gf 118 19 = some (0, 1) := pv_gfo_of o118 G2_19
theorem k118_194 : pv_kV 118 194 47 2 2 3 := pv_kV_of o118 Y2_194 V47 (by decide +kernel)
theorem Y2_198 : pv_mlo "AngleNet" 198 = some (⟨"AngleNet$Flips", "standing", "(LAngleNet$Net;II)I"⟩, none) := by decide +kernel
theorem k118_198 : pv_kS 118 198 119 3 8 := pv_kS_of o118 Y2_198 Z119 (by decide +kernel)
theorem o127 : pv_own 127 = "AngleNet" := by decide +kernel
theorem b127 : pv_bc 127 = prog_1_method_23_code := pv_bcof (i := 127) rfl
theorem m127 : pv_mL 127 = 1 := by decide +kernel
theorem tt127 : pv_rt 127 = some .int := by decide +kernel
theorem d127_0 : pv_dec 127 0 = some (.aload_n 0, 1) := pv_dec_of b127 (by decide +kernel)
theorem d127_1 : pv_dec 127 1 = some (.getfield 19, 3) := pv_dec_of b127 (by decide +kernel)
theorem d127_4 : pv_dec 127 4 = some (.invokevirtual 129, 3) := pv_dec_of b127 (by decide +kernel)
theorem d127_7 : pv_dec 127 7 = some (.ifCond .ne 6, 3) := pv_dec_of b127 (by decide +kernel)
theorem d127_10 : pv_dec 127 10 = some (.bipush (-2), 2) := pv_dec_of b127 (by decide +kernel)
theorem d127_12 : pv_dec 127 12 = some (.ireturn, 1) := pv_dec_of b127 (by decide +kernel)
theorem d127_13 : pv_dec 127 13 = some (.aload_n 0, 1) := pv_dec_of b127 (by decide +kernel)
theorem d127_14 : pv_dec 127 14 = some (.getfield 19, 3) := pv_dec_of b127 (by decide +kernel)
theorem d127_17 : pv_dec 127 17 = some (.invokestatic 220, 3) := pv_dec_of b127 (by decide +kernel)
theorem d127_20 : pv_dec 127 20 = some (.ireturn, 1) := pv_dec_of b127 (by decide +kernel)
theorem g127_19 : pv_gf 127 19 = some (0, 1) := pv_gfo_of o127 G2_19
theorem k127_129 : pv_kV 127 129 64 2 0 1 := pv_kV_of o127 Y2_129 V64 (by decide +kernel)
theorem Y2_220 : pv_mlo "AngleNet" 220 = some (⟨"AngleNet$Flips", "firstIllegal", "(LAngleNet$Net;)I"⟩, none) := by decide +kernel
theorem Z128 : pv_cS 128 1 3 ⟨"AngleNet$Flips", "firstIllegal", "(LAngleNet$Net;)I"⟩ = true := by decide +kernel
theorem k127_220 : pv_kS 127 220 128 1 3 := pv_kS_of o127 Y2_220 Z128 (by decide +kernel)
