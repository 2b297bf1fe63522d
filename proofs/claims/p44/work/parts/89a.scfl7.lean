theorem o132 : pv_own 132 = "AngleNet$Flips" := by decide +kernel
theorem b132 : pv_bc 132 = prog_5_method_9_code := pv_bcof (i := 132) rfl
theorem m132 : pv_mL 132 = 3 := by decide +kernel
theorem tt132 : pv_rt 132 = none := by decide +kernel
theorem d132_0 : pv_dec 132 0 = some (.aload_n 0, 1) := pv_dec_of b132 (by decide +kernel)
theorem d132_1 : pv_dec 132 1 = some (.getfield 70, 3) := pv_dec_of b132 (by decide +kernel)
theorem d132_4 : pv_dec 132 4 = some (.astore_n 2, 1) := pv_dec_of b132 (by decide +kernel)
theorem d132_5 : pv_dec 132 5 = some (.aload_n 0, 1) := pv_dec_of b132 (by decide +kernel)
theorem d132_6 : pv_dec 132 6 = some (.aload_n 2, 1) := pv_dec_of b132 (by decide +kernel)
theorem d132_7 : pv_dec 132 7 = some (.iload_n 1, 1) := pv_dec_of b132 (by decide +kernel)
theorem d132_8 : pv_dec 132 8 = some (.iaload, 1) := pv_dec_of b132 (by decide +kernel)
theorem d132_9 : pv_dec 132 9 = some (.aload_n 2, 1) := pv_dec_of b132 (by decide +kernel)
theorem d132_10 : pv_dec 132 10 = some (.iload_n 1, 1) := pv_dec_of b132 (by decide +kernel)
theorem d132_11 : pv_dec 132 11 = some (.iconst 1, 1) := pv_dec_of b132 (by decide +kernel)
theorem d132_12 : pv_dec 132 12 = some (.iadd, 1) := pv_dec_of b132 (by decide +kernel)
theorem d132_13 : pv_dec 132 13 = some (.iaload, 1) := pv_dec_of b132 (by decide +kernel)
theorem d132_14 : pv_dec 132 14 = some (.aload_n 2, 1) := pv_dec_of b132 (by decide +kernel)
theorem d132_15 : pv_dec 132 15 = some (.iload_n 1, 1) := pv_dec_of b132 (by decide +kernel)
theorem d132_16 : pv_dec 132 16 = some (.iconst 2, 1) := pv_dec_of b132 (by decide +kernel)
theorem d132_17 : pv_dec 132 17 = some (.iadd, 1) := pv_dec_of b132 (by decide +kernel)
theorem d132_18 : pv_dec 132 18 = some (.iaload, 1) := pv_dec_of b132 (by decide +kernel)
theorem d132_19 : pv_dec 132 19 = some (.aload_n 2, 1) := pv_dec_of b132 (by decide +kernel)
theorem d132_20 : pv_dec 132 20 = some (.iload_n 1, 1) := pv_dec_of b132 (by decide +kernel)
theorem d132_21 : pv_dec 132 21 = some (.iconst 3, 1) := pv_dec_of b132 (by decide +kernel)
theorem d132_22 : pv_dec 132 22 = some (.iadd, 1) := pv_dec_of b132 (by decide +kernel)
theorem d132_23 : pv_dec 132 23 = some (.iaload, 1) := pv_dec_of b132 (by decide +kernel)
theorem d132_24 : pv_dec 132 24 = some (.aload_n 2, 1) := pv_dec_of b132 (by decide +kernel)
theorem d132_25 : pv_dec 132 25 = some (.iload_n 1, 1) := pv_dec_of b132 (by decide +kernel)
theorem d132_26 : pv_dec 132 26 = some (.iconst 4, 1) := pv_dec_of b132 (by decide +kernel)
theorem d132_27 : pv_dec 132 27 = some (.iadd, 1) := pv_dec_of b132 (by decide +kernel)
theorem d132_28 : pv_dec 132 28 = some (.iaload, 1) := pv_dec_of b132 (by decide +kernel)
theorem d132_29 : pv_dec 132 29 = some (.invokevirtual 85, 3) := pv_dec_of b132 (by decide +kernel)
theorem d132_32 : pv_dec 132 32 = some (.return_, 1) := pv_dec_of b132 (by decide +kernel)
theorem G12_70 : pv_gfo "AngleNet$Flips" 70 = some (2, 13) := by decide +kernel
theorem g132_70 : pv_gf 132 70 = some (2, 13) := pv_gfo_of o132 G12_70
theorem Y12_85 : pv_mlo "AngleNet$Flips" 85 = some (⟨"AngleNet$Net", "putThird", "(IIIII)V"⟩, none) := by decide +kernel
theorem k132_85 : pv_kV 132 85 42 2 5 6 := pv_kV_of o132 Y12_85 V42 (by decide +kernel)
