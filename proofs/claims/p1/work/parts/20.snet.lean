theorem o64 : pv_own 64 = "AngleNet$Net" := by decide +kernel
theorem b64 : pv_bc 64 = prog_7_method_6_code := pv_bcof (i := 64) rfl
theorem m64 : pv_mL 64 = 1 := by decide +kernel
theorem tt64 : pv_rt 64 = some .boolean := by decide +kernel
theorem d64_0 : pv_dec 64 0 = some (.aload_n 0, 1) := pv_dec_of b64 (by decide +kernel)
theorem d64_1 : pv_dec 64 1 = some (.getfield 41, 3) := pv_dec_of b64 (by decide +kernel)
theorem d64_4 : pv_dec 64 4 = some (.ifCond .le 7, 3) := pv_dec_of b64 (by decide +kernel)
theorem d64_7 : pv_dec 64 7 = some (.iconst 1, 1) := pv_dec_of b64 (by decide +kernel)
theorem d64_8 : pv_dec 64 8 = some (.goto 4, 3) := pv_dec_of b64 (by decide +kernel)
theorem d64_11 : pv_dec 64 11 = some (.iconst 0, 1) := pv_dec_of b64 (by decide +kernel)
theorem d64_12 : pv_dec 64 12 = some (.ireturn, 1) := pv_dec_of b64 (by decide +kernel)
theorem G0_41 : pv_gfo "AngleNet$Net" 41 = some (2, 0) := by decide +kernel
theorem g64_41 : pv_gf 64 41 = some (2, 0) := pv_gfo_of o64 G0_41
theorem o48 : pv_own 48 = "AngleNet$Net" := by decide +kernel
theorem b48 : pv_bc 48 = prog_7_method_7_code := pv_bcof (i := 48) rfl
theorem m48 : pv_mL 48 = 2 := by decide +kernel
theorem tt48 : pv_rt 48 = some .boolean := by decide +kernel
theorem d48_0 : pv_dec 48 0 = some (.iload_n 1, 1) := pv_dec_of b48 (by decide +kernel)
theorem d48_1 : pv_dec 48 1 = some (.ifCond .lt 15, 3) := pv_dec_of b48 (by decide +kernel)
theorem d48_4 : pv_dec 48 4 = some (.iload_n 1, 1) := pv_dec_of b48 (by decide +kernel)
theorem d48_5 : pv_dec 48 5 = some (.aload_n 0, 1) := pv_dec_of b48 (by decide +kernel)
theorem d48_6 : pv_dec 48 6 = some (.getfield 41, 3) := pv_dec_of b48 (by decide +kernel)
theorem d48_9 : pv_dec 48 9 = some (.if_icmp .ge 7, 3) := pv_dec_of b48 (by decide +kernel)
theorem d48_12 : pv_dec 48 12 = some (.iconst 1, 1) := pv_dec_of b48 (by decide +kernel)
theorem d48_13 : pv_dec 48 13 = some (.goto 4, 3) := pv_dec_of b48 (by decide +kernel)
theorem d48_16 : pv_dec 48 16 = some (.iconst 0, 1) := pv_dec_of b48 (by decide +kernel)
theorem d48_17 : pv_dec 48 17 = some (.ireturn, 1) := pv_dec_of b48 (by decide +kernel)
theorem g48_41 : pv_gf 48 41 = some (2, 0) := pv_gfo_of o48 G0_41
theorem o55 : pv_own 55 = "AngleNet$Net" := by decide +kernel
theorem b55 : pv_bc 55 = prog_7_method_8_code := pv_bcof (i := 55) rfl
theorem m55 : pv_mL 55 = 2 := by decide +kernel
theorem tt55 : pv_rt 55 = some .boolean := by decide +kernel
theorem d55_0 : pv_dec 55 0 = some (.iload_n 1, 1) := pv_dec_of b55 (by decide +kernel)
theorem d55_1 : pv_dec 55 1 = some (.ifCond .lt 15, 3) := pv_dec_of b55 (by decide +kernel)
theorem d55_4 : pv_dec 55 4 = some (.iload_n 1, 1) := pv_dec_of b55 (by decide +kernel)
theorem d55_5 : pv_dec 55 5 = some (.aload_n 0, 1) := pv_dec_of b55 (by decide +kernel)
theorem d55_6 : pv_dec 55 6 = some (.getfield 45, 3) := pv_dec_of b55 (by decide +kernel)
theorem d55_9 : pv_dec 55 9 = some (.if_icmp .ge 7, 3) := pv_dec_of b55 (by decide +kernel)
theorem d55_12 : pv_dec 55 12 = some (.iconst 1, 1) := pv_dec_of b55 (by decide +kernel)
theorem d55_13 : pv_dec 55 13 = some (.goto 4, 3) := pv_dec_of b55 (by decide +kernel)
theorem d55_16 : pv_dec 55 16 = some (.iconst 0, 1) := pv_dec_of b55 (by decide +kernel)
theorem d55_17 : pv_dec 55 17 = some (.ireturn, 1) := pv_dec_of b55 (by decide +kernel)
theorem G0_45 : pv_gfo "AngleNet$Net" 45 = some (2, 1) := by decide +kernel
theorem g55_45 : pv_gf 55 45 = some (2, 1) := pv_gfo_of o55 G0_45
theorem o47 : pv_own 47 = "AngleNet$Net" := by decide +kernel
theorem b47 : pv_bc 47 = prog_7_method_9_code := pv_bcof (i := 47) rfl
theorem m47 : pv_mL 47 = 3 := by decide +kernel
theorem tt47 : pv_rt 47 = some .boolean := by decide +kernel
theorem d47_0 : pv_dec 47 0 = some (.aload_n 0, 1) := pv_dec_of b47 (by decide +kernel)
theorem d47_1 : pv_dec 47 1 = some (.iload_n 1, 1) := pv_dec_of b47 (by decide +kernel)
theorem d47_2 : pv_dec 47 2 = some (.invokevirtual 78, 3) := pv_dec_of b47 (by decide +kernel)
theorem d47_5 : pv_dec 47 5 = some (.ifCond .eq 34, 3) := pv_dec_of b47 (by decide +kernel)
theorem d47_8 : pv_dec 47 8 = some (.aload_n 0, 1) := pv_dec_of b47 (by decide +kernel)
theorem d47_9 : pv_dec 47 9 = some (.iload_n 2, 1) := pv_dec_of b47 (by decide +kernel)
theorem d47_10 : pv_dec 47 10 = some (.invokevirtual 78, 3) := pv_dec_of b47 (by decide +kernel)
theorem d47_13 : pv_dec 47 13 = some (.ifCond .eq 26, 3) := pv_dec_of b47 (by decide +kernel)
theorem d47_16 : pv_dec 47 16 = some (.iload_n 1, 1) := pv_dec_of b47 (by decide +kernel)
theorem d47_17 : pv_dec 47 17 = some (.iload_n 2, 1) := pv_dec_of b47 (by decide +kernel)
theorem d47_18 : pv_dec 47 18 = some (.if_icmp .eq 21, 3) := pv_dec_of b47 (by decide +kernel)
theorem d47_21 : pv_dec 47 21 = some (.aload_n 0, 1) := pv_dec_of b47 (by decide +kernel)
theorem d47_22 : pv_dec 47 22 = some (.getfield 33, 3) := pv_dec_of b47 (by decide +kernel)
theorem d47_25 : pv_dec 47 25 = some (.bipush 10, 2) := pv_dec_of b47 (by decide +kernel)
theorem d47_27 : pv_dec 47 27 = some (.iload_n 1, 1) := pv_dec_of b47 (by decide +kernel)
theorem d47_28 : pv_dec 47 28 = some (.imul, 1) := pv_dec_of b47 (by decide +kernel)
theorem d47_29 : pv_dec 47 29 = some (.iload_n 2, 1) := pv_dec_of b47 (by decide +kernel)
theorem d47_30 : pv_dec 47 30 = some (.iadd, 1) := pv_dec_of b47 (by decide +kernel)
theorem d47_31 : pv_dec 47 31 = some (.iaload, 1) := pv_dec_of b47 (by decide +kernel)
theorem d47_32 : pv_dec 47 32 = some (.ifCond .le 7, 3) := pv_dec_of b47 (by decide +kernel)
theorem d47_35 : pv_dec 47 35 = some (.iconst 1, 1) := pv_dec_of b47 (by decide +kernel)
theorem d47_36 : pv_dec 47 36 = some (.goto 4, 3) := pv_dec_of b47 (by decide +kernel)
theorem d47_39 : pv_dec 47 39 = some (.iconst 0, 1) := pv_dec_of b47 (by decide +kernel)
theorem d47_40 : pv_dec 47 40 = some (.ireturn, 1) := pv_dec_of b47 (by decide +kernel)
theorem Y0_78 : pv_mlo "AngleNet$Net" 78 = some (⟨"AngleNet$Net", "isPost", "(I)Z"⟩, none) := by decide +kernel
theorem V48 : pv_cV 48 2 1 2 ⟨"AngleNet$Net", "isPost", "(I)Z"⟩ = true := by decide +kernel
theorem k47_78 : pv_kV 47 78 48 2 1 2 := pv_kV_of o47 Y0_78 V48 (by decide +kernel)
theorem o112 : pv_own 112 = "AngleNet$Net" := by decide +kernel
theorem b112 : pv_bc 112 = prog_7_method_11_code := pv_bcof (i := 112) rfl
theorem m112 : pv_mL 112 = 2 := by decide +kernel
theorem tt112 : pv_rt 112 = some .boolean := by decide +kernel
theorem d112_0 : pv_dec 112 0 = some (.aload_n 0, 1) := pv_dec_of b112 (by decide +kernel)
theorem d112_1 : pv_dec 112 1 = some (.iload_n 1, 1) := pv_dec_of b112 (by decide +kernel)
theorem d112_2 : pv_dec 112 2 = some (.invokevirtual 78, 3) := pv_dec_of b112 (by decide +kernel)
theorem d112_5 : pv_dec 112 5 = some (.ifCond .eq 17, 3) := pv_dec_of b112 (by decide +kernel)
theorem d112_8 : pv_dec 112 8 = some (.aload_n 0, 1) := pv_dec_of b112 (by decide +kernel)
theorem d112_9 : pv_dec 112 9 = some (.getfield 21, 3) := pv_dec_of b112 (by decide +kernel)
theorem d112_12 : pv_dec 112 12 = some (.iload_n 1, 1) := pv_dec_of b112 (by decide +kernel)
theorem d112_13 : pv_dec 112 13 = some (.iaload, 1) := pv_dec_of b112 (by decide +kernel)
theorem d112_14 : pv_dec 112 14 = some (.iconst (-1), 1) := pv_dec_of b112 (by decide +kernel)
theorem d112_15 : pv_dec 112 15 = some (.if_icmp .eq 7, 3) := pv_dec_of b112 (by decide +kernel)
theorem d112_18 : pv_dec 112 18 = some (.iconst 1, 1) := pv_dec_of b112 (by decide +kernel)
theorem d112_19 : pv_dec 112 19 = some (.goto 4, 3) := pv_dec_of b112 (by decide +kernel)
theorem d112_22 : pv_dec 112 22 = some (.iconst 0, 1) := pv_dec_of b112 (by decide +kernel)
theorem d112_23 : pv_dec 112 23 = some (.ireturn, 1) := pv_dec_of b112 (by decide +kernel)
theorem k112_78 : pv_kV 112 78 48 2 1 2 := pv_kV_of o112 Y0_78 V48 (by decide +kernel)
theorem o62 : pv_own 62 = "AngleNet$Net" := by decide +kernel
theorem b62 : pv_bc 62 = prog_7_method_22_code := pv_bcof (i := 62) rfl
theorem m62 : pv_mL 62 = 5 := by decide +kernel
theorem tt62 : pv_rt 62 = some .int := by decide +kernel
theorem d62_0 : pv_dec 62 0 = some (.iconst 0, 1) := pv_dec_of b62 (by decide +kernel)
theorem d62_1 : pv_dec 62 1 = some (.istore_n 2, 1) := pv_dec_of b62 (by decide +kernel)
theorem d62_2 : pv_dec 62 2 = some (.iconst 0, 1) := pv_dec_of b62 (by decide +kernel)
theorem d62_3 : pv_dec 62 3 = some (.istore_n 3, 1) := pv_dec_of b62 (by decide +kernel)
theorem d62_4 : pv_dec 62 4 = some (.iload_n 3, 1) := pv_dec_of b62 (by decide +kernel)
theorem d62_5 : pv_dec 62 5 = some (.aload_n 0, 1) := pv_dec_of b62 (by decide +kernel)
theorem d62_6 : pv_dec 62 6 = some (.getfield 41, 3) := pv_dec_of b62 (by decide +kernel)
theorem d62_9 : pv_dec 62 9 = some (.if_icmp .ge 55, 3) := pv_dec_of b62 (by decide +kernel)
theorem d62_12 : pv_dec 62 12 = some (.iload_n 3, 1) := pv_dec_of b62 (by decide +kernel)
theorem d62_13 : pv_dec 62 13 = some (.iconst 1, 1) := pv_dec_of b62 (by decide +kernel)
theorem d62_14 : pv_dec 62 14 = some (.iadd, 1) := pv_dec_of b62 (by decide +kernel)
theorem d62_15 : pv_dec 62 15 = some (.istore 4, 2) := pv_dec_of b62 (by decide +kernel)
theorem d62_17 : pv_dec 62 17 = some (.iload 4, 2) := pv_dec_of b62 (by decide +kernel)
theorem d62_19 : pv_dec 62 19 = some (.aload_n 0, 1) := pv_dec_of b62 (by decide +kernel)
theorem d62_20 : pv_dec 62 20 = some (.getfield 41, 3) := pv_dec_of b62 (by decide +kernel)
theorem d62_23 : pv_dec 62 23 = some (.if_icmp .ge 35, 3) := pv_dec_of b62 (by decide +kernel)
theorem d62_26 : pv_dec 62 26 = some (.aload_n 0, 1) := pv_dec_of b62 (by decide +kernel)
theorem d62_27 : pv_dec 62 27 = some (.iload_n 3, 1) := pv_dec_of b62 (by decide +kernel)
theorem d62_28 : pv_dec 62 28 = some (.iload 4, 2) := pv_dec_of b62 (by decide +kernel)
theorem d62_30 : pv_dec 62 30 = some (.invokevirtual 94, 3) := pv_dec_of b62 (by decide +kernel)
theorem d62_33 : pv_dec 62 33 = some (.ifCond .eq 19, 3) := pv_dec_of b62 (by decide +kernel)
theorem d62_36 : pv_dec 62 36 = some (.iload_n 2, 1) := pv_dec_of b62 (by decide +kernel)
theorem d62_37 : pv_dec 62 37 = some (.iload_n 1, 1) := pv_dec_of b62 (by decide +kernel)
theorem d62_38 : pv_dec 62 38 = some (.if_icmp .ne 11, 3) := pv_dec_of b62 (by decide +kernel)
theorem d62_41 : pv_dec 62 41 = some (.bipush 10, 2) := pv_dec_of b62 (by decide +kernel)
theorem d62_43 : pv_dec 62 43 = some (.iload_n 3, 1) := pv_dec_of b62 (by decide +kernel)
theorem d62_44 : pv_dec 62 44 = some (.imul, 1) := pv_dec_of b62 (by decide +kernel)
theorem d62_45 : pv_dec 62 45 = some (.iload 4, 2) := pv_dec_of b62 (by decide +kernel)
theorem d62_47 : pv_dec 62 47 = some (.iadd, 1) := pv_dec_of b62 (by decide +kernel)
theorem d62_48 : pv_dec 62 48 = some (.ireturn, 1) := pv_dec_of b62 (by decide +kernel)
theorem d62_49 : pv_dec 62 49 = some (.iinc 2 1, 3) := pv_dec_of b62 (by decide +kernel)
theorem d62_52 : pv_dec 62 52 = some (.iinc 4 1, 3) := pv_dec_of b62 (by decide +kernel)
theorem d62_55 : pv_dec 62 55 = some (.goto (-38), 3) := pv_dec_of b62 (by decide +kernel)
theorem d62_58 : pv_dec 62 58 = some (.iinc 3 1, 3) := pv_dec_of b62 (by decide +kernel)
theorem d62_61 : pv_dec 62 61 = some (.goto (-57), 3) := pv_dec_of b62 (by decide +kernel)
theorem d62_64 : pv_dec 62 64 = some (.iconst (-1), 1) := pv_dec_of b62 (by decide +kernel)
theorem d62_65 : pv_dec 62 65 = some (.ireturn, 1) := pv_dec_of b62 (by decide +kernel)
theorem g62_41 : pv_gf 62 41 = some (2, 0) := pv_gfo_of o62 G0_41
theorem o68 : pv_own 68 = "AngleNet$Net" := by decide +kernel
theorem b68 : pv_bc 68 = prog_7_method_21_code := pv_bcof (i := 68) rfl
theorem m68 : pv_mL 68 = 3 := by decide +kernel
theorem tt68 : pv_rt 68 = some .int := by decide +kernel
theorem d68_0 : pv_dec 68 0 = some (.iconst 0, 1) := pv_dec_of b68 (by decide +kernel)
theorem d68_1 : pv_dec 68 1 = some (.istore_n 1, 1) := pv_dec_of b68 (by decide +kernel)
theorem d68_2 : pv_dec 68 2 = some (.iconst 0, 1) := pv_dec_of b68 (by decide +kernel)
theorem d68_3 : pv_dec 68 3 = some (.istore_n 2, 1) := pv_dec_of b68 (by decide +kernel)
theorem d68_4 : pv_dec 68 4 = some (.iload_n 2, 1) := pv_dec_of b68 (by decide +kernel)
theorem d68_5 : pv_dec 68 5 = some (.aload_n 0, 1) := pv_dec_of b68 (by decide +kernel)
theorem d68_6 : pv_dec 68 6 = some (.getfield 41, 3) := pv_dec_of b68 (by decide +kernel)
theorem d68_9 : pv_dec 68 9 = some (.if_icmp .ge 17, 3) := pv_dec_of b68 (by decide +kernel)
theorem d68_12 : pv_dec 68 12 = some (.iload_n 1, 1) := pv_dec_of b68 (by decide +kernel)
theorem d68_13 : pv_dec 68 13 = some (.aload_n 0, 1) := pv_dec_of b68 (by decide +kernel)
theorem d68_14 : pv_dec 68 14 = some (.iload_n 2, 1) := pv_dec_of b68 (by decide +kernel)
theorem d68_15 : pv_dec 68 15 = some (.invokevirtual 97, 3) := pv_dec_of b68 (by decide +kernel)
theorem d68_18 : pv_dec 68 18 = some (.iadd, 1) := pv_dec_of b68 (by decide +kernel)
theorem d68_19 : pv_dec 68 19 = some (.istore_n 1, 1) := pv_dec_of b68 (by decide +kernel)
theorem d68_20 : pv_dec 68 20 = some (.iinc 2 1, 3) := pv_dec_of b68 (by decide +kernel)
theorem d68_23 : pv_dec 68 23 = some (.goto (-19), 3) := pv_dec_of b68 (by decide +kernel)
theorem d68_26 : pv_dec 68 26 = some (.iload_n 1, 1) := pv_dec_of b68 (by decide +kernel)
theorem d68_27 : pv_dec 68 27 = some (.iconst 2, 1) := pv_dec_of b68 (by decide +kernel)
theorem d68_28 : pv_dec 68 28 = some (.idiv, 1) := pv_dec_of b68 (by decide +kernel)
theorem d68_29 : pv_dec 68 29 = some (.ireturn, 1) := pv_dec_of b68 (by decide +kernel)
theorem g68_41 : pv_gf 68 41 = some (2, 0) := pv_gfo_of o68 G0_41
theorem o172 : pv_own 172 = "AngleNet$Net" := by decide +kernel
theorem b172 : pv_bc 172 = prog_7_method_25_code := pv_bcof (i := 172) rfl
theorem m172 : pv_mL 172 = 3 := by decide +kernel
theorem tt172 : pv_rt 172 = some .int := by decide +kernel
theorem d172_0 : pv_dec 172 0 = some (.iconst 0, 1) := pv_dec_of b172 (by decide +kernel)
theorem d172_1 : pv_dec 172 1 = some (.istore_n 1, 1) := pv_dec_of b172 (by decide +kernel)
theorem d172_2 : pv_dec 172 2 = some (.iconst 0, 1) := pv_dec_of b172 (by decide +kernel)
theorem d172_3 : pv_dec 172 3 = some (.istore_n 2, 1) := pv_dec_of b172 (by decide +kernel)
theorem d172_4 : pv_dec 172 4 = some (.iload_n 2, 1) := pv_dec_of b172 (by decide +kernel)
theorem d172_5 : pv_dec 172 5 = some (.aload_n 0, 1) := pv_dec_of b172 (by decide +kernel)
theorem d172_6 : pv_dec 172 6 = some (.getfield 41, 3) := pv_dec_of b172 (by decide +kernel)
theorem d172_9 : pv_dec 172 9 = some (.if_icmp .ge 29, 3) := pv_dec_of b172 (by decide +kernel)
theorem d172_12 : pv_dec 172 12 = some (.iload_n 1, 1) := pv_dec_of b172 (by decide +kernel)
theorem d172_13 : pv_dec 172 13 = some (.aload_n 0, 1) := pv_dec_of b172 (by decide +kernel)
theorem d172_14 : pv_dec 172 14 = some (.getfield 21, 3) := pv_dec_of b172 (by decide +kernel)
theorem d172_17 : pv_dec 172 17 = some (.iload_n 2, 1) := pv_dec_of b172 (by decide +kernel)
theorem d172_18 : pv_dec 172 18 = some (.iaload, 1) := pv_dec_of b172 (by decide +kernel)
theorem d172_19 : pv_dec 172 19 = some (.iconst (-1), 1) := pv_dec_of b172 (by decide +kernel)
theorem d172_20 : pv_dec 172 20 = some (.if_icmp .eq 9, 3) := pv_dec_of b172 (by decide +kernel)
theorem d172_23 : pv_dec 172 23 = some (.iconst 1, 1) := pv_dec_of b172 (by decide +kernel)
theorem d172_24 : pv_dec 172 24 = some (.iload_n 2, 1) := pv_dec_of b172 (by decide +kernel)
theorem d172_25 : pv_dec 172 25 = some (.ishl, 1) := pv_dec_of b172 (by decide +kernel)
theorem d172_26 : pv_dec 172 26 = some (.goto 4, 3) := pv_dec_of b172 (by decide +kernel)
theorem d172_29 : pv_dec 172 29 = some (.iconst 0, 1) := pv_dec_of b172 (by decide +kernel)
theorem d172_30 : pv_dec 172 30 = some (.ior, 1) := pv_dec_of b172 (by decide +kernel)
theorem d172_31 : pv_dec 172 31 = some (.istore_n 1, 1) := pv_dec_of b172 (by decide +kernel)
theorem d172_32 : pv_dec 172 32 = some (.iinc 2 1, 3) := pv_dec_of b172 (by decide +kernel)
theorem d172_35 : pv_dec 172 35 = some (.goto (-31), 3) := pv_dec_of b172 (by decide +kernel)
theorem d172_38 : pv_dec 172 38 = some (.iload_n 1, 1) := pv_dec_of b172 (by decide +kernel)
theorem d172_39 : pv_dec 172 39 = some (.ireturn, 1) := pv_dec_of b172 (by decide +kernel)
theorem g172_41 : pv_gf 172 41 = some (2, 0) := pv_gfo_of o172 G0_41
theorem o131 : pv_own 131 = "AngleNet$Flips" := by decide +kernel
theorem b131 : pv_bc 131 = prog_5_method_8_code := pv_bcof (i := 131) rfl
theorem m131 : pv_mL 131 = 3 := by decide +kernel
theorem tt131 : pv_rt 131 = some .boolean := by decide +kernel
theorem d131_0 : pv_dec 131 0 = some (.aload_n 0, 1) := pv_dec_of b131 (by decide +kernel)
theorem d131_1 : pv_dec 131 1 = some (.getfield 67, 3) := pv_dec_of b131 (by decide +kernel)
theorem d131_4 : pv_dec 131 4 = some (.ifCond .gt 5, 3) := pv_dec_of b131 (by decide +kernel)
theorem d131_7 : pv_dec 131 7 = some (.iconst 0, 1) := pv_dec_of b131 (by decide +kernel)
theorem d131_8 : pv_dec 131 8 = some (.ireturn, 1) := pv_dec_of b131 (by decide +kernel)
theorem d131_9 : pv_dec 131 9 = some (.aload_n 0, 1) := pv_dec_of b131 (by decide +kernel)
theorem d131_10 : pv_dec 131 10 = some (.dup, 1) := pv_dec_of b131 (by decide +kernel)
theorem d131_11 : pv_dec 131 11 = some (.getfield 67, 3) := pv_dec_of b131 (by decide +kernel)
theorem d131_14 : pv_dec 131 14 = some (.iconst 1, 1) := pv_dec_of b131 (by decide +kernel)
theorem d131_15 : pv_dec 131 15 = some (.isub, 1) := pv_dec_of b131 (by decide +kernel)
theorem d131_16 : pv_dec 131 16 = some (.putfield 67, 3) := pv_dec_of b131 (by decide +kernel)
theorem d131_19 : pv_dec 131 19 = some (.bipush 13, 2) := pv_dec_of b131 (by decide +kernel)
theorem d131_21 : pv_dec 131 21 = some (.aload_n 0, 1) := pv_dec_of b131 (by decide +kernel)
theorem d131_22 : pv_dec 131 22 = some (.getfield 67, 3) := pv_dec_of b131 (by decide +kernel)
theorem d131_25 : pv_dec 131 25 = some (.imul, 1) := pv_dec_of b131 (by decide +kernel)
theorem d131_26 : pv_dec 131 26 = some (.istore_n 1, 1) := pv_dec_of b131 (by decide +kernel)
theorem d131_27 : pv_dec 131 27 = some (.aload_n 0, 1) := pv_dec_of b131 (by decide +kernel)
theorem d131_28 : pv_dec 131 28 = some (.getfield 70, 3) := pv_dec_of b131 (by decide +kernel)
theorem d131_31 : pv_dec 131 31 = some (.iload_n 1, 1) := pv_dec_of b131 (by decide +kernel)
theorem d131_32 : pv_dec 131 32 = some (.iconst 3, 1) := pv_dec_of b131 (by decide +kernel)
theorem d131_33 : pv_dec 131 33 = some (.iadd, 1) := pv_dec_of b131 (by decide +kernel)
theorem d131_34 : pv_dec 131 34 = some (.iaload, 1) := pv_dec_of b131 (by decide +kernel)
theorem d131_35 : pv_dec 131 35 = some (.istore_n 2, 1) := pv_dec_of b131 (by decide +kernel)
theorem d131_36 : pv_dec 131 36 = some (.aload_n 0, 1) := pv_dec_of b131 (by decide +kernel)
theorem d131_37 : pv_dec 131 37 = some (.aload_n 0, 1) := pv_dec_of b131 (by decide +kernel)
theorem d131_38 : pv_dec 131 38 = some (.getfield 93, 3) := pv_dec_of b131 (by decide +kernel)
theorem d131_41 : pv_dec 131 41 = some (.iconst 3, 1) := pv_dec_of b131 (by decide +kernel)
theorem d131_42 : pv_dec 131 42 = some (.iload_n 2, 1) := pv_dec_of b131 (by decide +kernel)
theorem d131_43 : pv_dec 131 43 = some (.imul, 1) := pv_dec_of b131 (by decide +kernel)
theorem d131_44 : pv_dec 131 44 = some (.iconst 1, 1) := pv_dec_of b131 (by decide +kernel)
theorem d131_45 : pv_dec 131 45 = some (.iadd, 1) := pv_dec_of b131 (by decide +kernel)
theorem d131_46 : pv_dec 131 46 = some (.iaload, 1) := pv_dec_of b131 (by decide +kernel)
theorem d131_47 : pv_dec 131 47 = some (.aload_n 0, 1) := pv_dec_of b131 (by decide +kernel)
theorem d131_48 : pv_dec 131 48 = some (.getfield 93, 3) := pv_dec_of b131 (by decide +kernel)
theorem d131_51 : pv_dec 131 51 = some (.iconst 3, 1) := pv_dec_of b131 (by decide +kernel)
theorem d131_52 : pv_dec 131 52 = some (.iload_n 2, 1) := pv_dec_of b131 (by decide +kernel)
theorem d131_53 : pv_dec 131 53 = some (.imul, 1) := pv_dec_of b131 (by decide +kernel)
theorem d131_54 : pv_dec 131 54 = some (.iconst 2, 1) := pv_dec_of b131 (by decide +kernel)
theorem d131_55 : pv_dec 131 55 = some (.iadd, 1) := pv_dec_of b131 (by decide +kernel)
theorem d131_56 : pv_dec 131 56 = some (.iaload, 1) := pv_dec_of b131 (by decide +kernel)
theorem d131_57 : pv_dec 131 57 = some (.iconst 0, 1) := pv_dec_of b131 (by decide +kernel)
theorem d131_58 : pv_dec 131 58 = some (.invokevirtual 89, 3) := pv_dec_of b131 (by decide +kernel)
theorem d131_61 : pv_dec 131 61 = some (.aload_n 0, 1) := pv_dec_of b131 (by decide +kernel)
theorem d131_62 : pv_dec 131 62 = some (.iload_n 2, 1) := pv_dec_of b131 (by decide +kernel)
theorem d131_63 : pv_dec 131 63 = some (.invokevirtual 81, 3) := pv_dec_of b131 (by decide +kernel)
theorem d131_66 : pv_dec 131 66 = some (.aload_n 0, 1) := pv_dec_of b131 (by decide +kernel)
theorem d131_67 : pv_dec 131 67 = some (.aload_n 0, 1) := pv_dec_of b131 (by decide +kernel)
theorem d131_68 : pv_dec 131 68 = some (.getfield 70, 3) := pv_dec_of b131 (by decide +kernel)
theorem d131_71 : pv_dec 131 71 = some (.iload_n 1, 1) := pv_dec_of b131 (by decide +kernel)
theorem d131_72 : pv_dec 131 72 = some (.bipush 8, 2) := pv_dec_of b131 (by decide +kernel)
theorem d131_74 : pv_dec 131 74 = some (.iadd, 1) := pv_dec_of b131 (by decide +kernel)
theorem d131_75 : pv_dec 131 75 = some (.iaload, 1) := pv_dec_of b131 (by decide +kernel)
theorem d131_76 : pv_dec 131 76 = some (.invokevirtual 81, 3) := pv_dec_of b131 (by decide +kernel)
theorem d131_79 : pv_dec 131 79 = some (.aload_n 0, 1) := pv_dec_of b131 (by decide +kernel)
theorem d131_80 : pv_dec 131 80 = some (.iload_n 1, 1) := pv_dec_of b131 (by decide +kernel)
theorem d131_81 : pv_dec 131 81 = some (.iconst 3, 1) := pv_dec_of b131 (by decide +kernel)
theorem d131_82 : pv_dec 131 82 = some (.iadd, 1) := pv_dec_of b131 (by decide +kernel)
theorem d131_83 : pv_dec 131 83 = some (.invokestatic 105, 3) := pv_dec_of b131 (by decide +kernel)
theorem d131_86 : pv_dec 131 86 = some (.aload_n 0, 1) := pv_dec_of b131 (by decide +kernel)
theorem d131_87 : pv_dec 131 87 = some (.iload_n 1, 1) := pv_dec_of b131 (by decide +kernel)
theorem d131_88 : pv_dec 131 88 = some (.bipush 8, 2) := pv_dec_of b131 (by decide +kernel)
theorem d131_90 : pv_dec 131 90 = some (.iadd, 1) := pv_dec_of b131 (by decide +kernel)
theorem d131_91 : pv_dec 131 91 = some (.invokestatic 105, 3) := pv_dec_of b131 (by decide +kernel)
theorem d131_94 : pv_dec 131 94 = some (.aload_n 0, 1) := pv_dec_of b131 (by decide +kernel)
theorem d131_95 : pv_dec 131 95 = some (.aload_n 0, 1) := pv_dec_of b131 (by decide +kernel)
theorem d131_96 : pv_dec 131 96 = some (.getfield 70, 3) := pv_dec_of b131 (by decide +kernel)
theorem d131_99 : pv_dec 131 99 = some (.iload_n 1, 1) := pv_dec_of b131 (by decide +kernel)
theorem d131_100 : pv_dec 131 100 = some (.iaload, 1) := pv_dec_of b131 (by decide +kernel)
theorem d131_101 : pv_dec 131 101 = some (.aload_n 0, 1) := pv_dec_of b131 (by decide +kernel)
theorem d131_102 : pv_dec 131 102 = some (.getfield 70, 3) := pv_dec_of b131 (by decide +kernel)
theorem d131_105 : pv_dec 131 105 = some (.iload_n 1, 1) := pv_dec_of b131 (by decide +kernel)
theorem d131_106 : pv_dec 131 106 = some (.iconst 1, 1) := pv_dec_of b131 (by decide +kernel)
theorem d131_107 : pv_dec 131 107 = some (.iadd, 1) := pv_dec_of b131 (by decide +kernel)
theorem d131_108 : pv_dec 131 108 = some (.iaload, 1) := pv_dec_of b131 (by decide +kernel)
theorem d131_109 : pv_dec 131 109 = some (.aload_n 0, 1) := pv_dec_of b131 (by decide +kernel)
theorem d131_110 : pv_dec 131 110 = some (.getfield 70, 3) := pv_dec_of b131 (by decide +kernel)
theorem d131_113 : pv_dec 131 113 = some (.iload_n 1, 1) := pv_dec_of b131 (by decide +kernel)
theorem d131_114 : pv_dec 131 114 = some (.iconst 2, 1) := pv_dec_of b131 (by decide +kernel)
theorem d131_115 : pv_dec 131 115 = some (.iadd, 1) := pv_dec_of b131 (by decide +kernel)
theorem d131_116 : pv_dec 131 116 = some (.iaload, 1) := pv_dec_of b131 (by decide +kernel)
theorem d131_117 : pv_dec 131 117 = some (.invokevirtual 89, 3) := pv_dec_of b131 (by decide +kernel)
theorem d131_120 : pv_dec 131 120 = some (.iconst 1, 1) := pv_dec_of b131 (by decide +kernel)
theorem d131_121 : pv_dec 131 121 = some (.ireturn, 1) := pv_dec_of b131 (by decide +kernel)
theorem G1_67 : pv_gfo "AngleNet$Flips" 67 = some (2, 14) := by decide +kernel
theorem g131_67 : pv_gf 131 67 = some (2, 14) := pv_gfo_of o131 G1_67
theorem o134 : pv_own 134 = "AngleNet$Flips" := by decide +kernel
theorem b134 : pv_bc 134 = prog_5_method_10_code := pv_bcof (i := 134) rfl
theorem m134 : pv_mL 134 = 2 := by decide +kernel
theorem tt134 : pv_rt 134 = some .boolean := by decide +kernel
theorem d134_0 : pv_dec 134 0 = some (.aload_n 0, 1) := pv_dec_of b134 (by decide +kernel)
theorem d134_1 : pv_dec 134 1 = some (.getfield 67, 3) := pv_dec_of b134 (by decide +kernel)
theorem d134_4 : pv_dec 134 4 = some (.aload_n 0, 1) := pv_dec_of b134 (by decide +kernel)
theorem d134_5 : pv_dec 134 5 = some (.getfield 109, 3) := pv_dec_of b134 (by decide +kernel)
theorem d134_8 : pv_dec 134 8 = some (.if_icmp .lt 5, 3) := pv_dec_of b134 (by decide +kernel)
theorem d134_11 : pv_dec 134 11 = some (.iconst 0, 1) := pv_dec_of b134 (by decide +kernel)
theorem d134_12 : pv_dec 134 12 = some (.ireturn, 1) := pv_dec_of b134 (by decide +kernel)
theorem d134_13 : pv_dec 134 13 = some (.bipush 13, 2) := pv_dec_of b134 (by decide +kernel)
theorem d134_15 : pv_dec 134 15 = some (.aload_n 0, 1) := pv_dec_of b134 (by decide +kernel)
theorem d134_16 : pv_dec 134 16 = some (.getfield 67, 3) := pv_dec_of b134 (by decide +kernel)
theorem d134_19 : pv_dec 134 19 = some (.imul, 1) := pv_dec_of b134 (by decide +kernel)
theorem d134_20 : pv_dec 134 20 = some (.istore_n 1, 1) := pv_dec_of b134 (by decide +kernel)
theorem d134_21 : pv_dec 134 21 = some (.aload_n 0, 1) := pv_dec_of b134 (by decide +kernel)
theorem d134_22 : pv_dec 134 22 = some (.aload_n 0, 1) := pv_dec_of b134 (by decide +kernel)
theorem d134_23 : pv_dec 134 23 = some (.getfield 70, 3) := pv_dec_of b134 (by decide +kernel)
theorem d134_26 : pv_dec 134 26 = some (.iload_n 1, 1) := pv_dec_of b134 (by decide +kernel)
theorem d134_27 : pv_dec 134 27 = some (.iaload, 1) := pv_dec_of b134 (by decide +kernel)
theorem d134_28 : pv_dec 134 28 = some (.aload_n 0, 1) := pv_dec_of b134 (by decide +kernel)
theorem d134_29 : pv_dec 134 29 = some (.getfield 70, 3) := pv_dec_of b134 (by decide +kernel)
theorem d134_32 : pv_dec 134 32 = some (.iload_n 1, 1) := pv_dec_of b134 (by decide +kernel)
theorem d134_33 : pv_dec 134 33 = some (.iconst 1, 1) := pv_dec_of b134 (by decide +kernel)
theorem d134_34 : pv_dec 134 34 = some (.iadd, 1) := pv_dec_of b134 (by decide +kernel)
theorem d134_35 : pv_dec 134 35 = some (.iaload, 1) := pv_dec_of b134 (by decide +kernel)
theorem d134_36 : pv_dec 134 36 = some (.invokestatic 112, 3) := pv_dec_of b134 (by decide +kernel)
theorem d134_39 : pv_dec 134 39 = some (.iconst (-1), 1) := pv_dec_of b134 (by decide +kernel)
theorem d134_40 : pv_dec 134 40 = some (.if_icmp .eq 7, 3) := pv_dec_of b134 (by decide +kernel)
theorem d134_43 : pv_dec 134 43 = some (.iconst 1, 1) := pv_dec_of b134 (by decide +kernel)
theorem d134_44 : pv_dec 134 44 = some (.goto 4, 3) := pv_dec_of b134 (by decide +kernel)
theorem d134_47 : pv_dec 134 47 = some (.iconst 0, 1) := pv_dec_of b134 (by decide +kernel)
theorem d134_48 : pv_dec 134 48 = some (.ireturn, 1) := pv_dec_of b134 (by decide +kernel)
theorem g134_67 : pv_gf 134 67 = some (2, 14) := pv_gfo_of o134 G1_67
theorem G1_109 : pv_gfo "AngleNet$Flips" 109 = some (2, 15) := by decide +kernel
theorem g134_109 : pv_gf 134 109 = some (2, 15) := pv_gfo_of o134 G1_109
theorem o14 : pv_own 14 = "java/util/Arrays" := by decide +kernel
theorem b14 : pv_bc 14 = prog_20_method_103_code := pv_bcof (i := 14) rfl
theorem m14 : pv_mL 14 = 4 := by decide +kernel
theorem tt14 : pv_rt 14 = none := by decide +kernel
theorem d14_0 : pv_dec 14 0 = some (.iconst 0, 1) := pv_dec_of b14 (by decide +kernel)
theorem d14_1 : pv_dec 14 1 = some (.istore_n 2, 1) := pv_dec_of b14 (by decide +kernel)
theorem d14_2 : pv_dec 14 2 = some (.aload_n 0, 1) := pv_dec_of b14 (by decide +kernel)
theorem d14_3 : pv_dec 14 3 = some (.arraylength, 1) := pv_dec_of b14 (by decide +kernel)
theorem d14_4 : pv_dec 14 4 = some (.istore_n 3, 1) := pv_dec_of b14 (by decide +kernel)
theorem d14_5 : pv_dec 14 5 = some (.iload_n 2, 1) := pv_dec_of b14 (by decide +kernel)
theorem d14_6 : pv_dec 14 6 = some (.iload_n 3, 1) := pv_dec_of b14 (by decide +kernel)
theorem d14_7 : pv_dec 14 7 = some (.if_icmp .ge 13, 3) := pv_dec_of b14 (by decide +kernel)
theorem d14_10 : pv_dec 14 10 = some (.aload_n 0, 1) := pv_dec_of b14 (by decide +kernel)
theorem d14_11 : pv_dec 14 11 = some (.iload_n 2, 1) := pv_dec_of b14 (by decide +kernel)
theorem d14_12 : pv_dec 14 12 = some (.iload_n 1, 1) := pv_dec_of b14 (by decide +kernel)
theorem d14_13 : pv_dec 14 13 = some (.iastore, 1) := pv_dec_of b14 (by decide +kernel)
theorem d14_14 : pv_dec 14 14 = some (.iinc 2 1, 3) := pv_dec_of b14 (by decide +kernel)
theorem d14_17 : pv_dec 14 17 = some (.goto (-12), 3) := pv_dec_of b14 (by decide +kernel)
theorem d14_20 : pv_dec 14 20 = some (.return_, 1) := pv_dec_of b14 (by decide +kernel)
theorem o148 : pv_own 148 = "java/util/Arrays" := by decide +kernel
theorem b148 : pv_bc 148 = prog_20_method_101_code := pv_bcof (i := 148) rfl
theorem m148 : pv_mL 148 = 5 := by decide +kernel
theorem tt148 : pv_rt 148 = none := by decide +kernel
theorem d148_0 : pv_dec 148 0 = some (.iconst 0, 1) := pv_dec_of b148 (by decide +kernel)
theorem d148_1 : pv_dec 148 1 = some (.istore_n 3, 1) := pv_dec_of b148 (by decide +kernel)
theorem d148_2 : pv_dec 148 2 = some (.aload_n 0, 1) := pv_dec_of b148 (by decide +kernel)
theorem d148_3 : pv_dec 148 3 = some (.arraylength, 1) := pv_dec_of b148 (by decide +kernel)
theorem d148_4 : pv_dec 148 4 = some (.istore 4, 2) := pv_dec_of b148 (by decide +kernel)
theorem d148_6 : pv_dec 148 6 = some (.iload_n 3, 1) := pv_dec_of b148 (by decide +kernel)
theorem d148_7 : pv_dec 148 7 = some (.iload 4, 2) := pv_dec_of b148 (by decide +kernel)
theorem d148_9 : pv_dec 148 9 = some (.if_icmp .ge 13, 3) := pv_dec_of b148 (by decide +kernel)
theorem d148_12 : pv_dec 148 12 = some (.aload_n 0, 1) := pv_dec_of b148 (by decide +kernel)
theorem d148_13 : pv_dec 148 13 = some (.iload_n 3, 1) := pv_dec_of b148 (by decide +kernel)
theorem d148_14 : pv_dec 148 14 = some (.lload_n 1, 1) := pv_dec_of b148 (by decide +kernel)
theorem d148_15 : pv_dec 148 15 = some (.lastore, 1) := pv_dec_of b148 (by decide +kernel)
theorem d148_16 : pv_dec 148 16 = some (.iinc 3 1, 3) := pv_dec_of b148 (by decide +kernel)
theorem d148_19 : pv_dec 148 19 = some (.goto (-13), 3) := pv_dec_of b148 (by decide +kernel)
theorem d148_22 : pv_dec 148 22 = some (.return_, 1) := pv_dec_of b148 (by decide +kernel)
theorem o15 : pv_own 15 = "AngleNet$Net" := by decide +kernel
theorem b15 : pv_bc 15 = prog_7_method_4_code := pv_bcof (i := 15) rfl
theorem m15 : pv_mL 15 = 1 := by decide +kernel
theorem tt15 : pv_rt 15 = none := by decide +kernel
theorem d15_0 : pv_dec 15 0 = some (.aload_n 0, 1) := pv_dec_of b15 (by decide +kernel)
theorem d15_1 : pv_dec 15 1 = some (.iconst 0, 1) := pv_dec_of b15 (by decide +kernel)
theorem d15_2 : pv_dec 15 2 = some (.putfield 66, 3) := pv_dec_of b15 (by decide +kernel)
theorem d15_5 : pv_dec 15 5 = some (.aload_n 0, 1) := pv_dec_of b15 (by decide +kernel)
theorem d15_6 : pv_dec 15 6 = some (.iconst 0, 1) := pv_dec_of b15 (by decide +kernel)
theorem d15_7 : pv_dec 15 7 = some (.putfield 69, 3) := pv_dec_of b15 (by decide +kernel)
theorem d15_10 : pv_dec 15 10 = some (.return_, 1) := pv_dec_of b15 (by decide +kernel)
theorem G0_66 : pv_gfo "AngleNet$Net" 66 = some (2, 14) := by decide +kernel
theorem g15_66 : pv_gf 15 66 = some (2, 14) := pv_gfo_of o15 G0_66
theorem G0_69 : pv_gfo "AngleNet$Net" 69 = some (2, 15) := by decide +kernel
theorem g15_69 : pv_gf 15 69 = some (2, 15) := pv_gfo_of o15 G0_69
theorem w2_14 : pv_ft 2 14 = some .int := by decide +kernel
theorem w2_15 : pv_ft 2 15 = some .int := by decide +kernel
theorem o13 : pv_own 13 = "AngleNet$Net" := by decide +kernel
theorem b13 : pv_bc 13 = prog_7_method_2_code := pv_bcof (i := 13) rfl
theorem m13 : pv_mL 13 = 1 := by decide +kernel
theorem tt13 : pv_rt 13 = none := by decide +kernel
theorem d13_0 : pv_dec 13 0 = some (.aload_n 0, 1) := pv_dec_of b13 (by decide +kernel)
theorem d13_1 : pv_dec 13 1 = some (.iconst 0, 1) := pv_dec_of b13 (by decide +kernel)
theorem d13_2 : pv_dec 13 2 = some (.putfield 41, 3) := pv_dec_of b13 (by decide +kernel)
theorem d13_5 : pv_dec 13 5 = some (.aload_n 0, 1) := pv_dec_of b13 (by decide +kernel)
theorem d13_6 : pv_dec 13 6 = some (.iconst 0, 1) := pv_dec_of b13 (by decide +kernel)
theorem d13_7 : pv_dec 13 7 = some (.putfield 45, 3) := pv_dec_of b13 (by decide +kernel)
theorem d13_10 : pv_dec 13 10 = some (.aload_n 0, 1) := pv_dec_of b13 (by decide +kernel)
theorem d13_11 : pv_dec 13 11 = some (.iconst 0, 1) := pv_dec_of b13 (by decide +kernel)
theorem d13_12 : pv_dec 13 12 = some (.putfield 48, 3) := pv_dec_of b13 (by decide +kernel)
theorem d13_15 : pv_dec 13 15 = some (.aload_n 0, 1) := pv_dec_of b13 (by decide +kernel)
theorem d13_16 : pv_dec 13 16 = some (.iconst 0, 1) := pv_dec_of b13 (by decide +kernel)
theorem d13_17 : pv_dec 13 17 = some (.putfield 51, 3) := pv_dec_of b13 (by decide +kernel)
theorem d13_20 : pv_dec 13 20 = some (.aload_n 0, 1) := pv_dec_of b13 (by decide +kernel)
theorem d13_21 : pv_dec 13 21 = some (.iconst 0, 1) := pv_dec_of b13 (by decide +kernel)
theorem d13_22 : pv_dec 13 22 = some (.putfield 54, 3) := pv_dec_of b13 (by decide +kernel)
theorem d13_25 : pv_dec 13 25 = some (.aload_n 0, 1) := pv_dec_of b13 (by decide +kernel)
theorem d13_26 : pv_dec 13 26 = some (.getfield 18, 3) := pv_dec_of b13 (by decide +kernel)
theorem d13_29 : pv_dec 13 29 = some (.iconst (-1), 1) := pv_dec_of b13 (by decide +kernel)
theorem d13_30 : pv_dec 13 30 = some (.invokestatic 57, 3) := pv_dec_of b13 (by decide +kernel)
theorem d13_33 : pv_dec 13 33 = some (.aload_n 0, 1) := pv_dec_of b13 (by decide +kernel)
theorem d13_34 : pv_dec 13 34 = some (.getfield 21, 3) := pv_dec_of b13 (by decide +kernel)
theorem d13_37 : pv_dec 13 37 = some (.iconst (-1), 1) := pv_dec_of b13 (by decide +kernel)
theorem d13_38 : pv_dec 13 38 = some (.invokestatic 57, 3) := pv_dec_of b13 (by decide +kernel)
theorem d13_41 : pv_dec 13 41 = some (.aload_n 0, 1) := pv_dec_of b13 (by decide +kernel)
theorem d13_42 : pv_dec 13 42 = some (.getfield 24, 3) := pv_dec_of b13 (by decide +kernel)
theorem d13_45 : pv_dec 13 45 = some (.iconst (-1), 1) := pv_dec_of b13 (by decide +kernel)
theorem d13_46 : pv_dec 13 46 = some (.invokestatic 57, 3) := pv_dec_of b13 (by decide +kernel)
theorem d13_49 : pv_dec 13 49 = some (.aload_n 0, 1) := pv_dec_of b13 (by decide +kernel)
theorem d13_50 : pv_dec 13 50 = some (.getfield 27, 3) := pv_dec_of b13 (by decide +kernel)
theorem d13_53 : pv_dec 13 53 = some (.iconst (-1), 1) := pv_dec_of b13 (by decide +kernel)
theorem d13_54 : pv_dec 13 54 = some (.invokestatic 57, 3) := pv_dec_of b13 (by decide +kernel)
theorem d13_57 : pv_dec 13 57 = some (.aload_n 0, 1) := pv_dec_of b13 (by decide +kernel)
theorem d13_58 : pv_dec 13 58 = some (.getfield 30, 3) := pv_dec_of b13 (by decide +kernel)
theorem d13_61 : pv_dec 13 61 = some (.iconst 0, 1) := pv_dec_of b13 (by decide +kernel)
theorem d13_62 : pv_dec 13 62 = some (.invokestatic 57, 3) := pv_dec_of b13 (by decide +kernel)
theorem d13_65 : pv_dec 13 65 = some (.aload_n 0, 1) := pv_dec_of b13 (by decide +kernel)
theorem d13_66 : pv_dec 13 66 = some (.getfield 33, 3) := pv_dec_of b13 (by decide +kernel)
theorem d13_69 : pv_dec 13 69 = some (.iconst 0, 1) := pv_dec_of b13 (by decide +kernel)
theorem d13_70 : pv_dec 13 70 = some (.invokestatic 57, 3) := pv_dec_of b13 (by decide +kernel)
theorem d13_73 : pv_dec 13 73 = some (.aload_n 0, 1) := pv_dec_of b13 (by decide +kernel)
theorem d13_74 : pv_dec 13 74 = some (.invokevirtual 63, 3) := pv_dec_of b13 (by decide +kernel)
theorem d13_77 : pv_dec 13 77 = some (.return_, 1) := pv_dec_of b13 (by decide +kernel)
theorem G0_18 : pv_gfo "AngleNet$Net" 18 = some (2, 7) := by decide +kernel
theorem g13_18 : pv_gf 13 18 = some (2, 7) := pv_gfo_of o13 G0_18
theorem G0_21 : pv_gfo "AngleNet$Net" 21 = some (2, 8) := by decide +kernel
theorem g13_21 : pv_gf 13 21 = some (2, 8) := pv_gfo_of o13 G0_21
theorem G0_24 : pv_gfo "AngleNet$Net" 24 = some (2, 9) := by decide +kernel
theorem g13_24 : pv_gf 13 24 = some (2, 9) := pv_gfo_of o13 G0_24
theorem G0_27 : pv_gfo "AngleNet$Net" 27 = some (2, 10) := by decide +kernel
theorem g13_27 : pv_gf 13 27 = some (2, 10) := pv_gfo_of o13 G0_27
theorem G0_30 : pv_gfo "AngleNet$Net" 30 = some (2, 11) := by decide +kernel
theorem g13_30 : pv_gf 13 30 = some (2, 11) := pv_gfo_of o13 G0_30
theorem G0_33 : pv_gfo "AngleNet$Net" 33 = some (2, 12) := by decide +kernel
theorem g13_33 : pv_gf 13 33 = some (2, 12) := pv_gfo_of o13 G0_33
theorem g13_41 : pv_gf 13 41 = some (2, 0) := pv_gfo_of o13 G0_41
theorem g13_45 : pv_gf 13 45 = some (2, 1) := pv_gfo_of o13 G0_45
theorem G0_48 : pv_gfo "AngleNet$Net" 48 = some (2, 2) := by decide +kernel
theorem g13_48 : pv_gf 13 48 = some (2, 2) := pv_gfo_of o13 G0_48
theorem G0_51 : pv_gfo "AngleNet$Net" 51 = some (2, 3) := by decide +kernel
theorem g13_51 : pv_gf 13 51 = some (2, 3) := pv_gfo_of o13 G0_51
theorem G0_54 : pv_gfo "AngleNet$Net" 54 = some (2, 4) := by decide +kernel
theorem g13_54 : pv_gf 13 54 = some (2, 4) := pv_gfo_of o13 G0_54
theorem w2_0 : pv_ft 2 0 = some .int := by decide +kernel
theorem w2_1 : pv_ft 2 1 = some .int := by decide +kernel
theorem w2_2 : pv_ft 2 2 = some .int := by decide +kernel
theorem w2_3 : pv_ft 2 3 = some .int := by decide +kernel
theorem w2_4 : pv_ft 2 4 = some .int := by decide +kernel
theorem Y0_57 : pv_mlo "AngleNet$Net" 57 = some (⟨"java/util/Arrays", "fill", "([II)V"⟩, none) := by decide +kernel
theorem Z14 : pv_cS 14 2 4 ⟨"java/util/Arrays", "fill", "([II)V"⟩ = true := by decide +kernel
theorem k13_57 : pv_kS 13 57 14 2 4 := pv_kS_of o13 Y0_57 Z14 (by decide +kernel)
theorem Y0_63 : pv_mlo "AngleNet$Net" 63 = some (⟨"AngleNet$Net", "forgetFlips", "()V"⟩, none) := by decide +kernel
theorem V15 : pv_cV 15 2 0 1 ⟨"AngleNet$Net", "forgetFlips", "()V"⟩ = true := by decide +kernel
theorem k13_63 : pv_kV 13 63 15 2 0 1 := pv_kV_of o13 Y0_63 V15 (by decide +kernel)
theorem o52 : pv_own 52 = "AngleNet$Net" := by decide +kernel
theorem b52 : pv_bc 52 = prog_7_method_5_code := pv_bcof (i := 52) rfl
theorem m52 : pv_mL 52 = 2 := by decide +kernel
theorem tt52 : pv_rt 52 = none := by decide +kernel
theorem d52_0 : pv_dec 52 0 = some (.aload_n 0, 1) := pv_dec_of b52 (by decide +kernel)
theorem d52_1 : pv_dec 52 1 = some (.aload_n 1, 1) := pv_dec_of b52 (by decide +kernel)
theorem d52_2 : pv_dec 52 2 = some (.getfield 41, 3) := pv_dec_of b52 (by decide +kernel)
theorem d52_5 : pv_dec 52 5 = some (.putfield 41, 3) := pv_dec_of b52 (by decide +kernel)
theorem d52_8 : pv_dec 52 8 = some (.aload_n 0, 1) := pv_dec_of b52 (by decide +kernel)
theorem d52_9 : pv_dec 52 9 = some (.aload_n 1, 1) := pv_dec_of b52 (by decide +kernel)
theorem d52_10 : pv_dec 52 10 = some (.getfield 45, 3) := pv_dec_of b52 (by decide +kernel)
theorem d52_13 : pv_dec 52 13 = some (.putfield 45, 3) := pv_dec_of b52 (by decide +kernel)
theorem d52_16 : pv_dec 52 16 = some (.aload_n 0, 1) := pv_dec_of b52 (by decide +kernel)
theorem d52_17 : pv_dec 52 17 = some (.aload_n 1, 1) := pv_dec_of b52 (by decide +kernel)
theorem d52_18 : pv_dec 52 18 = some (.getfield 48, 3) := pv_dec_of b52 (by decide +kernel)
theorem d52_21 : pv_dec 52 21 = some (.putfield 48, 3) := pv_dec_of b52 (by decide +kernel)
theorem d52_24 : pv_dec 52 24 = some (.aload_n 0, 1) := pv_dec_of b52 (by decide +kernel)
theorem d52_25 : pv_dec 52 25 = some (.aload_n 1, 1) := pv_dec_of b52 (by decide +kernel)
theorem d52_26 : pv_dec 52 26 = some (.getfield 51, 3) := pv_dec_of b52 (by decide +kernel)
theorem d52_29 : pv_dec 52 29 = some (.putfield 51, 3) := pv_dec_of b52 (by decide +kernel)
theorem d52_32 : pv_dec 52 32 = some (.aload_n 0, 1) := pv_dec_of b52 (by decide +kernel)
theorem d52_33 : pv_dec 52 33 = some (.aload_n 1, 1) := pv_dec_of b52 (by decide +kernel)
theorem d52_34 : pv_dec 52 34 = some (.getfield 54, 3) := pv_dec_of b52 (by decide +kernel)
theorem d52_37 : pv_dec 52 37 = some (.putfield 54, 3) := pv_dec_of b52 (by decide +kernel)
theorem d52_40 : pv_dec 52 40 = some (.aload_n 0, 1) := pv_dec_of b52 (by decide +kernel)
theorem d52_41 : pv_dec 52 41 = some (.aload_n 1, 1) := pv_dec_of b52 (by decide +kernel)
theorem d52_42 : pv_dec 52 42 = some (.getfield 66, 3) := pv_dec_of b52 (by decide +kernel)
theorem d52_45 : pv_dec 52 45 = some (.putfield 66, 3) := pv_dec_of b52 (by decide +kernel)
theorem d52_48 : pv_dec 52 48 = some (.aload_n 0, 1) := pv_dec_of b52 (by decide +kernel)
theorem d52_49 : pv_dec 52 49 = some (.aload_n 1, 1) := pv_dec_of b52 (by decide +kernel)
theorem d52_50 : pv_dec 52 50 = some (.getfield 69, 3) := pv_dec_of b52 (by decide +kernel)
theorem d52_53 : pv_dec 52 53 = some (.putfield 69, 3) := pv_dec_of b52 (by decide +kernel)
theorem d52_56 : pv_dec 52 56 = some (.aload_n 1, 1) := pv_dec_of b52 (by decide +kernel)
theorem d52_57 : pv_dec 52 57 = some (.getfield 9, 3) := pv_dec_of b52 (by decide +kernel)
theorem d52_60 : pv_dec 52 60 = some (.iconst 0, 1) := pv_dec_of b52 (by decide +kernel)
theorem d52_61 : pv_dec 52 61 = some (.aload_n 0, 1) := pv_dec_of b52 (by decide +kernel)
theorem d52_62 : pv_dec 52 62 = some (.getfield 9, 3) := pv_dec_of b52 (by decide +kernel)
theorem d52_65 : pv_dec 52 65 = some (.iconst 0, 1) := pv_dec_of b52 (by decide +kernel)
theorem d52_66 : pv_dec 52 66 = some (.aload_n 0, 1) := pv_dec_of b52 (by decide +kernel)
theorem d52_67 : pv_dec 52 67 = some (.getfield 9, 3) := pv_dec_of b52 (by decide +kernel)
theorem d52_70 : pv_dec 52 70 = some (.arraylength, 1) := pv_dec_of b52 (by decide +kernel)
theorem d52_71 : pv_dec 52 71 = some (.invokestatic 72, 3) := pv_dec_of b52 (by decide +kernel)
theorem d52_74 : pv_dec 52 74 = some (.aload_n 1, 1) := pv_dec_of b52 (by decide +kernel)
theorem d52_75 : pv_dec 52 75 = some (.getfield 15, 3) := pv_dec_of b52 (by decide +kernel)
theorem d52_78 : pv_dec 52 78 = some (.iconst 0, 1) := pv_dec_of b52 (by decide +kernel)
theorem d52_79 : pv_dec 52 79 = some (.aload_n 0, 1) := pv_dec_of b52 (by decide +kernel)
theorem d52_80 : pv_dec 52 80 = some (.getfield 15, 3) := pv_dec_of b52 (by decide +kernel)
theorem d52_83 : pv_dec 52 83 = some (.iconst 0, 1) := pv_dec_of b52 (by decide +kernel)
theorem d52_84 : pv_dec 52 84 = some (.aload_n 0, 1) := pv_dec_of b52 (by decide +kernel)
theorem d52_85 : pv_dec 52 85 = some (.getfield 15, 3) := pv_dec_of b52 (by decide +kernel)
theorem d52_88 : pv_dec 52 88 = some (.arraylength, 1) := pv_dec_of b52 (by decide +kernel)
theorem d52_89 : pv_dec 52 89 = some (.invokestatic 72, 3) := pv_dec_of b52 (by decide +kernel)
theorem d52_92 : pv_dec 52 92 = some (.aload_n 1, 1) := pv_dec_of b52 (by decide +kernel)
theorem d52_93 : pv_dec 52 93 = some (.getfield 18, 3) := pv_dec_of b52 (by decide +kernel)
theorem d52_96 : pv_dec 52 96 = some (.iconst 0, 1) := pv_dec_of b52 (by decide +kernel)
theorem d52_97 : pv_dec 52 97 = some (.aload_n 0, 1) := pv_dec_of b52 (by decide +kernel)
theorem d52_98 : pv_dec 52 98 = some (.getfield 18, 3) := pv_dec_of b52 (by decide +kernel)
theorem d52_101 : pv_dec 52 101 = some (.iconst 0, 1) := pv_dec_of b52 (by decide +kernel)
theorem d52_102 : pv_dec 52 102 = some (.aload_n 0, 1) := pv_dec_of b52 (by decide +kernel)
theorem d52_103 : pv_dec 52 103 = some (.getfield 18, 3) := pv_dec_of b52 (by decide +kernel)
theorem d52_106 : pv_dec 52 106 = some (.arraylength, 1) := pv_dec_of b52 (by decide +kernel)
theorem d52_107 : pv_dec 52 107 = some (.invokestatic 72, 3) := pv_dec_of b52 (by decide +kernel)
theorem d52_110 : pv_dec 52 110 = some (.aload_n 1, 1) := pv_dec_of b52 (by decide +kernel)
theorem d52_111 : pv_dec 52 111 = some (.getfield 21, 3) := pv_dec_of b52 (by decide +kernel)
theorem d52_114 : pv_dec 52 114 = some (.iconst 0, 1) := pv_dec_of b52 (by decide +kernel)
theorem d52_115 : pv_dec 52 115 = some (.aload_n 0, 1) := pv_dec_of b52 (by decide +kernel)
theorem d52_116 : pv_dec 52 116 = some (.getfield 21, 3) := pv_dec_of b52 (by decide +kernel)
theorem d52_119 : pv_dec 52 119 = some (.iconst 0, 1) := pv_dec_of b52 (by decide +kernel)
theorem d52_120 : pv_dec 52 120 = some (.aload_n 0, 1) := pv_dec_of b52 (by decide +kernel)
theorem d52_121 : pv_dec 52 121 = some (.getfield 21, 3) := pv_dec_of b52 (by decide +kernel)
theorem d52_124 : pv_dec 52 124 = some (.arraylength, 1) := pv_dec_of b52 (by decide +kernel)
theorem d52_125 : pv_dec 52 125 = some (.invokestatic 72, 3) := pv_dec_of b52 (by decide +kernel)
theorem d52_128 : pv_dec 52 128 = some (.aload_n 1, 1) := pv_dec_of b52 (by decide +kernel)
theorem d52_129 : pv_dec 52 129 = some (.getfield 24, 3) := pv_dec_of b52 (by decide +kernel)
theorem d52_132 : pv_dec 52 132 = some (.iconst 0, 1) := pv_dec_of b52 (by decide +kernel)
theorem d52_133 : pv_dec 52 133 = some (.aload_n 0, 1) := pv_dec_of b52 (by decide +kernel)
theorem d52_134 : pv_dec 52 134 = some (.getfield 24, 3) := pv_dec_of b52 (by decide +kernel)
theorem d52_137 : pv_dec 52 137 = some (.iconst 0, 1) := pv_dec_of b52 (by decide +kernel)
theorem d52_138 : pv_dec 52 138 = some (.aload_n 0, 1) := pv_dec_of b52 (by decide +kernel)
theorem d52_139 : pv_dec 52 139 = some (.getfield 24, 3) := pv_dec_of b52 (by decide +kernel)
theorem d52_142 : pv_dec 52 142 = some (.arraylength, 1) := pv_dec_of b52 (by decide +kernel)
theorem d52_143 : pv_dec 52 143 = some (.invokestatic 72, 3) := pv_dec_of b52 (by decide +kernel)
theorem d52_146 : pv_dec 52 146 = some (.aload_n 1, 1) := pv_dec_of b52 (by decide +kernel)
theorem d52_147 : pv_dec 52 147 = some (.getfield 27, 3) := pv_dec_of b52 (by decide +kernel)
theorem d52_150 : pv_dec 52 150 = some (.iconst 0, 1) := pv_dec_of b52 (by decide +kernel)
theorem d52_151 : pv_dec 52 151 = some (.aload_n 0, 1) := pv_dec_of b52 (by decide +kernel)
theorem d52_152 : pv_dec 52 152 = some (.getfield 27, 3) := pv_dec_of b52 (by decide +kernel)
theorem d52_155 : pv_dec 52 155 = some (.iconst 0, 1) := pv_dec_of b52 (by decide +kernel)
theorem d52_156 : pv_dec 52 156 = some (.aload_n 0, 1) := pv_dec_of b52 (by decide +kernel)
theorem d52_157 : pv_dec 52 157 = some (.getfield 27, 3) := pv_dec_of b52 (by decide +kernel)
theorem d52_160 : pv_dec 52 160 = some (.arraylength, 1) := pv_dec_of b52 (by decide +kernel)
theorem d52_161 : pv_dec 52 161 = some (.invokestatic 72, 3) := pv_dec_of b52 (by decide +kernel)
theorem d52_164 : pv_dec 52 164 = some (.aload_n 1, 1) := pv_dec_of b52 (by decide +kernel)
theorem d52_165 : pv_dec 52 165 = some (.getfield 30, 3) := pv_dec_of b52 (by decide +kernel)
theorem d52_168 : pv_dec 52 168 = some (.iconst 0, 1) := pv_dec_of b52 (by decide +kernel)
theorem d52_169 : pv_dec 52 169 = some (.aload_n 0, 1) := pv_dec_of b52 (by decide +kernel)
theorem d52_170 : pv_dec 52 170 = some (.getfield 30, 3) := pv_dec_of b52 (by decide +kernel)
theorem d52_173 : pv_dec 52 173 = some (.iconst 0, 1) := pv_dec_of b52 (by decide +kernel)
theorem d52_174 : pv_dec 52 174 = some (.aload_n 0, 1) := pv_dec_of b52 (by decide +kernel)
theorem d52_175 : pv_dec 52 175 = some (.getfield 30, 3) := pv_dec_of b52 (by decide +kernel)
theorem d52_178 : pv_dec 52 178 = some (.arraylength, 1) := pv_dec_of b52 (by decide +kernel)
theorem d52_179 : pv_dec 52 179 = some (.invokestatic 72, 3) := pv_dec_of b52 (by decide +kernel)
theorem d52_182 : pv_dec 52 182 = some (.aload_n 1, 1) := pv_dec_of b52 (by decide +kernel)
theorem d52_183 : pv_dec 52 183 = some (.getfield 33, 3) := pv_dec_of b52 (by decide +kernel)
theorem d52_186 : pv_dec 52 186 = some (.iconst 0, 1) := pv_dec_of b52 (by decide +kernel)
theorem d52_187 : pv_dec 52 187 = some (.aload_n 0, 1) := pv_dec_of b52 (by decide +kernel)
theorem d52_188 : pv_dec 52 188 = some (.getfield 33, 3) := pv_dec_of b52 (by decide +kernel)
theorem d52_191 : pv_dec 52 191 = some (.iconst 0, 1) := pv_dec_of b52 (by decide +kernel)
theorem d52_192 : pv_dec 52 192 = some (.aload_n 0, 1) := pv_dec_of b52 (by decide +kernel)
theorem d52_193 : pv_dec 52 193 = some (.getfield 33, 3) := pv_dec_of b52 (by decide +kernel)
theorem d52_196 : pv_dec 52 196 = some (.arraylength, 1) := pv_dec_of b52 (by decide +kernel)
theorem d52_197 : pv_dec 52 197 = some (.invokestatic 72, 3) := pv_dec_of b52 (by decide +kernel)
theorem d52_200 : pv_dec 52 200 = some (.aload_n 1, 1) := pv_dec_of b52 (by decide +kernel)
theorem d52_201 : pv_dec 52 201 = some (.getfield 38, 3) := pv_dec_of b52 (by decide +kernel)
theorem d52_204 : pv_dec 52 204 = some (.iconst 0, 1) := pv_dec_of b52 (by decide +kernel)
theorem d52_205 : pv_dec 52 205 = some (.aload_n 0, 1) := pv_dec_of b52 (by decide +kernel)
theorem d52_206 : pv_dec 52 206 = some (.getfield 38, 3) := pv_dec_of b52 (by decide +kernel)
theorem d52_209 : pv_dec 52 209 = some (.iconst 0, 1) := pv_dec_of b52 (by decide +kernel)
theorem d52_210 : pv_dec 52 210 = some (.aload_n 0, 1) := pv_dec_of b52 (by decide +kernel)
theorem d52_211 : pv_dec 52 211 = some (.getfield 38, 3) := pv_dec_of b52 (by decide +kernel)
theorem d52_214 : pv_dec 52 214 = some (.arraylength, 1) := pv_dec_of b52 (by decide +kernel)
theorem d52_215 : pv_dec 52 215 = some (.invokestatic 72, 3) := pv_dec_of b52 (by decide +kernel)
theorem d52_218 : pv_dec 52 218 = some (.return_, 1) := pv_dec_of b52 (by decide +kernel)
theorem G0_9 : pv_gfo "AngleNet$Net" 9 = some (2, 5) := by decide +kernel
theorem g52_9 : pv_gf 52 9 = some (2, 5) := pv_gfo_of o52 G0_9
theorem G0_15 : pv_gfo "AngleNet$Net" 15 = some (2, 6) := by decide +kernel
theorem g52_15 : pv_gf 52 15 = some (2, 6) := pv_gfo_of o52 G0_15
theorem g52_18 : pv_gf 52 18 = some (2, 7) := pv_gfo_of o52 G0_18
theorem g52_21 : pv_gf 52 21 = some (2, 8) := pv_gfo_of o52 G0_21
theorem g52_24 : pv_gf 52 24 = some (2, 9) := pv_gfo_of o52 G0_24
theorem g52_27 : pv_gf 52 27 = some (2, 10) := pv_gfo_of o52 G0_27
theorem g52_30 : pv_gf 52 30 = some (2, 11) := pv_gfo_of o52 G0_30
theorem g52_33 : pv_gf 52 33 = some (2, 12) := pv_gfo_of o52 G0_33
theorem G0_38 : pv_gfo "AngleNet$Net" 38 = some (2, 13) := by decide +kernel
theorem g52_38 : pv_gf 52 38 = some (2, 13) := pv_gfo_of o52 G0_38
theorem g52_41 : pv_gf 52 41 = some (2, 0) := pv_gfo_of o52 G0_41
theorem g52_45 : pv_gf 52 45 = some (2, 1) := pv_gfo_of o52 G0_45
theorem g52_48 : pv_gf 52 48 = some (2, 2) := pv_gfo_of o52 G0_48
theorem g52_51 : pv_gf 52 51 = some (2, 3) := pv_gfo_of o52 G0_51
theorem g52_54 : pv_gf 52 54 = some (2, 4) := pv_gfo_of o52 G0_54
theorem g52_66 : pv_gf 52 66 = some (2, 14) := pv_gfo_of o52 G0_66
theorem g52_69 : pv_gf 52 69 = some (2, 15) := pv_gfo_of o52 G0_69
theorem k52_72 : pv_kC 52 72 = true := by decide +kernel
theorem o9 : pv_own 9 = "AngleNet$Tape" := by decide +kernel
theorem b9 : pv_bc 9 = prog_11_method_2_code := pv_bcof (i := 9) rfl
theorem m9 : pv_mL 9 = 3 := by decide +kernel
theorem tt9 : pv_rt 9 = none := by decide +kernel
theorem d9_0 : pv_dec 9 0 = some (.bipush 24, 2) := pv_dec_of b9 (by decide +kernel)
theorem d9_2 : pv_dec 9 2 = some (.istore_n 2, 1) := pv_dec_of b9 (by decide +kernel)
theorem d9_3 : pv_dec 9 3 = some (.iload_n 2, 1) := pv_dec_of b9 (by decide +kernel)
theorem d9_4 : pv_dec 9 4 = some (.ifCond .lt 42, 3) := pv_dec_of b9 (by decide +kernel)
theorem d9_7 : pv_dec 9 7 = some (.aload_n 0, 1) := pv_dec_of b9 (by decide +kernel)
theorem d9_8 : pv_dec 9 8 = some (.getfield 26, 3) := pv_dec_of b9 (by decide +kernel)
theorem d9_11 : pv_dec 9 11 = some (.sipush 1600, 3) := pv_dec_of b9 (by decide +kernel)
theorem d9_14 : pv_dec 9 14 = some (.if_icmp .ge 32, 3) := pv_dec_of b9 (by decide +kernel)
theorem d9_17 : pv_dec 9 17 = some (.aload_n 0, 1) := pv_dec_of b9 (by decide +kernel)
theorem d9_18 : pv_dec 9 18 = some (.getfield 22, 3) := pv_dec_of b9 (by decide +kernel)
theorem d9_21 : pv_dec 9 21 = some (.aload_n 0, 1) := pv_dec_of b9 (by decide +kernel)
theorem d9_22 : pv_dec 9 22 = some (.getfield 26, 3) := pv_dec_of b9 (by decide +kernel)
theorem d9_25 : pv_dec 9 25 = some (.iload_n 1, 1) := pv_dec_of b9 (by decide +kernel)
theorem d9_26 : pv_dec 9 26 = some (.iload_n 2, 1) := pv_dec_of b9 (by decide +kernel)
theorem d9_27 : pv_dec 9 27 = some (.ishr, 1) := pv_dec_of b9 (by decide +kernel)
theorem d9_28 : pv_dec 9 28 = some (.i2b, 1) := pv_dec_of b9 (by decide +kernel)
theorem d9_29 : pv_dec 9 29 = some (.bastore, 1) := pv_dec_of b9 (by decide +kernel)
theorem d9_30 : pv_dec 9 30 = some (.aload_n 0, 1) := pv_dec_of b9 (by decide +kernel)
theorem d9_31 : pv_dec 9 31 = some (.dup, 1) := pv_dec_of b9 (by decide +kernel)
theorem d9_32 : pv_dec 9 32 = some (.getfield 26, 3) := pv_dec_of b9 (by decide +kernel)
theorem d9_35 : pv_dec 9 35 = some (.iconst 1, 1) := pv_dec_of b9 (by decide +kernel)
theorem d9_36 : pv_dec 9 36 = some (.iadd, 1) := pv_dec_of b9 (by decide +kernel)
theorem d9_37 : pv_dec 9 37 = some (.putfield 26, 3) := pv_dec_of b9 (by decide +kernel)
theorem d9_40 : pv_dec 9 40 = some (.iinc 2 (-8), 3) := pv_dec_of b9 (by decide +kernel)
theorem d9_43 : pv_dec 9 43 = some (.goto (-40), 3) := pv_dec_of b9 (by decide +kernel)
theorem d9_46 : pv_dec 9 46 = some (.return_, 1) := pv_dec_of b9 (by decide +kernel)
theorem G2_22 : pv_gfo "AngleNet$Tape" 22 = some (1, 4) := by decide +kernel
theorem g9_22 : pv_gf 9 22 = some (1, 4) := pv_gfo_of o9 G2_22
theorem G2_26 : pv_gfo "AngleNet$Tape" 26 = some (1, 0) := by decide +kernel
theorem g9_26 : pv_gf 9 26 = some (1, 0) := pv_gfo_of o9 G2_26
theorem w1_0 : pv_ft 1 0 = some .int := by decide +kernel
theorem o17 : pv_own 17 = "AngleNet$Tape" := by decide +kernel
theorem b17 : pv_bc 17 = prog_11_method_6_code := pv_bcof (i := 17) rfl
theorem m17 : pv_mL 17 = 1 := by decide +kernel
theorem tt17 : pv_rt 17 = some .boolean := by decide +kernel
theorem d17_0 : pv_dec 17 0 = some (.iload_n 0, 1) := pv_dec_of b17 (by decide +kernel)
theorem d17_1 : pv_dec 17 1 = some (.bipush 32, 2) := pv_dec_of b17 (by decide +kernel)
theorem d17_3 : pv_dec 17 3 = some (.if_icmp .eq 9, 3) := pv_dec_of b17 (by decide +kernel)
theorem d17_6 : pv_dec 17 6 = some (.iload_n 0, 1) := pv_dec_of b17 (by decide +kernel)
theorem d17_7 : pv_dec 17 7 = some (.bipush 10, 2) := pv_dec_of b17 (by decide +kernel)
theorem d17_9 : pv_dec 17 9 = some (.if_icmp .ne 7, 3) := pv_dec_of b17 (by decide +kernel)
theorem d17_12 : pv_dec 17 12 = some (.iconst 1, 1) := pv_dec_of b17 (by decide +kernel)
theorem d17_13 : pv_dec 17 13 = some (.goto 4, 3) := pv_dec_of b17 (by decide +kernel)
theorem d17_16 : pv_dec 17 16 = some (.iconst 0, 1) := pv_dec_of b17 (by decide +kernel)
theorem d17_17 : pv_dec 17 17 = some (.ireturn, 1) := pv_dec_of b17 (by decide +kernel)
theorem o18 : pv_own 18 = "AngleNet$Tape" := by decide +kernel
theorem b18 : pv_bc 18 = prog_11_method_7_code := pv_bcof (i := 18) rfl
theorem m18 : pv_mL 18 = 1 := by decide +kernel
theorem tt18 : pv_rt 18 = some .int := by decide +kernel
theorem d18_0 : pv_dec 18 0 = some (.iload_n 0, 1) := pv_dec_of b18 (by decide +kernel)
theorem d18_1 : pv_dec 18 1 = some (.bipush 97, 2) := pv_dec_of b18 (by decide +kernel)
theorem d18_3 : pv_dec 18 3 = some (.if_icmp .lt 11, 3) := pv_dec_of b18 (by decide +kernel)
theorem d18_6 : pv_dec 18 6 = some (.iload_n 0, 1) := pv_dec_of b18 (by decide +kernel)
theorem d18_7 : pv_dec 18 7 = some (.bipush 122, 2) := pv_dec_of b18 (by decide +kernel)
theorem d18_9 : pv_dec 18 9 = some (.if_icmp .gt 5, 3) := pv_dec_of b18 (by decide +kernel)
theorem d18_12 : pv_dec 18 12 = some (.iconst 1, 1) := pv_dec_of b18 (by decide +kernel)
theorem d18_13 : pv_dec 18 13 = some (.ireturn, 1) := pv_dec_of b18 (by decide +kernel)
theorem d18_14 : pv_dec 18 14 = some (.iload_n 0, 1) := pv_dec_of b18 (by decide +kernel)
theorem d18_15 : pv_dec 18 15 = some (.bipush 48, 2) := pv_dec_of b18 (by decide +kernel)
theorem d18_17 : pv_dec 18 17 = some (.if_icmp .lt 11, 3) := pv_dec_of b18 (by decide +kernel)
theorem d18_20 : pv_dec 18 20 = some (.iload_n 0, 1) := pv_dec_of b18 (by decide +kernel)
theorem d18_21 : pv_dec 18 21 = some (.bipush 57, 2) := pv_dec_of b18 (by decide +kernel)
theorem d18_23 : pv_dec 18 23 = some (.if_icmp .gt 5, 3) := pv_dec_of b18 (by decide +kernel)
theorem d18_26 : pv_dec 18 26 = some (.iconst 2, 1) := pv_dec_of b18 (by decide +kernel)
theorem d18_27 : pv_dec 18 27 = some (.ireturn, 1) := pv_dec_of b18 (by decide +kernel)
theorem d18_28 : pv_dec 18 28 = some (.iload_n 0, 1) := pv_dec_of b18 (by decide +kernel)
theorem d18_29 : pv_dec 18 29 = some (.bipush 59, 2) := pv_dec_of b18 (by decide +kernel)
theorem d18_31 : pv_dec 18 31 = some (.if_icmp .ne 7, 3) := pv_dec_of b18 (by decide +kernel)
theorem d18_34 : pv_dec 18 34 = some (.iconst 3, 1) := pv_dec_of b18 (by decide +kernel)
theorem d18_35 : pv_dec 18 35 = some (.goto 4, 3) := pv_dec_of b18 (by decide +kernel)
theorem d18_38 : pv_dec 18 38 = some (.iconst 4, 1) := pv_dec_of b18 (by decide +kernel)
theorem d18_39 : pv_dec 18 39 = some (.ireturn, 1) := pv_dec_of b18 (by decide +kernel)
theorem o16 : pv_own 16 = "AngleNet$Tape" := by decide +kernel
theorem b16 : pv_bc 16 = prog_11_method_5_code := pv_bcof (i := 16) rfl
theorem m16 : pv_mL 16 = 1 := by decide +kernel
theorem tt16 : pv_rt 16 = none := by decide +kernel
theorem d16_0 : pv_dec 16 0 = some (.aload_n 0, 1) := pv_dec_of b16 (by decide +kernel)
theorem d16_1 : pv_dec 16 1 = some (.aload_n 0, 1) := pv_dec_of b16 (by decide +kernel)
theorem d16_2 : pv_dec 16 2 = some (.getfield 35, 3) := pv_dec_of b16 (by decide +kernel)
theorem d16_5 : pv_dec 16 5 = some (.putfield 52, 3) := pv_dec_of b16 (by decide +kernel)
theorem d16_8 : pv_dec 16 8 = some (.aload_n 0, 1) := pv_dec_of b16 (by decide +kernel)
theorem d16_9 : pv_dec 16 9 = some (.getfield 52, 3) := pv_dec_of b16 (by decide +kernel)
theorem d16_12 : pv_dec 16 12 = some (.aload_n 0, 1) := pv_dec_of b16 (by decide +kernel)
theorem d16_13 : pv_dec 16 13 = some (.getfield 26, 3) := pv_dec_of b16 (by decide +kernel)
theorem d16_16 : pv_dec 16 16 = some (.if_icmp .ge 31, 3) := pv_dec_of b16 (by decide +kernel)
theorem d16_19 : pv_dec 16 19 = some (.aload_n 0, 1) := pv_dec_of b16 (by decide +kernel)
theorem d16_20 : pv_dec 16 20 = some (.getfield 22, 3) := pv_dec_of b16 (by decide +kernel)
theorem d16_23 : pv_dec 16 23 = some (.aload_n 0, 1) := pv_dec_of b16 (by decide +kernel)
theorem d16_24 : pv_dec 16 24 = some (.getfield 52, 3) := pv_dec_of b16 (by decide +kernel)
theorem d16_27 : pv_dec 16 27 = some (.baload, 1) := pv_dec_of b16 (by decide +kernel)
theorem d16_28 : pv_dec 16 28 = some (.invokestatic 62, 3) := pv_dec_of b16 (by decide +kernel)
theorem d16_31 : pv_dec 16 31 = some (.ifCond .eq 16, 3) := pv_dec_of b16 (by decide +kernel)
theorem d16_34 : pv_dec 16 34 = some (.aload_n 0, 1) := pv_dec_of b16 (by decide +kernel)
theorem d16_35 : pv_dec 16 35 = some (.dup, 1) := pv_dec_of b16 (by decide +kernel)
theorem d16_36 : pv_dec 16 36 = some (.getfield 52, 3) := pv_dec_of b16 (by decide +kernel)
theorem d16_39 : pv_dec 16 39 = some (.iconst 1, 1) := pv_dec_of b16 (by decide +kernel)
theorem d16_40 : pv_dec 16 40 = some (.iadd, 1) := pv_dec_of b16 (by decide +kernel)
theorem d16_41 : pv_dec 16 41 = some (.putfield 52, 3) := pv_dec_of b16 (by decide +kernel)
theorem d16_44 : pv_dec 16 44 = some (.goto (-36), 3) := pv_dec_of b16 (by decide +kernel)
theorem d16_47 : pv_dec 16 47 = some (.aload_n 0, 1) := pv_dec_of b16 (by decide +kernel)
theorem d16_48 : pv_dec 16 48 = some (.getfield 52, 3) := pv_dec_of b16 (by decide +kernel)
theorem d16_51 : pv_dec 16 51 = some (.aload_n 0, 1) := pv_dec_of b16 (by decide +kernel)
theorem d16_52 : pv_dec 16 52 = some (.getfield 26, 3) := pv_dec_of b16 (by decide +kernel)
theorem d16_55 : pv_dec 16 55 = some (.if_icmp .lt 17, 3) := pv_dec_of b16 (by decide +kernel)
theorem d16_58 : pv_dec 16 58 = some (.aload_n 0, 1) := pv_dec_of b16 (by decide +kernel)
theorem d16_59 : pv_dec 16 59 = some (.iconst 0, 1) := pv_dec_of b16 (by decide +kernel)
theorem d16_60 : pv_dec 16 60 = some (.putfield 45, 3) := pv_dec_of b16 (by decide +kernel)
theorem d16_63 : pv_dec 16 63 = some (.aload_n 0, 1) := pv_dec_of b16 (by decide +kernel)
theorem d16_64 : pv_dec 16 64 = some (.aload_n 0, 1) := pv_dec_of b16 (by decide +kernel)
theorem d16_65 : pv_dec 16 65 = some (.getfield 52, 3) := pv_dec_of b16 (by decide +kernel)
theorem d16_68 : pv_dec 16 68 = some (.putfield 35, 3) := pv_dec_of b16 (by decide +kernel)
theorem d16_71 : pv_dec 16 71 = some (.return_, 1) := pv_dec_of b16 (by decide +kernel)
theorem d16_72 : pv_dec 16 72 = some (.aload_n 0, 1) := pv_dec_of b16 (by decide +kernel)
theorem d16_73 : pv_dec 16 73 = some (.aload_n 0, 1) := pv_dec_of b16 (by decide +kernel)
theorem d16_74 : pv_dec 16 74 = some (.getfield 22, 3) := pv_dec_of b16 (by decide +kernel)
theorem d16_77 : pv_dec 16 77 = some (.aload_n 0, 1) := pv_dec_of b16 (by decide +kernel)
theorem d16_78 : pv_dec 16 78 = some (.getfield 52, 3) := pv_dec_of b16 (by decide +kernel)
theorem d16_81 : pv_dec 16 81 = some (.baload, 1) := pv_dec_of b16 (by decide +kernel)
theorem d16_82 : pv_dec 16 82 = some (.invokestatic 66, 3) := pv_dec_of b16 (by decide +kernel)
theorem d16_85 : pv_dec 16 85 = some (.putfield 45, 3) := pv_dec_of b16 (by decide +kernel)
theorem d16_88 : pv_dec 16 88 = some (.aload_n 0, 1) := pv_dec_of b16 (by decide +kernel)
theorem d16_89 : pv_dec 16 89 = some (.aload_n 0, 1) := pv_dec_of b16 (by decide +kernel)
theorem d16_90 : pv_dec 16 90 = some (.getfield 52, 3) := pv_dec_of b16 (by decide +kernel)
theorem d16_93 : pv_dec 16 93 = some (.iconst 1, 1) := pv_dec_of b16 (by decide +kernel)
theorem d16_94 : pv_dec 16 94 = some (.iadd, 1) := pv_dec_of b16 (by decide +kernel)
theorem d16_95 : pv_dec 16 95 = some (.putfield 35, 3) := pv_dec_of b16 (by decide +kernel)
theorem d16_98 : pv_dec 16 98 = some (.aload_n 0, 1) := pv_dec_of b16 (by decide +kernel)
theorem d16_99 : pv_dec 16 99 = some (.getfield 35, 3) := pv_dec_of b16 (by decide +kernel)
theorem d16_102 : pv_dec 16 102 = some (.aload_n 0, 1) := pv_dec_of b16 (by decide +kernel)
theorem d16_103 : pv_dec 16 103 = some (.getfield 26, 3) := pv_dec_of b16 (by decide +kernel)
theorem d16_106 : pv_dec 16 106 = some (.if_icmp .ge 51, 3) := pv_dec_of b16 (by decide +kernel)
theorem d16_109 : pv_dec 16 109 = some (.aload_n 0, 1) := pv_dec_of b16 (by decide +kernel)
theorem d16_110 : pv_dec 16 110 = some (.getfield 45, 3) := pv_dec_of b16 (by decide +kernel)
theorem d16_113 : pv_dec 16 113 = some (.iconst 1, 1) := pv_dec_of b16 (by decide +kernel)
theorem d16_114 : pv_dec 16 114 = some (.if_icmp .eq 11, 3) := pv_dec_of b16 (by decide +kernel)
theorem d16_117 : pv_dec 16 117 = some (.aload_n 0, 1) := pv_dec_of b16 (by decide +kernel)
theorem d16_118 : pv_dec 16 118 = some (.getfield 45, 3) := pv_dec_of b16 (by decide +kernel)
theorem d16_121 : pv_dec 16 121 = some (.iconst 2, 1) := pv_dec_of b16 (by decide +kernel)
theorem d16_122 : pv_dec 16 122 = some (.if_icmp .ne 35, 3) := pv_dec_of b16 (by decide +kernel)
theorem d16_125 : pv_dec 16 125 = some (.aload_n 0, 1) := pv_dec_of b16 (by decide +kernel)
theorem d16_126 : pv_dec 16 126 = some (.getfield 22, 3) := pv_dec_of b16 (by decide +kernel)
theorem d16_129 : pv_dec 16 129 = some (.aload_n 0, 1) := pv_dec_of b16 (by decide +kernel)
theorem d16_130 : pv_dec 16 130 = some (.getfield 35, 3) := pv_dec_of b16 (by decide +kernel)
theorem d16_133 : pv_dec 16 133 = some (.baload, 1) := pv_dec_of b16 (by decide +kernel)
theorem d16_134 : pv_dec 16 134 = some (.invokestatic 66, 3) := pv_dec_of b16 (by decide +kernel)
theorem d16_137 : pv_dec 16 137 = some (.aload_n 0, 1) := pv_dec_of b16 (by decide +kernel)
theorem d16_138 : pv_dec 16 138 = some (.getfield 45, 3) := pv_dec_of b16 (by decide +kernel)
theorem d16_141 : pv_dec 16 141 = some (.if_icmp .ne 16, 3) := pv_dec_of b16 (by decide +kernel)
theorem d16_144 : pv_dec 16 144 = some (.aload_n 0, 1) := pv_dec_of b16 (by decide +kernel)
theorem d16_145 : pv_dec 16 145 = some (.dup, 1) := pv_dec_of b16 (by decide +kernel)
theorem d16_146 : pv_dec 16 146 = some (.getfield 35, 3) := pv_dec_of b16 (by decide +kernel)
theorem d16_149 : pv_dec 16 149 = some (.iconst 1, 1) := pv_dec_of b16 (by decide +kernel)
theorem d16_150 : pv_dec 16 150 = some (.iadd, 1) := pv_dec_of b16 (by decide +kernel)
theorem d16_151 : pv_dec 16 151 = some (.putfield 35, 3) := pv_dec_of b16 (by decide +kernel)
theorem d16_154 : pv_dec 16 154 = some (.goto (-56), 3) := pv_dec_of b16 (by decide +kernel)
theorem d16_157 : pv_dec 16 157 = some (.return_, 1) := pv_dec_of b16 (by decide +kernel)
theorem g16_26 : pv_gf 16 26 = some (1, 0) := pv_gfo_of o16 G2_26
theorem G2_35 : pv_gfo "AngleNet$Tape" 35 = some (1, 6) := by decide +kernel
theorem g16_35 : pv_gf 16 35 = some (1, 6) := pv_gfo_of o16 G2_35
theorem G2_45 : pv_gfo "AngleNet$Tape" 45 = some (1, 7) := by decide +kernel
theorem g16_45 : pv_gf 16 45 = some (1, 7) := pv_gfo_of o16 G2_45
theorem G2_52 : pv_gfo "AngleNet$Tape" 52 = some (1, 5) := by decide +kernel
theorem g16_52 : pv_gf 16 52 = some (1, 5) := pv_gfo_of o16 G2_52
theorem w1_5 : pv_ft 1 5 = some .int := by decide +kernel
theorem w1_6 : pv_ft 1 6 = some .int := by decide +kernel
theorem w1_7 : pv_ft 1 7 = some .int := by decide +kernel
theorem o12 : pv_own 12 = "AngleNet$Tape" := by decide +kernel
theorem b12 : pv_bc 12 = prog_11_method_3_code := pv_bcof (i := 12) rfl
theorem m12 : pv_mL 12 = 2 := by decide +kernel
theorem tt12 : pv_rt 12 = some .boolean := by decide +kernel
theorem d12_0 : pv_dec 12 0 = some (.aload_n 0, 1) := pv_dec_of b12 (by decide +kernel)
theorem d12_1 : pv_dec 12 1 = some (.getfield 18, 3) := pv_dec_of b12 (by decide +kernel)
theorem d12_4 : pv_dec 12 4 = some (.invokevirtual 29, 3) := pv_dec_of b12 (by decide +kernel)
theorem d12_7 : pv_dec 12 7 = some (.aload_n 0, 1) := pv_dec_of b12 (by decide +kernel)
theorem d12_8 : pv_dec 12 8 = some (.iconst 0, 1) := pv_dec_of b12 (by decide +kernel)
theorem d12_9 : pv_dec 12 9 = some (.putfield 32, 3) := pv_dec_of b12 (by decide +kernel)
theorem d12_12 : pv_dec 12 12 = some (.aload_n 0, 1) := pv_dec_of b12 (by decide +kernel)
theorem d12_13 : pv_dec 12 13 = some (.iconst (-1), 1) := pv_dec_of b12 (by decide +kernel)
theorem d12_14 : pv_dec 12 14 = some (.putfield 9, 3) := pv_dec_of b12 (by decide +kernel)
theorem d12_17 : pv_dec 12 17 = some (.aload_n 0, 1) := pv_dec_of b12 (by decide +kernel)
theorem d12_18 : pv_dec 12 18 = some (.iconst 0, 1) := pv_dec_of b12 (by decide +kernel)
theorem d12_19 : pv_dec 12 19 = some (.putfield 35, 3) := pv_dec_of b12 (by decide +kernel)
theorem d12_22 : pv_dec 12 22 = some (.aload_n 0, 1) := pv_dec_of b12 (by decide +kernel)
theorem d12_23 : pv_dec 12 23 = some (.iconst 0, 1) := pv_dec_of b12 (by decide +kernel)
theorem d12_24 : pv_dec 12 24 = some (.putfield 38, 3) := pv_dec_of b12 (by decide +kernel)
theorem d12_27 : pv_dec 12 27 = some (.aload_n 0, 1) := pv_dec_of b12 (by decide +kernel)
theorem d12_28 : pv_dec 12 28 = some (.invokevirtual 42, 3) := pv_dec_of b12 (by decide +kernel)
theorem d12_31 : pv_dec 12 31 = some (.iconst 0, 1) := pv_dec_of b12 (by decide +kernel)
theorem d12_32 : pv_dec 12 32 = some (.istore_n 1, 1) := pv_dec_of b12 (by decide +kernel)
theorem d12_33 : pv_dec 12 33 = some (.iload_n 1, 1) := pv_dec_of b12 (by decide +kernel)
theorem d12_34 : pv_dec 12 34 = some (.sipush 1600, 3) := pv_dec_of b12 (by decide +kernel)
theorem d12_37 : pv_dec 12 37 = some (.if_icmp .ge 60, 3) := pv_dec_of b12 (by decide +kernel)
theorem d12_40 : pv_dec 12 40 = some (.aload_n 0, 1) := pv_dec_of b12 (by decide +kernel)
theorem d12_41 : pv_dec 12 41 = some (.getfield 45, 3) := pv_dec_of b12 (by decide +kernel)
theorem d12_44 : pv_dec 12 44 = some (.ifCond .eq 53, 3) := pv_dec_of b12 (by decide +kernel)
theorem d12_47 : pv_dec 12 47 = some (.aload_n 0, 1) := pv_dec_of b12 (by decide +kernel)
theorem d12_48 : pv_dec 12 48 = some (.invokevirtual 48, 3) := pv_dec_of b12 (by decide +kernel)
theorem d12_51 : pv_dec 12 51 = some (.ifCond .ne 5, 3) := pv_dec_of b12 (by decide +kernel)
theorem d12_54 : pv_dec 12 54 = some (.iconst 0, 1) := pv_dec_of b12 (by decide +kernel)
theorem d12_55 : pv_dec 12 55 = some (.ireturn, 1) := pv_dec_of b12 (by decide +kernel)
theorem d12_56 : pv_dec 12 56 = some (.aload_n 0, 1) := pv_dec_of b12 (by decide +kernel)
theorem d12_57 : pv_dec 12 57 = some (.getfield 45, 3) := pv_dec_of b12 (by decide +kernel)
theorem d12_60 : pv_dec 12 60 = some (.iconst 3, 1) := pv_dec_of b12 (by decide +kernel)
theorem d12_61 : pv_dec 12 61 = some (.if_icmp .eq 13, 3) := pv_dec_of b12 (by decide +kernel)
theorem d12_64 : pv_dec 12 64 = some (.aload_n 0, 1) := pv_dec_of b12 (by decide +kernel)
theorem d12_65 : pv_dec 12 65 = some (.iconst 1, 1) := pv_dec_of b12 (by decide +kernel)
theorem d12_66 : pv_dec 12 66 = some (.aload_n 0, 1) := pv_dec_of b12 (by decide +kernel)
theorem d12_67 : pv_dec 12 67 = some (.getfield 52, 3) := pv_dec_of b12 (by decide +kernel)
theorem d12_70 : pv_dec 12 70 = some (.invokevirtual 55, 3) := pv_dec_of b12 (by decide +kernel)
theorem d12_73 : pv_dec 12 73 = some (.ireturn, 1) := pv_dec_of b12 (by decide +kernel)
theorem d12_74 : pv_dec 12 74 = some (.aload_n 0, 1) := pv_dec_of b12 (by decide +kernel)
theorem d12_75 : pv_dec 12 75 = some (.invokevirtual 42, 3) := pv_dec_of b12 (by decide +kernel)
theorem d12_78 : pv_dec 12 78 = some (.aload_n 0, 1) := pv_dec_of b12 (by decide +kernel)
theorem d12_79 : pv_dec 12 79 = some (.getfield 18, 3) := pv_dec_of b12 (by decide +kernel)
theorem d12_82 : pv_dec 12 82 = some (.dup, 1) := pv_dec_of b12 (by decide +kernel)
theorem d12_83 : pv_dec 12 83 = some (.getfield 59, 3) := pv_dec_of b12 (by decide +kernel)
theorem d12_86 : pv_dec 12 86 = some (.iconst 1, 1) := pv_dec_of b12 (by decide +kernel)
theorem d12_87 : pv_dec 12 87 = some (.iadd, 1) := pv_dec_of b12 (by decide +kernel)
theorem d12_88 : pv_dec 12 88 = some (.putfield 59, 3) := pv_dec_of b12 (by decide +kernel)
theorem d12_91 : pv_dec 12 91 = some (.iinc 1 1, 3) := pv_dec_of b12 (by decide +kernel)
theorem d12_94 : pv_dec 12 94 = some (.goto (-61), 3) := pv_dec_of b12 (by decide +kernel)
theorem d12_97 : pv_dec 12 97 = some (.iconst 1, 1) := pv_dec_of b12 (by decide +kernel)
theorem d12_98 : pv_dec 12 98 = some (.ireturn, 1) := pv_dec_of b12 (by decide +kernel)
theorem G2_9 : pv_gfo "AngleNet$Tape" 9 = some (1, 2) := by decide +kernel
theorem g12_9 : pv_gf 12 9 = some (1, 2) := pv_gfo_of o12 G2_9
theorem G2_18 : pv_gfo "AngleNet$Tape" 18 = some (1, 3) := by decide +kernel
theorem g12_18 : pv_gf 12 18 = some (1, 3) := pv_gfo_of o12 G2_18
theorem G2_32 : pv_gfo "AngleNet$Tape" 32 = some (1, 1) := by decide +kernel
theorem g12_32 : pv_gf 12 32 = some (1, 1) := pv_gfo_of o12 G2_32
theorem g12_35 : pv_gf 12 35 = some (1, 6) := pv_gfo_of o12 G2_35
theorem G2_38 : pv_gfo "AngleNet$Tape" 38 = some (1, 10) := by decide +kernel
theorem g12_38 : pv_gf 12 38 = some (1, 10) := pv_gfo_of o12 G2_38
theorem g12_45 : pv_gf 12 45 = some (1, 7) := pv_gfo_of o12 G2_45
theorem w1_1 : pv_ft 1 1 = some .int := by decide +kernel
theorem w1_2 : pv_ft 1 2 = some .int := by decide +kernel
theorem w1_10 : pv_ft 1 10 = some .boolean := by decide +kernel
theorem Y2_29 : pv_mlo "AngleNet$Tape" 29 = some (⟨"AngleNet$Net", "clear", "()V"⟩, none) := by decide +kernel
theorem V13 : pv_cV 13 2 0 1 ⟨"AngleNet$Net", "clear", "()V"⟩ = true := by decide +kernel
theorem k12_29 : pv_kV 12 29 13 2 0 1 := pv_kV_of o12 Y2_29 V13 (by decide +kernel)
theorem Y2_42 : pv_mlo "AngleNet$Tape" 42 = some (⟨"AngleNet$Tape", "advance", "()V"⟩, none) := by decide +kernel
theorem V16 : pv_cV 16 1 0 1 ⟨"AngleNet$Tape", "advance", "()V"⟩ = true := by decide +kernel
theorem k12_42 : pv_kV 12 42 16 1 0 1 := pv_kV_of o12 Y2_42 V16 (by decide +kernel)
