theorem o48 : pv_own 48 = "AngleNet$Net" := by decide +kernel
theorem b48 : pv_bc 48 = prog_7_method_7_code := pv_bcof (i := 48) rfl
theorem m48 : pv_mL 48 = 2 := by decide +kernel
theorem tt48 : pv_rt 48 = some .boolean := by decide +kernel
theorem d48_0 : pv_dec 48 0 = some (.iload_n 1, 1) := pv_dec_of b48 (by decide +kernel)
theorem d48_1 : pv_dec 48 1 = some (.ifCond .lt 15, 3) := pv_dec_of b48 (by decide +kernel)
theorem d48_4 : pv_dec 48 4 = some (.iload_n 1, 1) := pv_dec_of b48 (by decide +kernel)
theorem d48_5 : pv_dec 48 5 = some (.aload_n 0, 1) := pv_dec_of b48 (by decide +kernel)
theorem d48_6 : pv_dec 48 6 = some (.getfield 41, 3) := pv_dec_of b48 (by decide +kernel)
theorem d48_9 : pv_dec 48 9 = some (.if_icmp .ge 7, 3) := pv_dec_of b48 (by decide +kernel)
theorem d48_12 : pv_dec 48 12 = some (.iconst 1, 1) := pv_dec_of b48 (by decide +kernel)
theorem d48_13 : pv_dec 48 13 = some (.goto 4, 3) := pv_dec_of b48 (by decide +kernel)
theorem d48_16 : pv_dec 48 16 = some (.iconst 0, 1) := pv_dec_of b48 (by decide +kernel)
theorem d48_17 : pv_dec 48 17 = some (.ireturn, 1) := pv_dec_of b48 (by decide +kernel)
theorem G1_41 : pv_gfo "AngleNet$Net" 41 = some (2, 0) := by decide +kernel
theorem g48_41 : pv_gf 48 41 = some (2, 0) := pv_gfo_of o48 G1_41
theorem o55 : pv_own 55 = "AngleNet$Net" := by decide +kernel
theorem b55 : pv_bc 55 = prog_7_method_8_code := pv_bcof (i := 55) rfl
theorem m55 : pv_mL 55 = 2 := by decide +kernel
theorem tt55 : pv_rt 55 = some .boolean := by decide +kernel
theorem d55_0 : pv_dec 55 0 = some (.iload_n 1, 1) := pv_dec_of b55 (by decide +kernel)
theorem d55_1 : pv_dec 55 1 = some (.ifCond .lt 15, 3) := pv_dec_of b55 (by decide +kernel)
theorem d55_4 : pv_dec 55 4 = some (.iload_n 1, 1) := pv_dec_of b55 (by decide +kernel)
theorem d55_5 : pv_dec 55 5 = some (.aload_n 0, 1) := pv_dec_of b55 (by decide +kernel)
theorem d55_6 : pv_dec 55 6 = some (.getfield 45, 3) := pv_dec_of b55 (by decide +kernel)
theorem d55_9 : pv_dec 55 9 = some (.if_icmp .ge 7, 3) := pv_dec_of b55 (by decide +kernel)
theorem d55_12 : pv_dec 55 12 = some (.iconst 1, 1) := pv_dec_of b55 (by decide +kernel)
theorem d55_13 : pv_dec 55 13 = some (.goto 4, 3) := pv_dec_of b55 (by decide +kernel)
theorem d55_16 : pv_dec 55 16 = some (.iconst 0, 1) := pv_dec_of b55 (by decide +kernel)
theorem d55_17 : pv_dec 55 17 = some (.ireturn, 1) := pv_dec_of b55 (by decide +kernel)
theorem G1_45 : pv_gfo "AngleNet$Net" 45 = some (2, 1) := by decide +kernel
theorem g55_45 : pv_gf 55 45 = some (2, 1) := pv_gfo_of o55 G1_45
theorem o64 : pv_own 64 = "AngleNet$Net" := by decide +kernel
theorem b64 : pv_bc 64 = prog_7_method_6_code := pv_bcof (i := 64) rfl
theorem m64 : pv_mL 64 = 1 := by decide +kernel
theorem tt64 : pv_rt 64 = some .boolean := by decide +kernel
theorem d64_0 : pv_dec 64 0 = some (.aload_n 0, 1) := pv_dec_of b64 (by decide +kernel)
theorem d64_1 : pv_dec 64 1 = some (.getfield 41, 3) := pv_dec_of b64 (by decide +kernel)
theorem d64_4 : pv_dec 64 4 = some (.ifCond .le 7, 3) := pv_dec_of b64 (by decide +kernel)
theorem d64_7 : pv_dec 64 7 = some (.iconst 1, 1) := pv_dec_of b64 (by decide +kernel)
theorem d64_8 : pv_dec 64 8 = some (.goto 4, 3) := pv_dec_of b64 (by decide +kernel)
theorem d64_11 : pv_dec 64 11 = some (.iconst 0, 1) := pv_dec_of b64 (by decide +kernel)
theorem d64_12 : pv_dec 64 12 = some (.ireturn, 1) := pv_dec_of b64 (by decide +kernel)
theorem g64_41 : pv_gf 64 41 = some (2, 0) := pv_gfo_of o64 G1_41
theorem o47 : pv_own 47 = "AngleNet$Net" := by decide +kernel
theorem b47 : pv_bc 47 = prog_7_method_9_code := pv_bcof (i := 47) rfl
theorem m47 : pv_mL 47 = 3 := by decide +kernel
theorem tt47 : pv_rt 47 = some .boolean := by decide +kernel
theorem d47_0 : pv_dec 47 0 = some (.aload_n 0, 1) := pv_dec_of b47 (by decide +kernel)
theorem d47_1 : pv_dec 47 1 = some (.iload_n 1, 1) := pv_dec_of b47 (by decide +kernel)
theorem d47_2 : pv_dec 47 2 = some (.invokevirtual 78, 3) := pv_dec_of b47 (by decide +kernel)
theorem d47_5 : pv_dec 47 5 = some (.ifCond .eq 34, 3) := pv_dec_of b47 (by decide +kernel)
theorem d47_8 : pv_dec 47 8 = some (.aload_n 0, 1) := pv_dec_of b47 (by decide +kernel)
theorem d47_9 : pv_dec 47 9 = some (.iload_n 2, 1) := pv_dec_of b47 (by decide +kernel)
theorem d47_10 : pv_dec 47 10 = some (.invokevirtual 78, 3) := pv_dec_of b47 (by decide +kernel)
theorem d47_13 : pv_dec 47 13 = some (.ifCond .eq 26, 3) := pv_dec_of b47 (by decide +kernel)
theorem d47_16 : pv_dec 47 16 = some (.iload_n 1, 1) := pv_dec_of b47 (by decide +kernel)
theorem d47_17 : pv_dec 47 17 = some (.iload_n 2, 1) := pv_dec_of b47 (by decide +kernel)
theorem d47_18 : pv_dec 47 18 = some (.if_icmp .eq 21, 3) := pv_dec_of b47 (by decide +kernel)
theorem d47_21 : pv_dec 47 21 = some (.aload_n 0, 1) := pv_dec_of b47 (by decide +kernel)
theorem d47_22 : pv_dec 47 22 = some (.getfield 33, 3) := pv_dec_of b47 (by decide +kernel)
theorem d47_25 : pv_dec 47 25 = some (.bipush 10, 2) := pv_dec_of b47 (by decide +kernel)
theorem d47_27 : pv_dec 47 27 = some (.iload_n 1, 1) := pv_dec_of b47 (by decide +kernel)
theorem d47_28 : pv_dec 47 28 = some (.imul, 1) := pv_dec_of b47 (by decide +kernel)
theorem d47_29 : pv_dec 47 29 = some (.iload_n 2, 1) := pv_dec_of b47 (by decide +kernel)
theorem d47_30 : pv_dec 47 30 = some (.iadd, 1) := pv_dec_of b47 (by decide +kernel)
theorem d47_31 : pv_dec 47 31 = some (.iaload, 1) := pv_dec_of b47 (by decide +kernel)
theorem d47_32 : pv_dec 47 32 = some (.ifCond .le 7, 3) := pv_dec_of b47 (by decide +kernel)
theorem d47_35 : pv_dec 47 35 = some (.iconst 1, 1) := pv_dec_of b47 (by decide +kernel)
theorem d47_36 : pv_dec 47 36 = some (.goto 4, 3) := pv_dec_of b47 (by decide +kernel)
theorem d47_39 : pv_dec 47 39 = some (.iconst 0, 1) := pv_dec_of b47 (by decide +kernel)
theorem d47_40 : pv_dec 47 40 = some (.ireturn, 1) := pv_dec_of b47 (by decide +kernel)
theorem G1_33 : pv_gfo "AngleNet$Net" 33 = some (2, 12) := by decide +kernel
theorem g47_33 : pv_gf 47 33 = some (2, 12) := pv_gfo_of o47 G1_33
theorem Y1_78 : pv_mlo "AngleNet$Net" 78 = some (⟨"AngleNet$Net", "isPost", "(I)Z"⟩, none) := by decide +kernel
theorem V48 : pv_cV 48 2 1 2 ⟨"AngleNet$Net", "isPost", "(I)Z"⟩ = true := by decide +kernel
theorem k47_78 : pv_kV 47 78 48 2 1 2 := pv_kV_of o47 Y1_78 V48 (by decide +kernel)
theorem o80 : pv_own 80 = "AngleNet$Net" := by decide +kernel
theorem b80 : pv_bc 80 = prog_7_method_10_code := pv_bcof (i := 80) rfl
theorem m80 : pv_mL 80 = 3 := by decide +kernel
theorem tt80 : pv_rt 80 = some .boolean := by decide +kernel
theorem d80_0 : pv_dec 80 0 = some (.aload_n 0, 1) := pv_dec_of b80 (by decide +kernel)
theorem d80_1 : pv_dec 80 1 = some (.iload_n 1, 1) := pv_dec_of b80 (by decide +kernel)
theorem d80_2 : pv_dec 80 2 = some (.invokevirtual 78, 3) := pv_dec_of b80 (by decide +kernel)
theorem d80_5 : pv_dec 80 5 = some (.ifCond .eq 30, 3) := pv_dec_of b80 (by decide +kernel)
theorem d80_8 : pv_dec 80 8 = some (.aload_n 0, 1) := pv_dec_of b80 (by decide +kernel)
theorem d80_9 : pv_dec 80 9 = some (.iload_n 2, 1) := pv_dec_of b80 (by decide +kernel)
theorem d80_10 : pv_dec 80 10 = some (.invokevirtual 78, 3) := pv_dec_of b80 (by decide +kernel)
theorem d80_13 : pv_dec 80 13 = some (.ifCond .eq 22, 3) := pv_dec_of b80 (by decide +kernel)
theorem d80_16 : pv_dec 80 16 = some (.aload_n 0, 1) := pv_dec_of b80 (by decide +kernel)
theorem d80_17 : pv_dec 80 17 = some (.getfield 33, 3) := pv_dec_of b80 (by decide +kernel)
theorem d80_20 : pv_dec 80 20 = some (.bipush 10, 2) := pv_dec_of b80 (by decide +kernel)
theorem d80_22 : pv_dec 80 22 = some (.iload_n 1, 1) := pv_dec_of b80 (by decide +kernel)
theorem d80_23 : pv_dec 80 23 = some (.imul, 1) := pv_dec_of b80 (by decide +kernel)
theorem d80_24 : pv_dec 80 24 = some (.iload_n 2, 1) := pv_dec_of b80 (by decide +kernel)
theorem d80_25 : pv_dec 80 25 = some (.iadd, 1) := pv_dec_of b80 (by decide +kernel)
theorem d80_26 : pv_dec 80 26 = some (.iaload, 1) := pv_dec_of b80 (by decide +kernel)
theorem d80_27 : pv_dec 80 27 = some (.iconst 1, 1) := pv_dec_of b80 (by decide +kernel)
theorem d80_28 : pv_dec 80 28 = some (.if_icmp .ne 7, 3) := pv_dec_of b80 (by decide +kernel)
theorem d80_31 : pv_dec 80 31 = some (.iconst 1, 1) := pv_dec_of b80 (by decide +kernel)
theorem d80_32 : pv_dec 80 32 = some (.goto 4, 3) := pv_dec_of b80 (by decide +kernel)
theorem d80_35 : pv_dec 80 35 = some (.iconst 0, 1) := pv_dec_of b80 (by decide +kernel)
theorem d80_36 : pv_dec 80 36 = some (.ireturn, 1) := pv_dec_of b80 (by decide +kernel)
theorem g80_33 : pv_gf 80 33 = some (2, 12) := pv_gfo_of o80 G1_33
theorem k80_78 : pv_kV 80 78 48 2 1 2 := pv_kV_of o80 Y1_78 V48 (by decide +kernel)
theorem o112 : pv_own 112 = "AngleNet$Net" := by decide +kernel
theorem b112 : pv_bc 112 = prog_7_method_11_code := pv_bcof (i := 112) rfl
theorem m112 : pv_mL 112 = 2 := by decide +kernel
theorem tt112 : pv_rt 112 = some .boolean := by decide +kernel
theorem d112_0 : pv_dec 112 0 = some (.aload_n 0, 1) := pv_dec_of b112 (by decide +kernel)
theorem d112_1 : pv_dec 112 1 = some (.iload_n 1, 1) := pv_dec_of b112 (by decide +kernel)
theorem d112_2 : pv_dec 112 2 = some (.invokevirtual 78, 3) := pv_dec_of b112 (by decide +kernel)
theorem d112_5 : pv_dec 112 5 = some (.ifCond .eq 17, 3) := pv_dec_of b112 (by decide +kernel)
theorem d112_8 : pv_dec 112 8 = some (.aload_n 0, 1) := pv_dec_of b112 (by decide +kernel)
theorem d112_9 : pv_dec 112 9 = some (.getfield 21, 3) := pv_dec_of b112 (by decide +kernel)
theorem d112_12 : pv_dec 112 12 = some (.iload_n 1, 1) := pv_dec_of b112 (by decide +kernel)
theorem d112_13 : pv_dec 112 13 = some (.iaload, 1) := pv_dec_of b112 (by decide +kernel)
theorem d112_14 : pv_dec 112 14 = some (.iconst (-1), 1) := pv_dec_of b112 (by decide +kernel)
theorem d112_15 : pv_dec 112 15 = some (.if_icmp .eq 7, 3) := pv_dec_of b112 (by decide +kernel)
theorem d112_18 : pv_dec 112 18 = some (.iconst 1, 1) := pv_dec_of b112 (by decide +kernel)
theorem d112_19 : pv_dec 112 19 = some (.goto 4, 3) := pv_dec_of b112 (by decide +kernel)
theorem d112_22 : pv_dec 112 22 = some (.iconst 0, 1) := pv_dec_of b112 (by decide +kernel)
theorem d112_23 : pv_dec 112 23 = some (.ireturn, 1) := pv_dec_of b112 (by decide +kernel)
theorem G1_21 : pv_gfo "AngleNet$Net" 21 = some (2, 8) := by decide +kernel
theorem g112_21 : pv_gf 112 21 = some (2, 8) := pv_gfo_of o112 G1_21
theorem k112_78 : pv_kV 112 78 48 2 1 2 := pv_kV_of o112 Y1_78 V48 (by decide +kernel)
theorem o40 : pv_own 40 = "AngleNet$Net" := by decide +kernel
theorem b40 : pv_bc 40 = prog_7_method_12_code := pv_bcof (i := 40) rfl
theorem m40 : pv_mL 40 = 2 := by decide +kernel
theorem tt40 : pv_rt 40 = some .int := by decide +kernel
theorem d40_0 : pv_dec 40 0 = some (.iconst 1, 1) := pv_dec_of b40 (by decide +kernel)
theorem d40_1 : pv_dec 40 1 = some (.aload_n 0, 1) := pv_dec_of b40 (by decide +kernel)
theorem d40_2 : pv_dec 40 2 = some (.getfield 9, 3) := pv_dec_of b40 (by decide +kernel)
theorem d40_5 : pv_dec 40 5 = some (.iconst 3, 1) := pv_dec_of b40 (by decide +kernel)
theorem d40_6 : pv_dec 40 6 = some (.iload_n 1, 1) := pv_dec_of b40 (by decide +kernel)
theorem d40_7 : pv_dec 40 7 = some (.imul, 1) := pv_dec_of b40 (by decide +kernel)
theorem d40_8 : pv_dec 40 8 = some (.iaload, 1) := pv_dec_of b40 (by decide +kernel)
theorem d40_9 : pv_dec 40 9 = some (.ishl, 1) := pv_dec_of b40 (by decide +kernel)
theorem d40_10 : pv_dec 40 10 = some (.iconst 1, 1) := pv_dec_of b40 (by decide +kernel)
theorem d40_11 : pv_dec 40 11 = some (.aload_n 0, 1) := pv_dec_of b40 (by decide +kernel)
theorem d40_12 : pv_dec 40 12 = some (.getfield 9, 3) := pv_dec_of b40 (by decide +kernel)
theorem d40_15 : pv_dec 40 15 = some (.iconst 3, 1) := pv_dec_of b40 (by decide +kernel)
theorem d40_16 : pv_dec 40 16 = some (.iload_n 1, 1) := pv_dec_of b40 (by decide +kernel)
theorem d40_17 : pv_dec 40 17 = some (.imul, 1) := pv_dec_of b40 (by decide +kernel)
theorem d40_18 : pv_dec 40 18 = some (.iconst 1, 1) := pv_dec_of b40 (by decide +kernel)
theorem d40_19 : pv_dec 40 19 = some (.iadd, 1) := pv_dec_of b40 (by decide +kernel)
theorem d40_20 : pv_dec 40 20 = some (.iaload, 1) := pv_dec_of b40 (by decide +kernel)
theorem d40_21 : pv_dec 40 21 = some (.ishl, 1) := pv_dec_of b40 (by decide +kernel)
theorem d40_22 : pv_dec 40 22 = some (.ior, 1) := pv_dec_of b40 (by decide +kernel)
theorem d40_23 : pv_dec 40 23 = some (.iconst 1, 1) := pv_dec_of b40 (by decide +kernel)
theorem d40_24 : pv_dec 40 24 = some (.aload_n 0, 1) := pv_dec_of b40 (by decide +kernel)
theorem d40_25 : pv_dec 40 25 = some (.getfield 9, 3) := pv_dec_of b40 (by decide +kernel)
theorem d40_28 : pv_dec 40 28 = some (.iconst 3, 1) := pv_dec_of b40 (by decide +kernel)
theorem d40_29 : pv_dec 40 29 = some (.iload_n 1, 1) := pv_dec_of b40 (by decide +kernel)
theorem d40_30 : pv_dec 40 30 = some (.imul, 1) := pv_dec_of b40 (by decide +kernel)
theorem d40_31 : pv_dec 40 31 = some (.iconst 2, 1) := pv_dec_of b40 (by decide +kernel)
theorem d40_32 : pv_dec 40 32 = some (.iadd, 1) := pv_dec_of b40 (by decide +kernel)
theorem d40_33 : pv_dec 40 33 = some (.iaload, 1) := pv_dec_of b40 (by decide +kernel)
theorem d40_34 : pv_dec 40 34 = some (.ishl, 1) := pv_dec_of b40 (by decide +kernel)
theorem d40_35 : pv_dec 40 35 = some (.ior, 1) := pv_dec_of b40 (by decide +kernel)
theorem d40_36 : pv_dec 40 36 = some (.ireturn, 1) := pv_dec_of b40 (by decide +kernel)
theorem G1_9 : pv_gfo "AngleNet$Net" 9 = some (2, 5) := by decide +kernel
theorem g40_9 : pv_gf 40 9 = some (2, 5) := pv_gfo_of o40 G1_9
theorem o58 : pv_own 58 = "AngleNet$Net" := by decide +kernel
theorem b58 : pv_bc 58 = prog_7_method_13_code := pv_bcof (i := 58) rfl
theorem m58 : pv_mL 58 = 3 := by decide +kernel
theorem tt58 : pv_rt 58 = some .boolean := by decide +kernel
theorem d58_0 : pv_dec 58 0 = some (.aload_n 0, 1) := pv_dec_of b58 (by decide +kernel)
theorem d58_1 : pv_dec 58 1 = some (.iload_n 1, 1) := pv_dec_of b58 (by decide +kernel)
theorem d58_2 : pv_dec 58 2 = some (.invokevirtual 82, 3) := pv_dec_of b58 (by decide +kernel)
theorem d58_5 : pv_dec 58 5 = some (.iload_n 2, 1) := pv_dec_of b58 (by decide +kernel)
theorem d58_6 : pv_dec 58 6 = some (.ishr, 1) := pv_dec_of b58 (by decide +kernel)
theorem d58_7 : pv_dec 58 7 = some (.iconst 1, 1) := pv_dec_of b58 (by decide +kernel)
theorem d58_8 : pv_dec 58 8 = some (.iand, 1) := pv_dec_of b58 (by decide +kernel)
theorem d58_9 : pv_dec 58 9 = some (.ifCond .eq 7, 3) := pv_dec_of b58 (by decide +kernel)
theorem d58_12 : pv_dec 58 12 = some (.iconst 1, 1) := pv_dec_of b58 (by decide +kernel)
theorem d58_13 : pv_dec 58 13 = some (.goto 4, 3) := pv_dec_of b58 (by decide +kernel)
theorem d58_16 : pv_dec 58 16 = some (.iconst 0, 1) := pv_dec_of b58 (by decide +kernel)
theorem d58_17 : pv_dec 58 17 = some (.ireturn, 1) := pv_dec_of b58 (by decide +kernel)
theorem Y1_82 : pv_mlo "AngleNet$Net" 82 = some (⟨"AngleNet$Net", "postsOf", "(I)I"⟩, none) := by decide +kernel
theorem V40 : pv_cV 40 2 1 2 ⟨"AngleNet$Net", "postsOf", "(I)I"⟩ = true := by decide +kernel
theorem k58_82 : pv_kV 58 82 40 2 1 2 := pv_kV_of o58 Y1_82 V40 (by decide +kernel)
theorem o39 : pv_own 39 = "AngleNet$Net" := by decide +kernel
theorem b39 : pv_bc 39 = prog_7_method_14_code := pv_bcof (i := 39) rfl
theorem m39 : pv_mL 39 = 6 := by decide +kernel
theorem tt39 : pv_rt 39 = some .boolean := by decide +kernel
theorem d39_0 : pv_dec 39 0 = some (.iconst 1, 1) := pv_dec_of b39 (by decide +kernel)
theorem d39_1 : pv_dec 39 1 = some (.iload_n 1, 1) := pv_dec_of b39 (by decide +kernel)
theorem d39_2 : pv_dec 39 2 = some (.ishl, 1) := pv_dec_of b39 (by decide +kernel)
theorem d39_3 : pv_dec 39 3 = some (.iconst 1, 1) := pv_dec_of b39 (by decide +kernel)
theorem d39_4 : pv_dec 39 4 = some (.iload_n 2, 1) := pv_dec_of b39 (by decide +kernel)
theorem d39_5 : pv_dec 39 5 = some (.ishl, 1) := pv_dec_of b39 (by decide +kernel)
theorem d39_6 : pv_dec 39 6 = some (.ior, 1) := pv_dec_of b39 (by decide +kernel)
theorem d39_7 : pv_dec 39 7 = some (.iconst 1, 1) := pv_dec_of b39 (by decide +kernel)
theorem d39_8 : pv_dec 39 8 = some (.iload_n 3, 1) := pv_dec_of b39 (by decide +kernel)
theorem d39_9 : pv_dec 39 9 = some (.ishl, 1) := pv_dec_of b39 (by decide +kernel)
theorem d39_10 : pv_dec 39 10 = some (.ior, 1) := pv_dec_of b39 (by decide +kernel)
theorem d39_11 : pv_dec 39 11 = some (.istore 4, 2) := pv_dec_of b39 (by decide +kernel)
theorem d39_13 : pv_dec 39 13 = some (.iconst 0, 1) := pv_dec_of b39 (by decide +kernel)
theorem d39_14 : pv_dec 39 14 = some (.istore 5, 2) := pv_dec_of b39 (by decide +kernel)
theorem d39_16 : pv_dec 39 16 = some (.iload 5, 2) := pv_dec_of b39 (by decide +kernel)
theorem d39_18 : pv_dec 39 18 = some (.aload_n 0, 1) := pv_dec_of b39 (by decide +kernel)
theorem d39_19 : pv_dec 39 19 = some (.getfield 45, 3) := pv_dec_of b39 (by decide +kernel)
theorem d39_22 : pv_dec 39 22 = some (.if_icmp .ge 22, 3) := pv_dec_of b39 (by decide +kernel)
theorem d39_25 : pv_dec 39 25 = some (.aload_n 0, 1) := pv_dec_of b39 (by decide +kernel)
theorem d39_26 : pv_dec 39 26 = some (.iload 5, 2) := pv_dec_of b39 (by decide +kernel)
theorem d39_28 : pv_dec 39 28 = some (.invokevirtual 82, 3) := pv_dec_of b39 (by decide +kernel)
theorem d39_31 : pv_dec 39 31 = some (.iload 4, 2) := pv_dec_of b39 (by decide +kernel)
theorem d39_33 : pv_dec 39 33 = some (.if_icmp .ne 5, 3) := pv_dec_of b39 (by decide +kernel)
theorem d39_36 : pv_dec 39 36 = some (.iconst 0, 1) := pv_dec_of b39 (by decide +kernel)
theorem d39_37 : pv_dec 39 37 = some (.ireturn, 1) := pv_dec_of b39 (by decide +kernel)
theorem d39_38 : pv_dec 39 38 = some (.iinc 5 1, 3) := pv_dec_of b39 (by decide +kernel)
theorem d39_41 : pv_dec 39 41 = some (.goto (-25), 3) := pv_dec_of b39 (by decide +kernel)
theorem d39_44 : pv_dec 39 44 = some (.aload_n 0, 1) := pv_dec_of b39 (by decide +kernel)
theorem d39_45 : pv_dec 39 45 = some (.getfield 33, 3) := pv_dec_of b39 (by decide +kernel)
theorem d39_48 : pv_dec 39 48 = some (.bipush 10, 2) := pv_dec_of b39 (by decide +kernel)
theorem d39_50 : pv_dec 39 50 = some (.iload_n 1, 1) := pv_dec_of b39 (by decide +kernel)
theorem d39_51 : pv_dec 39 51 = some (.imul, 1) := pv_dec_of b39 (by decide +kernel)
theorem d39_52 : pv_dec 39 52 = some (.iload_n 2, 1) := pv_dec_of b39 (by decide +kernel)
theorem d39_53 : pv_dec 39 53 = some (.iadd, 1) := pv_dec_of b39 (by decide +kernel)
theorem d39_54 : pv_dec 39 54 = some (.iaload, 1) := pv_dec_of b39 (by decide +kernel)
theorem d39_55 : pv_dec 39 55 = some (.iconst 2, 1) := pv_dec_of b39 (by decide +kernel)
theorem d39_56 : pv_dec 39 56 = some (.if_icmp .ge 37, 3) := pv_dec_of b39 (by decide +kernel)
theorem d39_59 : pv_dec 39 59 = some (.aload_n 0, 1) := pv_dec_of b39 (by decide +kernel)
theorem d39_60 : pv_dec 39 60 = some (.getfield 33, 3) := pv_dec_of b39 (by decide +kernel)
theorem d39_63 : pv_dec 39 63 = some (.bipush 10, 2) := pv_dec_of b39 (by decide +kernel)
theorem d39_65 : pv_dec 39 65 = some (.iload_n 2, 1) := pv_dec_of b39 (by decide +kernel)
theorem d39_66 : pv_dec 39 66 = some (.imul, 1) := pv_dec_of b39 (by decide +kernel)
theorem d39_67 : pv_dec 39 67 = some (.iload_n 3, 1) := pv_dec_of b39 (by decide +kernel)
theorem d39_68 : pv_dec 39 68 = some (.iadd, 1) := pv_dec_of b39 (by decide +kernel)
theorem d39_69 : pv_dec 39 69 = some (.iaload, 1) := pv_dec_of b39 (by decide +kernel)
theorem d39_70 : pv_dec 39 70 = some (.iconst 2, 1) := pv_dec_of b39 (by decide +kernel)
theorem d39_71 : pv_dec 39 71 = some (.if_icmp .ge 22, 3) := pv_dec_of b39 (by decide +kernel)
theorem d39_74 : pv_dec 39 74 = some (.aload_n 0, 1) := pv_dec_of b39 (by decide +kernel)
theorem d39_75 : pv_dec 39 75 = some (.getfield 33, 3) := pv_dec_of b39 (by decide +kernel)
theorem d39_78 : pv_dec 39 78 = some (.bipush 10, 2) := pv_dec_of b39 (by decide +kernel)
theorem d39_80 : pv_dec 39 80 = some (.iload_n 1, 1) := pv_dec_of b39 (by decide +kernel)
theorem d39_81 : pv_dec 39 81 = some (.imul, 1) := pv_dec_of b39 (by decide +kernel)
theorem d39_82 : pv_dec 39 82 = some (.iload_n 3, 1) := pv_dec_of b39 (by decide +kernel)
theorem d39_83 : pv_dec 39 83 = some (.iadd, 1) := pv_dec_of b39 (by decide +kernel)
theorem d39_84 : pv_dec 39 84 = some (.iaload, 1) := pv_dec_of b39 (by decide +kernel)
theorem d39_85 : pv_dec 39 85 = some (.iconst 2, 1) := pv_dec_of b39 (by decide +kernel)
theorem d39_86 : pv_dec 39 86 = some (.if_icmp .ge 7, 3) := pv_dec_of b39 (by decide +kernel)
theorem d39_89 : pv_dec 39 89 = some (.iconst 1, 1) := pv_dec_of b39 (by decide +kernel)
theorem d39_90 : pv_dec 39 90 = some (.goto 4, 3) := pv_dec_of b39 (by decide +kernel)
theorem d39_93 : pv_dec 39 93 = some (.iconst 0, 1) := pv_dec_of b39 (by decide +kernel)
theorem d39_94 : pv_dec 39 94 = some (.ireturn, 1) := pv_dec_of b39 (by decide +kernel)
theorem g39_33 : pv_gf 39 33 = some (2, 12) := pv_gfo_of o39 G1_33
theorem g39_45 : pv_gf 39 45 = some (2, 1) := pv_gfo_of o39 G1_45
theorem k39_82 : pv_kV 39 82 40 2 1 2 := pv_kV_of o39 Y1_82 V40 (by decide +kernel)
theorem o43 : pv_own 43 = "AngleNet$Net" := by decide +kernel
theorem b43 : pv_bc 43 = prog_7_method_17_code := pv_bcof (i := 43) rfl
theorem m43 : pv_mL 43 = 6 := by decide +kernel
theorem tt43 : pv_rt 43 = none := by decide +kernel
theorem d43_0 : pv_dec 43 0 = some (.iconst 0, 1) := pv_dec_of b43 (by decide +kernel)
theorem d43_1 : pv_dec 43 1 = some (.istore_n 3, 1) := pv_dec_of b43 (by decide +kernel)
theorem d43_2 : pv_dec 43 2 = some (.iload_n 3, 1) := pv_dec_of b43 (by decide +kernel)
theorem d43_3 : pv_dec 43 3 = some (.iconst 3, 1) := pv_dec_of b43 (by decide +kernel)
theorem d43_4 : pv_dec 43 4 = some (.if_icmp .ge 71, 3) := pv_dec_of b43 (by decide +kernel)
theorem d43_7 : pv_dec 43 7 = some (.aload_n 0, 1) := pv_dec_of b43 (by decide +kernel)
theorem d43_8 : pv_dec 43 8 = some (.getfield 9, 3) := pv_dec_of b43 (by decide +kernel)
theorem d43_11 : pv_dec 43 11 = some (.iconst 3, 1) := pv_dec_of b43 (by decide +kernel)
theorem d43_12 : pv_dec 43 12 = some (.iload_n 1, 1) := pv_dec_of b43 (by decide +kernel)
theorem d43_13 : pv_dec 43 13 = some (.imul, 1) := pv_dec_of b43 (by decide +kernel)
theorem d43_14 : pv_dec 43 14 = some (.iload_n 3, 1) := pv_dec_of b43 (by decide +kernel)
theorem d43_15 : pv_dec 43 15 = some (.iadd, 1) := pv_dec_of b43 (by decide +kernel)
theorem d43_16 : pv_dec 43 16 = some (.iaload, 1) := pv_dec_of b43 (by decide +kernel)
theorem d43_17 : pv_dec 43 17 = some (.istore 4, 2) := pv_dec_of b43 (by decide +kernel)
theorem d43_19 : pv_dec 43 19 = some (.aload_n 0, 1) := pv_dec_of b43 (by decide +kernel)
theorem d43_20 : pv_dec 43 20 = some (.getfield 9, 3) := pv_dec_of b43 (by decide +kernel)
theorem d43_23 : pv_dec 43 23 = some (.iconst 3, 1) := pv_dec_of b43 (by decide +kernel)
theorem d43_24 : pv_dec 43 24 = some (.iload_n 1, 1) := pv_dec_of b43 (by decide +kernel)
theorem d43_25 : pv_dec 43 25 = some (.imul, 1) := pv_dec_of b43 (by decide +kernel)
theorem d43_26 : pv_dec 43 26 = some (.iload_n 3, 1) := pv_dec_of b43 (by decide +kernel)
theorem d43_27 : pv_dec 43 27 = some (.iconst 1, 1) := pv_dec_of b43 (by decide +kernel)
theorem d43_28 : pv_dec 43 28 = some (.iadd, 1) := pv_dec_of b43 (by decide +kernel)
theorem d43_29 : pv_dec 43 29 = some (.iconst 3, 1) := pv_dec_of b43 (by decide +kernel)
theorem d43_30 : pv_dec 43 30 = some (.irem, 1) := pv_dec_of b43 (by decide +kernel)
theorem d43_31 : pv_dec 43 31 = some (.iadd, 1) := pv_dec_of b43 (by decide +kernel)
theorem d43_32 : pv_dec 43 32 = some (.iaload, 1) := pv_dec_of b43 (by decide +kernel)
theorem d43_33 : pv_dec 43 33 = some (.istore 5, 2) := pv_dec_of b43 (by decide +kernel)
theorem d43_35 : pv_dec 43 35 = some (.aload_n 0, 1) := pv_dec_of b43 (by decide +kernel)
theorem d43_36 : pv_dec 43 36 = some (.getfield 33, 3) := pv_dec_of b43 (by decide +kernel)
theorem d43_39 : pv_dec 43 39 = some (.bipush 10, 2) := pv_dec_of b43 (by decide +kernel)
theorem d43_41 : pv_dec 43 41 = some (.iload 4, 2) := pv_dec_of b43 (by decide +kernel)
theorem d43_43 : pv_dec 43 43 = some (.imul, 1) := pv_dec_of b43 (by decide +kernel)
theorem d43_44 : pv_dec 43 44 = some (.iload 5, 2) := pv_dec_of b43 (by decide +kernel)
theorem d43_46 : pv_dec 43 46 = some (.iadd, 1) := pv_dec_of b43 (by decide +kernel)
theorem d43_47 : pv_dec 43 47 = some (.dup2, 1) := pv_dec_of b43 (by decide +kernel)
theorem d43_48 : pv_dec 43 48 = some (.iaload, 1) := pv_dec_of b43 (by decide +kernel)
theorem d43_49 : pv_dec 43 49 = some (.iload_n 2, 1) := pv_dec_of b43 (by decide +kernel)
theorem d43_50 : pv_dec 43 50 = some (.iadd, 1) := pv_dec_of b43 (by decide +kernel)
theorem d43_51 : pv_dec 43 51 = some (.iastore, 1) := pv_dec_of b43 (by decide +kernel)
theorem d43_52 : pv_dec 43 52 = some (.aload_n 0, 1) := pv_dec_of b43 (by decide +kernel)
theorem d43_53 : pv_dec 43 53 = some (.getfield 33, 3) := pv_dec_of b43 (by decide +kernel)
theorem d43_56 : pv_dec 43 56 = some (.bipush 10, 2) := pv_dec_of b43 (by decide +kernel)
theorem d43_58 : pv_dec 43 58 = some (.iload 5, 2) := pv_dec_of b43 (by decide +kernel)
theorem d43_60 : pv_dec 43 60 = some (.imul, 1) := pv_dec_of b43 (by decide +kernel)
theorem d43_61 : pv_dec 43 61 = some (.iload 4, 2) := pv_dec_of b43 (by decide +kernel)
theorem d43_63 : pv_dec 43 63 = some (.iadd, 1) := pv_dec_of b43 (by decide +kernel)
theorem d43_64 : pv_dec 43 64 = some (.dup2, 1) := pv_dec_of b43 (by decide +kernel)
theorem d43_65 : pv_dec 43 65 = some (.iaload, 1) := pv_dec_of b43 (by decide +kernel)
theorem d43_66 : pv_dec 43 66 = some (.iload_n 2, 1) := pv_dec_of b43 (by decide +kernel)
theorem d43_67 : pv_dec 43 67 = some (.iadd, 1) := pv_dec_of b43 (by decide +kernel)
theorem d43_68 : pv_dec 43 68 = some (.iastore, 1) := pv_dec_of b43 (by decide +kernel)
theorem d43_69 : pv_dec 43 69 = some (.iinc 3 1, 3) := pv_dec_of b43 (by decide +kernel)
theorem d43_72 : pv_dec 43 72 = some (.goto (-70), 3) := pv_dec_of b43 (by decide +kernel)
theorem d43_75 : pv_dec 43 75 = some (.return_, 1) := pv_dec_of b43 (by decide +kernel)
theorem g43_9 : pv_gf 43 9 = some (2, 5) := pv_gfo_of o43 G1_9
theorem g43_33 : pv_gf 43 33 = some (2, 12) := pv_gfo_of o43 G1_33
theorem o42 : pv_own 42 = "AngleNet$Net" := by decide +kernel
theorem b42 : pv_bc 42 = prog_7_method_15_code := pv_bcof (i := 42) rfl
theorem m42 : pv_mL 42 = 6 := by decide +kernel
theorem tt42 : pv_rt 42 = none := by decide +kernel
theorem d42_0 : pv_dec 42 0 = some (.aload_n 0, 1) := pv_dec_of b42 (by decide +kernel)
theorem d42_1 : pv_dec 42 1 = some (.getfield 9, 3) := pv_dec_of b42 (by decide +kernel)
theorem d42_4 : pv_dec 42 4 = some (.iconst 3, 1) := pv_dec_of b42 (by decide +kernel)
theorem d42_5 : pv_dec 42 5 = some (.iload_n 1, 1) := pv_dec_of b42 (by decide +kernel)
theorem d42_6 : pv_dec 42 6 = some (.imul, 1) := pv_dec_of b42 (by decide +kernel)
theorem d42_7 : pv_dec 42 7 = some (.iload_n 2, 1) := pv_dec_of b42 (by decide +kernel)
theorem d42_8 : pv_dec 42 8 = some (.iastore, 1) := pv_dec_of b42 (by decide +kernel)
theorem d42_9 : pv_dec 42 9 = some (.aload_n 0, 1) := pv_dec_of b42 (by decide +kernel)
theorem d42_10 : pv_dec 42 10 = some (.getfield 9, 3) := pv_dec_of b42 (by decide +kernel)
theorem d42_13 : pv_dec 42 13 = some (.iconst 3, 1) := pv_dec_of b42 (by decide +kernel)
theorem d42_14 : pv_dec 42 14 = some (.iload_n 1, 1) := pv_dec_of b42 (by decide +kernel)
theorem d42_15 : pv_dec 42 15 = some (.imul, 1) := pv_dec_of b42 (by decide +kernel)
theorem d42_16 : pv_dec 42 16 = some (.iconst 1, 1) := pv_dec_of b42 (by decide +kernel)
theorem d42_17 : pv_dec 42 17 = some (.iadd, 1) := pv_dec_of b42 (by decide +kernel)
theorem d42_18 : pv_dec 42 18 = some (.iload_n 3, 1) := pv_dec_of b42 (by decide +kernel)
theorem d42_19 : pv_dec 42 19 = some (.iastore, 1) := pv_dec_of b42 (by decide +kernel)
theorem d42_20 : pv_dec 42 20 = some (.aload_n 0, 1) := pv_dec_of b42 (by decide +kernel)
theorem d42_21 : pv_dec 42 21 = some (.getfield 9, 3) := pv_dec_of b42 (by decide +kernel)
theorem d42_24 : pv_dec 42 24 = some (.iconst 3, 1) := pv_dec_of b42 (by decide +kernel)
theorem d42_25 : pv_dec 42 25 = some (.iload_n 1, 1) := pv_dec_of b42 (by decide +kernel)
theorem d42_26 : pv_dec 42 26 = some (.imul, 1) := pv_dec_of b42 (by decide +kernel)
theorem d42_27 : pv_dec 42 27 = some (.iconst 2, 1) := pv_dec_of b42 (by decide +kernel)
theorem d42_28 : pv_dec 42 28 = some (.iadd, 1) := pv_dec_of b42 (by decide +kernel)
theorem d42_29 : pv_dec 42 29 = some (.iload 4, 2) := pv_dec_of b42 (by decide +kernel)
theorem d42_31 : pv_dec 42 31 = some (.iastore, 1) := pv_dec_of b42 (by decide +kernel)
theorem d42_32 : pv_dec 42 32 = some (.aload_n 0, 1) := pv_dec_of b42 (by decide +kernel)
theorem d42_33 : pv_dec 42 33 = some (.getfield 15, 3) := pv_dec_of b42 (by decide +kernel)
theorem d42_36 : pv_dec 42 36 = some (.iload_n 1, 1) := pv_dec_of b42 (by decide +kernel)
theorem d42_37 : pv_dec 42 37 = some (.iload 5, 2) := pv_dec_of b42 (by decide +kernel)
theorem d42_39 : pv_dec 42 39 = some (.iastore, 1) := pv_dec_of b42 (by decide +kernel)
theorem d42_40 : pv_dec 42 40 = some (.aload_n 0, 1) := pv_dec_of b42 (by decide +kernel)
theorem d42_41 : pv_dec 42 41 = some (.iload_n 1, 1) := pv_dec_of b42 (by decide +kernel)
theorem d42_42 : pv_dec 42 42 = some (.iconst 1, 1) := pv_dec_of b42 (by decide +kernel)
theorem d42_43 : pv_dec 42 43 = some (.invokevirtual 86, 3) := pv_dec_of b42 (by decide +kernel)
theorem d42_46 : pv_dec 42 46 = some (.return_, 1) := pv_dec_of b42 (by decide +kernel)
theorem g42_9 : pv_gf 42 9 = some (2, 5) := pv_gfo_of o42 G1_9
theorem G1_15 : pv_gfo "AngleNet$Net" 15 = some (2, 6) := by decide +kernel
theorem g42_15 : pv_gf 42 15 = some (2, 6) := pv_gfo_of o42 G1_15
theorem Y1_86 : pv_mlo "AngleNet$Net" 86 = some (⟨"AngleNet$Net", "shareSides", "(II)V"⟩, none) := by decide +kernel
theorem V43 : pv_cV 43 2 2 6 ⟨"AngleNet$Net", "shareSides", "(II)V"⟩ = true := by decide +kernel
theorem k42_86 : pv_kV 42 86 43 2 2 6 := pv_kV_of o42 Y1_86 V43 (by decide +kernel)
theorem o126 : pv_own 126 = "AngleNet$Net" := by decide +kernel
theorem b126 : pv_bc 126 = prog_7_method_16_code := pv_bcof (i := 126) rfl
theorem m126 : pv_mL 126 = 2 := by decide +kernel
theorem tt126 : pv_rt 126 = none := by decide +kernel
theorem d126_0 : pv_dec 126 0 = some (.aload_n 0, 1) := pv_dec_of b126 (by decide +kernel)
theorem d126_1 : pv_dec 126 1 = some (.iload_n 1, 1) := pv_dec_of b126 (by decide +kernel)
theorem d126_2 : pv_dec 126 2 = some (.iconst (-1), 1) := pv_dec_of b126 (by decide +kernel)
theorem d126_3 : pv_dec 126 3 = some (.invokevirtual 86, 3) := pv_dec_of b126 (by decide +kernel)
theorem d126_6 : pv_dec 126 6 = some (.return_, 1) := pv_dec_of b126 (by decide +kernel)
theorem k126_86 : pv_kV 126 86 43 2 2 6 := pv_kV_of o126 Y1_86 V43 (by decide +kernel)
theorem o49 : pv_own 49 = "AngleNet$Net" := by decide +kernel
theorem b49 : pv_bc 49 = prog_7_method_18_code := pv_bcof (i := 49) rfl
theorem m49 : pv_mL 49 = 4 := by decide +kernel
theorem tt49 : pv_rt 49 = none := by decide +kernel
theorem d49_0 : pv_dec 49 0 = some (.aload_n 0, 1) := pv_dec_of b49 (by decide +kernel)
theorem d49_1 : pv_dec 49 1 = some (.getfield 30, 3) := pv_dec_of b49 (by decide +kernel)
theorem d49_4 : pv_dec 49 4 = some (.bipush 10, 2) := pv_dec_of b49 (by decide +kernel)
theorem d49_6 : pv_dec 49 6 = some (.iload_n 1, 1) := pv_dec_of b49 (by decide +kernel)
theorem d49_7 : pv_dec 49 7 = some (.imul, 1) := pv_dec_of b49 (by decide +kernel)
theorem d49_8 : pv_dec 49 8 = some (.iload_n 2, 1) := pv_dec_of b49 (by decide +kernel)
theorem d49_9 : pv_dec 49 9 = some (.iadd, 1) := pv_dec_of b49 (by decide +kernel)
theorem d49_10 : pv_dec 49 10 = some (.iload_n 3, 1) := pv_dec_of b49 (by decide +kernel)
theorem d49_11 : pv_dec 49 11 = some (.iastore, 1) := pv_dec_of b49 (by decide +kernel)
theorem d49_12 : pv_dec 49 12 = some (.aload_n 0, 1) := pv_dec_of b49 (by decide +kernel)
theorem d49_13 : pv_dec 49 13 = some (.getfield 30, 3) := pv_dec_of b49 (by decide +kernel)
theorem d49_16 : pv_dec 49 16 = some (.bipush 10, 2) := pv_dec_of b49 (by decide +kernel)
theorem d49_18 : pv_dec 49 18 = some (.iload_n 2, 1) := pv_dec_of b49 (by decide +kernel)
theorem d49_19 : pv_dec 49 19 = some (.imul, 1) := pv_dec_of b49 (by decide +kernel)
theorem d49_20 : pv_dec 49 20 = some (.iload_n 1, 1) := pv_dec_of b49 (by decide +kernel)
theorem d49_21 : pv_dec 49 21 = some (.iadd, 1) := pv_dec_of b49 (by decide +kernel)
theorem d49_22 : pv_dec 49 22 = some (.iload_n 3, 1) := pv_dec_of b49 (by decide +kernel)
theorem d49_23 : pv_dec 49 23 = some (.iastore, 1) := pv_dec_of b49 (by decide +kernel)
theorem d49_24 : pv_dec 49 24 = some (.return_, 1) := pv_dec_of b49 (by decide +kernel)
theorem G1_30 : pv_gfo "AngleNet$Net" 30 = some (2, 11) := by decide +kernel
theorem g49_30 : pv_gf 49 30 = some (2, 11) := pv_gfo_of o49 G1_30
theorem o57 : pv_own 57 = "AngleNet$Net" := by decide +kernel
theorem b57 : pv_bc 57 = prog_7_method_19_code := pv_bcof (i := 57) rfl
theorem m57 : pv_mL 57 = 4 := by decide +kernel
theorem tt57 : pv_rt 57 = some .int := by decide +kernel
theorem d57_0 : pv_dec 57 0 = some (.iconst 0, 1) := pv_dec_of b57 (by decide +kernel)
theorem d57_1 : pv_dec 57 1 = some (.istore_n 2, 1) := pv_dec_of b57 (by decide +kernel)
theorem d57_2 : pv_dec 57 2 = some (.iconst 0, 1) := pv_dec_of b57 (by decide +kernel)
theorem d57_3 : pv_dec 57 3 = some (.istore_n 3, 1) := pv_dec_of b57 (by decide +kernel)
theorem d57_4 : pv_dec 57 4 = some (.iload_n 3, 1) := pv_dec_of b57 (by decide +kernel)
theorem d57_5 : pv_dec 57 5 = some (.aload_n 0, 1) := pv_dec_of b57 (by decide +kernel)
theorem d57_6 : pv_dec 57 6 = some (.getfield 45, 3) := pv_dec_of b57 (by decide +kernel)
theorem d57_9 : pv_dec 57 9 = some (.if_icmp .ge 26, 3) := pv_dec_of b57 (by decide +kernel)
theorem d57_12 : pv_dec 57 12 = some (.iload_n 2, 1) := pv_dec_of b57 (by decide +kernel)
theorem d57_13 : pv_dec 57 13 = some (.aload_n 0, 1) := pv_dec_of b57 (by decide +kernel)
theorem d57_14 : pv_dec 57 14 = some (.iload_n 3, 1) := pv_dec_of b57 (by decide +kernel)
theorem d57_15 : pv_dec 57 15 = some (.iload_n 1, 1) := pv_dec_of b57 (by decide +kernel)
theorem d57_16 : pv_dec 57 16 = some (.invokevirtual 90, 3) := pv_dec_of b57 (by decide +kernel)
theorem d57_19 : pv_dec 57 19 = some (.ifCond .eq 7, 3) := pv_dec_of b57 (by decide +kernel)
theorem d57_22 : pv_dec 57 22 = some (.iconst 1, 1) := pv_dec_of b57 (by decide +kernel)
theorem d57_23 : pv_dec 57 23 = some (.goto 4, 3) := pv_dec_of b57 (by decide +kernel)
theorem d57_26 : pv_dec 57 26 = some (.iconst 0, 1) := pv_dec_of b57 (by decide +kernel)
theorem d57_27 : pv_dec 57 27 = some (.iadd, 1) := pv_dec_of b57 (by decide +kernel)
theorem d57_28 : pv_dec 57 28 = some (.istore_n 2, 1) := pv_dec_of b57 (by decide +kernel)
theorem d57_29 : pv_dec 57 29 = some (.iinc 3 1, 3) := pv_dec_of b57 (by decide +kernel)
theorem d57_32 : pv_dec 57 32 = some (.goto (-28), 3) := pv_dec_of b57 (by decide +kernel)
theorem d57_35 : pv_dec 57 35 = some (.iload_n 2, 1) := pv_dec_of b57 (by decide +kernel)
theorem d57_36 : pv_dec 57 36 = some (.ireturn, 1) := pv_dec_of b57 (by decide +kernel)
theorem g57_45 : pv_gf 57 45 = some (2, 1) := pv_gfo_of o57 G1_45
theorem Y1_90 : pv_mlo "AngleNet$Net" 90 = some (⟨"AngleNet$Net", "hasPost", "(II)Z"⟩, none) := by decide +kernel
theorem V58 : pv_cV 58 2 2 3 ⟨"AngleNet$Net", "hasPost", "(II)Z"⟩ = true := by decide +kernel
theorem k57_90 : pv_kV 57 90 58 2 2 3 := pv_kV_of o57 Y1_90 V58 (by decide +kernel)
theorem o59 : pv_own 59 = "AngleNet$Net" := by decide +kernel
theorem b59 : pv_bc 59 = prog_7_method_20_code := pv_bcof (i := 59) rfl
theorem m59 : pv_mL 59 = 4 := by decide +kernel
theorem tt59 : pv_rt 59 = some .int := by decide +kernel
theorem d59_0 : pv_dec 59 0 = some (.iconst 0, 1) := pv_dec_of b59 (by decide +kernel)
theorem d59_1 : pv_dec 59 1 = some (.istore_n 2, 1) := pv_dec_of b59 (by decide +kernel)
theorem d59_2 : pv_dec 59 2 = some (.iconst 0, 1) := pv_dec_of b59 (by decide +kernel)
theorem d59_3 : pv_dec 59 3 = some (.istore_n 3, 1) := pv_dec_of b59 (by decide +kernel)
theorem d59_4 : pv_dec 59 4 = some (.iload_n 3, 1) := pv_dec_of b59 (by decide +kernel)
theorem d59_5 : pv_dec 59 5 = some (.aload_n 0, 1) := pv_dec_of b59 (by decide +kernel)
theorem d59_6 : pv_dec 59 6 = some (.getfield 41, 3) := pv_dec_of b59 (by decide +kernel)
theorem d59_9 : pv_dec 59 9 = some (.if_icmp .ge 26, 3) := pv_dec_of b59 (by decide +kernel)
theorem d59_12 : pv_dec 59 12 = some (.iload_n 2, 1) := pv_dec_of b59 (by decide +kernel)
theorem d59_13 : pv_dec 59 13 = some (.aload_n 0, 1) := pv_dec_of b59 (by decide +kernel)
theorem d59_14 : pv_dec 59 14 = some (.iload_n 1, 1) := pv_dec_of b59 (by decide +kernel)
theorem d59_15 : pv_dec 59 15 = some (.iload_n 3, 1) := pv_dec_of b59 (by decide +kernel)
theorem d59_16 : pv_dec 59 16 = some (.invokevirtual 94, 3) := pv_dec_of b59 (by decide +kernel)
theorem d59_19 : pv_dec 59 19 = some (.ifCond .eq 7, 3) := pv_dec_of b59 (by decide +kernel)
theorem d59_22 : pv_dec 59 22 = some (.iconst 1, 1) := pv_dec_of b59 (by decide +kernel)
theorem d59_23 : pv_dec 59 23 = some (.goto 4, 3) := pv_dec_of b59 (by decide +kernel)
theorem d59_26 : pv_dec 59 26 = some (.iconst 0, 1) := pv_dec_of b59 (by decide +kernel)
theorem d59_27 : pv_dec 59 27 = some (.iadd, 1) := pv_dec_of b59 (by decide +kernel)
theorem d59_28 : pv_dec 59 28 = some (.istore_n 2, 1) := pv_dec_of b59 (by decide +kernel)
theorem d59_29 : pv_dec 59 29 = some (.iinc 3 1, 3) := pv_dec_of b59 (by decide +kernel)
theorem d59_32 : pv_dec 59 32 = some (.goto (-28), 3) := pv_dec_of b59 (by decide +kernel)
theorem d59_35 : pv_dec 59 35 = some (.iload_n 2, 1) := pv_dec_of b59 (by decide +kernel)
theorem d59_36 : pv_dec 59 36 = some (.ireturn, 1) := pv_dec_of b59 (by decide +kernel)
theorem g59_41 : pv_gf 59 41 = some (2, 0) := pv_gfo_of o59 G1_41
theorem Y1_94 : pv_mlo "AngleNet$Net" 94 = some (⟨"AngleNet$Net", "isSide", "(II)Z"⟩, none) := by decide +kernel
theorem V47 : pv_cV 47 2 2 3 ⟨"AngleNet$Net", "isSide", "(II)Z"⟩ = true := by decide +kernel
theorem k59_94 : pv_kV 59 94 47 2 2 3 := pv_kV_of o59 Y1_94 V47 (by decide +kernel)
theorem o68 : pv_own 68 = "AngleNet$Net" := by decide +kernel
theorem b68 : pv_bc 68 = prog_7_method_21_code := pv_bcof (i := 68) rfl
theorem m68 : pv_mL 68 = 3 := by decide +kernel
theorem tt68 : pv_rt 68 = some .int := by decide +kernel
theorem d68_0 : pv_dec 68 0 = some (.iconst 0, 1) := pv_dec_of b68 (by decide +kernel)
theorem d68_1 : pv_dec 68 1 = some (.istore_n 1, 1) := pv_dec_of b68 (by decide +kernel)
theorem d68_2 : pv_dec 68 2 = some (.iconst 0, 1) := pv_dec_of b68 (by decide +kernel)
theorem d68_3 : pv_dec 68 3 = some (.istore_n 2, 1) := pv_dec_of b68 (by decide +kernel)
theorem d68_4 : pv_dec 68 4 = some (.iload_n 2, 1) := pv_dec_of b68 (by decide +kernel)
theorem d68_5 : pv_dec 68 5 = some (.aload_n 0, 1) := pv_dec_of b68 (by decide +kernel)
theorem d68_6 : pv_dec 68 6 = some (.getfield 41, 3) := pv_dec_of b68 (by decide +kernel)
theorem d68_9 : pv_dec 68 9 = some (.if_icmp .ge 17, 3) := pv_dec_of b68 (by decide +kernel)
theorem d68_12 : pv_dec 68 12 = some (.iload_n 1, 1) := pv_dec_of b68 (by decide +kernel)
theorem d68_13 : pv_dec 68 13 = some (.aload_n 0, 1) := pv_dec_of b68 (by decide +kernel)
theorem d68_14 : pv_dec 68 14 = some (.iload_n 2, 1) := pv_dec_of b68 (by decide +kernel)
theorem d68_15 : pv_dec 68 15 = some (.invokevirtual 97, 3) := pv_dec_of b68 (by decide +kernel)
theorem d68_18 : pv_dec 68 18 = some (.iadd, 1) := pv_dec_of b68 (by decide +kernel)
theorem d68_19 : pv_dec 68 19 = some (.istore_n 1, 1) := pv_dec_of b68 (by decide +kernel)
theorem d68_20 : pv_dec 68 20 = some (.iinc 2 1, 3) := pv_dec_of b68 (by decide +kernel)
theorem d68_23 : pv_dec 68 23 = some (.goto (-19), 3) := pv_dec_of b68 (by decide +kernel)
theorem d68_26 : pv_dec 68 26 = some (.iload_n 1, 1) := pv_dec_of b68 (by decide +kernel)
theorem d68_27 : pv_dec 68 27 = some (.iconst 2, 1) := pv_dec_of b68 (by decide +kernel)
theorem d68_28 : pv_dec 68 28 = some (.idiv, 1) := pv_dec_of b68 (by decide +kernel)
theorem d68_29 : pv_dec 68 29 = some (.ireturn, 1) := pv_dec_of b68 (by decide +kernel)
theorem g68_41 : pv_gf 68 41 = some (2, 0) := pv_gfo_of o68 G1_41
theorem Y1_97 : pv_mlo "AngleNet$Net" 97 = some (⟨"AngleNet$Net", "sidesAt", "(I)I"⟩, none) := by decide +kernel
theorem V59 : pv_cV 59 2 1 4 ⟨"AngleNet$Net", "sidesAt", "(I)I"⟩ = true := by decide +kernel
theorem k68_97 : pv_kV 68 97 59 2 1 4 := pv_kV_of o68 Y1_97 V59 (by decide +kernel)
theorem o62 : pv_own 62 = "AngleNet$Net" := by decide +kernel
theorem b62 : pv_bc 62 = prog_7_method_22_code := pv_bcof (i := 62) rfl
theorem m62 : pv_mL 62 = 5 := by decide +kernel
theorem tt62 : pv_rt 62 = some .int := by decide +kernel
theorem d62_0 : pv_dec 62 0 = some (.iconst 0, 1) := pv_dec_of b62 (by decide +kernel)
theorem d62_1 : pv_dec 62 1 = some (.istore_n 2, 1) := pv_dec_of b62 (by decide +kernel)
theorem d62_2 : pv_dec 62 2 = some (.iconst 0, 1) := pv_dec_of b62 (by decide +kernel)
theorem d62_3 : pv_dec 62 3 = some (.istore_n 3, 1) := pv_dec_of b62 (by decide +kernel)
theorem d62_4 : pv_dec 62 4 = some (.iload_n 3, 1) := pv_dec_of b62 (by decide +kernel)
theorem d62_5 : pv_dec 62 5 = some (.aload_n 0, 1) := pv_dec_of b62 (by decide +kernel)
theorem d62_6 : pv_dec 62 6 = some (.getfield 41, 3) := pv_dec_of b62 (by decide +kernel)
theorem d62_9 : pv_dec 62 9 = some (.if_icmp .ge 55, 3) := pv_dec_of b62 (by decide +kernel)
theorem d62_12 : pv_dec 62 12 = some (.iload_n 3, 1) := pv_dec_of b62 (by decide +kernel)
theorem d62_13 : pv_dec 62 13 = some (.iconst 1, 1) := pv_dec_of b62 (by decide +kernel)
theorem d62_14 : pv_dec 62 14 = some (.iadd, 1) := pv_dec_of b62 (by decide +kernel)
theorem d62_15 : pv_dec 62 15 = some (.istore 4, 2) := pv_dec_of b62 (by decide +kernel)
theorem d62_17 : pv_dec 62 17 = some (.iload 4, 2) := pv_dec_of b62 (by decide +kernel)
theorem d62_19 : pv_dec 62 19 = some (.aload_n 0, 1) := pv_dec_of b62 (by decide +kernel)
theorem d62_20 : pv_dec 62 20 = some (.getfield 41, 3) := pv_dec_of b62 (by decide +kernel)
theorem d62_23 : pv_dec 62 23 = some (.if_icmp .ge 35, 3) := pv_dec_of b62 (by decide +kernel)
theorem d62_26 : pv_dec 62 26 = some (.aload_n 0, 1) := pv_dec_of b62 (by decide +kernel)
theorem d62_27 : pv_dec 62 27 = some (.iload_n 3, 1) := pv_dec_of b62 (by decide +kernel)
theorem d62_28 : pv_dec 62 28 = some (.iload 4, 2) := pv_dec_of b62 (by decide +kernel)
theorem d62_30 : pv_dec 62 30 = some (.invokevirtual 94, 3) := pv_dec_of b62 (by decide +kernel)
theorem d62_33 : pv_dec 62 33 = some (.ifCond .eq 19, 3) := pv_dec_of b62 (by decide +kernel)
theorem d62_36 : pv_dec 62 36 = some (.iload_n 2, 1) := pv_dec_of b62 (by decide +kernel)
theorem d62_37 : pv_dec 62 37 = some (.iload_n 1, 1) := pv_dec_of b62 (by decide +kernel)
theorem d62_38 : pv_dec 62 38 = some (.if_icmp .ne 11, 3) := pv_dec_of b62 (by decide +kernel)
theorem d62_41 : pv_dec 62 41 = some (.bipush 10, 2) := pv_dec_of b62 (by decide +kernel)
theorem d62_43 : pv_dec 62 43 = some (.iload_n 3, 1) := pv_dec_of b62 (by decide +kernel)
theorem d62_44 : pv_dec 62 44 = some (.imul, 1) := pv_dec_of b62 (by decide +kernel)
theorem d62_45 : pv_dec 62 45 = some (.iload 4, 2) := pv_dec_of b62 (by decide +kernel)
theorem d62_47 : pv_dec 62 47 = some (.iadd, 1) := pv_dec_of b62 (by decide +kernel)
theorem d62_48 : pv_dec 62 48 = some (.ireturn, 1) := pv_dec_of b62 (by decide +kernel)
theorem d62_49 : pv_dec 62 49 = some (.iinc 2 1, 3) := pv_dec_of b62 (by decide +kernel)
theorem d62_52 : pv_dec 62 52 = some (.iinc 4 1, 3) := pv_dec_of b62 (by decide +kernel)
theorem d62_55 : pv_dec 62 55 = some (.goto (-38), 3) := pv_dec_of b62 (by decide +kernel)
theorem d62_58 : pv_dec 62 58 = some (.iinc 3 1, 3) := pv_dec_of b62 (by decide +kernel)
theorem d62_61 : pv_dec 62 61 = some (.goto (-57), 3) := pv_dec_of b62 (by decide +kernel)
theorem d62_64 : pv_dec 62 64 = some (.iconst (-1), 1) := pv_dec_of b62 (by decide +kernel)
theorem d62_65 : pv_dec 62 65 = some (.ireturn, 1) := pv_dec_of b62 (by decide +kernel)
theorem g62_41 : pv_gf 62 41 = some (2, 0) := pv_gfo_of o62 G1_41
theorem k62_94 : pv_kV 62 94 47 2 2 3 := pv_kV_of o62 Y1_94 V47 (by decide +kernel)
theorem o88 : pv_own 88 = "AngleNet$Net" := by decide +kernel
theorem b88 : pv_bc 88 = prog_7_method_23_code := pv_bcof (i := 88) rfl
theorem m88 : pv_mL 88 = 6 := by decide +kernel
theorem tt88 : pv_rt 88 = some .int := by decide +kernel
theorem d88_0 : pv_dec 88 0 = some (.iconst 1, 1) := pv_dec_of b88 (by decide +kernel)
theorem d88_1 : pv_dec 88 1 = some (.iload_n 1, 1) := pv_dec_of b88 (by decide +kernel)
theorem d88_2 : pv_dec 88 2 = some (.ishl, 1) := pv_dec_of b88 (by decide +kernel)
theorem d88_3 : pv_dec 88 3 = some (.iconst 1, 1) := pv_dec_of b88 (by decide +kernel)
theorem d88_4 : pv_dec 88 4 = some (.iload_n 2, 1) := pv_dec_of b88 (by decide +kernel)
theorem d88_5 : pv_dec 88 5 = some (.ishl, 1) := pv_dec_of b88 (by decide +kernel)
theorem d88_6 : pv_dec 88 6 = some (.ior, 1) := pv_dec_of b88 (by decide +kernel)
theorem d88_7 : pv_dec 88 7 = some (.istore 4, 2) := pv_dec_of b88 (by decide +kernel)
theorem d88_9 : pv_dec 88 9 = some (.iconst 0, 1) := pv_dec_of b88 (by decide +kernel)
theorem d88_10 : pv_dec 88 10 = some (.iload_n 3, 1) := pv_dec_of b88 (by decide +kernel)
theorem d88_11 : pv_dec 88 11 = some (.invokestatic 100, 3) := pv_dec_of b88 (by decide +kernel)
theorem d88_14 : pv_dec 88 14 = some (.istore 5, 2) := pv_dec_of b88 (by decide +kernel)
theorem d88_16 : pv_dec 88 16 = some (.iload 5, 2) := pv_dec_of b88 (by decide +kernel)
theorem d88_18 : pv_dec 88 18 = some (.aload_n 0, 1) := pv_dec_of b88 (by decide +kernel)
theorem d88_19 : pv_dec 88 19 = some (.getfield 45, 3) := pv_dec_of b88 (by decide +kernel)
theorem d88_22 : pv_dec 88 22 = some (.if_icmp .ge 26, 3) := pv_dec_of b88 (by decide +kernel)
theorem d88_25 : pv_dec 88 25 = some (.aload_n 0, 1) := pv_dec_of b88 (by decide +kernel)
theorem d88_26 : pv_dec 88 26 = some (.iload 5, 2) := pv_dec_of b88 (by decide +kernel)
theorem d88_28 : pv_dec 88 28 = some (.invokevirtual 82, 3) := pv_dec_of b88 (by decide +kernel)
theorem d88_31 : pv_dec 88 31 = some (.iload 4, 2) := pv_dec_of b88 (by decide +kernel)
theorem d88_33 : pv_dec 88 33 = some (.iand, 1) := pv_dec_of b88 (by decide +kernel)
theorem d88_34 : pv_dec 88 34 = some (.iload 4, 2) := pv_dec_of b88 (by decide +kernel)
theorem d88_36 : pv_dec 88 36 = some (.if_icmp .ne 6, 3) := pv_dec_of b88 (by decide +kernel)
theorem d88_39 : pv_dec 88 39 = some (.iload 5, 2) := pv_dec_of b88 (by decide +kernel)
theorem d88_41 : pv_dec 88 41 = some (.ireturn, 1) := pv_dec_of b88 (by decide +kernel)
theorem d88_42 : pv_dec 88 42 = some (.iinc 5 1, 3) := pv_dec_of b88 (by decide +kernel)
theorem d88_45 : pv_dec 88 45 = some (.goto (-29), 3) := pv_dec_of b88 (by decide +kernel)
theorem d88_48 : pv_dec 88 48 = some (.iconst (-1), 1) := pv_dec_of b88 (by decide +kernel)
theorem d88_49 : pv_dec 88 49 = some (.ireturn, 1) := pv_dec_of b88 (by decide +kernel)
theorem g88_45 : pv_gf 88 45 = some (2, 1) := pv_gfo_of o88 G1_45
theorem k88_82 : pv_kV 88 82 40 2 1 2 := pv_kV_of o88 Y1_82 V40 (by decide +kernel)
theorem k88_100 : pv_kM 88 100 Lib.Math.max.name Lib.Math.max.code 2 (some .int) = true := by decide +kernel
theorem o76 : pv_own 76 = "AngleNet" := by decide +kernel
theorem b76 : pv_bc 76 = prog_1_method_50_code := pv_bcof (i := 76) rfl
theorem m76 : pv_mL 76 = 2 := by decide +kernel
theorem tt76 : pv_rt 76 = some .int := by decide +kernel
theorem d76_0 : pv_dec 76 0 = some (.iconst 0, 1) := pv_dec_of b76 (by decide +kernel)
theorem d76_1 : pv_dec 76 1 = some (.istore_n 1, 1) := pv_dec_of b76 (by decide +kernel)
theorem d76_2 : pv_dec 76 2 = some (.iload_n 1, 1) := pv_dec_of b76 (by decide +kernel)
theorem d76_3 : pv_dec 76 3 = some (.bipush 32, 2) := pv_dec_of b76 (by decide +kernel)
theorem d76_5 : pv_dec 76 5 = some (.if_icmp .ge 19, 3) := pv_dec_of b76 (by decide +kernel)
theorem d76_8 : pv_dec 76 8 = some (.iload_n 0, 1) := pv_dec_of b76 (by decide +kernel)
theorem d76_9 : pv_dec 76 9 = some (.iload_n 1, 1) := pv_dec_of b76 (by decide +kernel)
theorem d76_10 : pv_dec 76 10 = some (.ishr, 1) := pv_dec_of b76 (by decide +kernel)
theorem d76_11 : pv_dec 76 11 = some (.iconst 1, 1) := pv_dec_of b76 (by decide +kernel)
theorem d76_12 : pv_dec 76 12 = some (.iand, 1) := pv_dec_of b76 (by decide +kernel)
theorem d76_13 : pv_dec 76 13 = some (.ifCond .eq 5, 3) := pv_dec_of b76 (by decide +kernel)
theorem d76_16 : pv_dec 76 16 = some (.iload_n 1, 1) := pv_dec_of b76 (by decide +kernel)
theorem d76_17 : pv_dec 76 17 = some (.ireturn, 1) := pv_dec_of b76 (by decide +kernel)
theorem d76_18 : pv_dec 76 18 = some (.iinc 1 1, 3) := pv_dec_of b76 (by decide +kernel)
theorem d76_21 : pv_dec 76 21 = some (.goto (-19), 3) := pv_dec_of b76 (by decide +kernel)
theorem d76_24 : pv_dec 76 24 = some (.bipush 32, 2) := pv_dec_of b76 (by decide +kernel)
theorem d76_26 : pv_dec 76 26 = some (.ireturn, 1) := pv_dec_of b76 (by decide +kernel)
theorem o102 : pv_own 102 = "AngleNet" := by decide +kernel
theorem b102 : pv_bc 102 = prog_1_method_51_code := pv_bcof (i := 102) rfl
theorem m102 : pv_mL 102 = 3 := by decide +kernel
theorem tt102 : pv_rt 102 = some .boolean := by decide +kernel
theorem d102_0 : pv_dec 102 0 = some (.iload_n 0, 1) := pv_dec_of b102 (by decide +kernel)
theorem d102_1 : pv_dec 102 1 = some (.invokestatic 367, 3) := pv_dec_of b102 (by decide +kernel)
theorem d102_4 : pv_dec 102 4 = some (.iload_n 1, 1) := pv_dec_of b102 (by decide +kernel)
theorem d102_5 : pv_dec 102 5 = some (.invokestatic 367, 3) := pv_dec_of b102 (by decide +kernel)
theorem d102_8 : pv_dec 102 8 = some (.isub, 1) := pv_dec_of b102 (by decide +kernel)
theorem d102_9 : pv_dec 102 9 = some (.istore_n 2, 1) := pv_dec_of b102 (by decide +kernel)
theorem d102_10 : pv_dec 102 10 = some (.iload_n 2, 1) := pv_dec_of b102 (by decide +kernel)
theorem d102_11 : pv_dec 102 11 = some (.ifCond .lt 12, 3) := pv_dec_of b102 (by decide +kernel)
theorem d102_14 : pv_dec 102 14 = some (.iload_n 2, 1) := pv_dec_of b102 (by decide +kernel)
theorem d102_15 : pv_dec 102 15 = some (.ifCond .ne 12, 3) := pv_dec_of b102 (by decide +kernel)
theorem d102_18 : pv_dec 102 18 = some (.iload_n 0, 1) := pv_dec_of b102 (by decide +kernel)
theorem d102_19 : pv_dec 102 19 = some (.iload_n 1, 1) := pv_dec_of b102 (by decide +kernel)
theorem d102_20 : pv_dec 102 20 = some (.if_icmp .ge 7, 3) := pv_dec_of b102 (by decide +kernel)
theorem d102_23 : pv_dec 102 23 = some (.iconst 1, 1) := pv_dec_of b102 (by decide +kernel)
theorem d102_24 : pv_dec 102 24 = some (.goto 4, 3) := pv_dec_of b102 (by decide +kernel)
theorem d102_27 : pv_dec 102 27 = some (.iconst 0, 1) := pv_dec_of b102 (by decide +kernel)
theorem d102_28 : pv_dec 102 28 = some (.ireturn, 1) := pv_dec_of b102 (by decide +kernel)
theorem Y2_367 : pv_mlo "AngleNet" 367 = some (⟨"java/lang/Integer", "bitCount", "(I)I"⟩, none) := by decide +kernel
theorem Z67 : pv_cS 67 1 1 ⟨"java/lang/Integer", "bitCount", "(I)I"⟩ = true := by decide +kernel
theorem k102_367 : pv_kS 102 367 67 1 1 := pv_kS_of o102 Y2_367 Z67 (by decide +kernel)
theorem o117 : pv_own 117 = "AngleNet" := by decide +kernel
theorem b117 : pv_bc 117 = prog_1_method_52_code := pv_bcof (i := 117) rfl
theorem m117 : pv_mL 117 = 2 := by decide +kernel
theorem tt117 : pv_rt 117 = some .int := by decide +kernel
theorem d117_0 : pv_dec 117 0 = some (.lload_n 0, 1) := pv_dec_of b117 (by decide +kernel)
theorem d117_1 : pv_dec 117 1 = some (.lconst 0, 1) := pv_dec_of b117 (by decide +kernel)
theorem d117_2 : pv_dec 117 2 = some (.lcmp, 1) := pv_dec_of b117 (by decide +kernel)
theorem d117_3 : pv_dec 117 3 = some (.ifCond .ne 5, 3) := pv_dec_of b117 (by decide +kernel)
theorem d117_6 : pv_dec 117 6 = some (.iconst 0, 1) := pv_dec_of b117 (by decide +kernel)
theorem d117_7 : pv_dec 117 7 = some (.ireturn, 1) := pv_dec_of b117 (by decide +kernel)
theorem d117_8 : pv_dec 117 8 = some (.lload_n 0, 1) := pv_dec_of b117 (by decide +kernel)
theorem d117_9 : pv_dec 117 9 = some (.lconst 0, 1) := pv_dec_of b117 (by decide +kernel)
theorem d117_10 : pv_dec 117 10 = some (.lcmp, 1) := pv_dec_of b117 (by decide +kernel)
theorem d117_11 : pv_dec 117 11 = some (.ifCond .le 7, 3) := pv_dec_of b117 (by decide +kernel)
theorem d117_14 : pv_dec 117 14 = some (.iconst 1, 1) := pv_dec_of b117 (by decide +kernel)
theorem d117_15 : pv_dec 117 15 = some (.goto 4, 3) := pv_dec_of b117 (by decide +kernel)
theorem d117_18 : pv_dec 117 18 = some (.iconst (-1), 1) := pv_dec_of b117 (by decide +kernel)
theorem d117_19 : pv_dec 117 19 = some (.ireturn, 1) := pv_dec_of b117 (by decide +kernel)
theorem o90 : pv_own 90 = "AngleNet$Net" := by decide +kernel
theorem b90 : pv_bc 90 = prog_7_method_24_code := pv_bcof (i := 90) rfl
theorem m90 : pv_mL 90 = 4 := by decide +kernel
theorem tt90 : pv_rt 90 = some .int := by decide +kernel
theorem d90_0 : pv_dec 90 0 = some (.aload_n 0, 1) := pv_dec_of b90 (by decide +kernel)
theorem d90_1 : pv_dec 90 1 = some (.iload_n 1, 1) := pv_dec_of b90 (by decide +kernel)
theorem d90_2 : pv_dec 90 2 = some (.invokevirtual 82, 3) := pv_dec_of b90 (by decide +kernel)
theorem d90_5 : pv_dec 90 5 = some (.iconst 1, 1) := pv_dec_of b90 (by decide +kernel)
theorem d90_6 : pv_dec 90 6 = some (.iload_n 2, 1) := pv_dec_of b90 (by decide +kernel)
theorem d90_7 : pv_dec 90 7 = some (.ishl, 1) := pv_dec_of b90 (by decide +kernel)
theorem d90_8 : pv_dec 90 8 = some (.iconst 1, 1) := pv_dec_of b90 (by decide +kernel)
theorem d90_9 : pv_dec 90 9 = some (.iload_n 3, 1) := pv_dec_of b90 (by decide +kernel)
theorem d90_10 : pv_dec 90 10 = some (.ishl, 1) := pv_dec_of b90 (by decide +kernel)
theorem d90_11 : pv_dec 90 11 = some (.ior, 1) := pv_dec_of b90 (by decide +kernel)
theorem d90_12 : pv_dec 90 12 = some (.iconst (-1), 1) := pv_dec_of b90 (by decide +kernel)
theorem d90_13 : pv_dec 90 13 = some (.ixor, 1) := pv_dec_of b90 (by decide +kernel)
theorem d90_14 : pv_dec 90 14 = some (.iand, 1) := pv_dec_of b90 (by decide +kernel)
theorem d90_15 : pv_dec 90 15 = some (.invokestatic 106, 3) := pv_dec_of b90 (by decide +kernel)
theorem d90_18 : pv_dec 90 18 = some (.ireturn, 1) := pv_dec_of b90 (by decide +kernel)
theorem Y1_106 : pv_mlo "AngleNet$Net" 106 = some (⟨"AngleNet", "lowestBit", "(I)I"⟩, some "AngleNet") := by decide +kernel
theorem Z76 : pv_cS 76 1 2 ⟨"AngleNet", "lowestBit", "(I)I"⟩ = true := by decide +kernel
theorem k90_106 : pv_kS 90 106 76 1 2 := pv_kS_of o90 Y1_106 Z76 (by decide +kernel)
theorem k90_82 : pv_kV 90 82 40 2 1 2 := pv_kV_of o90 Y1_82 V40 (by decide +kernel)
theorem o172 : pv_own 172 = "AngleNet$Net" := by decide +kernel
theorem b172 : pv_bc 172 = prog_7_method_25_code := pv_bcof (i := 172) rfl
theorem m172 : pv_mL 172 = 3 := by decide +kernel
theorem tt172 : pv_rt 172 = some .int := by decide +kernel
theorem d172_0 : pv_dec 172 0 = some (.iconst 0, 1) := pv_dec_of b172 (by decide +kernel)
theorem d172_1 : pv_dec 172 1 = some (.istore_n 1, 1) := pv_dec_of b172 (by decide +kernel)
theorem d172_2 : pv_dec 172 2 = some (.iconst 0, 1) := pv_dec_of b172 (by decide +kernel)
theorem d172_3 : pv_dec 172 3 = some (.istore_n 2, 1) := pv_dec_of b172 (by decide +kernel)
theorem d172_4 : pv_dec 172 4 = some (.iload_n 2, 1) := pv_dec_of b172 (by decide +kernel)
theorem d172_5 : pv_dec 172 5 = some (.aload_n 0, 1) := pv_dec_of b172 (by decide +kernel)
theorem d172_6 : pv_dec 172 6 = some (.getfield 41, 3) := pv_dec_of b172 (by decide +kernel)
theorem d172_9 : pv_dec 172 9 = some (.if_icmp .ge 29, 3) := pv_dec_of b172 (by decide +kernel)
theorem d172_12 : pv_dec 172 12 = some (.iload_n 1, 1) := pv_dec_of b172 (by decide +kernel)
theorem d172_13 : pv_dec 172 13 = some (.aload_n 0, 1) := pv_dec_of b172 (by decide +kernel)
theorem d172_14 : pv_dec 172 14 = some (.getfield 21, 3) := pv_dec_of b172 (by decide +kernel)
theorem d172_17 : pv_dec 172 17 = some (.iload_n 2, 1) := pv_dec_of b172 (by decide +kernel)
theorem d172_18 : pv_dec 172 18 = some (.iaload, 1) := pv_dec_of b172 (by decide +kernel)
theorem d172_19 : pv_dec 172 19 = some (.iconst (-1), 1) := pv_dec_of b172 (by decide +kernel)
theorem d172_20 : pv_dec 172 20 = some (.if_icmp .eq 9, 3) := pv_dec_of b172 (by decide +kernel)
theorem d172_23 : pv_dec 172 23 = some (.iconst 1, 1) := pv_dec_of b172 (by decide +kernel)
theorem d172_24 : pv_dec 172 24 = some (.iload_n 2, 1) := pv_dec_of b172 (by decide +kernel)
theorem d172_25 : pv_dec 172 25 = some (.ishl, 1) := pv_dec_of b172 (by decide +kernel)
theorem d172_26 : pv_dec 172 26 = some (.goto 4, 3) := pv_dec_of b172 (by decide +kernel)
theorem d172_29 : pv_dec 172 29 = some (.iconst 0, 1) := pv_dec_of b172 (by decide +kernel)
theorem d172_30 : pv_dec 172 30 = some (.ior, 1) := pv_dec_of b172 (by decide +kernel)
theorem d172_31 : pv_dec 172 31 = some (.istore_n 1, 1) := pv_dec_of b172 (by decide +kernel)
theorem d172_32 : pv_dec 172 32 = some (.iinc 2 1, 3) := pv_dec_of b172 (by decide +kernel)
theorem d172_35 : pv_dec 172 35 = some (.goto (-31), 3) := pv_dec_of b172 (by decide +kernel)
theorem d172_38 : pv_dec 172 38 = some (.iload_n 1, 1) := pv_dec_of b172 (by decide +kernel)
theorem d172_39 : pv_dec 172 39 = some (.ireturn, 1) := pv_dec_of b172 (by decide +kernel)
theorem g172_21 : pv_gf 172 21 = some (2, 8) := pv_gfo_of o172 G1_21
theorem g172_41 : pv_gf 172 41 = some (2, 0) := pv_gfo_of o172 G1_41
theorem o14 : pv_own 14 = "java/util/Arrays" := by decide +kernel
theorem b14 : pv_bc 14 = prog_20_method_103_code := pv_bcof (i := 14) rfl
theorem m14 : pv_mL 14 = 4 := by decide +kernel
theorem tt14 : pv_rt 14 = none := by decide +kernel
theorem d14_0 : pv_dec 14 0 = some (.iconst 0, 1) := pv_dec_of b14 (by decide +kernel)
theorem d14_1 : pv_dec 14 1 = some (.istore_n 2, 1) := pv_dec_of b14 (by decide +kernel)
theorem d14_2 : pv_dec 14 2 = some (.aload_n 0, 1) := pv_dec_of b14 (by decide +kernel)
theorem d14_3 : pv_dec 14 3 = some (.arraylength, 1) := pv_dec_of b14 (by decide +kernel)
theorem d14_4 : pv_dec 14 4 = some (.istore_n 3, 1) := pv_dec_of b14 (by decide +kernel)
theorem d14_5 : pv_dec 14 5 = some (.iload_n 2, 1) := pv_dec_of b14 (by decide +kernel)
theorem d14_6 : pv_dec 14 6 = some (.iload_n 3, 1) := pv_dec_of b14 (by decide +kernel)
theorem d14_7 : pv_dec 14 7 = some (.if_icmp .ge 13, 3) := pv_dec_of b14 (by decide +kernel)
theorem d14_10 : pv_dec 14 10 = some (.aload_n 0, 1) := pv_dec_of b14 (by decide +kernel)
theorem d14_11 : pv_dec 14 11 = some (.iload_n 2, 1) := pv_dec_of b14 (by decide +kernel)
theorem d14_12 : pv_dec 14 12 = some (.iload_n 1, 1) := pv_dec_of b14 (by decide +kernel)
theorem d14_13 : pv_dec 14 13 = some (.iastore, 1) := pv_dec_of b14 (by decide +kernel)
theorem d14_14 : pv_dec 14 14 = some (.iinc 2 1, 3) := pv_dec_of b14 (by decide +kernel)
theorem d14_17 : pv_dec 14 17 = some (.goto (-12), 3) := pv_dec_of b14 (by decide +kernel)
theorem d14_20 : pv_dec 14 20 = some (.return_, 1) := pv_dec_of b14 (by decide +kernel)
theorem o148 : pv_own 148 = "java/util/Arrays" := by decide +kernel
theorem b148 : pv_bc 148 = prog_20_method_101_code := pv_bcof (i := 148) rfl
theorem m148 : pv_mL 148 = 5 := by decide +kernel
theorem tt148 : pv_rt 148 = none := by decide +kernel
theorem d148_0 : pv_dec 148 0 = some (.iconst 0, 1) := pv_dec_of b148 (by decide +kernel)
theorem d148_1 : pv_dec 148 1 = some (.istore_n 3, 1) := pv_dec_of b148 (by decide +kernel)
theorem d148_2 : pv_dec 148 2 = some (.aload_n 0, 1) := pv_dec_of b148 (by decide +kernel)
theorem d148_3 : pv_dec 148 3 = some (.arraylength, 1) := pv_dec_of b148 (by decide +kernel)
theorem d148_4 : pv_dec 148 4 = some (.istore 4, 2) := pv_dec_of b148 (by decide +kernel)
theorem d148_6 : pv_dec 148 6 = some (.iload_n 3, 1) := pv_dec_of b148 (by decide +kernel)
theorem d148_7 : pv_dec 148 7 = some (.iload 4, 2) := pv_dec_of b148 (by decide +kernel)
theorem d148_9 : pv_dec 148 9 = some (.if_icmp .ge 13, 3) := pv_dec_of b148 (by decide +kernel)
theorem d148_12 : pv_dec 148 12 = some (.aload_n 0, 1) := pv_dec_of b148 (by decide +kernel)
theorem d148_13 : pv_dec 148 13 = some (.iload_n 3, 1) := pv_dec_of b148 (by decide +kernel)
theorem d148_14 : pv_dec 148 14 = some (.lload_n 1, 1) := pv_dec_of b148 (by decide +kernel)
theorem d148_15 : pv_dec 148 15 = some (.lastore, 1) := pv_dec_of b148 (by decide +kernel)
theorem d148_16 : pv_dec 148 16 = some (.iinc 3 1, 3) := pv_dec_of b148 (by decide +kernel)
theorem d148_19 : pv_dec 148 19 = some (.goto (-13), 3) := pv_dec_of b148 (by decide +kernel)
theorem d148_22 : pv_dec 148 22 = some (.return_, 1) := pv_dec_of b148 (by decide +kernel)
theorem o15 : pv_own 15 = "AngleNet$Net" := by decide +kernel
theorem b15 : pv_bc 15 = prog_7_method_4_code := pv_bcof (i := 15) rfl
theorem m15 : pv_mL 15 = 1 := by decide +kernel
theorem tt15 : pv_rt 15 = none := by decide +kernel
theorem d15_0 : pv_dec 15 0 = some (.aload_n 0, 1) := pv_dec_of b15 (by decide +kernel)
theorem d15_1 : pv_dec 15 1 = some (.iconst 0, 1) := pv_dec_of b15 (by decide +kernel)
theorem d15_2 : pv_dec 15 2 = some (.putfield 66, 3) := pv_dec_of b15 (by decide +kernel)
theorem d15_5 : pv_dec 15 5 = some (.aload_n 0, 1) := pv_dec_of b15 (by decide +kernel)
theorem d15_6 : pv_dec 15 6 = some (.iconst 0, 1) := pv_dec_of b15 (by decide +kernel)
theorem d15_7 : pv_dec 15 7 = some (.putfield 69, 3) := pv_dec_of b15 (by decide +kernel)
theorem d15_10 : pv_dec 15 10 = some (.return_, 1) := pv_dec_of b15 (by decide +kernel)
theorem G1_66 : pv_gfo "AngleNet$Net" 66 = some (2, 14) := by decide +kernel
theorem g15_66 : pv_gf 15 66 = some (2, 14) := pv_gfo_of o15 G1_66
theorem G1_69 : pv_gfo "AngleNet$Net" 69 = some (2, 15) := by decide +kernel
theorem g15_69 : pv_gf 15 69 = some (2, 15) := pv_gfo_of o15 G1_69
theorem w2_14 : pv_ft 2 14 = some .int := by decide +kernel
theorem w2_15 : pv_ft 2 15 = some .int := by decide +kernel
theorem o13 : pv_own 13 = "AngleNet$Net" := by decide +kernel
theorem b13 : pv_bc 13 = prog_7_method_2_code := pv_bcof (i := 13) rfl
theorem m13 : pv_mL 13 = 1 := by decide +kernel
theorem tt13 : pv_rt 13 = none := by decide +kernel
theorem d13_0 : pv_dec 13 0 = some (.aload_n 0, 1) := pv_dec_of b13 (by decide +kernel)
theorem d13_1 : pv_dec 13 1 = some (.iconst 0, 1) := pv_dec_of b13 (by decide +kernel)
theorem d13_2 : pv_dec 13 2 = some (.putfield 41, 3) := pv_dec_of b13 (by decide +kernel)
theorem d13_5 : pv_dec 13 5 = some (.aload_n 0, 1) := pv_dec_of b13 (by decide +kernel)
theorem d13_6 : pv_dec 13 6 = some (.iconst 0, 1) := pv_dec_of b13 (by decide +kernel)
theorem d13_7 : pv_dec 13 7 = some (.putfield 45, 3) := pv_dec_of b13 (by decide +kernel)
theorem d13_10 : pv_dec 13 10 = some (.aload_n 0, 1) := pv_dec_of b13 (by decide +kernel)
theorem d13_11 : pv_dec 13 11 = some (.iconst 0, 1) := pv_dec_of b13 (by decide +kernel)
theorem d13_12 : pv_dec 13 12 = some (.putfield 48, 3) := pv_dec_of b13 (by decide +kernel)
theorem d13_15 : pv_dec 13 15 = some (.aload_n 0, 1) := pv_dec_of b13 (by decide +kernel)
theorem d13_16 : pv_dec 13 16 = some (.iconst 0, 1) := pv_dec_of b13 (by decide +kernel)
theorem d13_17 : pv_dec 13 17 = some (.putfield 51, 3) := pv_dec_of b13 (by decide +kernel)
theorem d13_20 : pv_dec 13 20 = some (.aload_n 0, 1) := pv_dec_of b13 (by decide +kernel)
theorem d13_21 : pv_dec 13 21 = some (.iconst 0, 1) := pv_dec_of b13 (by decide +kernel)
theorem d13_22 : pv_dec 13 22 = some (.putfield 54, 3) := pv_dec_of b13 (by decide +kernel)
theorem d13_25 : pv_dec 13 25 = some (.aload_n 0, 1) := pv_dec_of b13 (by decide +kernel)
theorem d13_26 : pv_dec 13 26 = some (.getfield 18, 3) := pv_dec_of b13 (by decide +kernel)
theorem d13_29 : pv_dec 13 29 = some (.iconst (-1), 1) := pv_dec_of b13 (by decide +kernel)
theorem d13_30 : pv_dec 13 30 = some (.invokestatic 57, 3) := pv_dec_of b13 (by decide +kernel)
theorem d13_33 : pv_dec 13 33 = some (.aload_n 0, 1) := pv_dec_of b13 (by decide +kernel)
theorem d13_34 : pv_dec 13 34 = some (.getfield 21, 3) := pv_dec_of b13 (by decide +kernel)
theorem d13_37 : pv_dec 13 37 = some (.iconst (-1), 1) := pv_dec_of b13 (by decide +kernel)
theorem d13_38 : pv_dec 13 38 = some (.invokestatic 57, 3) := pv_dec_of b13 (by decide +kernel)
theorem d13_41 : pv_dec 13 41 = some (.aload_n 0, 1) := pv_dec_of b13 (by decide +kernel)
theorem d13_42 : pv_dec 13 42 = some (.getfield 24, 3) := pv_dec_of b13 (by decide +kernel)
theorem d13_45 : pv_dec 13 45 = some (.iconst (-1), 1) := pv_dec_of b13 (by decide +kernel)
theorem d13_46 : pv_dec 13 46 = some (.invokestatic 57, 3) := pv_dec_of b13 (by decide +kernel)
theorem d13_49 : pv_dec 13 49 = some (.aload_n 0, 1) := pv_dec_of b13 (by decide +kernel)
theorem d13_50 : pv_dec 13 50 = some (.getfield 27, 3) := pv_dec_of b13 (by decide +kernel)
theorem d13_53 : pv_dec 13 53 = some (.iconst (-1), 1) := pv_dec_of b13 (by decide +kernel)
theorem d13_54 : pv_dec 13 54 = some (.invokestatic 57, 3) := pv_dec_of b13 (by decide +kernel)
theorem d13_57 : pv_dec 13 57 = some (.aload_n 0, 1) := pv_dec_of b13 (by decide +kernel)
theorem d13_58 : pv_dec 13 58 = some (.getfield 30, 3) := pv_dec_of b13 (by decide +kernel)
theorem d13_61 : pv_dec 13 61 = some (.iconst 0, 1) := pv_dec_of b13 (by decide +kernel)
theorem d13_62 : pv_dec 13 62 = some (.invokestatic 57, 3) := pv_dec_of b13 (by decide +kernel)
theorem d13_65 : pv_dec 13 65 = some (.aload_n 0, 1) := pv_dec_of b13 (by decide +kernel)
theorem d13_66 : pv_dec 13 66 = some (.getfield 33, 3) := pv_dec_of b13 (by decide +kernel)
theorem d13_69 : pv_dec 13 69 = some (.iconst 0, 1) := pv_dec_of b13 (by decide +kernel)
theorem d13_70 : pv_dec 13 70 = some (.invokestatic 57, 3) := pv_dec_of b13 (by decide +kernel)
theorem d13_73 : pv_dec 13 73 = some (.aload_n 0, 1) := pv_dec_of b13 (by decide +kernel)
theorem d13_74 : pv_dec 13 74 = some (.invokevirtual 63, 3) := pv_dec_of b13 (by decide +kernel)
theorem d13_77 : pv_dec 13 77 = some (.return_, 1) := pv_dec_of b13 (by decide +kernel)
theorem G1_18 : pv_gfo "AngleNet$Net" 18 = some (2, 7) := by decide +kernel
theorem g13_18 : pv_gf 13 18 = some (2, 7) := pv_gfo_of o13 G1_18
theorem g13_21 : pv_gf 13 21 = some (2, 8) := pv_gfo_of o13 G1_21
theorem G1_24 : pv_gfo "AngleNet$Net" 24 = some (2, 9) := by decide +kernel
theorem g13_24 : pv_gf 13 24 = some (2, 9) := pv_gfo_of o13 G1_24
theorem G1_27 : pv_gfo "AngleNet$Net" 27 = some (2, 10) := by decide +kernel
theorem g13_27 : pv_gf 13 27 = some (2, 10) := pv_gfo_of o13 G1_27
theorem g13_30 : pv_gf 13 30 = some (2, 11) := pv_gfo_of o13 G1_30
theorem g13_33 : pv_gf 13 33 = some (2, 12) := pv_gfo_of o13 G1_33
theorem g13_41 : pv_gf 13 41 = some (2, 0) := pv_gfo_of o13 G1_41
theorem g13_45 : pv_gf 13 45 = some (2, 1) := pv_gfo_of o13 G1_45
theorem G1_48 : pv_gfo "AngleNet$Net" 48 = some (2, 2) := by decide +kernel
theorem g13_48 : pv_gf 13 48 = some (2, 2) := pv_gfo_of o13 G1_48
theorem G1_51 : pv_gfo "AngleNet$Net" 51 = some (2, 3) := by decide +kernel
theorem g13_51 : pv_gf 13 51 = some (2, 3) := pv_gfo_of o13 G1_51
theorem G1_54 : pv_gfo "AngleNet$Net" 54 = some (2, 4) := by decide +kernel
theorem g13_54 : pv_gf 13 54 = some (2, 4) := pv_gfo_of o13 G1_54
theorem w2_0 : pv_ft 2 0 = some .int := by decide +kernel
theorem w2_1 : pv_ft 2 1 = some .int := by decide +kernel
theorem w2_2 : pv_ft 2 2 = some .int := by decide +kernel
theorem w2_3 : pv_ft 2 3 = some .int := by decide +kernel
theorem w2_4 : pv_ft 2 4 = some .int := by decide +kernel
theorem Y1_57 : pv_mlo "AngleNet$Net" 57 = some (⟨"java/util/Arrays", "fill", "([II)V"⟩, none) := by decide +kernel
theorem Z14 : pv_cS 14 2 4 ⟨"java/util/Arrays", "fill", "([II)V"⟩ = true := by decide +kernel
theorem k13_57 : pv_kS 13 57 14 2 4 := pv_kS_of o13 Y1_57 Z14 (by decide +kernel)
theorem Y1_63 : pv_mlo "AngleNet$Net" 63 = some (⟨"AngleNet$Net", "forgetFlips", "()V"⟩, none) := by decide +kernel
theorem V15 : pv_cV 15 2 0 1 ⟨"AngleNet$Net", "forgetFlips", "()V"⟩ = true := by decide +kernel
theorem k13_63 : pv_kV 13 63 15 2 0 1 := pv_kV_of o13 Y1_63 V15 (by decide +kernel)
theorem o36 : pv_own 36 = "AngleNet$Net" := by decide +kernel
theorem b36 : pv_bc 36 = prog_7_method_3_code := pv_bcof (i := 36) rfl
theorem m36 : pv_mL 36 = 2 := by decide +kernel
theorem tt36 : pv_rt 36 = none := by decide +kernel
theorem d36_0 : pv_dec 36 0 = some (.aload_n 0, 1) := pv_dec_of b36 (by decide +kernel)
theorem d36_1 : pv_dec 36 1 = some (.iload_n 1, 1) := pv_dec_of b36 (by decide +kernel)
theorem d36_2 : pv_dec 36 2 = some (.putfield 41, 3) := pv_dec_of b36 (by decide +kernel)
theorem d36_5 : pv_dec 36 5 = some (.aload_n 0, 1) := pv_dec_of b36 (by decide +kernel)
theorem d36_6 : pv_dec 36 6 = some (.iconst 1, 1) := pv_dec_of b36 (by decide +kernel)
theorem d36_7 : pv_dec 36 7 = some (.putfield 51, 3) := pv_dec_of b36 (by decide +kernel)
theorem d36_10 : pv_dec 36 10 = some (.aload_n 0, 1) := pv_dec_of b36 (by decide +kernel)
theorem d36_11 : pv_dec 36 11 = some (.sipush 360, 3) := pv_dec_of b36 (by decide +kernel)
theorem d36_14 : pv_dec 36 14 = some (.putfield 54, 3) := pv_dec_of b36 (by decide +kernel)
theorem d36_17 : pv_dec 36 17 = some (.return_, 1) := pv_dec_of b36 (by decide +kernel)
theorem g36_41 : pv_gf 36 41 = some (2, 0) := pv_gfo_of o36 G1_41
theorem g36_51 : pv_gf 36 51 = some (2, 3) := pv_gfo_of o36 G1_51
theorem g36_54 : pv_gf 36 54 = some (2, 4) := pv_gfo_of o36 G1_54
theorem o52 : pv_own 52 = "AngleNet$Net" := by decide +kernel
theorem b52 : pv_bc 52 = prog_7_method_5_code := pv_bcof (i := 52) rfl
theorem m52 : pv_mL 52 = 2 := by decide +kernel
theorem tt52 : pv_rt 52 = none := by decide +kernel
theorem d52_0 : pv_dec 52 0 = some (.aload_n 0, 1) := pv_dec_of b52 (by decide +kernel)
theorem d52_1 : pv_dec 52 1 = some (.aload_n 1, 1) := pv_dec_of b52 (by decide +kernel)
theorem d52_2 : pv_dec 52 2 = some (.getfield 41, 3) := pv_dec_of b52 (by decide +kernel)
theorem d52_5 : pv_dec 52 5 = some (.putfield 41, 3) := pv_dec_of b52 (by decide +kernel)
theorem d52_8 : pv_dec 52 8 = some (.aload_n 0, 1) := pv_dec_of b52 (by decide +kernel)
theorem d52_9 : pv_dec 52 9 = some (.aload_n 1, 1) := pv_dec_of b52 (by decide +kernel)
theorem d52_10 : pv_dec 52 10 = some (.getfield 45, 3) := pv_dec_of b52 (by decide +kernel)
theorem d52_13 : pv_dec 52 13 = some (.putfield 45, 3) := pv_dec_of b52 (by decide +kernel)
theorem d52_16 : pv_dec 52 16 = some (.aload_n 0, 1) := pv_dec_of b52 (by decide +kernel)
theorem d52_17 : pv_dec 52 17 = some (.aload_n 1, 1) := pv_dec_of b52 (by decide +kernel)
theorem d52_18 : pv_dec 52 18 = some (.getfield 48, 3) := pv_dec_of b52 (by decide +kernel)
theorem d52_21 : pv_dec 52 21 = some (.putfield 48, 3) := pv_dec_of b52 (by decide +kernel)
theorem d52_24 : pv_dec 52 24 = some (.aload_n 0, 1) := pv_dec_of b52 (by decide +kernel)
theorem d52_25 : pv_dec 52 25 = some (.aload_n 1, 1) := pv_dec_of b52 (by decide +kernel)
theorem d52_26 : pv_dec 52 26 = some (.getfield 51, 3) := pv_dec_of b52 (by decide +kernel)
theorem d52_29 : pv_dec 52 29 = some (.putfield 51, 3) := pv_dec_of b52 (by decide +kernel)
theorem d52_32 : pv_dec 52 32 = some (.aload_n 0, 1) := pv_dec_of b52 (by decide +kernel)
theorem d52_33 : pv_dec 52 33 = some (.aload_n 1, 1) := pv_dec_of b52 (by decide +kernel)
theorem d52_34 : pv_dec 52 34 = some (.getfield 54, 3) := pv_dec_of b52 (by decide +kernel)
theorem d52_37 : pv_dec 52 37 = some (.putfield 54, 3) := pv_dec_of b52 (by decide +kernel)
theorem d52_40 : pv_dec 52 40 = some (.aload_n 0, 1) := pv_dec_of b52 (by decide +kernel)
theorem d52_41 : pv_dec 52 41 = some (.aload_n 1, 1) := pv_dec_of b52 (by decide +kernel)
theorem d52_42 : pv_dec 52 42 = some (.getfield 66, 3) := pv_dec_of b52 (by decide +kernel)
theorem d52_45 : pv_dec 52 45 = some (.putfield 66, 3) := pv_dec_of b52 (by decide +kernel)
theorem d52_48 : pv_dec 52 48 = some (.aload_n 0, 1) := pv_dec_of b52 (by decide +kernel)
theorem d52_49 : pv_dec 52 49 = some (.aload_n 1, 1) := pv_dec_of b52 (by decide +kernel)
theorem d52_50 : pv_dec 52 50 = some (.getfield 69, 3) := pv_dec_of b52 (by decide +kernel)
theorem d52_53 : pv_dec 52 53 = some (.putfield 69, 3) := pv_dec_of b52 (by decide +kernel)
theorem d52_56 : pv_dec 52 56 = some (.aload_n 1, 1) := pv_dec_of b52 (by decide +kernel)
theorem d52_57 : pv_dec 52 57 = some (.getfield 9, 3) := pv_dec_of b52 (by decide +kernel)
theorem d52_60 : pv_dec 52 60 = some (.iconst 0, 1) := pv_dec_of b52 (by decide +kernel)
theorem d52_61 : pv_dec 52 61 = some (.aload_n 0, 1) := pv_dec_of b52 (by decide +kernel)
theorem d52_62 : pv_dec 52 62 = some (.getfield 9, 3) := pv_dec_of b52 (by decide +kernel)
theorem d52_65 : pv_dec 52 65 = some (.iconst 0, 1) := pv_dec_of b52 (by decide +kernel)
theorem d52_66 : pv_dec 52 66 = some (.aload_n 0, 1) := pv_dec_of b52 (by decide +kernel)
theorem d52_67 : pv_dec 52 67 = some (.getfield 9, 3) := pv_dec_of b52 (by decide +kernel)
theorem d52_70 : pv_dec 52 70 = some (.arraylength, 1) := pv_dec_of b52 (by decide +kernel)
theorem d52_71 : pv_dec 52 71 = some (.invokestatic 72, 3) := pv_dec_of b52 (by decide +kernel)
theorem d52_74 : pv_dec 52 74 = some (.aload_n 1, 1) := pv_dec_of b52 (by decide +kernel)
theorem d52_75 : pv_dec 52 75 = some (.getfield 15, 3) := pv_dec_of b52 (by decide +kernel)
theorem d52_78 : pv_dec 52 78 = some (.iconst 0, 1) := pv_dec_of b52 (by decide +kernel)
theorem d52_79 : pv_dec 52 79 = some (.aload_n 0, 1) := pv_dec_of b52 (by decide +kernel)
theorem d52_80 : pv_dec 52 80 = some (.getfield 15, 3) := pv_dec_of b52 (by decide +kernel)
theorem d52_83 : pv_dec 52 83 = some (.iconst 0, 1) := pv_dec_of b52 (by decide +kernel)
theorem d52_84 : pv_dec 52 84 = some (.aload_n 0, 1) := pv_dec_of b52 (by decide +kernel)
theorem d52_85 : pv_dec 52 85 = some (.getfield 15, 3) := pv_dec_of b52 (by decide +kernel)
theorem d52_88 : pv_dec 52 88 = some (.arraylength, 1) := pv_dec_of b52 (by decide +kernel)
theorem d52_89 : pv_dec 52 89 = some (.invokestatic 72, 3) := pv_dec_of b52 (by decide +kernel)
theorem d52_92 : pv_dec 52 92 = some (.aload_n 1, 1) := pv_dec_of b52 (by decide +kernel)
theorem d52_93 : pv_dec 52 93 = some (.getfield 18, 3) := pv_dec_of b52 (by decide +kernel)
theorem d52_96 : pv_dec 52 96 = some (.iconst 0, 1) := pv_dec_of b52 (by decide +kernel)
theorem d52_97 : pv_dec 52 97 = some (.aload_n 0, 1) := pv_dec_of b52 (by decide +kernel)
theorem d52_98 : pv_dec 52 98 = some (.getfield 18, 3) := pv_dec_of b52 (by decide +kernel)
theorem d52_101 : pv_dec 52 101 = some (.iconst 0, 1) := pv_dec_of b52 (by decide +kernel)
theorem d52_102 : pv_dec 52 102 = some (.aload_n 0, 1) := pv_dec_of b52 (by decide +kernel)
theorem d52_103 : pv_dec 52 103 = some (.getfield 18, 3) := pv_dec_of b52 (by decide +kernel)
theorem d52_106 : pv_dec 52 106 = some (.arraylength, 1) := pv_dec_of b52 (by decide +kernel)
theorem d52_107 : pv_dec 52 107 = some (.invokestatic 72, 3) := pv_dec_of b52 (by decide +kernel)
theorem d52_110 : pv_dec 52 110 = some (.aload_n 1, 1) := pv_dec_of b52 (by decide +kernel)
theorem d52_111 : pv_dec 52 111 = some (.getfield 21, 3) := pv_dec_of b52 (by decide +kernel)
theorem d52_114 : pv_dec 52 114 = some (.iconst 0, 1) := pv_dec_of b52 (by decide +kernel)
theorem d52_115 : pv_dec 52 115 = some (.aload_n 0, 1) := pv_dec_of b52 (by decide +kernel)
theorem d52_116 : pv_dec 52 116 = some (.getfield 21, 3) := pv_dec_of b52 (by decide +kernel)
theorem d52_119 : pv_dec 52 119 = some (.iconst 0, 1) := pv_dec_of b52 (by decide +kernel)
theorem d52_120 : pv_dec 52 120 = some (.aload_n 0, 1) := pv_dec_of b52 (by decide +kernel)
theorem d52_121 : pv_dec 52 121 = some (.getfield 21, 3) := pv_dec_of b52 (by decide +kernel)
theorem d52_124 : pv_dec 52 124 = some (.arraylength, 1) := pv_dec_of b52 (by decide +kernel)
theorem d52_125 : pv_dec 52 125 = some (.invokestatic 72, 3) := pv_dec_of b52 (by decide +kernel)
theorem d52_128 : pv_dec 52 128 = some (.aload_n 1, 1) := pv_dec_of b52 (by decide +kernel)
theorem d52_129 : pv_dec 52 129 = some (.getfield 24, 3) := pv_dec_of b52 (by decide +kernel)
theorem d52_132 : pv_dec 52 132 = some (.iconst 0, 1) := pv_dec_of b52 (by decide +kernel)
theorem d52_133 : pv_dec 52 133 = some (.aload_n 0, 1) := pv_dec_of b52 (by decide +kernel)
theorem d52_134 : pv_dec 52 134 = some (.getfield 24, 3) := pv_dec_of b52 (by decide +kernel)
theorem d52_137 : pv_dec 52 137 = some (.iconst 0, 1) := pv_dec_of b52 (by decide +kernel)
theorem d52_138 : pv_dec 52 138 = some (.aload_n 0, 1) := pv_dec_of b52 (by decide +kernel)
theorem d52_139 : pv_dec 52 139 = some (.getfield 24, 3) := pv_dec_of b52 (by decide +kernel)
theorem d52_142 : pv_dec 52 142 = some (.arraylength, 1) := pv_dec_of b52 (by decide +kernel)
theorem d52_143 : pv_dec 52 143 = some (.invokestatic 72, 3) := pv_dec_of b52 (by decide +kernel)
theorem d52_146 : pv_dec 52 146 = some (.aload_n 1, 1) := pv_dec_of b52 (by decide +kernel)
theorem d52_147 : pv_dec 52 147 = some (.getfield 27, 3) := pv_dec_of b52 (by decide +kernel)
theorem d52_150 : pv_dec 52 150 = some (.iconst 0, 1) := pv_dec_of b52 (by decide +kernel)
theorem d52_151 : pv_dec 52 151 = some (.aload_n 0, 1) := pv_dec_of b52 (by decide +kernel)
theorem d52_152 : pv_dec 52 152 = some (.getfield 27, 3) := pv_dec_of b52 (by decide +kernel)
theorem d52_155 : pv_dec 52 155 = some (.iconst 0, 1) := pv_dec_of b52 (by decide +kernel)
theorem d52_156 : pv_dec 52 156 = some (.aload_n 0, 1) := pv_dec_of b52 (by decide +kernel)
theorem d52_157 : pv_dec 52 157 = some (.getfield 27, 3) := pv_dec_of b52 (by decide +kernel)
theorem d52_160 : pv_dec 52 160 = some (.arraylength, 1) := pv_dec_of b52 (by decide +kernel)
theorem d52_161 : pv_dec 52 161 = some (.invokestatic 72, 3) := pv_dec_of b52 (by decide +kernel)
theorem d52_164 : pv_dec 52 164 = some (.aload_n 1, 1) := pv_dec_of b52 (by decide +kernel)
theorem d52_165 : pv_dec 52 165 = some (.getfield 30, 3) := pv_dec_of b52 (by decide +kernel)
theorem d52_168 : pv_dec 52 168 = some (.iconst 0, 1) := pv_dec_of b52 (by decide +kernel)
theorem d52_169 : pv_dec 52 169 = some (.aload_n 0, 1) := pv_dec_of b52 (by decide +kernel)
theorem d52_170 : pv_dec 52 170 = some (.getfield 30, 3) := pv_dec_of b52 (by decide +kernel)
theorem d52_173 : pv_dec 52 173 = some (.iconst 0, 1) := pv_dec_of b52 (by decide +kernel)
theorem d52_174 : pv_dec 52 174 = some (.aload_n 0, 1) := pv_dec_of b52 (by decide +kernel)
theorem d52_175 : pv_dec 52 175 = some (.getfield 30, 3) := pv_dec_of b52 (by decide +kernel)
theorem d52_178 : pv_dec 52 178 = some (.arraylength, 1) := pv_dec_of b52 (by decide +kernel)
theorem d52_179 : pv_dec 52 179 = some (.invokestatic 72, 3) := pv_dec_of b52 (by decide +kernel)
theorem d52_182 : pv_dec 52 182 = some (.aload_n 1, 1) := pv_dec_of b52 (by decide +kernel)
theorem d52_183 : pv_dec 52 183 = some (.getfield 33, 3) := pv_dec_of b52 (by decide +kernel)
theorem d52_186 : pv_dec 52 186 = some (.iconst 0, 1) := pv_dec_of b52 (by decide +kernel)
theorem d52_187 : pv_dec 52 187 = some (.aload_n 0, 1) := pv_dec_of b52 (by decide +kernel)
theorem d52_188 : pv_dec 52 188 = some (.getfield 33, 3) := pv_dec_of b52 (by decide +kernel)
theorem d52_191 : pv_dec 52 191 = some (.iconst 0, 1) := pv_dec_of b52 (by decide +kernel)
theorem d52_192 : pv_dec 52 192 = some (.aload_n 0, 1) := pv_dec_of b52 (by decide +kernel)
theorem d52_193 : pv_dec 52 193 = some (.getfield 33, 3) := pv_dec_of b52 (by decide +kernel)
theorem d52_196 : pv_dec 52 196 = some (.arraylength, 1) := pv_dec_of b52 (by decide +kernel)
theorem d52_197 : pv_dec 52 197 = some (.invokestatic 72, 3) := pv_dec_of b52 (by decide +kernel)
theorem d52_200 : pv_dec 52 200 = some (.aload_n 1, 1) := pv_dec_of b52 (by decide +kernel)
theorem d52_201 : pv_dec 52 201 = some (.getfield 38, 3) := pv_dec_of b52 (by decide +kernel)
theorem d52_204 : pv_dec 52 204 = some (.iconst 0, 1) := pv_dec_of b52 (by decide +kernel)
theorem d52_205 : pv_dec 52 205 = some (.aload_n 0, 1) := pv_dec_of b52 (by decide +kernel)
theorem d52_206 : pv_dec 52 206 = some (.getfield 38, 3) := pv_dec_of b52 (by decide +kernel)
theorem d52_209 : pv_dec 52 209 = some (.iconst 0, 1) := pv_dec_of b52 (by decide +kernel)
theorem d52_210 : pv_dec 52 210 = some (.aload_n 0, 1) := pv_dec_of b52 (by decide +kernel)
theorem d52_211 : pv_dec 52 211 = some (.getfield 38, 3) := pv_dec_of b52 (by decide +kernel)
theorem d52_214 : pv_dec 52 214 = some (.arraylength, 1) := pv_dec_of b52 (by decide +kernel)
theorem d52_215 : pv_dec 52 215 = some (.invokestatic 72, 3) := pv_dec_of b52 (by decide +kernel)
theorem d52_218 : pv_dec 52 218 = some (.return_, 1) := pv_dec_of b52 (by decide +kernel)
theorem g52_9 : pv_gf 52 9 = some (2, 5) := pv_gfo_of o52 G1_9
theorem g52_15 : pv_gf 52 15 = some (2, 6) := pv_gfo_of o52 G1_15
theorem g52_18 : pv_gf 52 18 = some (2, 7) := pv_gfo_of o52 G1_18
theorem g52_21 : pv_gf 52 21 = some (2, 8) := pv_gfo_of o52 G1_21
theorem g52_24 : pv_gf 52 24 = some (2, 9) := pv_gfo_of o52 G1_24
theorem g52_27 : pv_gf 52 27 = some (2, 10) := pv_gfo_of o52 G1_27
theorem g52_30 : pv_gf 52 30 = some (2, 11) := pv_gfo_of o52 G1_30
theorem g52_33 : pv_gf 52 33 = some (2, 12) := pv_gfo_of o52 G1_33
theorem G1_38 : pv_gfo "AngleNet$Net" 38 = some (2, 13) := by decide +kernel
theorem g52_38 : pv_gf 52 38 = some (2, 13) := pv_gfo_of o52 G1_38
theorem g52_41 : pv_gf 52 41 = some (2, 0) := pv_gfo_of o52 G1_41
theorem g52_45 : pv_gf 52 45 = some (2, 1) := pv_gfo_of o52 G1_45
theorem g52_48 : pv_gf 52 48 = some (2, 2) := pv_gfo_of o52 G1_48
theorem g52_51 : pv_gf 52 51 = some (2, 3) := pv_gfo_of o52 G1_51
theorem g52_54 : pv_gf 52 54 = some (2, 4) := pv_gfo_of o52 G1_54
theorem g52_66 : pv_gf 52 66 = some (2, 14) := pv_gfo_of o52 G1_66
theorem g52_69 : pv_gf 52 69 = some (2, 15) := pv_gfo_of o52 G1_69
theorem k52_72 : pv_kC 52 72 = true := by decide +kernel
