theorem o94 : pv_own 94 = "AngleNet$Laying" := by decide +kernel
theorem b94 : pv_bc 94 = prog_6_method_2_code := pv_bcof (i := 94) rfl
theorem m94 : pv_mL 94 = 3 := by decide +kernel
theorem tt94 : pv_rt 94 = some .int := by decide +kernel
theorem d94_0 : pv_dec 94 0 = some (.iconst 0, 1) := pv_dec_of b94 (by decide +kernel)
theorem d94_1 : pv_dec 94 1 = some (.istore_n 1, 1) := pv_dec_of b94 (by decide +kernel)
theorem d94_2 : pv_dec 94 2 = some (.iconst 0, 1) := pv_dec_of b94 (by decide +kernel)
theorem d94_3 : pv_dec 94 3 = some (.istore_n 2, 1) := pv_dec_of b94 (by decide +kernel)
theorem d94_4 : pv_dec 94 4 = some (.iload_n 2, 1) := pv_dec_of b94 (by decide +kernel)
theorem d94_5 : pv_dec 94 5 = some (.aload_n 0, 1) := pv_dec_of b94 (by decide +kernel)
theorem d94_6 : pv_dec 94 6 = some (.getfield 21, 3) := pv_dec_of b94 (by decide +kernel)
theorem d94_9 : pv_dec 94 9 = some (.if_icmp .ge 29, 3) := pv_dec_of b94 (by decide +kernel)
theorem d94_12 : pv_dec 94 12 = some (.iload_n 1, 1) := pv_dec_of b94 (by decide +kernel)
theorem d94_13 : pv_dec 94 13 = some (.aload_n 0, 1) := pv_dec_of b94 (by decide +kernel)
theorem d94_14 : pv_dec 94 14 = some (.getfield 27, 3) := pv_dec_of b94 (by decide +kernel)
theorem d94_17 : pv_dec 94 17 = some (.iload_n 2, 1) := pv_dec_of b94 (by decide +kernel)
theorem d94_18 : pv_dec 94 18 = some (.iaload, 1) := pv_dec_of b94 (by decide +kernel)
theorem d94_19 : pv_dec 94 19 = some (.iconst (-1), 1) := pv_dec_of b94 (by decide +kernel)
theorem d94_20 : pv_dec 94 20 = some (.if_icmp .eq 9, 3) := pv_dec_of b94 (by decide +kernel)
theorem d94_23 : pv_dec 94 23 = some (.iconst 1, 1) := pv_dec_of b94 (by decide +kernel)
theorem d94_24 : pv_dec 94 24 = some (.iload_n 2, 1) := pv_dec_of b94 (by decide +kernel)
theorem d94_25 : pv_dec 94 25 = some (.ishl, 1) := pv_dec_of b94 (by decide +kernel)
theorem d94_26 : pv_dec 94 26 = some (.goto 4, 3) := pv_dec_of b94 (by decide +kernel)
theorem d94_29 : pv_dec 94 29 = some (.iconst 0, 1) := pv_dec_of b94 (by decide +kernel)
theorem d94_30 : pv_dec 94 30 = some (.ior, 1) := pv_dec_of b94 (by decide +kernel)
theorem d94_31 : pv_dec 94 31 = some (.istore_n 1, 1) := pv_dec_of b94 (by decide +kernel)
theorem d94_32 : pv_dec 94 32 = some (.iinc 2 1, 3) := pv_dec_of b94 (by decide +kernel)
theorem d94_35 : pv_dec 94 35 = some (.goto (-31), 3) := pv_dec_of b94 (by decide +kernel)
theorem d94_38 : pv_dec 94 38 = some (.iload_n 1, 1) := pv_dec_of b94 (by decide +kernel)
theorem d94_39 : pv_dec 94 39 = some (.ireturn, 1) := pv_dec_of b94 (by decide +kernel)
theorem G5_21 : pv_gfo "AngleNet$Laying" 21 = some (2, 0) := by decide +kernel
theorem g94_21 : pv_gf 94 21 = some (2, 0) := pv_gfo_of o94 G5_21
theorem G5_27 : pv_gfo "AngleNet$Laying" 27 = some (2, 7) := by decide +kernel
theorem g94_27 : pv_gf 94 27 = some (2, 7) := pv_gfo_of o94 G5_27
theorem o96 : pv_own 96 = "AngleNet$Laying" := by decide +kernel
theorem b96 : pv_bc 96 = prog_6_method_6_code := pv_bcof (i := 96) rfl
theorem m96 : pv_mL 96 = 3 := by decide +kernel
theorem tt96 : pv_rt 96 = some .int := by decide +kernel
theorem d96_0 : pv_dec 96 0 = some (.aload_n 0, 1) := pv_dec_of b96 (by decide +kernel)
theorem d96_1 : pv_dec 96 1 = some (.getfield 65, 3) := pv_dec_of b96 (by decide +kernel)
theorem d96_4 : pv_dec 96 4 = some (.iload_n 2, 1) := pv_dec_of b96 (by decide +kernel)
theorem d96_5 : pv_dec 96 5 = some (.imul, 1) := pv_dec_of b96 (by decide +kernel)
theorem d96_6 : pv_dec 96 6 = some (.aload_n 0, 1) := pv_dec_of b96 (by decide +kernel)
theorem d96_7 : pv_dec 96 7 = some (.getfield 66, 3) := pv_dec_of b96 (by decide +kernel)
theorem d96_10 : pv_dec 96 10 = some (.iload_n 1, 1) := pv_dec_of b96 (by decide +kernel)
theorem d96_11 : pv_dec 96 11 = some (.iaload, 1) := pv_dec_of b96 (by decide +kernel)
theorem d96_12 : pv_dec 96 12 = some (.aload_n 0, 1) := pv_dec_of b96 (by decide +kernel)
theorem d96_13 : pv_dec 96 13 = some (.getfield 69, 3) := pv_dec_of b96 (by decide +kernel)
theorem d96_16 : pv_dec 96 16 = some (.iconst 3, 1) := pv_dec_of b96 (by decide +kernel)
theorem d96_17 : pv_dec 96 17 = some (.iload_n 2, 1) := pv_dec_of b96 (by decide +kernel)
theorem d96_18 : pv_dec 96 18 = some (.isub, 1) := pv_dec_of b96 (by decide +kernel)
theorem d96_19 : pv_dec 96 19 = some (.imul, 1) := pv_dec_of b96 (by decide +kernel)
theorem d96_20 : pv_dec 96 20 = some (.isub, 1) := pv_dec_of b96 (by decide +kernel)
theorem d96_21 : pv_dec 96 21 = some (.invokestatic 70, 3) := pv_dec_of b96 (by decide +kernel)
theorem d96_24 : pv_dec 96 24 = some (.ireturn, 1) := pv_dec_of b96 (by decide +kernel)
theorem G5_65 : pv_gfo "AngleNet$Laying" 65 = some (2, 4) := by decide +kernel
theorem g96_65 : pv_gf 96 65 = some (2, 4) := pv_gfo_of o96 G5_65
theorem G5_66 : pv_gfo "AngleNet$Laying" 66 = some (2, 6) := by decide +kernel
theorem g96_66 : pv_gf 96 66 = some (2, 6) := pv_gfo_of o96 G5_66
theorem G5_69 : pv_gfo "AngleNet$Laying" 69 = some (2, 3) := by decide +kernel
theorem g96_69 : pv_gf 96 69 = some (2, 3) := pv_gfo_of o96 G5_69
theorem k96_70 : pv_kM 96 70 Lib.Math.min.name Lib.Math.min.code 2 (some .int) = true := by decide +kernel
theorem o98 : pv_own 98 = "AngleNet$Laying" := by decide +kernel
theorem b98 : pv_bc 98 = prog_6_method_7_code := pv_bcof (i := 98) rfl
theorem m98 : pv_mL 98 = 3 := by decide +kernel
theorem tt98 : pv_rt 98 = some .int := by decide +kernel
theorem d98_0 : pv_dec 98 0 = some (.aload_n 0, 1) := pv_dec_of b98 (by decide +kernel)
theorem d98_1 : pv_dec 98 1 = some (.getfield 69, 3) := pv_dec_of b98 (by decide +kernel)
theorem d98_4 : pv_dec 98 4 = some (.iload_n 2, 1) := pv_dec_of b98 (by decide +kernel)
theorem d98_5 : pv_dec 98 5 = some (.imul, 1) := pv_dec_of b98 (by decide +kernel)
theorem d98_6 : pv_dec 98 6 = some (.aload_n 0, 1) := pv_dec_of b98 (by decide +kernel)
theorem d98_7 : pv_dec 98 7 = some (.getfield 66, 3) := pv_dec_of b98 (by decide +kernel)
theorem d98_10 : pv_dec 98 10 = some (.iload_n 1, 1) := pv_dec_of b98 (by decide +kernel)
theorem d98_11 : pv_dec 98 11 = some (.iaload, 1) := pv_dec_of b98 (by decide +kernel)
theorem d98_12 : pv_dec 98 12 = some (.aload_n 0, 1) := pv_dec_of b98 (by decide +kernel)
theorem d98_13 : pv_dec 98 13 = some (.getfield 65, 3) := pv_dec_of b98 (by decide +kernel)
theorem d98_16 : pv_dec 98 16 = some (.iconst 3, 1) := pv_dec_of b98 (by decide +kernel)
theorem d98_17 : pv_dec 98 17 = some (.iload_n 2, 1) := pv_dec_of b98 (by decide +kernel)
theorem d98_18 : pv_dec 98 18 = some (.isub, 1) := pv_dec_of b98 (by decide +kernel)
theorem d98_19 : pv_dec 98 19 = some (.imul, 1) := pv_dec_of b98 (by decide +kernel)
theorem d98_20 : pv_dec 98 20 = some (.isub, 1) := pv_dec_of b98 (by decide +kernel)
theorem d98_21 : pv_dec 98 21 = some (.invokestatic 76, 3) := pv_dec_of b98 (by decide +kernel)
theorem d98_24 : pv_dec 98 24 = some (.ireturn, 1) := pv_dec_of b98 (by decide +kernel)
theorem g98_65 : pv_gf 98 65 = some (2, 4) := pv_gfo_of o98 G5_65
theorem g98_66 : pv_gf 98 66 = some (2, 6) := pv_gfo_of o98 G5_66
theorem g98_69 : pv_gf 98 69 = some (2, 3) := pv_gfo_of o98 G5_69
theorem k98_76 : pv_kM 98 76 Lib.Math.max.name Lib.Math.max.code 2 (some .int) = true := by decide +kernel
theorem o95 : pv_own 95 = "AngleNet$Laying" := by decide +kernel
theorem b95 : pv_bc 95 = prog_6_method_3_code := pv_bcof (i := 95) rfl
theorem m95 : pv_mL 95 = 4 := by decide +kernel
theorem tt95 : pv_rt 95 = some .int := by decide +kernel
theorem d95_0 : pv_dec 95 0 = some (.aload_n 0, 1) := pv_dec_of b95 (by decide +kernel)
theorem d95_1 : pv_dec 95 1 = some (.iconst 0, 1) := pv_dec_of b95 (by decide +kernel)
theorem d95_2 : pv_dec 95 2 = some (.putfield 30, 3) := pv_dec_of b95 (by decide +kernel)
theorem d95_5 : pv_dec 95 5 = some (.iconst 0, 1) := pv_dec_of b95 (by decide +kernel)
theorem d95_6 : pv_dec 95 6 = some (.istore_n 3, 1) := pv_dec_of b95 (by decide +kernel)
theorem d95_7 : pv_dec 95 7 = some (.iload_n 3, 1) := pv_dec_of b95 (by decide +kernel)
theorem d95_8 : pv_dec 95 8 = some (.aload_n 1, 1) := pv_dec_of b95 (by decide +kernel)
theorem d95_9 : pv_dec 95 9 = some (.getfield 21, 3) := pv_dec_of b95 (by decide +kernel)
theorem d95_12 : pv_dec 95 12 = some (.if_icmp .ge 37, 3) := pv_dec_of b95 (by decide +kernel)
theorem d95_15 : pv_dec 95 15 = some (.iload_n 2, 1) := pv_dec_of b95 (by decide +kernel)
theorem d95_16 : pv_dec 95 16 = some (.iload_n 3, 1) := pv_dec_of b95 (by decide +kernel)
theorem d95_17 : pv_dec 95 17 = some (.ishr, 1) := pv_dec_of b95 (by decide +kernel)
theorem d95_18 : pv_dec 95 18 = some (.iconst 1, 1) := pv_dec_of b95 (by decide +kernel)
theorem d95_19 : pv_dec 95 19 = some (.iand, 1) := pv_dec_of b95 (by decide +kernel)
theorem d95_20 : pv_dec 95 20 = some (.ifCond .eq 23, 3) := pv_dec_of b95 (by decide +kernel)
theorem d95_23 : pv_dec 95 23 = some (.aload_n 0, 1) := pv_dec_of b95 (by decide +kernel)
theorem d95_24 : pv_dec 95 24 = some (.getfield 9, 3) := pv_dec_of b95 (by decide +kernel)
theorem d95_27 : pv_dec 95 27 = some (.aload_n 0, 1) := pv_dec_of b95 (by decide +kernel)
theorem d95_28 : pv_dec 95 28 = some (.getfield 30, 3) := pv_dec_of b95 (by decide +kernel)
theorem d95_31 : pv_dec 95 31 = some (.iload_n 3, 1) := pv_dec_of b95 (by decide +kernel)
theorem d95_32 : pv_dec 95 32 = some (.iastore, 1) := pv_dec_of b95 (by decide +kernel)
theorem d95_33 : pv_dec 95 33 = some (.aload_n 0, 1) := pv_dec_of b95 (by decide +kernel)
theorem d95_34 : pv_dec 95 34 = some (.dup, 1) := pv_dec_of b95 (by decide +kernel)
theorem d95_35 : pv_dec 95 35 = some (.getfield 30, 3) := pv_dec_of b95 (by decide +kernel)
theorem d95_38 : pv_dec 95 38 = some (.iconst 1, 1) := pv_dec_of b95 (by decide +kernel)
theorem d95_39 : pv_dec 95 39 = some (.iadd, 1) := pv_dec_of b95 (by decide +kernel)
theorem d95_40 : pv_dec 95 40 = some (.putfield 30, 3) := pv_dec_of b95 (by decide +kernel)
theorem d95_43 : pv_dec 95 43 = some (.iinc 3 1, 3) := pv_dec_of b95 (by decide +kernel)
theorem d95_46 : pv_dec 95 46 = some (.goto (-39), 3) := pv_dec_of b95 (by decide +kernel)
theorem d95_49 : pv_dec 95 49 = some (.aload_n 0, 1) := pv_dec_of b95 (by decide +kernel)
theorem d95_50 : pv_dec 95 50 = some (.iconst 0, 1) := pv_dec_of b95 (by decide +kernel)
theorem d95_51 : pv_dec 95 51 = some (.putfield 33, 3) := pv_dec_of b95 (by decide +kernel)
theorem d95_54 : pv_dec 95 54 = some (.aload_n 0, 1) := pv_dec_of b95 (by decide +kernel)
theorem d95_55 : pv_dec 95 55 = some (.iconst 0, 1) := pv_dec_of b95 (by decide +kernel)
theorem d95_56 : pv_dec 95 56 = some (.putfield 36, 3) := pv_dec_of b95 (by decide +kernel)
theorem d95_59 : pv_dec 95 59 = some (.aload_n 0, 1) := pv_dec_of b95 (by decide +kernel)
theorem d95_60 : pv_dec 95 60 = some (.iconst 0, 1) := pv_dec_of b95 (by decide +kernel)
theorem d95_61 : pv_dec 95 61 = some (.putfield 39, 3) := pv_dec_of b95 (by decide +kernel)
theorem d95_64 : pv_dec 95 64 = some (.aload_n 0, 1) := pv_dec_of b95 (by decide +kernel)
theorem d95_65 : pv_dec 95 65 = some (.iconst 0, 1) := pv_dec_of b95 (by decide +kernel)
theorem d95_66 : pv_dec 95 66 = some (.putfield 42, 3) := pv_dec_of b95 (by decide +kernel)
theorem d95_69 : pv_dec 95 69 = some (.iconst 0, 1) := pv_dec_of b95 (by decide +kernel)
theorem d95_70 : pv_dec 95 70 = some (.istore_n 3, 1) := pv_dec_of b95 (by decide +kernel)
theorem d95_71 : pv_dec 95 71 = some (.iload_n 3, 1) := pv_dec_of b95 (by decide +kernel)
theorem d95_72 : pv_dec 95 72 = some (.aload_n 1, 1) := pv_dec_of b95 (by decide +kernel)
theorem d95_73 : pv_dec 95 73 = some (.getfield 45, 3) := pv_dec_of b95 (by decide +kernel)
theorem d95_76 : pv_dec 95 76 = some (.if_icmp .ge 57, 3) := pv_dec_of b95 (by decide +kernel)
theorem d95_79 : pv_dec 95 79 = some (.aload_n 0, 1) := pv_dec_of b95 (by decide +kernel)
theorem d95_80 : pv_dec 95 80 = some (.getfield 15, 3) := pv_dec_of b95 (by decide +kernel)
theorem d95_83 : pv_dec 95 83 = some (.iload_n 3, 1) := pv_dec_of b95 (by decide +kernel)
theorem d95_84 : pv_dec 95 84 = some (.aload_n 1, 1) := pv_dec_of b95 (by decide +kernel)
theorem d95_85 : pv_dec 95 85 = some (.iload_n 3, 1) := pv_dec_of b95 (by decide +kernel)
theorem d95_86 : pv_dec 95 86 = some (.invokevirtual 48, 3) := pv_dec_of b95 (by decide +kernel)
theorem d95_89 : pv_dec 95 89 = some (.iastore, 1) := pv_dec_of b95 (by decide +kernel)
theorem d95_90 : pv_dec 95 90 = some (.aload_n 0, 1) := pv_dec_of b95 (by decide +kernel)
theorem d95_91 : pv_dec 95 91 = some (.getfield 18, 3) := pv_dec_of b95 (by decide +kernel)
theorem d95_94 : pv_dec 95 94 = some (.iload_n 3, 1) := pv_dec_of b95 (by decide +kernel)
theorem d95_95 : pv_dec 95 95 = some (.iconst 0, 1) := pv_dec_of b95 (by decide +kernel)
theorem d95_96 : pv_dec 95 96 = some (.iastore, 1) := pv_dec_of b95 (by decide +kernel)
theorem d95_97 : pv_dec 95 97 = some (.aload_n 0, 1) := pv_dec_of b95 (by decide +kernel)
theorem d95_98 : pv_dec 95 98 = some (.dup, 1) := pv_dec_of b95 (by decide +kernel)
theorem d95_99 : pv_dec 95 99 = some (.getfield 36, 3) := pv_dec_of b95 (by decide +kernel)
theorem d95_102 : pv_dec 95 102 = some (.aload_n 1, 1) := pv_dec_of b95 (by decide +kernel)
theorem d95_103 : pv_dec 95 103 = some (.iload_n 3, 1) := pv_dec_of b95 (by decide +kernel)
theorem d95_104 : pv_dec 95 104 = some (.iconst 0, 1) := pv_dec_of b95 (by decide +kernel)
theorem d95_105 : pv_dec 95 105 = some (.invokestatic 51, 3) := pv_dec_of b95 (by decide +kernel)
theorem d95_108 : pv_dec 95 108 = some (.iadd, 1) := pv_dec_of b95 (by decide +kernel)
theorem d95_109 : pv_dec 95 109 = some (.putfield 36, 3) := pv_dec_of b95 (by decide +kernel)
theorem d95_112 : pv_dec 95 112 = some (.aload_n 0, 1) := pv_dec_of b95 (by decide +kernel)
theorem d95_113 : pv_dec 95 113 = some (.dup, 1) := pv_dec_of b95 (by decide +kernel)
theorem d95_114 : pv_dec 95 114 = some (.getfield 39, 3) := pv_dec_of b95 (by decide +kernel)
theorem d95_117 : pv_dec 95 117 = some (.aload_n 1, 1) := pv_dec_of b95 (by decide +kernel)
theorem d95_118 : pv_dec 95 118 = some (.iload_n 3, 1) := pv_dec_of b95 (by decide +kernel)
theorem d95_119 : pv_dec 95 119 = some (.iconst 0, 1) := pv_dec_of b95 (by decide +kernel)
theorem d95_120 : pv_dec 95 120 = some (.invokestatic 55, 3) := pv_dec_of b95 (by decide +kernel)
theorem d95_123 : pv_dec 95 123 = some (.iadd, 1) := pv_dec_of b95 (by decide +kernel)
theorem d95_124 : pv_dec 95 124 = some (.putfield 39, 3) := pv_dec_of b95 (by decide +kernel)
theorem d95_127 : pv_dec 95 127 = some (.iinc 3 1, 3) := pv_dec_of b95 (by decide +kernel)
theorem d95_130 : pv_dec 95 130 = some (.goto (-59), 3) := pv_dec_of b95 (by decide +kernel)
theorem d95_133 : pv_dec 95 133 = some (.iconst 1, 1) := pv_dec_of b95 (by decide +kernel)
theorem d95_134 : pv_dec 95 134 = some (.aload_n 0, 1) := pv_dec_of b95 (by decide +kernel)
theorem d95_135 : pv_dec 95 135 = some (.getfield 30, 3) := pv_dec_of b95 (by decide +kernel)
theorem d95_138 : pv_dec 95 138 = some (.ishl, 1) := pv_dec_of b95 (by decide +kernel)
theorem d95_139 : pv_dec 95 139 = some (.ireturn, 1) := pv_dec_of b95 (by decide +kernel)
theorem G5_9 : pv_gfo "AngleNet$Laying" 9 = some (5, 0) := by decide +kernel
theorem g95_9 : pv_gf 95 9 = some (5, 0) := pv_gfo_of o95 G5_9
theorem G5_15 : pv_gfo "AngleNet$Laying" 15 = some (5, 1) := by decide +kernel
theorem g95_15 : pv_gf 95 15 = some (5, 1) := pv_gfo_of o95 G5_15
theorem G5_18 : pv_gfo "AngleNet$Laying" 18 = some (5, 2) := by decide +kernel
theorem g95_18 : pv_gf 95 18 = some (5, 2) := pv_gfo_of o95 G5_18
theorem g95_21 : pv_gf 95 21 = some (2, 0) := pv_gfo_of o95 G5_21
theorem G5_30 : pv_gfo "AngleNet$Laying" 30 = some (5, 3) := by decide +kernel
theorem g95_30 : pv_gf 95 30 = some (5, 3) := pv_gfo_of o95 G5_30
theorem G5_33 : pv_gfo "AngleNet$Laying" 33 = some (5, 4) := by decide +kernel
theorem g95_33 : pv_gf 95 33 = some (5, 4) := pv_gfo_of o95 G5_33
theorem G5_36 : pv_gfo "AngleNet$Laying" 36 = some (5, 5) := by decide +kernel
theorem g95_36 : pv_gf 95 36 = some (5, 5) := pv_gfo_of o95 G5_36
theorem G5_39 : pv_gfo "AngleNet$Laying" 39 = some (5, 6) := by decide +kernel
theorem g95_39 : pv_gf 95 39 = some (5, 6) := pv_gfo_of o95 G5_39
theorem G5_42 : pv_gfo "AngleNet$Laying" 42 = some (5, 7) := by decide +kernel
theorem g95_42 : pv_gf 95 42 = some (5, 7) := pv_gfo_of o95 G5_42
theorem G5_45 : pv_gfo "AngleNet$Laying" 45 = some (2, 1) := by decide +kernel
theorem g95_45 : pv_gf 95 45 = some (2, 1) := pv_gfo_of o95 G5_45
theorem w5_3 : pv_ft 5 3 = some .int := by decide +kernel
theorem w5_4 : pv_ft 5 4 = some .int := by decide +kernel
theorem w5_5 : pv_ft 5 5 = some .int := by decide +kernel
theorem w5_6 : pv_ft 5 6 = some .int := by decide +kernel
theorem w5_7 : pv_ft 5 7 = some .int := by decide +kernel
theorem Y5_48 : pv_mlo "AngleNet$Laying" 48 = some (⟨"AngleNet$Net", "postsOf", "(I)I"⟩, none) := by decide +kernel
theorem k95_48 : pv_kV 95 48 40 2 1 2 := pv_kV_of o95 Y5_48 V40 (by decide +kernel)
theorem Y5_51 : pv_mlo "AngleNet$Laying" 51 = some (⟨"AngleNet$Laying", "mostOf", "(LAngleNet$Net;II)I"⟩, none) := by decide +kernel
theorem Z96 : pv_cS 96 3 3 ⟨"AngleNet$Laying", "mostOf", "(LAngleNet$Net;II)I"⟩ = true := by decide +kernel
theorem k95_51 : pv_kS 95 51 96 3 3 := pv_kS_of o95 Y5_51 Z96 (by decide +kernel)
theorem Y5_55 : pv_mlo "AngleNet$Laying" 55 = some (⟨"AngleNet$Laying", "leastOf", "(LAngleNet$Net;II)I"⟩, none) := by decide +kernel
theorem Z98 : pv_cS 98 3 3 ⟨"AngleNet$Laying", "leastOf", "(LAngleNet$Net;II)I"⟩ = true := by decide +kernel
theorem k95_55 : pv_kS 95 55 98 3 3 := pv_kS_of o95 Y5_55 Z98 (by decide +kernel)
theorem o100 : pv_own 100 = "AngleNet$Laying" := by decide +kernel
theorem b100 : pv_bc 100 = prog_6_method_5_code := pv_bcof (i := 100) rfl
theorem m100 : pv_mL 100 = 6 := by decide +kernel
theorem tt100 : pv_rt 100 = none := by decide +kernel
theorem d100_0 : pv_dec 100 0 = some (.iconst 0, 1) := pv_dec_of b100 (by decide +kernel)
theorem d100_1 : pv_dec 100 1 = some (.istore 4, 2) := pv_dec_of b100 (by decide +kernel)
theorem d100_3 : pv_dec 100 3 = some (.iload 4, 2) := pv_dec_of b100 (by decide +kernel)
theorem d100_5 : pv_dec 100 5 = some (.aload_n 1, 1) := pv_dec_of b100 (by decide +kernel)
theorem d100_6 : pv_dec 100 6 = some (.getfield 45, 3) := pv_dec_of b100 (by decide +kernel)
theorem d100_9 : pv_dec 100 9 = some (.if_icmp .ge 99, 3) := pv_dec_of b100 (by decide +kernel)
theorem d100_12 : pv_dec 100 12 = some (.aload_n 0, 1) := pv_dec_of b100 (by decide +kernel)
theorem d100_13 : pv_dec 100 13 = some (.getfield 15, 3) := pv_dec_of b100 (by decide +kernel)
theorem d100_16 : pv_dec 100 16 = some (.iload 4, 2) := pv_dec_of b100 (by decide +kernel)
theorem d100_18 : pv_dec 100 18 = some (.iaload, 1) := pv_dec_of b100 (by decide +kernel)
theorem d100_19 : pv_dec 100 19 = some (.iload_n 2, 1) := pv_dec_of b100 (by decide +kernel)
theorem d100_20 : pv_dec 100 20 = some (.ishr, 1) := pv_dec_of b100 (by decide +kernel)
theorem d100_21 : pv_dec 100 21 = some (.iconst 1, 1) := pv_dec_of b100 (by decide +kernel)
theorem d100_22 : pv_dec 100 22 = some (.iand, 1) := pv_dec_of b100 (by decide +kernel)
theorem d100_23 : pv_dec 100 23 = some (.ifCond .eq 79, 3) := pv_dec_of b100 (by decide +kernel)
theorem d100_26 : pv_dec 100 26 = some (.aload_n 0, 1) := pv_dec_of b100 (by decide +kernel)
theorem d100_27 : pv_dec 100 27 = some (.getfield 18, 3) := pv_dec_of b100 (by decide +kernel)
theorem d100_30 : pv_dec 100 30 = some (.iload 4, 2) := pv_dec_of b100 (by decide +kernel)
theorem d100_32 : pv_dec 100 32 = some (.iaload, 1) := pv_dec_of b100 (by decide +kernel)
theorem d100_33 : pv_dec 100 33 = some (.istore 5, 2) := pv_dec_of b100 (by decide +kernel)
theorem d100_35 : pv_dec 100 35 = some (.aload_n 0, 1) := pv_dec_of b100 (by decide +kernel)
theorem d100_36 : pv_dec 100 36 = some (.dup, 1) := pv_dec_of b100 (by decide +kernel)
theorem d100_37 : pv_dec 100 37 = some (.getfield 36, 3) := pv_dec_of b100 (by decide +kernel)
theorem d100_40 : pv_dec 100 40 = some (.aload_n 1, 1) := pv_dec_of b100 (by decide +kernel)
theorem d100_41 : pv_dec 100 41 = some (.iload 4, 2) := pv_dec_of b100 (by decide +kernel)
theorem d100_43 : pv_dec 100 43 = some (.iload 5, 2) := pv_dec_of b100 (by decide +kernel)
theorem d100_45 : pv_dec 100 45 = some (.iload_n 3, 1) := pv_dec_of b100 (by decide +kernel)
theorem d100_46 : pv_dec 100 46 = some (.iadd, 1) := pv_dec_of b100 (by decide +kernel)
theorem d100_47 : pv_dec 100 47 = some (.invokestatic 51, 3) := pv_dec_of b100 (by decide +kernel)
theorem d100_50 : pv_dec 100 50 = some (.aload_n 1, 1) := pv_dec_of b100 (by decide +kernel)
theorem d100_51 : pv_dec 100 51 = some (.iload 4, 2) := pv_dec_of b100 (by decide +kernel)
theorem d100_53 : pv_dec 100 53 = some (.iload 5, 2) := pv_dec_of b100 (by decide +kernel)
theorem d100_55 : pv_dec 100 55 = some (.invokestatic 51, 3) := pv_dec_of b100 (by decide +kernel)
theorem d100_58 : pv_dec 100 58 = some (.isub, 1) := pv_dec_of b100 (by decide +kernel)
theorem d100_59 : pv_dec 100 59 = some (.iadd, 1) := pv_dec_of b100 (by decide +kernel)
theorem d100_60 : pv_dec 100 60 = some (.putfield 36, 3) := pv_dec_of b100 (by decide +kernel)
theorem d100_63 : pv_dec 100 63 = some (.aload_n 0, 1) := pv_dec_of b100 (by decide +kernel)
theorem d100_64 : pv_dec 100 64 = some (.dup, 1) := pv_dec_of b100 (by decide +kernel)
theorem d100_65 : pv_dec 100 65 = some (.getfield 39, 3) := pv_dec_of b100 (by decide +kernel)
theorem d100_68 : pv_dec 100 68 = some (.aload_n 1, 1) := pv_dec_of b100 (by decide +kernel)
theorem d100_69 : pv_dec 100 69 = some (.iload 4, 2) := pv_dec_of b100 (by decide +kernel)
theorem d100_71 : pv_dec 100 71 = some (.iload 5, 2) := pv_dec_of b100 (by decide +kernel)
theorem d100_73 : pv_dec 100 73 = some (.iload_n 3, 1) := pv_dec_of b100 (by decide +kernel)
theorem d100_74 : pv_dec 100 74 = some (.iadd, 1) := pv_dec_of b100 (by decide +kernel)
theorem d100_75 : pv_dec 100 75 = some (.invokestatic 55, 3) := pv_dec_of b100 (by decide +kernel)
theorem d100_78 : pv_dec 100 78 = some (.aload_n 1, 1) := pv_dec_of b100 (by decide +kernel)
theorem d100_79 : pv_dec 100 79 = some (.iload 4, 2) := pv_dec_of b100 (by decide +kernel)
theorem d100_81 : pv_dec 100 81 = some (.iload 5, 2) := pv_dec_of b100 (by decide +kernel)
theorem d100_83 : pv_dec 100 83 = some (.invokestatic 55, 3) := pv_dec_of b100 (by decide +kernel)
theorem d100_86 : pv_dec 100 86 = some (.isub, 1) := pv_dec_of b100 (by decide +kernel)
theorem d100_87 : pv_dec 100 87 = some (.iadd, 1) := pv_dec_of b100 (by decide +kernel)
theorem d100_88 : pv_dec 100 88 = some (.putfield 39, 3) := pv_dec_of b100 (by decide +kernel)
theorem d100_91 : pv_dec 100 91 = some (.aload_n 0, 1) := pv_dec_of b100 (by decide +kernel)
theorem d100_92 : pv_dec 100 92 = some (.getfield 18, 3) := pv_dec_of b100 (by decide +kernel)
theorem d100_95 : pv_dec 100 95 = some (.iload 4, 2) := pv_dec_of b100 (by decide +kernel)
theorem d100_97 : pv_dec 100 97 = some (.iload 5, 2) := pv_dec_of b100 (by decide +kernel)
theorem d100_99 : pv_dec 100 99 = some (.iload_n 3, 1) := pv_dec_of b100 (by decide +kernel)
theorem d100_100 : pv_dec 100 100 = some (.iadd, 1) := pv_dec_of b100 (by decide +kernel)
theorem d100_101 : pv_dec 100 101 = some (.iastore, 1) := pv_dec_of b100 (by decide +kernel)
theorem d100_102 : pv_dec 100 102 = some (.iinc 4 1, 3) := pv_dec_of b100 (by decide +kernel)
theorem d100_105 : pv_dec 100 105 = some (.goto (-102), 3) := pv_dec_of b100 (by decide +kernel)
theorem d100_108 : pv_dec 100 108 = some (.return_, 1) := pv_dec_of b100 (by decide +kernel)
theorem g100_15 : pv_gf 100 15 = some (5, 1) := pv_gfo_of o100 G5_15
theorem g100_18 : pv_gf 100 18 = some (5, 2) := pv_gfo_of o100 G5_18
theorem g100_36 : pv_gf 100 36 = some (5, 5) := pv_gfo_of o100 G5_36
theorem g100_39 : pv_gf 100 39 = some (5, 6) := pv_gfo_of o100 G5_39
theorem g100_45 : pv_gf 100 45 = some (2, 1) := pv_gfo_of o100 G5_45
theorem k100_51 : pv_kS 100 51 96 3 3 := pv_kS_of o100 Y5_51 Z96 (by decide +kernel)
theorem k100_55 : pv_kS 100 55 98 3 3 := pv_kS_of o100 Y5_55 Z98 (by decide +kernel)
theorem o99 : pv_own 99 = "AngleNet$Laying" := by decide +kernel
theorem b99 : pv_bc 99 = prog_6_method_4_code := pv_bcof (i := 99) rfl
theorem m99 : pv_mL 99 = 6 := by decide +kernel
theorem tt99 : pv_rt 99 = none := by decide +kernel
theorem d99_0 : pv_dec 99 0 = some (.iload_n 2, 1) := pv_dec_of b99 (by decide +kernel)
theorem d99_1 : pv_dec 99 1 = some (.invokestatic 58, 3) := pv_dec_of b99 (by decide +kernel)
theorem d99_4 : pv_dec 99 4 = some (.istore_n 3, 1) := pv_dec_of b99 (by decide +kernel)
theorem d99_5 : pv_dec 99 5 = some (.iload_n 3, 1) := pv_dec_of b99 (by decide +kernel)
theorem d99_6 : pv_dec 99 6 = some (.ifCond .lt 11, 3) := pv_dec_of b99 (by decide +kernel)
theorem d99_9 : pv_dec 99 9 = some (.iload_n 3, 1) := pv_dec_of b99 (by decide +kernel)
theorem d99_10 : pv_dec 99 10 = some (.aload_n 0, 1) := pv_dec_of b99 (by decide +kernel)
theorem d99_11 : pv_dec 99 11 = some (.getfield 30, 3) := pv_dec_of b99 (by decide +kernel)
theorem d99_14 : pv_dec 99 14 = some (.if_icmp .lt 4, 3) := pv_dec_of b99 (by decide +kernel)
theorem d99_17 : pv_dec 99 17 = some (.return_, 1) := pv_dec_of b99 (by decide +kernel)
theorem d99_18 : pv_dec 99 18 = some (.aload_n 0, 1) := pv_dec_of b99 (by decide +kernel)
theorem d99_19 : pv_dec 99 19 = some (.getfield 9, 3) := pv_dec_of b99 (by decide +kernel)
theorem d99_22 : pv_dec 99 22 = some (.iload_n 3, 1) := pv_dec_of b99 (by decide +kernel)
theorem d99_23 : pv_dec 99 23 = some (.iaload, 1) := pv_dec_of b99 (by decide +kernel)
theorem d99_24 : pv_dec 99 24 = some (.istore 4, 2) := pv_dec_of b99 (by decide +kernel)
theorem d99_26 : pv_dec 99 26 = some (.aload_n 0, 1) := pv_dec_of b99 (by decide +kernel)
theorem d99_27 : pv_dec 99 27 = some (.getfield 33, 3) := pv_dec_of b99 (by decide +kernel)
theorem d99_30 : pv_dec 99 30 = some (.iload 4, 2) := pv_dec_of b99 (by decide +kernel)
theorem d99_32 : pv_dec 99 32 = some (.ishr, 1) := pv_dec_of b99 (by decide +kernel)
theorem d99_33 : pv_dec 99 33 = some (.iconst 1, 1) := pv_dec_of b99 (by decide +kernel)
theorem d99_34 : pv_dec 99 34 = some (.iand, 1) := pv_dec_of b99 (by decide +kernel)
theorem d99_35 : pv_dec 99 35 = some (.ifCond .ne 7, 3) := pv_dec_of b99 (by decide +kernel)
theorem d99_38 : pv_dec 99 38 = some (.iconst 1, 1) := pv_dec_of b99 (by decide +kernel)
theorem d99_39 : pv_dec 99 39 = some (.goto 4, 3) := pv_dec_of b99 (by decide +kernel)
theorem d99_42 : pv_dec 99 42 = some (.iconst (-1), 1) := pv_dec_of b99 (by decide +kernel)
theorem d99_43 : pv_dec 99 43 = some (.istore 5, 2) := pv_dec_of b99 (by decide +kernel)
theorem d99_45 : pv_dec 99 45 = some (.aload_n 0, 1) := pv_dec_of b99 (by decide +kernel)
theorem d99_46 : pv_dec 99 46 = some (.dup, 1) := pv_dec_of b99 (by decide +kernel)
theorem d99_47 : pv_dec 99 47 = some (.getfield 33, 3) := pv_dec_of b99 (by decide +kernel)
theorem d99_50 : pv_dec 99 50 = some (.iconst 1, 1) := pv_dec_of b99 (by decide +kernel)
theorem d99_51 : pv_dec 99 51 = some (.iload 4, 2) := pv_dec_of b99 (by decide +kernel)
theorem d99_53 : pv_dec 99 53 = some (.ishl, 1) := pv_dec_of b99 (by decide +kernel)
theorem d99_54 : pv_dec 99 54 = some (.ixor, 1) := pv_dec_of b99 (by decide +kernel)
theorem d99_55 : pv_dec 99 55 = some (.putfield 33, 3) := pv_dec_of b99 (by decide +kernel)
theorem d99_58 : pv_dec 99 58 = some (.aload_n 0, 1) := pv_dec_of b99 (by decide +kernel)
theorem d99_59 : pv_dec 99 59 = some (.dup, 1) := pv_dec_of b99 (by decide +kernel)
theorem d99_60 : pv_dec 99 60 = some (.getfield 42, 3) := pv_dec_of b99 (by decide +kernel)
theorem d99_63 : pv_dec 99 63 = some (.iload 5, 2) := pv_dec_of b99 (by decide +kernel)
theorem d99_65 : pv_dec 99 65 = some (.aload_n 1, 1) := pv_dec_of b99 (by decide +kernel)
theorem d99_66 : pv_dec 99 66 = some (.getfield 27, 3) := pv_dec_of b99 (by decide +kernel)
theorem d99_69 : pv_dec 99 69 = some (.iload 4, 2) := pv_dec_of b99 (by decide +kernel)
theorem d99_71 : pv_dec 99 71 = some (.iaload, 1) := pv_dec_of b99 (by decide +kernel)
theorem d99_72 : pv_dec 99 72 = some (.imul, 1) := pv_dec_of b99 (by decide +kernel)
theorem d99_73 : pv_dec 99 73 = some (.iadd, 1) := pv_dec_of b99 (by decide +kernel)
theorem d99_74 : pv_dec 99 74 = some (.putfield 42, 3) := pv_dec_of b99 (by decide +kernel)
theorem d99_77 : pv_dec 99 77 = some (.aload_n 0, 1) := pv_dec_of b99 (by decide +kernel)
theorem d99_78 : pv_dec 99 78 = some (.aload_n 1, 1) := pv_dec_of b99 (by decide +kernel)
theorem d99_79 : pv_dec 99 79 = some (.iload 4, 2) := pv_dec_of b99 (by decide +kernel)
theorem d99_81 : pv_dec 99 81 = some (.iload 5, 2) := pv_dec_of b99 (by decide +kernel)
theorem d99_83 : pv_dec 99 83 = some (.invokevirtual 61, 3) := pv_dec_of b99 (by decide +kernel)
theorem d99_86 : pv_dec 99 86 = some (.return_, 1) := pv_dec_of b99 (by decide +kernel)
theorem g99_9 : pv_gf 99 9 = some (5, 0) := pv_gfo_of o99 G5_9
theorem g99_27 : pv_gf 99 27 = some (2, 7) := pv_gfo_of o99 G5_27
theorem g99_30 : pv_gf 99 30 = some (5, 3) := pv_gfo_of o99 G5_30
theorem g99_33 : pv_gf 99 33 = some (5, 4) := pv_gfo_of o99 G5_33
theorem g99_42 : pv_gf 99 42 = some (5, 7) := pv_gfo_of o99 G5_42
theorem Y5_58 : pv_mlo "AngleNet$Laying" 58 = some (⟨"AngleNet", "lowestBit", "(I)I"⟩, some "AngleNet") := by decide +kernel
theorem k99_58 : pv_kS 99 58 76 1 2 := pv_kS_of o99 Y5_58 Z76 (by decide +kernel)
theorem Y5_61 : pv_mlo "AngleNet$Laying" 61 = some (⟨"AngleNet$Laying", "move", "(LAngleNet$Net;II)V"⟩, none) := by decide +kernel
theorem V100 : pv_cV 100 5 3 6 ⟨"AngleNet$Laying", "move", "(LAngleNet$Net;II)V"⟩ = true := by decide +kernel
theorem k99_61 : pv_kV 99 61 100 5 3 6 := pv_kV_of o99 Y5_61 V100 (by decide +kernel)
theorem o101 : pv_own 101 = "AngleNet$Laying" := by decide +kernel
theorem b101 : pv_bc 101 = prog_6_method_8_code := pv_bcof (i := 101) rfl
theorem m101 : pv_mL 101 = 1 := by decide +kernel
theorem tt101 : pv_rt 101 = some .int := by decide +kernel
theorem d101_0 : pv_dec 101 0 = some (.aload_n 0, 1) := pv_dec_of b101 (by decide +kernel)
theorem d101_1 : pv_dec 101 1 = some (.getfield 42, 3) := pv_dec_of b101 (by decide +kernel)
theorem d101_4 : pv_dec 101 4 = some (.aload_n 0, 1) := pv_dec_of b101 (by decide +kernel)
theorem d101_5 : pv_dec 101 5 = some (.getfield 36, 3) := pv_dec_of b101 (by decide +kernel)
theorem d101_8 : pv_dec 101 8 = some (.if_icmp .le 5, 3) := pv_dec_of b101 (by decide +kernel)
theorem d101_11 : pv_dec 101 11 = some (.iconst 1, 1) := pv_dec_of b101 (by decide +kernel)
theorem d101_12 : pv_dec 101 12 = some (.ireturn, 1) := pv_dec_of b101 (by decide +kernel)
theorem d101_13 : pv_dec 101 13 = some (.aload_n 0, 1) := pv_dec_of b101 (by decide +kernel)
theorem d101_14 : pv_dec 101 14 = some (.getfield 42, 3) := pv_dec_of b101 (by decide +kernel)
theorem d101_17 : pv_dec 101 17 = some (.aload_n 0, 1) := pv_dec_of b101 (by decide +kernel)
theorem d101_18 : pv_dec 101 18 = some (.getfield 39, 3) := pv_dec_of b101 (by decide +kernel)
theorem d101_21 : pv_dec 101 21 = some (.if_icmp .ge 7, 3) := pv_dec_of b101 (by decide +kernel)
theorem d101_24 : pv_dec 101 24 = some (.iconst 2, 1) := pv_dec_of b101 (by decide +kernel)
theorem d101_25 : pv_dec 101 25 = some (.goto 4, 3) := pv_dec_of b101 (by decide +kernel)
theorem d101_28 : pv_dec 101 28 = some (.iconst 0, 1) := pv_dec_of b101 (by decide +kernel)
theorem d101_29 : pv_dec 101 29 = some (.ireturn, 1) := pv_dec_of b101 (by decide +kernel)
theorem g101_36 : pv_gf 101 36 = some (5, 5) := pv_gfo_of o101 G5_36
theorem g101_39 : pv_gf 101 39 = some (5, 6) := pv_gfo_of o101 G5_39
theorem g101_42 : pv_gf 101 42 = some (5, 7) := pv_gfo_of o101 G5_42
theorem o93 : pv_own 93 = "AngleNet$Laying" := by decide +kernel
theorem b93 : pv_bc 93 = prog_6_method_9_code := pv_bcof (i := 93) rfl
theorem m93 : pv_mL 93 = 5 := by decide +kernel
theorem tt93 : pv_rt 93 = some .int := by decide +kernel
theorem d93_0 : pv_dec 93 0 = some (.aload_n 0, 1) := pv_dec_of b93 (by decide +kernel)
theorem d93_1 : pv_dec 93 1 = some (.aload_n 1, 1) := pv_dec_of b93 (by decide +kernel)
theorem d93_2 : pv_dec 93 2 = some (.aload_n 1, 1) := pv_dec_of b93 (by decide +kernel)
theorem d93_3 : pv_dec 93 3 = some (.invokestatic 79, 3) := pv_dec_of b93 (by decide +kernel)
theorem d93_6 : pv_dec 93 6 = some (.invokevirtual 83, 3) := pv_dec_of b93 (by decide +kernel)
theorem d93_9 : pv_dec 93 9 = some (.istore_n 2, 1) := pv_dec_of b93 (by decide +kernel)
theorem d93_10 : pv_dec 93 10 = some (.iconst (-1), 1) := pv_dec_of b93 (by decide +kernel)
theorem d93_11 : pv_dec 93 11 = some (.istore_n 3, 1) := pv_dec_of b93 (by decide +kernel)
theorem d93_12 : pv_dec 93 12 = some (.iconst 0, 1) := pv_dec_of b93 (by decide +kernel)
theorem d93_13 : pv_dec 93 13 = some (.istore 4, 2) := pv_dec_of b93 (by decide +kernel)
theorem d93_15 : pv_dec 93 15 = some (.iload 4, 2) := pv_dec_of b93 (by decide +kernel)
theorem d93_17 : pv_dec 93 17 = some (.iload_n 2, 1) := pv_dec_of b93 (by decide +kernel)
theorem d93_18 : pv_dec 93 18 = some (.if_icmp .ge 55, 3) := pv_dec_of b93 (by decide +kernel)
theorem d93_21 : pv_dec 93 21 = some (.aload_n 0, 1) := pv_dec_of b93 (by decide +kernel)
theorem d93_22 : pv_dec 93 22 = some (.aload_n 1, 1) := pv_dec_of b93 (by decide +kernel)
theorem d93_23 : pv_dec 93 23 = some (.iload 4, 2) := pv_dec_of b93 (by decide +kernel)
theorem d93_25 : pv_dec 93 25 = some (.invokevirtual 87, 3) := pv_dec_of b93 (by decide +kernel)
theorem d93_28 : pv_dec 93 28 = some (.aload_n 0, 1) := pv_dec_of b93 (by decide +kernel)
theorem d93_29 : pv_dec 93 29 = some (.invokevirtual 91, 3) := pv_dec_of b93 (by decide +kernel)
theorem d93_32 : pv_dec 93 32 = some (.ifCond .eq 35, 3) := pv_dec_of b93 (by decide +kernel)
theorem d93_35 : pv_dec 93 35 = some (.iload_n 3, 1) := pv_dec_of b93 (by decide +kernel)
theorem d93_36 : pv_dec 93 36 = some (.iconst (-1), 1) := pv_dec_of b93 (by decide +kernel)
theorem d93_37 : pv_dec 93 37 = some (.if_icmp .eq 17, 3) := pv_dec_of b93 (by decide +kernel)
theorem d93_40 : pv_dec 93 40 = some (.aload_n 0, 1) := pv_dec_of b93 (by decide +kernel)
theorem d93_41 : pv_dec 93 41 = some (.getfield 33, 3) := pv_dec_of b93 (by decide +kernel)
theorem d93_44 : pv_dec 93 44 = some (.iload_n 3, 1) := pv_dec_of b93 (by decide +kernel)
theorem d93_45 : pv_dec 93 45 = some (.bipush 10, 2) := pv_dec_of b93 (by decide +kernel)
theorem d93_47 : pv_dec 93 47 = some (.idiv, 1) := pv_dec_of b93 (by decide +kernel)
theorem d93_48 : pv_dec 93 48 = some (.invokestatic 95, 3) := pv_dec_of b93 (by decide +kernel)
theorem d93_51 : pv_dec 93 51 = some (.ifCond .eq 16, 3) := pv_dec_of b93 (by decide +kernel)
theorem d93_54 : pv_dec 93 54 = some (.bipush 10, 2) := pv_dec_of b93 (by decide +kernel)
theorem d93_56 : pv_dec 93 56 = some (.aload_n 0, 1) := pv_dec_of b93 (by decide +kernel)
theorem d93_57 : pv_dec 93 57 = some (.getfield 33, 3) := pv_dec_of b93 (by decide +kernel)
theorem d93_60 : pv_dec 93 60 = some (.imul, 1) := pv_dec_of b93 (by decide +kernel)
theorem d93_61 : pv_dec 93 61 = some (.aload_n 0, 1) := pv_dec_of b93 (by decide +kernel)
theorem d93_62 : pv_dec 93 62 = some (.invokevirtual 91, 3) := pv_dec_of b93 (by decide +kernel)
theorem d93_65 : pv_dec 93 65 = some (.iadd, 1) := pv_dec_of b93 (by decide +kernel)
theorem d93_66 : pv_dec 93 66 = some (.istore_n 3, 1) := pv_dec_of b93 (by decide +kernel)
theorem d93_67 : pv_dec 93 67 = some (.iinc 4 1, 3) := pv_dec_of b93 (by decide +kernel)
theorem d93_70 : pv_dec 93 70 = some (.goto (-55), 3) := pv_dec_of b93 (by decide +kernel)
theorem d93_73 : pv_dec 93 73 = some (.iload_n 3, 1) := pv_dec_of b93 (by decide +kernel)
theorem d93_74 : pv_dec 93 74 = some (.ireturn, 1) := pv_dec_of b93 (by decide +kernel)
theorem g93_33 : pv_gf 93 33 = some (5, 4) := pv_gfo_of o93 G5_33
theorem Y5_79 : pv_mlo "AngleNet$Laying" 79 = some (⟨"AngleNet$Laying", "told", "(LAngleNet$Net;)I"⟩, none) := by decide +kernel
theorem Z94 : pv_cS 94 1 3 ⟨"AngleNet$Laying", "told", "(LAngleNet$Net;)I"⟩ = true := by decide +kernel
theorem k93_79 : pv_kS 93 79 94 1 3 := pv_kS_of o93 Y5_79 Z94 (by decide +kernel)
theorem Y5_83 : pv_mlo "AngleNet$Laying" 83 = some (⟨"AngleNet$Laying", "begin", "(LAngleNet$Net;I)I"⟩, none) := by decide +kernel
theorem V95 : pv_cV 95 5 2 4 ⟨"AngleNet$Laying", "begin", "(LAngleNet$Net;I)I"⟩ = true := by decide +kernel
theorem k93_83 : pv_kV 93 83 95 5 2 4 := pv_kV_of o93 Y5_83 V95 (by decide +kernel)
theorem Y5_87 : pv_mlo "AngleNet$Laying" 87 = some (⟨"AngleNet$Laying", "goTo", "(LAngleNet$Net;I)V"⟩, none) := by decide +kernel
theorem V99 : pv_cV 99 5 2 6 ⟨"AngleNet$Laying", "goTo", "(LAngleNet$Net;I)V"⟩ = true := by decide +kernel
theorem k93_87 : pv_kV 93 87 99 5 2 6 := pv_kV_of o93 Y5_87 V99 (by decide +kernel)
theorem Y5_91 : pv_mlo "AngleNet$Laying" 91 = some (⟨"AngleNet$Laying", "way", "()I"⟩, none) := by decide +kernel
theorem V101 : pv_cV 101 5 0 1 ⟨"AngleNet$Laying", "way", "()I"⟩ = true := by decide +kernel
theorem k93_91 : pv_kV 93 91 101 5 0 1 := pv_kV_of o93 Y5_91 V101 (by decide +kernel)
theorem Y5_95 : pv_mlo "AngleNet$Laying" 95 = some (⟨"AngleNet", "isLesser", "(II)Z"⟩, some "AngleNet") := by decide +kernel
theorem Z102 : pv_cS 102 2 3 ⟨"AngleNet", "isLesser", "(II)Z"⟩ = true := by decide +kernel
theorem k93_95 : pv_kS 93 95 102 2 3 := pv_kS_of o93 Y5_95 Z102 (by decide +kernel)
theorem o106 : pv_own 106 = "AngleNet$Laying" := by decide +kernel
theorem b106 : pv_bc 106 = prog_6_method_11_code := pv_bcof (i := 106) rfl
theorem m106 : pv_mL 106 = 5 := by decide +kernel
theorem tt106 : pv_rt 106 = some .int := by decide +kernel
theorem d106_0 : pv_dec 106 0 = some (.aload_n 0, 1) := pv_dec_of b106 (by decide +kernel)
theorem d106_1 : pv_dec 106 1 = some (.getfield 18, 3) := pv_dec_of b106 (by decide +kernel)
theorem d106_4 : pv_dec 106 4 = some (.iload_n 2, 1) := pv_dec_of b106 (by decide +kernel)
theorem d106_5 : pv_dec 106 5 = some (.iaload, 1) := pv_dec_of b106 (by decide +kernel)
theorem d106_6 : pv_dec 106 6 = some (.istore 4, 2) := pv_dec_of b106 (by decide +kernel)
theorem d106_8 : pv_dec 106 8 = some (.aload_n 0, 1) := pv_dec_of b106 (by decide +kernel)
theorem d106_9 : pv_dec 106 9 = some (.getfield 33, 3) := pv_dec_of b106 (by decide +kernel)
theorem d106_12 : pv_dec 106 12 = some (.iload_n 3, 1) := pv_dec_of b106 (by decide +kernel)
theorem d106_13 : pv_dec 106 13 = some (.ishr, 1) := pv_dec_of b106 (by decide +kernel)
theorem d106_14 : pv_dec 106 14 = some (.iconst 1, 1) := pv_dec_of b106 (by decide +kernel)
theorem d106_15 : pv_dec 106 15 = some (.iand, 1) := pv_dec_of b106 (by decide +kernel)
theorem d106_16 : pv_dec 106 16 = some (.ifCond .eq 31, 3) := pv_dec_of b106 (by decide +kernel)
theorem d106_19 : pv_dec 106 19 = some (.aload_n 0, 1) := pv_dec_of b106 (by decide +kernel)
theorem d106_20 : pv_dec 106 20 = some (.getfield 42, 3) := pv_dec_of b106 (by decide +kernel)
theorem d106_23 : pv_dec 106 23 = some (.aload_n 0, 1) := pv_dec_of b106 (by decide +kernel)
theorem d106_24 : pv_dec 106 24 = some (.getfield 39, 3) := pv_dec_of b106 (by decide +kernel)
theorem d106_27 : pv_dec 106 27 = some (.aload_n 1, 1) := pv_dec_of b106 (by decide +kernel)
theorem d106_28 : pv_dec 106 28 = some (.iload_n 2, 1) := pv_dec_of b106 (by decide +kernel)
theorem d106_29 : pv_dec 106 29 = some (.iload 4, 2) := pv_dec_of b106 (by decide +kernel)
theorem d106_31 : pv_dec 106 31 = some (.invokestatic 55, 3) := pv_dec_of b106 (by decide +kernel)
theorem d106_34 : pv_dec 106 34 = some (.isub, 1) := pv_dec_of b106 (by decide +kernel)
theorem d106_35 : pv_dec 106 35 = some (.isub, 1) := pv_dec_of b106 (by decide +kernel)
theorem d106_36 : pv_dec 106 36 = some (.aload_n 1, 1) := pv_dec_of b106 (by decide +kernel)
theorem d106_37 : pv_dec 106 37 = some (.getfield 69, 3) := pv_dec_of b106 (by decide +kernel)
theorem d106_40 : pv_dec 106 40 = some (.iload 4, 2) := pv_dec_of b106 (by decide +kernel)
theorem d106_42 : pv_dec 106 42 = some (.iconst 1, 1) := pv_dec_of b106 (by decide +kernel)
theorem d106_43 : pv_dec 106 43 = some (.isub, 1) := pv_dec_of b106 (by decide +kernel)
theorem d106_44 : pv_dec 106 44 = some (.imul, 1) := pv_dec_of b106 (by decide +kernel)
theorem d106_45 : pv_dec 106 45 = some (.isub, 1) := pv_dec_of b106 (by decide +kernel)
theorem d106_46 : pv_dec 106 46 = some (.ireturn, 1) := pv_dec_of b106 (by decide +kernel)
theorem d106_47 : pv_dec 106 47 = some (.aload_n 0, 1) := pv_dec_of b106 (by decide +kernel)
theorem d106_48 : pv_dec 106 48 = some (.getfield 36, 3) := pv_dec_of b106 (by decide +kernel)
theorem d106_51 : pv_dec 106 51 = some (.aload_n 1, 1) := pv_dec_of b106 (by decide +kernel)
theorem d106_52 : pv_dec 106 52 = some (.iload_n 2, 1) := pv_dec_of b106 (by decide +kernel)
theorem d106_53 : pv_dec 106 53 = some (.iload 4, 2) := pv_dec_of b106 (by decide +kernel)
theorem d106_55 : pv_dec 106 55 = some (.invokestatic 51, 3) := pv_dec_of b106 (by decide +kernel)
theorem d106_58 : pv_dec 106 58 = some (.isub, 1) := pv_dec_of b106 (by decide +kernel)
theorem d106_59 : pv_dec 106 59 = some (.aload_n 1, 1) := pv_dec_of b106 (by decide +kernel)
theorem d106_60 : pv_dec 106 60 = some (.getfield 66, 3) := pv_dec_of b106 (by decide +kernel)
theorem d106_63 : pv_dec 106 63 = some (.iload_n 2, 1) := pv_dec_of b106 (by decide +kernel)
theorem d106_64 : pv_dec 106 64 = some (.iaload, 1) := pv_dec_of b106 (by decide +kernel)
theorem d106_65 : pv_dec 106 65 = some (.iadd, 1) := pv_dec_of b106 (by decide +kernel)
theorem d106_66 : pv_dec 106 66 = some (.aload_n 1, 1) := pv_dec_of b106 (by decide +kernel)
theorem d106_67 : pv_dec 106 67 = some (.getfield 69, 3) := pv_dec_of b106 (by decide +kernel)
theorem d106_70 : pv_dec 106 70 = some (.iconst 2, 1) := pv_dec_of b106 (by decide +kernel)
theorem d106_71 : pv_dec 106 71 = some (.iload 4, 2) := pv_dec_of b106 (by decide +kernel)
theorem d106_73 : pv_dec 106 73 = some (.isub, 1) := pv_dec_of b106 (by decide +kernel)
theorem d106_74 : pv_dec 106 74 = some (.imul, 1) := pv_dec_of b106 (by decide +kernel)
theorem d106_75 : pv_dec 106 75 = some (.isub, 1) := pv_dec_of b106 (by decide +kernel)
theorem d106_76 : pv_dec 106 76 = some (.aload_n 0, 1) := pv_dec_of b106 (by decide +kernel)
theorem d106_77 : pv_dec 106 77 = some (.getfield 42, 3) := pv_dec_of b106 (by decide +kernel)
theorem d106_80 : pv_dec 106 80 = some (.isub, 1) := pv_dec_of b106 (by decide +kernel)
theorem d106_81 : pv_dec 106 81 = some (.ireturn, 1) := pv_dec_of b106 (by decide +kernel)
theorem g106_18 : pv_gf 106 18 = some (5, 2) := pv_gfo_of o106 G5_18
theorem g106_33 : pv_gf 106 33 = some (5, 4) := pv_gfo_of o106 G5_33
theorem g106_36 : pv_gf 106 36 = some (5, 5) := pv_gfo_of o106 G5_36
theorem g106_39 : pv_gf 106 39 = some (5, 6) := pv_gfo_of o106 G5_39
theorem g106_42 : pv_gf 106 42 = some (5, 7) := pv_gfo_of o106 G5_42
theorem g106_66 : pv_gf 106 66 = some (2, 6) := pv_gfo_of o106 G5_66
theorem g106_69 : pv_gf 106 69 = some (2, 3) := pv_gfo_of o106 G5_69
theorem k106_51 : pv_kS 106 51 96 3 3 := pv_kS_of o106 Y5_51 Z96 (by decide +kernel)
theorem k106_55 : pv_kS 106 55 98 3 3 := pv_kS_of o106 Y5_55 Z98 (by decide +kernel)
theorem o107 : pv_own 107 = "AngleNet$Laying" := by decide +kernel
theorem b107 : pv_bc 107 = prog_6_method_12_code := pv_bcof (i := 107) rfl
theorem m107 : pv_mL 107 = 5 := by decide +kernel
theorem tt107 : pv_rt 107 = some .int := by decide +kernel
theorem d107_0 : pv_dec 107 0 = some (.aload_n 0, 1) := pv_dec_of b107 (by decide +kernel)
theorem d107_1 : pv_dec 107 1 = some (.getfield 18, 3) := pv_dec_of b107 (by decide +kernel)
theorem d107_4 : pv_dec 107 4 = some (.iload_n 2, 1) := pv_dec_of b107 (by decide +kernel)
theorem d107_5 : pv_dec 107 5 = some (.iaload, 1) := pv_dec_of b107 (by decide +kernel)
theorem d107_6 : pv_dec 107 6 = some (.istore 4, 2) := pv_dec_of b107 (by decide +kernel)
theorem d107_8 : pv_dec 107 8 = some (.aload_n 0, 1) := pv_dec_of b107 (by decide +kernel)
theorem d107_9 : pv_dec 107 9 = some (.getfield 33, 3) := pv_dec_of b107 (by decide +kernel)
theorem d107_12 : pv_dec 107 12 = some (.iload_n 3, 1) := pv_dec_of b107 (by decide +kernel)
theorem d107_13 : pv_dec 107 13 = some (.ishr, 1) := pv_dec_of b107 (by decide +kernel)
theorem d107_14 : pv_dec 107 14 = some (.iconst 1, 1) := pv_dec_of b107 (by decide +kernel)
theorem d107_15 : pv_dec 107 15 = some (.iand, 1) := pv_dec_of b107 (by decide +kernel)
theorem d107_16 : pv_dec 107 16 = some (.ifCond .eq 31, 3) := pv_dec_of b107 (by decide +kernel)
theorem d107_19 : pv_dec 107 19 = some (.aload_n 0, 1) := pv_dec_of b107 (by decide +kernel)
theorem d107_20 : pv_dec 107 20 = some (.getfield 42, 3) := pv_dec_of b107 (by decide +kernel)
theorem d107_23 : pv_dec 107 23 = some (.aload_n 0, 1) := pv_dec_of b107 (by decide +kernel)
theorem d107_24 : pv_dec 107 24 = some (.getfield 36, 3) := pv_dec_of b107 (by decide +kernel)
theorem d107_27 : pv_dec 107 27 = some (.aload_n 1, 1) := pv_dec_of b107 (by decide +kernel)
theorem d107_28 : pv_dec 107 28 = some (.iload_n 2, 1) := pv_dec_of b107 (by decide +kernel)
theorem d107_29 : pv_dec 107 29 = some (.iload 4, 2) := pv_dec_of b107 (by decide +kernel)
theorem d107_31 : pv_dec 107 31 = some (.invokestatic 51, 3) := pv_dec_of b107 (by decide +kernel)
theorem d107_34 : pv_dec 107 34 = some (.isub, 1) := pv_dec_of b107 (by decide +kernel)
theorem d107_35 : pv_dec 107 35 = some (.isub, 1) := pv_dec_of b107 (by decide +kernel)
theorem d107_36 : pv_dec 107 36 = some (.aload_n 1, 1) := pv_dec_of b107 (by decide +kernel)
theorem d107_37 : pv_dec 107 37 = some (.getfield 65, 3) := pv_dec_of b107 (by decide +kernel)
theorem d107_40 : pv_dec 107 40 = some (.iload 4, 2) := pv_dec_of b107 (by decide +kernel)
theorem d107_42 : pv_dec 107 42 = some (.iconst 1, 1) := pv_dec_of b107 (by decide +kernel)
theorem d107_43 : pv_dec 107 43 = some (.isub, 1) := pv_dec_of b107 (by decide +kernel)
theorem d107_44 : pv_dec 107 44 = some (.imul, 1) := pv_dec_of b107 (by decide +kernel)
theorem d107_45 : pv_dec 107 45 = some (.isub, 1) := pv_dec_of b107 (by decide +kernel)
theorem d107_46 : pv_dec 107 46 = some (.ireturn, 1) := pv_dec_of b107 (by decide +kernel)
theorem d107_47 : pv_dec 107 47 = some (.aload_n 0, 1) := pv_dec_of b107 (by decide +kernel)
theorem d107_48 : pv_dec 107 48 = some (.getfield 39, 3) := pv_dec_of b107 (by decide +kernel)
theorem d107_51 : pv_dec 107 51 = some (.aload_n 1, 1) := pv_dec_of b107 (by decide +kernel)
theorem d107_52 : pv_dec 107 52 = some (.iload_n 2, 1) := pv_dec_of b107 (by decide +kernel)
theorem d107_53 : pv_dec 107 53 = some (.iload 4, 2) := pv_dec_of b107 (by decide +kernel)
theorem d107_55 : pv_dec 107 55 = some (.invokestatic 55, 3) := pv_dec_of b107 (by decide +kernel)
theorem d107_58 : pv_dec 107 58 = some (.isub, 1) := pv_dec_of b107 (by decide +kernel)
theorem d107_59 : pv_dec 107 59 = some (.aload_n 1, 1) := pv_dec_of b107 (by decide +kernel)
theorem d107_60 : pv_dec 107 60 = some (.getfield 66, 3) := pv_dec_of b107 (by decide +kernel)
theorem d107_63 : pv_dec 107 63 = some (.iload_n 2, 1) := pv_dec_of b107 (by decide +kernel)
theorem d107_64 : pv_dec 107 64 = some (.iaload, 1) := pv_dec_of b107 (by decide +kernel)
theorem d107_65 : pv_dec 107 65 = some (.iadd, 1) := pv_dec_of b107 (by decide +kernel)
theorem d107_66 : pv_dec 107 66 = some (.aload_n 1, 1) := pv_dec_of b107 (by decide +kernel)
theorem d107_67 : pv_dec 107 67 = some (.getfield 65, 3) := pv_dec_of b107 (by decide +kernel)
theorem d107_70 : pv_dec 107 70 = some (.iconst 2, 1) := pv_dec_of b107 (by decide +kernel)
theorem d107_71 : pv_dec 107 71 = some (.iload 4, 2) := pv_dec_of b107 (by decide +kernel)
theorem d107_73 : pv_dec 107 73 = some (.isub, 1) := pv_dec_of b107 (by decide +kernel)
theorem d107_74 : pv_dec 107 74 = some (.imul, 1) := pv_dec_of b107 (by decide +kernel)
theorem d107_75 : pv_dec 107 75 = some (.isub, 1) := pv_dec_of b107 (by decide +kernel)
theorem d107_76 : pv_dec 107 76 = some (.aload_n 0, 1) := pv_dec_of b107 (by decide +kernel)
theorem d107_77 : pv_dec 107 77 = some (.getfield 42, 3) := pv_dec_of b107 (by decide +kernel)
theorem d107_80 : pv_dec 107 80 = some (.isub, 1) := pv_dec_of b107 (by decide +kernel)
theorem d107_81 : pv_dec 107 81 = some (.ireturn, 1) := pv_dec_of b107 (by decide +kernel)
theorem g107_18 : pv_gf 107 18 = some (5, 2) := pv_gfo_of o107 G5_18
theorem g107_33 : pv_gf 107 33 = some (5, 4) := pv_gfo_of o107 G5_33
theorem g107_36 : pv_gf 107 36 = some (5, 5) := pv_gfo_of o107 G5_36
theorem g107_39 : pv_gf 107 39 = some (5, 6) := pv_gfo_of o107 G5_39
theorem g107_42 : pv_gf 107 42 = some (5, 7) := pv_gfo_of o107 G5_42
theorem g107_65 : pv_gf 107 65 = some (2, 4) := pv_gfo_of o107 G5_65
theorem g107_66 : pv_gf 107 66 = some (2, 6) := pv_gfo_of o107 G5_66
theorem k107_51 : pv_kS 107 51 96 3 3 := pv_kS_of o107 Y5_51 Z96 (by decide +kernel)
theorem k107_55 : pv_kS 107 55 98 3 3 := pv_kS_of o107 Y5_55 Z98 (by decide +kernel)
theorem o105 : pv_own 105 = "AngleNet$Laying" := by decide +kernel
theorem b105 : pv_bc 105 = prog_6_method_10_code := pv_bcof (i := 105) rfl
theorem m105 : pv_mL 105 = 8 := by decide +kernel
theorem tt105 : pv_rt 105 = some .int := by decide +kernel
theorem d105_0 : pv_dec 105 0 = some (.aload_n 0, 1) := pv_dec_of b105 (by decide +kernel)
theorem d105_1 : pv_dec 105 1 = some (.aload_n 1, 1) := pv_dec_of b105 (by decide +kernel)
theorem d105_2 : pv_dec 105 2 = some (.aload_n 1, 1) := pv_dec_of b105 (by decide +kernel)
theorem d105_3 : pv_dec 105 3 = some (.invokestatic 79, 3) := pv_dec_of b105 (by decide +kernel)
theorem d105_6 : pv_dec 105 6 = some (.invokevirtual 83, 3) := pv_dec_of b105 (by decide +kernel)
theorem d105_9 : pv_dec 105 9 = some (.istore 5, 2) := pv_dec_of b105 (by decide +kernel)
theorem d105_11 : pv_dec 105 11 = some (.iload 4, 2) := pv_dec_of b105 (by decide +kernel)
theorem d105_13 : pv_dec 105 13 = some (.ifCond .eq 10, 3) := pv_dec_of b105 (by decide +kernel)
theorem d105_16 : pv_dec 105 16 = some (.aload_n 1, 1) := pv_dec_of b105 (by decide +kernel)
theorem d105_17 : pv_dec 105 17 = some (.getfield 65, 3) := pv_dec_of b105 (by decide +kernel)
theorem d105_20 : pv_dec 105 20 = some (.goto 7, 3) := pv_dec_of b105 (by decide +kernel)
theorem d105_23 : pv_dec 105 23 = some (.aload_n 1, 1) := pv_dec_of b105 (by decide +kernel)
theorem d105_24 : pv_dec 105 24 = some (.getfield 69, 3) := pv_dec_of b105 (by decide +kernel)
theorem d105_27 : pv_dec 105 27 = some (.istore 6, 2) := pv_dec_of b105 (by decide +kernel)
theorem d105_29 : pv_dec 105 29 = some (.iconst 0, 1) := pv_dec_of b105 (by decide +kernel)
theorem d105_30 : pv_dec 105 30 = some (.istore 7, 2) := pv_dec_of b105 (by decide +kernel)
theorem d105_32 : pv_dec 105 32 = some (.iload 7, 2) := pv_dec_of b105 (by decide +kernel)
theorem d105_34 : pv_dec 105 34 = some (.iload 5, 2) := pv_dec_of b105 (by decide +kernel)
theorem d105_36 : pv_dec 105 36 = some (.if_icmp .ge 61, 3) := pv_dec_of b105 (by decide +kernel)
theorem d105_39 : pv_dec 105 39 = some (.aload_n 0, 1) := pv_dec_of b105 (by decide +kernel)
theorem d105_40 : pv_dec 105 40 = some (.aload_n 1, 1) := pv_dec_of b105 (by decide +kernel)
theorem d105_41 : pv_dec 105 41 = some (.iload 7, 2) := pv_dec_of b105 (by decide +kernel)
theorem d105_43 : pv_dec 105 43 = some (.invokevirtual 87, 3) := pv_dec_of b105 (by decide +kernel)
theorem d105_46 : pv_dec 105 46 = some (.aload_n 0, 1) := pv_dec_of b105 (by decide +kernel)
theorem d105_47 : pv_dec 105 47 = some (.invokevirtual 91, 3) := pv_dec_of b105 (by decide +kernel)
theorem d105_50 : pv_dec 105 50 = some (.ifCond .eq 5, 3) := pv_dec_of b105 (by decide +kernel)
theorem d105_53 : pv_dec 105 53 = some (.iconst (-1), 1) := pv_dec_of b105 (by decide +kernel)
theorem d105_54 : pv_dec 105 54 = some (.ireturn, 1) := pv_dec_of b105 (by decide +kernel)
theorem d105_55 : pv_dec 105 55 = some (.iload 4, 2) := pv_dec_of b105 (by decide +kernel)
theorem d105_57 : pv_dec 105 57 = some (.ifCond .eq 20, 3) := pv_dec_of b105 (by decide +kernel)
theorem d105_60 : pv_dec 105 60 = some (.iload 6, 2) := pv_dec_of b105 (by decide +kernel)
theorem d105_62 : pv_dec 105 62 = some (.aload_n 0, 1) := pv_dec_of b105 (by decide +kernel)
theorem d105_63 : pv_dec 105 63 = some (.aload_n 1, 1) := pv_dec_of b105 (by decide +kernel)
theorem d105_64 : pv_dec 105 64 = some (.iload_n 2, 1) := pv_dec_of b105 (by decide +kernel)
theorem d105_65 : pv_dec 105 65 = some (.iload_n 3, 1) := pv_dec_of b105 (by decide +kernel)
theorem d105_66 : pv_dec 105 66 = some (.invokevirtual 99, 3) := pv_dec_of b105 (by decide +kernel)
theorem d105_69 : pv_dec 105 69 = some (.invokestatic 70, 3) := pv_dec_of b105 (by decide +kernel)
theorem d105_72 : pv_dec 105 72 = some (.istore 6, 2) := pv_dec_of b105 (by decide +kernel)
theorem d105_74 : pv_dec 105 74 = some (.goto 17, 3) := pv_dec_of b105 (by decide +kernel)
theorem d105_77 : pv_dec 105 77 = some (.iload 6, 2) := pv_dec_of b105 (by decide +kernel)
theorem d105_79 : pv_dec 105 79 = some (.aload_n 0, 1) := pv_dec_of b105 (by decide +kernel)
theorem d105_80 : pv_dec 105 80 = some (.aload_n 1, 1) := pv_dec_of b105 (by decide +kernel)
theorem d105_81 : pv_dec 105 81 = some (.iload_n 2, 1) := pv_dec_of b105 (by decide +kernel)
theorem d105_82 : pv_dec 105 82 = some (.iload_n 3, 1) := pv_dec_of b105 (by decide +kernel)
theorem d105_83 : pv_dec 105 83 = some (.invokevirtual 102, 3) := pv_dec_of b105 (by decide +kernel)
theorem d105_86 : pv_dec 105 86 = some (.invokestatic 76, 3) := pv_dec_of b105 (by decide +kernel)
theorem d105_89 : pv_dec 105 89 = some (.istore 6, 2) := pv_dec_of b105 (by decide +kernel)
theorem d105_91 : pv_dec 105 91 = some (.iinc 7 1, 3) := pv_dec_of b105 (by decide +kernel)
theorem d105_94 : pv_dec 105 94 = some (.goto (-62), 3) := pv_dec_of b105 (by decide +kernel)
theorem d105_97 : pv_dec 105 97 = some (.iload 6, 2) := pv_dec_of b105 (by decide +kernel)
theorem d105_99 : pv_dec 105 99 = some (.ireturn, 1) := pv_dec_of b105 (by decide +kernel)
theorem g105_65 : pv_gf 105 65 = some (2, 4) := pv_gfo_of o105 G5_65
theorem g105_69 : pv_gf 105 69 = some (2, 3) := pv_gfo_of o105 G5_69
theorem Y5_102 : pv_mlo "AngleNet$Laying" 102 = some (⟨"AngleNet$Laying", "leastForCorner", "(LAngleNet$Net;II)I"⟩, none) := by decide +kernel
theorem V107 : pv_cV 107 5 3 5 ⟨"AngleNet$Laying", "leastForCorner", "(LAngleNet$Net;II)I"⟩ = true := by decide +kernel
theorem k105_102 : pv_kV 105 102 107 5 3 5 := pv_kV_of o105 Y5_102 V107 (by decide +kernel)
theorem k105_79 : pv_kS 105 79 94 1 3 := pv_kS_of o105 Y5_79 Z94 (by decide +kernel)
theorem k105_83 : pv_kV 105 83 95 5 2 4 := pv_kV_of o105 Y5_83 V95 (by decide +kernel)
theorem k105_87 : pv_kV 105 87 99 5 2 6 := pv_kV_of o105 Y5_87 V99 (by decide +kernel)
theorem k105_91 : pv_kV 105 91 101 5 0 1 := pv_kV_of o105 Y5_91 V101 (by decide +kernel)
theorem Y5_99 : pv_mlo "AngleNet$Laying" 99 = some (⟨"AngleNet$Laying", "mostForCorner", "(LAngleNet$Net;II)I"⟩, none) := by decide +kernel
theorem V106 : pv_cV 106 5 3 5 ⟨"AngleNet$Laying", "mostForCorner", "(LAngleNet$Net;II)I"⟩ = true := by decide +kernel
theorem k105_99 : pv_kV 105 99 106 5 3 5 := pv_kV_of o105 Y5_99 V106 (by decide +kernel)
theorem k105_70 : pv_kM 105 70 Lib.Math.min.name Lib.Math.min.code 2 (some .int) = true := by decide +kernel
theorem k105_76 : pv_kM 105 76 Lib.Math.max.name Lib.Math.max.code 2 (some .int) = true := by decide +kernel
theorem o110 : pv_own 110 = "AngleNet$Laying" := by decide +kernel
theorem b110 : pv_bc 110 = prog_6_method_13_code := pv_bcof (i := 110) rfl
theorem m110 : pv_mL 110 = 8 := by decide +kernel
theorem tt110 : pv_rt 110 = some .int := by decide +kernel
theorem d110_0 : pv_dec 110 0 = some (.aload_n 0, 1) := pv_dec_of b110 (by decide +kernel)
theorem d110_1 : pv_dec 110 1 = some (.aload_n 1, 1) := pv_dec_of b110 (by decide +kernel)
theorem d110_2 : pv_dec 110 2 = some (.aload_n 1, 1) := pv_dec_of b110 (by decide +kernel)
theorem d110_3 : pv_dec 110 3 = some (.invokestatic 79, 3) := pv_dec_of b110 (by decide +kernel)
theorem d110_6 : pv_dec 110 6 = some (.iconst 1, 1) := pv_dec_of b110 (by decide +kernel)
theorem d110_7 : pv_dec 110 7 = some (.iload_n 2, 1) := pv_dec_of b110 (by decide +kernel)
theorem d110_8 : pv_dec 110 8 = some (.ishl, 1) := pv_dec_of b110 (by decide +kernel)
theorem d110_9 : pv_dec 110 9 = some (.iconst (-1), 1) := pv_dec_of b110 (by decide +kernel)
theorem d110_10 : pv_dec 110 10 = some (.ixor, 1) := pv_dec_of b110 (by decide +kernel)
theorem d110_11 : pv_dec 110 11 = some (.iand, 1) := pv_dec_of b110 (by decide +kernel)
theorem d110_12 : pv_dec 110 12 = some (.invokevirtual 83, 3) := pv_dec_of b110 (by decide +kernel)
theorem d110_15 : pv_dec 110 15 = some (.istore 4, 2) := pv_dec_of b110 (by decide +kernel)
theorem d110_17 : pv_dec 110 17 = some (.iconst 1, 1) := pv_dec_of b110 (by decide +kernel)
theorem d110_18 : pv_dec 110 18 = some (.istore 5, 2) := pv_dec_of b110 (by decide +kernel)
theorem d110_20 : pv_dec 110 20 = some (.sipush 3600, 3) := pv_dec_of b110 (by decide +kernel)
theorem d110_23 : pv_dec 110 23 = some (.istore 6, 2) := pv_dec_of b110 (by decide +kernel)
theorem d110_25 : pv_dec 110 25 = some (.iconst 0, 1) := pv_dec_of b110 (by decide +kernel)
theorem d110_26 : pv_dec 110 26 = some (.istore 7, 2) := pv_dec_of b110 (by decide +kernel)
theorem d110_28 : pv_dec 110 28 = some (.iload 7, 2) := pv_dec_of b110 (by decide +kernel)
theorem d110_30 : pv_dec 110 30 = some (.iload 4, 2) := pv_dec_of b110 (by decide +kernel)
theorem d110_32 : pv_dec 110 32 = some (.if_icmp .ge 71, 3) := pv_dec_of b110 (by decide +kernel)
theorem d110_35 : pv_dec 110 35 = some (.aload_n 0, 1) := pv_dec_of b110 (by decide +kernel)
theorem d110_36 : pv_dec 110 36 = some (.aload_n 1, 1) := pv_dec_of b110 (by decide +kernel)
theorem d110_37 : pv_dec 110 37 = some (.iload 7, 2) := pv_dec_of b110 (by decide +kernel)
theorem d110_39 : pv_dec 110 39 = some (.invokevirtual 87, 3) := pv_dec_of b110 (by decide +kernel)
theorem d110_42 : pv_dec 110 42 = some (.aload_n 0, 1) := pv_dec_of b110 (by decide +kernel)
theorem d110_43 : pv_dec 110 43 = some (.invokevirtual 91, 3) := pv_dec_of b110 (by decide +kernel)
theorem d110_46 : pv_dec 110 46 = some (.ifCond .eq 5, 3) := pv_dec_of b110 (by decide +kernel)
theorem d110_49 : pv_dec 110 49 = some (.iconst (-1), 1) := pv_dec_of b110 (by decide +kernel)
theorem d110_50 : pv_dec 110 50 = some (.ireturn, 1) := pv_dec_of b110 (by decide +kernel)
theorem d110_51 : pv_dec 110 51 = some (.aload_n 0, 1) := pv_dec_of b110 (by decide +kernel)
theorem d110_52 : pv_dec 110 52 = some (.aload_n 1, 1) := pv_dec_of b110 (by decide +kernel)
theorem d110_53 : pv_dec 110 53 = some (.iload_n 2, 1) := pv_dec_of b110 (by decide +kernel)
theorem d110_54 : pv_dec 110 54 = some (.iconst 1, 1) := pv_dec_of b110 (by decide +kernel)
theorem d110_55 : pv_dec 110 55 = some (.invokevirtual 61, 3) := pv_dec_of b110 (by decide +kernel)
theorem d110_58 : pv_dec 110 58 = some (.iload 5, 2) := pv_dec_of b110 (by decide +kernel)
theorem d110_60 : pv_dec 110 60 = some (.aload_n 0, 1) := pv_dec_of b110 (by decide +kernel)
theorem d110_61 : pv_dec 110 61 = some (.getfield 39, 3) := pv_dec_of b110 (by decide +kernel)
theorem d110_64 : pv_dec 110 64 = some (.aload_n 0, 1) := pv_dec_of b110 (by decide +kernel)
theorem d110_65 : pv_dec 110 65 = some (.getfield 42, 3) := pv_dec_of b110 (by decide +kernel)
theorem d110_68 : pv_dec 110 68 = some (.isub, 1) := pv_dec_of b110 (by decide +kernel)
theorem d110_69 : pv_dec 110 69 = some (.invokestatic 76, 3) := pv_dec_of b110 (by decide +kernel)
theorem d110_72 : pv_dec 110 72 = some (.istore 5, 2) := pv_dec_of b110 (by decide +kernel)
theorem d110_74 : pv_dec 110 74 = some (.iload 6, 2) := pv_dec_of b110 (by decide +kernel)
theorem d110_76 : pv_dec 110 76 = some (.aload_n 0, 1) := pv_dec_of b110 (by decide +kernel)
theorem d110_77 : pv_dec 110 77 = some (.getfield 36, 3) := pv_dec_of b110 (by decide +kernel)
theorem d110_80 : pv_dec 110 80 = some (.aload_n 0, 1) := pv_dec_of b110 (by decide +kernel)
theorem d110_81 : pv_dec 110 81 = some (.getfield 42, 3) := pv_dec_of b110 (by decide +kernel)
theorem d110_84 : pv_dec 110 84 = some (.isub, 1) := pv_dec_of b110 (by decide +kernel)
theorem d110_85 : pv_dec 110 85 = some (.invokestatic 70, 3) := pv_dec_of b110 (by decide +kernel)
theorem d110_88 : pv_dec 110 88 = some (.istore 6, 2) := pv_dec_of b110 (by decide +kernel)
theorem d110_90 : pv_dec 110 90 = some (.aload_n 0, 1) := pv_dec_of b110 (by decide +kernel)
theorem d110_91 : pv_dec 110 91 = some (.aload_n 1, 1) := pv_dec_of b110 (by decide +kernel)
theorem d110_92 : pv_dec 110 92 = some (.iload_n 2, 1) := pv_dec_of b110 (by decide +kernel)
theorem d110_93 : pv_dec 110 93 = some (.iconst (-1), 1) := pv_dec_of b110 (by decide +kernel)
theorem d110_94 : pv_dec 110 94 = some (.invokevirtual 61, 3) := pv_dec_of b110 (by decide +kernel)
theorem d110_97 : pv_dec 110 97 = some (.iinc 7 1, 3) := pv_dec_of b110 (by decide +kernel)
theorem d110_100 : pv_dec 110 100 = some (.goto (-72), 3) := pv_dec_of b110 (by decide +kernel)
theorem d110_103 : pv_dec 110 103 = some (.iload 5, 2) := pv_dec_of b110 (by decide +kernel)
theorem d110_105 : pv_dec 110 105 = some (.iload 6, 2) := pv_dec_of b110 (by decide +kernel)
theorem d110_107 : pv_dec 110 107 = some (.if_icmp .le 5, 3) := pv_dec_of b110 (by decide +kernel)
theorem d110_110 : pv_dec 110 110 = some (.iconst (-1), 1) := pv_dec_of b110 (by decide +kernel)
theorem d110_111 : pv_dec 110 111 = some (.ireturn, 1) := pv_dec_of b110 (by decide +kernel)
theorem d110_112 : pv_dec 110 112 = some (.iload_n 3, 1) := pv_dec_of b110 (by decide +kernel)
theorem d110_113 : pv_dec 110 113 = some (.ifCond .eq 8, 3) := pv_dec_of b110 (by decide +kernel)
theorem d110_116 : pv_dec 110 116 = some (.iload 6, 2) := pv_dec_of b110 (by decide +kernel)
theorem d110_118 : pv_dec 110 118 = some (.goto 5, 3) := pv_dec_of b110 (by decide +kernel)
theorem d110_121 : pv_dec 110 121 = some (.iload 5, 2) := pv_dec_of b110 (by decide +kernel)
theorem d110_123 : pv_dec 110 123 = some (.ireturn, 1) := pv_dec_of b110 (by decide +kernel)
theorem g110_36 : pv_gf 110 36 = some (5, 5) := pv_gfo_of o110 G5_36
theorem g110_39 : pv_gf 110 39 = some (5, 6) := pv_gfo_of o110 G5_39
theorem g110_42 : pv_gf 110 42 = some (5, 7) := pv_gfo_of o110 G5_42
theorem k110_61 : pv_kV 110 61 100 5 3 6 := pv_kV_of o110 Y5_61 V100 (by decide +kernel)
theorem k110_79 : pv_kS 110 79 94 1 3 := pv_kS_of o110 Y5_79 Z94 (by decide +kernel)
theorem k110_83 : pv_kV 110 83 95 5 2 4 := pv_kV_of o110 Y5_83 V95 (by decide +kernel)
theorem k110_87 : pv_kV 110 87 99 5 2 6 := pv_kV_of o110 Y5_87 V99 (by decide +kernel)
theorem k110_91 : pv_kV 110 91 101 5 0 1 := pv_kV_of o110 Y5_91 V101 (by decide +kernel)
theorem k110_70 : pv_kM 110 70 Lib.Math.min.name Lib.Math.min.code 2 (some .int) = true := by decide +kernel
theorem k110_76 : pv_kM 110 76 Lib.Math.max.name Lib.Math.max.code 2 (some .int) = true := by decide +kernel
