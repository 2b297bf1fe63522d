theorem o9 : pv_own 9 = "AngleNet$Tape" := by decide +kernel
theorem b9 : pv_bc 9 = prog_11_method_2_code := pv_bcof (i := 9) rfl
theorem m9 : pv_mL 9 = 3 := by decide +kernel
theorem tt9 : pv_rt 9 = none := by decide +kernel
theorem d9_0 : pv_dec 9 0 = some (.bipush 24, 2) := pv_dec_of b9 (by decide +kernel)
theorem d9_2 : pv_dec 9 2 = some (.istore_n 2, 1) := pv_dec_of b9 (by decide +kernel)
theorem d9_3 : pv_dec 9 3 = some (.iload_n 2, 1) := pv_dec_of b9 (by decide +kernel)
theorem d9_4 : pv_dec 9 4 = some (.ifCond .lt 42, 3) := pv_dec_of b9 (by decide +kernel)
theorem d9_7 : pv_dec 9 7 = some (.aload_n 0, 1) := pv_dec_of b9 (by decide +kernel)
theorem d9_8 : pv_dec 9 8 = some (.getfield 26, 3) := pv_dec_of b9 (by decide +kernel)
theorem d9_11 : pv_dec 9 11 = some (.sipush 1600, 3) := pv_dec_of b9 (by decide +kernel)
theorem d9_14 : pv_dec 9 14 = some (.if_icmp .ge 32, 3) := pv_dec_of b9 (by decide +kernel)
theorem d9_17 : pv_dec 9 17 = some (.aload_n 0, 1) := pv_dec_of b9 (by decide +kernel)
theorem d9_18 : pv_dec 9 18 = some (.getfield 22, 3) := pv_dec_of b9 (by decide +kernel)
theorem d9_21 : pv_dec 9 21 = some (.aload_n 0, 1) := pv_dec_of b9 (by decide +kernel)
theorem d9_22 : pv_dec 9 22 = some (.getfield 26, 3) := pv_dec_of b9 (by decide +kernel)
theorem d9_25 : pv_dec 9 25 = some (.iload_n 1, 1) := pv_dec_of b9 (by decide +kernel)
theorem d9_26 : pv_dec 9 26 = some (.iload_n 2, 1) := pv_dec_of b9 (by decide +kernel)
theorem d9_27 : pv_dec 9 27 = some (.ishr, 1) := pv_dec_of b9 (by decide +kernel)
theorem d9_28 : pv_dec 9 28 = some (.i2b, 1) := pv_dec_of b9 (by decide +kernel)
theorem d9_29 : pv_dec 9 29 = some (.bastore, 1) := pv_dec_of b9 (by decide +kernel)
theorem d9_30 : pv_dec 9 30 = some (.aload_n 0, 1) := pv_dec_of b9 (by decide +kernel)
theorem d9_31 : pv_dec 9 31 = some (.dup, 1) := pv_dec_of b9 (by decide +kernel)
theorem d9_32 : pv_dec 9 32 = some (.getfield 26, 3) := pv_dec_of b9 (by decide +kernel)
theorem d9_35 : pv_dec 9 35 = some (.iconst 1, 1) := pv_dec_of b9 (by decide +kernel)
theorem d9_36 : pv_dec 9 36 = some (.iadd, 1) := pv_dec_of b9 (by decide +kernel)
theorem d9_37 : pv_dec 9 37 = some (.putfield 26, 3) := pv_dec_of b9 (by decide +kernel)
theorem d9_40 : pv_dec 9 40 = some (.iinc 2 (-8), 3) := pv_dec_of b9 (by decide +kernel)
theorem d9_43 : pv_dec 9 43 = some (.goto (-40), 3) := pv_dec_of b9 (by decide +kernel)
theorem d9_46 : pv_dec 9 46 = some (.return_, 1) := pv_dec_of b9 (by decide +kernel)
theorem G3_22 : pv_gfo "AngleNet$Tape" 22 = some (1, 4) := by decide +kernel
theorem g9_22 : pv_gf 9 22 = some (1, 4) := pv_gfo_of o9 G3_22
theorem G3_26 : pv_gfo "AngleNet$Tape" 26 = some (1, 0) := by decide +kernel
theorem g9_26 : pv_gf 9 26 = some (1, 0) := pv_gfo_of o9 G3_26
theorem w1_0 : pv_ft 1 0 = some .int := by decide +kernel
theorem o34 : pv_own 34 = "AngleNet$Tape" := by decide +kernel
theorem b34 : pv_bc 34 = prog_11_method_4_code := pv_bcof (i := 34) rfl
theorem m34 : pv_mL 34 = 3 := by decide +kernel
theorem tt34 : pv_rt 34 = some .boolean := by decide +kernel
theorem d34_0 : pv_dec 34 0 = some (.aload_n 0, 1) := pv_dec_of b34 (by decide +kernel)
theorem d34_1 : pv_dec 34 1 = some (.iload_n 1, 1) := pv_dec_of b34 (by decide +kernel)
theorem d34_2 : pv_dec 34 2 = some (.putfield 32, 3) := pv_dec_of b34 (by decide +kernel)
theorem d34_5 : pv_dec 34 5 = some (.aload_n 0, 1) := pv_dec_of b34 (by decide +kernel)
theorem d34_6 : pv_dec 34 6 = some (.iload_n 2, 1) := pv_dec_of b34 (by decide +kernel)
theorem d34_7 : pv_dec 34 7 = some (.putfield 9, 3) := pv_dec_of b34 (by decide +kernel)
theorem d34_10 : pv_dec 34 10 = some (.iconst 0, 1) := pv_dec_of b34 (by decide +kernel)
theorem d34_11 : pv_dec 34 11 = some (.ireturn, 1) := pv_dec_of b34 (by decide +kernel)
theorem G3_9 : pv_gfo "AngleNet$Tape" 9 = some (1, 2) := by decide +kernel
theorem g34_9 : pv_gf 34 9 = some (1, 2) := pv_gfo_of o34 G3_9
theorem G3_32 : pv_gfo "AngleNet$Tape" 32 = some (1, 1) := by decide +kernel
theorem g34_32 : pv_gf 34 32 = some (1, 1) := pv_gfo_of o34 G3_32
theorem w1_1 : pv_ft 1 1 = some .int := by decide +kernel
theorem w1_2 : pv_ft 1 2 = some .int := by decide +kernel
theorem o17 : pv_own 17 = "AngleNet$Tape" := by decide +kernel
theorem b17 : pv_bc 17 = prog_11_method_6_code := pv_bcof (i := 17) rfl
theorem m17 : pv_mL 17 = 1 := by decide +kernel
theorem tt17 : pv_rt 17 = some .boolean := by decide +kernel
theorem d17_0 : pv_dec 17 0 = some (.iload_n 0, 1) := pv_dec_of b17 (by decide +kernel)
theorem d17_1 : pv_dec 17 1 = some (.bipush 32, 2) := pv_dec_of b17 (by decide +kernel)
theorem d17_3 : pv_dec 17 3 = some (.if_icmp .eq 9, 3) := pv_dec_of b17 (by decide +kernel)
theorem d17_6 : pv_dec 17 6 = some (.iload_n 0, 1) := pv_dec_of b17 (by decide +kernel)
theorem d17_7 : pv_dec 17 7 = some (.bipush 10, 2) := pv_dec_of b17 (by decide +kernel)
theorem d17_9 : pv_dec 17 9 = some (.if_icmp .ne 7, 3) := pv_dec_of b17 (by decide +kernel)
theorem d17_12 : pv_dec 17 12 = some (.iconst 1, 1) := pv_dec_of b17 (by decide +kernel)
theorem d17_13 : pv_dec 17 13 = some (.goto 4, 3) := pv_dec_of b17 (by decide +kernel)
theorem d17_16 : pv_dec 17 16 = some (.iconst 0, 1) := pv_dec_of b17 (by decide +kernel)
theorem d17_17 : pv_dec 17 17 = some (.ireturn, 1) := pv_dec_of b17 (by decide +kernel)
theorem o18 : pv_own 18 = "AngleNet$Tape" := by decide +kernel
theorem b18 : pv_bc 18 = prog_11_method_7_code := pv_bcof (i := 18) rfl
theorem m18 : pv_mL 18 = 1 := by decide +kernel
theorem tt18 : pv_rt 18 = some .int := by decide +kernel
theorem d18_0 : pv_dec 18 0 = some (.iload_n 0, 1) := pv_dec_of b18 (by decide +kernel)
theorem d18_1 : pv_dec 18 1 = some (.bipush 97, 2) := pv_dec_of b18 (by decide +kernel)
theorem d18_3 : pv_dec 18 3 = some (.if_icmp .lt 11, 3) := pv_dec_of b18 (by decide +kernel)
theorem d18_6 : pv_dec 18 6 = some (.iload_n 0, 1) := pv_dec_of b18 (by decide +kernel)
theorem d18_7 : pv_dec 18 7 = some (.bipush 122, 2) := pv_dec_of b18 (by decide +kernel)
theorem d18_9 : pv_dec 18 9 = some (.if_icmp .gt 5, 3) := pv_dec_of b18 (by decide +kernel)
theorem d18_12 : pv_dec 18 12 = some (.iconst 1, 1) := pv_dec_of b18 (by decide +kernel)
theorem d18_13 : pv_dec 18 13 = some (.ireturn, 1) := pv_dec_of b18 (by decide +kernel)
theorem d18_14 : pv_dec 18 14 = some (.iload_n 0, 1) := pv_dec_of b18 (by decide +kernel)
theorem d18_15 : pv_dec 18 15 = some (.bipush 48, 2) := pv_dec_of b18 (by decide +kernel)
theorem d18_17 : pv_dec 18 17 = some (.if_icmp .lt 11, 3) := pv_dec_of b18 (by decide +kernel)
theorem d18_20 : pv_dec 18 20 = some (.iload_n 0, 1) := pv_dec_of b18 (by decide +kernel)
theorem d18_21 : pv_dec 18 21 = some (.bipush 57, 2) := pv_dec_of b18 (by decide +kernel)
theorem d18_23 : pv_dec 18 23 = some (.if_icmp .gt 5, 3) := pv_dec_of b18 (by decide +kernel)
theorem d18_26 : pv_dec 18 26 = some (.iconst 2, 1) := pv_dec_of b18 (by decide +kernel)
theorem d18_27 : pv_dec 18 27 = some (.ireturn, 1) := pv_dec_of b18 (by decide +kernel)
theorem d18_28 : pv_dec 18 28 = some (.iload_n 0, 1) := pv_dec_of b18 (by decide +kernel)
theorem d18_29 : pv_dec 18 29 = some (.bipush 59, 2) := pv_dec_of b18 (by decide +kernel)
theorem d18_31 : pv_dec 18 31 = some (.if_icmp .ne 7, 3) := pv_dec_of b18 (by decide +kernel)
theorem d18_34 : pv_dec 18 34 = some (.iconst 3, 1) := pv_dec_of b18 (by decide +kernel)
theorem d18_35 : pv_dec 18 35 = some (.goto 4, 3) := pv_dec_of b18 (by decide +kernel)
theorem d18_38 : pv_dec 18 38 = some (.iconst 4, 1) := pv_dec_of b18 (by decide +kernel)
theorem d18_39 : pv_dec 18 39 = some (.ireturn, 1) := pv_dec_of b18 (by decide +kernel)
theorem o16 : pv_own 16 = "AngleNet$Tape" := by decide +kernel
theorem b16 : pv_bc 16 = prog_11_method_5_code := pv_bcof (i := 16) rfl
theorem m16 : pv_mL 16 = 1 := by decide +kernel
theorem tt16 : pv_rt 16 = none := by decide +kernel
theorem d16_0 : pv_dec 16 0 = some (.aload_n 0, 1) := pv_dec_of b16 (by decide +kernel)
theorem d16_1 : pv_dec 16 1 = some (.aload_n 0, 1) := pv_dec_of b16 (by decide +kernel)
theorem d16_2 : pv_dec 16 2 = some (.getfield 35, 3) := pv_dec_of b16 (by decide +kernel)
theorem d16_5 : pv_dec 16 5 = some (.putfield 52, 3) := pv_dec_of b16 (by decide +kernel)
theorem d16_8 : pv_dec 16 8 = some (.aload_n 0, 1) := pv_dec_of b16 (by decide +kernel)
theorem d16_9 : pv_dec 16 9 = some (.getfield 52, 3) := pv_dec_of b16 (by decide +kernel)
theorem d16_12 : pv_dec 16 12 = some (.aload_n 0, 1) := pv_dec_of b16 (by decide +kernel)
theorem d16_13 : pv_dec 16 13 = some (.getfield 26, 3) := pv_dec_of b16 (by decide +kernel)
theorem d16_16 : pv_dec 16 16 = some (.if_icmp .ge 31, 3) := pv_dec_of b16 (by decide +kernel)
theorem d16_19 : pv_dec 16 19 = some (.aload_n 0, 1) := pv_dec_of b16 (by decide +kernel)
theorem d16_20 : pv_dec 16 20 = some (.getfield 22, 3) := pv_dec_of b16 (by decide +kernel)
theorem d16_23 : pv_dec 16 23 = some (.aload_n 0, 1) := pv_dec_of b16 (by decide +kernel)
theorem d16_24 : pv_dec 16 24 = some (.getfield 52, 3) := pv_dec_of b16 (by decide +kernel)
theorem d16_27 : pv_dec 16 27 = some (.baload, 1) := pv_dec_of b16 (by decide +kernel)
theorem d16_28 : pv_dec 16 28 = some (.invokestatic 62, 3) := pv_dec_of b16 (by decide +kernel)
theorem d16_31 : pv_dec 16 31 = some (.ifCond .eq 16, 3) := pv_dec_of b16 (by decide +kernel)
theorem d16_34 : pv_dec 16 34 = some (.aload_n 0, 1) := pv_dec_of b16 (by decide +kernel)
theorem d16_35 : pv_dec 16 35 = some (.dup, 1) := pv_dec_of b16 (by decide +kernel)
theorem d16_36 : pv_dec 16 36 = some (.getfield 52, 3) := pv_dec_of b16 (by decide +kernel)
theorem d16_39 : pv_dec 16 39 = some (.iconst 1, 1) := pv_dec_of b16 (by decide +kernel)
theorem d16_40 : pv_dec 16 40 = some (.iadd, 1) := pv_dec_of b16 (by decide +kernel)
theorem d16_41 : pv_dec 16 41 = some (.putfield 52, 3) := pv_dec_of b16 (by decide +kernel)
theorem d16_44 : pv_dec 16 44 = some (.goto (-36), 3) := pv_dec_of b16 (by decide +kernel)
theorem d16_47 : pv_dec 16 47 = some (.aload_n 0, 1) := pv_dec_of b16 (by decide +kernel)
theorem d16_48 : pv_dec 16 48 = some (.getfield 52, 3) := pv_dec_of b16 (by decide +kernel)
theorem d16_51 : pv_dec 16 51 = some (.aload_n 0, 1) := pv_dec_of b16 (by decide +kernel)
theorem d16_52 : pv_dec 16 52 = some (.getfield 26, 3) := pv_dec_of b16 (by decide +kernel)
theorem d16_55 : pv_dec 16 55 = some (.if_icmp .lt 17, 3) := pv_dec_of b16 (by decide +kernel)
theorem d16_58 : pv_dec 16 58 = some (.aload_n 0, 1) := pv_dec_of b16 (by decide +kernel)
theorem d16_59 : pv_dec 16 59 = some (.iconst 0, 1) := pv_dec_of b16 (by decide +kernel)
theorem d16_60 : pv_dec 16 60 = some (.putfield 45, 3) := pv_dec_of b16 (by decide +kernel)
theorem d16_63 : pv_dec 16 63 = some (.aload_n 0, 1) := pv_dec_of b16 (by decide +kernel)
theorem d16_64 : pv_dec 16 64 = some (.aload_n 0, 1) := pv_dec_of b16 (by decide +kernel)
theorem d16_65 : pv_dec 16 65 = some (.getfield 52, 3) := pv_dec_of b16 (by decide +kernel)
theorem d16_68 : pv_dec 16 68 = some (.putfield 35, 3) := pv_dec_of b16 (by decide +kernel)
theorem d16_71 : pv_dec 16 71 = some (.return_, 1) := pv_dec_of b16 (by decide +kernel)
theorem d16_72 : pv_dec 16 72 = some (.aload_n 0, 1) := pv_dec_of b16 (by decide +kernel)
theorem d16_73 : pv_dec 16 73 = some (.aload_n 0, 1) := pv_dec_of b16 (by decide +kernel)
theorem d16_74 : pv_dec 16 74 = some (.getfield 22, 3) := pv_dec_of b16 (by decide +kernel)
theorem d16_77 : pv_dec 16 77 = some (.aload_n 0, 1) := pv_dec_of b16 (by decide +kernel)
theorem d16_78 : pv_dec 16 78 = some (.getfield 52, 3) := pv_dec_of b16 (by decide +kernel)
theorem d16_81 : pv_dec 16 81 = some (.baload, 1) := pv_dec_of b16 (by decide +kernel)
theorem d16_82 : pv_dec 16 82 = some (.invokestatic 66, 3) := pv_dec_of b16 (by decide +kernel)
theorem d16_85 : pv_dec 16 85 = some (.putfield 45, 3) := pv_dec_of b16 (by decide +kernel)
theorem d16_88 : pv_dec 16 88 = some (.aload_n 0, 1) := pv_dec_of b16 (by decide +kernel)
theorem d16_89 : pv_dec 16 89 = some (.aload_n 0, 1) := pv_dec_of b16 (by decide +kernel)
theorem d16_90 : pv_dec 16 90 = some (.getfield 52, 3) := pv_dec_of b16 (by decide +kernel)
theorem d16_93 : pv_dec 16 93 = some (.iconst 1, 1) := pv_dec_of b16 (by decide +kernel)
theorem d16_94 : pv_dec 16 94 = some (.iadd, 1) := pv_dec_of b16 (by decide +kernel)
theorem d16_95 : pv_dec 16 95 = some (.putfield 35, 3) := pv_dec_of b16 (by decide +kernel)
theorem d16_98 : pv_dec 16 98 = some (.aload_n 0, 1) := pv_dec_of b16 (by decide +kernel)
theorem d16_99 : pv_dec 16 99 = some (.getfield 35, 3) := pv_dec_of b16 (by decide +kernel)
theorem d16_102 : pv_dec 16 102 = some (.aload_n 0, 1) := pv_dec_of b16 (by decide +kernel)
theorem d16_103 : pv_dec 16 103 = some (.getfield 26, 3) := pv_dec_of b16 (by decide +kernel)
theorem d16_106 : pv_dec 16 106 = some (.if_icmp .ge 51, 3) := pv_dec_of b16 (by decide +kernel)
theorem d16_109 : pv_dec 16 109 = some (.aload_n 0, 1) := pv_dec_of b16 (by decide +kernel)
theorem d16_110 : pv_dec 16 110 = some (.getfield 45, 3) := pv_dec_of b16 (by decide +kernel)
theorem d16_113 : pv_dec 16 113 = some (.iconst 1, 1) := pv_dec_of b16 (by decide +kernel)
theorem d16_114 : pv_dec 16 114 = some (.if_icmp .eq 11, 3) := pv_dec_of b16 (by decide +kernel)
theorem d16_117 : pv_dec 16 117 = some (.aload_n 0, 1) := pv_dec_of b16 (by decide +kernel)
theorem d16_118 : pv_dec 16 118 = some (.getfield 45, 3) := pv_dec_of b16 (by decide +kernel)
theorem d16_121 : pv_dec 16 121 = some (.iconst 2, 1) := pv_dec_of b16 (by decide +kernel)
theorem d16_122 : pv_dec 16 122 = some (.if_icmp .ne 35, 3) := pv_dec_of b16 (by decide +kernel)
theorem d16_125 : pv_dec 16 125 = some (.aload_n 0, 1) := pv_dec_of b16 (by decide +kernel)
theorem d16_126 : pv_dec 16 126 = some (.getfield 22, 3) := pv_dec_of b16 (by decide +kernel)
theorem d16_129 : pv_dec 16 129 = some (.aload_n 0, 1) := pv_dec_of b16 (by decide +kernel)
theorem d16_130 : pv_dec 16 130 = some (.getfield 35, 3) := pv_dec_of b16 (by decide +kernel)
theorem d16_133 : pv_dec 16 133 = some (.baload, 1) := pv_dec_of b16 (by decide +kernel)
theorem d16_134 : pv_dec 16 134 = some (.invokestatic 66, 3) := pv_dec_of b16 (by decide +kernel)
theorem d16_137 : pv_dec 16 137 = some (.aload_n 0, 1) := pv_dec_of b16 (by decide +kernel)
theorem d16_138 : pv_dec 16 138 = some (.getfield 45, 3) := pv_dec_of b16 (by decide +kernel)
theorem d16_141 : pv_dec 16 141 = some (.if_icmp .ne 16, 3) := pv_dec_of b16 (by decide +kernel)
theorem d16_144 : pv_dec 16 144 = some (.aload_n 0, 1) := pv_dec_of b16 (by decide +kernel)
theorem d16_145 : pv_dec 16 145 = some (.dup, 1) := pv_dec_of b16 (by decide +kernel)
theorem d16_146 : pv_dec 16 146 = some (.getfield 35, 3) := pv_dec_of b16 (by decide +kernel)
theorem d16_149 : pv_dec 16 149 = some (.iconst 1, 1) := pv_dec_of b16 (by decide +kernel)
theorem d16_150 : pv_dec 16 150 = some (.iadd, 1) := pv_dec_of b16 (by decide +kernel)
theorem d16_151 : pv_dec 16 151 = some (.putfield 35, 3) := pv_dec_of b16 (by decide +kernel)
theorem d16_154 : pv_dec 16 154 = some (.goto (-56), 3) := pv_dec_of b16 (by decide +kernel)
theorem d16_157 : pv_dec 16 157 = some (.return_, 1) := pv_dec_of b16 (by decide +kernel)
theorem g16_22 : pv_gf 16 22 = some (1, 4) := pv_gfo_of o16 G3_22
theorem g16_26 : pv_gf 16 26 = some (1, 0) := pv_gfo_of o16 G3_26
theorem G3_35 : pv_gfo "AngleNet$Tape" 35 = some (1, 6) := by decide +kernel
theorem g16_35 : pv_gf 16 35 = some (1, 6) := pv_gfo_of o16 G3_35
theorem G3_45 : pv_gfo "AngleNet$Tape" 45 = some (1, 7) := by decide +kernel
theorem g16_45 : pv_gf 16 45 = some (1, 7) := pv_gfo_of o16 G3_45
theorem G3_52 : pv_gfo "AngleNet$Tape" 52 = some (1, 5) := by decide +kernel
theorem g16_52 : pv_gf 16 52 = some (1, 5) := pv_gfo_of o16 G3_52
theorem w1_5 : pv_ft 1 5 = some .int := by decide +kernel
theorem w1_6 : pv_ft 1 6 = some .int := by decide +kernel
theorem w1_7 : pv_ft 1 7 = some .int := by decide +kernel
theorem Y3_62 : pv_mlo "AngleNet$Tape" 62 = some (⟨"AngleNet$Tape", "isBlank", "(B)Z"⟩, none) := by decide +kernel
theorem Z17 : pv_cS 17 1 1 ⟨"AngleNet$Tape", "isBlank", "(B)Z"⟩ = true := by decide +kernel
theorem k16_62 : pv_kS 16 62 17 1 1 := pv_kS_of o16 Y3_62 Z17 (by decide +kernel)
theorem Y3_66 : pv_mlo "AngleNet$Tape" 66 = some (⟨"AngleNet$Tape", "kindOf", "(B)I"⟩, none) := by decide +kernel
theorem Z18 : pv_cS 18 1 1 ⟨"AngleNet$Tape", "kindOf", "(B)I"⟩ = true := by decide +kernel
theorem k16_66 : pv_kS 16 66 18 1 1 := pv_kS_of o16 Y3_66 Z18 (by decide +kernel)
theorem o35 : pv_own 35 = "AngleNet$Tape" := by decide +kernel
theorem b35 : pv_bc 35 = prog_11_method_8_code := pv_bcof (i := 35) rfl
theorem m35 : pv_mL 35 = 3 := by decide +kernel
theorem tt35 : pv_rt 35 = some .int := by decide +kernel
theorem d35_0 : pv_dec 35 0 = some (.iconst 0, 1) := pv_dec_of b35 (by decide +kernel)
theorem d35_1 : pv_dec 35 1 = some (.istore_n 1, 1) := pv_dec_of b35 (by decide +kernel)
theorem d35_2 : pv_dec 35 2 = some (.aload_n 0, 1) := pv_dec_of b35 (by decide +kernel)
theorem d35_3 : pv_dec 35 3 = some (.getfield 52, 3) := pv_dec_of b35 (by decide +kernel)
theorem d35_6 : pv_dec 35 6 = some (.istore_n 2, 1) := pv_dec_of b35 (by decide +kernel)
theorem d35_7 : pv_dec 35 7 = some (.iload_n 2, 1) := pv_dec_of b35 (by decide +kernel)
theorem d35_8 : pv_dec 35 8 = some (.aload_n 0, 1) := pv_dec_of b35 (by decide +kernel)
theorem d35_9 : pv_dec 35 9 = some (.getfield 35, 3) := pv_dec_of b35 (by decide +kernel)
theorem d35_12 : pv_dec 35 12 = some (.if_icmp .ge 35, 3) := pv_dec_of b35 (by decide +kernel)
theorem d35_15 : pv_dec 35 15 = some (.iload_n 1, 1) := pv_dec_of b35 (by decide +kernel)
theorem d35_16 : pv_dec 35 16 = some (.ldc 70, 2) := pv_dec_of b35 (by decide +kernel)
theorem KC3_70 : pv_kco "AngleNet$Tape" 70 = some (pv_I 1000000) := by decide +kernel
theorem n35_16 : pv_kc 35 70 = some (pv_I 1000000) := by rw [pv_kc, o35]; exact KC3_70
theorem d35_18 : pv_dec 35 18 = some (.if_icmp .ge 20, 3) := pv_dec_of b35 (by decide +kernel)
theorem d35_21 : pv_dec 35 21 = some (.bipush 10, 2) := pv_dec_of b35 (by decide +kernel)
theorem d35_23 : pv_dec 35 23 = some (.iload_n 1, 1) := pv_dec_of b35 (by decide +kernel)
theorem d35_24 : pv_dec 35 24 = some (.imul, 1) := pv_dec_of b35 (by decide +kernel)
theorem d35_25 : pv_dec 35 25 = some (.aload_n 0, 1) := pv_dec_of b35 (by decide +kernel)
theorem d35_26 : pv_dec 35 26 = some (.getfield 22, 3) := pv_dec_of b35 (by decide +kernel)
theorem d35_29 : pv_dec 35 29 = some (.iload_n 2, 1) := pv_dec_of b35 (by decide +kernel)
theorem d35_30 : pv_dec 35 30 = some (.baload, 1) := pv_dec_of b35 (by decide +kernel)
theorem d35_31 : pv_dec 35 31 = some (.iadd, 1) := pv_dec_of b35 (by decide +kernel)
theorem d35_32 : pv_dec 35 32 = some (.bipush 48, 2) := pv_dec_of b35 (by decide +kernel)
theorem d35_34 : pv_dec 35 34 = some (.isub, 1) := pv_dec_of b35 (by decide +kernel)
theorem d35_35 : pv_dec 35 35 = some (.goto 5, 3) := pv_dec_of b35 (by decide +kernel)
theorem d35_38 : pv_dec 35 38 = some (.ldc 70, 2) := pv_dec_of b35 (by decide +kernel)
theorem n35_38 : pv_kc 35 70 = some (pv_I 1000000) := by rw [pv_kc, o35]; exact KC3_70
theorem d35_40 : pv_dec 35 40 = some (.istore_n 1, 1) := pv_dec_of b35 (by decide +kernel)
theorem d35_41 : pv_dec 35 41 = some (.iinc 2 1, 3) := pv_dec_of b35 (by decide +kernel)
theorem d35_44 : pv_dec 35 44 = some (.goto (-37), 3) := pv_dec_of b35 (by decide +kernel)
theorem d35_47 : pv_dec 35 47 = some (.iload_n 1, 1) := pv_dec_of b35 (by decide +kernel)
theorem d35_48 : pv_dec 35 48 = some (.ireturn, 1) := pv_dec_of b35 (by decide +kernel)
theorem g35_22 : pv_gf 35 22 = some (1, 4) := pv_gfo_of o35 G3_22
theorem g35_35 : pv_gf 35 35 = some (1, 6) := pv_gfo_of o35 G3_35
theorem g35_52 : pv_gf 35 52 = some (1, 5) := pv_gfo_of o35 G3_52
theorem o20 : pv_own 20 = "AngleNet$Tape" := by decide +kernel
theorem b20 : pv_bc 20 = prog_11_method_9_code := pv_bcof (i := 20) rfl
theorem m20 : pv_mL 20 = 3 := by decide +kernel
theorem tt20 : pv_rt 20 = some .boolean := by decide +kernel
theorem d20_0 : pv_dec 20 0 = some (.aload_n 0, 1) := pv_dec_of b20 (by decide +kernel)
theorem d20_1 : pv_dec 20 1 = some (.getfield 45, 3) := pv_dec_of b20 (by decide +kernel)
theorem d20_4 : pv_dec 20 4 = some (.iconst 1, 1) := pv_dec_of b20 (by decide +kernel)
theorem d20_5 : pv_dec 20 5 = some (.if_icmp .ne 19, 3) := pv_dec_of b20 (by decide +kernel)
theorem d20_8 : pv_dec 20 8 = some (.aload_n 0, 1) := pv_dec_of b20 (by decide +kernel)
theorem d20_9 : pv_dec 20 9 = some (.getfield 35, 3) := pv_dec_of b20 (by decide +kernel)
theorem d20_12 : pv_dec 20 12 = some (.aload_n 0, 1) := pv_dec_of b20 (by decide +kernel)
theorem d20_13 : pv_dec 20 13 = some (.getfield 52, 3) := pv_dec_of b20 (by decide +kernel)
theorem d20_16 : pv_dec 20 16 = some (.isub, 1) := pv_dec_of b20 (by decide +kernel)
theorem d20_17 : pv_dec 20 17 = some (.aload_n 1, 1) := pv_dec_of b20 (by decide +kernel)
theorem d20_18 : pv_dec 20 18 = some (.invokevirtual 71, 3) := pv_dec_of b20 (by decide +kernel)
theorem d20_21 : pv_dec 20 21 = some (.if_icmp .eq 5, 3) := pv_dec_of b20 (by decide +kernel)
theorem d20_24 : pv_dec 20 24 = some (.iconst 0, 1) := pv_dec_of b20 (by decide +kernel)
theorem d20_25 : pv_dec 20 25 = some (.ireturn, 1) := pv_dec_of b20 (by decide +kernel)
theorem d20_26 : pv_dec 20 26 = some (.iconst 0, 1) := pv_dec_of b20 (by decide +kernel)
theorem d20_27 : pv_dec 20 27 = some (.istore_n 2, 1) := pv_dec_of b20 (by decide +kernel)
theorem d20_28 : pv_dec 20 28 = some (.iload_n 2, 1) := pv_dec_of b20 (by decide +kernel)
theorem d20_29 : pv_dec 20 29 = some (.aload_n 1, 1) := pv_dec_of b20 (by decide +kernel)
theorem d20_30 : pv_dec 20 30 = some (.invokevirtual 71, 3) := pv_dec_of b20 (by decide +kernel)
theorem d20_33 : pv_dec 20 33 = some (.if_icmp .ge 30, 3) := pv_dec_of b20 (by decide +kernel)
theorem d20_36 : pv_dec 20 36 = some (.aload_n 0, 1) := pv_dec_of b20 (by decide +kernel)
theorem d20_37 : pv_dec 20 37 = some (.getfield 22, 3) := pv_dec_of b20 (by decide +kernel)
theorem d20_40 : pv_dec 20 40 = some (.aload_n 0, 1) := pv_dec_of b20 (by decide +kernel)
theorem d20_41 : pv_dec 20 41 = some (.getfield 52, 3) := pv_dec_of b20 (by decide +kernel)
theorem d20_44 : pv_dec 20 44 = some (.iload_n 2, 1) := pv_dec_of b20 (by decide +kernel)
theorem d20_45 : pv_dec 20 45 = some (.iadd, 1) := pv_dec_of b20 (by decide +kernel)
theorem d20_46 : pv_dec 20 46 = some (.baload, 1) := pv_dec_of b20 (by decide +kernel)
theorem d20_47 : pv_dec 20 47 = some (.aload_n 1, 1) := pv_dec_of b20 (by decide +kernel)
theorem d20_48 : pv_dec 20 48 = some (.iload_n 2, 1) := pv_dec_of b20 (by decide +kernel)
theorem d20_49 : pv_dec 20 49 = some (.invokevirtual 76, 3) := pv_dec_of b20 (by decide +kernel)
theorem d20_52 : pv_dec 20 52 = some (.if_icmp .eq 5, 3) := pv_dec_of b20 (by decide +kernel)
theorem d20_55 : pv_dec 20 55 = some (.iconst 0, 1) := pv_dec_of b20 (by decide +kernel)
theorem d20_56 : pv_dec 20 56 = some (.ireturn, 1) := pv_dec_of b20 (by decide +kernel)
theorem d20_57 : pv_dec 20 57 = some (.iinc 2 1, 3) := pv_dec_of b20 (by decide +kernel)
theorem d20_60 : pv_dec 20 60 = some (.goto (-32), 3) := pv_dec_of b20 (by decide +kernel)
theorem d20_63 : pv_dec 20 63 = some (.aload_n 0, 1) := pv_dec_of b20 (by decide +kernel)
theorem d20_64 : pv_dec 20 64 = some (.invokevirtual 42, 3) := pv_dec_of b20 (by decide +kernel)
theorem d20_67 : pv_dec 20 67 = some (.iconst 1, 1) := pv_dec_of b20 (by decide +kernel)
theorem d20_68 : pv_dec 20 68 = some (.ireturn, 1) := pv_dec_of b20 (by decide +kernel)
theorem g20_22 : pv_gf 20 22 = some (1, 4) := pv_gfo_of o20 G3_22
theorem g20_35 : pv_gf 20 35 = some (1, 6) := pv_gfo_of o20 G3_35
theorem g20_45 : pv_gf 20 45 = some (1, 7) := pv_gfo_of o20 G3_45
theorem g20_52 : pv_gf 20 52 = some (1, 5) := pv_gfo_of o20 G3_52
theorem Y3_42 : pv_mlo "AngleNet$Tape" 42 = some (⟨"AngleNet$Tape", "advance", "()V"⟩, none) := by decide +kernel
theorem V16 : pv_cV 16 1 0 1 ⟨"AngleNet$Tape", "advance", "()V"⟩ = true := by decide +kernel
theorem k20_42 : pv_kV 20 42 16 1 0 1 := pv_kV_of o20 Y3_42 V16 (by decide +kernel)
theorem k20_71 : pv_kL 20 71 pv_sln = true := by decide +kernel
theorem k20_76 : pv_kL 20 76 pv_scn = true := by decide +kernel
theorem o33 : pv_own 33 = "AngleNet$Tape" := by decide +kernel
theorem b33 : pv_bc 33 = prog_11_method_10_code := pv_bcof (i := 33) rfl
theorem m33 : pv_mL 33 = 3 := by decide +kernel
theorem tt33 : pv_rt 33 = some .boolean := by decide +kernel
theorem d33_0 : pv_dec 33 0 = some (.aload_n 0, 1) := pv_dec_of b33 (by decide +kernel)
theorem d33_1 : pv_dec 33 1 = some (.getfield 45, 3) := pv_dec_of b33 (by decide +kernel)
theorem d33_4 : pv_dec 33 4 = some (.iconst 2, 1) := pv_dec_of b33 (by decide +kernel)
theorem d33_5 : pv_dec 33 5 = some (.if_icmp .eq 13, 3) := pv_dec_of b33 (by decide +kernel)
theorem d33_8 : pv_dec 33 8 = some (.aload_n 0, 1) := pv_dec_of b33 (by decide +kernel)
theorem d33_9 : pv_dec 33 9 = some (.iconst 1, 1) := pv_dec_of b33 (by decide +kernel)
theorem d33_10 : pv_dec 33 10 = some (.aload_n 0, 1) := pv_dec_of b33 (by decide +kernel)
theorem d33_11 : pv_dec 33 11 = some (.getfield 52, 3) := pv_dec_of b33 (by decide +kernel)
theorem d33_14 : pv_dec 33 14 = some (.invokevirtual 55, 3) := pv_dec_of b33 (by decide +kernel)
theorem d33_17 : pv_dec 33 17 = some (.ireturn, 1) := pv_dec_of b33 (by decide +kernel)
theorem d33_18 : pv_dec 33 18 = some (.aload_n 0, 1) := pv_dec_of b33 (by decide +kernel)
theorem d33_19 : pv_dec 33 19 = some (.aload_n 0, 1) := pv_dec_of b33 (by decide +kernel)
theorem d33_20 : pv_dec 33 20 = some (.invokevirtual 80, 3) := pv_dec_of b33 (by decide +kernel)
theorem d33_23 : pv_dec 33 23 = some (.putfield 83, 3) := pv_dec_of b33 (by decide +kernel)
theorem d33_26 : pv_dec 33 26 = some (.aload_n 0, 1) := pv_dec_of b33 (by decide +kernel)
theorem d33_27 : pv_dec 33 27 = some (.aload_n 0, 1) := pv_dec_of b33 (by decide +kernel)
theorem d33_28 : pv_dec 33 28 = some (.getfield 52, 3) := pv_dec_of b33 (by decide +kernel)
theorem d33_31 : pv_dec 33 31 = some (.putfield 86, 3) := pv_dec_of b33 (by decide +kernel)
theorem d33_34 : pv_dec 33 34 = some (.aload_n 0, 1) := pv_dec_of b33 (by decide +kernel)
theorem d33_35 : pv_dec 33 35 = some (.getfield 83, 3) := pv_dec_of b33 (by decide +kernel)
theorem d33_38 : pv_dec 33 38 = some (.iload_n 1, 1) := pv_dec_of b33 (by decide +kernel)
theorem d33_39 : pv_dec 33 39 = some (.if_icmp .lt 11, 3) := pv_dec_of b33 (by decide +kernel)
theorem d33_42 : pv_dec 33 42 = some (.aload_n 0, 1) := pv_dec_of b33 (by decide +kernel)
theorem d33_43 : pv_dec 33 43 = some (.getfield 83, 3) := pv_dec_of b33 (by decide +kernel)
theorem d33_46 : pv_dec 33 46 = some (.iload_n 2, 1) := pv_dec_of b33 (by decide +kernel)
theorem d33_47 : pv_dec 33 47 = some (.if_icmp .le 13, 3) := pv_dec_of b33 (by decide +kernel)
theorem d33_50 : pv_dec 33 50 = some (.aload_n 0, 1) := pv_dec_of b33 (by decide +kernel)
theorem d33_51 : pv_dec 33 51 = some (.iconst 2, 1) := pv_dec_of b33 (by decide +kernel)
theorem d33_52 : pv_dec 33 52 = some (.aload_n 0, 1) := pv_dec_of b33 (by decide +kernel)
theorem d33_53 : pv_dec 33 53 = some (.getfield 86, 3) := pv_dec_of b33 (by decide +kernel)
theorem d33_56 : pv_dec 33 56 = some (.invokevirtual 55, 3) := pv_dec_of b33 (by decide +kernel)
theorem d33_59 : pv_dec 33 59 = some (.ireturn, 1) := pv_dec_of b33 (by decide +kernel)
theorem d33_60 : pv_dec 33 60 = some (.aload_n 0, 1) := pv_dec_of b33 (by decide +kernel)
theorem d33_61 : pv_dec 33 61 = some (.invokevirtual 42, 3) := pv_dec_of b33 (by decide +kernel)
theorem d33_64 : pv_dec 33 64 = some (.iconst 1, 1) := pv_dec_of b33 (by decide +kernel)
theorem d33_65 : pv_dec 33 65 = some (.ireturn, 1) := pv_dec_of b33 (by decide +kernel)
theorem g33_45 : pv_gf 33 45 = some (1, 7) := pv_gfo_of o33 G3_45
theorem g33_52 : pv_gf 33 52 = some (1, 5) := pv_gfo_of o33 G3_52
theorem G3_83 : pv_gfo "AngleNet$Tape" 83 = some (1, 8) := by decide +kernel
theorem g33_83 : pv_gf 33 83 = some (1, 8) := pv_gfo_of o33 G3_83
theorem G3_86 : pv_gfo "AngleNet$Tape" 86 = some (1, 9) := by decide +kernel
theorem g33_86 : pv_gf 33 86 = some (1, 9) := pv_gfo_of o33 G3_86
theorem w1_8 : pv_ft 1 8 = some .int := by decide +kernel
theorem w1_9 : pv_ft 1 9 = some .int := by decide +kernel
theorem k33_42 : pv_kV 33 42 16 1 0 1 := pv_kV_of o33 Y3_42 V16 (by decide +kernel)
theorem Y3_55 : pv_mlo "AngleNet$Tape" 55 = some (⟨"AngleNet$Tape", "fail", "(II)Z"⟩, none) := by decide +kernel
theorem V34 : pv_cV 34 1 2 3 ⟨"AngleNet$Tape", "fail", "(II)Z"⟩ = true := by decide +kernel
theorem k33_55 : pv_kV 33 55 34 1 2 3 := pv_kV_of o33 Y3_55 V34 (by decide +kernel)
theorem Y3_80 : pv_mlo "AngleNet$Tape" 80 = some (⟨"AngleNet$Tape", "valueOfToken", "()I"⟩, none) := by decide +kernel
theorem V35 : pv_cV 35 1 0 3 ⟨"AngleNet$Tape", "valueOfToken", "()I"⟩ = true := by decide +kernel
theorem k33_80 : pv_kV 33 80 35 1 0 3 := pv_kV_of o33 Y3_80 V35 (by decide +kernel)
theorem o38 : pv_own 38 = "AngleNet$Tape" := by decide +kernel
theorem b38 : pv_bc 38 = prog_11_method_11_code := pv_bcof (i := 38) rfl
theorem m38 : pv_mL 38 = 1 := by decide +kernel
theorem tt38 : pv_rt 38 = some .boolean := by decide +kernel
theorem d38_0 : pv_dec 38 0 = some (.aload_n 0, 1) := pv_dec_of b38 (by decide +kernel)
theorem d38_1 : pv_dec 38 1 = some (.iconst 0, 1) := pv_dec_of b38 (by decide +kernel)
theorem d38_2 : pv_dec 38 2 = some (.aload_n 0, 1) := pv_dec_of b38 (by decide +kernel)
theorem d38_3 : pv_dec 38 3 = some (.getfield 18, 3) := pv_dec_of b38 (by decide +kernel)
theorem d38_6 : pv_dec 38 6 = some (.getfield 89, 3) := pv_dec_of b38 (by decide +kernel)
theorem d38_9 : pv_dec 38 9 = some (.iconst 1, 1) := pv_dec_of b38 (by decide +kernel)
theorem d38_10 : pv_dec 38 10 = some (.isub, 1) := pv_dec_of b38 (by decide +kernel)
theorem d38_11 : pv_dec 38 11 = some (.invokevirtual 92, 3) := pv_dec_of b38 (by decide +kernel)
theorem d38_14 : pv_dec 38 14 = some (.ireturn, 1) := pv_dec_of b38 (by decide +kernel)
theorem G3_18 : pv_gfo "AngleNet$Tape" 18 = some (1, 3) := by decide +kernel
theorem g38_18 : pv_gf 38 18 = some (1, 3) := pv_gfo_of o38 G3_18
theorem G3_89 : pv_gfo "AngleNet$Tape" 89 = some (2, 0) := by decide +kernel
theorem g38_89 : pv_gf 38 89 = some (2, 0) := pv_gfo_of o38 G3_89
theorem Y3_92 : pv_mlo "AngleNet$Tape" 92 = some (⟨"AngleNet$Tape", "takeNumber", "(II)Z"⟩, none) := by decide +kernel
theorem V33 : pv_cV 33 1 2 3 ⟨"AngleNet$Tape", "takeNumber", "(II)Z"⟩ = true := by decide +kernel
theorem k38_92 : pv_kV 38 92 33 1 2 3 := pv_kV_of o38 Y3_92 V33 (by decide +kernel)
theorem o32 : pv_own 32 = "AngleNet$Tape" := by decide +kernel
theorem b32 : pv_bc 32 = prog_11_method_13_code := pv_bcof (i := 32) rfl
theorem m32 : pv_mL 32 = 1 := by decide +kernel
theorem tt32 : pv_rt 32 = some .boolean := by decide +kernel
theorem d32_0 : pv_dec 32 0 = some (.aload_n 0, 1) := pv_dec_of b32 (by decide +kernel)
theorem d32_1 : pv_dec 32 1 = some (.iconst 3, 1) := pv_dec_of b32 (by decide +kernel)
theorem d32_2 : pv_dec 32 2 = some (.bipush 10, 2) := pv_dec_of b32 (by decide +kernel)
theorem d32_4 : pv_dec 32 4 = some (.invokevirtual 92, 3) := pv_dec_of b32 (by decide +kernel)
theorem d32_7 : pv_dec 32 7 = some (.ifCond .ne 5, 3) := pv_dec_of b32 (by decide +kernel)
theorem d32_10 : pv_dec 32 10 = some (.iconst 0, 1) := pv_dec_of b32 (by decide +kernel)
theorem d32_11 : pv_dec 32 11 = some (.ireturn, 1) := pv_dec_of b32 (by decide +kernel)
theorem d32_12 : pv_dec 32 12 = some (.aload_n 0, 1) := pv_dec_of b32 (by decide +kernel)
theorem d32_13 : pv_dec 32 13 = some (.getfield 18, 3) := pv_dec_of b32 (by decide +kernel)
theorem d32_16 : pv_dec 32 16 = some (.aload_n 0, 1) := pv_dec_of b32 (by decide +kernel)
theorem d32_17 : pv_dec 32 17 = some (.getfield 83, 3) := pv_dec_of b32 (by decide +kernel)
theorem d32_20 : pv_dec 32 20 = some (.invokevirtual 135, 3) := pv_dec_of b32 (by decide +kernel)
theorem d32_23 : pv_dec 32 23 = some (.iconst 1, 1) := pv_dec_of b32 (by decide +kernel)
theorem d32_24 : pv_dec 32 24 = some (.ireturn, 1) := pv_dec_of b32 (by decide +kernel)
theorem g32_18 : pv_gf 32 18 = some (1, 3) := pv_gfo_of o32 G3_18
theorem g32_83 : pv_gf 32 83 = some (1, 8) := pv_gfo_of o32 G3_83
theorem Y3_135 : pv_mlo "AngleNet$Tape" 135 = some (⟨"AngleNet$Net", "begin", "(I)V"⟩, none) := by decide +kernel
theorem V36 : pv_cV 36 2 1 2 ⟨"AngleNet$Net", "begin", "(I)V"⟩ = true := by decide +kernel
theorem k32_135 : pv_kV 32 135 36 2 1 2 := pv_kV_of o32 Y3_135 V36 (by decide +kernel)
theorem k32_92 : pv_kV 32 92 33 1 2 3 := pv_kV_of o32 Y3_92 V33 (by decide +kernel)
theorem o41 : pv_own 41 = "AngleNet$Tape" := by decide +kernel
theorem b41 : pv_bc 41 = prog_11_method_15_code := pv_bcof (i := 41) rfl
theorem m41 : pv_mL 41 = 5 := by decide +kernel
theorem tt41 : pv_rt 41 = some .boolean := by decide +kernel
theorem d41_0 : pv_dec 41 0 = some (.sipush 180, 3) := pv_dec_of b41 (by decide +kernel)
theorem d41_3 : pv_dec 41 3 = some (.istore 4, 2) := pv_dec_of b41 (by decide +kernel)
theorem d41_5 : pv_dec 41 5 = some (.aload_n 0, 1) := pv_dec_of b41 (by decide +kernel)
theorem d41_6 : pv_dec 41 6 = some (.ldc 149, 2) := pv_dec_of b41 (by decide +kernel)
theorem KS3_149 : pv_kco "AngleNet$Tape" 149 = none ∧ pv_kso "AngleNet$Tape" 149 = some 7 := by decide +kernel
theorem n41_6 : pv_kc 41 149 = none ∧ pv_ks 41 149 = some 7 := by rw [pv_kc, pv_ks, o41]; exact KS3_149
theorem d41_8 : pv_dec 41 8 = some (.invokevirtual 96, 3) := pv_dec_of b41 (by decide +kernel)
theorem d41_11 : pv_dec 41 11 = some (.ifCond .eq 22, 3) := pv_dec_of b41 (by decide +kernel)
theorem d41_14 : pv_dec 41 14 = some (.aload_n 0, 1) := pv_dec_of b41 (by decide +kernel)
theorem d41_15 : pv_dec 41 15 = some (.iconst 3, 1) := pv_dec_of b41 (by decide +kernel)
theorem d41_16 : pv_dec 41 16 = some (.sipush 540, 3) := pv_dec_of b41 (by decide +kernel)
theorem d41_19 : pv_dec 41 19 = some (.invokevirtual 92, 3) := pv_dec_of b41 (by decide +kernel)
theorem d41_22 : pv_dec 41 22 = some (.ifCond .ne 5, 3) := pv_dec_of b41 (by decide +kernel)
theorem d41_25 : pv_dec 41 25 = some (.iconst 0, 1) := pv_dec_of b41 (by decide +kernel)
theorem d41_26 : pv_dec 41 26 = some (.ireturn, 1) := pv_dec_of b41 (by decide +kernel)
theorem d41_27 : pv_dec 41 27 = some (.aload_n 0, 1) := pv_dec_of b41 (by decide +kernel)
theorem d41_28 : pv_dec 41 28 = some (.getfield 83, 3) := pv_dec_of b41 (by decide +kernel)
theorem d41_31 : pv_dec 41 31 = some (.istore 4, 2) := pv_dec_of b41 (by decide +kernel)
theorem d41_33 : pv_dec 41 33 = some (.aload_n 0, 1) := pv_dec_of b41 (by decide +kernel)
theorem d41_34 : pv_dec 41 34 = some (.getfield 18, 3) := pv_dec_of b41 (by decide +kernel)
theorem d41_37 : pv_dec 41 37 = some (.aload_n 0, 1) := pv_dec_of b41 (by decide +kernel)
theorem d41_38 : pv_dec 41 38 = some (.getfield 18, 3) := pv_dec_of b41 (by decide +kernel)
theorem d41_41 : pv_dec 41 41 = some (.getfield 105, 3) := pv_dec_of b41 (by decide +kernel)
theorem d41_44 : pv_dec 41 44 = some (.iload_n 1, 1) := pv_dec_of b41 (by decide +kernel)
theorem d41_45 : pv_dec 41 45 = some (.iload_n 2, 1) := pv_dec_of b41 (by decide +kernel)
theorem d41_46 : pv_dec 41 46 = some (.iload_n 3, 1) := pv_dec_of b41 (by decide +kernel)
theorem d41_47 : pv_dec 41 47 = some (.iload 4, 2) := pv_dec_of b41 (by decide +kernel)
theorem d41_49 : pv_dec 41 49 = some (.invokevirtual 151, 3) := pv_dec_of b41 (by decide +kernel)
theorem d41_52 : pv_dec 41 52 = some (.aload_n 0, 1) := pv_dec_of b41 (by decide +kernel)
theorem d41_53 : pv_dec 41 53 = some (.getfield 18, 3) := pv_dec_of b41 (by decide +kernel)
theorem d41_56 : pv_dec 41 56 = some (.dup, 1) := pv_dec_of b41 (by decide +kernel)
theorem d41_57 : pv_dec 41 57 = some (.getfield 105, 3) := pv_dec_of b41 (by decide +kernel)
theorem d41_60 : pv_dec 41 60 = some (.iconst 1, 1) := pv_dec_of b41 (by decide +kernel)
theorem d41_61 : pv_dec 41 61 = some (.iadd, 1) := pv_dec_of b41 (by decide +kernel)
theorem d41_62 : pv_dec 41 62 = some (.putfield 105, 3) := pv_dec_of b41 (by decide +kernel)
theorem d41_65 : pv_dec 41 65 = some (.iconst 1, 1) := pv_dec_of b41 (by decide +kernel)
theorem d41_66 : pv_dec 41 66 = some (.ireturn, 1) := pv_dec_of b41 (by decide +kernel)
theorem g41_18 : pv_gf 41 18 = some (1, 3) := pv_gfo_of o41 G3_18
theorem g41_83 : pv_gf 41 83 = some (1, 8) := pv_gfo_of o41 G3_83
theorem G3_105 : pv_gfo "AngleNet$Tape" 105 = some (2, 1) := by decide +kernel
theorem g41_105 : pv_gf 41 105 = some (2, 1) := pv_gfo_of o41 G3_105
theorem Y3_151 : pv_mlo "AngleNet$Tape" 151 = some (⟨"AngleNet$Net", "putThird", "(IIIII)V"⟩, none) := by decide +kernel
theorem V42 : pv_cV 42 2 5 6 ⟨"AngleNet$Net", "putThird", "(IIIII)V"⟩ = true := by decide +kernel
theorem k41_151 : pv_kV 41 151 42 2 5 6 := pv_kV_of o41 Y3_151 V42 (by decide +kernel)
theorem k41_92 : pv_kV 41 92 33 1 2 3 := pv_kV_of o41 Y3_92 V33 (by decide +kernel)
theorem Y3_96 : pv_mlo "AngleNet$Tape" 96 = some (⟨"AngleNet$Tape", "takeWord", "(Ljava/lang/String;)Z"⟩, none) := by decide +kernel
theorem V20 : pv_cV 20 1 1 3 ⟨"AngleNet$Tape", "takeWord", "(Ljava/lang/String;)Z"⟩ = true := by decide +kernel
theorem k41_96 : pv_kV 41 96 20 1 1 3 := pv_kV_of o41 Y3_96 V20 (by decide +kernel)
theorem o37 : pv_own 37 = "AngleNet$Tape" := by decide +kernel
theorem b37 : pv_bc 37 = prog_11_method_14_code := pv_bcof (i := 37) rfl
theorem m37 : pv_mL 37 = 4 := by decide +kernel
theorem tt37 : pv_rt 37 = some .boolean := by decide +kernel
theorem d37_0 : pv_dec 37 0 = some (.aload_n 0, 1) := pv_dec_of b37 (by decide +kernel)
theorem d37_1 : pv_dec 37 1 = some (.invokevirtual 139, 3) := pv_dec_of b37 (by decide +kernel)
theorem d37_4 : pv_dec 37 4 = some (.ifCond .ne 5, 3) := pv_dec_of b37 (by decide +kernel)
theorem d37_7 : pv_dec 37 7 = some (.iconst 0, 1) := pv_dec_of b37 (by decide +kernel)
theorem d37_8 : pv_dec 37 8 = some (.ireturn, 1) := pv_dec_of b37 (by decide +kernel)
theorem d37_9 : pv_dec 37 9 = some (.aload_n 0, 1) := pv_dec_of b37 (by decide +kernel)
theorem d37_10 : pv_dec 37 10 = some (.getfield 83, 3) := pv_dec_of b37 (by decide +kernel)
theorem d37_13 : pv_dec 37 13 = some (.istore_n 1, 1) := pv_dec_of b37 (by decide +kernel)
theorem d37_14 : pv_dec 37 14 = some (.aload_n 0, 1) := pv_dec_of b37 (by decide +kernel)
theorem d37_15 : pv_dec 37 15 = some (.invokevirtual 139, 3) := pv_dec_of b37 (by decide +kernel)
theorem d37_18 : pv_dec 37 18 = some (.ifCond .ne 5, 3) := pv_dec_of b37 (by decide +kernel)
theorem d37_21 : pv_dec 37 21 = some (.iconst 0, 1) := pv_dec_of b37 (by decide +kernel)
theorem d37_22 : pv_dec 37 22 = some (.ireturn, 1) := pv_dec_of b37 (by decide +kernel)
theorem d37_23 : pv_dec 37 23 = some (.aload_n 0, 1) := pv_dec_of b37 (by decide +kernel)
theorem d37_24 : pv_dec 37 24 = some (.getfield 83, 3) := pv_dec_of b37 (by decide +kernel)
theorem d37_27 : pv_dec 37 27 = some (.istore_n 2, 1) := pv_dec_of b37 (by decide +kernel)
theorem d37_28 : pv_dec 37 28 = some (.iload_n 2, 1) := pv_dec_of b37 (by decide +kernel)
theorem d37_29 : pv_dec 37 29 = some (.iload_n 1, 1) := pv_dec_of b37 (by decide +kernel)
theorem d37_30 : pv_dec 37 30 = some (.if_icmp .ne 13, 3) := pv_dec_of b37 (by decide +kernel)
theorem d37_33 : pv_dec 37 33 = some (.aload_n 0, 1) := pv_dec_of b37 (by decide +kernel)
theorem d37_34 : pv_dec 37 34 = some (.iconst 2, 1) := pv_dec_of b37 (by decide +kernel)
theorem d37_35 : pv_dec 37 35 = some (.aload_n 0, 1) := pv_dec_of b37 (by decide +kernel)
theorem d37_36 : pv_dec 37 36 = some (.getfield 86, 3) := pv_dec_of b37 (by decide +kernel)
theorem d37_39 : pv_dec 37 39 = some (.invokevirtual 55, 3) := pv_dec_of b37 (by decide +kernel)
theorem d37_42 : pv_dec 37 42 = some (.ireturn, 1) := pv_dec_of b37 (by decide +kernel)
theorem d37_43 : pv_dec 37 43 = some (.aload_n 0, 1) := pv_dec_of b37 (by decide +kernel)
theorem d37_44 : pv_dec 37 44 = some (.invokevirtual 139, 3) := pv_dec_of b37 (by decide +kernel)
theorem d37_47 : pv_dec 37 47 = some (.ifCond .ne 5, 3) := pv_dec_of b37 (by decide +kernel)
theorem d37_50 : pv_dec 37 50 = some (.iconst 0, 1) := pv_dec_of b37 (by decide +kernel)
theorem d37_51 : pv_dec 37 51 = some (.ireturn, 1) := pv_dec_of b37 (by decide +kernel)
theorem d37_52 : pv_dec 37 52 = some (.aload_n 0, 1) := pv_dec_of b37 (by decide +kernel)
theorem d37_53 : pv_dec 37 53 = some (.getfield 83, 3) := pv_dec_of b37 (by decide +kernel)
theorem d37_56 : pv_dec 37 56 = some (.istore_n 3, 1) := pv_dec_of b37 (by decide +kernel)
theorem d37_57 : pv_dec 37 57 = some (.iload_n 3, 1) := pv_dec_of b37 (by decide +kernel)
theorem d37_58 : pv_dec 37 58 = some (.iload_n 1, 1) := pv_dec_of b37 (by decide +kernel)
theorem d37_59 : pv_dec 37 59 = some (.if_icmp .eq 21, 3) := pv_dec_of b37 (by decide +kernel)
theorem d37_62 : pv_dec 37 62 = some (.iload_n 3, 1) := pv_dec_of b37 (by decide +kernel)
theorem d37_63 : pv_dec 37 63 = some (.iload_n 2, 1) := pv_dec_of b37 (by decide +kernel)
theorem d37_64 : pv_dec 37 64 = some (.if_icmp .eq 16, 3) := pv_dec_of b37 (by decide +kernel)
theorem d37_67 : pv_dec 37 67 = some (.aload_n 0, 1) := pv_dec_of b37 (by decide +kernel)
theorem d37_68 : pv_dec 37 68 = some (.getfield 18, 3) := pv_dec_of b37 (by decide +kernel)
theorem d37_71 : pv_dec 37 71 = some (.iload_n 1, 1) := pv_dec_of b37 (by decide +kernel)
theorem d37_72 : pv_dec 37 72 = some (.iload_n 2, 1) := pv_dec_of b37 (by decide +kernel)
theorem d37_73 : pv_dec 37 73 = some (.iload_n 3, 1) := pv_dec_of b37 (by decide +kernel)
theorem d37_74 : pv_dec 37 74 = some (.invokevirtual 142, 3) := pv_dec_of b37 (by decide +kernel)
theorem d37_77 : pv_dec 37 77 = some (.ifCond .ne 13, 3) := pv_dec_of b37 (by decide +kernel)
theorem d37_80 : pv_dec 37 80 = some (.aload_n 0, 1) := pv_dec_of b37 (by decide +kernel)
theorem d37_81 : pv_dec 37 81 = some (.iconst 2, 1) := pv_dec_of b37 (by decide +kernel)
theorem d37_82 : pv_dec 37 82 = some (.aload_n 0, 1) := pv_dec_of b37 (by decide +kernel)
theorem d37_83 : pv_dec 37 83 = some (.getfield 86, 3) := pv_dec_of b37 (by decide +kernel)
theorem d37_86 : pv_dec 37 86 = some (.invokevirtual 55, 3) := pv_dec_of b37 (by decide +kernel)
theorem d37_89 : pv_dec 37 89 = some (.ireturn, 1) := pv_dec_of b37 (by decide +kernel)
theorem d37_90 : pv_dec 37 90 = some (.aload_n 0, 1) := pv_dec_of b37 (by decide +kernel)
theorem d37_91 : pv_dec 37 91 = some (.iload_n 1, 1) := pv_dec_of b37 (by decide +kernel)
theorem d37_92 : pv_dec 37 92 = some (.iload_n 2, 1) := pv_dec_of b37 (by decide +kernel)
theorem d37_93 : pv_dec 37 93 = some (.iload_n 3, 1) := pv_dec_of b37 (by decide +kernel)
theorem d37_94 : pv_dec 37 94 = some (.invokevirtual 146, 3) := pv_dec_of b37 (by decide +kernel)
theorem d37_97 : pv_dec 37 97 = some (.ireturn, 1) := pv_dec_of b37 (by decide +kernel)
theorem g37_18 : pv_gf 37 18 = some (1, 3) := pv_gfo_of o37 G3_18
theorem g37_83 : pv_gf 37 83 = some (1, 8) := pv_gfo_of o37 G3_83
theorem g37_86 : pv_gf 37 86 = some (1, 9) := pv_gfo_of o37 G3_86
theorem Y3_139 : pv_mlo "AngleNet$Tape" 139 = some (⟨"AngleNet$Tape", "takePost", "()Z"⟩, none) := by decide +kernel
theorem V38 : pv_cV 38 1 0 1 ⟨"AngleNet$Tape", "takePost", "()Z"⟩ = true := by decide +kernel
theorem k37_139 : pv_kV 37 139 38 1 0 1 := pv_kV_of o37 Y3_139 V38 (by decide +kernel)
theorem Y3_142 : pv_mlo "AngleNet$Tape" 142 = some (⟨"AngleNet$Net", "takesThird", "(III)Z"⟩, none) := by decide +kernel
theorem V39 : pv_cV 39 2 3 6 ⟨"AngleNet$Net", "takesThird", "(III)Z"⟩ = true := by decide +kernel
theorem k37_142 : pv_kV 37 142 39 2 3 6 := pv_kV_of o37 Y3_142 V39 (by decide +kernel)
theorem Y3_146 : pv_mlo "AngleNet$Tape" 146 = some (⟨"AngleNet$Tape", "readSum", "(III)Z"⟩, none) := by decide +kernel
theorem V41 : pv_cV 41 1 3 5 ⟨"AngleNet$Tape", "readSum", "(III)Z"⟩ = true := by decide +kernel
theorem k37_146 : pv_kV 37 146 41 1 3 5 := pv_kV_of o37 Y3_146 V41 (by decide +kernel)
theorem k37_55 : pv_kV 37 55 34 1 2 3 := pv_kV_of o37 Y3_55 V34 (by decide +kernel)
theorem o44 : pv_own 44 = "AngleNet$Tape" := by decide +kernel
theorem b44 : pv_bc 44 = prog_11_method_16_code := pv_bcof (i := 44) rfl
theorem m44 : pv_mL 44 = 2 := by decide +kernel
theorem tt44 : pv_rt 44 = some .boolean := by decide +kernel
theorem d44_0 : pv_dec 44 0 = some (.aload_n 0, 1) := pv_dec_of b44 (by decide +kernel)
theorem d44_1 : pv_dec 44 1 = some (.invokevirtual 139, 3) := pv_dec_of b44 (by decide +kernel)
theorem d44_4 : pv_dec 44 4 = some (.ifCond .ne 5, 3) := pv_dec_of b44 (by decide +kernel)
theorem d44_7 : pv_dec 44 7 = some (.iconst 0, 1) := pv_dec_of b44 (by decide +kernel)
theorem d44_8 : pv_dec 44 8 = some (.ireturn, 1) := pv_dec_of b44 (by decide +kernel)
theorem d44_9 : pv_dec 44 9 = some (.aload_n 0, 1) := pv_dec_of b44 (by decide +kernel)
theorem d44_10 : pv_dec 44 10 = some (.getfield 83, 3) := pv_dec_of b44 (by decide +kernel)
theorem d44_13 : pv_dec 44 13 = some (.istore_n 1, 1) := pv_dec_of b44 (by decide +kernel)
theorem d44_14 : pv_dec 44 14 = some (.aload_n 0, 1) := pv_dec_of b44 (by decide +kernel)
theorem d44_15 : pv_dec 44 15 = some (.iconst 1, 1) := pv_dec_of b44 (by decide +kernel)
theorem d44_16 : pv_dec 44 16 = some (.sipush 3600, 3) := pv_dec_of b44 (by decide +kernel)
theorem d44_19 : pv_dec 44 19 = some (.invokevirtual 92, 3) := pv_dec_of b44 (by decide +kernel)
theorem d44_22 : pv_dec 44 22 = some (.ifCond .ne 5, 3) := pv_dec_of b44 (by decide +kernel)
theorem d44_25 : pv_dec 44 25 = some (.iconst 0, 1) := pv_dec_of b44 (by decide +kernel)
theorem d44_26 : pv_dec 44 26 = some (.ireturn, 1) := pv_dec_of b44 (by decide +kernel)
theorem d44_27 : pv_dec 44 27 = some (.aload_n 0, 1) := pv_dec_of b44 (by decide +kernel)
theorem d44_28 : pv_dec 44 28 = some (.getfield 18, 3) := pv_dec_of b44 (by decide +kernel)
theorem d44_31 : pv_dec 44 31 = some (.getfield 155, 3) := pv_dec_of b44 (by decide +kernel)
theorem d44_34 : pv_dec 44 34 = some (.iload_n 1, 1) := pv_dec_of b44 (by decide +kernel)
theorem d44_35 : pv_dec 44 35 = some (.aload_n 0, 1) := pv_dec_of b44 (by decide +kernel)
theorem d44_36 : pv_dec 44 36 = some (.getfield 83, 3) := pv_dec_of b44 (by decide +kernel)
theorem d44_39 : pv_dec 44 39 = some (.iastore, 1) := pv_dec_of b44 (by decide +kernel)
theorem d44_40 : pv_dec 44 40 = some (.iconst 1, 1) := pv_dec_of b44 (by decide +kernel)
theorem d44_41 : pv_dec 44 41 = some (.ireturn, 1) := pv_dec_of b44 (by decide +kernel)
theorem g44_18 : pv_gf 44 18 = some (1, 3) := pv_gfo_of o44 G3_18
theorem g44_83 : pv_gf 44 83 = some (1, 8) := pv_gfo_of o44 G3_83
theorem G3_155 : pv_gfo "AngleNet$Tape" 155 = some (2, 7) := by decide +kernel
theorem g44_155 : pv_gf 44 155 = some (2, 7) := pv_gfo_of o44 G3_155
theorem k44_139 : pv_kV 44 139 38 1 0 1 := pv_kV_of o44 Y3_139 V38 (by decide +kernel)
theorem k44_92 : pv_kV 44 92 33 1 2 3 := pv_kV_of o44 Y3_92 V33 (by decide +kernel)
theorem o45 : pv_own 45 = "AngleNet$Tape" := by decide +kernel
theorem b45 : pv_bc 45 = prog_11_method_17_code := pv_bcof (i := 45) rfl
theorem m45 : pv_mL 45 = 2 := by decide +kernel
theorem tt45 : pv_rt 45 = some .boolean := by decide +kernel
theorem d45_0 : pv_dec 45 0 = some (.aload_n 0, 1) := pv_dec_of b45 (by decide +kernel)
theorem d45_1 : pv_dec 45 1 = some (.iconst 1, 1) := pv_dec_of b45 (by decide +kernel)
theorem d45_2 : pv_dec 45 2 = some (.putfield 38, 3) := pv_dec_of b45 (by decide +kernel)
theorem d45_5 : pv_dec 45 5 = some (.aload_n 0, 1) := pv_dec_of b45 (by decide +kernel)
theorem d45_6 : pv_dec 45 6 = some (.iconst 0, 1) := pv_dec_of b45 (by decide +kernel)
theorem d45_7 : pv_dec 45 7 = some (.sipush 360, 3) := pv_dec_of b45 (by decide +kernel)
theorem d45_10 : pv_dec 45 10 = some (.invokevirtual 92, 3) := pv_dec_of b45 (by decide +kernel)
theorem d45_13 : pv_dec 45 13 = some (.ifCond .ne 5, 3) := pv_dec_of b45 (by decide +kernel)
theorem d45_16 : pv_dec 45 16 = some (.iconst 0, 1) := pv_dec_of b45 (by decide +kernel)
theorem d45_17 : pv_dec 45 17 = some (.ireturn, 1) := pv_dec_of b45 (by decide +kernel)
theorem d45_18 : pv_dec 45 18 = some (.aload_n 0, 1) := pv_dec_of b45 (by decide +kernel)
theorem d45_19 : pv_dec 45 19 = some (.getfield 83, 3) := pv_dec_of b45 (by decide +kernel)
theorem d45_22 : pv_dec 45 22 = some (.istore_n 1, 1) := pv_dec_of b45 (by decide +kernel)
theorem d45_23 : pv_dec 45 23 = some (.aload_n 0, 1) := pv_dec_of b45 (by decide +kernel)
theorem d45_24 : pv_dec 45 24 = some (.ldc 159, 2) := pv_dec_of b45 (by decide +kernel)
theorem KS3_159 : pv_kco "AngleNet$Tape" 159 = none ∧ pv_kso "AngleNet$Tape" 159 = some 8 := by decide +kernel
theorem n45_24 : pv_kc 45 159 = none ∧ pv_ks 45 159 = some 8 := by rw [pv_kc, pv_ks, o45]; exact KS3_159
theorem d45_26 : pv_dec 45 26 = some (.invokevirtual 96, 3) := pv_dec_of b45 (by decide +kernel)
theorem d45_29 : pv_dec 45 29 = some (.ifCond .ne 13, 3) := pv_dec_of b45 (by decide +kernel)
theorem d45_32 : pv_dec 45 32 = some (.aload_n 0, 1) := pv_dec_of b45 (by decide +kernel)
theorem d45_33 : pv_dec 45 33 = some (.iconst 1, 1) := pv_dec_of b45 (by decide +kernel)
theorem d45_34 : pv_dec 45 34 = some (.aload_n 0, 1) := pv_dec_of b45 (by decide +kernel)
theorem d45_35 : pv_dec 45 35 = some (.getfield 52, 3) := pv_dec_of b45 (by decide +kernel)
theorem d45_38 : pv_dec 45 38 = some (.invokevirtual 55, 3) := pv_dec_of b45 (by decide +kernel)
theorem d45_41 : pv_dec 45 41 = some (.ireturn, 1) := pv_dec_of b45 (by decide +kernel)
theorem d45_42 : pv_dec 45 42 = some (.aload_n 0, 1) := pv_dec_of b45 (by decide +kernel)
theorem d45_43 : pv_dec 45 43 = some (.iload_n 1, 1) := pv_dec_of b45 (by decide +kernel)
theorem d45_44 : pv_dec 45 44 = some (.sipush 360, 3) := pv_dec_of b45 (by decide +kernel)
theorem d45_47 : pv_dec 45 47 = some (.invokevirtual 92, 3) := pv_dec_of b45 (by decide +kernel)
theorem d45_50 : pv_dec 45 50 = some (.ifCond .ne 5, 3) := pv_dec_of b45 (by decide +kernel)
theorem d45_53 : pv_dec 45 53 = some (.iconst 0, 1) := pv_dec_of b45 (by decide +kernel)
theorem d45_54 : pv_dec 45 54 = some (.ireturn, 1) := pv_dec_of b45 (by decide +kernel)
theorem d45_55 : pv_dec 45 55 = some (.aload_n 0, 1) := pv_dec_of b45 (by decide +kernel)
theorem d45_56 : pv_dec 45 56 = some (.getfield 18, 3) := pv_dec_of b45 (by decide +kernel)
theorem d45_59 : pv_dec 45 59 = some (.iload_n 1, 1) := pv_dec_of b45 (by decide +kernel)
theorem d45_60 : pv_dec 45 60 = some (.putfield 161, 3) := pv_dec_of b45 (by decide +kernel)
theorem d45_63 : pv_dec 45 63 = some (.aload_n 0, 1) := pv_dec_of b45 (by decide +kernel)
theorem d45_64 : pv_dec 45 64 = some (.getfield 18, 3) := pv_dec_of b45 (by decide +kernel)
theorem d45_67 : pv_dec 45 67 = some (.aload_n 0, 1) := pv_dec_of b45 (by decide +kernel)
theorem d45_68 : pv_dec 45 68 = some (.getfield 83, 3) := pv_dec_of b45 (by decide +kernel)
theorem d45_71 : pv_dec 45 71 = some (.putfield 164, 3) := pv_dec_of b45 (by decide +kernel)
theorem d45_74 : pv_dec 45 74 = some (.iconst 1, 1) := pv_dec_of b45 (by decide +kernel)
theorem d45_75 : pv_dec 45 75 = some (.ireturn, 1) := pv_dec_of b45 (by decide +kernel)
theorem g45_18 : pv_gf 45 18 = some (1, 3) := pv_gfo_of o45 G3_18
theorem G3_38 : pv_gfo "AngleNet$Tape" 38 = some (1, 10) := by decide +kernel
theorem g45_38 : pv_gf 45 38 = some (1, 10) := pv_gfo_of o45 G3_38
theorem g45_52 : pv_gf 45 52 = some (1, 5) := pv_gfo_of o45 G3_52
theorem g45_83 : pv_gf 45 83 = some (1, 8) := pv_gfo_of o45 G3_83
theorem G3_161 : pv_gfo "AngleNet$Tape" 161 = some (2, 3) := by decide +kernel
theorem g45_161 : pv_gf 45 161 = some (2, 3) := pv_gfo_of o45 G3_161
theorem G3_164 : pv_gfo "AngleNet$Tape" 164 = some (2, 4) := by decide +kernel
theorem g45_164 : pv_gf 45 164 = some (2, 4) := pv_gfo_of o45 G3_164
theorem w1_10 : pv_ft 1 10 = some .boolean := by decide +kernel
theorem k45_55 : pv_kV 45 55 34 1 2 3 := pv_kV_of o45 Y3_55 V34 (by decide +kernel)
theorem k45_92 : pv_kV 45 92 33 1 2 3 := pv_kV_of o45 Y3_92 V33 (by decide +kernel)
theorem k45_96 : pv_kV 45 96 20 1 1 3 := pv_kV_of o45 Y3_96 V20 (by decide +kernel)
theorem o46 : pv_own 46 = "AngleNet$Tape" := by decide +kernel
theorem b46 : pv_bc 46 = prog_11_method_18_code := pv_bcof (i := 46) rfl
theorem m46 : pv_mL 46 = 3 := by decide +kernel
theorem tt46 : pv_rt 46 = some .boolean := by decide +kernel
theorem d46_0 : pv_dec 46 0 = some (.aload_n 0, 1) := pv_dec_of b46 (by decide +kernel)
theorem d46_1 : pv_dec 46 1 = some (.invokevirtual 139, 3) := pv_dec_of b46 (by decide +kernel)
theorem d46_4 : pv_dec 46 4 = some (.ifCond .ne 5, 3) := pv_dec_of b46 (by decide +kernel)
theorem d46_7 : pv_dec 46 7 = some (.iconst 0, 1) := pv_dec_of b46 (by decide +kernel)
theorem d46_8 : pv_dec 46 8 = some (.ireturn, 1) := pv_dec_of b46 (by decide +kernel)
theorem d46_9 : pv_dec 46 9 = some (.aload_n 0, 1) := pv_dec_of b46 (by decide +kernel)
theorem d46_10 : pv_dec 46 10 = some (.getfield 83, 3) := pv_dec_of b46 (by decide +kernel)
theorem d46_13 : pv_dec 46 13 = some (.istore_n 1, 1) := pv_dec_of b46 (by decide +kernel)
theorem d46_14 : pv_dec 46 14 = some (.aload_n 0, 1) := pv_dec_of b46 (by decide +kernel)
theorem d46_15 : pv_dec 46 15 = some (.invokevirtual 139, 3) := pv_dec_of b46 (by decide +kernel)
theorem d46_18 : pv_dec 46 18 = some (.ifCond .ne 5, 3) := pv_dec_of b46 (by decide +kernel)
theorem d46_21 : pv_dec 46 21 = some (.iconst 0, 1) := pv_dec_of b46 (by decide +kernel)
theorem d46_22 : pv_dec 46 22 = some (.ireturn, 1) := pv_dec_of b46 (by decide +kernel)
theorem d46_23 : pv_dec 46 23 = some (.aload_n 0, 1) := pv_dec_of b46 (by decide +kernel)
theorem d46_24 : pv_dec 46 24 = some (.getfield 83, 3) := pv_dec_of b46 (by decide +kernel)
theorem d46_27 : pv_dec 46 27 = some (.istore_n 2, 1) := pv_dec_of b46 (by decide +kernel)
theorem d46_28 : pv_dec 46 28 = some (.aload_n 0, 1) := pv_dec_of b46 (by decide +kernel)
theorem d46_29 : pv_dec 46 29 = some (.getfield 18, 3) := pv_dec_of b46 (by decide +kernel)
theorem d46_32 : pv_dec 46 32 = some (.iload_n 1, 1) := pv_dec_of b46 (by decide +kernel)
theorem d46_33 : pv_dec 46 33 = some (.iload_n 2, 1) := pv_dec_of b46 (by decide +kernel)
theorem d46_34 : pv_dec 46 34 = some (.invokevirtual 167, 3) := pv_dec_of b46 (by decide +kernel)
theorem d46_37 : pv_dec 46 37 = some (.ifCond .ne 13, 3) := pv_dec_of b46 (by decide +kernel)
theorem d46_40 : pv_dec 46 40 = some (.aload_n 0, 1) := pv_dec_of b46 (by decide +kernel)
theorem d46_41 : pv_dec 46 41 = some (.iconst 2, 1) := pv_dec_of b46 (by decide +kernel)
theorem d46_42 : pv_dec 46 42 = some (.aload_n 0, 1) := pv_dec_of b46 (by decide +kernel)
theorem d46_43 : pv_dec 46 43 = some (.getfield 86, 3) := pv_dec_of b46 (by decide +kernel)
theorem d46_46 : pv_dec 46 46 = some (.invokevirtual 55, 3) := pv_dec_of b46 (by decide +kernel)
theorem d46_49 : pv_dec 46 49 = some (.ireturn, 1) := pv_dec_of b46 (by decide +kernel)
theorem d46_50 : pv_dec 46 50 = some (.aload_n 0, 1) := pv_dec_of b46 (by decide +kernel)
theorem d46_51 : pv_dec 46 51 = some (.iconst 0, 1) := pv_dec_of b46 (by decide +kernel)
theorem d46_52 : pv_dec 46 52 = some (.sipush 360, 3) := pv_dec_of b46 (by decide +kernel)
theorem d46_55 : pv_dec 46 55 = some (.invokevirtual 92, 3) := pv_dec_of b46 (by decide +kernel)
theorem d46_58 : pv_dec 46 58 = some (.ifCond .ne 5, 3) := pv_dec_of b46 (by decide +kernel)
theorem d46_61 : pv_dec 46 61 = some (.iconst 0, 1) := pv_dec_of b46 (by decide +kernel)
theorem d46_62 : pv_dec 46 62 = some (.ireturn, 1) := pv_dec_of b46 (by decide +kernel)
theorem d46_63 : pv_dec 46 63 = some (.aload_n 0, 1) := pv_dec_of b46 (by decide +kernel)
theorem d46_64 : pv_dec 46 64 = some (.getfield 18, 3) := pv_dec_of b46 (by decide +kernel)
theorem d46_67 : pv_dec 46 67 = some (.iload_n 1, 1) := pv_dec_of b46 (by decide +kernel)
theorem d46_68 : pv_dec 46 68 = some (.iload_n 2, 1) := pv_dec_of b46 (by decide +kernel)
theorem d46_69 : pv_dec 46 69 = some (.aload_n 0, 1) := pv_dec_of b46 (by decide +kernel)
theorem d46_70 : pv_dec 46 70 = some (.getfield 83, 3) := pv_dec_of b46 (by decide +kernel)
theorem d46_73 : pv_dec 46 73 = some (.invokevirtual 170, 3) := pv_dec_of b46 (by decide +kernel)
theorem d46_76 : pv_dec 46 76 = some (.iconst 1, 1) := pv_dec_of b46 (by decide +kernel)
theorem d46_77 : pv_dec 46 77 = some (.ireturn, 1) := pv_dec_of b46 (by decide +kernel)
theorem g46_18 : pv_gf 46 18 = some (1, 3) := pv_gfo_of o46 G3_18
theorem g46_83 : pv_gf 46 83 = some (1, 8) := pv_gfo_of o46 G3_83
theorem g46_86 : pv_gf 46 86 = some (1, 9) := pv_gfo_of o46 G3_86
theorem k46_139 : pv_kV 46 139 38 1 0 1 := pv_kV_of o46 Y3_139 V38 (by decide +kernel)
theorem Y3_167 : pv_mlo "AngleNet$Tape" 167 = some (⟨"AngleNet$Net", "isSide", "(II)Z"⟩, none) := by decide +kernel
theorem k46_167 : pv_kV 46 167 47 2 2 3 := pv_kV_of o46 Y3_167 V47 (by decide +kernel)
theorem Y3_170 : pv_mlo "AngleNet$Tape" 170 = some (⟨"AngleNet$Net", "putWeight", "(III)V"⟩, none) := by decide +kernel
theorem V49 : pv_cV 49 2 3 4 ⟨"AngleNet$Net", "putWeight", "(III)V"⟩ = true := by decide +kernel
theorem k46_170 : pv_kV 46 170 49 2 3 4 := pv_kV_of o46 Y3_170 V49 (by decide +kernel)
theorem k46_55 : pv_kV 46 55 34 1 2 3 := pv_kV_of o46 Y3_55 V34 (by decide +kernel)
theorem k46_92 : pv_kV 46 92 33 1 2 3 := pv_kV_of o46 Y3_92 V33 (by decide +kernel)
theorem o50 : pv_own 50 = "AngleNet$Tape" := by decide +kernel
theorem b50 : pv_bc 50 = prog_11_method_19_code := pv_bcof (i := 50) rfl
theorem m50 : pv_mL 50 = 3 := by decide +kernel
theorem tt50 : pv_rt 50 = some .boolean := by decide +kernel
theorem d50_0 : pv_dec 50 0 = some (.aload_n 0, 1) := pv_dec_of b50 (by decide +kernel)
theorem d50_1 : pv_dec 50 1 = some (.invokevirtual 139, 3) := pv_dec_of b50 (by decide +kernel)
theorem d50_4 : pv_dec 50 4 = some (.ifCond .ne 5, 3) := pv_dec_of b50 (by decide +kernel)
theorem d50_7 : pv_dec 50 7 = some (.iconst 0, 1) := pv_dec_of b50 (by decide +kernel)
theorem d50_8 : pv_dec 50 8 = some (.ireturn, 1) := pv_dec_of b50 (by decide +kernel)
theorem d50_9 : pv_dec 50 9 = some (.aload_n 0, 1) := pv_dec_of b50 (by decide +kernel)
theorem d50_10 : pv_dec 50 10 = some (.getfield 83, 3) := pv_dec_of b50 (by decide +kernel)
theorem d50_13 : pv_dec 50 13 = some (.istore_n 1, 1) := pv_dec_of b50 (by decide +kernel)
theorem d50_14 : pv_dec 50 14 = some (.aload_n 0, 1) := pv_dec_of b50 (by decide +kernel)
theorem d50_15 : pv_dec 50 15 = some (.iconst 0, 1) := pv_dec_of b50 (by decide +kernel)
theorem d50_16 : pv_dec 50 16 = some (.bipush 99, 2) := pv_dec_of b50 (by decide +kernel)
theorem d50_18 : pv_dec 50 18 = some (.invokevirtual 92, 3) := pv_dec_of b50 (by decide +kernel)
theorem d50_21 : pv_dec 50 21 = some (.ifCond .ne 5, 3) := pv_dec_of b50 (by decide +kernel)
theorem d50_24 : pv_dec 50 24 = some (.iconst 0, 1) := pv_dec_of b50 (by decide +kernel)
theorem d50_25 : pv_dec 50 25 = some (.ireturn, 1) := pv_dec_of b50 (by decide +kernel)
theorem d50_26 : pv_dec 50 26 = some (.aload_n 0, 1) := pv_dec_of b50 (by decide +kernel)
theorem d50_27 : pv_dec 50 27 = some (.getfield 83, 3) := pv_dec_of b50 (by decide +kernel)
theorem d50_30 : pv_dec 50 30 = some (.istore_n 2, 1) := pv_dec_of b50 (by decide +kernel)
theorem d50_31 : pv_dec 50 31 = some (.aload_n 0, 1) := pv_dec_of b50 (by decide +kernel)
theorem d50_32 : pv_dec 50 32 = some (.iconst 0, 1) := pv_dec_of b50 (by decide +kernel)
theorem d50_33 : pv_dec 50 33 = some (.bipush 99, 2) := pv_dec_of b50 (by decide +kernel)
theorem d50_35 : pv_dec 50 35 = some (.invokevirtual 92, 3) := pv_dec_of b50 (by decide +kernel)
theorem d50_38 : pv_dec 50 38 = some (.ifCond .ne 5, 3) := pv_dec_of b50 (by decide +kernel)
theorem d50_41 : pv_dec 50 41 = some (.iconst 0, 1) := pv_dec_of b50 (by decide +kernel)
theorem d50_42 : pv_dec 50 42 = some (.ireturn, 1) := pv_dec_of b50 (by decide +kernel)
theorem d50_43 : pv_dec 50 43 = some (.aload_n 0, 1) := pv_dec_of b50 (by decide +kernel)
theorem d50_44 : pv_dec 50 44 = some (.getfield 18, 3) := pv_dec_of b50 (by decide +kernel)
theorem d50_47 : pv_dec 50 47 = some (.getfield 174, 3) := pv_dec_of b50 (by decide +kernel)
theorem d50_50 : pv_dec 50 50 = some (.iload_n 1, 1) := pv_dec_of b50 (by decide +kernel)
theorem d50_51 : pv_dec 50 51 = some (.iload_n 2, 1) := pv_dec_of b50 (by decide +kernel)
theorem d50_52 : pv_dec 50 52 = some (.iastore, 1) := pv_dec_of b50 (by decide +kernel)
theorem d50_53 : pv_dec 50 53 = some (.aload_n 0, 1) := pv_dec_of b50 (by decide +kernel)
theorem d50_54 : pv_dec 50 54 = some (.getfield 18, 3) := pv_dec_of b50 (by decide +kernel)
theorem d50_57 : pv_dec 50 57 = some (.getfield 177, 3) := pv_dec_of b50 (by decide +kernel)
theorem d50_60 : pv_dec 50 60 = some (.iload_n 1, 1) := pv_dec_of b50 (by decide +kernel)
theorem d50_61 : pv_dec 50 61 = some (.aload_n 0, 1) := pv_dec_of b50 (by decide +kernel)
theorem d50_62 : pv_dec 50 62 = some (.getfield 83, 3) := pv_dec_of b50 (by decide +kernel)
theorem d50_65 : pv_dec 50 65 = some (.iastore, 1) := pv_dec_of b50 (by decide +kernel)
theorem d50_66 : pv_dec 50 66 = some (.iconst 1, 1) := pv_dec_of b50 (by decide +kernel)
theorem d50_67 : pv_dec 50 67 = some (.ireturn, 1) := pv_dec_of b50 (by decide +kernel)
theorem g50_18 : pv_gf 50 18 = some (1, 3) := pv_gfo_of o50 G3_18
theorem g50_83 : pv_gf 50 83 = some (1, 8) := pv_gfo_of o50 G3_83
theorem G3_174 : pv_gfo "AngleNet$Tape" 174 = some (2, 8) := by decide +kernel
theorem g50_174 : pv_gf 50 174 = some (2, 8) := pv_gfo_of o50 G3_174
theorem G3_177 : pv_gfo "AngleNet$Tape" 177 = some (2, 9) := by decide +kernel
theorem g50_177 : pv_gf 50 177 = some (2, 9) := pv_gfo_of o50 G3_177
theorem k50_139 : pv_kV 50 139 38 1 0 1 := pv_kV_of o50 Y3_139 V38 (by decide +kernel)
theorem k50_92 : pv_kV 50 92 33 1 2 3 := pv_kV_of o50 Y3_92 V33 (by decide +kernel)
theorem o51 : pv_own 51 = "AngleNet$Tape" := by decide +kernel
theorem b51 : pv_bc 51 = prog_11_method_20_code := pv_bcof (i := 51) rfl
theorem m51 : pv_mL 51 = 2 := by decide +kernel
theorem tt51 : pv_rt 51 = some .boolean := by decide +kernel
theorem d51_0 : pv_dec 51 0 = some (.aload_n 0, 1) := pv_dec_of b51 (by decide +kernel)
theorem d51_1 : pv_dec 51 1 = some (.invokevirtual 139, 3) := pv_dec_of b51 (by decide +kernel)
theorem d51_4 : pv_dec 51 4 = some (.ifCond .ne 5, 3) := pv_dec_of b51 (by decide +kernel)
theorem d51_7 : pv_dec 51 7 = some (.iconst 0, 1) := pv_dec_of b51 (by decide +kernel)
theorem d51_8 : pv_dec 51 8 = some (.ireturn, 1) := pv_dec_of b51 (by decide +kernel)
theorem d51_9 : pv_dec 51 9 = some (.aload_n 0, 1) := pv_dec_of b51 (by decide +kernel)
theorem d51_10 : pv_dec 51 10 = some (.getfield 83, 3) := pv_dec_of b51 (by decide +kernel)
theorem d51_13 : pv_dec 51 13 = some (.istore_n 1, 1) := pv_dec_of b51 (by decide +kernel)
theorem d51_14 : pv_dec 51 14 = some (.aload_n 0, 1) := pv_dec_of b51 (by decide +kernel)
theorem d51_15 : pv_dec 51 15 = some (.iconst 0, 1) := pv_dec_of b51 (by decide +kernel)
theorem d51_16 : pv_dec 51 16 = some (.sipush 9999, 3) := pv_dec_of b51 (by decide +kernel)
theorem d51_19 : pv_dec 51 19 = some (.invokevirtual 92, 3) := pv_dec_of b51 (by decide +kernel)
theorem d51_22 : pv_dec 51 22 = some (.ifCond .ne 5, 3) := pv_dec_of b51 (by decide +kernel)
theorem d51_25 : pv_dec 51 25 = some (.iconst 0, 1) := pv_dec_of b51 (by decide +kernel)
theorem d51_26 : pv_dec 51 26 = some (.ireturn, 1) := pv_dec_of b51 (by decide +kernel)
theorem d51_27 : pv_dec 51 27 = some (.aload_n 0, 1) := pv_dec_of b51 (by decide +kernel)
theorem d51_28 : pv_dec 51 28 = some (.getfield 18, 3) := pv_dec_of b51 (by decide +kernel)
theorem d51_31 : pv_dec 51 31 = some (.getfield 180, 3) := pv_dec_of b51 (by decide +kernel)
theorem d51_34 : pv_dec 51 34 = some (.iload_n 1, 1) := pv_dec_of b51 (by decide +kernel)
theorem d51_35 : pv_dec 51 35 = some (.aload_n 0, 1) := pv_dec_of b51 (by decide +kernel)
theorem d51_36 : pv_dec 51 36 = some (.getfield 83, 3) := pv_dec_of b51 (by decide +kernel)
theorem d51_39 : pv_dec 51 39 = some (.iastore, 1) := pv_dec_of b51 (by decide +kernel)
theorem d51_40 : pv_dec 51 40 = some (.iconst 1, 1) := pv_dec_of b51 (by decide +kernel)
theorem d51_41 : pv_dec 51 41 = some (.ireturn, 1) := pv_dec_of b51 (by decide +kernel)
theorem g51_18 : pv_gf 51 18 = some (1, 3) := pv_gfo_of o51 G3_18
theorem g51_83 : pv_gf 51 83 = some (1, 8) := pv_gfo_of o51 G3_83
theorem G3_180 : pv_gfo "AngleNet$Tape" 180 = some (2, 10) := by decide +kernel
theorem g51_180 : pv_gf 51 180 = some (2, 10) := pv_gfo_of o51 G3_180
theorem k51_139 : pv_kV 51 139 38 1 0 1 := pv_kV_of o51 Y3_139 V38 (by decide +kernel)
theorem k51_92 : pv_kV 51 92 33 1 2 3 := pv_kV_of o51 Y3_92 V33 (by decide +kernel)
theorem o19 : pv_own 19 = "AngleNet$Tape" := by decide +kernel
theorem b19 : pv_bc 19 = prog_11_method_12_code := pv_bcof (i := 19) rfl
theorem m19 : pv_mL 19 = 2 := by decide +kernel
theorem tt19 : pv_rt 19 = some .boolean := by decide +kernel
theorem d19_0 : pv_dec 19 0 = some (.aload_n 0, 1) := pv_dec_of b19 (by decide +kernel)
theorem d19_1 : pv_dec 19 1 = some (.getfield 52, 3) := pv_dec_of b19 (by decide +kernel)
theorem d19_4 : pv_dec 19 4 = some (.istore_n 1, 1) := pv_dec_of b19 (by decide +kernel)
theorem d19_5 : pv_dec 19 5 = some (.aload_n 0, 1) := pv_dec_of b19 (by decide +kernel)
theorem d19_6 : pv_dec 19 6 = some (.getfield 18, 3) := pv_dec_of b19 (by decide +kernel)
theorem d19_9 : pv_dec 19 9 = some (.getfield 59, 3) := pv_dec_of b19 (by decide +kernel)
theorem d19_12 : pv_dec 19 12 = some (.ifCond .ne 26, 3) := pv_dec_of b19 (by decide +kernel)
theorem d19_15 : pv_dec 19 15 = some (.aload_n 0, 1) := pv_dec_of b19 (by decide +kernel)
theorem d19_16 : pv_dec 19 16 = some (.ldc 95, 2) := pv_dec_of b19 (by decide +kernel)
theorem KS3_95 : pv_kco "AngleNet$Tape" 95 = none ∧ pv_kso "AngleNet$Tape" 95 = some 0 := by decide +kernel
theorem n19_16 : pv_kc 19 95 = none ∧ pv_ks 19 95 = some 0 := by rw [pv_kc, pv_ks, o19]; exact KS3_95
theorem d19_18 : pv_dec 19 18 = some (.invokevirtual 96, 3) := pv_dec_of b19 (by decide +kernel)
theorem d19_21 : pv_dec 19 21 = some (.ifCond .eq 10, 3) := pv_dec_of b19 (by decide +kernel)
theorem d19_24 : pv_dec 19 24 = some (.aload_n 0, 1) := pv_dec_of b19 (by decide +kernel)
theorem d19_25 : pv_dec 19 25 = some (.invokevirtual 100, 3) := pv_dec_of b19 (by decide +kernel)
theorem d19_28 : pv_dec 19 28 = some (.goto 9, 3) := pv_dec_of b19 (by decide +kernel)
theorem d19_31 : pv_dec 19 31 = some (.aload_n 0, 1) := pv_dec_of b19 (by decide +kernel)
theorem d19_32 : pv_dec 19 32 = some (.iconst 1, 1) := pv_dec_of b19 (by decide +kernel)
theorem d19_33 : pv_dec 19 33 = some (.iload_n 1, 1) := pv_dec_of b19 (by decide +kernel)
theorem d19_34 : pv_dec 19 34 = some (.invokevirtual 55, 3) := pv_dec_of b19 (by decide +kernel)
theorem d19_37 : pv_dec 19 37 = some (.ireturn, 1) := pv_dec_of b19 (by decide +kernel)
theorem d19_38 : pv_dec 19 38 = some (.aload_n 0, 1) := pv_dec_of b19 (by decide +kernel)
theorem d19_39 : pv_dec 19 39 = some (.ldc 103, 2) := pv_dec_of b19 (by decide +kernel)
theorem KS3_103 : pv_kco "AngleNet$Tape" 103 = none ∧ pv_kso "AngleNet$Tape" 103 = some 1 := by decide +kernel
theorem n19_39 : pv_kc 19 103 = none ∧ pv_ks 19 103 = some 1 := by rw [pv_kc, pv_ks, o19]; exact KS3_103
theorem d19_41 : pv_dec 19 41 = some (.invokevirtual 96, 3) := pv_dec_of b19 (by decide +kernel)
theorem d19_44 : pv_dec 19 44 = some (.ifCond .eq 29, 3) := pv_dec_of b19 (by decide +kernel)
theorem d19_47 : pv_dec 19 47 = some (.aload_n 0, 1) := pv_dec_of b19 (by decide +kernel)
theorem d19_48 : pv_dec 19 48 = some (.getfield 18, 3) := pv_dec_of b19 (by decide +kernel)
theorem d19_51 : pv_dec 19 51 = some (.getfield 105, 3) := pv_dec_of b19 (by decide +kernel)
theorem d19_54 : pv_dec 19 54 = some (.bipush 18, 2) := pv_dec_of b19 (by decide +kernel)
theorem d19_56 : pv_dec 19 56 = some (.if_icmp .ge 10, 3) := pv_dec_of b19 (by decide +kernel)
theorem d19_59 : pv_dec 19 59 = some (.aload_n 0, 1) := pv_dec_of b19 (by decide +kernel)
theorem d19_60 : pv_dec 19 60 = some (.invokevirtual 108, 3) := pv_dec_of b19 (by decide +kernel)
theorem d19_63 : pv_dec 19 63 = some (.goto 9, 3) := pv_dec_of b19 (by decide +kernel)
theorem d19_66 : pv_dec 19 66 = some (.aload_n 0, 1) := pv_dec_of b19 (by decide +kernel)
theorem d19_67 : pv_dec 19 67 = some (.iconst 3, 1) := pv_dec_of b19 (by decide +kernel)
theorem d19_68 : pv_dec 19 68 = some (.iload_n 1, 1) := pv_dec_of b19 (by decide +kernel)
theorem d19_69 : pv_dec 19 69 = some (.invokevirtual 55, 3) := pv_dec_of b19 (by decide +kernel)
theorem d19_72 : pv_dec 19 72 = some (.ireturn, 1) := pv_dec_of b19 (by decide +kernel)
theorem d19_73 : pv_dec 19 73 = some (.aload_n 0, 1) := pv_dec_of b19 (by decide +kernel)
theorem d19_74 : pv_dec 19 74 = some (.ldc 111, 2) := pv_dec_of b19 (by decide +kernel)
theorem KS3_111 : pv_kco "AngleNet$Tape" 111 = none ∧ pv_kso "AngleNet$Tape" 111 = some 2 := by decide +kernel
theorem n19_74 : pv_kc 19 111 = none ∧ pv_ks 19 111 = some 2 := by rw [pv_kc, pv_ks, o19]; exact KS3_111
theorem d19_76 : pv_dec 19 76 = some (.invokevirtual 96, 3) := pv_dec_of b19 (by decide +kernel)
theorem d19_79 : pv_dec 19 79 = some (.ifCond .eq 8, 3) := pv_dec_of b19 (by decide +kernel)
theorem d19_82 : pv_dec 19 82 = some (.aload_n 0, 1) := pv_dec_of b19 (by decide +kernel)
theorem d19_83 : pv_dec 19 83 = some (.invokevirtual 113, 3) := pv_dec_of b19 (by decide +kernel)
theorem d19_86 : pv_dec 19 86 = some (.ireturn, 1) := pv_dec_of b19 (by decide +kernel)
theorem d19_87 : pv_dec 19 87 = some (.aload_n 0, 1) := pv_dec_of b19 (by decide +kernel)
theorem d19_88 : pv_dec 19 88 = some (.ldc 116, 2) := pv_dec_of b19 (by decide +kernel)
theorem KS3_116 : pv_kco "AngleNet$Tape" 116 = none ∧ pv_kso "AngleNet$Tape" 116 = some 3 := by decide +kernel
theorem n19_88 : pv_kc 19 116 = none ∧ pv_ks 19 116 = some 3 := by rw [pv_kc, pv_ks, o19]; exact KS3_116
theorem d19_90 : pv_dec 19 90 = some (.invokevirtual 96, 3) := pv_dec_of b19 (by decide +kernel)
theorem d19_93 : pv_dec 19 93 = some (.ifCond .eq 24, 3) := pv_dec_of b19 (by decide +kernel)
theorem d19_96 : pv_dec 19 96 = some (.aload_n 0, 1) := pv_dec_of b19 (by decide +kernel)
theorem d19_97 : pv_dec 19 97 = some (.getfield 38, 3) := pv_dec_of b19 (by decide +kernel)
theorem d19_100 : pv_dec 19 100 = some (.ifCond .eq 12, 3) := pv_dec_of b19 (by decide +kernel)
theorem d19_103 : pv_dec 19 103 = some (.aload_n 0, 1) := pv_dec_of b19 (by decide +kernel)
theorem d19_104 : pv_dec 19 104 = some (.iconst 2, 1) := pv_dec_of b19 (by decide +kernel)
theorem d19_105 : pv_dec 19 105 = some (.iload_n 1, 1) := pv_dec_of b19 (by decide +kernel)
theorem d19_106 : pv_dec 19 106 = some (.invokevirtual 55, 3) := pv_dec_of b19 (by decide +kernel)
theorem d19_109 : pv_dec 19 109 = some (.goto 7, 3) := pv_dec_of b19 (by decide +kernel)
theorem d19_112 : pv_dec 19 112 = some (.aload_n 0, 1) := pv_dec_of b19 (by decide +kernel)
theorem d19_113 : pv_dec 19 113 = some (.invokevirtual 118, 3) := pv_dec_of b19 (by decide +kernel)
theorem d19_116 : pv_dec 19 116 = some (.ireturn, 1) := pv_dec_of b19 (by decide +kernel)
theorem d19_117 : pv_dec 19 117 = some (.aload_n 0, 1) := pv_dec_of b19 (by decide +kernel)
theorem d19_118 : pv_dec 19 118 = some (.ldc 121, 2) := pv_dec_of b19 (by decide +kernel)
theorem KS3_121 : pv_kco "AngleNet$Tape" 121 = none ∧ pv_kso "AngleNet$Tape" 121 = some 4 := by decide +kernel
theorem n19_118 : pv_kc 19 121 = none ∧ pv_ks 19 121 = some 4 := by rw [pv_kc, pv_ks, o19]; exact KS3_121
theorem d19_120 : pv_dec 19 120 = some (.invokevirtual 96, 3) := pv_dec_of b19 (by decide +kernel)
theorem d19_123 : pv_dec 19 123 = some (.ifCond .eq 8, 3) := pv_dec_of b19 (by decide +kernel)
theorem d19_126 : pv_dec 19 126 = some (.aload_n 0, 1) := pv_dec_of b19 (by decide +kernel)
theorem d19_127 : pv_dec 19 127 = some (.invokevirtual 123, 3) := pv_dec_of b19 (by decide +kernel)
theorem d19_130 : pv_dec 19 130 = some (.ireturn, 1) := pv_dec_of b19 (by decide +kernel)
theorem d19_131 : pv_dec 19 131 = some (.aload_n 0, 1) := pv_dec_of b19 (by decide +kernel)
theorem d19_132 : pv_dec 19 132 = some (.ldc 126, 2) := pv_dec_of b19 (by decide +kernel)
theorem KS3_126 : pv_kco "AngleNet$Tape" 126 = none ∧ pv_kso "AngleNet$Tape" 126 = some 5 := by decide +kernel
theorem n19_132 : pv_kc 19 126 = none ∧ pv_ks 19 126 = some 5 := by rw [pv_kc, pv_ks, o19]; exact KS3_126
theorem d19_134 : pv_dec 19 134 = some (.invokevirtual 96, 3) := pv_dec_of b19 (by decide +kernel)
theorem d19_137 : pv_dec 19 137 = some (.ifCond .eq 8, 3) := pv_dec_of b19 (by decide +kernel)
theorem d19_140 : pv_dec 19 140 = some (.aload_n 0, 1) := pv_dec_of b19 (by decide +kernel)
theorem d19_141 : pv_dec 19 141 = some (.invokevirtual 127, 3) := pv_dec_of b19 (by decide +kernel)
theorem d19_144 : pv_dec 19 144 = some (.ireturn, 1) := pv_dec_of b19 (by decide +kernel)
theorem d19_145 : pv_dec 19 145 = some (.aload_n 0, 1) := pv_dec_of b19 (by decide +kernel)
theorem d19_146 : pv_dec 19 146 = some (.ldc 130, 2) := pv_dec_of b19 (by decide +kernel)
theorem KS3_130 : pv_kco "AngleNet$Tape" 130 = none ∧ pv_kso "AngleNet$Tape" 130 = some 6 := by decide +kernel
theorem n19_146 : pv_kc 19 130 = none ∧ pv_ks 19 130 = some 6 := by rw [pv_kc, pv_ks, o19]; exact KS3_130
theorem d19_148 : pv_dec 19 148 = some (.invokevirtual 96, 3) := pv_dec_of b19 (by decide +kernel)
theorem d19_151 : pv_dec 19 151 = some (.ifCond .eq 10, 3) := pv_dec_of b19 (by decide +kernel)
theorem d19_154 : pv_dec 19 154 = some (.aload_n 0, 1) := pv_dec_of b19 (by decide +kernel)
theorem d19_155 : pv_dec 19 155 = some (.invokevirtual 132, 3) := pv_dec_of b19 (by decide +kernel)
theorem d19_158 : pv_dec 19 158 = some (.goto 9, 3) := pv_dec_of b19 (by decide +kernel)
theorem d19_161 : pv_dec 19 161 = some (.aload_n 0, 1) := pv_dec_of b19 (by decide +kernel)
theorem d19_162 : pv_dec 19 162 = some (.iconst 1, 1) := pv_dec_of b19 (by decide +kernel)
theorem d19_163 : pv_dec 19 163 = some (.iload_n 1, 1) := pv_dec_of b19 (by decide +kernel)
theorem d19_164 : pv_dec 19 164 = some (.invokevirtual 55, 3) := pv_dec_of b19 (by decide +kernel)
theorem d19_167 : pv_dec 19 167 = some (.ireturn, 1) := pv_dec_of b19 (by decide +kernel)
theorem g19_18 : pv_gf 19 18 = some (1, 3) := pv_gfo_of o19 G3_18
theorem g19_38 : pv_gf 19 38 = some (1, 10) := pv_gfo_of o19 G3_38
theorem g19_52 : pv_gf 19 52 = some (1, 5) := pv_gfo_of o19 G3_52
theorem G3_59 : pv_gfo "AngleNet$Tape" 59 = some (2, 2) := by decide +kernel
theorem g19_59 : pv_gf 19 59 = some (2, 2) := pv_gfo_of o19 G3_59
theorem g19_105 : pv_gf 19 105 = some (2, 1) := pv_gfo_of o19 G3_105
theorem Y3_100 : pv_mlo "AngleNet$Tape" 100 = some (⟨"AngleNet$Tape", "readPosts", "()Z"⟩, none) := by decide +kernel
theorem V32 : pv_cV 32 1 0 1 ⟨"AngleNet$Tape", "readPosts", "()Z"⟩ = true := by decide +kernel
theorem k19_100 : pv_kV 19 100 32 1 0 1 := pv_kV_of o19 Y3_100 V32 (by decide +kernel)
theorem Y3_108 : pv_mlo "AngleNet$Tape" 108 = some (⟨"AngleNet$Tape", "readThird", "()Z"⟩, none) := by decide +kernel
theorem V37 : pv_cV 37 1 0 4 ⟨"AngleNet$Tape", "readThird", "()Z"⟩ = true := by decide +kernel
theorem k19_108 : pv_kV 19 108 37 1 0 4 := pv_kV_of o19 Y3_108 V37 (by decide +kernel)
theorem Y3_113 : pv_mlo "AngleNet$Tape" 113 = some (⟨"AngleNet$Tape", "readAngle", "()Z"⟩, none) := by decide +kernel
theorem V44 : pv_cV 44 1 0 2 ⟨"AngleNet$Tape", "readAngle", "()Z"⟩ = true := by decide +kernel
theorem k19_113 : pv_kV 19 113 44 1 0 2 := pv_kV_of o19 Y3_113 V44 (by decide +kernel)
theorem Y3_118 : pv_mlo "AngleNet$Tape" 118 = some (⟨"AngleNet$Tape", "readCorner", "()Z"⟩, none) := by decide +kernel
theorem V45 : pv_cV 45 1 0 2 ⟨"AngleNet$Tape", "readCorner", "()Z"⟩ = true := by decide +kernel
theorem k19_118 : pv_kV 19 118 45 1 0 2 := pv_kV_of o19 Y3_118 V45 (by decide +kernel)
theorem Y3_123 : pv_mlo "AngleNet$Tape" 123 = some (⟨"AngleNet$Tape", "readWeight", "()Z"⟩, none) := by decide +kernel
theorem V46 : pv_cV 46 1 0 3 ⟨"AngleNet$Tape", "readWeight", "()Z"⟩ = true := by decide +kernel
theorem k19_123 : pv_kV 19 123 46 1 0 3 := pv_kV_of o19 Y3_123 V46 (by decide +kernel)
theorem Y3_127 : pv_mlo "AngleNet$Tape" 127 = some (⟨"AngleNet$Tape", "readPlace", "()Z"⟩, none) := by decide +kernel
theorem V50 : pv_cV 50 1 0 3 ⟨"AngleNet$Tape", "readPlace", "()Z"⟩ = true := by decide +kernel
theorem k19_127 : pv_kV 19 127 50 1 0 3 := pv_kV_of o19 Y3_127 V50 (by decide +kernel)
theorem Y3_132 : pv_mlo "AngleNet$Tape" 132 = some (⟨"AngleNet$Tape", "readCircle", "()Z"⟩, none) := by decide +kernel
theorem V51 : pv_cV 51 1 0 2 ⟨"AngleNet$Tape", "readCircle", "()Z"⟩ = true := by decide +kernel
theorem k19_132 : pv_kV 19 132 51 1 0 2 := pv_kV_of o19 Y3_132 V51 (by decide +kernel)
theorem k19_55 : pv_kV 19 55 34 1 2 3 := pv_kV_of o19 Y3_55 V34 (by decide +kernel)
theorem k19_96 : pv_kV 19 96 20 1 1 3 := pv_kV_of o19 Y3_96 V20 (by decide +kernel)
theorem o12 : pv_own 12 = "AngleNet$Tape" := by decide +kernel
theorem b12 : pv_bc 12 = prog_11_method_3_code := pv_bcof (i := 12) rfl
theorem m12 : pv_mL 12 = 2 := by decide +kernel
theorem tt12 : pv_rt 12 = some .boolean := by decide +kernel
theorem d12_0 : pv_dec 12 0 = some (.aload_n 0, 1) := pv_dec_of b12 (by decide +kernel)
theorem d12_1 : pv_dec 12 1 = some (.getfield 18, 3) := pv_dec_of b12 (by decide +kernel)
theorem d12_4 : pv_dec 12 4 = some (.invokevirtual 29, 3) := pv_dec_of b12 (by decide +kernel)
theorem d12_7 : pv_dec 12 7 = some (.aload_n 0, 1) := pv_dec_of b12 (by decide +kernel)
theorem d12_8 : pv_dec 12 8 = some (.iconst 0, 1) := pv_dec_of b12 (by decide +kernel)
theorem d12_9 : pv_dec 12 9 = some (.putfield 32, 3) := pv_dec_of b12 (by decide +kernel)
theorem d12_12 : pv_dec 12 12 = some (.aload_n 0, 1) := pv_dec_of b12 (by decide +kernel)
theorem d12_13 : pv_dec 12 13 = some (.iconst (-1), 1) := pv_dec_of b12 (by decide +kernel)
theorem d12_14 : pv_dec 12 14 = some (.putfield 9, 3) := pv_dec_of b12 (by decide +kernel)
theorem d12_17 : pv_dec 12 17 = some (.aload_n 0, 1) := pv_dec_of b12 (by decide +kernel)
theorem d12_18 : pv_dec 12 18 = some (.iconst 0, 1) := pv_dec_of b12 (by decide +kernel)
theorem d12_19 : pv_dec 12 19 = some (.putfield 35, 3) := pv_dec_of b12 (by decide +kernel)
theorem d12_22 : pv_dec 12 22 = some (.aload_n 0, 1) := pv_dec_of b12 (by decide +kernel)
theorem d12_23 : pv_dec 12 23 = some (.iconst 0, 1) := pv_dec_of b12 (by decide +kernel)
theorem d12_24 : pv_dec 12 24 = some (.putfield 38, 3) := pv_dec_of b12 (by decide +kernel)
theorem d12_27 : pv_dec 12 27 = some (.aload_n 0, 1) := pv_dec_of b12 (by decide +kernel)
theorem d12_28 : pv_dec 12 28 = some (.invokevirtual 42, 3) := pv_dec_of b12 (by decide +kernel)
theorem d12_31 : pv_dec 12 31 = some (.iconst 0, 1) := pv_dec_of b12 (by decide +kernel)
theorem d12_32 : pv_dec 12 32 = some (.istore_n 1, 1) := pv_dec_of b12 (by decide +kernel)
theorem d12_33 : pv_dec 12 33 = some (.iload_n 1, 1) := pv_dec_of b12 (by decide +kernel)
theorem d12_34 : pv_dec 12 34 = some (.sipush 1600, 3) := pv_dec_of b12 (by decide +kernel)
theorem d12_37 : pv_dec 12 37 = some (.if_icmp .ge 60, 3) := pv_dec_of b12 (by decide +kernel)
theorem d12_40 : pv_dec 12 40 = some (.aload_n 0, 1) := pv_dec_of b12 (by decide +kernel)
theorem d12_41 : pv_dec 12 41 = some (.getfield 45, 3) := pv_dec_of b12 (by decide +kernel)
theorem d12_44 : pv_dec 12 44 = some (.ifCond .eq 53, 3) := pv_dec_of b12 (by decide +kernel)
theorem d12_47 : pv_dec 12 47 = some (.aload_n 0, 1) := pv_dec_of b12 (by decide +kernel)
theorem d12_48 : pv_dec 12 48 = some (.invokevirtual 48, 3) := pv_dec_of b12 (by decide +kernel)
theorem d12_51 : pv_dec 12 51 = some (.ifCond .ne 5, 3) := pv_dec_of b12 (by decide +kernel)
theorem d12_54 : pv_dec 12 54 = some (.iconst 0, 1) := pv_dec_of b12 (by decide +kernel)
theorem d12_55 : pv_dec 12 55 = some (.ireturn, 1) := pv_dec_of b12 (by decide +kernel)
theorem d12_56 : pv_dec 12 56 = some (.aload_n 0, 1) := pv_dec_of b12 (by decide +kernel)
theorem d12_57 : pv_dec 12 57 = some (.getfield 45, 3) := pv_dec_of b12 (by decide +kernel)
theorem d12_60 : pv_dec 12 60 = some (.iconst 3, 1) := pv_dec_of b12 (by decide +kernel)
theorem d12_61 : pv_dec 12 61 = some (.if_icmp .eq 13, 3) := pv_dec_of b12 (by decide +kernel)
theorem d12_64 : pv_dec 12 64 = some (.aload_n 0, 1) := pv_dec_of b12 (by decide +kernel)
theorem d12_65 : pv_dec 12 65 = some (.iconst 1, 1) := pv_dec_of b12 (by decide +kernel)
theorem d12_66 : pv_dec 12 66 = some (.aload_n 0, 1) := pv_dec_of b12 (by decide +kernel)
theorem d12_67 : pv_dec 12 67 = some (.getfield 52, 3) := pv_dec_of b12 (by decide +kernel)
theorem d12_70 : pv_dec 12 70 = some (.invokevirtual 55, 3) := pv_dec_of b12 (by decide +kernel)
theorem d12_73 : pv_dec 12 73 = some (.ireturn, 1) := pv_dec_of b12 (by decide +kernel)
theorem d12_74 : pv_dec 12 74 = some (.aload_n 0, 1) := pv_dec_of b12 (by decide +kernel)
theorem d12_75 : pv_dec 12 75 = some (.invokevirtual 42, 3) := pv_dec_of b12 (by decide +kernel)
theorem d12_78 : pv_dec 12 78 = some (.aload_n 0, 1) := pv_dec_of b12 (by decide +kernel)
theorem d12_79 : pv_dec 12 79 = some (.getfield 18, 3) := pv_dec_of b12 (by decide +kernel)
theorem d12_82 : pv_dec 12 82 = some (.dup, 1) := pv_dec_of b12 (by decide +kernel)
theorem d12_83 : pv_dec 12 83 = some (.getfield 59, 3) := pv_dec_of b12 (by decide +kernel)
theorem d12_86 : pv_dec 12 86 = some (.iconst 1, 1) := pv_dec_of b12 (by decide +kernel)
theorem d12_87 : pv_dec 12 87 = some (.iadd, 1) := pv_dec_of b12 (by decide +kernel)
theorem d12_88 : pv_dec 12 88 = some (.putfield 59, 3) := pv_dec_of b12 (by decide +kernel)
theorem d12_91 : pv_dec 12 91 = some (.iinc 1 1, 3) := pv_dec_of b12 (by decide +kernel)
theorem d12_94 : pv_dec 12 94 = some (.goto (-61), 3) := pv_dec_of b12 (by decide +kernel)
theorem d12_97 : pv_dec 12 97 = some (.iconst 1, 1) := pv_dec_of b12 (by decide +kernel)
theorem d12_98 : pv_dec 12 98 = some (.ireturn, 1) := pv_dec_of b12 (by decide +kernel)
theorem g12_9 : pv_gf 12 9 = some (1, 2) := pv_gfo_of o12 G3_9
theorem g12_18 : pv_gf 12 18 = some (1, 3) := pv_gfo_of o12 G3_18
theorem g12_32 : pv_gf 12 32 = some (1, 1) := pv_gfo_of o12 G3_32
theorem g12_35 : pv_gf 12 35 = some (1, 6) := pv_gfo_of o12 G3_35
theorem g12_38 : pv_gf 12 38 = some (1, 10) := pv_gfo_of o12 G3_38
theorem g12_45 : pv_gf 12 45 = some (1, 7) := pv_gfo_of o12 G3_45
theorem g12_52 : pv_gf 12 52 = some (1, 5) := pv_gfo_of o12 G3_52
theorem g12_59 : pv_gf 12 59 = some (2, 2) := pv_gfo_of o12 G3_59
theorem Y3_29 : pv_mlo "AngleNet$Tape" 29 = some (⟨"AngleNet$Net", "clear", "()V"⟩, none) := by decide +kernel
theorem V13 : pv_cV 13 2 0 1 ⟨"AngleNet$Net", "clear", "()V"⟩ = true := by decide +kernel
theorem k12_29 : pv_kV 12 29 13 2 0 1 := pv_kV_of o12 Y3_29 V13 (by decide +kernel)
theorem k12_42 : pv_kV 12 42 16 1 0 1 := pv_kV_of o12 Y3_42 V16 (by decide +kernel)
theorem Y3_48 : pv_mlo "AngleNet$Tape" 48 = some (⟨"AngleNet$Tape", "readLine", "()Z"⟩, none) := by decide +kernel
theorem V19 : pv_cV 19 1 0 2 ⟨"AngleNet$Tape", "readLine", "()Z"⟩ = true := by decide +kernel
theorem k12_48 : pv_kV 12 48 19 1 0 2 := pv_kV_of o12 Y3_48 V19 (by decide +kernel)
theorem k12_55 : pv_kV 12 55 34 1 2 3 := pv_kV_of o12 Y3_55 V34 (by decide +kernel)
