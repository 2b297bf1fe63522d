theorem o197 : pv_own 197 = "AngleNetModel" := by decide +kernel
theorem b197 : pv_bc 197 = prog_13_method_19_code := pv_bcof (i := 197) rfl
theorem m197 : pv_mL 197 = 4 := by decide +kernel
theorem tt197 : pv_rt 197 = some .boolean := by decide +kernel
theorem d197_0 : pv_dec 197 0 = some (.aload_n 0, 1) := pv_dec_of b197 (by decide +kernel)
theorem d197_1 : pv_dec 197 1 = some (.invokevirtual 121, 3) := pv_dec_of b197 (by decide +kernel)
theorem d197_4 : pv_dec 197 4 = some (.ifCond .eq 31, 3) := pv_dec_of b197 (by decide +kernel)
theorem d197_7 : pv_dec 197 7 = some (.aload_n 0, 1) := pv_dec_of b197 (by decide +kernel)
theorem d197_8 : pv_dec 197 8 = some (.getfield 97, 3) := pv_dec_of b197 (by decide +kernel)
theorem d197_11 : pv_dec 197 11 = some (.iconst 1, 1) := pv_dec_of b197 (by decide +kernel)
theorem d197_12 : pv_dec 197 12 = some (.if_icmp .ne 23, 3) := pv_dec_of b197 (by decide +kernel)
theorem d197_15 : pv_dec 197 15 = some (.aload_n 0, 1) := pv_dec_of b197 (by decide +kernel)
theorem d197_16 : pv_dec 197 16 = some (.getfield 87, 3) := pv_dec_of b197 (by decide +kernel)
theorem d197_19 : pv_dec 197 19 = some (.aload_n 0, 1) := pv_dec_of b197 (by decide +kernel)
theorem d197_20 : pv_dec 197 20 = some (.getfield 94, 3) := pv_dec_of b197 (by decide +kernel)
theorem d197_23 : pv_dec 197 23 = some (.isub, 1) := pv_dec_of b197 (by decide +kernel)
theorem d197_24 : pv_dec 197 24 = some (.aload_n 1, 1) := pv_dec_of b197 (by decide +kernel)
theorem d197_25 : pv_dec 197 25 = some (.invokevirtual 125, 3) := pv_dec_of b197 (by decide +kernel)
theorem d197_28 : pv_dec 197 28 = some (.if_icmp .ne 7, 3) := pv_dec_of b197 (by decide +kernel)
theorem d197_31 : pv_dec 197 31 = some (.iconst 1, 1) := pv_dec_of b197 (by decide +kernel)
theorem d197_32 : pv_dec 197 32 = some (.goto 4, 3) := pv_dec_of b197 (by decide +kernel)
theorem d197_35 : pv_dec 197 35 = some (.iconst 0, 1) := pv_dec_of b197 (by decide +kernel)
theorem d197_36 : pv_dec 197 36 = some (.istore_n 2, 1) := pv_dec_of b197 (by decide +kernel)
theorem d197_37 : pv_dec 197 37 = some (.iconst 0, 1) := pv_dec_of b197 (by decide +kernel)
theorem d197_38 : pv_dec 197 38 = some (.istore_n 3, 1) := pv_dec_of b197 (by decide +kernel)
theorem d197_39 : pv_dec 197 39 = some (.iload_n 3, 1) := pv_dec_of b197 (by decide +kernel)
theorem d197_40 : pv_dec 197 40 = some (.aload_n 1, 1) := pv_dec_of b197 (by decide +kernel)
theorem d197_41 : pv_dec 197 41 = some (.invokevirtual 125, 3) := pv_dec_of b197 (by decide +kernel)
theorem d197_44 : pv_dec 197 44 = some (.if_icmp .ge 38, 3) := pv_dec_of b197 (by decide +kernel)
theorem d197_47 : pv_dec 197 47 = some (.iload_n 2, 1) := pv_dec_of b197 (by decide +kernel)
theorem d197_48 : pv_dec 197 48 = some (.ifCond .eq 34, 3) := pv_dec_of b197 (by decide +kernel)
theorem d197_51 : pv_dec 197 51 = some (.aload_n 0, 1) := pv_dec_of b197 (by decide +kernel)
theorem d197_52 : pv_dec 197 52 = some (.getfield 20, 3) := pv_dec_of b197 (by decide +kernel)
theorem d197_55 : pv_dec 197 55 = some (.aload_n 0, 1) := pv_dec_of b197 (by decide +kernel)
theorem d197_56 : pv_dec 197 56 = some (.getfield 94, 3) := pv_dec_of b197 (by decide +kernel)
theorem d197_59 : pv_dec 197 59 = some (.iload_n 3, 1) := pv_dec_of b197 (by decide +kernel)
theorem d197_60 : pv_dec 197 60 = some (.iadd, 1) := pv_dec_of b197 (by decide +kernel)
theorem d197_61 : pv_dec 197 61 = some (.baload, 1) := pv_dec_of b197 (by decide +kernel)
theorem d197_62 : pv_dec 197 62 = some (.aload_n 1, 1) := pv_dec_of b197 (by decide +kernel)
theorem d197_63 : pv_dec 197 63 = some (.iload_n 3, 1) := pv_dec_of b197 (by decide +kernel)
theorem d197_64 : pv_dec 197 64 = some (.invokevirtual 131, 3) := pv_dec_of b197 (by decide +kernel)
theorem d197_67 : pv_dec 197 67 = some (.if_icmp .ne 7, 3) := pv_dec_of b197 (by decide +kernel)
theorem d197_70 : pv_dec 197 70 = some (.iconst 1, 1) := pv_dec_of b197 (by decide +kernel)
theorem d197_71 : pv_dec 197 71 = some (.goto 4, 3) := pv_dec_of b197 (by decide +kernel)
theorem d197_74 : pv_dec 197 74 = some (.iconst 0, 1) := pv_dec_of b197 (by decide +kernel)
theorem d197_75 : pv_dec 197 75 = some (.istore_n 2, 1) := pv_dec_of b197 (by decide +kernel)
theorem d197_76 : pv_dec 197 76 = some (.iinc 3 1, 3) := pv_dec_of b197 (by decide +kernel)
theorem d197_79 : pv_dec 197 79 = some (.goto (-40), 3) := pv_dec_of b197 (by decide +kernel)
theorem d197_82 : pv_dec 197 82 = some (.iload_n 2, 1) := pv_dec_of b197 (by decide +kernel)
theorem d197_83 : pv_dec 197 83 = some (.ireturn, 1) := pv_dec_of b197 (by decide +kernel)
theorem g197_20 : pv_gf 197 20 = some (7, 4) := pv_gfo_of o197 G11_20
theorem g197_87 : pv_gf 197 87 = some (7, 8) := pv_gfo_of o197 G11_87
theorem g197_94 : pv_gf 197 94 = some (7, 9) := pv_gfo_of o197 G11_94
theorem g197_97 : pv_gf 197 97 = some (7, 10) := pv_gfo_of o197 G11_97
theorem k197_121 : pv_kV 197 121 192 7 0 1 := pv_kV_of o197 Y11_121 V192 (by decide +kernel)
theorem k197_125 : pv_kL 197 125 pv_sln = true := by decide +kernel
theorem k197_131 : pv_kL 197 131 pv_scn = true := by decide +kernel
theorem o196 : pv_own 196 = "AngleNetModel" := by decide +kernel
theorem b196 : pv_bc 196 = prog_13_method_20_code := pv_bcof (i := 196) rfl
theorem m196 : pv_mL 196 = 3 := by decide +kernel
theorem tt196 : pv_rt 196 = some .boolean := by decide +kernel
theorem d196_0 : pv_dec 196 0 = some (.aload_n 0, 1) := pv_dec_of b196 (by decide +kernel)
theorem d196_1 : pv_dec 196 1 = some (.aload_n 1, 1) := pv_dec_of b196 (by decide +kernel)
theorem d196_2 : pv_dec 196 2 = some (.invokevirtual 135, 3) := pv_dec_of b196 (by decide +kernel)
theorem d196_5 : pv_dec 196 5 = some (.istore_n 2, 1) := pv_dec_of b196 (by decide +kernel)
theorem d196_6 : pv_dec 196 6 = some (.iload_n 2, 1) := pv_dec_of b196 (by decide +kernel)
theorem d196_7 : pv_dec 196 7 = some (.ifCond .eq 7, 3) := pv_dec_of b196 (by decide +kernel)
theorem d196_10 : pv_dec 196 10 = some (.aload_n 0, 1) := pv_dec_of b196 (by decide +kernel)
theorem d196_11 : pv_dec 196 11 = some (.invokevirtual 139, 3) := pv_dec_of b196 (by decide +kernel)
theorem d196_14 : pv_dec 196 14 = some (.iload_n 2, 1) := pv_dec_of b196 (by decide +kernel)
theorem d196_15 : pv_dec 196 15 = some (.ireturn, 1) := pv_dec_of b196 (by decide +kernel)
theorem Y11_135 : pv_mlo "AngleNetModel" 135 = some (⟨"AngleNetModel", "is", "(Ljava/lang/String;)Z"⟩, none) := by decide +kernel
theorem V197 : pv_cV 197 7 1 4 ⟨"AngleNetModel", "is", "(Ljava/lang/String;)Z"⟩ = true := by decide +kernel
theorem k196_135 : pv_kV 196 135 197 7 1 4 := pv_kV_of o196 Y11_135 V197 (by decide +kernel)
theorem Y11_139 : pv_mlo "AngleNetModel" 139 = some (⟨"AngleNetModel", "advance", "()V"⟩, none) := by decide +kernel
theorem V190 : pv_cV 190 7 0 2 ⟨"AngleNetModel", "advance", "()V"⟩ = true := by decide +kernel
theorem k196_139 : pv_kV 196 139 190 7 0 2 := pv_kV_of o196 Y11_139 V190 (by decide +kernel)
theorem o195 : pv_own 195 = "AngleNetModel" := by decide +kernel
theorem b195 : pv_bc 195 = prog_13_method_21_code := pv_bcof (i := 195) rfl
theorem m195 : pv_mL 195 = 2 := by decide +kernel
theorem tt195 : pv_rt 195 = none := by decide +kernel
theorem d195_0 : pv_dec 195 0 = some (.aload_n 0, 1) := pv_dec_of b195 (by decide +kernel)
theorem d195_1 : pv_dec 195 1 = some (.aload_n 1, 1) := pv_dec_of b195 (by decide +kernel)
theorem d195_2 : pv_dec 195 2 = some (.invokevirtual 142, 3) := pv_dec_of b195 (by decide +kernel)
theorem d195_5 : pv_dec 195 5 = some (.ifCond .ne 8, 3) := pv_dec_of b195 (by decide +kernel)
theorem d195_8 : pv_dec 195 8 = some (.aload_n 0, 1) := pv_dec_of b195 (by decide +kernel)
theorem d195_9 : pv_dec 195 9 = some (.iconst 1, 1) := pv_dec_of b195 (by decide +kernel)
theorem d195_10 : pv_dec 195 10 = some (.invokevirtual 145, 3) := pv_dec_of b195 (by decide +kernel)
theorem d195_13 : pv_dec 195 13 = some (.return_, 1) := pv_dec_of b195 (by decide +kernel)
theorem Y11_142 : pv_mlo "AngleNetModel" 142 = some (⟨"AngleNetModel", "takes", "(Ljava/lang/String;)Z"⟩, none) := by decide +kernel
theorem V196 : pv_cV 196 7 1 3 ⟨"AngleNetModel", "takes", "(Ljava/lang/String;)Z"⟩ = true := by decide +kernel
theorem k195_142 : pv_kV 195 142 196 7 1 3 := pv_kV_of o195 Y11_142 V196 (by decide +kernel)
theorem Y11_145 : pv_mlo "AngleNetModel" 145 = some (⟨"AngleNetModel", "errs", "(I)V"⟩, none) := by decide +kernel
theorem V198 : pv_cV 198 7 1 2 ⟨"AngleNetModel", "errs", "(I)V"⟩ = true := by decide +kernel
theorem k195_145 : pv_kV 195 145 198 7 1 2 := pv_kV_of o195 Y11_145 V198 (by decide +kernel)
theorem o199 : pv_own 199 = "AngleNetModel" := by decide +kernel
theorem b199 : pv_bc 199 = prog_13_method_22_code := pv_bcof (i := 199) rfl
theorem m199 : pv_mL 199 = 4 := by decide +kernel
theorem tt199 : pv_rt 199 = some .int := by decide +kernel
theorem d199_0 : pv_dec 199 0 = some (.aload_n 0, 1) := pv_dec_of b199 (by decide +kernel)
theorem d199_1 : pv_dec 199 1 = some (.invokevirtual 121, 3) := pv_dec_of b199 (by decide +kernel)
theorem d199_4 : pv_dec 199 4 = some (.ifCond .eq 16, 3) := pv_dec_of b199 (by decide +kernel)
theorem d199_7 : pv_dec 199 7 = some (.aload_n 0, 1) := pv_dec_of b199 (by decide +kernel)
theorem d199_8 : pv_dec 199 8 = some (.getfield 97, 3) := pv_dec_of b199 (by decide +kernel)
theorem d199_11 : pv_dec 199 11 = some (.iconst 2, 1) := pv_dec_of b199 (by decide +kernel)
theorem d199_12 : pv_dec 199 12 = some (.if_icmp .eq 8, 3) := pv_dec_of b199 (by decide +kernel)
theorem d199_15 : pv_dec 199 15 = some (.aload_n 0, 1) := pv_dec_of b199 (by decide +kernel)
theorem d199_16 : pv_dec 199 16 = some (.iconst 1, 1) := pv_dec_of b199 (by decide +kernel)
theorem d199_17 : pv_dec 199 17 = some (.invokevirtual 145, 3) := pv_dec_of b199 (by decide +kernel)
theorem d199_20 : pv_dec 199 20 = some (.aload_n 0, 1) := pv_dec_of b199 (by decide +kernel)
theorem d199_21 : pv_dec 199 21 = some (.invokevirtual 121, 3) := pv_dec_of b199 (by decide +kernel)
theorem d199_24 : pv_dec 199 24 = some (.ifCond .eq 23, 3) := pv_dec_of b199 (by decide +kernel)
theorem d199_27 : pv_dec 199 27 = some (.aload_n 0, 1) := pv_dec_of b199 (by decide +kernel)
theorem d199_28 : pv_dec 199 28 = some (.getfield 108, 3) := pv_dec_of b199 (by decide +kernel)
theorem d199_31 : pv_dec 199 31 = some (.i2l, 1) := pv_dec_of b199 (by decide +kernel)
theorem d199_32 : pv_dec 199 32 = some (.iload_n 1, 1) := pv_dec_of b199 (by decide +kernel)
theorem d199_33 : pv_dec 199 33 = some (.i2l, 1) := pv_dec_of b199 (by decide +kernel)
theorem d199_34 : pv_dec 199 34 = some (.iload_n 2, 1) := pv_dec_of b199 (by decide +kernel)
theorem d199_35 : pv_dec 199 35 = some (.i2l, 1) := pv_dec_of b199 (by decide +kernel)
theorem d199_36 : pv_dec 199 36 = some (.invokestatic 73, 3) := pv_dec_of b199 (by decide +kernel)
theorem d199_39 : pv_dec 199 39 = some (.ifCond .ne 8, 3) := pv_dec_of b199 (by decide +kernel)
theorem d199_42 : pv_dec 199 42 = some (.aload_n 0, 1) := pv_dec_of b199 (by decide +kernel)
theorem d199_43 : pv_dec 199 43 = some (.iconst 2, 1) := pv_dec_of b199 (by decide +kernel)
theorem d199_44 : pv_dec 199 44 = some (.invokevirtual 145, 3) := pv_dec_of b199 (by decide +kernel)
theorem d199_47 : pv_dec 199 47 = some (.aload_n 0, 1) := pv_dec_of b199 (by decide +kernel)
theorem d199_48 : pv_dec 199 48 = some (.invokevirtual 121, 3) := pv_dec_of b199 (by decide +kernel)
theorem d199_51 : pv_dec 199 51 = some (.ifCond .ne 5, 3) := pv_dec_of b199 (by decide +kernel)
theorem d199_54 : pv_dec 199 54 = some (.iconst 0, 1) := pv_dec_of b199 (by decide +kernel)
theorem d199_55 : pv_dec 199 55 = some (.ireturn, 1) := pv_dec_of b199 (by decide +kernel)
theorem d199_56 : pv_dec 199 56 = some (.aload_n 0, 1) := pv_dec_of b199 (by decide +kernel)
theorem d199_57 : pv_dec 199 57 = some (.getfield 108, 3) := pv_dec_of b199 (by decide +kernel)
theorem d199_60 : pv_dec 199 60 = some (.istore_n 3, 1) := pv_dec_of b199 (by decide +kernel)
theorem d199_61 : pv_dec 199 61 = some (.aload_n 0, 1) := pv_dec_of b199 (by decide +kernel)
theorem d199_62 : pv_dec 199 62 = some (.invokevirtual 139, 3) := pv_dec_of b199 (by decide +kernel)
theorem d199_65 : pv_dec 199 65 = some (.iload_n 3, 1) := pv_dec_of b199 (by decide +kernel)
theorem d199_66 : pv_dec 199 66 = some (.ireturn, 1) := pv_dec_of b199 (by decide +kernel)
theorem g199_97 : pv_gf 199 97 = some (7, 10) := pv_gfo_of o199 G11_97
theorem g199_108 : pv_gf 199 108 = some (7, 11) := pv_gfo_of o199 G11_108
theorem k199_121 : pv_kV 199 121 192 7 0 1 := pv_kV_of o199 Y11_121 V192 (by decide +kernel)
theorem k199_139 : pv_kV 199 139 190 7 0 2 := pv_kV_of o199 Y11_139 V190 (by decide +kernel)
theorem k199_145 : pv_kV 199 145 198 7 1 2 := pv_kV_of o199 Y11_145 V198 (by decide +kernel)
theorem k199_73 : pv_kS 199 73 184 3 6 := pv_kS_of o199 Y11_73 Z184 (by decide +kernel)
theorem o194 : pv_own 194 = "AngleNetModel" := by decide +kernel
theorem b194 : pv_bc 194 = prog_13_method_23_code := pv_bcof (i := 194) rfl
theorem m194 : pv_mL 194 = 4 := by decide +kernel
theorem tt194 : pv_rt 194 = some .int := by decide +kernel
theorem d194_0 : pv_dec 194 0 = some (.aload_n 0, 1) := pv_dec_of b194 (by decide +kernel)
theorem d194_1 : pv_dec 194 1 = some (.aload_n 1, 1) := pv_dec_of b194 (by decide +kernel)
theorem d194_2 : pv_dec 194 2 = some (.invokevirtual 149, 3) := pv_dec_of b194 (by decide +kernel)
theorem d194_5 : pv_dec 194 5 = some (.aload_n 0, 1) := pv_dec_of b194 (by decide +kernel)
theorem d194_6 : pv_dec 194 6 = some (.iload_n 2, 1) := pv_dec_of b194 (by decide +kernel)
theorem d194_7 : pv_dec 194 7 = some (.iload_n 3, 1) := pv_dec_of b194 (by decide +kernel)
theorem d194_8 : pv_dec 194 8 = some (.invokevirtual 153, 3) := pv_dec_of b194 (by decide +kernel)
theorem d194_11 : pv_dec 194 11 = some (.ireturn, 1) := pv_dec_of b194 (by decide +kernel)
theorem Y11_149 : pv_mlo "AngleNetModel" 149 = some (⟨"AngleNetModel", "needs", "(Ljava/lang/String;)V"⟩, none) := by decide +kernel
theorem V195 : pv_cV 195 7 1 2 ⟨"AngleNetModel", "needs", "(Ljava/lang/String;)V"⟩ = true := by decide +kernel
theorem k194_149 : pv_kV 194 149 195 7 1 2 := pv_kV_of o194 Y11_149 V195 (by decide +kernel)
theorem Y11_153 : pv_mlo "AngleNetModel" 153 = some (⟨"AngleNetModel", "number", "(II)I"⟩, none) := by decide +kernel
theorem V199 : pv_cV 199 7 2 4 ⟨"AngleNetModel", "number", "(II)I"⟩ = true := by decide +kernel
theorem k194_153 : pv_kV 194 153 199 7 2 4 := pv_kV_of o194 Y11_153 V199 (by decide +kernel)
theorem o202 : pv_own 202 = "AngleNetModel" := by decide +kernel
theorem b202 : pv_bc 202 = prog_13_method_28_code := pv_bcof (i := 202) rfl
theorem m202 : pv_mL 202 = 1 := by decide +kernel
theorem tt202 : pv_rt 202 = some .int := by decide +kernel
theorem d202_0 : pv_dec 202 0 = some (.aload_n 0, 1) := pv_dec_of b202 (by decide +kernel)
theorem d202_1 : pv_dec 202 1 = some (.iconst 0, 1) := pv_dec_of b202 (by decide +kernel)
theorem d202_2 : pv_dec 202 2 = some (.aload_n 0, 1) := pv_dec_of b202 (by decide +kernel)
theorem d202_3 : pv_dec 202 3 = some (.getfield 31, 3) := pv_dec_of b202 (by decide +kernel)
theorem d202_6 : pv_dec 202 6 = some (.iconst 0, 1) := pv_dec_of b202 (by decide +kernel)
theorem d202_7 : pv_dec 202 7 = some (.iaload, 1) := pv_dec_of b202 (by decide +kernel)
theorem d202_8 : pv_dec 202 8 = some (.iconst 1, 1) := pv_dec_of b202 (by decide +kernel)
theorem d202_9 : pv_dec 202 9 = some (.isub, 1) := pv_dec_of b202 (by decide +kernel)
theorem d202_10 : pv_dec 202 10 = some (.invokevirtual 153, 3) := pv_dec_of b202 (by decide +kernel)
theorem d202_13 : pv_dec 202 13 = some (.ireturn, 1) := pv_dec_of b202 (by decide +kernel)
theorem G11_31 : pv_gfo "AngleNetModel" 31 = some (7, 14) := by decide +kernel
theorem g202_31 : pv_gf 202 31 = some (7, 14) := pv_gfo_of o202 G11_31
theorem k202_153 : pv_kV 202 153 199 7 2 4 := pv_kV_of o202 Y11_153 V199 (by decide +kernel)
theorem o203 : pv_own 203 = "AngleNetModel" := by decide +kernel
theorem b203 : pv_bc 203 = prog_13_method_29_code := pv_bcof (i := 203) rfl
theorem m203 : pv_mL 203 = 2 := by decide +kernel
theorem tt203 : pv_rt 203 = some .int := by decide +kernel
theorem d203_0 : pv_dec 203 0 = some (.aload_n 0, 1) := pv_dec_of b203 (by decide +kernel)
theorem d203_1 : pv_dec 203 1 = some (.invokevirtual 121, 3) := pv_dec_of b203 (by decide +kernel)
theorem d203_4 : pv_dec 203 4 = some (.ifCond .eq 24, 3) := pv_dec_of b203 (by decide +kernel)
theorem d203_7 : pv_dec 203 7 = some (.aload_n 0, 1) := pv_dec_of b203 (by decide +kernel)
theorem d203_8 : pv_dec 203 8 = some (.getfield 97, 3) := pv_dec_of b203 (by decide +kernel)
theorem d203_11 : pv_dec 203 11 = some (.iconst 2, 1) := pv_dec_of b203 (by decide +kernel)
theorem d203_12 : pv_dec 203 12 = some (.if_icmp .ne 16, 3) := pv_dec_of b203 (by decide +kernel)
theorem d203_15 : pv_dec 203 15 = some (.aload_n 0, 1) := pv_dec_of b203 (by decide +kernel)
theorem d203_16 : pv_dec 203 16 = some (.getfield 108, 3) := pv_dec_of b203 (by decide +kernel)
theorem d203_19 : pv_dec 203 19 = some (.iload_n 1, 1) := pv_dec_of b203 (by decide +kernel)
theorem d203_20 : pv_dec 203 20 = some (.if_icmp .ne 8, 3) := pv_dec_of b203 (by decide +kernel)
theorem d203_23 : pv_dec 203 23 = some (.aload_n 0, 1) := pv_dec_of b203 (by decide +kernel)
theorem d203_24 : pv_dec 203 24 = some (.iconst 2, 1) := pv_dec_of b203 (by decide +kernel)
theorem d203_25 : pv_dec 203 25 = some (.invokevirtual 145, 3) := pv_dec_of b203 (by decide +kernel)
theorem d203_28 : pv_dec 203 28 = some (.aload_n 0, 1) := pv_dec_of b203 (by decide +kernel)
theorem d203_29 : pv_dec 203 29 = some (.invokevirtual 160, 3) := pv_dec_of b203 (by decide +kernel)
theorem d203_32 : pv_dec 203 32 = some (.ireturn, 1) := pv_dec_of b203 (by decide +kernel)
theorem g203_97 : pv_gf 203 97 = some (7, 10) := pv_gfo_of o203 G11_97
theorem g203_108 : pv_gf 203 108 = some (7, 11) := pv_gfo_of o203 G11_108
theorem k203_121 : pv_kV 203 121 192 7 0 1 := pv_kV_of o203 Y11_121 V192 (by decide +kernel)
theorem k203_145 : pv_kV 203 145 198 7 1 2 := pv_kV_of o203 Y11_145 V198 (by decide +kernel)
theorem Y11_160 : pv_mlo "AngleNetModel" 160 = some (⟨"AngleNetModel", "freshPost", "()I"⟩, none) := by decide +kernel
theorem V202 : pv_cV 202 7 0 1 ⟨"AngleNetModel", "freshPost", "()I"⟩ = true := by decide +kernel
theorem k203_160 : pv_kV 203 160 202 7 0 1 := pv_kV_of o203 Y11_160 V202 (by decide +kernel)
