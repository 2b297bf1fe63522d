theorem o123 : pv_own 123 = "AngleNet" := by decide +kernel
theorem b123 : pv_bc 123 = prog_1_method_22_code := pv_bcof (i := 123) rfl
theorem m123 : pv_mL 123 = 4 := by decide +kernel
theorem tt123 : pv_rt 123 = some .int := by decide +kernel
theorem d123_0 : pv_dec 123 0 = some (.aload_n 0, 1) := pv_dec_of b123 (by decide +kernel)
theorem d123_1 : pv_dec 123 1 = some (.getfield 19, 3) := pv_dec_of b123 (by decide +kernel)
theorem d123_4 : pv_dec 123 4 = some (.iload_n 1, 1) := pv_dec_of b123 (by decide +kernel)
theorem d123_5 : pv_dec 123 5 = some (.iload_n 2, 1) := pv_dec_of b123 (by decide +kernel)
theorem d123_6 : pv_dec 123 6 = some (.invokestatic 214, 3) := pv_dec_of b123 (by decide +kernel)
theorem d123_9 : pv_dec 123 9 = some (.istore_n 3, 1) := pv_dec_of b123 (by decide +kernel)
theorem d123_10 : pv_dec 123 10 = some (.aload_n 0, 1) := pv_dec_of b123 (by decide +kernel)
theorem d123_11 : pv_dec 123 11 = some (.getfield 19, 3) := pv_dec_of b123 (by decide +kernel)
theorem d123_14 : pv_dec 123 14 = some (.aload_n 0, 1) := pv_dec_of b123 (by decide +kernel)
theorem d123_15 : pv_dec 123 15 = some (.getfield 19, 3) := pv_dec_of b123 (by decide +kernel)
theorem d123_18 : pv_dec 123 18 = some (.getfield 207, 3) := pv_dec_of b123 (by decide +kernel)
theorem d123_21 : pv_dec 123 21 = some (.putfield 217, 3) := pv_dec_of b123 (by decide +kernel)
theorem d123_24 : pv_dec 123 24 = some (.iload_n 3, 1) := pv_dec_of b123 (by decide +kernel)
theorem d123_25 : pv_dec 123 25 = some (.ireturn, 1) := pv_dec_of b123 (by decide +kernel)
theorem g123_19 : pv_gf 123 19 = some (0, 1) := pv_gfo_of o123 G2_19
theorem g123_207 : pv_gf 123 207 = some (2, 14) := pv_gfo_of o123 G2_207
theorem g123_217 : pv_gf 123 217 = some (2, 15) := pv_gfo_of o123 G2_217
theorem Y2_214 : pv_mlo "AngleNet" 214 = some (⟨"AngleNet$Flips", "apply", "(LAngleNet$Net;II)I"⟩, none) := by decide +kernel
theorem k123_214 : pv_kS 123 214 124 3 10 := pv_kS_of o123 Y2_214 Z124 (by decide +kernel)
theorem o122 : pv_own 122 = "AngleNet" := by decide +kernel
theorem b122 : pv_bc 122 = prog_1_method_21_code := pv_bcof (i := 122) rfl
theorem m122 : pv_mL 122 = 3 := by decide +kernel
theorem tt122 : pv_rt 122 = some .int := by decide +kernel
theorem d122_0 : pv_dec 122 0 = some (.aload_n 0, 1) := pv_dec_of b122 (by decide +kernel)
theorem d122_1 : pv_dec 122 1 = some (.getfield 19, 3) := pv_dec_of b122 (by decide +kernel)
theorem d122_4 : pv_dec 122 4 = some (.iload_n 1, 1) := pv_dec_of b122 (by decide +kernel)
theorem d122_5 : pv_dec 122 5 = some (.iload_n 2, 1) := pv_dec_of b122 (by decide +kernel)
theorem d122_6 : pv_dec 122 6 = some (.invokevirtual 194, 3) := pv_dec_of b122 (by decide +kernel)
theorem d122_9 : pv_dec 122 9 = some (.ifCond .ne 6, 3) := pv_dec_of b122 (by decide +kernel)
theorem d122_12 : pv_dec 122 12 = some (.bipush (-2), 2) := pv_dec_of b122 (by decide +kernel)
theorem d122_14 : pv_dec 122 14 = some (.ireturn, 1) := pv_dec_of b122 (by decide +kernel)
theorem d122_15 : pv_dec 122 15 = some (.aload_n 0, 1) := pv_dec_of b122 (by decide +kernel)
theorem d122_16 : pv_dec 122 16 = some (.getfield 19, 3) := pv_dec_of b122 (by decide +kernel)
theorem d122_19 : pv_dec 122 19 = some (.iload_n 1, 1) := pv_dec_of b122 (by decide +kernel)
theorem d122_20 : pv_dec 122 20 = some (.iload_n 2, 1) := pv_dec_of b122 (by decide +kernel)
theorem d122_21 : pv_dec 122 21 = some (.invokestatic 203, 3) := pv_dec_of b122 (by decide +kernel)
theorem d122_24 : pv_dec 122 24 = some (.ifCond .ne 6, 3) := pv_dec_of b122 (by decide +kernel)
theorem d122_27 : pv_dec 122 27 = some (.bipush (-5), 2) := pv_dec_of b122 (by decide +kernel)
theorem d122_29 : pv_dec 122 29 = some (.ireturn, 1) := pv_dec_of b122 (by decide +kernel)
theorem d122_30 : pv_dec 122 30 = some (.aload_n 0, 1) := pv_dec_of b122 (by decide +kernel)
theorem d122_31 : pv_dec 122 31 = some (.getfield 19, 3) := pv_dec_of b122 (by decide +kernel)
theorem d122_34 : pv_dec 122 34 = some (.getfield 207, 3) := pv_dec_of b122 (by decide +kernel)
theorem d122_37 : pv_dec 122 37 = some (.bipush 99, 2) := pv_dec_of b122 (by decide +kernel)
theorem d122_39 : pv_dec 122 39 = some (.if_icmp .lt 6, 3) := pv_dec_of b122 (by decide +kernel)
theorem d122_42 : pv_dec 122 42 = some (.bipush (-3), 2) := pv_dec_of b122 (by decide +kernel)
theorem d122_44 : pv_dec 122 44 = some (.ireturn, 1) := pv_dec_of b122 (by decide +kernel)
theorem d122_45 : pv_dec 122 45 = some (.aload_n 0, 1) := pv_dec_of b122 (by decide +kernel)
theorem d122_46 : pv_dec 122 46 = some (.iload_n 1, 1) := pv_dec_of b122 (by decide +kernel)
theorem d122_47 : pv_dec 122 47 = some (.iload_n 2, 1) := pv_dec_of b122 (by decide +kernel)
theorem d122_48 : pv_dec 122 48 = some (.invokevirtual 210, 3) := pv_dec_of b122 (by decide +kernel)
theorem d122_51 : pv_dec 122 51 = some (.ireturn, 1) := pv_dec_of b122 (by decide +kernel)
theorem g122_19 : pv_gf 122 19 = some (0, 1) := pv_gfo_of o122 G2_19
theorem g122_207 : pv_gf 122 207 = some (2, 14) := pv_gfo_of o122 G2_207
theorem k122_194 : pv_kV 122 194 47 2 2 3 := pv_kV_of o122 Y2_194 V47 (by decide +kernel)
theorem Y2_203 : pv_mlo "AngleNet" 203 = some (⟨"AngleNet$Flips", "isAllowed", "(LAngleNet$Net;II)Z"⟩, none) := by decide +kernel
theorem k122_203 : pv_kS 122 203 120 3 5 := pv_kS_of o122 Y2_203 Z120 (by decide +kernel)
theorem Y2_210 : pv_mlo "AngleNet" 210 = some (⟨"AngleNet", "flipAnew", "(II)I"⟩, none) := by decide +kernel
theorem V123 : pv_cV 123 0 2 4 ⟨"AngleNet", "flipAnew", "(II)I"⟩ = true := by decide +kernel
theorem k122_210 : pv_kV 122 210 123 0 2 4 := pv_kV_of o122 Y2_210 V123 (by decide +kernel)
theorem o129 : pv_own 129 = "AngleNet" := by decide +kernel
theorem b129 : pv_bc 129 = prog_1_method_24_code := pv_bcof (i := 129) rfl
theorem m129 : pv_mL 129 = 4 := by decide +kernel
theorem tt129 : pv_rt 129 = some .int := by decide +kernel
theorem d129_0 : pv_dec 129 0 = some (.aload_n 0, 1) := pv_dec_of b129 (by decide +kernel)
theorem d129_1 : pv_dec 129 1 = some (.getfield 19, 3) := pv_dec_of b129 (by decide +kernel)
theorem d129_4 : pv_dec 129 4 = some (.invokevirtual 129, 3) := pv_dec_of b129 (by decide +kernel)
theorem d129_7 : pv_dec 129 7 = some (.ifCond .eq 14, 3) := pv_dec_of b129 (by decide +kernel)
theorem d129_10 : pv_dec 129 10 = some (.iload_n 1, 1) := pv_dec_of b129 (by decide +kernel)
theorem d129_11 : pv_dec 129 11 = some (.iconst 1, 1) := pv_dec_of b129 (by decide +kernel)
theorem d129_12 : pv_dec 129 12 = some (.if_icmp .lt 9, 3) := pv_dec_of b129 (by decide +kernel)
theorem d129_15 : pv_dec 129 15 = some (.iload_n 1, 1) := pv_dec_of b129 (by decide +kernel)
theorem d129_16 : pv_dec 129 16 = some (.bipush 99, 2) := pv_dec_of b129 (by decide +kernel)
theorem d129_18 : pv_dec 129 18 = some (.if_icmp .le 6, 3) := pv_dec_of b129 (by decide +kernel)
theorem d129_21 : pv_dec 129 21 = some (.bipush (-2), 2) := pv_dec_of b129 (by decide +kernel)
theorem d129_23 : pv_dec 129 23 = some (.ireturn, 1) := pv_dec_of b129 (by decide +kernel)
theorem d129_24 : pv_dec 129 24 = some (.iconst 0, 1) := pv_dec_of b129 (by decide +kernel)
theorem d129_25 : pv_dec 129 25 = some (.istore_n 2, 1) := pv_dec_of b129 (by decide +kernel)
theorem d129_26 : pv_dec 129 26 = some (.iload_n 2, 1) := pv_dec_of b129 (by decide +kernel)
theorem d129_27 : pv_dec 129 27 = some (.iload_n 1, 1) := pv_dec_of b129 (by decide +kernel)
theorem d129_28 : pv_dec 129 28 = some (.if_icmp .ge 53, 3) := pv_dec_of b129 (by decide +kernel)
theorem d129_31 : pv_dec 129 31 = some (.aload_n 0, 1) := pv_dec_of b129 (by decide +kernel)
theorem d129_32 : pv_dec 129 32 = some (.getfield 19, 3) := pv_dec_of b129 (by decide +kernel)
theorem d129_35 : pv_dec 129 35 = some (.getfield 207, 3) := pv_dec_of b129 (by decide +kernel)
theorem d129_38 : pv_dec 129 38 = some (.bipush 99, 2) := pv_dec_of b129 (by decide +kernel)
theorem d129_40 : pv_dec 129 40 = some (.if_icmp .ge 13, 3) := pv_dec_of b129 (by decide +kernel)
theorem d129_43 : pv_dec 129 43 = some (.aload_n 0, 1) := pv_dec_of b129 (by decide +kernel)
theorem d129_44 : pv_dec 129 44 = some (.getfield 19, 3) := pv_dec_of b129 (by decide +kernel)
theorem d129_47 : pv_dec 129 47 = some (.invokestatic 220, 3) := pv_dec_of b129 (by decide +kernel)
theorem d129_50 : pv_dec 129 50 = some (.goto 4, 3) := pv_dec_of b129 (by decide +kernel)
theorem d129_53 : pv_dec 129 53 = some (.iconst (-1), 1) := pv_dec_of b129 (by decide +kernel)
theorem d129_54 : pv_dec 129 54 = some (.istore_n 3, 1) := pv_dec_of b129 (by decide +kernel)
theorem d129_55 : pv_dec 129 55 = some (.iload_n 3, 1) := pv_dec_of b129 (by decide +kernel)
theorem d129_56 : pv_dec 129 56 = some (.iconst (-1), 1) := pv_dec_of b129 (by decide +kernel)
theorem d129_57 : pv_dec 129 57 = some (.if_icmp .ne 5, 3) := pv_dec_of b129 (by decide +kernel)
theorem d129_60 : pv_dec 129 60 = some (.iload_n 2, 1) := pv_dec_of b129 (by decide +kernel)
theorem d129_61 : pv_dec 129 61 = some (.ireturn, 1) := pv_dec_of b129 (by decide +kernel)
theorem d129_62 : pv_dec 129 62 = some (.aload_n 0, 1) := pv_dec_of b129 (by decide +kernel)
theorem d129_63 : pv_dec 129 63 = some (.iload_n 3, 1) := pv_dec_of b129 (by decide +kernel)
theorem d129_64 : pv_dec 129 64 = some (.bipush 10, 2) := pv_dec_of b129 (by decide +kernel)
theorem d129_66 : pv_dec 129 66 = some (.idiv, 1) := pv_dec_of b129 (by decide +kernel)
theorem d129_67 : pv_dec 129 67 = some (.iload_n 3, 1) := pv_dec_of b129 (by decide +kernel)
theorem d129_68 : pv_dec 129 68 = some (.bipush 10, 2) := pv_dec_of b129 (by decide +kernel)
theorem d129_70 : pv_dec 129 70 = some (.irem, 1) := pv_dec_of b129 (by decide +kernel)
theorem d129_71 : pv_dec 129 71 = some (.invokevirtual 210, 3) := pv_dec_of b129 (by decide +kernel)
theorem d129_74 : pv_dec 129 74 = some (.pop, 1) := pv_dec_of b129 (by decide +kernel)
theorem d129_75 : pv_dec 129 75 = some (.iinc 2 1, 3) := pv_dec_of b129 (by decide +kernel)
theorem d129_78 : pv_dec 129 78 = some (.goto (-52), 3) := pv_dec_of b129 (by decide +kernel)
theorem d129_81 : pv_dec 129 81 = some (.iload_n 1, 1) := pv_dec_of b129 (by decide +kernel)
theorem d129_82 : pv_dec 129 82 = some (.ireturn, 1) := pv_dec_of b129 (by decide +kernel)
theorem g129_19 : pv_gf 129 19 = some (0, 1) := pv_gfo_of o129 G2_19
theorem g129_207 : pv_gf 129 207 = some (2, 14) := pv_gfo_of o129 G2_207
theorem k129_129 : pv_kV 129 129 64 2 0 1 := pv_kV_of o129 Y2_129 V64 (by decide +kernel)
theorem k129_210 : pv_kV 129 210 123 0 2 4 := pv_kV_of o129 Y2_210 V123 (by decide +kernel)
theorem k129_220 : pv_kS 129 220 128 1 3 := pv_kS_of o129 Y2_220 Z128 (by decide +kernel)
theorem o130 : pv_own 130 = "AngleNet" := by decide +kernel
theorem b130 : pv_bc 130 = prog_1_method_25_code := pv_bcof (i := 130) rfl
theorem m130 : pv_mL 130 = 1 := by decide +kernel
theorem tt130 : pv_rt 130 = some .int := by decide +kernel
theorem d130_0 : pv_dec 130 0 = some (.aload_n 0, 1) := pv_dec_of b130 (by decide +kernel)
theorem d130_1 : pv_dec 130 1 = some (.getfield 19, 3) := pv_dec_of b130 (by decide +kernel)
theorem d130_4 : pv_dec 130 4 = some (.invokestatic 223, 3) := pv_dec_of b130 (by decide +kernel)
theorem d130_7 : pv_dec 130 7 = some (.ifCond .eq 7, 3) := pv_dec_of b130 (by decide +kernel)
theorem d130_10 : pv_dec 130 10 = some (.iconst 1, 1) := pv_dec_of b130 (by decide +kernel)
theorem d130_11 : pv_dec 130 11 = some (.goto 4, 3) := pv_dec_of b130 (by decide +kernel)
theorem d130_14 : pv_dec 130 14 = some (.iconst 0, 1) := pv_dec_of b130 (by decide +kernel)
theorem d130_15 : pv_dec 130 15 = some (.ireturn, 1) := pv_dec_of b130 (by decide +kernel)
theorem g130_19 : pv_gf 130 19 = some (0, 1) := pv_gfo_of o130 G2_19
theorem Y2_223 : pv_mlo "AngleNet" 223 = some (⟨"AngleNet$Flips", "takeBack", "(LAngleNet$Net;)Z"⟩, none) := by decide +kernel
theorem Z131 : pv_cS 131 1 3 ⟨"AngleNet$Flips", "takeBack", "(LAngleNet$Net;)Z"⟩ = true := by decide +kernel
theorem k130_223 : pv_kS 130 223 131 1 3 := pv_kS_of o130 Y2_223 Z131 (by decide +kernel)
theorem o133 : pv_own 133 = "AngleNet" := by decide +kernel
theorem b133 : pv_bc 133 = prog_1_method_26_code := pv_bcof (i := 133) rfl
theorem m133 : pv_mL 133 = 1 := by decide +kernel
theorem tt133 : pv_rt 133 = some .int := by decide +kernel
theorem d133_0 : pv_dec 133 0 = some (.aload_n 0, 1) := pv_dec_of b133 (by decide +kernel)
theorem d133_1 : pv_dec 133 1 = some (.getfield 19, 3) := pv_dec_of b133 (by decide +kernel)
theorem d133_4 : pv_dec 133 4 = some (.invokestatic 226, 3) := pv_dec_of b133 (by decide +kernel)
theorem d133_7 : pv_dec 133 7 = some (.ifCond .eq 7, 3) := pv_dec_of b133 (by decide +kernel)
theorem d133_10 : pv_dec 133 10 = some (.iconst 1, 1) := pv_dec_of b133 (by decide +kernel)
theorem d133_11 : pv_dec 133 11 = some (.goto 4, 3) := pv_dec_of b133 (by decide +kernel)
theorem d133_14 : pv_dec 133 14 = some (.iconst 0, 1) := pv_dec_of b133 (by decide +kernel)
theorem d133_15 : pv_dec 133 15 = some (.ireturn, 1) := pv_dec_of b133 (by decide +kernel)
theorem g133_19 : pv_gf 133 19 = some (0, 1) := pv_gfo_of o133 G2_19
theorem Y2_226 : pv_mlo "AngleNet" 226 = some (⟨"AngleNet$Flips", "applyAgain", "(LAngleNet$Net;)Z"⟩, none) := by decide +kernel
theorem Z134 : pv_cS 134 1 2 ⟨"AngleNet$Flips", "applyAgain", "(LAngleNet$Net;)Z"⟩ = true := by decide +kernel
theorem k133_226 : pv_kS 133 226 134 1 2 := pv_kS_of o133 Y2_226 Z134 (by decide +kernel)
theorem o135 : pv_own 135 = "AngleNet" := by decide +kernel
theorem b135 : pv_bc 135 = prog_1_method_27_code := pv_bcof (i := 135) rfl
theorem m135 : pv_mL 135 = 11 := by decide +kernel
theorem tt135 : pv_rt 135 = some .int := by decide +kernel
theorem d135_0 : pv_dec 135 0 = some (.aload_n 0, 1) := pv_dec_of b135 (by decide +kernel)
theorem d135_1 : pv_dec 135 1 = some (.getfield 19, 3) := pv_dec_of b135 (by decide +kernel)
theorem d135_4 : pv_dec 135 4 = some (.invokevirtual 229, 3) := pv_dec_of b135 (by decide +kernel)
theorem d135_7 : pv_dec 135 7 = some (.istore_n 3, 1) := pv_dec_of b135 (by decide +kernel)
theorem d135_8 : pv_dec 135 8 = some (.iload_n 1, 1) := pv_dec_of b135 (by decide +kernel)
theorem d135_9 : pv_dec 135 9 = some (.ifCond .lt 24, 3) := pv_dec_of b135 (by decide +kernel)
theorem d135_12 : pv_dec 135 12 = some (.iload_n 1, 1) := pv_dec_of b135 (by decide +kernel)
theorem d135_13 : pv_dec 135 13 = some (.ldc 233, 2) := pv_dec_of b135 (by decide +kernel)
theorem KC2_233 : pv_kco "AngleNet" 233 = some (pv_I 2000000000) := by decide +kernel
theorem n135_13 : pv_kc 135 233 = some (pv_I 2000000000) := by rw [pv_kc, o135]; exact KC2_233
theorem d135_15 : pv_dec 135 15 = some (.if_icmp .gt 18, 3) := pv_dec_of b135 (by decide +kernel)
theorem d135_18 : pv_dec 135 18 = some (.iload_n 2, 1) := pv_dec_of b135 (by decide +kernel)
theorem d135_19 : pv_dec 135 19 = some (.iconst 1, 1) := pv_dec_of b135 (by decide +kernel)
theorem d135_20 : pv_dec 135 20 = some (.if_icmp .lt 13, 3) := pv_dec_of b135 (by decide +kernel)
theorem d135_23 : pv_dec 135 23 = some (.iload_n 2, 1) := pv_dec_of b135 (by decide +kernel)
theorem d135_24 : pv_dec 135 24 = some (.bipush 40, 2) := pv_dec_of b135 (by decide +kernel)
theorem d135_26 : pv_dec 135 26 = some (.if_icmp .gt 7, 3) := pv_dec_of b135 (by decide +kernel)
theorem d135_29 : pv_dec 135 29 = some (.iload_n 3, 1) := pv_dec_of b135 (by decide +kernel)
theorem d135_30 : pv_dec 135 30 = some (.ifCond .ne 6, 3) := pv_dec_of b135 (by decide +kernel)
theorem d135_33 : pv_dec 135 33 = some (.bipush (-2), 2) := pv_dec_of b135 (by decide +kernel)
theorem d135_35 : pv_dec 135 35 = some (.ireturn, 1) := pv_dec_of b135 (by decide +kernel)
theorem d135_36 : pv_dec 135 36 = some (.iload_n 1, 1) := pv_dec_of b135 (by decide +kernel)
theorem d135_37 : pv_dec 135 37 = some (.i2l, 1) := pv_dec_of b135 (by decide +kernel)
theorem d135_38 : pv_dec 135 38 = some (.lstore 4, 2) := pv_dec_of b135 (by decide +kernel)
theorem d135_40 : pv_dec 135 40 = some (.iconst 0, 1) := pv_dec_of b135 (by decide +kernel)
theorem d135_41 : pv_dec 135 41 = some (.istore 6, 2) := pv_dec_of b135 (by decide +kernel)
theorem d135_43 : pv_dec 135 43 = some (.iconst 0, 1) := pv_dec_of b135 (by decide +kernel)
theorem d135_44 : pv_dec 135 44 = some (.istore 7, 2) := pv_dec_of b135 (by decide +kernel)
theorem d135_46 : pv_dec 135 46 = some (.iload 7, 2) := pv_dec_of b135 (by decide +kernel)
theorem d135_48 : pv_dec 135 48 = some (.iload_n 2, 1) := pv_dec_of b135 (by decide +kernel)
theorem d135_49 : pv_dec 135 49 = some (.if_icmp .ge 102, 3) := pv_dec_of b135 (by decide +kernel)
theorem d135_52 : pv_dec 135 52 = some (.ldc2_w 234, 3) := pv_dec_of b135 (by decide +kernel)
theorem KL2_234 : pv_kdo "AngleNet" 234 = some (pv_J 1103515245) := by decide +kernel
theorem n135_52 : pv_kd 135 234 = some (pv_J 1103515245) := by rw [pv_kd, o135]; exact KL2_234
theorem d135_55 : pv_dec 135 55 = some (.lload 4, 2) := pv_dec_of b135 (by decide +kernel)
theorem d135_57 : pv_dec 135 57 = some (.lmul, 1) := pv_dec_of b135 (by decide +kernel)
theorem d135_58 : pv_dec 135 58 = some (.ldc2_w 236, 3) := pv_dec_of b135 (by decide +kernel)
theorem KL2_236 : pv_kdo "AngleNet" 236 = some (pv_J 12345) := by decide +kernel
theorem n135_58 : pv_kd 135 236 = some (pv_J 12345) := by rw [pv_kd, o135]; exact KL2_236
theorem d135_61 : pv_dec 135 61 = some (.ladd, 1) := pv_dec_of b135 (by decide +kernel)
theorem d135_62 : pv_dec 135 62 = some (.ldc2_w 238, 3) := pv_dec_of b135 (by decide +kernel)
theorem KL2_238 : pv_kdo "AngleNet" 238 = some (pv_J 2147483648) := by decide +kernel
theorem n135_62 : pv_kd 135 238 = some (pv_J 2147483648) := by rw [pv_kd, o135]; exact KL2_238
theorem d135_65 : pv_dec 135 65 = some (.lrem, 1) := pv_dec_of b135 (by decide +kernel)
theorem d135_66 : pv_dec 135 66 = some (.lstore 4, 2) := pv_dec_of b135 (by decide +kernel)
theorem d135_68 : pv_dec 135 68 = some (.aload_n 0, 1) := pv_dec_of b135 (by decide +kernel)
theorem d135_69 : pv_dec 135 69 = some (.getfield 19, 3) := pv_dec_of b135 (by decide +kernel)
theorem d135_72 : pv_dec 135 72 = some (.lload 4, 2) := pv_dec_of b135 (by decide +kernel)
theorem d135_74 : pv_dec 135 74 = some (.ldc2_w 240, 3) := pv_dec_of b135 (by decide +kernel)
theorem KL2_240 : pv_kdo "AngleNet" 240 = some (pv_J 65536) := by decide +kernel
theorem n135_74 : pv_kd 135 240 = some (pv_J 65536) := by rw [pv_kd, o135]; exact KL2_240
theorem d135_77 : pv_dec 135 77 = some (.ldiv, 1) := pv_dec_of b135 (by decide +kernel)
theorem d135_78 : pv_dec 135 78 = some (.iload_n 3, 1) := pv_dec_of b135 (by decide +kernel)
theorem d135_79 : pv_dec 135 79 = some (.i2l, 1) := pv_dec_of b135 (by decide +kernel)
theorem d135_80 : pv_dec 135 80 = some (.lrem, 1) := pv_dec_of b135 (by decide +kernel)
theorem d135_81 : pv_dec 135 81 = some (.l2i, 1) := pv_dec_of b135 (by decide +kernel)
theorem d135_82 : pv_dec 135 82 = some (.invokevirtual 126, 3) := pv_dec_of b135 (by decide +kernel)
theorem d135_85 : pv_dec 135 85 = some (.istore 8, 2) := pv_dec_of b135 (by decide +kernel)
theorem d135_87 : pv_dec 135 87 = some (.iload 8, 2) := pv_dec_of b135 (by decide +kernel)
theorem d135_89 : pv_dec 135 89 = some (.bipush 10, 2) := pv_dec_of b135 (by decide +kernel)
theorem d135_91 : pv_dec 135 91 = some (.idiv, 1) := pv_dec_of b135 (by decide +kernel)
theorem d135_92 : pv_dec 135 92 = some (.istore 9, 2) := pv_dec_of b135 (by decide +kernel)
theorem d135_94 : pv_dec 135 94 = some (.iload 8, 2) := pv_dec_of b135 (by decide +kernel)
theorem d135_96 : pv_dec 135 96 = some (.bipush 10, 2) := pv_dec_of b135 (by decide +kernel)
theorem d135_98 : pv_dec 135 98 = some (.irem, 1) := pv_dec_of b135 (by decide +kernel)
theorem d135_99 : pv_dec 135 99 = some (.istore 10, 2) := pv_dec_of b135 (by decide +kernel)
theorem d135_101 : pv_dec 135 101 = some (.iload 8, 2) := pv_dec_of b135 (by decide +kernel)
theorem d135_103 : pv_dec 135 103 = some (.iconst (-1), 1) := pv_dec_of b135 (by decide +kernel)
theorem d135_104 : pv_dec 135 104 = some (.if_icmp .eq 41, 3) := pv_dec_of b135 (by decide +kernel)
theorem d135_107 : pv_dec 135 107 = some (.aload_n 0, 1) := pv_dec_of b135 (by decide +kernel)
theorem d135_108 : pv_dec 135 108 = some (.getfield 19, 3) := pv_dec_of b135 (by decide +kernel)
theorem d135_111 : pv_dec 135 111 = some (.getfield 207, 3) := pv_dec_of b135 (by decide +kernel)
theorem d135_114 : pv_dec 135 114 = some (.bipush 99, 2) := pv_dec_of b135 (by decide +kernel)
theorem d135_116 : pv_dec 135 116 = some (.if_icmp .ge 29, 3) := pv_dec_of b135 (by decide +kernel)
theorem d135_119 : pv_dec 135 119 = some (.aload_n 0, 1) := pv_dec_of b135 (by decide +kernel)
theorem d135_120 : pv_dec 135 120 = some (.getfield 19, 3) := pv_dec_of b135 (by decide +kernel)
theorem d135_123 : pv_dec 135 123 = some (.iload 9, 2) := pv_dec_of b135 (by decide +kernel)
theorem d135_125 : pv_dec 135 125 = some (.iload 10, 2) := pv_dec_of b135 (by decide +kernel)
theorem d135_127 : pv_dec 135 127 = some (.invokestatic 203, 3) := pv_dec_of b135 (by decide +kernel)
theorem d135_130 : pv_dec 135 130 = some (.ifCond .eq 15, 3) := pv_dec_of b135 (by decide +kernel)
theorem d135_133 : pv_dec 135 133 = some (.aload_n 0, 1) := pv_dec_of b135 (by decide +kernel)
theorem d135_134 : pv_dec 135 134 = some (.iload 9, 2) := pv_dec_of b135 (by decide +kernel)
theorem d135_136 : pv_dec 135 136 = some (.iload 10, 2) := pv_dec_of b135 (by decide +kernel)
theorem d135_138 : pv_dec 135 138 = some (.invokevirtual 210, 3) := pv_dec_of b135 (by decide +kernel)
theorem d135_141 : pv_dec 135 141 = some (.pop, 1) := pv_dec_of b135 (by decide +kernel)
theorem d135_142 : pv_dec 135 142 = some (.iinc 6 1, 3) := pv_dec_of b135 (by decide +kernel)
theorem d135_145 : pv_dec 135 145 = some (.iinc 7 1, 3) := pv_dec_of b135 (by decide +kernel)
theorem d135_148 : pv_dec 135 148 = some (.goto (-102), 3) := pv_dec_of b135 (by decide +kernel)
theorem d135_151 : pv_dec 135 151 = some (.iload 6, 2) := pv_dec_of b135 (by decide +kernel)
theorem d135_153 : pv_dec 135 153 = some (.ireturn, 1) := pv_dec_of b135 (by decide +kernel)
theorem g135_19 : pv_gf 135 19 = some (0, 1) := pv_gfo_of o135 G2_19
theorem g135_207 : pv_gf 135 207 = some (2, 14) := pv_gfo_of o135 G2_207
theorem k135_126 : pv_kV 135 126 62 2 1 5 := pv_kV_of o135 Y2_126 V62 (by decide +kernel)
theorem k135_203 : pv_kS 135 203 120 3 5 := pv_kS_of o135 Y2_203 Z120 (by decide +kernel)
theorem k135_210 : pv_kV 135 210 123 0 2 4 := pv_kV_of o135 Y2_210 V123 (by decide +kernel)
theorem k135_229 : pv_kV 135 229 68 2 0 3 := pv_kV_of o135 Y2_229 V68 (by decide +kernel)
theorem o166 : pv_own 166 = "AngleNet" := by decide +kernel
theorem b166 : pv_bc 166 = prog_1_method_40_code := pv_bcof (i := 166) rfl
theorem m166 : pv_mL 166 = 5 := by decide +kernel
theorem tt166 : pv_rt 166 = some .boolean := by decide +kernel
theorem d166_0 : pv_dec 166 0 = some (.lload_n 1, 1) := pv_dec_of b166 (by decide +kernel)
theorem d166_1 : pv_dec 166 1 = some (.lconst 0, 1) := pv_dec_of b166 (by decide +kernel)
theorem d166_2 : pv_dec 166 2 = some (.lcmp, 1) := pv_dec_of b166 (by decide +kernel)
theorem d166_3 : pv_dec 166 3 = some (.ifCond .lt 11, 3) := pv_dec_of b166 (by decide +kernel)
theorem d166_6 : pv_dec 166 6 = some (.lload_n 1, 1) := pv_dec_of b166 (by decide +kernel)
theorem d166_7 : pv_dec 166 7 = some (.ldc2_w 324, 3) := pv_dec_of b166 (by decide +kernel)
theorem KL2_324 : pv_kdo "AngleNet" 324 = some (pv_J 100) := by decide +kernel
theorem n166_7 : pv_kd 166 324 = some (pv_J 100) := by rw [pv_kd, o166]; exact KL2_324
theorem d166_10 : pv_dec 166 10 = some (.lcmp, 1) := pv_dec_of b166 (by decide +kernel)
theorem d166_11 : pv_dec 166 11 = some (.ifCond .lt 5, 3) := pv_dec_of b166 (by decide +kernel)
theorem d166_14 : pv_dec 166 14 = some (.iconst 0, 1) := pv_dec_of b166 (by decide +kernel)
theorem d166_15 : pv_dec 166 15 = some (.ireturn, 1) := pv_dec_of b166 (by decide +kernel)
theorem d166_16 : pv_dec 166 16 = some (.lload_n 1, 1) := pv_dec_of b166 (by decide +kernel)
theorem d166_17 : pv_dec 166 17 = some (.l2i, 1) := pv_dec_of b166 (by decide +kernel)
theorem d166_18 : pv_dec 166 18 = some (.bipush 10, 2) := pv_dec_of b166 (by decide +kernel)
theorem d166_20 : pv_dec 166 20 = some (.idiv, 1) := pv_dec_of b166 (by decide +kernel)
theorem d166_21 : pv_dec 166 21 = some (.istore_n 3, 1) := pv_dec_of b166 (by decide +kernel)
theorem d166_22 : pv_dec 166 22 = some (.lload_n 1, 1) := pv_dec_of b166 (by decide +kernel)
theorem d166_23 : pv_dec 166 23 = some (.l2i, 1) := pv_dec_of b166 (by decide +kernel)
theorem d166_24 : pv_dec 166 24 = some (.bipush 10, 2) := pv_dec_of b166 (by decide +kernel)
theorem d166_26 : pv_dec 166 26 = some (.irem, 1) := pv_dec_of b166 (by decide +kernel)
theorem d166_27 : pv_dec 166 27 = some (.istore 4, 2) := pv_dec_of b166 (by decide +kernel)
theorem d166_29 : pv_dec 166 29 = some (.aload_n 0, 1) := pv_dec_of b166 (by decide +kernel)
theorem d166_30 : pv_dec 166 30 = some (.getfield 23, 3) := pv_dec_of b166 (by decide +kernel)
theorem d166_33 : pv_dec 166 33 = some (.iload_n 3, 1) := pv_dec_of b166 (by decide +kernel)
theorem d166_34 : pv_dec 166 34 = some (.iload 4, 2) := pv_dec_of b166 (by decide +kernel)
theorem d166_36 : pv_dec 166 36 = some (.invokevirtual 194, 3) := pv_dec_of b166 (by decide +kernel)
theorem d166_39 : pv_dec 166 39 = some (.ifCond .eq 16, 3) := pv_dec_of b166 (by decide +kernel)
theorem d166_42 : pv_dec 166 42 = some (.aload_n 0, 1) := pv_dec_of b166 (by decide +kernel)
theorem d166_43 : pv_dec 166 43 = some (.getfield 23, 3) := pv_dec_of b166 (by decide +kernel)
theorem d166_46 : pv_dec 166 46 = some (.iload_n 3, 1) := pv_dec_of b166 (by decide +kernel)
theorem d166_47 : pv_dec 166 47 = some (.iload 4, 2) := pv_dec_of b166 (by decide +kernel)
theorem d166_49 : pv_dec 166 49 = some (.invokestatic 203, 3) := pv_dec_of b166 (by decide +kernel)
theorem d166_52 : pv_dec 166 52 = some (.ifCond .ne 5, 3) := pv_dec_of b166 (by decide +kernel)
theorem d166_55 : pv_dec 166 55 = some (.iconst 0, 1) := pv_dec_of b166 (by decide +kernel)
theorem d166_56 : pv_dec 166 56 = some (.ireturn, 1) := pv_dec_of b166 (by decide +kernel)
theorem d166_57 : pv_dec 166 57 = some (.aload_n 0, 1) := pv_dec_of b166 (by decide +kernel)
theorem d166_58 : pv_dec 166 58 = some (.getfield 23, 3) := pv_dec_of b166 (by decide +kernel)
theorem d166_61 : pv_dec 166 61 = some (.iload_n 3, 1) := pv_dec_of b166 (by decide +kernel)
theorem d166_62 : pv_dec 166 62 = some (.iload 4, 2) := pv_dec_of b166 (by decide +kernel)
theorem d166_64 : pv_dec 166 64 = some (.invokestatic 214, 3) := pv_dec_of b166 (by decide +kernel)
theorem d166_67 : pv_dec 166 67 = some (.iconst (-1), 1) := pv_dec_of b166 (by decide +kernel)
theorem d166_68 : pv_dec 166 68 = some (.if_icmp .eq 7, 3) := pv_dec_of b166 (by decide +kernel)
theorem d166_71 : pv_dec 166 71 = some (.iconst 1, 1) := pv_dec_of b166 (by decide +kernel)
theorem d166_72 : pv_dec 166 72 = some (.goto 4, 3) := pv_dec_of b166 (by decide +kernel)
theorem d166_75 : pv_dec 166 75 = some (.iconst 0, 1) := pv_dec_of b166 (by decide +kernel)
theorem d166_76 : pv_dec 166 76 = some (.ireturn, 1) := pv_dec_of b166 (by decide +kernel)
theorem G2_23 : pv_gfo "AngleNet" 23 = some (0, 2) := by decide +kernel
theorem g166_23 : pv_gf 166 23 = some (0, 2) := pv_gfo_of o166 G2_23
theorem k166_194 : pv_kV 166 194 47 2 2 3 := pv_kV_of o166 Y2_194 V47 (by decide +kernel)
theorem k166_203 : pv_kS 166 203 120 3 5 := pv_kS_of o166 Y2_203 Z120 (by decide +kernel)
theorem k166_214 : pv_kS 166 214 124 3 10 := pv_kS_of o166 Y2_214 Z124 (by decide +kernel)
theorem o164 : pv_own 164 = "AngleNet" := by decide +kernel
theorem b164 : pv_bc 164 = prog_1_method_39_code := pv_bcof (i := 164) rfl
theorem m164 : pv_mL 164 = 4 := by decide +kernel
theorem tt164 : pv_rt 164 = some .int := by decide +kernel
theorem d164_0 : pv_dec 164 0 = some (.iload_n 1, 1) := pv_dec_of b164 (by decide +kernel)
theorem d164_1 : pv_dec 164 1 = some (.invokestatic 306, 3) := pv_dec_of b164 (by decide +kernel)
theorem d164_4 : pv_dec 164 4 = some (.ifCond .eq 13, 3) := pv_dec_of b164 (by decide +kernel)
theorem d164_7 : pv_dec 164 7 = some (.aload_n 0, 1) := pv_dec_of b164 (by decide +kernel)
theorem d164_8 : pv_dec 164 8 = some (.getfield 19, 3) := pv_dec_of b164 (by decide +kernel)
theorem d164_11 : pv_dec 164 11 = some (.invokevirtual 129, 3) := pv_dec_of b164 (by decide +kernel)
theorem d164_14 : pv_dec 164 14 = some (.ifCond .ne 6, 3) := pv_dec_of b164 (by decide +kernel)
theorem d164_17 : pv_dec 164 17 = some (.bipush (-2), 2) := pv_dec_of b164 (by decide +kernel)
theorem d164_19 : pv_dec 164 19 = some (.ireturn, 1) := pv_dec_of b164 (by decide +kernel)
theorem d164_20 : pv_dec 164 20 = some (.aload_n 0, 1) := pv_dec_of b164 (by decide +kernel)
theorem d164_21 : pv_dec 164 21 = some (.getfield 36, 3) := pv_dec_of b164 (by decide +kernel)
theorem d164_24 : pv_dec 164 24 = some (.iload_n 1, 1) := pv_dec_of b164 (by decide +kernel)
theorem d164_25 : pv_dec 164 25 = some (.aaload, 1) := pv_dec_of b164 (by decide +kernel)
theorem d164_26 : pv_dec 164 26 = some (.astore_n 2, 1) := pv_dec_of b164 (by decide +kernel)
theorem d164_27 : pv_dec 164 27 = some (.aload_n 2, 1) := pv_dec_of b164 (by decide +kernel)
theorem d164_28 : pv_dec 164 28 = some (.getfield 309, 3) := pv_dec_of b164 (by decide +kernel)
theorem d164_31 : pv_dec 164 31 = some (.ifCond .ne 6, 3) := pv_dec_of b164 (by decide +kernel)
theorem d164_34 : pv_dec 164 34 = some (.bipush (-6), 2) := pv_dec_of b164 (by decide +kernel)
theorem d164_36 : pv_dec 164 36 = some (.ireturn, 1) := pv_dec_of b164 (by decide +kernel)
theorem d164_37 : pv_dec 164 37 = some (.aload_n 0, 1) := pv_dec_of b164 (by decide +kernel)
theorem d164_38 : pv_dec 164 38 = some (.getfield 23, 3) := pv_dec_of b164 (by decide +kernel)
theorem d164_41 : pv_dec 164 41 = some (.aload_n 0, 1) := pv_dec_of b164 (by decide +kernel)
theorem d164_42 : pv_dec 164 42 = some (.getfield 19, 3) := pv_dec_of b164 (by decide +kernel)
theorem d164_45 : pv_dec 164 45 = some (.invokevirtual 77, 3) := pv_dec_of b164 (by decide +kernel)
theorem d164_48 : pv_dec 164 48 = some (.aload_n 0, 1) := pv_dec_of b164 (by decide +kernel)
theorem d164_49 : pv_dec 164 49 = some (.getfield 23, 3) := pv_dec_of b164 (by decide +kernel)
theorem d164_52 : pv_dec 164 52 = some (.invokevirtual 313, 3) := pv_dec_of b164 (by decide +kernel)
theorem d164_55 : pv_dec 164 55 = some (.iconst 0, 1) := pv_dec_of b164 (by decide +kernel)
theorem d164_56 : pv_dec 164 56 = some (.istore_n 3, 1) := pv_dec_of b164 (by decide +kernel)
theorem d164_57 : pv_dec 164 57 = some (.iload_n 3, 1) := pv_dec_of b164 (by decide +kernel)
theorem d164_58 : pv_dec 164 58 = some (.aload_n 2, 1) := pv_dec_of b164 (by decide +kernel)
theorem d164_59 : pv_dec 164 59 = some (.getfield 316, 3) := pv_dec_of b164 (by decide +kernel)
theorem d164_62 : pv_dec 164 62 = some (.if_icmp .ge 24, 3) := pv_dec_of b164 (by decide +kernel)
theorem d164_65 : pv_dec 164 65 = some (.aload_n 0, 1) := pv_dec_of b164 (by decide +kernel)
theorem d164_66 : pv_dec 164 66 = some (.aload_n 2, 1) := pv_dec_of b164 (by decide +kernel)
theorem d164_67 : pv_dec 164 67 = some (.getfield 317, 3) := pv_dec_of b164 (by decide +kernel)
theorem d164_70 : pv_dec 164 70 = some (.iload_n 3, 1) := pv_dec_of b164 (by decide +kernel)
theorem d164_71 : pv_dec 164 71 = some (.laload, 1) := pv_dec_of b164 (by decide +kernel)
theorem d164_72 : pv_dec 164 72 = some (.invokevirtual 320, 3) := pv_dec_of b164 (by decide +kernel)
theorem d164_75 : pv_dec 164 75 = some (.ifCond .ne 5, 3) := pv_dec_of b164 (by decide +kernel)
theorem d164_78 : pv_dec 164 78 = some (.iload_n 3, 1) := pv_dec_of b164 (by decide +kernel)
theorem d164_79 : pv_dec 164 79 = some (.ireturn, 1) := pv_dec_of b164 (by decide +kernel)
theorem d164_80 : pv_dec 164 80 = some (.iinc 3 1, 3) := pv_dec_of b164 (by decide +kernel)
theorem d164_83 : pv_dec 164 83 = some (.goto (-26), 3) := pv_dec_of b164 (by decide +kernel)
theorem d164_86 : pv_dec 164 86 = some (.aload_n 2, 1) := pv_dec_of b164 (by decide +kernel)
theorem d164_87 : pv_dec 164 87 = some (.getfield 316, 3) := pv_dec_of b164 (by decide +kernel)
theorem d164_90 : pv_dec 164 90 = some (.ireturn, 1) := pv_dec_of b164 (by decide +kernel)
theorem g164_19 : pv_gf 164 19 = some (0, 1) := pv_gfo_of o164 G2_19
theorem g164_23 : pv_gf 164 23 = some (0, 2) := pv_gfo_of o164 G2_23
theorem g164_36 : pv_gf 164 36 = some (0, 5) := pv_gfo_of o164 G2_36
theorem g164_309 : pv_gf 164 309 = some (3, 0) := pv_gfo_of o164 G2_309
theorem g164_316 : pv_gf 164 316 = some (3, 2) := pv_gfo_of o164 G2_316
theorem g164_317 : pv_gf 164 317 = some (3, 3) := pv_gfo_of o164 G2_317
theorem k164_129 : pv_kV 164 129 64 2 0 1 := pv_kV_of o164 Y2_129 V64 (by decide +kernel)
theorem k164_306 : pv_kS 164 306 165 1 1 := pv_kS_of o164 Y2_306 Z165 (by decide +kernel)
theorem Y2_313 : pv_mlo "AngleNet" 313 = some (⟨"AngleNet$Net", "forgetFlips", "()V"⟩, none) := by decide +kernel
theorem k164_313 : pv_kV 164 313 15 2 0 1 := pv_kV_of o164 Y2_313 V15 (by decide +kernel)
theorem Y2_320 : pv_mlo "AngleNet" 320 = some (⟨"AngleNet", "flipInThought", "(J)Z"⟩, none) := by decide +kernel
theorem V166 : pv_cV 166 0 1 5 ⟨"AngleNet", "flipInThought", "(J)Z"⟩ = true := by decide +kernel
theorem k164_320 : pv_kV 164 320 166 0 1 5 := pv_kV_of o164 Y2_320 V166 (by decide +kernel)
theorem k164_77 : pv_kV 164 77 52 2 1 2 := pv_kV_of o164 Y2_77 V52 (by decide +kernel)
