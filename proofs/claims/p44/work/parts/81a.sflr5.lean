theorem o281 : pv_own 281 = "AngleNetModel" := by decide +kernel
theorem b281 : pv_bc 281 = prog_13_method_100_code := pv_bcof (i := 281) rfl
theorem m281 : pv_mL 281 = 2 := by decide +kernel
theorem tt281 : pv_rt 281 = some .int := by decide +kernel
theorem d281_0 : pv_dec 281 0 = some (.aload_n 0, 1) := pv_dec_of b281 (by decide +kernel)
theorem d281_1 : pv_dec 281 1 = some (.ldc2_w 383, 3) := pv_dec_of b281 (by decide +kernel)
theorem KL11_383 : pv_kdo "AngleNetModel" 383 = some (pv_J 1103515245) := by decide +kernel
theorem n281_1 : pv_kd 281 383 = some (pv_J 1103515245) := by rw [pv_kd, o281]; exact KL11_383
theorem d281_4 : pv_dec 281 4 = some (.aload_n 0, 1) := pv_dec_of b281 (by decide +kernel)
theorem d281_5 : pv_dec 281 5 = some (.getfield 385, 3) := pv_dec_of b281 (by decide +kernel)
theorem d281_8 : pv_dec 281 8 = some (.lmul, 1) := pv_dec_of b281 (by decide +kernel)
theorem d281_9 : pv_dec 281 9 = some (.ldc2_w 389, 3) := pv_dec_of b281 (by decide +kernel)
theorem KL11_389 : pv_kdo "AngleNetModel" 389 = some (pv_J 12345) := by decide +kernel
theorem n281_9 : pv_kd 281 389 = some (pv_J 12345) := by rw [pv_kd, o281]; exact KL11_389
theorem d281_12 : pv_dec 281 12 = some (.ladd, 1) := pv_dec_of b281 (by decide +kernel)
theorem d281_13 : pv_dec 281 13 = some (.ldc2_w 391, 3) := pv_dec_of b281 (by decide +kernel)
theorem KL11_391 : pv_kdo "AngleNetModel" 391 = some (pv_J 2147483648) := by decide +kernel
theorem n281_13 : pv_kd 281 391 = some (pv_J 2147483648) := by rw [pv_kd, o281]; exact KL11_391
theorem d281_16 : pv_dec 281 16 = some (.lrem, 1) := pv_dec_of b281 (by decide +kernel)
theorem d281_17 : pv_dec 281 17 = some (.putfield 385, 3) := pv_dec_of b281 (by decide +kernel)
theorem d281_20 : pv_dec 281 20 = some (.aload_n 0, 1) := pv_dec_of b281 (by decide +kernel)
theorem d281_21 : pv_dec 281 21 = some (.getfield 385, 3) := pv_dec_of b281 (by decide +kernel)
theorem d281_24 : pv_dec 281 24 = some (.ldc2_w 393, 3) := pv_dec_of b281 (by decide +kernel)
theorem KL11_393 : pv_kdo "AngleNetModel" 393 = some (pv_J 65536) := by decide +kernel
theorem n281_24 : pv_kd 281 393 = some (pv_J 65536) := by rw [pv_kd, o281]; exact KL11_393
theorem d281_27 : pv_dec 281 27 = some (.ldiv, 1) := pv_dec_of b281 (by decide +kernel)
theorem d281_28 : pv_dec 281 28 = some (.iload_n 1, 1) := pv_dec_of b281 (by decide +kernel)
theorem d281_29 : pv_dec 281 29 = some (.i2l, 1) := pv_dec_of b281 (by decide +kernel)
theorem d281_30 : pv_dec 281 30 = some (.lrem, 1) := pv_dec_of b281 (by decide +kernel)
theorem d281_31 : pv_dec 281 31 = some (.l2i, 1) := pv_dec_of b281 (by decide +kernel)
theorem d281_32 : pv_dec 281 32 = some (.ireturn, 1) := pv_dec_of b281 (by decide +kernel)
theorem G11_385 : pv_gfo "AngleNetModel" 385 = some (7, 18) := by decide +kernel
theorem g281_385 : pv_gf 281 385 = some (7, 18) := pv_gfo_of o281 G11_385
theorem w7_18 : pv_ft 7 18 = some .long := by decide +kernel
theorem o280 : pv_own 280 = "AngleNetModel" := by decide +kernel
theorem b280 : pv_bc 280 = prog_13_method_101_code := pv_bcof (i := 280) rfl
theorem m280 : pv_mL 280 = 6 := by decide +kernel
theorem tt280 : pv_rt 280 = some .int := by decide +kernel
theorem d280_0 : pv_dec 280 0 = some (.aload_n 0, 1) := pv_dec_of b280 (by decide +kernel)
theorem d280_1 : pv_dec 280 1 = some (.invokevirtual 283, 3) := pv_dec_of b280 (by decide +kernel)
theorem d280_4 : pv_dec 280 4 = some (.ifCond .eq 34, 3) := pv_dec_of b280 (by decide +kernel)
theorem d280_7 : pv_dec 280 7 = some (.aload_n 0, 1) := pv_dec_of b280 (by decide +kernel)
theorem d280_8 : pv_dec 280 8 = some (.invokevirtual 216, 3) := pv_dec_of b280 (by decide +kernel)
theorem d280_11 : pv_dec 280 11 = some (.ifCond .eq 27, 3) := pv_dec_of b280 (by decide +kernel)
theorem d280_14 : pv_dec 280 14 = some (.iload_n 1, 1) := pv_dec_of b280 (by decide +kernel)
theorem d280_15 : pv_dec 280 15 = some (.i2l, 1) := pv_dec_of b280 (by decide +kernel)
theorem d280_16 : pv_dec 280 16 = some (.lconst 0, 1) := pv_dec_of b280 (by decide +kernel)
theorem d280_17 : pv_dec 280 17 = some (.ldc2_w 395, 3) := pv_dec_of b280 (by decide +kernel)
theorem KL11_395 : pv_kdo "AngleNetModel" 395 = some (pv_J 2000000000) := by decide +kernel
theorem n280_17 : pv_kd 280 395 = some (pv_J 2000000000) := by rw [pv_kd, o280]; exact KL11_395
theorem d280_20 : pv_dec 280 20 = some (.invokestatic 73, 3) := pv_dec_of b280 (by decide +kernel)
theorem d280_23 : pv_dec 280 23 = some (.ifCond .eq 15, 3) := pv_dec_of b280 (by decide +kernel)
theorem d280_26 : pv_dec 280 26 = some (.iload_n 2, 1) := pv_dec_of b280 (by decide +kernel)
theorem d280_27 : pv_dec 280 27 = some (.i2l, 1) := pv_dec_of b280 (by decide +kernel)
theorem d280_28 : pv_dec 280 28 = some (.lconst 1, 1) := pv_dec_of b280 (by decide +kernel)
theorem d280_29 : pv_dec 280 29 = some (.ldc2_w 397, 3) := pv_dec_of b280 (by decide +kernel)
theorem KL11_397 : pv_kdo "AngleNetModel" 397 = some (pv_J 40) := by decide +kernel
theorem n280_29 : pv_kd 280 397 = some (pv_J 40) := by rw [pv_kd, o280]; exact KL11_397
theorem d280_32 : pv_dec 280 32 = some (.invokestatic 73, 3) := pv_dec_of b280 (by decide +kernel)
theorem d280_35 : pv_dec 280 35 = some (.ifCond .ne 6, 3) := pv_dec_of b280 (by decide +kernel)
theorem d280_38 : pv_dec 280 38 = some (.bipush (-2), 2) := pv_dec_of b280 (by decide +kernel)
theorem d280_40 : pv_dec 280 40 = some (.ireturn, 1) := pv_dec_of b280 (by decide +kernel)
theorem d280_41 : pv_dec 280 41 = some (.aload_n 0, 1) := pv_dec_of b280 (by decide +kernel)
theorem d280_42 : pv_dec 280 42 = some (.iload_n 1, 1) := pv_dec_of b280 (by decide +kernel)
theorem d280_43 : pv_dec 280 43 = some (.i2l, 1) := pv_dec_of b280 (by decide +kernel)
theorem d280_44 : pv_dec 280 44 = some (.putfield 385, 3) := pv_dec_of b280 (by decide +kernel)
theorem d280_47 : pv_dec 280 47 = some (.iconst 0, 1) := pv_dec_of b280 (by decide +kernel)
theorem d280_48 : pv_dec 280 48 = some (.istore_n 3, 1) := pv_dec_of b280 (by decide +kernel)
theorem d280_49 : pv_dec 280 49 = some (.iconst 0, 1) := pv_dec_of b280 (by decide +kernel)
theorem d280_50 : pv_dec 280 50 = some (.istore 4, 2) := pv_dec_of b280 (by decide +kernel)
theorem d280_52 : pv_dec 280 52 = some (.iload 4, 2) := pv_dec_of b280 (by decide +kernel)
theorem d280_54 : pv_dec 280 54 = some (.iload_n 2, 1) := pv_dec_of b280 (by decide +kernel)
theorem d280_55 : pv_dec 280 55 = some (.if_icmp .ge 77, 3) := pv_dec_of b280 (by decide +kernel)
theorem d280_58 : pv_dec 280 58 = some (.aload_n 0, 1) := pv_dec_of b280 (by decide +kernel)
theorem d280_59 : pv_dec 280 59 = some (.aload_n 0, 1) := pv_dec_of b280 (by decide +kernel)
theorem d280_60 : pv_dec 280 60 = some (.aload_n 0, 1) := pv_dec_of b280 (by decide +kernel)
theorem d280_61 : pv_dec 280 61 = some (.invokevirtual 265, 3) := pv_dec_of b280 (by decide +kernel)
theorem d280_64 : pv_dec 280 64 = some (.invokevirtual 399, 3) := pv_dec_of b280 (by decide +kernel)
theorem d280_67 : pv_dec 280 67 = some (.invokevirtual 238, 3) := pv_dec_of b280 (by decide +kernel)
theorem d280_70 : pv_dec 280 70 = some (.istore 5, 2) := pv_dec_of b280 (by decide +kernel)
theorem d280_72 : pv_dec 280 72 = some (.iload_n 3, 1) := pv_dec_of b280 (by decide +kernel)
theorem d280_73 : pv_dec 280 73 = some (.aload_n 0, 1) := pv_dec_of b280 (by decide +kernel)
theorem d280_74 : pv_dec 280 74 = some (.iload 5, 2) := pv_dec_of b280 (by decide +kernel)
theorem d280_76 : pv_dec 280 76 = some (.bipush 10, 2) := pv_dec_of b280 (by decide +kernel)
theorem d280_78 : pv_dec 280 78 = some (.idiv, 1) := pv_dec_of b280 (by decide +kernel)
theorem d280_79 : pv_dec 280 79 = some (.iload 5, 2) := pv_dec_of b280 (by decide +kernel)
theorem d280_81 : pv_dec 280 81 = some (.bipush 10, 2) := pv_dec_of b280 (by decide +kernel)
theorem d280_83 : pv_dec 280 83 = some (.irem, 1) := pv_dec_of b280 (by decide +kernel)
theorem d280_84 : pv_dec 280 84 = some (.invokevirtual 354, 3) := pv_dec_of b280 (by decide +kernel)
theorem d280_87 : pv_dec 280 87 = some (.ifCond .eq 36, 3) := pv_dec_of b280 (by decide +kernel)
theorem d280_90 : pv_dec 280 90 = some (.aload_n 0, 1) := pv_dec_of b280 (by decide +kernel)
theorem d280_91 : pv_dec 280 91 = some (.getfield 9, 3) := pv_dec_of b280 (by decide +kernel)
theorem d280_94 : pv_dec 280 94 = some (.bipush 6, 2) := pv_dec_of b280 (by decide +kernel)
theorem d280_96 : pv_dec 280 96 = some (.iaload, 1) := pv_dec_of b280 (by decide +kernel)
theorem d280_97 : pv_dec 280 97 = some (.bipush 99, 2) := pv_dec_of b280 (by decide +kernel)
theorem d280_99 : pv_dec 280 99 = some (.if_icmp .ge 24, 3) := pv_dec_of b280 (by decide +kernel)
theorem d280_102 : pv_dec 280 102 = some (.aload_n 0, 1) := pv_dec_of b280 (by decide +kernel)
theorem d280_103 : pv_dec 280 103 = some (.iload 5, 2) := pv_dec_of b280 (by decide +kernel)
theorem d280_105 : pv_dec 280 105 = some (.bipush 10, 2) := pv_dec_of b280 (by decide +kernel)
theorem d280_107 : pv_dec 280 107 = some (.idiv, 1) := pv_dec_of b280 (by decide +kernel)
theorem d280_108 : pv_dec 280 108 = some (.iload 5, 2) := pv_dec_of b280 (by decide +kernel)
theorem d280_110 : pv_dec 280 110 = some (.bipush 10, 2) := pv_dec_of b280 (by decide +kernel)
theorem d280_112 : pv_dec 280 112 = some (.irem, 1) := pv_dec_of b280 (by decide +kernel)
theorem d280_113 : pv_dec 280 113 = some (.invokevirtual 380, 3) := pv_dec_of b280 (by decide +kernel)
theorem d280_116 : pv_dec 280 116 = some (.ifCond .lt 7, 3) := pv_dec_of b280 (by decide +kernel)
theorem d280_119 : pv_dec 280 119 = some (.iconst 1, 1) := pv_dec_of b280 (by decide +kernel)
theorem d280_120 : pv_dec 280 120 = some (.goto 4, 3) := pv_dec_of b280 (by decide +kernel)
theorem d280_123 : pv_dec 280 123 = some (.iconst 0, 1) := pv_dec_of b280 (by decide +kernel)
theorem d280_124 : pv_dec 280 124 = some (.iadd, 1) := pv_dec_of b280 (by decide +kernel)
theorem d280_125 : pv_dec 280 125 = some (.istore_n 3, 1) := pv_dec_of b280 (by decide +kernel)
theorem d280_126 : pv_dec 280 126 = some (.iinc 4 1, 3) := pv_dec_of b280 (by decide +kernel)
theorem d280_129 : pv_dec 280 129 = some (.goto (-77), 3) := pv_dec_of b280 (by decide +kernel)
theorem d280_132 : pv_dec 280 132 = some (.iload_n 3, 1) := pv_dec_of b280 (by decide +kernel)
theorem d280_133 : pv_dec 280 133 = some (.ireturn, 1) := pv_dec_of b280 (by decide +kernel)
theorem g280_9 : pv_gf 280 9 = some (7, 1) := pv_gfo_of o280 G11_9
theorem g280_385 : pv_gf 280 385 = some (7, 18) := pv_gfo_of o280 G11_385
theorem k280_216 : pv_kV 280 216 216 7 0 1 := pv_kV_of o280 Y11_216 V216 (by decide +kernel)
theorem k280_238 : pv_kV 280 238 222 7 1 5 := pv_kV_of o280 Y11_238 V222 (by decide +kernel)
theorem k280_265 : pv_kV 280 265 228 7 0 4 := pv_kV_of o280 Y11_265 V228 (by decide +kernel)
theorem k280_283 : pv_kV 280 283 224 7 0 1 := pv_kV_of o280 Y11_283 V224 (by decide +kernel)
theorem k280_354 : pv_kV 280 354 268 7 2 5 := pv_kV_of o280 Y11_354 V268 (by decide +kernel)
theorem k280_380 : pv_kV 280 380 271 7 2 3 := pv_kV_of o280 Y11_380 V271 (by decide +kernel)
theorem Y11_399 : pv_mlo "AngleNetModel" 399 = some (⟨"AngleNetModel", "draw", "(I)I"⟩, none) := by decide +kernel
theorem V281 : pv_cV 281 7 1 2 ⟨"AngleNetModel", "draw", "(I)I"⟩ = true := by decide +kernel
theorem k280_399 : pv_kV 280 399 281 7 1 2 := pv_kV_of o280 Y11_399 V281 (by decide +kernel)
theorem k280_73 : pv_kS 280 73 184 3 6 := pv_kS_of o280 Y11_73 Z184 (by decide +kernel)
