theorem o67 : pv_own 67 = "java/lang/Integer" := by decide +kernel
theorem b67 : pv_bc 67 = prog_14_method_49_code := pv_bcof (i := 67) rfl
theorem m67 : pv_mL 67 = 1 := by decide +kernel
theorem tt67 : pv_rt 67 = some .int := by decide +kernel
theorem d67_0 : pv_dec 67 0 = some (.iload_n 0, 1) := pv_dec_of b67 (by decide +kernel)
theorem d67_1 : pv_dec 67 1 = some (.iload_n 0, 1) := pv_dec_of b67 (by decide +kernel)
theorem d67_2 : pv_dec 67 2 = some (.iconst 1, 1) := pv_dec_of b67 (by decide +kernel)
theorem d67_3 : pv_dec 67 3 = some (.iushr, 1) := pv_dec_of b67 (by decide +kernel)
theorem d67_4 : pv_dec 67 4 = some (.ldc_w 265, 3) := pv_dec_of b67 (by decide +kernel)
theorem KC0_265 : pv_kco "java/lang/Integer" 265 = some (pv_I 1431655765) := by decide +kernel
theorem n67_4 : pv_kc 67 265 = some (pv_I 1431655765) := by rw [pv_kc, o67]; exact KC0_265
theorem d67_7 : pv_dec 67 7 = some (.iand, 1) := pv_dec_of b67 (by decide +kernel)
theorem d67_8 : pv_dec 67 8 = some (.isub, 1) := pv_dec_of b67 (by decide +kernel)
theorem d67_9 : pv_dec 67 9 = some (.istore_n 0, 1) := pv_dec_of b67 (by decide +kernel)
theorem d67_10 : pv_dec 67 10 = some (.iload_n 0, 1) := pv_dec_of b67 (by decide +kernel)
theorem d67_11 : pv_dec 67 11 = some (.ldc_w 266, 3) := pv_dec_of b67 (by decide +kernel)
theorem KC0_266 : pv_kco "java/lang/Integer" 266 = some (pv_I 858993459) := by decide +kernel
theorem n67_11 : pv_kc 67 266 = some (pv_I 858993459) := by rw [pv_kc, o67]; exact KC0_266
theorem d67_14 : pv_dec 67 14 = some (.iand, 1) := pv_dec_of b67 (by decide +kernel)
theorem d67_15 : pv_dec 67 15 = some (.iload_n 0, 1) := pv_dec_of b67 (by decide +kernel)
theorem d67_16 : pv_dec 67 16 = some (.iconst 2, 1) := pv_dec_of b67 (by decide +kernel)
theorem d67_17 : pv_dec 67 17 = some (.iushr, 1) := pv_dec_of b67 (by decide +kernel)
theorem d67_18 : pv_dec 67 18 = some (.ldc_w 266, 3) := pv_dec_of b67 (by decide +kernel)
theorem n67_18 : pv_kc 67 266 = some (pv_I 858993459) := by rw [pv_kc, o67]; exact KC0_266
theorem d67_21 : pv_dec 67 21 = some (.iand, 1) := pv_dec_of b67 (by decide +kernel)
theorem d67_22 : pv_dec 67 22 = some (.iadd, 1) := pv_dec_of b67 (by decide +kernel)
theorem d67_23 : pv_dec 67 23 = some (.istore_n 0, 1) := pv_dec_of b67 (by decide +kernel)
theorem d67_24 : pv_dec 67 24 = some (.iload_n 0, 1) := pv_dec_of b67 (by decide +kernel)
theorem d67_25 : pv_dec 67 25 = some (.iload_n 0, 1) := pv_dec_of b67 (by decide +kernel)
theorem d67_26 : pv_dec 67 26 = some (.iconst 4, 1) := pv_dec_of b67 (by decide +kernel)
theorem d67_27 : pv_dec 67 27 = some (.iushr, 1) := pv_dec_of b67 (by decide +kernel)
theorem d67_28 : pv_dec 67 28 = some (.iadd, 1) := pv_dec_of b67 (by decide +kernel)
theorem d67_29 : pv_dec 67 29 = some (.ldc_w 267, 3) := pv_dec_of b67 (by decide +kernel)
theorem KC0_267 : pv_kco "java/lang/Integer" 267 = some (pv_I 252645135) := by decide +kernel
theorem n67_29 : pv_kc 67 267 = some (pv_I 252645135) := by rw [pv_kc, o67]; exact KC0_267
theorem d67_32 : pv_dec 67 32 = some (.iand, 1) := pv_dec_of b67 (by decide +kernel)
theorem d67_33 : pv_dec 67 33 = some (.istore_n 0, 1) := pv_dec_of b67 (by decide +kernel)
theorem d67_34 : pv_dec 67 34 = some (.iload_n 0, 1) := pv_dec_of b67 (by decide +kernel)
theorem d67_35 : pv_dec 67 35 = some (.iload_n 0, 1) := pv_dec_of b67 (by decide +kernel)
theorem d67_36 : pv_dec 67 36 = some (.bipush 8, 2) := pv_dec_of b67 (by decide +kernel)
theorem d67_38 : pv_dec 67 38 = some (.iushr, 1) := pv_dec_of b67 (by decide +kernel)
theorem d67_39 : pv_dec 67 39 = some (.iadd, 1) := pv_dec_of b67 (by decide +kernel)
theorem d67_40 : pv_dec 67 40 = some (.istore_n 0, 1) := pv_dec_of b67 (by decide +kernel)
theorem d67_41 : pv_dec 67 41 = some (.iload_n 0, 1) := pv_dec_of b67 (by decide +kernel)
theorem d67_42 : pv_dec 67 42 = some (.iload_n 0, 1) := pv_dec_of b67 (by decide +kernel)
theorem d67_43 : pv_dec 67 43 = some (.bipush 16, 2) := pv_dec_of b67 (by decide +kernel)
theorem d67_45 : pv_dec 67 45 = some (.iushr, 1) := pv_dec_of b67 (by decide +kernel)
theorem d67_46 : pv_dec 67 46 = some (.iadd, 1) := pv_dec_of b67 (by decide +kernel)
theorem d67_47 : pv_dec 67 47 = some (.istore_n 0, 1) := pv_dec_of b67 (by decide +kernel)
theorem d67_48 : pv_dec 67 48 = some (.iload_n 0, 1) := pv_dec_of b67 (by decide +kernel)
theorem d67_49 : pv_dec 67 49 = some (.bipush 63, 2) := pv_dec_of b67 (by decide +kernel)
theorem d67_51 : pv_dec 67 51 = some (.iand, 1) := pv_dec_of b67 (by decide +kernel)
theorem d67_52 : pv_dec 67 52 = some (.ireturn, 1) := pv_dec_of b67 (by decide +kernel)
