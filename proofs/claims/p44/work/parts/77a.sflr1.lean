theorem o269 : pv_own 269 = "AngleNetModel" := by decide +kernel
theorem b269 : pv_bc 269 = prog_13_method_86_code := pv_bcof (i := 269) rfl
theorem m269 : pv_mL 269 = 4 := by decide +kernel
theorem tt269 : pv_rt 269 = some .int := by decide +kernel
theorem d269_0 : pv_dec 269 0 = some (.iconst 0, 1) := pv_dec_of b269 (by decide +kernel)
theorem d269_1 : pv_dec 269 1 = some (.istore_n 3, 1) := pv_dec_of b269 (by decide +kernel)
theorem d269_2 : pv_dec 269 2 = some (.aload_n 0, 1) := pv_dec_of b269 (by decide +kernel)
theorem d269_3 : pv_dec 269 3 = some (.getfield 9, 3) := pv_dec_of b269 (by decide +kernel)
theorem d269_6 : pv_dec 269 6 = some (.iload_n 3, 1) := pv_dec_of b269 (by decide +kernel)
theorem d269_7 : pv_dec 269 7 = some (.iload_n 1, 1) := pv_dec_of b269 (by decide +kernel)
theorem d269_8 : pv_dec 269 8 = some (.invokestatic 156, 3) := pv_dec_of b269 (by decide +kernel)
theorem d269_11 : pv_dec 269 11 = some (.ifCond .eq 15, 3) := pv_dec_of b269 (by decide +kernel)
theorem d269_14 : pv_dec 269 14 = some (.aload_n 0, 1) := pv_dec_of b269 (by decide +kernel)
theorem d269_15 : pv_dec 269 15 = some (.getfield 9, 3) := pv_dec_of b269 (by decide +kernel)
theorem d269_18 : pv_dec 269 18 = some (.iload_n 3, 1) := pv_dec_of b269 (by decide +kernel)
theorem d269_19 : pv_dec 269 19 = some (.iload_n 2, 1) := pv_dec_of b269 (by decide +kernel)
theorem d269_20 : pv_dec 269 20 = some (.invokestatic 156, 3) := pv_dec_of b269 (by decide +kernel)
theorem d269_23 : pv_dec 269 23 = some (.ifCond .ne 9, 3) := pv_dec_of b269 (by decide +kernel)
theorem d269_26 : pv_dec 269 26 = some (.iinc 3 1, 3) := pv_dec_of b269 (by decide +kernel)
theorem d269_29 : pv_dec 269 29 = some (.goto (-27), 3) := pv_dec_of b269 (by decide +kernel)
theorem d269_32 : pv_dec 269 32 = some (.iload_n 3, 1) := pv_dec_of b269 (by decide +kernel)
theorem d269_33 : pv_dec 269 33 = some (.ireturn, 1) := pv_dec_of b269 (by decide +kernel)
theorem g269_9 : pv_gf 269 9 = some (7, 1) := pv_gfo_of o269 G11_9
theorem k269_156 : pv_kS 269 156 205 3 3 := pv_kS_of o269 Y11_156 Z205 (by decide +kernel)
