theorem o190 : pv_own 190 = "AngleNetModel" := by decide +kernel
theorem b190 : pv_bc 190 = prog_13_method_16_code := pv_bcof (i := 190) rfl
theorem m190 : pv_mL 190 = 2 := by decide +kernel
theorem tt190 : pv_rt 190 = none := by decide +kernel
theorem d190_0 : pv_dec 190 0 = some (.aload_n 0, 1) := pv_dec_of b190 (by decide +kernel)
theorem d190_1 : pv_dec 190 1 = some (.aload_n 0, 1) := pv_dec_of b190 (by decide +kernel)
theorem d190_2 : pv_dec 190 2 = some (.getfield 87, 3) := pv_dec_of b190 (by decide +kernel)
theorem d190_5 : pv_dec 190 5 = some (.invokevirtual 90, 3) := pv_dec_of b190 (by decide +kernel)
theorem d190_8 : pv_dec 190 8 = some (.bipush 32, 2) := pv_dec_of b190 (by decide +kernel)
theorem d190_10 : pv_dec 190 10 = some (.if_icmp .eq 16, 3) := pv_dec_of b190 (by decide +kernel)
theorem d190_13 : pv_dec 190 13 = some (.aload_n 0, 1) := pv_dec_of b190 (by decide +kernel)
theorem d190_14 : pv_dec 190 14 = some (.aload_n 0, 1) := pv_dec_of b190 (by decide +kernel)
theorem d190_15 : pv_dec 190 15 = some (.getfield 87, 3) := pv_dec_of b190 (by decide +kernel)
theorem d190_18 : pv_dec 190 18 = some (.invokevirtual 90, 3) := pv_dec_of b190 (by decide +kernel)
theorem d190_21 : pv_dec 190 21 = some (.bipush 10, 2) := pv_dec_of b190 (by decide +kernel)
theorem d190_23 : pv_dec 190 23 = some (.if_icmp .ne 16, 3) := pv_dec_of b190 (by decide +kernel)
theorem d190_26 : pv_dec 190 26 = some (.aload_n 0, 1) := pv_dec_of b190 (by decide +kernel)
theorem d190_27 : pv_dec 190 27 = some (.dup, 1) := pv_dec_of b190 (by decide +kernel)
theorem d190_28 : pv_dec 190 28 = some (.getfield 87, 3) := pv_dec_of b190 (by decide +kernel)
theorem d190_31 : pv_dec 190 31 = some (.iconst 1, 1) := pv_dec_of b190 (by decide +kernel)
theorem d190_32 : pv_dec 190 32 = some (.iadd, 1) := pv_dec_of b190 (by decide +kernel)
theorem d190_33 : pv_dec 190 33 = some (.putfield 87, 3) := pv_dec_of b190 (by decide +kernel)
theorem d190_36 : pv_dec 190 36 = some (.goto (-36), 3) := pv_dec_of b190 (by decide +kernel)
theorem d190_39 : pv_dec 190 39 = some (.aload_n 0, 1) := pv_dec_of b190 (by decide +kernel)
theorem d190_40 : pv_dec 190 40 = some (.aload_n 0, 1) := pv_dec_of b190 (by decide +kernel)
theorem d190_41 : pv_dec 190 41 = some (.getfield 87, 3) := pv_dec_of b190 (by decide +kernel)
theorem d190_44 : pv_dec 190 44 = some (.putfield 94, 3) := pv_dec_of b190 (by decide +kernel)
theorem d190_47 : pv_dec 190 47 = some (.aload_n 0, 1) := pv_dec_of b190 (by decide +kernel)
theorem d190_48 : pv_dec 190 48 = some (.aload_n 0, 1) := pv_dec_of b190 (by decide +kernel)
theorem d190_49 : pv_dec 190 49 = some (.getfield 87, 3) := pv_dec_of b190 (by decide +kernel)
theorem d190_52 : pv_dec 190 52 = some (.invokevirtual 90, 3) := pv_dec_of b190 (by decide +kernel)
theorem d190_55 : pv_dec 190 55 = some (.istore_n 1, 1) := pv_dec_of b190 (by decide +kernel)
theorem d190_56 : pv_dec 190 56 = some (.iload_n 1, 1) := pv_dec_of b190 (by decide +kernel)
theorem d190_57 : pv_dec 190 57 = some (.iconst (-1), 1) := pv_dec_of b190 (by decide +kernel)
theorem d190_58 : pv_dec 190 58 = some (.if_icmp .ne 11, 3) := pv_dec_of b190 (by decide +kernel)
theorem d190_61 : pv_dec 190 61 = some (.aload_n 0, 1) := pv_dec_of b190 (by decide +kernel)
theorem d190_62 : pv_dec 190 62 = some (.iconst 0, 1) := pv_dec_of b190 (by decide +kernel)
theorem d190_63 : pv_dec 190 63 = some (.putfield 97, 3) := pv_dec_of b190 (by decide +kernel)
theorem d190_66 : pv_dec 190 66 = some (.goto 173, 3) := pv_dec_of b190 (by decide +kernel)
theorem d190_69 : pv_dec 190 69 = some (.iload_n 1, 1) := pv_dec_of b190 (by decide +kernel)
theorem d190_70 : pv_dec 190 70 = some (.i2l, 1) := pv_dec_of b190 (by decide +kernel)
theorem d190_71 : pv_dec 190 71 = some (.ldc2_w 100, 3) := pv_dec_of b190 (by decide +kernel)
theorem KL11_100 : pv_kdo "AngleNetModel" 100 = some (pv_J 97) := by decide +kernel
theorem n190_71 : pv_kd 190 100 = some (pv_J 97) := by rw [pv_kd, o190]; exact KL11_100
theorem d190_74 : pv_dec 190 74 = some (.ldc2_w 102, 3) := pv_dec_of b190 (by decide +kernel)
theorem KL11_102 : pv_kdo "AngleNetModel" 102 = some (pv_J 122) := by decide +kernel
theorem n190_74 : pv_kd 190 102 = some (pv_J 122) := by rw [pv_kd, o190]; exact KL11_102
theorem d190_77 : pv_dec 190 77 = some (.invokestatic 73, 3) := pv_dec_of b190 (by decide +kernel)
theorem d190_80 : pv_dec 190 80 = some (.ifCond .eq 45, 3) := pv_dec_of b190 (by decide +kernel)
theorem d190_83 : pv_dec 190 83 = some (.aload_n 0, 1) := pv_dec_of b190 (by decide +kernel)
theorem d190_84 : pv_dec 190 84 = some (.aload_n 0, 1) := pv_dec_of b190 (by decide +kernel)
theorem d190_85 : pv_dec 190 85 = some (.getfield 87, 3) := pv_dec_of b190 (by decide +kernel)
theorem d190_88 : pv_dec 190 88 = some (.invokevirtual 90, 3) := pv_dec_of b190 (by decide +kernel)
theorem d190_91 : pv_dec 190 91 = some (.i2l, 1) := pv_dec_of b190 (by decide +kernel)
theorem d190_92 : pv_dec 190 92 = some (.ldc2_w 100, 3) := pv_dec_of b190 (by decide +kernel)
theorem n190_92 : pv_kd 190 100 = some (pv_J 97) := by rw [pv_kd, o190]; exact KL11_100
theorem d190_95 : pv_dec 190 95 = some (.ldc2_w 102, 3) := pv_dec_of b190 (by decide +kernel)
theorem n190_95 : pv_kd 190 102 = some (pv_J 122) := by rw [pv_kd, o190]; exact KL11_102
theorem d190_98 : pv_dec 190 98 = some (.invokestatic 73, 3) := pv_dec_of b190 (by decide +kernel)
theorem d190_101 : pv_dec 190 101 = some (.ifCond .eq 16, 3) := pv_dec_of b190 (by decide +kernel)
theorem d190_104 : pv_dec 190 104 = some (.aload_n 0, 1) := pv_dec_of b190 (by decide +kernel)
theorem d190_105 : pv_dec 190 105 = some (.dup, 1) := pv_dec_of b190 (by decide +kernel)
theorem d190_106 : pv_dec 190 106 = some (.getfield 87, 3) := pv_dec_of b190 (by decide +kernel)
theorem d190_109 : pv_dec 190 109 = some (.iconst 1, 1) := pv_dec_of b190 (by decide +kernel)
theorem d190_110 : pv_dec 190 110 = some (.iadd, 1) := pv_dec_of b190 (by decide +kernel)
theorem d190_111 : pv_dec 190 111 = some (.putfield 87, 3) := pv_dec_of b190 (by decide +kernel)
theorem d190_114 : pv_dec 190 114 = some (.goto (-31), 3) := pv_dec_of b190 (by decide +kernel)
theorem d190_117 : pv_dec 190 117 = some (.aload_n 0, 1) := pv_dec_of b190 (by decide +kernel)
theorem d190_118 : pv_dec 190 118 = some (.iconst 1, 1) := pv_dec_of b190 (by decide +kernel)
theorem d190_119 : pv_dec 190 119 = some (.putfield 97, 3) := pv_dec_of b190 (by decide +kernel)
theorem d190_122 : pv_dec 190 122 = some (.goto 117, 3) := pv_dec_of b190 (by decide +kernel)
theorem d190_125 : pv_dec 190 125 = some (.iload_n 1, 1) := pv_dec_of b190 (by decide +kernel)
theorem d190_126 : pv_dec 190 126 = some (.i2l, 1) := pv_dec_of b190 (by decide +kernel)
theorem d190_127 : pv_dec 190 127 = some (.ldc2_w 104, 3) := pv_dec_of b190 (by decide +kernel)
theorem KL11_104 : pv_kdo "AngleNetModel" 104 = some (pv_J 48) := by decide +kernel
theorem n190_127 : pv_kd 190 104 = some (pv_J 48) := by rw [pv_kd, o190]; exact KL11_104
theorem d190_130 : pv_dec 190 130 = some (.ldc2_w 106, 3) := pv_dec_of b190 (by decide +kernel)
theorem KL11_106 : pv_kdo "AngleNetModel" 106 = some (pv_J 57) := by decide +kernel
theorem n190_130 : pv_kd 190 106 = some (pv_J 57) := by rw [pv_kd, o190]; exact KL11_106
theorem d190_133 : pv_dec 190 133 = some (.invokestatic 73, 3) := pv_dec_of b190 (by decide +kernel)
theorem d190_136 : pv_dec 190 136 = some (.ifCond .eq 78, 3) := pv_dec_of b190 (by decide +kernel)
theorem d190_139 : pv_dec 190 139 = some (.aload_n 0, 1) := pv_dec_of b190 (by decide +kernel)
theorem d190_140 : pv_dec 190 140 = some (.iconst 0, 1) := pv_dec_of b190 (by decide +kernel)
theorem d190_141 : pv_dec 190 141 = some (.putfield 108, 3) := pv_dec_of b190 (by decide +kernel)
theorem d190_144 : pv_dec 190 144 = some (.aload_n 0, 1) := pv_dec_of b190 (by decide +kernel)
theorem d190_145 : pv_dec 190 145 = some (.aload_n 0, 1) := pv_dec_of b190 (by decide +kernel)
theorem d190_146 : pv_dec 190 146 = some (.getfield 87, 3) := pv_dec_of b190 (by decide +kernel)
theorem d190_149 : pv_dec 190 149 = some (.invokevirtual 90, 3) := pv_dec_of b190 (by decide +kernel)
theorem d190_152 : pv_dec 190 152 = some (.i2l, 1) := pv_dec_of b190 (by decide +kernel)
theorem d190_153 : pv_dec 190 153 = some (.ldc2_w 104, 3) := pv_dec_of b190 (by decide +kernel)
theorem n190_153 : pv_kd 190 104 = some (pv_J 48) := by rw [pv_kd, o190]; exact KL11_104
theorem d190_156 : pv_dec 190 156 = some (.ldc2_w 106, 3) := pv_dec_of b190 (by decide +kernel)
theorem n190_156 : pv_kd 190 106 = some (pv_J 57) := by rw [pv_kd, o190]; exact KL11_106
theorem d190_159 : pv_dec 190 159 = some (.invokestatic 73, 3) := pv_dec_of b190 (by decide +kernel)
theorem d190_162 : pv_dec 190 162 = some (.ifCond .eq 44, 3) := pv_dec_of b190 (by decide +kernel)
theorem d190_165 : pv_dec 190 165 = some (.aload_n 0, 1) := pv_dec_of b190 (by decide +kernel)
theorem d190_166 : pv_dec 190 166 = some (.ldc 111, 2) := pv_dec_of b190 (by decide +kernel)
theorem KC11_111 : pv_kco "AngleNetModel" 111 = some (pv_I 99999) := by decide +kernel
theorem n190_166 : pv_kc 190 111 = some (pv_I 99999) := by rw [pv_kc, o190]; exact KC11_111
theorem d190_168 : pv_dec 190 168 = some (.bipush 10, 2) := pv_dec_of b190 (by decide +kernel)
theorem d190_170 : pv_dec 190 170 = some (.aload_n 0, 1) := pv_dec_of b190 (by decide +kernel)
theorem d190_171 : pv_dec 190 171 = some (.getfield 108, 3) := pv_dec_of b190 (by decide +kernel)
theorem d190_174 : pv_dec 190 174 = some (.imul, 1) := pv_dec_of b190 (by decide +kernel)
theorem d190_175 : pv_dec 190 175 = some (.aload_n 0, 1) := pv_dec_of b190 (by decide +kernel)
theorem d190_176 : pv_dec 190 176 = some (.aload_n 0, 1) := pv_dec_of b190 (by decide +kernel)
theorem d190_177 : pv_dec 190 177 = some (.getfield 87, 3) := pv_dec_of b190 (by decide +kernel)
theorem d190_180 : pv_dec 190 180 = some (.invokevirtual 90, 3) := pv_dec_of b190 (by decide +kernel)
theorem d190_183 : pv_dec 190 183 = some (.iadd, 1) := pv_dec_of b190 (by decide +kernel)
theorem d190_184 : pv_dec 190 184 = some (.bipush 48, 2) := pv_dec_of b190 (by decide +kernel)
theorem d190_186 : pv_dec 190 186 = some (.isub, 1) := pv_dec_of b190 (by decide +kernel)
theorem d190_187 : pv_dec 190 187 = some (.invokestatic 112, 3) := pv_dec_of b190 (by decide +kernel)
theorem d190_190 : pv_dec 190 190 = some (.putfield 108, 3) := pv_dec_of b190 (by decide +kernel)
theorem d190_193 : pv_dec 190 193 = some (.aload_n 0, 1) := pv_dec_of b190 (by decide +kernel)
theorem d190_194 : pv_dec 190 194 = some (.dup, 1) := pv_dec_of b190 (by decide +kernel)
theorem d190_195 : pv_dec 190 195 = some (.getfield 87, 3) := pv_dec_of b190 (by decide +kernel)
theorem d190_198 : pv_dec 190 198 = some (.iconst 1, 1) := pv_dec_of b190 (by decide +kernel)
theorem d190_199 : pv_dec 190 199 = some (.iadd, 1) := pv_dec_of b190 (by decide +kernel)
theorem d190_200 : pv_dec 190 200 = some (.putfield 87, 3) := pv_dec_of b190 (by decide +kernel)
theorem d190_203 : pv_dec 190 203 = some (.goto (-59), 3) := pv_dec_of b190 (by decide +kernel)
theorem d190_206 : pv_dec 190 206 = some (.aload_n 0, 1) := pv_dec_of b190 (by decide +kernel)
theorem d190_207 : pv_dec 190 207 = some (.iconst 2, 1) := pv_dec_of b190 (by decide +kernel)
theorem d190_208 : pv_dec 190 208 = some (.putfield 97, 3) := pv_dec_of b190 (by decide +kernel)
theorem d190_211 : pv_dec 190 211 = some (.goto 28, 3) := pv_dec_of b190 (by decide +kernel)
theorem d190_214 : pv_dec 190 214 = some (.aload_n 0, 1) := pv_dec_of b190 (by decide +kernel)
theorem d190_215 : pv_dec 190 215 = some (.iload_n 1, 1) := pv_dec_of b190 (by decide +kernel)
theorem d190_216 : pv_dec 190 216 = some (.bipush 59, 2) := pv_dec_of b190 (by decide +kernel)
theorem d190_218 : pv_dec 190 218 = some (.if_icmp .ne 7, 3) := pv_dec_of b190 (by decide +kernel)
theorem d190_221 : pv_dec 190 221 = some (.iconst 3, 1) := pv_dec_of b190 (by decide +kernel)
theorem d190_222 : pv_dec 190 222 = some (.goto 4, 3) := pv_dec_of b190 (by decide +kernel)
theorem d190_225 : pv_dec 190 225 = some (.iconst 4, 1) := pv_dec_of b190 (by decide +kernel)
theorem d190_226 : pv_dec 190 226 = some (.putfield 97, 3) := pv_dec_of b190 (by decide +kernel)
theorem d190_229 : pv_dec 190 229 = some (.aload_n 0, 1) := pv_dec_of b190 (by decide +kernel)
theorem d190_230 : pv_dec 190 230 = some (.dup, 1) := pv_dec_of b190 (by decide +kernel)
theorem d190_231 : pv_dec 190 231 = some (.getfield 87, 3) := pv_dec_of b190 (by decide +kernel)
theorem d190_234 : pv_dec 190 234 = some (.iconst 1, 1) := pv_dec_of b190 (by decide +kernel)
theorem d190_235 : pv_dec 190 235 = some (.iadd, 1) := pv_dec_of b190 (by decide +kernel)
theorem d190_236 : pv_dec 190 236 = some (.putfield 87, 3) := pv_dec_of b190 (by decide +kernel)
theorem d190_239 : pv_dec 190 239 = some (.return_, 1) := pv_dec_of b190 (by decide +kernel)
theorem G11_87 : pv_gfo "AngleNetModel" 87 = some (7, 8) := by decide +kernel
theorem g190_87 : pv_gf 190 87 = some (7, 8) := pv_gfo_of o190 G11_87
theorem g190_94 : pv_gf 190 94 = some (7, 9) := pv_gfo_of o190 G11_94
theorem G11_97 : pv_gfo "AngleNetModel" 97 = some (7, 10) := by decide +kernel
theorem g190_97 : pv_gf 190 97 = some (7, 10) := pv_gfo_of o190 G11_97
theorem G11_108 : pv_gfo "AngleNetModel" 108 = some (7, 11) := by decide +kernel
theorem g190_108 : pv_gf 190 108 = some (7, 11) := pv_gfo_of o190 G11_108
theorem w7_8 : pv_ft 7 8 = some .int := by decide +kernel
theorem w7_9 : pv_ft 7 9 = some .int := by decide +kernel
theorem w7_10 : pv_ft 7 10 = some .int := by decide +kernel
theorem w7_11 : pv_ft 7 11 = some .int := by decide +kernel
theorem k190_73 : pv_kS 190 73 184 3 6 := pv_kS_of o190 Y11_73 Z184 (by decide +kernel)
theorem Y11_90 : pv_mlo "AngleNetModel" 90 = some (⟨"AngleNetModel", "see", "(I)I"⟩, none) := by decide +kernel
theorem V191 : pv_cV 191 7 1 2 ⟨"AngleNetModel", "see", "(I)I"⟩ = true := by decide +kernel
theorem k190_90 : pv_kV 190 90 191 7 1 2 := pv_kV_of o190 Y11_90 V191 (by decide +kernel)
theorem k190_112 : pv_kM 190 112 Lib.Math.min.name Lib.Math.min.code 2 (some .int) = true := by decide +kernel
