theorem d_M_init_0 : decode prog_11_method_1_code 0 = .ok (.aload_n 0, 1) := by decide +kernel
theorem d_M_init_1 : decode prog_11_method_1_code 1 = .ok (.invokespecial 1, 3) := by decide +kernel
theorem d_M_init_4 : decode prog_11_method_1_code 4 = .ok (.aload_n 0, 1) := by decide +kernel
theorem d_M_init_5 : decode prog_11_method_1_code 5 = .ok (.bipush 32, 2) := by decide +kernel
theorem d_M_init_7 : decode prog_11_method_1_code 7 = .ok (.newarray .boolean, 2) := by decide +kernel
theorem d_M_init_9 : decode prog_11_method_1_code 9 = .ok (.putfield 7, 3) := by decide +kernel
theorem d_M_init_12 : decode prog_11_method_1_code 12 = .ok (.aload_n 0, 1) := by decide +kernel
theorem d_M_init_13 : decode prog_11_method_1_code 13 = .ok (.sipush 128, 3) := by decide +kernel
theorem d_M_init_16 : decode prog_11_method_1_code 16 = .ok (.newarray .boolean, 2) := by decide +kernel
theorem d_M_init_18 : decode prog_11_method_1_code 18 = .ok (.putfield 13, 3) := by decide +kernel
theorem d_M_init_21 : decode prog_11_method_1_code 21 = .ok (.aload_n 0, 1) := by decide +kernel
theorem d_M_init_22 : decode prog_11_method_1_code 22 = .ok (.bipush 32, 2) := by decide +kernel
theorem d_M_init_24 : decode prog_11_method_1_code 24 = .ok (.newarray .boolean, 2) := by decide +kernel
theorem d_M_init_26 : decode prog_11_method_1_code 26 = .ok (.putfield 16, 3) := by decide +kernel
theorem d_M_init_29 : decode prog_11_method_1_code 29 = .ok (.aload_n 0, 1) := by decide +kernel
theorem d_M_init_30 : decode prog_11_method_1_code 30 = .ok (.sipush 128, 3) := by decide +kernel
theorem d_M_init_33 : decode prog_11_method_1_code 33 = .ok (.newarray .boolean, 2) := by decide +kernel
theorem d_M_init_35 : decode prog_11_method_1_code 35 = .ok (.putfield 19, 3) := by decide +kernel
theorem d_M_init_38 : decode prog_11_method_1_code 38 = .ok (.aload_n 0, 1) := by decide +kernel
theorem d_M_init_39 : decode prog_11_method_1_code 39 = .ok (.sipush 128, 3) := by decide +kernel
theorem d_M_init_42 : decode prog_11_method_1_code 42 = .ok (.newarray .int, 2) := by decide +kernel
theorem d_M_init_44 : decode prog_11_method_1_code 44 = .ok (.putfield 22, 3) := by decide +kernel
theorem d_M_init_47 : decode prog_11_method_1_code 47 = .ok (.aload_n 0, 1) := by decide +kernel
theorem d_M_init_48 : decode prog_11_method_1_code 48 = .ok (.sipush 128, 3) := by decide +kernel
theorem d_M_init_51 : decode prog_11_method_1_code 51 = .ok (.newarray .int, 2) := by decide +kernel
theorem d_M_init_53 : decode prog_11_method_1_code 53 = .ok (.putfield 26, 3) := by decide +kernel
theorem d_M_init_56 : decode prog_11_method_1_code 56 = .ok (.aload_n 0, 1) := by decide +kernel
theorem d_M_init_57 : decode prog_11_method_1_code 57 = .ok (.sipush 128, 3) := by decide +kernel
theorem d_M_init_60 : decode prog_11_method_1_code 60 = .ok (.newarray .int, 2) := by decide +kernel
theorem d_M_init_62 : decode prog_11_method_1_code 62 = .ok (.putfield 29, 3) := by decide +kernel
theorem d_M_init_65 : decode prog_11_method_1_code 65 = .ok (.aload_n 0, 1) := by decide +kernel
theorem d_M_init_66 : decode prog_11_method_1_code 66 = .ok (.ldc 32, 2) := by decide +kernel
theorem d_M_init_68 : decode prog_11_method_1_code 68 = .ok (.newarray .byte, 2) := by decide +kernel
theorem d_M_init_70 : decode prog_11_method_1_code 70 = .ok (.putfield 33, 3) := by decide +kernel
theorem d_M_init_73 : decode prog_11_method_1_code 73 = .ok (.aload_n 0, 1) := by decide +kernel
theorem d_M_init_74 : decode prog_11_method_1_code 74 = .ok (.sipush 2048, 3) := by decide +kernel
theorem d_M_init_77 : decode prog_11_method_1_code 77 = .ok (.newarray .long, 2) := by decide +kernel
theorem d_M_init_79 : decode prog_11_method_1_code 79 = .ok (.putfield 37, 3) := by decide +kernel
theorem d_M_init_82 : decode prog_11_method_1_code 82 = .ok (.aload_n 0, 1) := by decide +kernel
theorem d_M_init_83 : decode prog_11_method_1_code 83 = .ok (.sipush 2048, 3) := by decide +kernel
theorem d_M_init_86 : decode prog_11_method_1_code 86 = .ok (.newarray .int, 2) := by decide +kernel
theorem d_M_init_88 : decode prog_11_method_1_code 88 = .ok (.putfield 41, 3) := by decide +kernel
theorem d_M_init_91 : decode prog_11_method_1_code 91 = .ok (.aload_n 0, 1) := by decide +kernel
theorem d_M_init_92 : decode prog_11_method_1_code 92 = .ok (.sipush 2048, 3) := by decide +kernel
theorem d_M_init_95 : decode prog_11_method_1_code 95 = .ok (.newarray .int, 2) := by decide +kernel
theorem d_M_init_97 : decode prog_11_method_1_code 97 = .ok (.putfield 44, 3) := by decide +kernel
theorem d_M_init_100 : decode prog_11_method_1_code 100 = .ok (.aload_n 0, 1) := by decide +kernel
theorem d_M_init_101 : decode prog_11_method_1_code 101 = .ok (.sipush 2048, 3) := by decide +kernel
theorem d_M_init_104 : decode prog_11_method_1_code 104 = .ok (.newarray .int, 2) := by decide +kernel
theorem d_M_init_106 : decode prog_11_method_1_code 106 = .ok (.putfield 47, 3) := by decide +kernel
theorem d_M_init_109 : decode prog_11_method_1_code 109 = .ok (.aload_n 0, 1) := by decide +kernel
theorem d_M_init_110 : decode prog_11_method_1_code 110 = .ok (.sipush 2048, 3) := by decide +kernel
theorem d_M_init_113 : decode prog_11_method_1_code 113 = .ok (.newarray .int, 2) := by decide +kernel
theorem d_M_init_115 : decode prog_11_method_1_code 115 = .ok (.putfield 50, 3) := by decide +kernel
theorem d_M_init_118 : decode prog_11_method_1_code 118 = .ok (.aload_n 0, 1) := by decide +kernel
theorem d_M_init_119 : decode prog_11_method_1_code 119 = .ok (.sipush 2048, 3) := by decide +kernel
theorem d_M_init_122 : decode prog_11_method_1_code 122 = .ok (.newarray .int, 2) := by decide +kernel
theorem d_M_init_124 : decode prog_11_method_1_code 124 = .ok (.putfield 53, 3) := by decide +kernel
theorem d_M_init_127 : decode prog_11_method_1_code 127 = .ok (.aload_n 0, 1) := by decide +kernel
theorem d_M_init_128 : decode prog_11_method_1_code 128 = .ok (.sipush 2048, 3) := by decide +kernel
theorem d_M_init_131 : decode prog_11_method_1_code 131 = .ok (.newarray .int, 2) := by decide +kernel
theorem d_M_init_133 : decode prog_11_method_1_code 133 = .ok (.putfield 56, 3) := by decide +kernel
theorem d_M_init_136 : decode prog_11_method_1_code 136 = .ok (.aload_n 0, 1) := by decide +kernel
theorem d_M_init_137 : decode prog_11_method_1_code 137 = .ok (.bipush 33, 2) := by decide +kernel
theorem d_M_init_139 : decode prog_11_method_1_code 139 = .ok (.newarray .int, 2) := by decide +kernel
theorem d_M_init_141 : decode prog_11_method_1_code 141 = .ok (.putfield 59, 3) := by decide +kernel
theorem d_M_init_144 : decode prog_11_method_1_code 144 = .ok (.aload_n 0, 1) := by decide +kernel
theorem d_M_init_145 : decode prog_11_method_1_code 145 = .ok (.sipush 4096, 3) := by decide +kernel
theorem d_M_init_148 : decode prog_11_method_1_code 148 = .ok (.newarray .int, 2) := by decide +kernel
theorem d_M_init_150 : decode prog_11_method_1_code 150 = .ok (.putfield 62, 3) := by decide +kernel
theorem d_M_init_153 : decode prog_11_method_1_code 153 = .ok (.aload_n 0, 1) := by decide +kernel
theorem d_M_init_154 : decode prog_11_method_1_code 154 = .ok (.sipush 4096, 3) := by decide +kernel
theorem d_M_init_157 : decode prog_11_method_1_code 157 = .ok (.newarray .int, 2) := by decide +kernel
theorem d_M_init_159 : decode prog_11_method_1_code 159 = .ok (.putfield 65, 3) := by decide +kernel
theorem d_M_init_162 : decode prog_11_method_1_code 162 = .ok (.aload_n 0, 1) := by decide +kernel
theorem d_M_init_163 : decode prog_11_method_1_code 163 = .ok (.sipush 4096, 3) := by decide +kernel
theorem d_M_init_166 : decode prog_11_method_1_code 166 = .ok (.newarray .int, 2) := by decide +kernel
theorem d_M_init_168 : decode prog_11_method_1_code 168 = .ok (.putfield 68, 3) := by decide +kernel
theorem d_M_init_171 : decode prog_11_method_1_code 171 = .ok (.aload_n 0, 1) := by decide +kernel
theorem d_M_init_172 : decode prog_11_method_1_code 172 = .ok (.sipush 4096, 3) := by decide +kernel
theorem d_M_init_175 : decode prog_11_method_1_code 175 = .ok (.newarray .int, 2) := by decide +kernel
theorem d_M_init_177 : decode prog_11_method_1_code 177 = .ok (.putfield 71, 3) := by decide +kernel
theorem d_M_init_180 : decode prog_11_method_1_code 180 = .ok (.aload_n 0, 1) := by decide +kernel
theorem d_M_init_181 : decode prog_11_method_1_code 181 = .ok (.sipush 4096, 3) := by decide +kernel
theorem d_M_init_184 : decode prog_11_method_1_code 184 = .ok (.newarray .int, 2) := by decide +kernel
theorem d_M_init_186 : decode prog_11_method_1_code 186 = .ok (.putfield 74, 3) := by decide +kernel
theorem d_M_init_189 : decode prog_11_method_1_code 189 = .ok (.aload_n 0, 1) := by decide +kernel
theorem d_M_init_190 : decode prog_11_method_1_code 190 = .ok (.sipush 4096, 3) := by decide +kernel
theorem d_M_init_193 : decode prog_11_method_1_code 193 = .ok (.newarray .int, 2) := by decide +kernel
theorem d_M_init_195 : decode prog_11_method_1_code 195 = .ok (.putfield 77, 3) := by decide +kernel
theorem d_M_init_198 : decode prog_11_method_1_code 198 = .ok (.aload_n 0, 1) := by decide +kernel
theorem d_M_init_199 : decode prog_11_method_1_code 199 = .ok (.sipush 4096, 3) := by decide +kernel
theorem d_M_init_202 : decode prog_11_method_1_code 202 = .ok (.newarray .int, 2) := by decide +kernel
theorem d_M_init_204 : decode prog_11_method_1_code 204 = .ok (.putfield 80, 3) := by decide +kernel
theorem d_M_init_207 : decode prog_11_method_1_code 207 = .ok (.aload_n 0, 1) := by decide +kernel
theorem d_M_init_208 : decode prog_11_method_1_code 208 = .ok (.sipush 4096, 3) := by decide +kernel
theorem d_M_init_211 : decode prog_11_method_1_code 211 = .ok (.newarray .long, 2) := by decide +kernel
theorem d_M_init_213 : decode prog_11_method_1_code 213 = .ok (.putfield 83, 3) := by decide +kernel
theorem d_M_init_216 : decode prog_11_method_1_code 216 = .ok (.aload_n 0, 1) := by decide +kernel
theorem d_M_init_217 : decode prog_11_method_1_code 217 = .ok (.sipush 8192, 3) := by decide +kernel
theorem d_M_init_220 : decode prog_11_method_1_code 220 = .ok (.newarray .int, 2) := by decide +kernel
theorem d_M_init_222 : decode prog_11_method_1_code 222 = .ok (.putfield 86, 3) := by decide +kernel
theorem d_M_init_225 : decode prog_11_method_1_code 225 = .ok (.aload_n 0, 1) := by decide +kernel
theorem d_M_init_226 : decode prog_11_method_1_code 226 = .ok (.sipush 8192, 3) := by decide +kernel
theorem d_M_init_229 : decode prog_11_method_1_code 229 = .ok (.newarray .int, 2) := by decide +kernel
theorem d_M_init_231 : decode prog_11_method_1_code 231 = .ok (.putfield 89, 3) := by decide +kernel
theorem d_M_init_234 : decode prog_11_method_1_code 234 = .ok (.aload_n 0, 1) := by decide +kernel
theorem d_M_init_235 : decode prog_11_method_1_code 235 = .ok (.sipush 8192, 3) := by decide +kernel
theorem d_M_init_238 : decode prog_11_method_1_code 238 = .ok (.newarray .int, 2) := by decide +kernel
theorem d_M_init_240 : decode prog_11_method_1_code 240 = .ok (.putfield 92, 3) := by decide +kernel
theorem d_M_init_243 : decode prog_11_method_1_code 243 = .ok (.aload_n 0, 1) := by decide +kernel
theorem d_M_init_244 : decode prog_11_method_1_code 244 = .ok (.iconst (-1), 1) := by decide +kernel
theorem d_M_init_245 : decode prog_11_method_1_code 245 = .ok (.putfield 95, 3) := by decide +kernel
theorem d_M_init_248 : decode prog_11_method_1_code 248 = .ok (.aload_n 0, 1) := by decide +kernel
theorem d_M_init_249 : decode prog_11_method_1_code 249 = .ok (.sipush 128, 3) := by decide +kernel
theorem d_M_init_252 : decode prog_11_method_1_code 252 = .ok (.newarray .boolean, 2) := by decide +kernel
theorem d_M_init_254 : decode prog_11_method_1_code 254 = .ok (.putfield 99, 3) := by decide +kernel
theorem d_M_init_257 : decode prog_11_method_1_code 257 = .ok (.aload_n 0, 1) := by decide +kernel
theorem d_M_init_258 : decode prog_11_method_1_code 258 = .ok (.ldc 32, 2) := by decide +kernel
theorem d_M_init_260 : decode prog_11_method_1_code 260 = .ok (.newarray .byte, 2) := by decide +kernel
theorem d_M_init_262 : decode prog_11_method_1_code 262 = .ok (.putfield 102, 3) := by decide +kernel
theorem d_M_init_265 : decode prog_11_method_1_code 265 = .ok (.aload_n 0, 1) := by decide +kernel
theorem d_M_init_266 : decode prog_11_method_1_code 266 = .ok (.bipush 7, 2) := by decide +kernel
theorem d_M_init_268 : decode prog_11_method_1_code 268 = .ok (.newarray .int, 2) := by decide +kernel
theorem d_M_init_270 : decode prog_11_method_1_code 270 = .ok (.putfield 105, 3) := by decide +kernel
theorem d_M_init_273 : decode prog_11_method_1_code 273 = .ok (.aload_n 0, 1) := by decide +kernel
theorem d_M_init_274 : decode prog_11_method_1_code 274 = .ok (.sipush 2048, 3) := by decide +kernel
theorem d_M_init_277 : decode prog_11_method_1_code 277 = .ok (.newarray .long, 2) := by decide +kernel
theorem d_M_init_279 : decode prog_11_method_1_code 279 = .ok (.putfield 108, 3) := by decide +kernel
theorem d_M_init_282 : decode prog_11_method_1_code 282 = .ok (.aload_n 0, 1) := by decide +kernel
theorem d_M_init_283 : decode prog_11_method_1_code 283 = .ok (.sipush 2048, 3) := by decide +kernel
theorem d_M_init_286 : decode prog_11_method_1_code 286 = .ok (.newarray .int, 2) := by decide +kernel
theorem d_M_init_288 : decode prog_11_method_1_code 288 = .ok (.putfield 111, 3) := by decide +kernel
theorem d_M_init_291 : decode prog_11_method_1_code 291 = .ok (.aload_n 0, 1) := by decide +kernel
theorem d_M_init_292 : decode prog_11_method_1_code 292 = .ok (.sipush 2048, 3) := by decide +kernel
theorem d_M_init_295 : decode prog_11_method_1_code 295 = .ok (.newarray .int, 2) := by decide +kernel
theorem d_M_init_297 : decode prog_11_method_1_code 297 = .ok (.putfield 114, 3) := by decide +kernel
theorem d_M_init_300 : decode prog_11_method_1_code 300 = .ok (.aload_n 0, 1) := by decide +kernel
theorem d_M_init_301 : decode prog_11_method_1_code 301 = .ok (.sipush 8192, 3) := by decide +kernel
theorem d_M_init_304 : decode prog_11_method_1_code 304 = .ok (.newarray .int, 2) := by decide +kernel
theorem d_M_init_306 : decode prog_11_method_1_code 306 = .ok (.putfield 117, 3) := by decide +kernel
theorem d_M_init_309 : decode prog_11_method_1_code 309 = .ok (.aload_n 0, 1) := by decide +kernel
theorem d_M_init_310 : decode prog_11_method_1_code 310 = .ok (.sipush 8192, 3) := by decide +kernel
theorem d_M_init_313 : decode prog_11_method_1_code 313 = .ok (.newarray .int, 2) := by decide +kernel
theorem d_M_init_315 : decode prog_11_method_1_code 315 = .ok (.putfield 120, 3) := by decide +kernel
theorem d_M_init_318 : decode prog_11_method_1_code 318 = .ok (.return_, 1) := by decide +kernel
theorem d_M_thrown_0 : decode prog_11_method_2_code 0 = .ok (.aload_n 0, 1) := by decide +kernel
theorem d_M_thrown_1 : decode prog_11_method_2_code 1 = .ok (.getfield 123, 3) := by decide +kernel
theorem d_M_thrown_4 : decode prog_11_method_2_code 4 = .ok (.ireturn, 1) := by decide +kernel
theorem d_M_clear_0 : decode prog_11_method_4_code 0 = .ok (.aload_n 0, 1) := by decide +kernel
theorem d_M_clear_1 : decode prog_11_method_4_code 1 = .ok (.iconst 0, 1) := by decide +kernel
theorem d_M_clear_2 : decode prog_11_method_4_code 2 = .ok (.putfield 123, 3) := by decide +kernel
theorem d_M_clear_5 : decode prog_11_method_4_code 5 = .ok (.aload_n 0, 1) := by decide +kernel
theorem d_M_clear_6 : decode prog_11_method_4_code 6 = .ok (.iconst 0, 1) := by decide +kernel
theorem d_M_clear_7 : decode prog_11_method_4_code 7 = .ok (.putfield 126, 3) := by decide +kernel
theorem d_M_clear_10 : decode prog_11_method_4_code 10 = .ok (.aload_n 0, 1) := by decide +kernel
theorem d_M_clear_11 : decode prog_11_method_4_code 11 = .ok (.iconst 0, 1) := by decide +kernel
theorem d_M_clear_12 : decode prog_11_method_4_code 12 = .ok (.putfield 129, 3) := by decide +kernel
theorem d_M_clear_15 : decode prog_11_method_4_code 15 = .ok (.aload_n 0, 1) := by decide +kernel
theorem d_M_clear_16 : decode prog_11_method_4_code 16 = .ok (.iconst 0, 1) := by decide +kernel
theorem d_M_clear_17 : decode prog_11_method_4_code 17 = .ok (.putfield 132, 3) := by decide +kernel
theorem d_M_clear_20 : decode prog_11_method_4_code 20 = .ok (.aload_n 0, 1) := by decide +kernel
theorem d_M_clear_21 : decode prog_11_method_4_code 21 = .ok (.iconst 0, 1) := by decide +kernel
theorem d_M_clear_22 : decode prog_11_method_4_code 22 = .ok (.putfield 135, 3) := by decide +kernel
theorem d_M_clear_25 : decode prog_11_method_4_code 25 = .ok (.aload_n 0, 1) := by decide +kernel
theorem d_M_clear_26 : decode prog_11_method_4_code 26 = .ok (.iconst 0, 1) := by decide +kernel
theorem d_M_clear_27 : decode prog_11_method_4_code 27 = .ok (.putfield 138, 3) := by decide +kernel
theorem d_M_clear_30 : decode prog_11_method_4_code 30 = .ok (.aload_n 0, 1) := by decide +kernel
theorem d_M_clear_31 : decode prog_11_method_4_code 31 = .ok (.iconst 0, 1) := by decide +kernel
theorem d_M_clear_32 : decode prog_11_method_4_code 32 = .ok (.putfield 141, 3) := by decide +kernel
theorem d_M_clear_35 : decode prog_11_method_4_code 35 = .ok (.return_, 1) := by decide +kernel
theorem d_M_unit_0 : decode prog_11_method_7_code 0 = .ok (.aload_n 0, 1) := by decide +kernel
theorem d_M_unit_1 : decode prog_11_method_7_code 1 = .ok (.iconst 0, 1) := by decide +kernel
theorem d_M_unit_2 : decode prog_11_method_7_code 2 = .ok (.putfield 123, 3) := by decide +kernel
theorem d_M_unit_5 : decode prog_11_method_7_code 5 = .ok (.iload_n 2, 1) := by decide +kernel
theorem d_M_unit_6 : decode prog_11_method_7_code 6 = .ok (.invokestatic 146, 3) := by decide +kernel
theorem d_M_unit_9 : decode prog_11_method_7_code 9 = .ok (.ifCond .eq 51, 3) := by decide +kernel
theorem d_M_unit_12 : decode prog_11_method_7_code 12 = .ok (.iload_n 3, 1) := by decide +kernel
theorem d_M_unit_13 : decode prog_11_method_7_code 13 = .ok (.invokestatic 146, 3) := by decide +kernel
theorem d_M_unit_16 : decode prog_11_method_7_code 16 = .ok (.ifCond .eq 44, 3) := by decide +kernel
theorem d_M_unit_19 : decode prog_11_method_7_code 19 = .ok (.iload 4, 2) := by decide +kernel
theorem d_M_unit_21 : decode prog_11_method_7_code 21 = .ok (.invokestatic 146, 3) := by decide +kernel
theorem d_M_unit_24 : decode prog_11_method_7_code 24 = .ok (.ifCond .eq 36, 3) := by decide +kernel
theorem d_M_unit_27 : decode prog_11_method_7_code 27 = .ok (.iload 5, 2) := by decide +kernel
theorem d_M_unit_29 : decode prog_11_method_7_code 29 = .ok (.invokestatic 146, 3) := by decide +kernel
theorem d_M_unit_32 : decode prog_11_method_7_code 32 = .ok (.ifCond .eq 28, 3) := by decide +kernel
theorem d_M_unit_35 : decode prog_11_method_7_code 35 = .ok (.aload_n 0, 1) := by decide +kernel
theorem d_M_unit_36 : decode prog_11_method_7_code 36 = .ok (.getfield 126, 3) := by decide +kernel
theorem d_M_unit_39 : decode prog_11_method_7_code 39 = .ok (.bipush 32, 2) := by decide +kernel
theorem d_M_unit_41 : decode prog_11_method_7_code 41 = .ok (.if_icmp .eq 19, 3) := by decide +kernel
theorem d_M_unit_44 : decode prog_11_method_7_code 44 = .ok (.aload_n 0, 1) := by decide +kernel
theorem d_M_unit_45 : decode prog_11_method_7_code 45 = .ok (.getfield 138, 3) := by decide +kernel
theorem d_M_unit_48 : decode prog_11_method_7_code 48 = .ok (.iload_n 2, 1) := by decide +kernel
theorem d_M_unit_49 : decode prog_11_method_7_code 49 = .ok (.iadd, 1) := by decide +kernel
theorem d_M_unit_50 : decode prog_11_method_7_code 50 = .ok (.iload_n 3, 1) := by decide +kernel
theorem d_M_unit_51 : decode prog_11_method_7_code 51 = .ok (.iadd, 1) := by decide +kernel
theorem d_M_unit_52 : decode prog_11_method_7_code 52 = .ok (.iload 4, 2) := by decide +kernel
theorem d_M_unit_54 : decode prog_11_method_7_code 54 = .ok (.iadd, 1) := by decide +kernel
theorem d_M_unit_55 : decode prog_11_method_7_code 55 = .ok (.ldc 32, 2) := by decide +kernel
theorem d_M_unit_57 : decode prog_11_method_7_code 57 = .ok (.if_icmp .le 5, 3) := by decide +kernel
theorem d_M_unit_60 : decode prog_11_method_7_code 60 = .ok (.iconst (-1), 1) := by decide +kernel
theorem d_M_unit_61 : decode prog_11_method_7_code 61 = .ok (.ireturn, 1) := by decide +kernel
theorem d_M_unit_62 : decode prog_11_method_7_code 62 = .ok (.aload_n 0, 1) := by decide +kernel
theorem d_M_unit_63 : decode prog_11_method_7_code 63 = .ok (.getfield 126, 3) := by decide +kernel
theorem d_M_unit_66 : decode prog_11_method_7_code 66 = .ok (.istore 6, 2) := by decide +kernel
theorem d_M_unit_68 : decode prog_11_method_7_code 68 = .ok (.aload_n 0, 1) := by decide +kernel
theorem d_M_unit_69 : decode prog_11_method_7_code 69 = .ok (.getfield 7, 3) := by decide +kernel
theorem d_M_unit_72 : decode prog_11_method_7_code 72 = .ok (.iload 6, 2) := by decide +kernel
theorem d_M_unit_74 : decode prog_11_method_7_code 74 = .ok (.iload_n 1, 1) := by decide +kernel
theorem d_M_unit_75 : decode prog_11_method_7_code 75 = .ok (.bastore, 1) := by decide +kernel
theorem d_M_unit_76 : decode prog_11_method_7_code 76 = .ok (.aload_n 0, 1) := by decide +kernel
theorem d_M_unit_77 : decode prog_11_method_7_code 77 = .ok (.getfield 59, 3) := by decide +kernel
theorem d_M_unit_80 : decode prog_11_method_7_code 80 = .ok (.iload 6, 2) := by decide +kernel
theorem d_M_unit_82 : decode prog_11_method_7_code 82 = .ok (.aload_n 0, 1) := by decide +kernel
theorem d_M_unit_83 : decode prog_11_method_7_code 83 = .ok (.getfield 129, 3) := by decide +kernel
theorem d_M_unit_86 : decode prog_11_method_7_code 86 = .ok (.iastore, 1) := by decide +kernel
theorem d_M_unit_87 : decode prog_11_method_7_code 87 = .ok (.iconst 0, 1) := by decide +kernel
theorem d_M_unit_88 : decode prog_11_method_7_code 88 = .ok (.istore 7, 2) := by decide +kernel
theorem d_M_unit_90 : decode prog_11_method_7_code 90 = .ok (.iload 7, 2) := by decide +kernel
theorem d_M_unit_92 : decode prog_11_method_7_code 92 = .ok (.iconst 4, 1) := by decide +kernel
theorem d_M_unit_93 : decode prog_11_method_7_code 93 = .ok (.if_icmp .ge 142, 3) := by decide +kernel
theorem d_M_unit_96 : decode prog_11_method_7_code 96 = .ok (.iload 7, 2) := by decide +kernel
theorem d_M_unit_98 : decode prog_11_method_7_code 98 = .ok (.ifCond .ne 7, 3) := by decide +kernel
theorem d_M_unit_101 : decode prog_11_method_7_code 101 = .ok (.iload_n 2, 1) := by decide +kernel
theorem d_M_unit_102 : decode prog_11_method_7_code 102 = .ok (.goto 26, 3) := by decide +kernel
theorem d_M_unit_105 : decode prog_11_method_7_code 105 = .ok (.iload 7, 2) := by decide +kernel
theorem d_M_unit_107 : decode prog_11_method_7_code 107 = .ok (.iconst 1, 1) := by decide +kernel
theorem d_M_unit_108 : decode prog_11_method_7_code 108 = .ok (.if_icmp .ne 7, 3) := by decide +kernel
theorem d_M_unit_111 : decode prog_11_method_7_code 111 = .ok (.iload_n 3, 1) := by decide +kernel
theorem d_M_unit_112 : decode prog_11_method_7_code 112 = .ok (.goto 16, 3) := by decide +kernel
theorem d_M_unit_115 : decode prog_11_method_7_code 115 = .ok (.iload 7, 2) := by decide +kernel
theorem d_M_unit_117 : decode prog_11_method_7_code 117 = .ok (.iconst 2, 1) := by decide +kernel
theorem d_M_unit_118 : decode prog_11_method_7_code 118 = .ok (.if_icmp .ne 8, 3) := by decide +kernel
theorem d_M_unit_121 : decode prog_11_method_7_code 121 = .ok (.iload 4, 2) := by decide +kernel
theorem d_M_unit_123 : decode prog_11_method_7_code 123 = .ok (.goto 5, 3) := by decide +kernel
theorem d_M_unit_126 : decode prog_11_method_7_code 126 = .ok (.iload 5, 2) := by decide +kernel
theorem d_M_unit_128 : decode prog_11_method_7_code 128 = .ok (.istore 8, 2) := by decide +kernel
theorem d_M_unit_130 : decode prog_11_method_7_code 130 = .ok (.aload_n 0, 1) := by decide +kernel
theorem d_M_unit_131 : decode prog_11_method_7_code 131 = .ok (.getfield 22, 3) := by decide +kernel
theorem d_M_unit_134 : decode prog_11_method_7_code 134 = .ok (.iconst 4, 1) := by decide +kernel
theorem d_M_unit_135 : decode prog_11_method_7_code 135 = .ok (.iload 6, 2) := by decide +kernel
theorem d_M_unit_137 : decode prog_11_method_7_code 137 = .ok (.imul, 1) := by decide +kernel
theorem d_M_unit_138 : decode prog_11_method_7_code 138 = .ok (.iload 7, 2) := by decide +kernel
theorem d_M_unit_140 : decode prog_11_method_7_code 140 = .ok (.iadd, 1) := by decide +kernel
theorem d_M_unit_141 : decode prog_11_method_7_code 141 = .ok (.iload 8, 2) := by decide +kernel
theorem d_M_unit_143 : decode prog_11_method_7_code 143 = .ok (.iastore, 1) := by decide +kernel
theorem d_M_unit_144 : decode prog_11_method_7_code 144 = .ok (.aload_n 0, 1) := by decide +kernel
theorem d_M_unit_145 : decode prog_11_method_7_code 145 = .ok (.getfield 26, 3) := by decide +kernel
theorem d_M_unit_148 : decode prog_11_method_7_code 148 = .ok (.iconst 4, 1) := by decide +kernel
theorem d_M_unit_149 : decode prog_11_method_7_code 149 = .ok (.iload 6, 2) := by decide +kernel
theorem d_M_unit_151 : decode prog_11_method_7_code 151 = .ok (.imul, 1) := by decide +kernel
theorem d_M_unit_152 : decode prog_11_method_7_code 152 = .ok (.iload 7, 2) := by decide +kernel
theorem d_M_unit_154 : decode prog_11_method_7_code 154 = .ok (.iadd, 1) := by decide +kernel
theorem d_M_unit_155 : decode prog_11_method_7_code 155 = .ok (.aload_n 0, 1) := by decide +kernel
theorem d_M_unit_156 : decode prog_11_method_7_code 156 = .ok (.getfield 138, 3) := by decide +kernel
theorem d_M_unit_159 : decode prog_11_method_7_code 159 = .ok (.iastore, 1) := by decide +kernel
theorem d_M_unit_160 : decode prog_11_method_7_code 160 = .ok (.aload_n 0, 1) := by decide +kernel
theorem d_M_unit_161 : decode prog_11_method_7_code 161 = .ok (.getfield 13, 3) := by decide +kernel
theorem d_M_unit_164 : decode prog_11_method_7_code 164 = .ok (.iconst 4, 1) := by decide +kernel
theorem d_M_unit_165 : decode prog_11_method_7_code 165 = .ok (.iload 6, 2) := by decide +kernel
theorem d_M_unit_167 : decode prog_11_method_7_code 167 = .ok (.imul, 1) := by decide +kernel
theorem d_M_unit_168 : decode prog_11_method_7_code 168 = .ok (.iload 7, 2) := by decide +kernel
theorem d_M_unit_170 : decode prog_11_method_7_code 170 = .ok (.iadd, 1) := by decide +kernel
theorem d_M_unit_171 : decode prog_11_method_7_code 171 = .ok (.iconst 0, 1) := by decide +kernel
theorem d_M_unit_172 : decode prog_11_method_7_code 172 = .ok (.bastore, 1) := by decide +kernel
theorem d_M_unit_173 : decode prog_11_method_7_code 173 = .ok (.iconst 0, 1) := by decide +kernel
theorem d_M_unit_174 : decode prog_11_method_7_code 174 = .ok (.istore 9, 2) := by decide +kernel
theorem d_M_unit_176 : decode prog_11_method_7_code 176 = .ok (.iload 9, 2) := by decide +kernel
theorem d_M_unit_178 : decode prog_11_method_7_code 178 = .ok (.iload 8, 2) := by decide +kernel
theorem d_M_unit_180 : decode prog_11_method_7_code 180 = .ok (.if_icmp .ge 28, 3) := by decide +kernel
theorem d_M_unit_183 : decode prog_11_method_7_code 183 = .ok (.iload 7, 2) := by decide +kernel
theorem d_M_unit_185 : decode prog_11_method_7_code 185 = .ok (.iconst 3, 1) := by decide +kernel
theorem d_M_unit_186 : decode prog_11_method_7_code 186 = .ok (.if_icmp .ge 22, 3) := by decide +kernel
theorem d_M_unit_189 : decode prog_11_method_7_code 189 = .ok (.aload_n 0, 1) := by decide +kernel
theorem d_M_unit_190 : decode prog_11_method_7_code 190 = .ok (.getfield 33, 3) := by decide +kernel
theorem d_M_unit_193 : decode prog_11_method_7_code 193 = .ok (.aload_n 0, 1) := by decide +kernel
theorem d_M_unit_194 : decode prog_11_method_7_code 194 = .ok (.getfield 138, 3) := by decide +kernel
theorem d_M_unit_197 : decode prog_11_method_7_code 197 = .ok (.iload 9, 2) := by decide +kernel
theorem d_M_unit_199 : decode prog_11_method_7_code 199 = .ok (.iadd, 1) := by decide +kernel
theorem d_M_unit_200 : decode prog_11_method_7_code 200 = .ok (.iconst 0, 1) := by decide +kernel
theorem d_M_unit_201 : decode prog_11_method_7_code 201 = .ok (.bastore, 1) := by decide +kernel
theorem d_M_unit_202 : decode prog_11_method_7_code 202 = .ok (.iinc 9 1, 3) := by decide +kernel
theorem d_M_unit_205 : decode prog_11_method_7_code 205 = .ok (.goto (-29), 3) := by decide +kernel
theorem d_M_unit_208 : decode prog_11_method_7_code 208 = .ok (.aload_n 0, 1) := by decide +kernel
theorem d_M_unit_209 : decode prog_11_method_7_code 209 = .ok (.dup, 1) := by decide +kernel
theorem d_M_unit_210 : decode prog_11_method_7_code 210 = .ok (.getfield 138, 3) := by decide +kernel
theorem d_M_unit_213 : decode prog_11_method_7_code 213 = .ok (.iload 7, 2) := by decide +kernel
theorem d_M_unit_215 : decode prog_11_method_7_code 215 = .ok (.iconst 3, 1) := by decide +kernel
theorem d_M_unit_216 : decode prog_11_method_7_code 216 = .ok (.if_icmp .ge 8, 3) := by decide +kernel
theorem d_M_unit_219 : decode prog_11_method_7_code 219 = .ok (.iload 8, 2) := by decide +kernel
theorem d_M_unit_221 : decode prog_11_method_7_code 221 = .ok (.goto 4, 3) := by decide +kernel
theorem d_M_unit_224 : decode prog_11_method_7_code 224 = .ok (.iconst 0, 1) := by decide +kernel
theorem d_M_unit_225 : decode prog_11_method_7_code 225 = .ok (.iadd, 1) := by decide +kernel
theorem d_M_unit_226 : decode prog_11_method_7_code 226 = .ok (.putfield 138, 3) := by decide +kernel
theorem d_M_unit_229 : decode prog_11_method_7_code 229 = .ok (.iinc 7 1, 3) := by decide +kernel
theorem d_M_unit_232 : decode prog_11_method_7_code 232 = .ok (.goto (-142), 3) := by decide +kernel
theorem d_M_unit_235 : decode prog_11_method_7_code 235 = .ok (.aload_n 0, 1) := by decide +kernel
theorem d_M_unit_236 : decode prog_11_method_7_code 236 = .ok (.dup, 1) := by decide +kernel
theorem d_M_unit_237 : decode prog_11_method_7_code 237 = .ok (.getfield 126, 3) := by decide +kernel
theorem d_M_unit_240 : decode prog_11_method_7_code 240 = .ok (.iconst 1, 1) := by decide +kernel
theorem d_M_unit_241 : decode prog_11_method_7_code 241 = .ok (.iadd, 1) := by decide +kernel
theorem d_M_unit_242 : decode prog_11_method_7_code 242 = .ok (.putfield 126, 3) := by decide +kernel
theorem d_M_unit_245 : decode prog_11_method_7_code 245 = .ok (.iload 6, 2) := by decide +kernel
theorem d_M_unit_247 : decode prog_11_method_7_code 247 = .ok (.ireturn, 1) := by decide +kernel
theorem d_M_isSize_0 : decode prog_11_method_5_code 0 = .ok (.iload_n 0, 1) := by decide +kernel
theorem d_M_isSize_1 : decode prog_11_method_5_code 1 = .ok (.ifCond .lt 13, 3) := by decide +kernel
theorem d_M_isSize_4 : decode prog_11_method_5_code 4 = .ok (.iload_n 0, 1) := by decide +kernel
theorem d_M_isSize_5 : decode prog_11_method_5_code 5 = .ok (.ldc 144, 2) := by decide +kernel
theorem d_M_isSize_7 : decode prog_11_method_5_code 7 = .ok (.if_icmp .gt 7, 3) := by decide +kernel
theorem d_M_isSize_10 : decode prog_11_method_5_code 10 = .ok (.iconst 1, 1) := by decide +kernel
theorem d_M_isSize_11 : decode prog_11_method_5_code 11 = .ok (.goto 4, 3) := by decide +kernel
theorem d_M_isSize_14 : decode prog_11_method_5_code 14 = .ok (.iconst 0, 1) := by decide +kernel
theorem d_M_isSize_15 : decode prog_11_method_5_code 15 = .ok (.ireturn, 1) := by decide +kernel
theorem d_M_put_0 : decode prog_11_method_10_code 0 = .ok (.aload_n 0, 1) := by decide +kernel
theorem d_M_put_1 : decode prog_11_method_10_code 1 = .ok (.iconst 0, 1) := by decide +kernel
theorem d_M_put_2 : decode prog_11_method_10_code 2 = .ok (.putfield 123, 3) := by decide +kernel
theorem d_M_put_5 : decode prog_11_method_10_code 5 = .ok (.iload 5, 2) := by decide +kernel
theorem d_M_put_7 : decode prog_11_method_10_code 7 = .ok (.iconst 1, 1) := by decide +kernel
theorem d_M_put_8 : decode prog_11_method_10_code 8 = .ok (.if_icmp .lt 21, 3) := by decide +kernel
theorem d_M_put_11 : decode prog_11_method_10_code 11 = .ok (.iload 5, 2) := by decide +kernel
theorem d_M_put_13 : decode prog_11_method_10_code 13 = .ok (.bipush 8, 2) := by decide +kernel
theorem d_M_put_15 : decode prog_11_method_10_code 15 = .ok (.if_icmp .gt 14, 3) := by decide +kernel
theorem d_M_put_18 : decode prog_11_method_10_code 18 = .ok (.aload_n 0, 1) := by decide +kernel
theorem d_M_put_19 : decode prog_11_method_10_code 19 = .ok (.iload_n 1, 1) := by decide +kernel
theorem d_M_put_20 : decode prog_11_method_10_code 20 = .ok (.iload_n 2, 1) := by decide +kernel
theorem d_M_put_21 : decode prog_11_method_10_code 21 = .ok (.iload 5, 2) := by decide +kernel
theorem d_M_put_23 : decode prog_11_method_10_code 23 = .ok (.invokevirtual 154, 3) := by decide +kernel
theorem d_M_put_26 : decode prog_11_method_10_code 26 = .ok (.ifCond .ne 5, 3) := by decide +kernel
theorem d_M_put_29 : decode prog_11_method_10_code 29 = .ok (.iconst 0, 1) := by decide +kernel
theorem d_M_put_30 : decode prog_11_method_10_code 30 = .ok (.ireturn, 1) := by decide +kernel
theorem d_M_put_31 : decode prog_11_method_10_code 31 = .ok (.iconst 0, 1) := by decide +kernel
theorem d_M_put_32 : decode prog_11_method_10_code 32 = .ok (.istore 6, 2) := by decide +kernel
theorem d_M_put_34 : decode prog_11_method_10_code 34 = .ok (.iload 6, 2) := by decide +kernel
theorem d_M_put_36 : decode prog_11_method_10_code 36 = .ok (.iload 5, 2) := by decide +kernel
theorem d_M_put_38 : decode prog_11_method_10_code 38 = .ok (.if_icmp .ge 38, 3) := by decide +kernel
theorem d_M_put_41 : decode prog_11_method_10_code 41 = .ok (.aload_n 0, 1) := by decide +kernel
theorem d_M_put_42 : decode prog_11_method_10_code 42 = .ok (.getfield 33, 3) := by decide +kernel
theorem d_M_put_45 : decode prog_11_method_10_code 45 = .ok (.aload_n 0, 1) := by decide +kernel
theorem d_M_put_46 : decode prog_11_method_10_code 46 = .ok (.getfield 26, 3) := by decide +kernel
theorem d_M_put_49 : decode prog_11_method_10_code 49 = .ok (.aload_n 0, 1) := by decide +kernel
theorem d_M_put_50 : decode prog_11_method_10_code 50 = .ok (.iload_n 1, 1) := by decide +kernel
theorem d_M_put_51 : decode prog_11_method_10_code 51 = .ok (.invokevirtual 150, 3) := by decide +kernel
theorem d_M_put_54 : decode prog_11_method_10_code 54 = .ok (.iaload, 1) := by decide +kernel
theorem d_M_put_55 : decode prog_11_method_10_code 55 = .ok (.iload_n 2, 1) := by decide +kernel
theorem d_M_put_56 : decode prog_11_method_10_code 56 = .ok (.iadd, 1) := by decide +kernel
theorem d_M_put_57 : decode prog_11_method_10_code 57 = .ok (.iload 6, 2) := by decide +kernel
theorem d_M_put_59 : decode prog_11_method_10_code 59 = .ok (.iadd, 1) := by decide +kernel
theorem d_M_put_60 : decode prog_11_method_10_code 60 = .ok (.lload_n 3, 1) := by decide +kernel
theorem d_M_put_61 : decode prog_11_method_10_code 61 = .ok (.bipush 8, 2) := by decide +kernel
theorem d_M_put_63 : decode prog_11_method_10_code 63 = .ok (.iload 6, 2) := by decide +kernel
theorem d_M_put_65 : decode prog_11_method_10_code 65 = .ok (.imul, 1) := by decide +kernel
theorem d_M_put_66 : decode prog_11_method_10_code 66 = .ok (.lshr, 1) := by decide +kernel
theorem d_M_put_67 : decode prog_11_method_10_code 67 = .ok (.l2i, 1) := by decide +kernel
theorem d_M_put_68 : decode prog_11_method_10_code 68 = .ok (.i2b, 1) := by decide +kernel
theorem d_M_put_69 : decode prog_11_method_10_code 69 = .ok (.bastore, 1) := by decide +kernel
theorem d_M_put_70 : decode prog_11_method_10_code 70 = .ok (.iinc 6 1, 3) := by decide +kernel
theorem d_M_put_73 : decode prog_11_method_10_code 73 = .ok (.goto (-39), 3) := by decide +kernel
theorem d_M_put_76 : decode prog_11_method_10_code 76 = .ok (.iconst 1, 1) := by decide +kernel
theorem d_M_put_77 : decode prog_11_method_10_code 77 = .ok (.ireturn, 1) := by decide +kernel
theorem d_M_lies_0 : decode prog_11_method_9_code 0 = .ok (.aload_n 0, 1) := by decide +kernel
theorem d_M_lies_1 : decode prog_11_method_9_code 1 = .ok (.getfield 126, 3) := by decide +kernel
theorem d_M_lies_4 : decode prog_11_method_9_code 4 = .ok (.ifCond .le 36, 3) := by decide +kernel
theorem d_M_lies_7 : decode prog_11_method_9_code 7 = .ok (.iload_n 1, 1) := by decide +kernel
theorem d_M_lies_8 : decode prog_11_method_9_code 8 = .ok (.ifCond .lt 32, 3) := by decide +kernel
theorem d_M_lies_11 : decode prog_11_method_9_code 11 = .ok (.iload_n 1, 1) := by decide +kernel
theorem d_M_lies_12 : decode prog_11_method_9_code 12 = .ok (.iconst 3, 1) := by decide +kernel
theorem d_M_lies_13 : decode prog_11_method_9_code 13 = .ok (.if_icmp .ge 27, 3) := by decide +kernel
theorem d_M_lies_16 : decode prog_11_method_9_code 16 = .ok (.iload_n 2, 1) := by decide +kernel
theorem d_M_lies_17 : decode prog_11_method_9_code 17 = .ok (.ifCond .lt 23, 3) := by decide +kernel
theorem d_M_lies_20 : decode prog_11_method_9_code 20 = .ok (.iload_n 2, 1) := by decide +kernel
theorem d_M_lies_21 : decode prog_11_method_9_code 21 = .ok (.aload_n 0, 1) := by decide +kernel
theorem d_M_lies_22 : decode prog_11_method_9_code 22 = .ok (.getfield 22, 3) := by decide +kernel
theorem d_M_lies_25 : decode prog_11_method_9_code 25 = .ok (.aload_n 0, 1) := by decide +kernel
theorem d_M_lies_26 : decode prog_11_method_9_code 26 = .ok (.iload_n 1, 1) := by decide +kernel
theorem d_M_lies_27 : decode prog_11_method_9_code 27 = .ok (.invokevirtual 150, 3) := by decide +kernel
theorem d_M_lies_30 : decode prog_11_method_9_code 30 = .ok (.iaload, 1) := by decide +kernel
theorem d_M_lies_31 : decode prog_11_method_9_code 31 = .ok (.iload_n 3, 1) := by decide +kernel
theorem d_M_lies_32 : decode prog_11_method_9_code 32 = .ok (.isub, 1) := by decide +kernel
theorem d_M_lies_33 : decode prog_11_method_9_code 33 = .ok (.if_icmp .gt 7, 3) := by decide +kernel
theorem d_M_lies_36 : decode prog_11_method_9_code 36 = .ok (.iconst 1, 1) := by decide +kernel
theorem d_M_lies_37 : decode prog_11_method_9_code 37 = .ok (.goto 4, 3) := by decide +kernel
theorem d_M_lies_40 : decode prog_11_method_9_code 40 = .ok (.iconst 0, 1) := by decide +kernel
theorem d_M_lies_41 : decode prog_11_method_9_code 41 = .ok (.ireturn, 1) := by decide +kernel
theorem d_M_own_0 : decode prog_11_method_8_code 0 = .ok (.iconst 4, 1) := by decide +kernel
theorem d_M_own_1 : decode prog_11_method_8_code 1 = .ok (.aload_n 0, 1) := by decide +kernel
theorem d_M_own_2 : decode prog_11_method_8_code 2 = .ok (.getfield 126, 3) := by decide +kernel
theorem d_M_own_5 : decode prog_11_method_8_code 5 = .ok (.iconst 1, 1) := by decide +kernel
theorem d_M_own_6 : decode prog_11_method_8_code 6 = .ok (.isub, 1) := by decide +kernel
theorem d_M_own_7 : decode prog_11_method_8_code 7 = .ok (.imul, 1) := by decide +kernel
theorem d_M_own_8 : decode prog_11_method_8_code 8 = .ok (.iload_n 1, 1) := by decide +kernel
theorem d_M_own_9 : decode prog_11_method_8_code 9 = .ok (.iadd, 1) := by decide +kernel
theorem d_M_own_10 : decode prog_11_method_8_code 10 = .ok (.ireturn, 1) := by decide +kernel
theorem d_M_keep_0 : decode prog_11_method_11_code 0 = .ok (.aload_n 0, 1) := by decide +kernel
theorem d_M_keep_1 : decode prog_11_method_11_code 1 = .ok (.iconst 0, 1) := by decide +kernel
theorem d_M_keep_2 : decode prog_11_method_11_code 2 = .ok (.putfield 123, 3) := by decide +kernel
theorem d_M_keep_5 : decode prog_11_method_11_code 5 = .ok (.aload_n 0, 1) := by decide +kernel
theorem d_M_keep_6 : decode prog_11_method_11_code 6 = .ok (.getfield 126, 3) := by decide +kernel
theorem d_M_keep_9 : decode prog_11_method_11_code 9 = .ok (.ifCond .eq 12, 3) := by decide +kernel
theorem d_M_keep_12 : decode prog_11_method_11_code 12 = .ok (.iload_n 1, 1) := by decide +kernel
theorem d_M_keep_13 : decode prog_11_method_11_code 13 = .ok (.ifCond .lt 8, 3) := by decide +kernel
theorem d_M_keep_16 : decode prog_11_method_11_code 16 = .ok (.iload_n 1, 1) := by decide +kernel
theorem d_M_keep_17 : decode prog_11_method_11_code 17 = .ok (.iconst 3, 1) := by decide +kernel
theorem d_M_keep_18 : decode prog_11_method_11_code 18 = .ok (.if_icmp .le 5, 3) := by decide +kernel
theorem d_M_keep_21 : decode prog_11_method_11_code 21 = .ok (.iconst 0, 1) := by decide +kernel
theorem d_M_keep_22 : decode prog_11_method_11_code 22 = .ok (.ireturn, 1) := by decide +kernel
theorem d_M_keep_23 : decode prog_11_method_11_code 23 = .ok (.aload_n 0, 1) := by decide +kernel
theorem d_M_keep_24 : decode prog_11_method_11_code 24 = .ok (.getfield 13, 3) := by decide +kernel
theorem d_M_keep_27 : decode prog_11_method_11_code 27 = .ok (.aload_n 0, 1) := by decide +kernel
theorem d_M_keep_28 : decode prog_11_method_11_code 28 = .ok (.iload_n 1, 1) := by decide +kernel
theorem d_M_keep_29 : decode prog_11_method_11_code 29 = .ok (.invokevirtual 150, 3) := by decide +kernel
theorem d_M_keep_32 : decode prog_11_method_11_code 32 = .ok (.iconst 1, 1) := by decide +kernel
theorem d_M_keep_33 : decode prog_11_method_11_code 33 = .ok (.bastore, 1) := by decide +kernel
theorem d_M_keep_34 : decode prog_11_method_11_code 34 = .ok (.iconst 1, 1) := by decide +kernel
theorem d_M_keep_35 : decode prog_11_method_11_code 35 = .ok (.ireturn, 1) := by decide +kernel
theorem d_M_symbol_0 : decode prog_11_method_13_code 0 = .ok (.aload_n 0, 1) := by decide +kernel
theorem d_M_symbol_1 : decode prog_11_method_13_code 1 = .ok (.iconst 0, 1) := by decide +kernel
theorem d_M_symbol_2 : decode prog_11_method_13_code 2 = .ok (.putfield 123, 3) := by decide +kernel
theorem d_M_symbol_5 : decode prog_11_method_13_code 5 = .ok (.aload_n 0, 1) := by decide +kernel
theorem d_M_symbol_6 : decode prog_11_method_13_code 6 = .ok (.getfield 126, 3) := by decide +kernel
theorem d_M_symbol_9 : decode prog_11_method_13_code 9 = .ok (.ifCond .le 59, 3) := by decide +kernel
theorem d_M_symbol_12 : decode prog_11_method_13_code 12 = .ok (.iload_n 3, 1) := by decide +kernel
theorem d_M_symbol_13 : decode prog_11_method_13_code 13 = .ok (.iconst 1, 1) := by decide +kernel
theorem d_M_symbol_14 : decode prog_11_method_13_code 14 = .ok (.if_icmp .lt 54, 3) := by decide +kernel
theorem d_M_symbol_17 : decode prog_11_method_13_code 17 = .ok (.iload_n 3, 1) := by decide +kernel
theorem d_M_symbol_18 : decode prog_11_method_13_code 18 = .ok (.bipush 8, 2) := by decide +kernel
theorem d_M_symbol_20 : decode prog_11_method_13_code 20 = .ok (.if_icmp .gt 48, 3) := by decide +kernel
theorem d_M_symbol_23 : decode prog_11_method_13_code 23 = .ok (.iload 4, 2) := by decide +kernel
theorem d_M_symbol_25 : decode prog_11_method_13_code 25 = .ok (.ifCond .lt 43, 3) := by decide +kernel
theorem d_M_symbol_28 : decode prog_11_method_13_code 28 = .ok (.iload 4, 2) := by decide +kernel
theorem d_M_symbol_30 : decode prog_11_method_13_code 30 = .ok (.iconst 3, 1) := by decide +kernel
theorem d_M_symbol_31 : decode prog_11_method_13_code 31 = .ok (.if_icmp .gt 37, 3) := by decide +kernel
theorem d_M_symbol_34 : decode prog_11_method_13_code 34 = .ok (.iload 5, 2) := by decide +kernel
theorem d_M_symbol_36 : decode prog_11_method_13_code 36 = .ok (.iconst (-1), 1) := by decide +kernel
theorem d_M_symbol_37 : decode prog_11_method_13_code 37 = .ok (.if_icmp .lt 31, 3) := by decide +kernel
theorem d_M_symbol_40 : decode prog_11_method_13_code 40 = .ok (.iload 5, 2) := by decide +kernel
theorem d_M_symbol_42 : decode prog_11_method_13_code 42 = .ok (.iconst 3, 1) := by decide +kernel
theorem d_M_symbol_43 : decode prog_11_method_13_code 43 = .ok (.if_icmp .gt 25, 3) := by decide +kernel
theorem d_M_symbol_46 : decode prog_11_method_13_code 46 = .ok (.iload 7, 2) := by decide +kernel
theorem d_M_symbol_48 : decode prog_11_method_13_code 48 = .ok (.invokestatic 158, 3) := by decide +kernel
theorem d_M_symbol_51 : decode prog_11_method_13_code 51 = .ok (.ifCond .eq 17, 3) := by decide +kernel
theorem d_M_symbol_54 : decode prog_11_method_13_code 54 = .ok (.aload_n 0, 1) := by decide +kernel
theorem d_M_symbol_55 : decode prog_11_method_13_code 55 = .ok (.getfield 129, 3) := by decide +kernel
theorem d_M_symbol_58 : decode prog_11_method_13_code 58 = .ok (.sipush 2048, 3) := by decide +kernel
theorem d_M_symbol_61 : decode prog_11_method_13_code 61 = .ok (.if_icmp .ge 7, 3) := by decide +kernel
theorem d_M_symbol_64 : decode prog_11_method_13_code 64 = .ok (.iconst 1, 1) := by decide +kernel
theorem d_M_symbol_65 : decode prog_11_method_13_code 65 = .ok (.goto 4, 3) := by decide +kernel
theorem d_M_symbol_68 : decode prog_11_method_13_code 68 = .ok (.iconst 0, 1) := by decide +kernel
theorem d_M_symbol_69 : decode prog_11_method_13_code 69 = .ok (.istore 8, 2) := by decide +kernel
theorem d_M_symbol_71 : decode prog_11_method_13_code 71 = .ok (.iload 8, 2) := by decide +kernel
theorem d_M_symbol_73 : decode prog_11_method_13_code 73 = .ok (.ifCond .eq 29, 3) := by decide +kernel
theorem d_M_symbol_76 : decode prog_11_method_13_code 76 = .ok (.iload 5, 2) := by decide +kernel
theorem d_M_symbol_78 : decode prog_11_method_13_code 78 = .ok (.ifCond .lt 26, 3) := by decide +kernel
theorem d_M_symbol_81 : decode prog_11_method_13_code 81 = .ok (.iload 6, 2) := by decide +kernel
theorem d_M_symbol_83 : decode prog_11_method_13_code 83 = .ok (.ifCond .lt 19, 3) := by decide +kernel
theorem d_M_symbol_86 : decode prog_11_method_13_code 86 = .ok (.iload 6, 2) := by decide +kernel
theorem d_M_symbol_88 : decode prog_11_method_13_code 88 = .ok (.aload_n 0, 1) := by decide +kernel
theorem d_M_symbol_89 : decode prog_11_method_13_code 89 = .ok (.getfield 22, 3) := by decide +kernel
theorem d_M_symbol_92 : decode prog_11_method_13_code 92 = .ok (.aload_n 0, 1) := by decide +kernel
theorem d_M_symbol_93 : decode prog_11_method_13_code 93 = .ok (.iload 5, 2) := by decide +kernel
theorem d_M_symbol_95 : decode prog_11_method_13_code 95 = .ok (.invokevirtual 150, 3) := by decide +kernel
theorem d_M_symbol_98 : decode prog_11_method_13_code 98 = .ok (.iaload, 1) := by decide +kernel
theorem d_M_symbol_99 : decode prog_11_method_13_code 99 = .ok (.if_icmp .le 5, 3) := by decide +kernel
theorem d_M_symbol_102 : decode prog_11_method_13_code 102 = .ok (.iconst (-1), 1) := by decide +kernel
theorem d_M_symbol_103 : decode prog_11_method_13_code 103 = .ok (.ireturn, 1) := by decide +kernel
theorem d_M_symbol_104 : decode prog_11_method_13_code 104 = .ok (.aload_n 0, 1) := by decide +kernel
theorem d_M_symbol_105 : decode prog_11_method_13_code 105 = .ok (.getfield 59, 3) := by decide +kernel
theorem d_M_symbol_108 : decode prog_11_method_13_code 108 = .ok (.aload_n 0, 1) := by decide +kernel
theorem d_M_symbol_109 : decode prog_11_method_13_code 109 = .ok (.getfield 126, 3) := by decide +kernel
theorem d_M_symbol_112 : decode prog_11_method_13_code 112 = .ok (.iconst 1, 1) := by decide +kernel
theorem d_M_symbol_113 : decode prog_11_method_13_code 113 = .ok (.isub, 1) := by decide +kernel
theorem d_M_symbol_114 : decode prog_11_method_13_code 114 = .ok (.iaload, 1) := by decide +kernel
theorem d_M_symbol_115 : decode prog_11_method_13_code 115 = .ok (.istore 9, 2) := by decide +kernel
theorem d_M_symbol_117 : decode prog_11_method_13_code 117 = .ok (.iload 9, 2) := by decide +kernel
theorem d_M_symbol_119 : decode prog_11_method_13_code 119 = .ok (.istore 10, 2) := by decide +kernel
theorem d_M_symbol_121 : decode prog_11_method_13_code 121 = .ok (.iload 10, 2) := by decide +kernel
theorem d_M_symbol_123 : decode prog_11_method_13_code 123 = .ok (.aload_n 0, 1) := by decide +kernel
theorem d_M_symbol_124 : decode prog_11_method_13_code 124 = .ok (.getfield 129, 3) := by decide +kernel
theorem d_M_symbol_127 : decode prog_11_method_13_code 127 = .ok (.if_icmp .ge 38, 3) := by decide +kernel
theorem d_M_symbol_130 : decode prog_11_method_13_code 130 = .ok (.aload_n 0, 1) := by decide +kernel
theorem d_M_symbol_131 : decode prog_11_method_13_code 131 = .ok (.getfield 41, 3) := by decide +kernel
theorem d_M_symbol_134 : decode prog_11_method_13_code 134 = .ok (.iload 10, 2) := by decide +kernel
theorem d_M_symbol_136 : decode prog_11_method_13_code 136 = .ok (.iaload, 1) := by decide +kernel
theorem d_M_symbol_137 : decode prog_11_method_13_code 137 = .ok (.iload_n 3, 1) := by decide +kernel
theorem d_M_symbol_138 : decode prog_11_method_13_code 138 = .ok (.if_icmp .ne 21, 3) := by decide +kernel
theorem d_M_symbol_141 : decode prog_11_method_13_code 141 = .ok (.aload_n 0, 1) := by decide +kernel
theorem d_M_symbol_142 : decode prog_11_method_13_code 142 = .ok (.getfield 37, 3) := by decide +kernel
theorem d_M_symbol_145 : decode prog_11_method_13_code 145 = .ok (.iload 10, 2) := by decide +kernel
theorem d_M_symbol_147 : decode prog_11_method_13_code 147 = .ok (.laload, 1) := by decide +kernel
theorem d_M_symbol_148 : decode prog_11_method_13_code 148 = .ok (.lload_n 1, 1) := by decide +kernel
theorem d_M_symbol_149 : decode prog_11_method_13_code 149 = .ok (.iload_n 3, 1) := by decide +kernel
theorem d_M_symbol_150 : decode prog_11_method_13_code 150 = .ok (.invokestatic 161, 3) := by decide +kernel
theorem d_M_symbol_153 : decode prog_11_method_13_code 153 = .ok (.lcmp, 1) := by decide +kernel
theorem d_M_symbol_154 : decode prog_11_method_13_code 154 = .ok (.ifCond .ne 5, 3) := by decide +kernel
theorem d_M_symbol_157 : decode prog_11_method_13_code 157 = .ok (.iconst (-1), 1) := by decide +kernel
theorem d_M_symbol_158 : decode prog_11_method_13_code 158 = .ok (.ireturn, 1) := by decide +kernel
theorem d_M_symbol_159 : decode prog_11_method_13_code 159 = .ok (.iinc 10 1, 3) := by decide +kernel
theorem d_M_symbol_162 : decode prog_11_method_13_code 162 = .ok (.goto (-41), 3) := by decide +kernel
theorem d_M_symbol_165 : decode prog_11_method_13_code 165 = .ok (.aload_n 0, 1) := by decide +kernel
theorem d_M_symbol_166 : decode prog_11_method_13_code 166 = .ok (.getfield 129, 3) := by decide +kernel
theorem d_M_symbol_169 : decode prog_11_method_13_code 169 = .ok (.istore 10, 2) := by decide +kernel
theorem d_M_symbol_171 : decode prog_11_method_13_code 171 = .ok (.aload_n 0, 1) := by decide +kernel
theorem d_M_symbol_172 : decode prog_11_method_13_code 172 = .ok (.getfield 37, 3) := by decide +kernel
theorem d_M_symbol_175 : decode prog_11_method_13_code 175 = .ok (.iload 10, 2) := by decide +kernel
theorem d_M_symbol_177 : decode prog_11_method_13_code 177 = .ok (.lload_n 1, 1) := by decide +kernel
theorem d_M_symbol_178 : decode prog_11_method_13_code 178 = .ok (.iload_n 3, 1) := by decide +kernel
theorem d_M_symbol_179 : decode prog_11_method_13_code 179 = .ok (.invokestatic 161, 3) := by decide +kernel
theorem d_M_symbol_182 : decode prog_11_method_13_code 182 = .ok (.lastore, 1) := by decide +kernel
theorem d_M_symbol_183 : decode prog_11_method_13_code 183 = .ok (.aload_n 0, 1) := by decide +kernel
theorem d_M_symbol_184 : decode prog_11_method_13_code 184 = .ok (.getfield 41, 3) := by decide +kernel
theorem d_M_symbol_187 : decode prog_11_method_13_code 187 = .ok (.iload 10, 2) := by decide +kernel
theorem d_M_symbol_189 : decode prog_11_method_13_code 189 = .ok (.iload_n 3, 1) := by decide +kernel
theorem d_M_symbol_190 : decode prog_11_method_13_code 190 = .ok (.iastore, 1) := by decide +kernel
theorem d_M_symbol_191 : decode prog_11_method_13_code 191 = .ok (.aload_n 0, 1) := by decide +kernel
theorem d_M_symbol_192 : decode prog_11_method_13_code 192 = .ok (.getfield 44, 3) := by decide +kernel
theorem d_M_symbol_195 : decode prog_11_method_13_code 195 = .ok (.iload 10, 2) := by decide +kernel
theorem d_M_symbol_197 : decode prog_11_method_13_code 197 = .ok (.aload_n 0, 1) := by decide +kernel
theorem d_M_symbol_198 : decode prog_11_method_13_code 198 = .ok (.getfield 126, 3) := by decide +kernel
theorem d_M_symbol_201 : decode prog_11_method_13_code 201 = .ok (.iconst 1, 1) := by decide +kernel
theorem d_M_symbol_202 : decode prog_11_method_13_code 202 = .ok (.isub, 1) := by decide +kernel
theorem d_M_symbol_203 : decode prog_11_method_13_code 203 = .ok (.iastore, 1) := by decide +kernel
theorem d_M_symbol_204 : decode prog_11_method_13_code 204 = .ok (.aload_n 0, 1) := by decide +kernel
theorem d_M_symbol_205 : decode prog_11_method_13_code 205 = .ok (.getfield 47, 3) := by decide +kernel
theorem d_M_symbol_208 : decode prog_11_method_13_code 208 = .ok (.iload 10, 2) := by decide +kernel
theorem d_M_symbol_210 : decode prog_11_method_13_code 210 = .ok (.iload 4, 2) := by decide +kernel
theorem d_M_symbol_212 : decode prog_11_method_13_code 212 = .ok (.iastore, 1) := by decide +kernel
theorem d_M_symbol_213 : decode prog_11_method_13_code 213 = .ok (.aload_n 0, 1) := by decide +kernel
theorem d_M_symbol_214 : decode prog_11_method_13_code 214 = .ok (.getfield 50, 3) := by decide +kernel
theorem d_M_symbol_217 : decode prog_11_method_13_code 217 = .ok (.iload 10, 2) := by decide +kernel
theorem d_M_symbol_219 : decode prog_11_method_13_code 219 = .ok (.iload 5, 2) := by decide +kernel
theorem d_M_symbol_221 : decode prog_11_method_13_code 221 = .ok (.iastore, 1) := by decide +kernel
theorem d_M_symbol_222 : decode prog_11_method_13_code 222 = .ok (.aload_n 0, 1) := by decide +kernel
theorem d_M_symbol_223 : decode prog_11_method_13_code 223 = .ok (.getfield 53, 3) := by decide +kernel
theorem d_M_symbol_226 : decode prog_11_method_13_code 226 = .ok (.iload 10, 2) := by decide +kernel
theorem d_M_symbol_228 : decode prog_11_method_13_code 228 = .ok (.iload 5, 2) := by decide +kernel
theorem d_M_symbol_230 : decode prog_11_method_13_code 230 = .ok (.ifCond .ge 7, 3) := by decide +kernel
theorem d_M_symbol_233 : decode prog_11_method_13_code 233 = .ok (.iconst 0, 1) := by decide +kernel
theorem d_M_symbol_234 : decode prog_11_method_13_code 234 = .ok (.goto 5, 3) := by decide +kernel
theorem d_M_symbol_237 : decode prog_11_method_13_code 237 = .ok (.iload 6, 2) := by decide +kernel
theorem d_M_symbol_239 : decode prog_11_method_13_code 239 = .ok (.iastore, 1) := by decide +kernel
theorem d_M_symbol_240 : decode prog_11_method_13_code 240 = .ok (.aload_n 0, 1) := by decide +kernel
theorem d_M_symbol_241 : decode prog_11_method_13_code 241 = .ok (.getfield 56, 3) := by decide +kernel
theorem d_M_symbol_244 : decode prog_11_method_13_code 244 = .ok (.iload 10, 2) := by decide +kernel
theorem d_M_symbol_246 : decode prog_11_method_13_code 246 = .ok (.iload 7, 2) := by decide +kernel
theorem d_M_symbol_248 : decode prog_11_method_13_code 248 = .ok (.iastore, 1) := by decide +kernel
theorem d_M_symbol_249 : decode prog_11_method_13_code 249 = .ok (.aload_n 0, 1) := by decide +kernel
theorem d_M_symbol_250 : decode prog_11_method_13_code 250 = .ok (.dup, 1) := by decide +kernel
theorem d_M_symbol_251 : decode prog_11_method_13_code 251 = .ok (.getfield 129, 3) := by decide +kernel
theorem d_M_symbol_254 : decode prog_11_method_13_code 254 = .ok (.iconst 1, 1) := by decide +kernel
theorem d_M_symbol_255 : decode prog_11_method_13_code 255 = .ok (.iadd, 1) := by decide +kernel
theorem d_M_symbol_256 : decode prog_11_method_13_code 256 = .ok (.putfield 129, 3) := by decide +kernel
theorem d_M_symbol_259 : decode prog_11_method_13_code 259 = .ok (.iload 10, 2) := by decide +kernel
theorem d_M_symbol_261 : decode prog_11_method_13_code 261 = .ok (.iload 9, 2) := by decide +kernel
theorem d_M_symbol_263 : decode prog_11_method_13_code 263 = .ok (.isub, 1) := by decide +kernel
theorem d_M_symbol_264 : decode prog_11_method_13_code 264 = .ok (.ireturn, 1) := by decide +kernel
theorem d_M_isLine_0 : decode prog_11_method_6_code 0 = .ok (.iload_n 0, 1) := by decide +kernel
theorem d_M_isLine_1 : decode prog_11_method_6_code 1 = .ok (.ifCond .lt 13, 3) := by decide +kernel
theorem d_M_isLine_4 : decode prog_11_method_6_code 4 = .ok (.iload_n 0, 1) := by decide +kernel
theorem d_M_isLine_5 : decode prog_11_method_6_code 5 = .ok (.ldc 145, 2) := by decide +kernel
theorem d_M_isLine_7 : decode prog_11_method_6_code 7 = .ok (.if_icmp .gt 7, 3) := by decide +kernel
theorem d_M_isLine_10 : decode prog_11_method_6_code 10 = .ok (.iconst 1, 1) := by decide +kernel
theorem d_M_isLine_11 : decode prog_11_method_6_code 11 = .ok (.goto 4, 3) := by decide +kernel
theorem d_M_isLine_14 : decode prog_11_method_6_code 14 = .ok (.iconst 0, 1) := by decide +kernel
theorem d_M_isLine_15 : decode prog_11_method_6_code 15 = .ok (.ireturn, 1) := by decide +kernel
theorem d_M_cut_0 : decode prog_11_method_12_code 0 = .ok (.iload_n 2, 1) := by decide +kernel
theorem d_M_cut_1 : decode prog_11_method_12_code 1 = .ok (.bipush 8, 2) := by decide +kernel
theorem d_M_cut_3 : decode prog_11_method_12_code 3 = .ok (.if_icmp .ne 7, 3) := by decide +kernel
theorem d_M_cut_6 : decode prog_11_method_12_code 6 = .ok (.lload_n 0, 1) := by decide +kernel
theorem d_M_cut_7 : decode prog_11_method_12_code 7 = .ok (.goto 13, 3) := by decide +kernel
theorem d_M_cut_10 : decode prog_11_method_12_code 10 = .ok (.lload_n 0, 1) := by decide +kernel
theorem d_M_cut_11 : decode prog_11_method_12_code 11 = .ok (.lconst 1, 1) := by decide +kernel
theorem d_M_cut_12 : decode prog_11_method_12_code 12 = .ok (.bipush 8, 2) := by decide +kernel
theorem d_M_cut_14 : decode prog_11_method_12_code 14 = .ok (.iload_n 2, 1) := by decide +kernel
theorem d_M_cut_15 : decode prog_11_method_12_code 15 = .ok (.imul, 1) := by decide +kernel
theorem d_M_cut_16 : decode prog_11_method_12_code 16 = .ok (.lshl, 1) := by decide +kernel
theorem d_M_cut_17 : decode prog_11_method_12_code 17 = .ok (.lconst 1, 1) := by decide +kernel
theorem d_M_cut_18 : decode prog_11_method_12_code 18 = .ok (.lsub, 1) := by decide +kernel
theorem d_M_cut_19 : decode prog_11_method_12_code 19 = .ok (.land, 1) := by decide +kernel
theorem d_M_cut_20 : decode prog_11_method_12_code 20 = .ok (.lreturn, 1) := by decide +kernel
theorem d_M_await_0 : decode prog_11_method_14_code 0 = .ok (.aload_n 0, 1) := by decide +kernel
theorem d_M_await_1 : decode prog_11_method_14_code 1 = .ok (.iconst 0, 1) := by decide +kernel
theorem d_M_await_2 : decode prog_11_method_14_code 2 = .ok (.putfield 123, 3) := by decide +kernel
theorem d_M_await_5 : decode prog_11_method_14_code 5 = .ok (.iload_n 3, 1) := by decide +kernel
theorem d_M_await_6 : decode prog_11_method_14_code 6 = .ok (.iconst 4, 1) := by decide +kernel
theorem d_M_await_7 : decode prog_11_method_14_code 7 = .ok (.if_icmp .eq 9, 3) := by decide +kernel
theorem d_M_await_10 : decode prog_11_method_14_code 10 = .ok (.iload_n 3, 1) := by decide +kernel
theorem d_M_await_11 : decode prog_11_method_14_code 11 = .ok (.bipush 8, 2) := by decide +kernel
theorem d_M_await_13 : decode prog_11_method_14_code 13 = .ok (.if_icmp .ne 31, 3) := by decide +kernel
theorem d_M_await_16 : decode prog_11_method_14_code 16 = .ok (.aload_n 0, 1) := by decide +kernel
theorem d_M_await_17 : decode prog_11_method_14_code 17 = .ok (.iload_n 1, 1) := by decide +kernel
theorem d_M_await_18 : decode prog_11_method_14_code 18 = .ok (.iload_n 2, 1) := by decide +kernel
theorem d_M_await_19 : decode prog_11_method_14_code 19 = .ok (.iload_n 3, 1) := by decide +kernel
theorem d_M_await_20 : decode prog_11_method_14_code 20 = .ok (.invokevirtual 154, 3) := by decide +kernel
theorem d_M_await_23 : decode prog_11_method_14_code 23 = .ok (.ifCond .eq 21, 3) := by decide +kernel
theorem d_M_await_26 : decode prog_11_method_14_code 26 = .ok (.iload 8, 2) := by decide +kernel
theorem d_M_await_28 : decode prog_11_method_14_code 28 = .ok (.invokestatic 158, 3) := by decide +kernel
theorem d_M_await_31 : decode prog_11_method_14_code 31 = .ok (.ifCond .eq 13, 3) := by decide +kernel
theorem d_M_await_34 : decode prog_11_method_14_code 34 = .ok (.aload_n 0, 1) := by decide +kernel
theorem d_M_await_35 : decode prog_11_method_14_code 35 = .ok (.getfield 132, 3) := by decide +kernel
theorem d_M_await_38 : decode prog_11_method_14_code 38 = .ok (.sipush 4096, 3) := by decide +kernel
theorem d_M_await_41 : decode prog_11_method_14_code 41 = .ok (.if_icmp .ne 5, 3) := by decide +kernel
theorem d_M_await_44 : decode prog_11_method_14_code 44 = .ok (.iconst 0, 1) := by decide +kernel
theorem d_M_await_45 : decode prog_11_method_14_code 45 = .ok (.ireturn, 1) := by decide +kernel
theorem d_M_await_46 : decode prog_11_method_14_code 46 = .ok (.iload 4, 2) := by decide +kernel
theorem d_M_await_48 : decode prog_11_method_14_code 48 = .ok (.iconst (-1), 1) := by decide +kernel
theorem d_M_await_49 : decode prog_11_method_14_code 49 = .ok (.if_icmp .lt 25, 3) := by decide +kernel
theorem d_M_await_52 : decode prog_11_method_14_code 52 = .ok (.iload 4, 2) := by decide +kernel
theorem d_M_await_54 : decode prog_11_method_14_code 54 = .ok (.aload_n 0, 1) := by decide +kernel
theorem d_M_await_55 : decode prog_11_method_14_code 55 = .ok (.getfield 22, 3) := by decide +kernel
theorem d_M_await_58 : decode prog_11_method_14_code 58 = .ok (.aload_n 0, 1) := by decide +kernel
theorem d_M_await_59 : decode prog_11_method_14_code 59 = .ok (.iload_n 1, 1) := by decide +kernel
theorem d_M_await_60 : decode prog_11_method_14_code 60 = .ok (.invokevirtual 150, 3) := by decide +kernel
theorem d_M_await_63 : decode prog_11_method_14_code 63 = .ok (.iaload, 1) := by decide +kernel
theorem d_M_await_64 : decode prog_11_method_14_code 64 = .ok (.if_icmp .gt 10, 3) := by decide +kernel
theorem d_M_await_67 : decode prog_11_method_14_code 67 = .ok (.iload 5, 2) := by decide +kernel
theorem d_M_await_69 : decode prog_11_method_14_code 69 = .ok (.bipush (-5), 2) := by decide +kernel
theorem d_M_await_71 : decode prog_11_method_14_code 71 = .ok (.if_icmp .ge 5, 3) := by decide +kernel
theorem d_M_await_74 : decode prog_11_method_14_code 74 = .ok (.iconst 0, 1) := by decide +kernel
theorem d_M_await_75 : decode prog_11_method_14_code 75 = .ok (.ireturn, 1) := by decide +kernel
theorem d_M_await_76 : decode prog_11_method_14_code 76 = .ok (.aload_n 0, 1) := by decide +kernel
theorem d_M_await_77 : decode prog_11_method_14_code 77 = .ok (.getfield 59, 3) := by decide +kernel
theorem d_M_await_80 : decode prog_11_method_14_code 80 = .ok (.aload_n 0, 1) := by decide +kernel
theorem d_M_await_81 : decode prog_11_method_14_code 81 = .ok (.getfield 126, 3) := by decide +kernel
theorem d_M_await_84 : decode prog_11_method_14_code 84 = .ok (.iconst 1, 1) := by decide +kernel
theorem d_M_await_85 : decode prog_11_method_14_code 85 = .ok (.isub, 1) := by decide +kernel
theorem d_M_await_86 : decode prog_11_method_14_code 86 = .ok (.iaload, 1) := by decide +kernel
theorem d_M_await_87 : decode prog_11_method_14_code 87 = .ok (.istore 9, 2) := by decide +kernel
theorem d_M_await_89 : decode prog_11_method_14_code 89 = .ok (.iload 5, 2) := by decide +kernel
theorem d_M_await_91 : decode prog_11_method_14_code 91 = .ok (.ifCond .lt 17, 3) := by decide +kernel
theorem d_M_await_94 : decode prog_11_method_14_code 94 = .ok (.iload 5, 2) := by decide +kernel
theorem d_M_await_96 : decode prog_11_method_14_code 96 = .ok (.aload_n 0, 1) := by decide +kernel
theorem d_M_await_97 : decode prog_11_method_14_code 97 = .ok (.getfield 129, 3) := by decide +kernel
theorem d_M_await_100 : decode prog_11_method_14_code 100 = .ok (.iload 9, 2) := by decide +kernel
theorem d_M_await_102 : decode prog_11_method_14_code 102 = .ok (.isub, 1) := by decide +kernel
theorem d_M_await_103 : decode prog_11_method_14_code 103 = .ok (.if_icmp .lt 5, 3) := by decide +kernel
theorem d_M_await_106 : decode prog_11_method_14_code 106 = .ok (.iconst 0, 1) := by decide +kernel
theorem d_M_await_107 : decode prog_11_method_14_code 107 = .ok (.ireturn, 1) := by decide +kernel
theorem d_M_await_108 : decode prog_11_method_14_code 108 = .ok (.aload_n 0, 1) := by decide +kernel
theorem d_M_await_109 : decode prog_11_method_14_code 109 = .ok (.getfield 62, 3) := by decide +kernel
theorem d_M_await_112 : decode prog_11_method_14_code 112 = .ok (.aload_n 0, 1) := by decide +kernel
theorem d_M_await_113 : decode prog_11_method_14_code 113 = .ok (.getfield 132, 3) := by decide +kernel
theorem d_M_await_116 : decode prog_11_method_14_code 116 = .ok (.aload_n 0, 1) := by decide +kernel
theorem d_M_await_117 : decode prog_11_method_14_code 117 = .ok (.getfield 126, 3) := by decide +kernel
theorem d_M_await_120 : decode prog_11_method_14_code 120 = .ok (.iconst 1, 1) := by decide +kernel
theorem d_M_await_121 : decode prog_11_method_14_code 121 = .ok (.isub, 1) := by decide +kernel
theorem d_M_await_122 : decode prog_11_method_14_code 122 = .ok (.iastore, 1) := by decide +kernel
theorem d_M_await_123 : decode prog_11_method_14_code 123 = .ok (.aload_n 0, 1) := by decide +kernel
theorem d_M_await_124 : decode prog_11_method_14_code 124 = .ok (.getfield 65, 3) := by decide +kernel
theorem d_M_await_127 : decode prog_11_method_14_code 127 = .ok (.aload_n 0, 1) := by decide +kernel
theorem d_M_await_128 : decode prog_11_method_14_code 128 = .ok (.getfield 132, 3) := by decide +kernel
theorem d_M_await_131 : decode prog_11_method_14_code 131 = .ok (.iload_n 1, 1) := by decide +kernel
theorem d_M_await_132 : decode prog_11_method_14_code 132 = .ok (.iastore, 1) := by decide +kernel
theorem d_M_await_133 : decode prog_11_method_14_code 133 = .ok (.aload_n 0, 1) := by decide +kernel
theorem d_M_await_134 : decode prog_11_method_14_code 134 = .ok (.getfield 68, 3) := by decide +kernel
theorem d_M_await_137 : decode prog_11_method_14_code 137 = .ok (.aload_n 0, 1) := by decide +kernel
theorem d_M_await_138 : decode prog_11_method_14_code 138 = .ok (.getfield 132, 3) := by decide +kernel
theorem d_M_await_141 : decode prog_11_method_14_code 141 = .ok (.iload_n 2, 1) := by decide +kernel
theorem d_M_await_142 : decode prog_11_method_14_code 142 = .ok (.iastore, 1) := by decide +kernel
theorem d_M_await_143 : decode prog_11_method_14_code 143 = .ok (.aload_n 0, 1) := by decide +kernel
theorem d_M_await_144 : decode prog_11_method_14_code 144 = .ok (.getfield 71, 3) := by decide +kernel
theorem d_M_await_147 : decode prog_11_method_14_code 147 = .ok (.aload_n 0, 1) := by decide +kernel
theorem d_M_await_148 : decode prog_11_method_14_code 148 = .ok (.getfield 132, 3) := by decide +kernel
theorem d_M_await_151 : decode prog_11_method_14_code 151 = .ok (.iload_n 3, 1) := by decide +kernel
theorem d_M_await_152 : decode prog_11_method_14_code 152 = .ok (.iastore, 1) := by decide +kernel
theorem d_M_await_153 : decode prog_11_method_14_code 153 = .ok (.aload_n 0, 1) := by decide +kernel
theorem d_M_await_154 : decode prog_11_method_14_code 154 = .ok (.getfield 74, 3) := by decide +kernel
theorem d_M_await_157 : decode prog_11_method_14_code 157 = .ok (.aload_n 0, 1) := by decide +kernel
theorem d_M_await_158 : decode prog_11_method_14_code 158 = .ok (.getfield 132, 3) := by decide +kernel
theorem d_M_await_161 : decode prog_11_method_14_code 161 = .ok (.iload 4, 2) := by decide +kernel
theorem d_M_await_163 : decode prog_11_method_14_code 163 = .ok (.iastore, 1) := by decide +kernel
theorem d_M_await_164 : decode prog_11_method_14_code 164 = .ok (.aload_n 0, 1) := by decide +kernel
theorem d_M_await_165 : decode prog_11_method_14_code 165 = .ok (.getfield 77, 3) := by decide +kernel
theorem d_M_await_168 : decode prog_11_method_14_code 168 = .ok (.aload_n 0, 1) := by decide +kernel
theorem d_M_await_169 : decode prog_11_method_14_code 169 = .ok (.getfield 132, 3) := by decide +kernel
theorem d_M_await_172 : decode prog_11_method_14_code 172 = .ok (.iload 5, 2) := by decide +kernel
theorem d_M_await_174 : decode prog_11_method_14_code 174 = .ok (.ifCond .ge 8, 3) := by decide +kernel
theorem d_M_await_177 : decode prog_11_method_14_code 177 = .ok (.iload 5, 2) := by decide +kernel
theorem d_M_await_179 : decode prog_11_method_14_code 179 = .ok (.goto 8, 3) := by decide +kernel
theorem d_M_await_182 : decode prog_11_method_14_code 182 = .ok (.iload 9, 2) := by decide +kernel
theorem d_M_await_184 : decode prog_11_method_14_code 184 = .ok (.iload 5, 2) := by decide +kernel
theorem d_M_await_186 : decode prog_11_method_14_code 186 = .ok (.iadd, 1) := by decide +kernel
theorem d_M_await_187 : decode prog_11_method_14_code 187 = .ok (.iastore, 1) := by decide +kernel
theorem d_M_await_188 : decode prog_11_method_14_code 188 = .ok (.aload_n 0, 1) := by decide +kernel
theorem d_M_await_189 : decode prog_11_method_14_code 189 = .ok (.getfield 83, 3) := by decide +kernel
theorem d_M_await_192 : decode prog_11_method_14_code 192 = .ok (.aload_n 0, 1) := by decide +kernel
theorem d_M_await_193 : decode prog_11_method_14_code 193 = .ok (.getfield 132, 3) := by decide +kernel
theorem d_M_await_196 : decode prog_11_method_14_code 196 = .ok (.lload 6, 2) := by decide +kernel
theorem d_M_await_198 : decode prog_11_method_14_code 198 = .ok (.lastore, 1) := by decide +kernel
theorem d_M_await_199 : decode prog_11_method_14_code 199 = .ok (.aload_n 0, 1) := by decide +kernel
theorem d_M_await_200 : decode prog_11_method_14_code 200 = .ok (.getfield 80, 3) := by decide +kernel
theorem d_M_await_203 : decode prog_11_method_14_code 203 = .ok (.aload_n 0, 1) := by decide +kernel
theorem d_M_await_204 : decode prog_11_method_14_code 204 = .ok (.getfield 132, 3) := by decide +kernel
theorem d_M_await_207 : decode prog_11_method_14_code 207 = .ok (.iload 8, 2) := by decide +kernel
theorem d_M_await_209 : decode prog_11_method_14_code 209 = .ok (.iastore, 1) := by decide +kernel
theorem d_M_await_210 : decode prog_11_method_14_code 210 = .ok (.aload_n 0, 1) := by decide +kernel
theorem d_M_await_211 : decode prog_11_method_14_code 211 = .ok (.dup, 1) := by decide +kernel
theorem d_M_await_212 : decode prog_11_method_14_code 212 = .ok (.getfield 132, 3) := by decide +kernel
theorem d_M_await_215 : decode prog_11_method_14_code 215 = .ok (.iconst 1, 1) := by decide +kernel
theorem d_M_await_216 : decode prog_11_method_14_code 216 = .ok (.iadd, 1) := by decide +kernel
theorem d_M_await_217 : decode prog_11_method_14_code 217 = .ok (.putfield 132, 3) := by decide +kernel
theorem d_M_await_220 : decode prog_11_method_14_code 220 = .ok (.iconst 1, 1) := by decide +kernel
theorem d_M_await_221 : decode prog_11_method_14_code 221 = .ok (.ireturn, 1) := by decide +kernel
theorem d_M_start_0 : decode prog_11_method_15_code 0 = .ok (.aload_n 0, 1) := by decide +kernel
theorem d_M_start_1 : decode prog_11_method_15_code 1 = .ok (.iconst 0, 1) := by decide +kernel
theorem d_M_start_2 : decode prog_11_method_15_code 2 = .ok (.putfield 123, 3) := by decide +kernel
theorem d_M_start_5 : decode prog_11_method_15_code 5 = .ok (.aload_n 0, 1) := by decide +kernel
theorem d_M_start_6 : decode prog_11_method_15_code 6 = .ok (.getfield 126, 3) := by decide +kernel
theorem d_M_start_9 : decode prog_11_method_15_code 9 = .ok (.ifCond .eq 38, 3) := by decide +kernel
theorem d_M_start_12 : decode prog_11_method_15_code 12 = .ok (.iload_n 1, 1) := by decide +kernel
theorem d_M_start_13 : decode prog_11_method_15_code 13 = .ok (.ifCond .lt 34, 3) := by decide +kernel
theorem d_M_start_16 : decode prog_11_method_15_code 16 = .ok (.iload_n 1, 1) := by decide +kernel
theorem d_M_start_17 : decode prog_11_method_15_code 17 = .ok (.aload_n 0, 1) := by decide +kernel
theorem d_M_start_18 : decode prog_11_method_15_code 18 = .ok (.getfield 22, 3) := by decide +kernel
theorem d_M_start_21 : decode prog_11_method_15_code 21 = .ok (.aload_n 0, 1) := by decide +kernel
theorem d_M_start_22 : decode prog_11_method_15_code 22 = .ok (.iconst 0, 1) := by decide +kernel
theorem d_M_start_23 : decode prog_11_method_15_code 23 = .ok (.invokevirtual 150, 3) := by decide +kernel
theorem d_M_start_26 : decode prog_11_method_15_code 26 = .ok (.iaload, 1) := by decide +kernel
theorem d_M_start_27 : decode prog_11_method_15_code 27 = .ok (.if_icmp .ge 20, 3) := by decide +kernel
theorem d_M_start_30 : decode prog_11_method_15_code 30 = .ok (.iload_n 2, 1) := by decide +kernel
theorem d_M_start_31 : decode prog_11_method_15_code 31 = .ok (.invokestatic 158, 3) := by decide +kernel
theorem d_M_start_34 : decode prog_11_method_15_code 34 = .ok (.ifCond .eq 13, 3) := by decide +kernel
theorem d_M_start_37 : decode prog_11_method_15_code 37 = .ok (.aload_n 0, 1) := by decide +kernel
theorem d_M_start_38 : decode prog_11_method_15_code 38 = .ok (.getfield 135, 3) := by decide +kernel
theorem d_M_start_41 : decode prog_11_method_15_code 41 = .ok (.sipush 8192, 3) := by decide +kernel
theorem d_M_start_44 : decode prog_11_method_15_code 44 = .ok (.if_icmp .ne 5, 3) := by decide +kernel
theorem d_M_start_47 : decode prog_11_method_15_code 47 = .ok (.iconst 0, 1) := by decide +kernel
theorem d_M_start_48 : decode prog_11_method_15_code 48 = .ok (.ireturn, 1) := by decide +kernel
theorem d_M_start_49 : decode prog_11_method_15_code 49 = .ok (.aload_n 0, 1) := by decide +kernel
theorem d_M_start_50 : decode prog_11_method_15_code 50 = .ok (.getfield 86, 3) := by decide +kernel
theorem d_M_start_53 : decode prog_11_method_15_code 53 = .ok (.aload_n 0, 1) := by decide +kernel
theorem d_M_start_54 : decode prog_11_method_15_code 54 = .ok (.getfield 135, 3) := by decide +kernel
theorem d_M_start_57 : decode prog_11_method_15_code 57 = .ok (.aload_n 0, 1) := by decide +kernel
theorem d_M_start_58 : decode prog_11_method_15_code 58 = .ok (.getfield 126, 3) := by decide +kernel
theorem d_M_start_61 : decode prog_11_method_15_code 61 = .ok (.iconst 1, 1) := by decide +kernel
theorem d_M_start_62 : decode prog_11_method_15_code 62 = .ok (.isub, 1) := by decide +kernel
theorem d_M_start_63 : decode prog_11_method_15_code 63 = .ok (.iastore, 1) := by decide +kernel
theorem d_M_start_64 : decode prog_11_method_15_code 64 = .ok (.aload_n 0, 1) := by decide +kernel
theorem d_M_start_65 : decode prog_11_method_15_code 65 = .ok (.getfield 89, 3) := by decide +kernel
theorem d_M_start_68 : decode prog_11_method_15_code 68 = .ok (.aload_n 0, 1) := by decide +kernel
theorem d_M_start_69 : decode prog_11_method_15_code 69 = .ok (.getfield 135, 3) := by decide +kernel
theorem d_M_start_72 : decode prog_11_method_15_code 72 = .ok (.iload_n 1, 1) := by decide +kernel
theorem d_M_start_73 : decode prog_11_method_15_code 73 = .ok (.iastore, 1) := by decide +kernel
theorem d_M_start_74 : decode prog_11_method_15_code 74 = .ok (.aload_n 0, 1) := by decide +kernel
theorem d_M_start_75 : decode prog_11_method_15_code 75 = .ok (.getfield 92, 3) := by decide +kernel
theorem d_M_start_78 : decode prog_11_method_15_code 78 = .ok (.aload_n 0, 1) := by decide +kernel
theorem d_M_start_79 : decode prog_11_method_15_code 79 = .ok (.getfield 135, 3) := by decide +kernel
theorem d_M_start_82 : decode prog_11_method_15_code 82 = .ok (.iload_n 2, 1) := by decide +kernel
theorem d_M_start_83 : decode prog_11_method_15_code 83 = .ok (.iastore, 1) := by decide +kernel
theorem d_M_start_84 : decode prog_11_method_15_code 84 = .ok (.aload_n 0, 1) := by decide +kernel
theorem d_M_start_85 : decode prog_11_method_15_code 85 = .ok (.dup, 1) := by decide +kernel
theorem d_M_start_86 : decode prog_11_method_15_code 86 = .ok (.getfield 135, 3) := by decide +kernel
theorem d_M_start_89 : decode prog_11_method_15_code 89 = .ok (.iconst 1, 1) := by decide +kernel
theorem d_M_start_90 : decode prog_11_method_15_code 90 = .ok (.iadd, 1) := by decide +kernel
theorem d_M_start_91 : decode prog_11_method_15_code 91 = .ok (.putfield 135, 3) := by decide +kernel
theorem d_M_start_94 : decode prog_11_method_15_code 94 = .ok (.iconst 1, 1) := by decide +kernel
theorem d_M_start_95 : decode prog_11_method_15_code 95 = .ok (.ireturn, 1) := by decide +kernel
theorem d_M_link_0 : decode prog_11_method_29_code 0 = .ok (.aload_n 0, 1) := by decide +kernel
theorem d_M_link_1 : decode prog_11_method_29_code 1 = .ok (.iconst 0, 1) := by decide +kernel
theorem d_M_link_2 : decode prog_11_method_29_code 2 = .ok (.putfield 178, 3) := by decide +kernel
theorem d_M_link_5 : decode prog_11_method_29_code 5 = .ok (.aload_n 0, 1) := by decide +kernel
theorem d_M_link_6 : decode prog_11_method_29_code 6 = .ok (.iconst 0, 1) := by decide +kernel
theorem d_M_link_7 : decode prog_11_method_29_code 7 = .ok (.putfield 181, 3) := by decide +kernel
theorem d_M_link_10 : decode prog_11_method_29_code 10 = .ok (.aload_n 0, 1) := by decide +kernel
theorem d_M_link_11 : decode prog_11_method_29_code 11 = .ok (.iconst (-1), 1) := by decide +kernel
theorem d_M_link_12 : decode prog_11_method_29_code 12 = .ok (.putfield 95, 3) := by decide +kernel
theorem d_M_link_15 : decode prog_11_method_29_code 15 = .ok (.aload_n 0, 1) := by decide +kernel
theorem d_M_link_16 : decode prog_11_method_29_code 16 = .ok (.invokevirtual 202, 3) := by decide +kernel
theorem d_M_link_19 : decode prog_11_method_29_code 19 = .ok (.aload_n 0, 1) := by decide +kernel
theorem d_M_link_20 : decode prog_11_method_29_code 20 = .ok (.ldc2_w 205, 3) := by decide +kernel
theorem d_M_link_23 : decode prog_11_method_29_code 23 = .ok (.iconst 5, 1) := by decide +kernel
theorem d_M_link_24 : decode prog_11_method_29_code 24 = .ok (.invokevirtual 171, 3) := by decide +kernel
theorem d_M_link_27 : decode prog_11_method_29_code 27 = .ok (.istore_n 1, 1) := by decide +kernel
theorem d_M_link_28 : decode prog_11_method_29_code 28 = .ok (.iload_n 1, 1) := by decide +kernel
theorem d_M_link_29 : decode prog_11_method_29_code 29 = .ok (.ifCond .lt 11, 3) := by decide +kernel
theorem d_M_link_32 : decode prog_11_method_29_code 32 = .ok (.aload_n 0, 1) := by decide +kernel
theorem d_M_link_33 : decode prog_11_method_29_code 33 = .ok (.iload_n 1, 1) := by decide +kernel
theorem d_M_link_34 : decode prog_11_method_29_code 34 = .ok (.invokevirtual 165, 3) := by decide +kernel
theorem d_M_link_37 : decode prog_11_method_29_code 37 = .ok (.ifCond .ne 13, 3) := by decide +kernel
theorem d_M_link_40 : decode prog_11_method_29_code 40 = .ok (.aload_n 0, 1) := by decide +kernel
theorem d_M_link_41 : decode prog_11_method_29_code 41 = .ok (.iconst 1, 1) := by decide +kernel
theorem d_M_link_42 : decode prog_11_method_29_code 42 = .ok (.iconst (-1), 1) := by decide +kernel
theorem d_M_link_43 : decode prog_11_method_29_code 43 = .ok (.iconst 0, 1) := by decide +kernel
theorem d_M_link_44 : decode prog_11_method_29_code 44 = .ok (.invokevirtual 184, 3) := by decide +kernel
theorem d_M_link_47 : decode prog_11_method_29_code 47 = .ok (.goto 7, 3) := by decide +kernel
theorem d_M_link_50 : decode prog_11_method_29_code 50 = .ok (.aload_n 0, 1) := by decide +kernel
theorem d_M_link_51 : decode prog_11_method_29_code 51 = .ok (.invokevirtual 207, 3) := by decide +kernel
theorem d_M_link_54 : decode prog_11_method_29_code 54 = .ok (.aload_n 0, 1) := by decide +kernel
theorem d_M_link_55 : decode prog_11_method_29_code 55 = .ok (.getfield 178, 3) := by decide +kernel
theorem d_M_link_58 : decode prog_11_method_29_code 58 = .ok (.ifCond .eq 10, 3) := by decide +kernel
theorem d_M_link_61 : decode prog_11_method_29_code 61 = .ok (.aload_n 0, 1) := by decide +kernel
theorem d_M_link_62 : decode prog_11_method_29_code 62 = .ok (.iconst 1, 1) := by decide +kernel
theorem d_M_link_63 : decode prog_11_method_29_code 63 = .ok (.iconst 0, 1) := by decide +kernel
theorem d_M_link_64 : decode prog_11_method_29_code 64 = .ok (.invokevirtual 210, 3) := by decide +kernel
theorem d_M_link_67 : decode prog_11_method_29_code 67 = .ok (.ireturn, 1) := by decide +kernel
theorem d_M_link_68 : decode prog_11_method_29_code 68 = .ok (.aload_n 0, 1) := by decide +kernel
theorem d_M_link_69 : decode prog_11_method_29_code 69 = .ok (.getfield 105, 3) := by decide +kernel
theorem d_M_link_72 : decode prog_11_method_29_code 72 = .ok (.astore_n 2, 1) := by decide +kernel
theorem d_M_link_73 : decode prog_11_method_29_code 73 = .ok (.aload_n 2, 1) := by decide +kernel
theorem d_M_link_74 : decode prog_11_method_29_code 74 = .ok (.iconst 0, 1) := by decide +kernel
theorem d_M_link_75 : decode prog_11_method_29_code 75 = .ok (.iaload, 1) := by decide +kernel
theorem d_M_link_76 : decode prog_11_method_29_code 76 = .ok (.istore_n 3, 1) := by decide +kernel
theorem d_M_link_77 : decode prog_11_method_29_code 77 = .ok (.aload_n 2, 1) := by decide +kernel
theorem d_M_link_78 : decode prog_11_method_29_code 78 = .ok (.iconst 1, 1) := by decide +kernel
theorem d_M_link_79 : decode prog_11_method_29_code 79 = .ok (.iaload, 1) := by decide +kernel
theorem d_M_link_80 : decode prog_11_method_29_code 80 = .ok (.istore 4, 2) := by decide +kernel
theorem d_M_link_82 : decode prog_11_method_29_code 82 = .ok (.aload_n 2, 1) := by decide +kernel
theorem d_M_link_83 : decode prog_11_method_29_code 83 = .ok (.iconst 2, 1) := by decide +kernel
theorem d_M_link_84 : decode prog_11_method_29_code 84 = .ok (.iaload, 1) := by decide +kernel
theorem d_M_link_85 : decode prog_11_method_29_code 85 = .ok (.istore 5, 2) := by decide +kernel
theorem d_M_link_87 : decode prog_11_method_29_code 87 = .ok (.aload_n 2, 1) := by decide +kernel
theorem d_M_link_88 : decode prog_11_method_29_code 88 = .ok (.iconst 3, 1) := by decide +kernel
theorem d_M_link_89 : decode prog_11_method_29_code 89 = .ok (.iaload, 1) := by decide +kernel
theorem d_M_link_90 : decode prog_11_method_29_code 90 = .ok (.istore 6, 2) := by decide +kernel
theorem d_M_link_92 : decode prog_11_method_29_code 92 = .ok (.aload_n 2, 1) := by decide +kernel
theorem d_M_link_93 : decode prog_11_method_29_code 93 = .ok (.iconst 4, 1) := by decide +kernel
theorem d_M_link_94 : decode prog_11_method_29_code 94 = .ok (.iaload, 1) := by decide +kernel
theorem d_M_link_95 : decode prog_11_method_29_code 95 = .ok (.istore 7, 2) := by decide +kernel
theorem d_M_link_97 : decode prog_11_method_29_code 97 = .ok (.aload_n 2, 1) := by decide +kernel
theorem d_M_link_98 : decode prog_11_method_29_code 98 = .ok (.bipush 6, 2) := by decide +kernel
theorem d_M_link_100 : decode prog_11_method_29_code 100 = .ok (.iaload, 1) := by decide +kernel
theorem d_M_link_101 : decode prog_11_method_29_code 101 = .ok (.istore 8, 2) := by decide +kernel
theorem d_M_link_103 : decode prog_11_method_29_code 103 = .ok (.aload_n 0, 1) := by decide +kernel
theorem d_M_link_104 : decode prog_11_method_29_code 104 = .ok (.getfield 191, 3) := by decide +kernel
theorem d_M_link_107 : decode prog_11_method_29_code 107 = .ok (.istore 9, 2) := by decide +kernel
theorem d_M_link_109 : decode prog_11_method_29_code 109 = .ok (.aload_n 0, 1) := by decide +kernel
theorem d_M_link_110 : decode prog_11_method_29_code 110 = .ok (.iload_n 1, 1) := by decide +kernel
theorem d_M_link_111 : decode prog_11_method_29_code 111 = .ok (.invokevirtual 214, 3) := by decide +kernel
theorem d_M_link_114 : decode prog_11_method_29_code 114 = .ok (.aload_n 0, 1) := by decide +kernel
theorem d_M_link_115 : decode prog_11_method_29_code 115 = .ok (.aload_n 0, 1) := by decide +kernel
theorem d_M_link_116 : decode prog_11_method_29_code 116 = .ok (.getfield 126, 3) := by decide +kernel
theorem d_M_link_119 : decode prog_11_method_29_code 119 = .ok (.putfield 141, 3) := by decide +kernel
theorem d_M_link_122 : decode prog_11_method_29_code 122 = .ok (.iconst 0, 1) := by decide +kernel
theorem d_M_link_123 : decode prog_11_method_29_code 123 = .ok (.istore 10, 2) := by decide +kernel
theorem d_M_link_125 : decode prog_11_method_29_code 125 = .ok (.iload 10, 2) := by decide +kernel
theorem d_M_link_127 : decode prog_11_method_29_code 127 = .ok (.sipush 128, 3) := by decide +kernel
theorem d_M_link_130 : decode prog_11_method_29_code 130 = .ok (.if_icmp .ge 23, 3) := by decide +kernel
theorem d_M_link_133 : decode prog_11_method_29_code 133 = .ok (.aload_n 0, 1) := by decide +kernel
theorem d_M_link_134 : decode prog_11_method_29_code 134 = .ok (.getfield 99, 3) := by decide +kernel
theorem d_M_link_137 : decode prog_11_method_29_code 137 = .ok (.iload 10, 2) := by decide +kernel
theorem d_M_link_139 : decode prog_11_method_29_code 139 = .ok (.aload_n 0, 1) := by decide +kernel
theorem d_M_link_140 : decode prog_11_method_29_code 140 = .ok (.getfield 19, 3) := by decide +kernel
theorem d_M_link_143 : decode prog_11_method_29_code 143 = .ok (.iload 10, 2) := by decide +kernel
theorem d_M_link_145 : decode prog_11_method_29_code 145 = .ok (.baload, 1) := by decide +kernel
theorem d_M_link_146 : decode prog_11_method_29_code 146 = .ok (.bastore, 1) := by decide +kernel
theorem d_M_link_147 : decode prog_11_method_29_code 147 = .ok (.iinc 10 1, 3) := by decide +kernel
theorem d_M_link_150 : decode prog_11_method_29_code 150 = .ok (.goto (-25), 3) := by decide +kernel
theorem d_M_link_153 : decode prog_11_method_29_code 153 = .ok (.aload_n 0, 1) := by decide +kernel
theorem d_M_link_154 : decode prog_11_method_29_code 154 = .ok (.invokevirtual 218, 3) := by decide +kernel
theorem d_M_link_157 : decode prog_11_method_29_code 157 = .ok (.aload_n 0, 1) := by decide +kernel
theorem d_M_link_158 : decode prog_11_method_29_code 158 = .ok (.invokevirtual 221, 3) := by decide +kernel
theorem d_M_link_161 : decode prog_11_method_29_code 161 = .ok (.aload_n 0, 1) := by decide +kernel
theorem d_M_link_162 : decode prog_11_method_29_code 162 = .ok (.getfield 191, 3) := by decide +kernel
theorem d_M_link_165 : decode prog_11_method_29_code 165 = .ok (.ldc 32, 2) := by decide +kernel
theorem d_M_link_167 : decode prog_11_method_29_code 167 = .ok (.if_icmp .le 10, 3) := by decide +kernel
theorem d_M_link_170 : decode prog_11_method_29_code 170 = .ok (.aload_n 0, 1) := by decide +kernel
theorem d_M_link_171 : decode prog_11_method_29_code 171 = .ok (.iconst 5, 1) := by decide +kernel
theorem d_M_link_172 : decode prog_11_method_29_code 172 = .ok (.iconst (-1), 1) := by decide +kernel
theorem d_M_link_173 : decode prog_11_method_29_code 173 = .ok (.iconst 0, 1) := by decide +kernel
theorem d_M_link_174 : decode prog_11_method_29_code 174 = .ok (.invokevirtual 184, 3) := by decide +kernel
theorem d_M_link_177 : decode prog_11_method_29_code 177 = .ok (.aload_n 0, 1) := by decide +kernel
theorem d_M_link_178 : decode prog_11_method_29_code 178 = .ok (.getfield 178, 3) := by decide +kernel
theorem d_M_link_181 : decode prog_11_method_29_code 181 = .ok (.ifCond .eq 64, 3) := by decide +kernel
theorem d_M_link_184 : decode prog_11_method_29_code 184 = .ok (.aload_n 0, 1) := by decide +kernel
theorem d_M_link_185 : decode prog_11_method_29_code 185 = .ok (.getfield 105, 3) := by decide +kernel
theorem d_M_link_188 : decode prog_11_method_29_code 188 = .ok (.iconst 0, 1) := by decide +kernel
theorem d_M_link_189 : decode prog_11_method_29_code 189 = .ok (.iload_n 3, 1) := by decide +kernel
theorem d_M_link_190 : decode prog_11_method_29_code 190 = .ok (.iastore, 1) := by decide +kernel
theorem d_M_link_191 : decode prog_11_method_29_code 191 = .ok (.aload_n 0, 1) := by decide +kernel
theorem d_M_link_192 : decode prog_11_method_29_code 192 = .ok (.getfield 105, 3) := by decide +kernel
theorem d_M_link_195 : decode prog_11_method_29_code 195 = .ok (.iconst 1, 1) := by decide +kernel
theorem d_M_link_196 : decode prog_11_method_29_code 196 = .ok (.iload 4, 2) := by decide +kernel
theorem d_M_link_198 : decode prog_11_method_29_code 198 = .ok (.iastore, 1) := by decide +kernel
theorem d_M_link_199 : decode prog_11_method_29_code 199 = .ok (.aload_n 0, 1) := by decide +kernel
theorem d_M_link_200 : decode prog_11_method_29_code 200 = .ok (.getfield 105, 3) := by decide +kernel
theorem d_M_link_203 : decode prog_11_method_29_code 203 = .ok (.iconst 2, 1) := by decide +kernel
theorem d_M_link_204 : decode prog_11_method_29_code 204 = .ok (.iload 5, 2) := by decide +kernel
theorem d_M_link_206 : decode prog_11_method_29_code 206 = .ok (.iastore, 1) := by decide +kernel
theorem d_M_link_207 : decode prog_11_method_29_code 207 = .ok (.aload_n 0, 1) := by decide +kernel
theorem d_M_link_208 : decode prog_11_method_29_code 208 = .ok (.getfield 105, 3) := by decide +kernel
theorem d_M_link_211 : decode prog_11_method_29_code 211 = .ok (.iconst 3, 1) := by decide +kernel
theorem d_M_link_212 : decode prog_11_method_29_code 212 = .ok (.iload 6, 2) := by decide +kernel
theorem d_M_link_214 : decode prog_11_method_29_code 214 = .ok (.iastore, 1) := by decide +kernel
theorem d_M_link_215 : decode prog_11_method_29_code 215 = .ok (.aload_n 0, 1) := by decide +kernel
theorem d_M_link_216 : decode prog_11_method_29_code 216 = .ok (.getfield 105, 3) := by decide +kernel
theorem d_M_link_219 : decode prog_11_method_29_code 219 = .ok (.iconst 4, 1) := by decide +kernel
theorem d_M_link_220 : decode prog_11_method_29_code 220 = .ok (.iload 7, 2) := by decide +kernel
theorem d_M_link_222 : decode prog_11_method_29_code 222 = .ok (.iastore, 1) := by decide +kernel
theorem d_M_link_223 : decode prog_11_method_29_code 223 = .ok (.aload_n 0, 1) := by decide +kernel
theorem d_M_link_224 : decode prog_11_method_29_code 224 = .ok (.getfield 105, 3) := by decide +kernel
theorem d_M_link_227 : decode prog_11_method_29_code 227 = .ok (.bipush 6, 2) := by decide +kernel
theorem d_M_link_229 : decode prog_11_method_29_code 229 = .ok (.iload 8, 2) := by decide +kernel
theorem d_M_link_231 : decode prog_11_method_29_code 231 = .ok (.iastore, 1) := by decide +kernel
theorem d_M_link_232 : decode prog_11_method_29_code 232 = .ok (.aload_n 0, 1) := by decide +kernel
theorem d_M_link_233 : decode prog_11_method_29_code 233 = .ok (.iload 9, 2) := by decide +kernel
theorem d_M_link_235 : decode prog_11_method_29_code 235 = .ok (.putfield 191, 3) := by decide +kernel
theorem d_M_link_238 : decode prog_11_method_29_code 238 = .ok (.aload_n 0, 1) := by decide +kernel
theorem d_M_link_239 : decode prog_11_method_29_code 239 = .ok (.iconst 1, 1) := by decide +kernel
theorem d_M_link_240 : decode prog_11_method_29_code 240 = .ok (.iconst 0, 1) := by decide +kernel
theorem d_M_link_241 : decode prog_11_method_29_code 241 = .ok (.invokevirtual 210, 3) := by decide +kernel
theorem d_M_link_244 : decode prog_11_method_29_code 244 = .ok (.ireturn, 1) := by decide +kernel
theorem d_M_link_245 : decode prog_11_method_29_code 245 = .ok (.aload_n 0, 1) := by decide +kernel
theorem d_M_link_246 : decode prog_11_method_29_code 246 = .ok (.iconst 1, 1) := by decide +kernel
theorem d_M_link_247 : decode prog_11_method_29_code 247 = .ok (.putfield 224, 3) := by decide +kernel
theorem d_M_link_250 : decode prog_11_method_29_code 250 = .ok (.aload_n 0, 1) := by decide +kernel
theorem d_M_link_251 : decode prog_11_method_29_code 251 = .ok (.getfield 105, 3) := by decide +kernel
theorem d_M_link_254 : decode prog_11_method_29_code 254 = .ok (.iconst 5, 1) := by decide +kernel
theorem d_M_link_255 : decode prog_11_method_29_code 255 = .ok (.aload_n 0, 1) := by decide +kernel
theorem d_M_link_256 : decode prog_11_method_29_code 256 = .ok (.iload_n 1, 1) := by decide +kernel
theorem d_M_link_257 : decode prog_11_method_29_code 257 = .ok (.invokevirtual 195, 3) := by decide +kernel
theorem d_M_link_260 : decode prog_11_method_29_code 260 = .ok (.iastore, 1) := by decide +kernel
theorem d_M_link_261 : decode prog_11_method_29_code 261 = .ok (.iconst 0, 1) := by decide +kernel
theorem d_M_link_262 : decode prog_11_method_29_code 262 = .ok (.istore 10, 2) := by decide +kernel
theorem d_M_link_264 : decode prog_11_method_29_code 264 = .ok (.iload 10, 2) := by decide +kernel
theorem d_M_link_266 : decode prog_11_method_29_code 266 = .ok (.ldc 32, 2) := by decide +kernel
theorem d_M_link_268 : decode prog_11_method_29_code 268 = .ok (.if_icmp .ge 17, 3) := by decide +kernel
theorem d_M_link_271 : decode prog_11_method_29_code 271 = .ok (.aload_n 0, 1) := by decide +kernel
theorem d_M_link_272 : decode prog_11_method_29_code 272 = .ok (.getfield 102, 3) := by decide +kernel
theorem d_M_link_275 : decode prog_11_method_29_code 275 = .ok (.iload 10, 2) := by decide +kernel
theorem d_M_link_277 : decode prog_11_method_29_code 277 = .ok (.iconst 0, 1) := by decide +kernel
theorem d_M_link_278 : decode prog_11_method_29_code 278 = .ok (.bastore, 1) := by decide +kernel
theorem d_M_link_279 : decode prog_11_method_29_code 279 = .ok (.iinc 10 1, 3) := by decide +kernel
theorem d_M_link_282 : decode prog_11_method_29_code 282 = .ok (.goto (-18), 3) := by decide +kernel
theorem d_M_link_285 : decode prog_11_method_29_code 285 = .ok (.iconst 0, 1) := by decide +kernel
theorem d_M_link_286 : decode prog_11_method_29_code 286 = .ok (.istore 10, 2) := by decide +kernel
theorem d_M_link_288 : decode prog_11_method_29_code 288 = .ok (.iload 10, 2) := by decide +kernel
theorem d_M_link_290 : decode prog_11_method_29_code 290 = .ok (.iconst 4, 1) := by decide +kernel
theorem d_M_link_291 : decode prog_11_method_29_code 291 = .ok (.aload_n 0, 1) := by decide +kernel
theorem d_M_link_292 : decode prog_11_method_29_code 292 = .ok (.getfield 126, 3) := by decide +kernel
theorem d_M_link_295 : decode prog_11_method_29_code 295 = .ok (.imul, 1) := by decide +kernel
theorem d_M_link_296 : decode prog_11_method_29_code 296 = .ok (.if_icmp .ge 78, 3) := by decide +kernel
theorem d_M_link_299 : decode prog_11_method_29_code 299 = .ok (.iconst 0, 1) := by decide +kernel
theorem d_M_link_300 : decode prog_11_method_29_code 300 = .ok (.istore 11, 2) := by decide +kernel
theorem d_M_link_302 : decode prog_11_method_29_code 302 = .ok (.iload 11, 2) := by decide +kernel
theorem d_M_link_304 : decode prog_11_method_29_code 304 = .ok (.aload_n 0, 1) := by decide +kernel
theorem d_M_link_305 : decode prog_11_method_29_code 305 = .ok (.getfield 22, 3) := by decide +kernel
theorem d_M_link_308 : decode prog_11_method_29_code 308 = .ok (.iload 10, 2) := by decide +kernel
theorem d_M_link_310 : decode prog_11_method_29_code 310 = .ok (.iaload, 1) := by decide +kernel
theorem d_M_link_311 : decode prog_11_method_29_code 311 = .ok (.if_icmp .ge 57, 3) := by decide +kernel
theorem d_M_link_314 : decode prog_11_method_29_code 314 = .ok (.aload_n 0, 1) := by decide +kernel
theorem d_M_link_315 : decode prog_11_method_29_code 315 = .ok (.getfield 19, 3) := by decide +kernel
theorem d_M_link_318 : decode prog_11_method_29_code 318 = .ok (.iload 10, 2) := by decide +kernel
theorem d_M_link_320 : decode prog_11_method_29_code 320 = .ok (.baload, 1) := by decide +kernel
theorem d_M_link_321 : decode prog_11_method_29_code 321 = .ok (.ifCond .eq 47, 3) := by decide +kernel
theorem d_M_link_324 : decode prog_11_method_29_code 324 = .ok (.iload 10, 2) := by decide +kernel
theorem d_M_link_326 : decode prog_11_method_29_code 326 = .ok (.iconst 4, 1) := by decide +kernel
theorem d_M_link_327 : decode prog_11_method_29_code 327 = .ok (.irem, 1) := by decide +kernel
theorem d_M_link_328 : decode prog_11_method_29_code 328 = .ok (.iconst 3, 1) := by decide +kernel
theorem d_M_link_329 : decode prog_11_method_29_code 329 = .ok (.if_icmp .ge 39, 3) := by decide +kernel
theorem d_M_link_332 : decode prog_11_method_29_code 332 = .ok (.aload_n 0, 1) := by decide +kernel
theorem d_M_link_333 : decode prog_11_method_29_code 333 = .ok (.getfield 102, 3) := by decide +kernel
theorem d_M_link_336 : decode prog_11_method_29_code 336 = .ok (.aload_n 0, 1) := by decide +kernel
theorem d_M_link_337 : decode prog_11_method_29_code 337 = .ok (.getfield 29, 3) := by decide +kernel
theorem d_M_link_340 : decode prog_11_method_29_code 340 = .ok (.iload 10, 2) := by decide +kernel
theorem d_M_link_342 : decode prog_11_method_29_code 342 = .ok (.iaload, 1) := by decide +kernel
theorem d_M_link_343 : decode prog_11_method_29_code 343 = .ok (.iload 11, 2) := by decide +kernel
theorem d_M_link_345 : decode prog_11_method_29_code 345 = .ok (.iadd, 1) := by decide +kernel
theorem d_M_link_346 : decode prog_11_method_29_code 346 = .ok (.aload_n 0, 1) := by decide +kernel
theorem d_M_link_347 : decode prog_11_method_29_code 347 = .ok (.getfield 33, 3) := by decide +kernel
theorem d_M_link_350 : decode prog_11_method_29_code 350 = .ok (.aload_n 0, 1) := by decide +kernel
theorem d_M_link_351 : decode prog_11_method_29_code 351 = .ok (.getfield 26, 3) := by decide +kernel
theorem d_M_link_354 : decode prog_11_method_29_code 354 = .ok (.iload 10, 2) := by decide +kernel
theorem d_M_link_356 : decode prog_11_method_29_code 356 = .ok (.iaload, 1) := by decide +kernel
theorem d_M_link_357 : decode prog_11_method_29_code 357 = .ok (.iload 11, 2) := by decide +kernel
theorem d_M_link_359 : decode prog_11_method_29_code 359 = .ok (.iadd, 1) := by decide +kernel
theorem d_M_link_360 : decode prog_11_method_29_code 360 = .ok (.baload, 1) := by decide +kernel
theorem d_M_link_361 : decode prog_11_method_29_code 361 = .ok (.bastore, 1) := by decide +kernel
theorem d_M_link_362 : decode prog_11_method_29_code 362 = .ok (.iinc 11 1, 3) := by decide +kernel
theorem d_M_link_365 : decode prog_11_method_29_code 365 = .ok (.goto (-63), 3) := by decide +kernel
theorem d_M_link_368 : decode prog_11_method_29_code 368 = .ok (.iinc 10 1, 3) := by decide +kernel
theorem d_M_link_371 : decode prog_11_method_29_code 371 = .ok (.goto (-83), 3) := by decide +kernel
theorem d_M_link_374 : decode prog_11_method_29_code 374 = .ok (.iconst 0, 1) := by decide +kernel
theorem d_M_link_375 : decode prog_11_method_29_code 375 = .ok (.istore 10, 2) := by decide +kernel
theorem d_M_link_377 : decode prog_11_method_29_code 377 = .ok (.iload 10, 2) := by decide +kernel
theorem d_M_link_379 : decode prog_11_method_29_code 379 = .ok (.aload_n 0, 1) := by decide +kernel
theorem d_M_link_380 : decode prog_11_method_29_code 380 = .ok (.getfield 132, 3) := by decide +kernel
theorem d_M_link_383 : decode prog_11_method_29_code 383 = .ok (.if_icmp .ge 114, 3) := by decide +kernel
theorem d_M_link_386 : decode prog_11_method_29_code 386 = .ok (.iconst 4, 1) := by decide +kernel
theorem d_M_link_387 : decode prog_11_method_29_code 387 = .ok (.aload_n 0, 1) := by decide +kernel
theorem d_M_link_388 : decode prog_11_method_29_code 388 = .ok (.getfield 62, 3) := by decide +kernel
theorem d_M_link_391 : decode prog_11_method_29_code 391 = .ok (.iload 10, 2) := by decide +kernel
theorem d_M_link_393 : decode prog_11_method_29_code 393 = .ok (.iaload, 1) := by decide +kernel
theorem d_M_link_394 : decode prog_11_method_29_code 394 = .ok (.imul, 1) := by decide +kernel
theorem d_M_link_395 : decode prog_11_method_29_code 395 = .ok (.aload_n 0, 1) := by decide +kernel
theorem d_M_link_396 : decode prog_11_method_29_code 396 = .ok (.getfield 65, 3) := by decide +kernel
theorem d_M_link_399 : decode prog_11_method_29_code 399 = .ok (.iload 10, 2) := by decide +kernel
theorem d_M_link_401 : decode prog_11_method_29_code 401 = .ok (.iaload, 1) := by decide +kernel
theorem d_M_link_402 : decode prog_11_method_29_code 402 = .ok (.iadd, 1) := by decide +kernel
theorem d_M_link_403 : decode prog_11_method_29_code 403 = .ok (.istore 11, 2) := by decide +kernel
theorem d_M_link_405 : decode prog_11_method_29_code 405 = .ok (.aload_n 0, 1) := by decide +kernel
theorem d_M_link_406 : decode prog_11_method_29_code 406 = .ok (.getfield 19, 3) := by decide +kernel
theorem d_M_link_409 : decode prog_11_method_29_code 409 = .ok (.iload 11, 2) := by decide +kernel
theorem d_M_link_411 : decode prog_11_method_29_code 411 = .ok (.baload, 1) := by decide +kernel
theorem d_M_link_412 : decode prog_11_method_29_code 412 = .ok (.ifCond .eq 12, 3) := by decide +kernel
theorem d_M_link_415 : decode prog_11_method_29_code 415 = .ok (.aload_n 0, 1) := by decide +kernel
theorem d_M_link_416 : decode prog_11_method_29_code 416 = .ok (.iload 10, 2) := by decide +kernel
theorem d_M_link_418 : decode prog_11_method_29_code 418 = .ok (.invokevirtual 198, 3) := by decide +kernel
theorem d_M_link_421 : decode prog_11_method_29_code 421 = .ok (.goto 4, 3) := by decide +kernel
theorem d_M_link_424 : decode prog_11_method_29_code 424 = .ok (.lconst 0, 1) := by decide +kernel
theorem d_M_link_425 : decode prog_11_method_29_code 425 = .ok (.lstore 12, 2) := by decide +kernel
theorem d_M_link_427 : decode prog_11_method_29_code 427 = .ok (.iconst 0, 1) := by decide +kernel
theorem d_M_link_428 : decode prog_11_method_29_code 428 = .ok (.istore 14, 2) := by decide +kernel
theorem d_M_link_430 : decode prog_11_method_29_code 430 = .ok (.iload 14, 2) := by decide +kernel
theorem d_M_link_432 : decode prog_11_method_29_code 432 = .ok (.aload_n 0, 1) := by decide +kernel
theorem d_M_link_433 : decode prog_11_method_29_code 433 = .ok (.getfield 71, 3) := by decide +kernel
theorem d_M_link_436 : decode prog_11_method_29_code 436 = .ok (.iload 10, 2) := by decide +kernel
theorem d_M_link_438 : decode prog_11_method_29_code 438 = .ok (.iaload, 1) := by decide +kernel
theorem d_M_link_439 : decode prog_11_method_29_code 439 = .ok (.if_icmp .ge 52, 3) := by decide +kernel
theorem d_M_link_442 : decode prog_11_method_29_code 442 = .ok (.aload_n 0, 1) := by decide +kernel
theorem d_M_link_443 : decode prog_11_method_29_code 443 = .ok (.getfield 19, 3) := by decide +kernel
theorem d_M_link_446 : decode prog_11_method_29_code 446 = .ok (.iload 11, 2) := by decide +kernel
theorem d_M_link_448 : decode prog_11_method_29_code 448 = .ok (.baload, 1) := by decide +kernel
theorem d_M_link_449 : decode prog_11_method_29_code 449 = .ok (.ifCond .eq 42, 3) := by decide +kernel
theorem d_M_link_452 : decode prog_11_method_29_code 452 = .ok (.aload_n 0, 1) := by decide +kernel
theorem d_M_link_453 : decode prog_11_method_29_code 453 = .ok (.getfield 102, 3) := by decide +kernel
theorem d_M_link_456 : decode prog_11_method_29_code 456 = .ok (.aload_n 0, 1) := by decide +kernel
theorem d_M_link_457 : decode prog_11_method_29_code 457 = .ok (.getfield 29, 3) := by decide +kernel
theorem d_M_link_460 : decode prog_11_method_29_code 460 = .ok (.iload 11, 2) := by decide +kernel
theorem d_M_link_462 : decode prog_11_method_29_code 462 = .ok (.iaload, 1) := by decide +kernel
theorem d_M_link_463 : decode prog_11_method_29_code 463 = .ok (.aload_n 0, 1) := by decide +kernel
theorem d_M_link_464 : decode prog_11_method_29_code 464 = .ok (.getfield 68, 3) := by decide +kernel
theorem d_M_link_467 : decode prog_11_method_29_code 467 = .ok (.iload 10, 2) := by decide +kernel
theorem d_M_link_469 : decode prog_11_method_29_code 469 = .ok (.iaload, 1) := by decide +kernel
theorem d_M_link_470 : decode prog_11_method_29_code 470 = .ok (.iadd, 1) := by decide +kernel
theorem d_M_link_471 : decode prog_11_method_29_code 471 = .ok (.iload 14, 2) := by decide +kernel
theorem d_M_link_473 : decode prog_11_method_29_code 473 = .ok (.iadd, 1) := by decide +kernel
theorem d_M_link_474 : decode prog_11_method_29_code 474 = .ok (.lload 12, 2) := by decide +kernel
theorem d_M_link_476 : decode prog_11_method_29_code 476 = .ok (.bipush 8, 2) := by decide +kernel
theorem d_M_link_478 : decode prog_11_method_29_code 478 = .ok (.iload 14, 2) := by decide +kernel
theorem d_M_link_480 : decode prog_11_method_29_code 480 = .ok (.imul, 1) := by decide +kernel
theorem d_M_link_481 : decode prog_11_method_29_code 481 = .ok (.lshr, 1) := by decide +kernel
theorem d_M_link_482 : decode prog_11_method_29_code 482 = .ok (.l2i, 1) := by decide +kernel
theorem d_M_link_483 : decode prog_11_method_29_code 483 = .ok (.i2b, 1) := by decide +kernel
theorem d_M_link_484 : decode prog_11_method_29_code 484 = .ok (.bastore, 1) := by decide +kernel
theorem d_M_link_485 : decode prog_11_method_29_code 485 = .ok (.iinc 14 1, 3) := by decide +kernel
theorem d_M_link_488 : decode prog_11_method_29_code 488 = .ok (.goto (-58), 3) := by decide +kernel
theorem d_M_link_491 : decode prog_11_method_29_code 491 = .ok (.iinc 10 1, 3) := by decide +kernel
theorem d_M_link_494 : decode prog_11_method_29_code 494 = .ok (.goto (-117), 3) := by decide +kernel
theorem d_M_link_497 : decode prog_11_method_29_code 497 = .ok (.aload_n 0, 1) := by decide +kernel
theorem d_M_link_498 : decode prog_11_method_29_code 498 = .ok (.invokevirtual 228, 3) := by decide +kernel
theorem d_M_link_501 : decode prog_11_method_29_code 501 = .ok (.aload_n 0, 1) := by decide +kernel
theorem d_M_link_502 : decode prog_11_method_29_code 502 = .ok (.iconst 0, 1) := by decide +kernel
theorem d_M_link_503 : decode prog_11_method_29_code 503 = .ok (.aload_n 0, 1) := by decide +kernel
theorem d_M_link_504 : decode prog_11_method_29_code 504 = .ok (.getfield 191, 3) := by decide +kernel
theorem d_M_link_507 : decode prog_11_method_29_code 507 = .ok (.invokevirtual 210, 3) := by decide +kernel
theorem d_M_link_510 : decode prog_11_method_29_code 510 = .ok (.ireturn, 1) := by decide +kernel
theorem d_M_take_0 : decode prog_11_method_21_code 0 = .ok (.iconst 0, 1) := by decide +kernel
theorem d_M_take_1 : decode prog_11_method_21_code 1 = .ok (.istore_n 1, 1) := by decide +kernel
theorem d_M_take_2 : decode prog_11_method_21_code 2 = .ok (.iload_n 1, 1) := by decide +kernel
theorem d_M_take_3 : decode prog_11_method_21_code 3 = .ok (.aload_n 0, 1) := by decide +kernel
theorem d_M_take_4 : decode prog_11_method_21_code 4 = .ok (.getfield 126, 3) := by decide +kernel
theorem d_M_take_7 : decode prog_11_method_21_code 7 = .ok (.if_icmp .ge 29, 3) := by decide +kernel
theorem d_M_take_10 : decode prog_11_method_21_code 10 = .ok (.aload_n 0, 1) := by decide +kernel
theorem d_M_take_11 : decode prog_11_method_21_code 11 = .ok (.getfield 16, 3) := by decide +kernel
theorem d_M_take_14 : decode prog_11_method_21_code 14 = .ok (.iload_n 1, 1) := by decide +kernel
theorem d_M_take_15 : decode prog_11_method_21_code 15 = .ok (.aload_n 0, 1) := by decide +kernel
theorem d_M_take_16 : decode prog_11_method_21_code 16 = .ok (.getfield 7, 3) := by decide +kernel
theorem d_M_take_19 : decode prog_11_method_21_code 19 = .ok (.iload_n 1, 1) := by decide +kernel
theorem d_M_take_20 : decode prog_11_method_21_code 20 = .ok (.baload, 1) := by decide +kernel
theorem d_M_take_21 : decode prog_11_method_21_code 21 = .ok (.ifCond .ne 7, 3) := by decide +kernel
theorem d_M_take_24 : decode prog_11_method_21_code 24 = .ok (.iconst 1, 1) := by decide +kernel
theorem d_M_take_25 : decode prog_11_method_21_code 25 = .ok (.goto 4, 3) := by decide +kernel
theorem d_M_take_28 : decode prog_11_method_21_code 28 = .ok (.iconst 0, 1) := by decide +kernel
theorem d_M_take_29 : decode prog_11_method_21_code 29 = .ok (.bastore, 1) := by decide +kernel
theorem d_M_take_30 : decode prog_11_method_21_code 30 = .ok (.iinc 1 1, 3) := by decide +kernel
theorem d_M_take_33 : decode prog_11_method_21_code 33 = .ok (.goto (-31), 3) := by decide +kernel
theorem d_M_take_36 : decode prog_11_method_21_code 36 = .ok (.iconst 0, 1) := by decide +kernel
theorem d_M_take_37 : decode prog_11_method_21_code 37 = .ok (.istore_n 1, 1) := by decide +kernel
theorem d_M_take_38 : decode prog_11_method_21_code 38 = .ok (.iload_n 1, 1) := by decide +kernel
theorem d_M_take_39 : decode prog_11_method_21_code 39 = .ok (.bipush 32, 2) := by decide +kernel
theorem d_M_take_41 : decode prog_11_method_21_code 41 = .ok (.if_icmp .ge 58, 3) := by decide +kernel
theorem d_M_take_44 : decode prog_11_method_21_code 44 = .ok (.iconst 0, 1) := by decide +kernel
theorem d_M_take_45 : decode prog_11_method_21_code 45 = .ok (.istore_n 2, 1) := by decide +kernel
theorem d_M_take_46 : decode prog_11_method_21_code 46 = .ok (.iload_n 2, 1) := by decide +kernel
theorem d_M_take_47 : decode prog_11_method_21_code 47 = .ok (.aload_n 0, 1) := by decide +kernel
theorem d_M_take_48 : decode prog_11_method_21_code 48 = .ok (.getfield 126, 3) := by decide +kernel
theorem d_M_take_51 : decode prog_11_method_21_code 51 = .ok (.if_icmp .ge 26, 3) := by decide +kernel
theorem d_M_take_54 : decode prog_11_method_21_code 54 = .ok (.aload_n 0, 1) := by decide +kernel
theorem d_M_take_55 : decode prog_11_method_21_code 55 = .ok (.getfield 16, 3) := by decide +kernel
theorem d_M_take_58 : decode prog_11_method_21_code 58 = .ok (.iload_n 2, 1) := by decide +kernel
theorem d_M_take_59 : decode prog_11_method_21_code 59 = .ok (.baload, 1) := by decide +kernel
theorem d_M_take_60 : decode prog_11_method_21_code 60 = .ok (.ifCond .ne 11, 3) := by decide +kernel
theorem d_M_take_63 : decode prog_11_method_21_code 63 = .ok (.aload_n 0, 1) := by decide +kernel
theorem d_M_take_64 : decode prog_11_method_21_code 64 = .ok (.iload_n 2, 1) := by decide +kernel
theorem d_M_take_65 : decode prog_11_method_21_code 65 = .ok (.invokevirtual 175, 3) := by decide +kernel
theorem d_M_take_68 : decode prog_11_method_21_code 68 = .ok (.ifCond .ne 9, 3) := by decide +kernel
theorem d_M_take_71 : decode prog_11_method_21_code 71 = .ok (.iinc 2 1, 3) := by decide +kernel
theorem d_M_take_74 : decode prog_11_method_21_code 74 = .ok (.goto (-28), 3) := by decide +kernel
theorem d_M_take_77 : decode prog_11_method_21_code 77 = .ok (.iload_n 2, 1) := by decide +kernel
theorem d_M_take_78 : decode prog_11_method_21_code 78 = .ok (.aload_n 0, 1) := by decide +kernel
theorem d_M_take_79 : decode prog_11_method_21_code 79 = .ok (.getfield 126, 3) := by decide +kernel
theorem d_M_take_82 : decode prog_11_method_21_code 82 = .ok (.if_icmp .ne 4, 3) := by decide +kernel
theorem d_M_take_85 : decode prog_11_method_21_code 85 = .ok (.return_, 1) := by decide +kernel
theorem d_M_take_86 : decode prog_11_method_21_code 86 = .ok (.aload_n 0, 1) := by decide +kernel
theorem d_M_take_87 : decode prog_11_method_21_code 87 = .ok (.getfield 16, 3) := by decide +kernel
theorem d_M_take_90 : decode prog_11_method_21_code 90 = .ok (.iload_n 2, 1) := by decide +kernel
theorem d_M_take_91 : decode prog_11_method_21_code 91 = .ok (.iconst 1, 1) := by decide +kernel
theorem d_M_take_92 : decode prog_11_method_21_code 92 = .ok (.bastore, 1) := by decide +kernel
theorem d_M_take_93 : decode prog_11_method_21_code 93 = .ok (.iinc 1 1, 3) := by decide +kernel
theorem d_M_take_96 : decode prog_11_method_21_code 96 = .ok (.goto (-58), 3) := by decide +kernel
theorem d_M_take_99 : decode prog_11_method_21_code 99 = .ok (.return_, 1) := by decide +kernel
theorem d_M_helps_0 : decode prog_11_method_20_code 0 = .ok (.iconst 0, 1) := by decide +kernel
theorem d_M_helps_1 : decode prog_11_method_20_code 1 = .ok (.istore_n 2, 1) := by decide +kernel
theorem d_M_helps_2 : decode prog_11_method_20_code 2 = .ok (.aload_n 0, 1) := by decide +kernel
theorem d_M_helps_3 : decode prog_11_method_20_code 3 = .ok (.getfield 59, 3) := by decide +kernel
theorem d_M_helps_6 : decode prog_11_method_20_code 6 = .ok (.iload_n 1, 1) := by decide +kernel
theorem d_M_helps_7 : decode prog_11_method_20_code 7 = .ok (.iaload, 1) := by decide +kernel
theorem d_M_helps_8 : decode prog_11_method_20_code 8 = .ok (.istore_n 3, 1) := by decide +kernel
theorem d_M_helps_9 : decode prog_11_method_20_code 9 = .ok (.iload_n 3, 1) := by decide +kernel
theorem d_M_helps_10 : decode prog_11_method_20_code 10 = .ok (.aload_n 0, 1) := by decide +kernel
theorem d_M_helps_11 : decode prog_11_method_20_code 11 = .ok (.getfield 129, 3) := by decide +kernel
theorem d_M_helps_14 : decode prog_11_method_20_code 14 = .ok (.if_icmp .ge 154, 3) := by decide +kernel
theorem d_M_helps_17 : decode prog_11_method_20_code 17 = .ok (.aload_n 0, 1) := by decide +kernel
theorem d_M_helps_18 : decode prog_11_method_20_code 18 = .ok (.getfield 44, 3) := by decide +kernel
theorem d_M_helps_21 : decode prog_11_method_20_code 21 = .ok (.iload_n 3, 1) := by decide +kernel
theorem d_M_helps_22 : decode prog_11_method_20_code 22 = .ok (.iaload, 1) := by decide +kernel
theorem d_M_helps_23 : decode prog_11_method_20_code 23 = .ok (.iload_n 1, 1) := by decide +kernel
theorem d_M_helps_24 : decode prog_11_method_20_code 24 = .ok (.if_icmp .ne 144, 3) := by decide +kernel
theorem d_M_helps_27 : decode prog_11_method_20_code 27 = .ok (.aload_n 0, 1) := by decide +kernel
theorem d_M_helps_28 : decode prog_11_method_20_code 28 = .ok (.iload_n 3, 1) := by decide +kernel
theorem d_M_helps_29 : decode prog_11_method_20_code 29 = .ok (.invokevirtual 165, 3) := by decide +kernel
theorem d_M_helps_32 : decode prog_11_method_20_code 32 = .ok (.ifCond .ne 11, 3) := by decide +kernel
theorem d_M_helps_35 : decode prog_11_method_20_code 35 = .ok (.aload_n 0, 1) := by decide +kernel
theorem d_M_helps_36 : decode prog_11_method_20_code 36 = .ok (.iload_n 3, 1) := by decide +kernel
theorem d_M_helps_37 : decode prog_11_method_20_code 37 = .ok (.invokevirtual 168, 3) := by decide +kernel
theorem d_M_helps_40 : decode prog_11_method_20_code 40 = .ok (.ifCond .eq 122, 3) := by decide +kernel
theorem d_M_helps_43 : decode prog_11_method_20_code 43 = .ok (.aload_n 0, 1) := by decide +kernel
theorem d_M_helps_44 : decode prog_11_method_20_code 44 = .ok (.aload_n 0, 1) := by decide +kernel
theorem d_M_helps_45 : decode prog_11_method_20_code 45 = .ok (.getfield 37, 3) := by decide +kernel
theorem d_M_helps_48 : decode prog_11_method_20_code 48 = .ok (.iload_n 3, 1) := by decide +kernel
theorem d_M_helps_49 : decode prog_11_method_20_code 49 = .ok (.laload, 1) := by decide +kernel
theorem d_M_helps_50 : decode prog_11_method_20_code 50 = .ok (.aload_n 0, 1) := by decide +kernel
theorem d_M_helps_51 : decode prog_11_method_20_code 51 = .ok (.getfield 41, 3) := by decide +kernel
theorem d_M_helps_54 : decode prog_11_method_20_code 54 = .ok (.iload_n 3, 1) := by decide +kernel
theorem d_M_helps_55 : decode prog_11_method_20_code 55 = .ok (.iaload, 1) := by decide +kernel
theorem d_M_helps_56 : decode prog_11_method_20_code 56 = .ok (.invokevirtual 171, 3) := by decide +kernel
theorem d_M_helps_59 : decode prog_11_method_20_code 59 = .ok (.ifCond .lt 6, 3) := by decide +kernel
theorem d_M_helps_62 : decode prog_11_method_20_code 62 = .ok (.goto 100, 3) := by decide +kernel
theorem d_M_helps_65 : decode prog_11_method_20_code 65 = .ok (.iconst 0, 1) := by decide +kernel
theorem d_M_helps_66 : decode prog_11_method_20_code 66 = .ok (.istore 4, 2) := by decide +kernel
theorem d_M_helps_68 : decode prog_11_method_20_code 68 = .ok (.iload 4, 2) := by decide +kernel
theorem d_M_helps_70 : decode prog_11_method_20_code 70 = .ok (.aload_n 0, 1) := by decide +kernel
theorem d_M_helps_71 : decode prog_11_method_20_code 71 = .ok (.getfield 129, 3) := by decide +kernel
theorem d_M_helps_74 : decode prog_11_method_20_code 74 = .ok (.if_icmp .ge 88, 3) := by decide +kernel
theorem d_M_helps_77 : decode prog_11_method_20_code 77 = .ok (.iload_n 2, 1) := by decide +kernel
theorem d_M_helps_78 : decode prog_11_method_20_code 78 = .ok (.ifCond .ne 72, 3) := by decide +kernel
theorem d_M_helps_81 : decode prog_11_method_20_code 81 = .ok (.aload_n 0, 1) := by decide +kernel
theorem d_M_helps_82 : decode prog_11_method_20_code 82 = .ok (.getfield 16, 3) := by decide +kernel
theorem d_M_helps_85 : decode prog_11_method_20_code 85 = .ok (.aload_n 0, 1) := by decide +kernel
theorem d_M_helps_86 : decode prog_11_method_20_code 86 = .ok (.getfield 44, 3) := by decide +kernel
theorem d_M_helps_89 : decode prog_11_method_20_code 89 = .ok (.iload 4, 2) := by decide +kernel
theorem d_M_helps_91 : decode prog_11_method_20_code 91 = .ok (.iaload, 1) := by decide +kernel
theorem d_M_helps_92 : decode prog_11_method_20_code 92 = .ok (.baload, 1) := by decide +kernel
theorem d_M_helps_93 : decode prog_11_method_20_code 93 = .ok (.ifCond .eq 61, 3) := by decide +kernel
theorem d_M_helps_96 : decode prog_11_method_20_code 96 = .ok (.aload_n 0, 1) := by decide +kernel
theorem d_M_helps_97 : decode prog_11_method_20_code 97 = .ok (.getfield 50, 3) := by decide +kernel
theorem d_M_helps_100 : decode prog_11_method_20_code 100 = .ok (.iload 4, 2) := by decide +kernel
theorem d_M_helps_102 : decode prog_11_method_20_code 102 = .ok (.iaload, 1) := by decide +kernel
theorem d_M_helps_103 : decode prog_11_method_20_code 103 = .ok (.ifCond .ge 51, 3) := by decide +kernel
theorem d_M_helps_106 : decode prog_11_method_20_code 106 = .ok (.aload_n 0, 1) := by decide +kernel
theorem d_M_helps_107 : decode prog_11_method_20_code 107 = .ok (.getfield 47, 3) := by decide +kernel
theorem d_M_helps_110 : decode prog_11_method_20_code 110 = .ok (.iload 4, 2) := by decide +kernel
theorem d_M_helps_112 : decode prog_11_method_20_code 112 = .ok (.iaload, 1) := by decide +kernel
theorem d_M_helps_113 : decode prog_11_method_20_code 113 = .ok (.iconst 2, 1) := by decide +kernel
theorem d_M_helps_114 : decode prog_11_method_20_code 114 = .ok (.if_icmp .ge 40, 3) := by decide +kernel
theorem d_M_helps_117 : decode prog_11_method_20_code 117 = .ok (.aload_n 0, 1) := by decide +kernel
theorem d_M_helps_118 : decode prog_11_method_20_code 118 = .ok (.getfield 41, 3) := by decide +kernel
theorem d_M_helps_121 : decode prog_11_method_20_code 121 = .ok (.iload 4, 2) := by decide +kernel
theorem d_M_helps_123 : decode prog_11_method_20_code 123 = .ok (.iaload, 1) := by decide +kernel
theorem d_M_helps_124 : decode prog_11_method_20_code 124 = .ok (.aload_n 0, 1) := by decide +kernel
theorem d_M_helps_125 : decode prog_11_method_20_code 125 = .ok (.getfield 41, 3) := by decide +kernel
theorem d_M_helps_128 : decode prog_11_method_20_code 128 = .ok (.iload_n 3, 1) := by decide +kernel
theorem d_M_helps_129 : decode prog_11_method_20_code 129 = .ok (.iaload, 1) := by decide +kernel
theorem d_M_helps_130 : decode prog_11_method_20_code 130 = .ok (.if_icmp .ne 24, 3) := by decide +kernel
theorem d_M_helps_133 : decode prog_11_method_20_code 133 = .ok (.aload_n 0, 1) := by decide +kernel
theorem d_M_helps_134 : decode prog_11_method_20_code 134 = .ok (.getfield 37, 3) := by decide +kernel
theorem d_M_helps_137 : decode prog_11_method_20_code 137 = .ok (.iload 4, 2) := by decide +kernel
theorem d_M_helps_139 : decode prog_11_method_20_code 139 = .ok (.laload, 1) := by decide +kernel
theorem d_M_helps_140 : decode prog_11_method_20_code 140 = .ok (.aload_n 0, 1) := by decide +kernel
theorem d_M_helps_141 : decode prog_11_method_20_code 141 = .ok (.getfield 37, 3) := by decide +kernel
theorem d_M_helps_144 : decode prog_11_method_20_code 144 = .ok (.iload_n 3, 1) := by decide +kernel
theorem d_M_helps_145 : decode prog_11_method_20_code 145 = .ok (.laload, 1) := by decide +kernel
theorem d_M_helps_146 : decode prog_11_method_20_code 146 = .ok (.lcmp, 1) := by decide +kernel
theorem d_M_helps_147 : decode prog_11_method_20_code 147 = .ok (.ifCond .ne 7, 3) := by decide +kernel
theorem d_M_helps_150 : decode prog_11_method_20_code 150 = .ok (.iconst 1, 1) := by decide +kernel
theorem d_M_helps_151 : decode prog_11_method_20_code 151 = .ok (.goto 4, 3) := by decide +kernel
theorem d_M_helps_154 : decode prog_11_method_20_code 154 = .ok (.iconst 0, 1) := by decide +kernel
theorem d_M_helps_155 : decode prog_11_method_20_code 155 = .ok (.istore_n 2, 1) := by decide +kernel
theorem d_M_helps_156 : decode prog_11_method_20_code 156 = .ok (.iinc 4 1, 3) := by decide +kernel
theorem d_M_helps_159 : decode prog_11_method_20_code 159 = .ok (.goto (-91), 3) := by decide +kernel
theorem d_M_helps_162 : decode prog_11_method_20_code 162 = .ok (.iinc 3 1, 3) := by decide +kernel
theorem d_M_helps_165 : decode prog_11_method_20_code 165 = .ok (.goto (-156), 3) := by decide +kernel
theorem d_M_helps_168 : decode prog_11_method_20_code 168 = .ok (.iload_n 2, 1) := by decide +kernel
theorem d_M_helps_169 : decode prog_11_method_20_code 169 = .ok (.ireturn, 1) := by decide +kernel
theorem d_M_isGlobal_0 : decode prog_11_method_16_code 0 = .ok (.aload_n 0, 1) := by decide +kernel
theorem d_M_isGlobal_1 : decode prog_11_method_16_code 1 = .ok (.getfield 50, 3) := by decide +kernel
theorem d_M_isGlobal_4 : decode prog_11_method_16_code 4 = .ok (.iload_n 1, 1) := by decide +kernel
theorem d_M_isGlobal_5 : decode prog_11_method_16_code 5 = .ok (.iaload, 1) := by decide +kernel
theorem d_M_isGlobal_6 : decode prog_11_method_16_code 6 = .ok (.ifCond .lt 17, 3) := by decide +kernel
theorem d_M_isGlobal_9 : decode prog_11_method_16_code 9 = .ok (.aload_n 0, 1) := by decide +kernel
theorem d_M_isGlobal_10 : decode prog_11_method_16_code 10 = .ok (.getfield 47, 3) := by decide +kernel
theorem d_M_isGlobal_13 : decode prog_11_method_16_code 13 = .ok (.iload_n 1, 1) := by decide +kernel
theorem d_M_isGlobal_14 : decode prog_11_method_16_code 14 = .ok (.iaload, 1) := by decide +kernel
theorem d_M_isGlobal_15 : decode prog_11_method_16_code 15 = .ok (.iconst 1, 1) := by decide +kernel
theorem d_M_isGlobal_16 : decode prog_11_method_16_code 16 = .ok (.if_icmp .ne 7, 3) := by decide +kernel
theorem d_M_isGlobal_19 : decode prog_11_method_16_code 19 = .ok (.iconst 1, 1) := by decide +kernel
theorem d_M_isGlobal_20 : decode prog_11_method_16_code 20 = .ok (.goto 4, 3) := by decide +kernel
theorem d_M_isGlobal_23 : decode prog_11_method_16_code 23 = .ok (.iconst 0, 1) := by decide +kernel
theorem d_M_isGlobal_24 : decode prog_11_method_16_code 24 = .ok (.ireturn, 1) := by decide +kernel
theorem d_M_isWeak_0 : decode prog_11_method_17_code 0 = .ok (.aload_n 0, 1) := by decide +kernel
theorem d_M_isWeak_1 : decode prog_11_method_17_code 1 = .ok (.getfield 50, 3) := by decide +kernel
theorem d_M_isWeak_4 : decode prog_11_method_17_code 4 = .ok (.iload_n 1, 1) := by decide +kernel
theorem d_M_isWeak_5 : decode prog_11_method_17_code 5 = .ok (.iaload, 1) := by decide +kernel
theorem d_M_isWeak_6 : decode prog_11_method_17_code 6 = .ok (.ifCond .lt 17, 3) := by decide +kernel
theorem d_M_isWeak_9 : decode prog_11_method_17_code 9 = .ok (.aload_n 0, 1) := by decide +kernel
theorem d_M_isWeak_10 : decode prog_11_method_17_code 10 = .ok (.getfield 47, 3) := by decide +kernel
theorem d_M_isWeak_13 : decode prog_11_method_17_code 13 = .ok (.iload_n 1, 1) := by decide +kernel
theorem d_M_isWeak_14 : decode prog_11_method_17_code 14 = .ok (.iaload, 1) := by decide +kernel
theorem d_M_isWeak_15 : decode prog_11_method_17_code 15 = .ok (.iconst 1, 1) := by decide +kernel
theorem d_M_isWeak_16 : decode prog_11_method_17_code 16 = .ok (.if_icmp .le 7, 3) := by decide +kernel
theorem d_M_isWeak_19 : decode prog_11_method_17_code 19 = .ok (.iconst 1, 1) := by decide +kernel
theorem d_M_isWeak_20 : decode prog_11_method_17_code 20 = .ok (.goto 4, 3) := by decide +kernel
theorem d_M_isWeak_23 : decode prog_11_method_17_code 23 = .ok (.iconst 0, 1) := by decide +kernel
theorem d_M_isWeak_24 : decode prog_11_method_17_code 24 = .ok (.ireturn, 1) := by decide +kernel
theorem d_M_meant_0 : decode prog_11_method_18_code 0 = .ok (.iconst (-1), 1) := by decide +kernel
theorem d_M_meant_1 : decode prog_11_method_18_code 1 = .ok (.istore 4, 2) := by decide +kernel
theorem d_M_meant_3 : decode prog_11_method_18_code 3 = .ok (.iconst 0, 1) := by decide +kernel
theorem d_M_meant_4 : decode prog_11_method_18_code 4 = .ok (.istore 5, 2) := by decide +kernel
theorem d_M_meant_6 : decode prog_11_method_18_code 6 = .ok (.iload 5, 2) := by decide +kernel
theorem d_M_meant_8 : decode prog_11_method_18_code 8 = .ok (.aload_n 0, 1) := by decide +kernel
theorem d_M_meant_9 : decode prog_11_method_18_code 9 = .ok (.getfield 129, 3) := by decide +kernel
theorem d_M_meant_12 : decode prog_11_method_18_code 12 = .ok (.if_icmp .ge 85, 3) := by decide +kernel
theorem d_M_meant_15 : decode prog_11_method_18_code 15 = .ok (.aload_n 0, 1) := by decide +kernel
theorem d_M_meant_16 : decode prog_11_method_18_code 16 = .ok (.getfield 16, 3) := by decide +kernel
theorem d_M_meant_19 : decode prog_11_method_18_code 19 = .ok (.aload_n 0, 1) := by decide +kernel
theorem d_M_meant_20 : decode prog_11_method_18_code 20 = .ok (.getfield 44, 3) := by decide +kernel
theorem d_M_meant_23 : decode prog_11_method_18_code 23 = .ok (.iload 5, 2) := by decide +kernel
theorem d_M_meant_25 : decode prog_11_method_18_code 25 = .ok (.iaload, 1) := by decide +kernel
theorem d_M_meant_26 : decode prog_11_method_18_code 26 = .ok (.baload, 1) := by decide +kernel
theorem d_M_meant_27 : decode prog_11_method_18_code 27 = .ok (.ifCond .eq 64, 3) := by decide +kernel
theorem d_M_meant_30 : decode prog_11_method_18_code 30 = .ok (.aload_n 0, 1) := by decide +kernel
theorem d_M_meant_31 : decode prog_11_method_18_code 31 = .ok (.getfield 41, 3) := by decide +kernel
theorem d_M_meant_34 : decode prog_11_method_18_code 34 = .ok (.iload 5, 2) := by decide +kernel
theorem d_M_meant_36 : decode prog_11_method_18_code 36 = .ok (.iaload, 1) := by decide +kernel
theorem d_M_meant_37 : decode prog_11_method_18_code 37 = .ok (.iload_n 3, 1) := by decide +kernel
theorem d_M_meant_38 : decode prog_11_method_18_code 38 = .ok (.if_icmp .ne 53, 3) := by decide +kernel
theorem d_M_meant_41 : decode prog_11_method_18_code 41 = .ok (.aload_n 0, 1) := by decide +kernel
theorem d_M_meant_42 : decode prog_11_method_18_code 42 = .ok (.getfield 37, 3) := by decide +kernel
theorem d_M_meant_45 : decode prog_11_method_18_code 45 = .ok (.iload 5, 2) := by decide +kernel
theorem d_M_meant_47 : decode prog_11_method_18_code 47 = .ok (.laload, 1) := by decide +kernel
theorem d_M_meant_48 : decode prog_11_method_18_code 48 = .ok (.lload_n 1, 1) := by decide +kernel
theorem d_M_meant_49 : decode prog_11_method_18_code 49 = .ok (.lcmp, 1) := by decide +kernel
theorem d_M_meant_50 : decode prog_11_method_18_code 50 = .ok (.ifCond .eq 6, 3) := by decide +kernel
theorem d_M_meant_53 : decode prog_11_method_18_code 53 = .ok (.goto 38, 3) := by decide +kernel
theorem d_M_meant_56 : decode prog_11_method_18_code 56 = .ok (.aload_n 0, 1) := by decide +kernel
theorem d_M_meant_57 : decode prog_11_method_18_code 57 = .ok (.iload 5, 2) := by decide +kernel
theorem d_M_meant_59 : decode prog_11_method_18_code 59 = .ok (.invokevirtual 165, 3) := by decide +kernel
theorem d_M_meant_62 : decode prog_11_method_18_code 62 = .ok (.ifCond .eq 6, 3) := by decide +kernel
theorem d_M_meant_65 : decode prog_11_method_18_code 65 = .ok (.iload 5, 2) := by decide +kernel
theorem d_M_meant_67 : decode prog_11_method_18_code 67 = .ok (.ireturn, 1) := by decide +kernel
theorem d_M_meant_68 : decode prog_11_method_18_code 68 = .ok (.aload_n 0, 1) := by decide +kernel
theorem d_M_meant_69 : decode prog_11_method_18_code 69 = .ok (.iload 5, 2) := by decide +kernel
theorem d_M_meant_71 : decode prog_11_method_18_code 71 = .ok (.invokevirtual 168, 3) := by decide +kernel
theorem d_M_meant_74 : decode prog_11_method_18_code 74 = .ok (.ifCond .eq 13, 3) := by decide +kernel
theorem d_M_meant_77 : decode prog_11_method_18_code 77 = .ok (.iload 4, 2) := by decide +kernel
theorem d_M_meant_79 : decode prog_11_method_18_code 79 = .ok (.ifCond .ge 8, 3) := by decide +kernel
theorem d_M_meant_82 : decode prog_11_method_18_code 82 = .ok (.iload 5, 2) := by decide +kernel
theorem d_M_meant_84 : decode prog_11_method_18_code 84 = .ok (.goto 5, 3) := by decide +kernel
theorem d_M_meant_87 : decode prog_11_method_18_code 87 = .ok (.iload 4, 2) := by decide +kernel
theorem d_M_meant_89 : decode prog_11_method_18_code 89 = .ok (.istore 4, 2) := by decide +kernel
theorem d_M_meant_91 : decode prog_11_method_18_code 91 = .ok (.iinc 5 1, 3) := by decide +kernel
theorem d_M_meant_94 : decode prog_11_method_18_code 94 = .ok (.goto (-88), 3) := by decide +kernel
theorem d_M_meant_97 : decode prog_11_method_18_code 97 = .ok (.iload 4, 2) := by decide +kernel
theorem d_M_meant_99 : decode prog_11_method_18_code 99 = .ok (.ireturn, 1) := by decide +kernel
theorem d_M_fail_0 : decode prog_11_method_22_code 0 = .ok (.aload_n 0, 1) := by decide +kernel
theorem d_M_fail_1 : decode prog_11_method_22_code 1 = .ok (.getfield 178, 3) := by decide +kernel
theorem d_M_fail_4 : decode prog_11_method_22_code 4 = .ok (.ifCond .eq 4, 3) := by decide +kernel
theorem d_M_fail_7 : decode prog_11_method_22_code 7 = .ok (.return_, 1) := by decide +kernel
theorem d_M_fail_8 : decode prog_11_method_22_code 8 = .ok (.aload_n 0, 1) := by decide +kernel
theorem d_M_fail_9 : decode prog_11_method_22_code 9 = .ok (.iload_n 1, 1) := by decide +kernel
theorem d_M_fail_10 : decode prog_11_method_22_code 10 = .ok (.putfield 178, 3) := by decide +kernel
theorem d_M_fail_13 : decode prog_11_method_22_code 13 = .ok (.aload_n 0, 1) := by decide +kernel
theorem d_M_fail_14 : decode prog_11_method_22_code 14 = .ok (.iload_n 2, 1) := by decide +kernel
theorem d_M_fail_15 : decode prog_11_method_22_code 15 = .ok (.putfield 95, 3) := by decide +kernel
theorem d_M_fail_18 : decode prog_11_method_22_code 18 = .ok (.aload_n 0, 1) := by decide +kernel
theorem d_M_fail_19 : decode prog_11_method_22_code 19 = .ok (.iload_n 3, 1) := by decide +kernel
theorem d_M_fail_20 : decode prog_11_method_22_code 20 = .ok (.putfield 181, 3) := by decide +kernel
theorem d_M_fail_23 : decode prog_11_method_22_code 23 = .ok (.return_, 1) := by decide +kernel
theorem d_M_findTwice_0 : decode prog_11_method_23_code 0 = .ok (.bipush 32, 2) := by decide +kernel
theorem d_M_findTwice_2 : decode prog_11_method_23_code 2 = .ok (.istore_n 1, 1) := by decide +kernel
theorem d_M_findTwice_3 : decode prog_11_method_23_code 3 = .ok (.iconst 0, 1) := by decide +kernel
theorem d_M_findTwice_4 : decode prog_11_method_23_code 4 = .ok (.istore_n 2, 1) := by decide +kernel
theorem d_M_findTwice_5 : decode prog_11_method_23_code 5 = .ok (.iconst 0, 1) := by decide +kernel
theorem d_M_findTwice_6 : decode prog_11_method_23_code 6 = .ok (.istore_n 3, 1) := by decide +kernel
theorem d_M_findTwice_7 : decode prog_11_method_23_code 7 = .ok (.iload_n 3, 1) := by decide +kernel
theorem d_M_findTwice_8 : decode prog_11_method_23_code 8 = .ok (.aload_n 0, 1) := by decide +kernel
theorem d_M_findTwice_9 : decode prog_11_method_23_code 9 = .ok (.getfield 129, 3) := by decide +kernel
theorem d_M_findTwice_12 : decode prog_11_method_23_code 12 = .ok (.if_icmp .ge 98, 3) := by decide +kernel
theorem d_M_findTwice_15 : decode prog_11_method_23_code 15 = .ok (.aload_n 0, 1) := by decide +kernel
theorem d_M_findTwice_16 : decode prog_11_method_23_code 16 = .ok (.getfield 16, 3) := by decide +kernel
theorem d_M_findTwice_19 : decode prog_11_method_23_code 19 = .ok (.aload_n 0, 1) := by decide +kernel
theorem d_M_findTwice_20 : decode prog_11_method_23_code 20 = .ok (.getfield 44, 3) := by decide +kernel
theorem d_M_findTwice_23 : decode prog_11_method_23_code 23 = .ok (.iload_n 3, 1) := by decide +kernel
theorem d_M_findTwice_24 : decode prog_11_method_23_code 24 = .ok (.iaload, 1) := by decide +kernel
theorem d_M_findTwice_25 : decode prog_11_method_23_code 25 = .ok (.baload, 1) := by decide +kernel
theorem d_M_findTwice_26 : decode prog_11_method_23_code 26 = .ok (.ifCond .eq 78, 3) := by decide +kernel
theorem d_M_findTwice_29 : decode prog_11_method_23_code 29 = .ok (.aload_n 0, 1) := by decide +kernel
theorem d_M_findTwice_30 : decode prog_11_method_23_code 30 = .ok (.iload_n 3, 1) := by decide +kernel
theorem d_M_findTwice_31 : decode prog_11_method_23_code 31 = .ok (.invokevirtual 165, 3) := by decide +kernel
theorem d_M_findTwice_34 : decode prog_11_method_23_code 34 = .ok (.ifCond .eq 70, 3) := by decide +kernel
theorem d_M_findTwice_37 : decode prog_11_method_23_code 37 = .ok (.aload_n 0, 1) := by decide +kernel
theorem d_M_findTwice_38 : decode prog_11_method_23_code 38 = .ok (.aload_n 0, 1) := by decide +kernel
theorem d_M_findTwice_39 : decode prog_11_method_23_code 39 = .ok (.getfield 37, 3) := by decide +kernel
theorem d_M_findTwice_42 : decode prog_11_method_23_code 42 = .ok (.iload_n 3, 1) := by decide +kernel
theorem d_M_findTwice_43 : decode prog_11_method_23_code 43 = .ok (.laload, 1) := by decide +kernel
theorem d_M_findTwice_44 : decode prog_11_method_23_code 44 = .ok (.aload_n 0, 1) := by decide +kernel
theorem d_M_findTwice_45 : decode prog_11_method_23_code 45 = .ok (.getfield 41, 3) := by decide +kernel
theorem d_M_findTwice_48 : decode prog_11_method_23_code 48 = .ok (.iload_n 3, 1) := by decide +kernel
theorem d_M_findTwice_49 : decode prog_11_method_23_code 49 = .ok (.iaload, 1) := by decide +kernel
theorem d_M_findTwice_50 : decode prog_11_method_23_code 50 = .ok (.invokevirtual 171, 3) := by decide +kernel
theorem d_M_findTwice_53 : decode prog_11_method_23_code 53 = .ok (.iload_n 3, 1) := by decide +kernel
theorem d_M_findTwice_54 : decode prog_11_method_23_code 54 = .ok (.if_icmp .ne 6, 3) := by decide +kernel
theorem d_M_findTwice_57 : decode prog_11_method_23_code 57 = .ok (.goto 47, 3) := by decide +kernel
theorem d_M_findTwice_60 : decode prog_11_method_23_code 60 = .ok (.aload_n 0, 1) := by decide +kernel
theorem d_M_findTwice_61 : decode prog_11_method_23_code 61 = .ok (.getfield 44, 3) := by decide +kernel
theorem d_M_findTwice_64 : decode prog_11_method_23_code 64 = .ok (.iload_n 3, 1) := by decide +kernel
theorem d_M_findTwice_65 : decode prog_11_method_23_code 65 = .ok (.iaload, 1) := by decide +kernel
theorem d_M_findTwice_66 : decode prog_11_method_23_code 66 = .ok (.iload_n 1, 1) := by decide +kernel
theorem d_M_findTwice_67 : decode prog_11_method_23_code 67 = .ok (.if_icmp .lt 23, 3) := by decide +kernel
theorem d_M_findTwice_70 : decode prog_11_method_23_code 70 = .ok (.aload_n 0, 1) := by decide +kernel
theorem d_M_findTwice_71 : decode prog_11_method_23_code 71 = .ok (.getfield 44, 3) := by decide +kernel
theorem d_M_findTwice_74 : decode prog_11_method_23_code 74 = .ok (.iload_n 3, 1) := by decide +kernel
theorem d_M_findTwice_75 : decode prog_11_method_23_code 75 = .ok (.iaload, 1) := by decide +kernel
theorem d_M_findTwice_76 : decode prog_11_method_23_code 76 = .ok (.iload_n 1, 1) := by decide +kernel
theorem d_M_findTwice_77 : decode prog_11_method_23_code 77 = .ok (.if_icmp .ne 27, 3) := by decide +kernel
theorem d_M_findTwice_80 : decode prog_11_method_23_code 80 = .ok (.aload_n 0, 1) := by decide +kernel
theorem d_M_findTwice_81 : decode prog_11_method_23_code 81 = .ok (.getfield 56, 3) := by decide +kernel
theorem d_M_findTwice_84 : decode prog_11_method_23_code 84 = .ok (.iload_n 3, 1) := by decide +kernel
theorem d_M_findTwice_85 : decode prog_11_method_23_code 85 = .ok (.iaload, 1) := by decide +kernel
theorem d_M_findTwice_86 : decode prog_11_method_23_code 86 = .ok (.iload_n 2, 1) := by decide +kernel
theorem d_M_findTwice_87 : decode prog_11_method_23_code 87 = .ok (.if_icmp .ge 17, 3) := by decide +kernel
theorem d_M_findTwice_90 : decode prog_11_method_23_code 90 = .ok (.aload_n 0, 1) := by decide +kernel
theorem d_M_findTwice_91 : decode prog_11_method_23_code 91 = .ok (.getfield 44, 3) := by decide +kernel
theorem d_M_findTwice_94 : decode prog_11_method_23_code 94 = .ok (.iload_n 3, 1) := by decide +kernel
theorem d_M_findTwice_95 : decode prog_11_method_23_code 95 = .ok (.iaload, 1) := by decide +kernel
theorem d_M_findTwice_96 : decode prog_11_method_23_code 96 = .ok (.istore_n 1, 1) := by decide +kernel
theorem d_M_findTwice_97 : decode prog_11_method_23_code 97 = .ok (.aload_n 0, 1) := by decide +kernel
theorem d_M_findTwice_98 : decode prog_11_method_23_code 98 = .ok (.getfield 56, 3) := by decide +kernel
theorem d_M_findTwice_101 : decode prog_11_method_23_code 101 = .ok (.iload_n 3, 1) := by decide +kernel
theorem d_M_findTwice_102 : decode prog_11_method_23_code 102 = .ok (.iaload, 1) := by decide +kernel
theorem d_M_findTwice_103 : decode prog_11_method_23_code 103 = .ok (.istore_n 2, 1) := by decide +kernel
theorem d_M_findTwice_104 : decode prog_11_method_23_code 104 = .ok (.iinc 3 1, 3) := by decide +kernel
theorem d_M_findTwice_107 : decode prog_11_method_23_code 107 = .ok (.goto (-100), 3) := by decide +kernel
theorem d_M_findTwice_110 : decode prog_11_method_23_code 110 = .ok (.iload_n 1, 1) := by decide +kernel
theorem d_M_findTwice_111 : decode prog_11_method_23_code 111 = .ok (.bipush 32, 2) := by decide +kernel
theorem d_M_findTwice_113 : decode prog_11_method_23_code 113 = .ok (.if_icmp .ge 10, 3) := by decide +kernel
theorem d_M_findTwice_116 : decode prog_11_method_23_code 116 = .ok (.aload_n 0, 1) := by decide +kernel
theorem d_M_findTwice_117 : decode prog_11_method_23_code 117 = .ok (.iconst 2, 1) := by decide +kernel
theorem d_M_findTwice_118 : decode prog_11_method_23_code 118 = .ok (.iload_n 1, 1) := by decide +kernel
theorem d_M_findTwice_119 : decode prog_11_method_23_code 119 = .ok (.iload_n 2, 1) := by decide +kernel
theorem d_M_findTwice_120 : decode prog_11_method_23_code 120 = .ok (.invokevirtual 184, 3) := by decide +kernel
theorem d_M_findTwice_123 : decode prog_11_method_23_code 123 = .ok (.return_, 1) := by decide +kernel
theorem d_M_give_0 : decode prog_11_method_3_code 0 = .ok (.aload_n 0, 1) := by decide +kernel
theorem d_M_give_1 : decode prog_11_method_3_code 1 = .ok (.iload_n 1, 1) := by decide +kernel
theorem d_M_give_2 : decode prog_11_method_3_code 2 = .ok (.putfield 123, 3) := by decide +kernel
theorem d_M_give_5 : decode prog_11_method_3_code 5 = .ok (.iload_n 2, 1) := by decide +kernel
theorem d_M_give_6 : decode prog_11_method_3_code 6 = .ok (.ireturn, 1) := by decide +kernel
theorem d_M_findNeeded_0 : decode prog_11_method_24_code 0 = .ok (.iconst 0, 1) := by decide +kernel
theorem d_M_findNeeded_1 : decode prog_11_method_24_code 1 = .ok (.istore_n 2, 1) := by decide +kernel
theorem d_M_findNeeded_2 : decode prog_11_method_24_code 2 = .ok (.iload_n 2, 1) := by decide +kernel
theorem d_M_findNeeded_3 : decode prog_11_method_24_code 3 = .ok (.sipush 128, 3) := by decide +kernel
theorem d_M_findNeeded_6 : decode prog_11_method_24_code 6 = .ok (.if_icmp .ge 50, 3) := by decide +kernel
theorem d_M_findNeeded_9 : decode prog_11_method_24_code 9 = .ok (.aload_n 0, 1) := by decide +kernel
theorem d_M_findNeeded_10 : decode prog_11_method_24_code 10 = .ok (.getfield 19, 3) := by decide +kernel
theorem d_M_findNeeded_13 : decode prog_11_method_24_code 13 = .ok (.iload_n 2, 1) := by decide +kernel
theorem d_M_findNeeded_14 : decode prog_11_method_24_code 14 = .ok (.iload_n 2, 1) := by decide +kernel
theorem d_M_findNeeded_15 : decode prog_11_method_24_code 15 = .ok (.iconst 4, 1) := by decide +kernel
theorem d_M_findNeeded_16 : decode prog_11_method_24_code 16 = .ok (.aload_n 0, 1) := by decide +kernel
theorem d_M_findNeeded_17 : decode prog_11_method_24_code 17 = .ok (.getfield 126, 3) := by decide +kernel
theorem d_M_findNeeded_20 : decode prog_11_method_24_code 20 = .ok (.imul, 1) := by decide +kernel
theorem d_M_findNeeded_21 : decode prog_11_method_24_code 21 = .ok (.if_icmp .ge 27, 3) := by decide +kernel
theorem d_M_findNeeded_24 : decode prog_11_method_24_code 24 = .ok (.aload_n 0, 1) := by decide +kernel
theorem d_M_findNeeded_25 : decode prog_11_method_24_code 25 = .ok (.getfield 16, 3) := by decide +kernel
theorem d_M_findNeeded_28 : decode prog_11_method_24_code 28 = .ok (.iload_n 2, 1) := by decide +kernel
theorem d_M_findNeeded_29 : decode prog_11_method_24_code 29 = .ok (.iconst 4, 1) := by decide +kernel
theorem d_M_findNeeded_30 : decode prog_11_method_24_code 30 = .ok (.idiv, 1) := by decide +kernel
theorem d_M_findNeeded_31 : decode prog_11_method_24_code 31 = .ok (.baload, 1) := by decide +kernel
theorem d_M_findNeeded_32 : decode prog_11_method_24_code 32 = .ok (.ifCond .eq 16, 3) := by decide +kernel
theorem d_M_findNeeded_35 : decode prog_11_method_24_code 35 = .ok (.aload_n 0, 1) := by decide +kernel
theorem d_M_findNeeded_36 : decode prog_11_method_24_code 36 = .ok (.getfield 13, 3) := by decide +kernel
theorem d_M_findNeeded_39 : decode prog_11_method_24_code 39 = .ok (.iload_n 2, 1) := by decide +kernel
theorem d_M_findNeeded_40 : decode prog_11_method_24_code 40 = .ok (.baload, 1) := by decide +kernel
theorem d_M_findNeeded_41 : decode prog_11_method_24_code 41 = .ok (.ifCond .eq 7, 3) := by decide +kernel
theorem d_M_findNeeded_44 : decode prog_11_method_24_code 44 = .ok (.iconst 1, 1) := by decide +kernel
theorem d_M_findNeeded_45 : decode prog_11_method_24_code 45 = .ok (.goto 4, 3) := by decide +kernel
theorem d_M_findNeeded_48 : decode prog_11_method_24_code 48 = .ok (.iconst 0, 1) := by decide +kernel
theorem d_M_findNeeded_49 : decode prog_11_method_24_code 49 = .ok (.bastore, 1) := by decide +kernel
theorem d_M_findNeeded_50 : decode prog_11_method_24_code 50 = .ok (.iinc 2 1, 3) := by decide +kernel
theorem d_M_findNeeded_53 : decode prog_11_method_24_code 53 = .ok (.goto (-51), 3) := by decide +kernel
theorem d_M_findNeeded_56 : decode prog_11_method_24_code 56 = .ok (.aload_n 0, 1) := by decide +kernel
theorem d_M_findNeeded_57 : decode prog_11_method_24_code 57 = .ok (.getfield 19, 3) := by decide +kernel
theorem d_M_findNeeded_60 : decode prog_11_method_24_code 60 = .ok (.iconst 4, 1) := by decide +kernel
theorem d_M_findNeeded_61 : decode prog_11_method_24_code 61 = .ok (.aload_n 0, 1) := by decide +kernel
theorem d_M_findNeeded_62 : decode prog_11_method_24_code 62 = .ok (.getfield 44, 3) := by decide +kernel
theorem d_M_findNeeded_65 : decode prog_11_method_24_code 65 = .ok (.iload_n 1, 1) := by decide +kernel
theorem d_M_findNeeded_66 : decode prog_11_method_24_code 66 = .ok (.iaload, 1) := by decide +kernel
theorem d_M_findNeeded_67 : decode prog_11_method_24_code 67 = .ok (.imul, 1) := by decide +kernel
theorem d_M_findNeeded_68 : decode prog_11_method_24_code 68 = .ok (.aload_n 0, 1) := by decide +kernel
theorem d_M_findNeeded_69 : decode prog_11_method_24_code 69 = .ok (.getfield 50, 3) := by decide +kernel
theorem d_M_findNeeded_72 : decode prog_11_method_24_code 72 = .ok (.iload_n 1, 1) := by decide +kernel
theorem d_M_findNeeded_73 : decode prog_11_method_24_code 73 = .ok (.iaload, 1) := by decide +kernel
theorem d_M_findNeeded_74 : decode prog_11_method_24_code 74 = .ok (.iadd, 1) := by decide +kernel
theorem d_M_findNeeded_75 : decode prog_11_method_24_code 75 = .ok (.iconst 1, 1) := by decide +kernel
theorem d_M_findNeeded_76 : decode prog_11_method_24_code 76 = .ok (.bastore, 1) := by decide +kernel
theorem d_M_findNeeded_77 : decode prog_11_method_24_code 77 = .ok (.iconst 0, 1) := by decide +kernel
theorem d_M_findNeeded_78 : decode prog_11_method_24_code 78 = .ok (.istore_n 2, 1) := by decide +kernel
theorem d_M_findNeeded_79 : decode prog_11_method_24_code 79 = .ok (.iload_n 2, 1) := by decide +kernel
theorem d_M_findNeeded_80 : decode prog_11_method_24_code 80 = .ok (.sipush 129, 3) := by decide +kernel
theorem d_M_findNeeded_83 : decode prog_11_method_24_code 83 = .ok (.if_icmp .ge 187, 3) := by decide +kernel
theorem d_M_findNeeded_86 : decode prog_11_method_24_code 86 = .ok (.iconst 0, 1) := by decide +kernel
theorem d_M_findNeeded_87 : decode prog_11_method_24_code 87 = .ok (.istore_n 3, 1) := by decide +kernel
theorem d_M_findNeeded_88 : decode prog_11_method_24_code 88 = .ok (.iconst 0, 1) := by decide +kernel
theorem d_M_findNeeded_89 : decode prog_11_method_24_code 89 = .ok (.istore 4, 2) := by decide +kernel
theorem d_M_findNeeded_91 : decode prog_11_method_24_code 91 = .ok (.iload 4, 2) := by decide +kernel
theorem d_M_findNeeded_93 : decode prog_11_method_24_code 93 = .ok (.aload_n 0, 1) := by decide +kernel
theorem d_M_findNeeded_94 : decode prog_11_method_24_code 94 = .ok (.getfield 132, 3) := by decide +kernel
theorem d_M_findNeeded_97 : decode prog_11_method_24_code 97 = .ok (.if_icmp .ge 162, 3) := by decide +kernel
theorem d_M_findNeeded_100 : decode prog_11_method_24_code 100 = .ok (.aload_n 0, 1) := by decide +kernel
theorem d_M_findNeeded_101 : decode prog_11_method_24_code 101 = .ok (.getfield 62, 3) := by decide +kernel
theorem d_M_findNeeded_104 : decode prog_11_method_24_code 104 = .ok (.iload 4, 2) := by decide +kernel
theorem d_M_findNeeded_106 : decode prog_11_method_24_code 106 = .ok (.iaload, 1) := by decide +kernel
theorem d_M_findNeeded_107 : decode prog_11_method_24_code 107 = .ok (.istore 5, 2) := by decide +kernel
theorem d_M_findNeeded_109 : decode prog_11_method_24_code 109 = .ok (.aload_n 0, 1) := by decide +kernel
theorem d_M_findNeeded_110 : decode prog_11_method_24_code 110 = .ok (.getfield 19, 3) := by decide +kernel
theorem d_M_findNeeded_113 : decode prog_11_method_24_code 113 = .ok (.iconst 4, 1) := by decide +kernel
theorem d_M_findNeeded_114 : decode prog_11_method_24_code 114 = .ok (.iload 5, 2) := by decide +kernel
theorem d_M_findNeeded_116 : decode prog_11_method_24_code 116 = .ok (.imul, 1) := by decide +kernel
theorem d_M_findNeeded_117 : decode prog_11_method_24_code 117 = .ok (.aload_n 0, 1) := by decide +kernel
theorem d_M_findNeeded_118 : decode prog_11_method_24_code 118 = .ok (.getfield 65, 3) := by decide +kernel
theorem d_M_findNeeded_121 : decode prog_11_method_24_code 121 = .ok (.iload 4, 2) := by decide +kernel
theorem d_M_findNeeded_123 : decode prog_11_method_24_code 123 = .ok (.iaload, 1) := by decide +kernel
theorem d_M_findNeeded_124 : decode prog_11_method_24_code 124 = .ok (.iadd, 1) := by decide +kernel
theorem d_M_findNeeded_125 : decode prog_11_method_24_code 125 = .ok (.baload, 1) := by decide +kernel
theorem d_M_findNeeded_126 : decode prog_11_method_24_code 126 = .ok (.ifCond .eq 127, 3) := by decide +kernel
theorem d_M_findNeeded_129 : decode prog_11_method_24_code 129 = .ok (.aload_n 0, 1) := by decide +kernel
theorem d_M_findNeeded_130 : decode prog_11_method_24_code 130 = .ok (.getfield 77, 3) := by decide +kernel
theorem d_M_findNeeded_133 : decode prog_11_method_24_code 133 = .ok (.iload 4, 2) := by decide +kernel
theorem d_M_findNeeded_135 : decode prog_11_method_24_code 135 = .ok (.iaload, 1) := by decide +kernel
theorem d_M_findNeeded_136 : decode prog_11_method_24_code 136 = .ok (.iconst (-1), 1) := by decide +kernel
theorem d_M_findNeeded_137 : decode prog_11_method_24_code 137 = .ok (.if_icmp .ne 6, 3) := by decide +kernel
theorem d_M_findNeeded_140 : decode prog_11_method_24_code 140 = .ok (.goto 113, 3) := by decide +kernel
theorem d_M_findNeeded_143 : decode prog_11_method_24_code 143 = .ok (.aload_n 0, 1) := by decide +kernel
theorem d_M_findNeeded_144 : decode prog_11_method_24_code 144 = .ok (.getfield 77, 3) := by decide +kernel
theorem d_M_findNeeded_147 : decode prog_11_method_24_code 147 = .ok (.iload 4, 2) := by decide +kernel
theorem d_M_findNeeded_149 : decode prog_11_method_24_code 149 = .ok (.iaload, 1) := by decide +kernel
theorem d_M_findNeeded_150 : decode prog_11_method_24_code 150 = .ok (.ifCond .ge 7, 3) := by decide +kernel
theorem d_M_findNeeded_153 : decode prog_11_method_24_code 153 = .ok (.iconst (-1), 1) := by decide +kernel
theorem d_M_findNeeded_154 : decode prog_11_method_24_code 154 = .ok (.goto 14, 3) := by decide +kernel
theorem d_M_findNeeded_157 : decode prog_11_method_24_code 157 = .ok (.aload_n 0, 1) := by decide +kernel
theorem d_M_findNeeded_158 : decode prog_11_method_24_code 158 = .ok (.aload_n 0, 1) := by decide +kernel
theorem d_M_findNeeded_159 : decode prog_11_method_24_code 159 = .ok (.getfield 77, 3) := by decide +kernel
theorem d_M_findNeeded_162 : decode prog_11_method_24_code 162 = .ok (.iload 4, 2) := by decide +kernel
theorem d_M_findNeeded_164 : decode prog_11_method_24_code 164 = .ok (.iaload, 1) := by decide +kernel
theorem d_M_findNeeded_165 : decode prog_11_method_24_code 165 = .ok (.invokevirtual 188, 3) := by decide +kernel
theorem d_M_findNeeded_168 : decode prog_11_method_24_code 168 = .ok (.istore 6, 2) := by decide +kernel
theorem d_M_findNeeded_170 : decode prog_11_method_24_code 170 = .ok (.aload_n 0, 1) := by decide +kernel
theorem d_M_findNeeded_171 : decode prog_11_method_24_code 171 = .ok (.getfield 77, 3) := by decide +kernel
theorem d_M_findNeeded_174 : decode prog_11_method_24_code 174 = .ok (.iload 4, 2) := by decide +kernel
theorem d_M_findNeeded_176 : decode prog_11_method_24_code 176 = .ok (.iaload, 1) := by decide +kernel
theorem d_M_findNeeded_177 : decode prog_11_method_24_code 177 = .ok (.ifCond .ge 20, 3) := by decide +kernel
theorem d_M_findNeeded_180 : decode prog_11_method_24_code 180 = .ok (.iconst 4, 1) := by decide +kernel
theorem d_M_findNeeded_181 : decode prog_11_method_24_code 181 = .ok (.iload 5, 2) := by decide +kernel
theorem d_M_findNeeded_183 : decode prog_11_method_24_code 183 = .ok (.imul, 1) := by decide +kernel
theorem d_M_findNeeded_184 : decode prog_11_method_24_code 184 = .ok (.iconst 2, 1) := by decide +kernel
theorem d_M_findNeeded_185 : decode prog_11_method_24_code 185 = .ok (.isub, 1) := by decide +kernel
theorem d_M_findNeeded_186 : decode prog_11_method_24_code 186 = .ok (.aload_n 0, 1) := by decide +kernel
theorem d_M_findNeeded_187 : decode prog_11_method_24_code 187 = .ok (.getfield 77, 3) := by decide +kernel
theorem d_M_findNeeded_190 : decode prog_11_method_24_code 190 = .ok (.iload 4, 2) := by decide +kernel
theorem d_M_findNeeded_192 : decode prog_11_method_24_code 192 = .ok (.iaload, 1) := by decide +kernel
theorem d_M_findNeeded_193 : decode prog_11_method_24_code 193 = .ok (.isub, 1) := by decide +kernel
theorem d_M_findNeeded_194 : decode prog_11_method_24_code 194 = .ok (.goto 29, 3) := by decide +kernel
theorem d_M_findNeeded_197 : decode prog_11_method_24_code 197 = .ok (.iload 6, 2) := by decide +kernel
theorem d_M_findNeeded_199 : decode prog_11_method_24_code 199 = .ok (.ifCond .ge 7, 3) := by decide +kernel
theorem d_M_findNeeded_202 : decode prog_11_method_24_code 202 = .ok (.iconst (-1), 1) := by decide +kernel
theorem d_M_findNeeded_203 : decode prog_11_method_24_code 203 = .ok (.goto 20, 3) := by decide +kernel
theorem d_M_findNeeded_206 : decode prog_11_method_24_code 206 = .ok (.iconst 4, 1) := by decide +kernel
theorem d_M_findNeeded_207 : decode prog_11_method_24_code 207 = .ok (.aload_n 0, 1) := by decide +kernel
theorem d_M_findNeeded_208 : decode prog_11_method_24_code 208 = .ok (.getfield 44, 3) := by decide +kernel
theorem d_M_findNeeded_211 : decode prog_11_method_24_code 211 = .ok (.iload 6, 2) := by decide +kernel
theorem d_M_findNeeded_213 : decode prog_11_method_24_code 213 = .ok (.iaload, 1) := by decide +kernel
theorem d_M_findNeeded_214 : decode prog_11_method_24_code 214 = .ok (.imul, 1) := by decide +kernel
theorem d_M_findNeeded_215 : decode prog_11_method_24_code 215 = .ok (.aload_n 0, 1) := by decide +kernel
theorem d_M_findNeeded_216 : decode prog_11_method_24_code 216 = .ok (.getfield 50, 3) := by decide +kernel
theorem d_M_findNeeded_219 : decode prog_11_method_24_code 219 = .ok (.iload 6, 2) := by decide +kernel
theorem d_M_findNeeded_221 : decode prog_11_method_24_code 221 = .ok (.iaload, 1) := by decide +kernel
theorem d_M_findNeeded_222 : decode prog_11_method_24_code 222 = .ok (.iadd, 1) := by decide +kernel
theorem d_M_findNeeded_223 : decode prog_11_method_24_code 223 = .ok (.istore 7, 2) := by decide +kernel
theorem d_M_findNeeded_225 : decode prog_11_method_24_code 225 = .ok (.iload 7, 2) := by decide +kernel
theorem d_M_findNeeded_227 : decode prog_11_method_24_code 227 = .ok (.ifCond .lt 26, 3) := by decide +kernel
theorem d_M_findNeeded_230 : decode prog_11_method_24_code 230 = .ok (.aload_n 0, 1) := by decide +kernel
theorem d_M_findNeeded_231 : decode prog_11_method_24_code 231 = .ok (.getfield 19, 3) := by decide +kernel
theorem d_M_findNeeded_234 : decode prog_11_method_24_code 234 = .ok (.iload 7, 2) := by decide +kernel
theorem d_M_findNeeded_236 : decode prog_11_method_24_code 236 = .ok (.baload, 1) := by decide +kernel
theorem d_M_findNeeded_237 : decode prog_11_method_24_code 237 = .ok (.ifCond .eq 6, 3) := by decide +kernel
theorem d_M_findNeeded_240 : decode prog_11_method_24_code 240 = .ok (.goto 13, 3) := by decide +kernel
theorem d_M_findNeeded_243 : decode prog_11_method_24_code 243 = .ok (.aload_n 0, 1) := by decide +kernel
theorem d_M_findNeeded_244 : decode prog_11_method_24_code 244 = .ok (.getfield 19, 3) := by decide +kernel
theorem d_M_findNeeded_247 : decode prog_11_method_24_code 247 = .ok (.iload 7, 2) := by decide +kernel
theorem d_M_findNeeded_249 : decode prog_11_method_24_code 249 = .ok (.iconst 1, 1) := by decide +kernel
theorem d_M_findNeeded_250 : decode prog_11_method_24_code 250 = .ok (.bastore, 1) := by decide +kernel
theorem d_M_findNeeded_251 : decode prog_11_method_24_code 251 = .ok (.iconst 1, 1) := by decide +kernel
theorem d_M_findNeeded_252 : decode prog_11_method_24_code 252 = .ok (.istore_n 3, 1) := by decide +kernel
theorem d_M_findNeeded_253 : decode prog_11_method_24_code 253 = .ok (.iinc 4 1, 3) := by decide +kernel
theorem d_M_findNeeded_256 : decode prog_11_method_24_code 256 = .ok (.goto (-165), 3) := by decide +kernel
theorem d_M_findNeeded_259 : decode prog_11_method_24_code 259 = .ok (.iload_n 3, 1) := by decide +kernel
theorem d_M_findNeeded_260 : decode prog_11_method_24_code 260 = .ok (.ifCond .ne 4, 3) := by decide +kernel
theorem d_M_findNeeded_263 : decode prog_11_method_24_code 263 = .ok (.return_, 1) := by decide +kernel
theorem d_M_findNeeded_264 : decode prog_11_method_24_code 264 = .ok (.iinc 2 1, 3) := by decide +kernel
theorem d_M_findNeeded_267 : decode prog_11_method_24_code 267 = .ok (.goto (-188), 3) := by decide +kernel
theorem d_M_findNeeded_270 : decode prog_11_method_24_code 270 = .ok (.return_, 1) := by decide +kernel
theorem d_M_standsFor_0 : decode prog_11_method_19_code 0 = .ok (.aload_n 0, 1) := by decide +kernel
theorem d_M_standsFor_1 : decode prog_11_method_19_code 1 = .ok (.getfield 50, 3) := by decide +kernel
theorem d_M_standsFor_4 : decode prog_11_method_19_code 4 = .ok (.iload_n 1, 1) := by decide +kernel
theorem d_M_standsFor_5 : decode prog_11_method_19_code 5 = .ok (.iaload, 1) := by decide +kernel
theorem d_M_standsFor_6 : decode prog_11_method_19_code 6 = .ok (.ifCond .lt 15, 3) := by decide +kernel
theorem d_M_standsFor_9 : decode prog_11_method_19_code 9 = .ok (.aload_n 0, 1) := by decide +kernel
theorem d_M_standsFor_10 : decode prog_11_method_19_code 10 = .ok (.getfield 47, 3) := by decide +kernel
theorem d_M_standsFor_13 : decode prog_11_method_19_code 13 = .ok (.iload_n 1, 1) := by decide +kernel
theorem d_M_standsFor_14 : decode prog_11_method_19_code 14 = .ok (.iaload, 1) := by decide +kernel
theorem d_M_standsFor_15 : decode prog_11_method_19_code 15 = .ok (.iconst 2, 1) := by decide +kernel
theorem d_M_standsFor_16 : decode prog_11_method_19_code 16 = .ok (.if_icmp .ge 5, 3) := by decide +kernel
theorem d_M_standsFor_19 : decode prog_11_method_19_code 19 = .ok (.iload_n 1, 1) := by decide +kernel
theorem d_M_standsFor_20 : decode prog_11_method_19_code 20 = .ok (.ireturn, 1) := by decide +kernel
theorem d_M_standsFor_21 : decode prog_11_method_19_code 21 = .ok (.aload_n 0, 1) := by decide +kernel
theorem d_M_standsFor_22 : decode prog_11_method_19_code 22 = .ok (.aload_n 0, 1) := by decide +kernel
theorem d_M_standsFor_23 : decode prog_11_method_19_code 23 = .ok (.getfield 37, 3) := by decide +kernel
theorem d_M_standsFor_26 : decode prog_11_method_19_code 26 = .ok (.iload_n 1, 1) := by decide +kernel
theorem d_M_standsFor_27 : decode prog_11_method_19_code 27 = .ok (.laload, 1) := by decide +kernel
theorem d_M_standsFor_28 : decode prog_11_method_19_code 28 = .ok (.aload_n 0, 1) := by decide +kernel
theorem d_M_standsFor_29 : decode prog_11_method_19_code 29 = .ok (.getfield 41, 3) := by decide +kernel
theorem d_M_standsFor_32 : decode prog_11_method_19_code 32 = .ok (.iload_n 1, 1) := by decide +kernel
theorem d_M_standsFor_33 : decode prog_11_method_19_code 33 = .ok (.iaload, 1) := by decide +kernel
theorem d_M_standsFor_34 : decode prog_11_method_19_code 34 = .ok (.invokevirtual 171, 3) := by decide +kernel
theorem d_M_standsFor_37 : decode prog_11_method_19_code 37 = .ok (.istore_n 2, 1) := by decide +kernel
theorem d_M_standsFor_38 : decode prog_11_method_19_code 38 = .ok (.iload_n 2, 1) := by decide +kernel
theorem d_M_standsFor_39 : decode prog_11_method_19_code 39 = .ok (.ifCond .lt 7, 3) := by decide +kernel
theorem d_M_standsFor_42 : decode prog_11_method_19_code 42 = .ok (.iload_n 2, 1) := by decide +kernel
theorem d_M_standsFor_43 : decode prog_11_method_19_code 43 = .ok (.goto 19, 3) := by decide +kernel
theorem d_M_standsFor_46 : decode prog_11_method_19_code 46 = .ok (.aload_n 0, 1) := by decide +kernel
theorem d_M_standsFor_47 : decode prog_11_method_19_code 47 = .ok (.getfield 47, 3) := by decide +kernel
theorem d_M_standsFor_50 : decode prog_11_method_19_code 50 = .ok (.iload_n 1, 1) := by decide +kernel
theorem d_M_standsFor_51 : decode prog_11_method_19_code 51 = .ok (.iaload, 1) := by decide +kernel
theorem d_M_standsFor_52 : decode prog_11_method_19_code 52 = .ok (.iconst 1, 1) := by decide +kernel
theorem d_M_standsFor_53 : decode prog_11_method_19_code 53 = .ok (.if_icmp .le 8, 3) := by decide +kernel
theorem d_M_standsFor_56 : decode prog_11_method_19_code 56 = .ok (.bipush (-2), 2) := by decide +kernel
theorem d_M_standsFor_58 : decode prog_11_method_19_code 58 = .ok (.goto 4, 3) := by decide +kernel
theorem d_M_standsFor_61 : decode prog_11_method_19_code 61 = .ok (.iconst (-1), 1) := by decide +kernel
theorem d_M_standsFor_62 : decode prog_11_method_19_code 62 = .ok (.ireturn, 1) := by decide +kernel
theorem d_M_layOut_0 : decode prog_11_method_25_code 0 = .ok (.iconst 0, 1) := by decide +kernel
theorem d_M_layOut_1 : decode prog_11_method_25_code 1 = .ok (.istore_n 1, 1) := by decide +kernel
theorem d_M_layOut_2 : decode prog_11_method_25_code 2 = .ok (.aload_n 0, 1) := by decide +kernel
theorem d_M_layOut_3 : decode prog_11_method_25_code 3 = .ok (.iconst 0, 1) := by decide +kernel
theorem d_M_layOut_4 : decode prog_11_method_25_code 4 = .ok (.putfield 191, 3) := by decide +kernel
theorem d_M_layOut_7 : decode prog_11_method_25_code 7 = .ok (.iconst 0, 1) := by decide +kernel
theorem d_M_layOut_8 : decode prog_11_method_25_code 8 = .ok (.istore_n 2, 1) := by decide +kernel
theorem d_M_layOut_9 : decode prog_11_method_25_code 9 = .ok (.iload_n 2, 1) := by decide +kernel
theorem d_M_layOut_10 : decode prog_11_method_25_code 10 = .ok (.iconst 4, 1) := by decide +kernel
theorem d_M_layOut_11 : decode prog_11_method_25_code 11 = .ok (.if_icmp .ge 172, 3) := by decide +kernel
theorem d_M_layOut_14 : decode prog_11_method_25_code 14 = .ok (.iload_n 2, 1) := by decide +kernel
theorem d_M_layOut_15 : decode prog_11_method_25_code 15 = .ok (.iconst 1, 1) := by decide +kernel
theorem d_M_layOut_16 : decode prog_11_method_25_code 16 = .ok (.if_icmp .eq 8, 3) := by decide +kernel
theorem d_M_layOut_19 : decode prog_11_method_25_code 19 = .ok (.iload_n 2, 1) := by decide +kernel
theorem d_M_layOut_20 : decode prog_11_method_25_code 20 = .ok (.iconst 2, 1) := by decide +kernel
theorem d_M_layOut_21 : decode prog_11_method_25_code 21 = .ok (.if_icmp .ne 13, 3) := by decide +kernel
theorem d_M_layOut_24 : decode prog_11_method_25_code 24 = .ok (.iload_n 1, 1) := by decide +kernel
theorem d_M_layOut_25 : decode prog_11_method_25_code 25 = .ok (.sipush 4095, 3) := by decide +kernel
theorem d_M_layOut_28 : decode prog_11_method_25_code 28 = .ok (.iadd, 1) := by decide +kernel
theorem d_M_layOut_29 : decode prog_11_method_25_code 29 = .ok (.sipush (-4096), 3) := by decide +kernel
theorem d_M_layOut_32 : decode prog_11_method_25_code 32 = .ok (.iand, 1) := by decide +kernel
theorem d_M_layOut_33 : decode prog_11_method_25_code 33 = .ok (.istore_n 1, 1) := by decide +kernel
theorem d_M_layOut_34 : decode prog_11_method_25_code 34 = .ok (.iload_n 2, 1) := by decide +kernel
theorem d_M_layOut_35 : decode prog_11_method_25_code 35 = .ok (.iconst 1, 1) := by decide +kernel
theorem d_M_layOut_36 : decode prog_11_method_25_code 36 = .ok (.if_icmp .ne 13, 3) := by decide +kernel
theorem d_M_layOut_39 : decode prog_11_method_25_code 39 = .ok (.aload_n 0, 1) := by decide +kernel
theorem d_M_layOut_40 : decode prog_11_method_25_code 40 = .ok (.getfield 105, 3) := by decide +kernel
theorem d_M_layOut_43 : decode prog_11_method_25_code 43 = .ok (.iconst 1, 1) := by decide +kernel
theorem d_M_layOut_44 : decode prog_11_method_25_code 44 = .ok (.ldc 194, 2) := by decide +kernel
theorem d_M_layOut_46 : decode prog_11_method_25_code 46 = .ok (.iload_n 1, 1) := by decide +kernel
theorem d_M_layOut_47 : decode prog_11_method_25_code 47 = .ok (.iadd, 1) := by decide +kernel
theorem d_M_layOut_48 : decode prog_11_method_25_code 48 = .ok (.iastore, 1) := by decide +kernel
theorem d_M_layOut_49 : decode prog_11_method_25_code 49 = .ok (.iload_n 2, 1) := by decide +kernel
theorem d_M_layOut_50 : decode prog_11_method_25_code 50 = .ok (.iconst 2, 1) := by decide +kernel
theorem d_M_layOut_51 : decode prog_11_method_25_code 51 = .ok (.if_icmp .ne 13, 3) := by decide +kernel
theorem d_M_layOut_54 : decode prog_11_method_25_code 54 = .ok (.aload_n 0, 1) := by decide +kernel
theorem d_M_layOut_55 : decode prog_11_method_25_code 55 = .ok (.getfield 105, 3) := by decide +kernel
theorem d_M_layOut_58 : decode prog_11_method_25_code 58 = .ok (.iconst 3, 1) := by decide +kernel
theorem d_M_layOut_59 : decode prog_11_method_25_code 59 = .ok (.ldc 194, 2) := by decide +kernel
theorem d_M_layOut_61 : decode prog_11_method_25_code 61 = .ok (.iload_n 1, 1) := by decide +kernel
theorem d_M_layOut_62 : decode prog_11_method_25_code 62 = .ok (.iadd, 1) := by decide +kernel
theorem d_M_layOut_63 : decode prog_11_method_25_code 63 = .ok (.iastore, 1) := by decide +kernel
theorem d_M_layOut_64 : decode prog_11_method_25_code 64 = .ok (.iconst 0, 1) := by decide +kernel
theorem d_M_layOut_65 : decode prog_11_method_25_code 65 = .ok (.istore_n 3, 1) := by decide +kernel
theorem d_M_layOut_66 : decode prog_11_method_25_code 66 = .ok (.iload_n 3, 1) := by decide +kernel
theorem d_M_layOut_67 : decode prog_11_method_25_code 67 = .ok (.aload_n 0, 1) := by decide +kernel
theorem d_M_layOut_68 : decode prog_11_method_25_code 68 = .ok (.getfield 126, 3) := by decide +kernel
theorem d_M_layOut_71 : decode prog_11_method_25_code 71 = .ok (.if_icmp .ge 62, 3) := by decide +kernel
theorem d_M_layOut_74 : decode prog_11_method_25_code 74 = .ok (.aload_n 0, 1) := by decide +kernel
theorem d_M_layOut_75 : decode prog_11_method_25_code 75 = .ok (.getfield 19, 3) := by decide +kernel
theorem d_M_layOut_78 : decode prog_11_method_25_code 78 = .ok (.iconst 4, 1) := by decide +kernel
theorem d_M_layOut_79 : decode prog_11_method_25_code 79 = .ok (.iload_n 3, 1) := by decide +kernel
theorem d_M_layOut_80 : decode prog_11_method_25_code 80 = .ok (.imul, 1) := by decide +kernel
theorem d_M_layOut_81 : decode prog_11_method_25_code 81 = .ok (.iload_n 2, 1) := by decide +kernel
theorem d_M_layOut_82 : decode prog_11_method_25_code 82 = .ok (.iadd, 1) := by decide +kernel
theorem d_M_layOut_83 : decode prog_11_method_25_code 83 = .ok (.baload, 1) := by decide +kernel
theorem d_M_layOut_84 : decode prog_11_method_25_code 84 = .ok (.ifCond .ne 6, 3) := by decide +kernel
theorem d_M_layOut_87 : decode prog_11_method_25_code 87 = .ok (.goto 40, 3) := by decide +kernel
theorem d_M_layOut_90 : decode prog_11_method_25_code 90 = .ok (.iload_n 1, 1) := by decide +kernel
theorem d_M_layOut_91 : decode prog_11_method_25_code 91 = .ok (.bipush 15, 2) := by decide +kernel
theorem d_M_layOut_93 : decode prog_11_method_25_code 93 = .ok (.iadd, 1) := by decide +kernel
theorem d_M_layOut_94 : decode prog_11_method_25_code 94 = .ok (.bipush (-16), 2) := by decide +kernel
theorem d_M_layOut_96 : decode prog_11_method_25_code 96 = .ok (.iand, 1) := by decide +kernel
theorem d_M_layOut_97 : decode prog_11_method_25_code 97 = .ok (.istore_n 1, 1) := by decide +kernel
theorem d_M_layOut_98 : decode prog_11_method_25_code 98 = .ok (.aload_n 0, 1) := by decide +kernel
theorem d_M_layOut_99 : decode prog_11_method_25_code 99 = .ok (.getfield 29, 3) := by decide +kernel
theorem d_M_layOut_102 : decode prog_11_method_25_code 102 = .ok (.iconst 4, 1) := by decide +kernel
theorem d_M_layOut_103 : decode prog_11_method_25_code 103 = .ok (.iload_n 3, 1) := by decide +kernel
theorem d_M_layOut_104 : decode prog_11_method_25_code 104 = .ok (.imul, 1) := by decide +kernel
theorem d_M_layOut_105 : decode prog_11_method_25_code 105 = .ok (.iload_n 2, 1) := by decide +kernel
theorem d_M_layOut_106 : decode prog_11_method_25_code 106 = .ok (.iadd, 1) := by decide +kernel
theorem d_M_layOut_107 : decode prog_11_method_25_code 107 = .ok (.iload_n 1, 1) := by decide +kernel
theorem d_M_layOut_108 : decode prog_11_method_25_code 108 = .ok (.iastore, 1) := by decide +kernel
theorem d_M_layOut_109 : decode prog_11_method_25_code 109 = .ok (.iload_n 1, 1) := by decide +kernel
theorem d_M_layOut_110 : decode prog_11_method_25_code 110 = .ok (.aload_n 0, 1) := by decide +kernel
theorem d_M_layOut_111 : decode prog_11_method_25_code 111 = .ok (.getfield 22, 3) := by decide +kernel
theorem d_M_layOut_114 : decode prog_11_method_25_code 114 = .ok (.iconst 4, 1) := by decide +kernel
theorem d_M_layOut_115 : decode prog_11_method_25_code 115 = .ok (.iload_n 3, 1) := by decide +kernel
theorem d_M_layOut_116 : decode prog_11_method_25_code 116 = .ok (.imul, 1) := by decide +kernel
theorem d_M_layOut_117 : decode prog_11_method_25_code 117 = .ok (.iload_n 2, 1) := by decide +kernel
theorem d_M_layOut_118 : decode prog_11_method_25_code 118 = .ok (.iadd, 1) := by decide +kernel
theorem d_M_layOut_119 : decode prog_11_method_25_code 119 = .ok (.iaload, 1) := by decide +kernel
theorem d_M_layOut_120 : decode prog_11_method_25_code 120 = .ok (.iadd, 1) := by decide +kernel
theorem d_M_layOut_121 : decode prog_11_method_25_code 121 = .ok (.istore_n 1, 1) := by decide +kernel
theorem d_M_layOut_122 : decode prog_11_method_25_code 122 = .ok (.aload_n 0, 1) := by decide +kernel
theorem d_M_layOut_123 : decode prog_11_method_25_code 123 = .ok (.iload_n 1, 1) := by decide +kernel
theorem d_M_layOut_124 : decode prog_11_method_25_code 124 = .ok (.putfield 191, 3) := by decide +kernel
theorem d_M_layOut_127 : decode prog_11_method_25_code 127 = .ok (.iinc 3 1, 3) := by decide +kernel
theorem d_M_layOut_130 : decode prog_11_method_25_code 130 = .ok (.goto (-64), 3) := by decide +kernel
theorem d_M_layOut_133 : decode prog_11_method_25_code 133 = .ok (.iload_n 2, 1) := by decide +kernel
theorem d_M_layOut_134 : decode prog_11_method_25_code 134 = .ok (.ifCond .ne 13, 3) := by decide +kernel
theorem d_M_layOut_137 : decode prog_11_method_25_code 137 = .ok (.aload_n 0, 1) := by decide +kernel
theorem d_M_layOut_138 : decode prog_11_method_25_code 138 = .ok (.getfield 105, 3) := by decide +kernel
theorem d_M_layOut_141 : decode prog_11_method_25_code 141 = .ok (.iconst 0, 1) := by decide +kernel
theorem d_M_layOut_142 : decode prog_11_method_25_code 142 = .ok (.ldc 194, 2) := by decide +kernel
theorem d_M_layOut_144 : decode prog_11_method_25_code 144 = .ok (.iload_n 1, 1) := by decide +kernel
theorem d_M_layOut_145 : decode prog_11_method_25_code 145 = .ok (.iadd, 1) := by decide +kernel
theorem d_M_layOut_146 : decode prog_11_method_25_code 146 = .ok (.iastore, 1) := by decide +kernel
theorem d_M_layOut_147 : decode prog_11_method_25_code 147 = .ok (.iload_n 2, 1) := by decide +kernel
theorem d_M_layOut_148 : decode prog_11_method_25_code 148 = .ok (.iconst 1, 1) := by decide +kernel
theorem d_M_layOut_149 : decode prog_11_method_25_code 149 = .ok (.if_icmp .ne 13, 3) := by decide +kernel
theorem d_M_layOut_152 : decode prog_11_method_25_code 152 = .ok (.aload_n 0, 1) := by decide +kernel
theorem d_M_layOut_153 : decode prog_11_method_25_code 153 = .ok (.getfield 105, 3) := by decide +kernel
theorem d_M_layOut_156 : decode prog_11_method_25_code 156 = .ok (.iconst 2, 1) := by decide +kernel
theorem d_M_layOut_157 : decode prog_11_method_25_code 157 = .ok (.ldc 194, 2) := by decide +kernel
theorem d_M_layOut_159 : decode prog_11_method_25_code 159 = .ok (.iload_n 1, 1) := by decide +kernel
theorem d_M_layOut_160 : decode prog_11_method_25_code 160 = .ok (.iadd, 1) := by decide +kernel
theorem d_M_layOut_161 : decode prog_11_method_25_code 161 = .ok (.iastore, 1) := by decide +kernel
theorem d_M_layOut_162 : decode prog_11_method_25_code 162 = .ok (.iload_n 2, 1) := by decide +kernel
theorem d_M_layOut_163 : decode prog_11_method_25_code 163 = .ok (.iconst 3, 1) := by decide +kernel
theorem d_M_layOut_164 : decode prog_11_method_25_code 164 = .ok (.if_icmp .ne 13, 3) := by decide +kernel
theorem d_M_layOut_167 : decode prog_11_method_25_code 167 = .ok (.aload_n 0, 1) := by decide +kernel
theorem d_M_layOut_168 : decode prog_11_method_25_code 168 = .ok (.getfield 105, 3) := by decide +kernel
theorem d_M_layOut_171 : decode prog_11_method_25_code 171 = .ok (.iconst 4, 1) := by decide +kernel
theorem d_M_layOut_172 : decode prog_11_method_25_code 172 = .ok (.ldc 194, 2) := by decide +kernel
theorem d_M_layOut_174 : decode prog_11_method_25_code 174 = .ok (.iload_n 1, 1) := by decide +kernel
theorem d_M_layOut_175 : decode prog_11_method_25_code 175 = .ok (.iadd, 1) := by decide +kernel
theorem d_M_layOut_176 : decode prog_11_method_25_code 176 = .ok (.iastore, 1) := by decide +kernel
theorem d_M_layOut_177 : decode prog_11_method_25_code 177 = .ok (.iinc 2 1, 3) := by decide +kernel
theorem d_M_layOut_180 : decode prog_11_method_25_code 180 = .ok (.goto (-171), 3) := by decide +kernel
theorem d_M_layOut_183 : decode prog_11_method_25_code 183 = .ok (.aload_n 0, 1) := by decide +kernel
theorem d_M_layOut_184 : decode prog_11_method_25_code 184 = .ok (.getfield 105, 3) := by decide +kernel
theorem d_M_layOut_187 : decode prog_11_method_25_code 187 = .ok (.bipush 6, 2) := by decide +kernel
theorem d_M_layOut_189 : decode prog_11_method_25_code 189 = .ok (.aload_n 0, 1) := by decide +kernel
theorem d_M_layOut_190 : decode prog_11_method_25_code 190 = .ok (.getfield 191, 3) := by decide +kernel
theorem d_M_layOut_193 : decode prog_11_method_25_code 193 = .ok (.iastore, 1) := by decide +kernel
theorem d_M_layOut_194 : decode prog_11_method_25_code 194 = .ok (.return_, 1) := by decide +kernel
theorem d_M_findWrong_0 : decode prog_11_method_28_code 0 = .ok (.iconst (-1), 1) := by decide +kernel
theorem d_M_findWrong_1 : decode prog_11_method_28_code 1 = .ok (.istore_n 1, 1) := by decide +kernel
theorem d_M_findWrong_2 : decode prog_11_method_28_code 2 = .ok (.iconst 0, 1) := by decide +kernel
theorem d_M_findWrong_3 : decode prog_11_method_28_code 3 = .ok (.istore_n 2, 1) := by decide +kernel
theorem d_M_findWrong_4 : decode prog_11_method_28_code 4 = .ok (.iconst 0, 1) := by decide +kernel
theorem d_M_findWrong_5 : decode prog_11_method_28_code 5 = .ok (.istore_n 3, 1) := by decide +kernel
theorem d_M_findWrong_6 : decode prog_11_method_28_code 6 = .ok (.iload_n 3, 1) := by decide +kernel
theorem d_M_findWrong_7 : decode prog_11_method_28_code 7 = .ok (.aload_n 0, 1) := by decide +kernel
theorem d_M_findWrong_8 : decode prog_11_method_28_code 8 = .ok (.getfield 132, 3) := by decide +kernel
theorem d_M_findWrong_11 : decode prog_11_method_28_code 11 = .ok (.if_icmp .ge 195, 3) := by decide +kernel
theorem d_M_findWrong_14 : decode prog_11_method_28_code 14 = .ok (.aload_n 0, 1) := by decide +kernel
theorem d_M_findWrong_15 : decode prog_11_method_28_code 15 = .ok (.getfield 19, 3) := by decide +kernel
theorem d_M_findWrong_18 : decode prog_11_method_28_code 18 = .ok (.iconst 4, 1) := by decide +kernel
theorem d_M_findWrong_19 : decode prog_11_method_28_code 19 = .ok (.aload_n 0, 1) := by decide +kernel
theorem d_M_findWrong_20 : decode prog_11_method_28_code 20 = .ok (.getfield 62, 3) := by decide +kernel
theorem d_M_findWrong_23 : decode prog_11_method_28_code 23 = .ok (.iload_n 3, 1) := by decide +kernel
theorem d_M_findWrong_24 : decode prog_11_method_28_code 24 = .ok (.iaload, 1) := by decide +kernel
theorem d_M_findWrong_25 : decode prog_11_method_28_code 25 = .ok (.imul, 1) := by decide +kernel
theorem d_M_findWrong_26 : decode prog_11_method_28_code 26 = .ok (.aload_n 0, 1) := by decide +kernel
theorem d_M_findWrong_27 : decode prog_11_method_28_code 27 = .ok (.getfield 65, 3) := by decide +kernel
theorem d_M_findWrong_30 : decode prog_11_method_28_code 30 = .ok (.iload_n 3, 1) := by decide +kernel
theorem d_M_findWrong_31 : decode prog_11_method_28_code 31 = .ok (.iaload, 1) := by decide +kernel
theorem d_M_findWrong_32 : decode prog_11_method_28_code 32 = .ok (.iadd, 1) := by decide +kernel
theorem d_M_findWrong_33 : decode prog_11_method_28_code 33 = .ok (.baload, 1) := by decide +kernel
theorem d_M_findWrong_34 : decode prog_11_method_28_code 34 = .ok (.ifCond .ne 6, 3) := by decide +kernel
theorem d_M_findWrong_37 : decode prog_11_method_28_code 37 = .ok (.goto 163, 3) := by decide +kernel
theorem d_M_findWrong_40 : decode prog_11_method_28_code 40 = .ok (.aload_n 0, 1) := by decide +kernel
theorem d_M_findWrong_41 : decode prog_11_method_28_code 41 = .ok (.getfield 77, 3) := by decide +kernel
theorem d_M_findWrong_44 : decode prog_11_method_28_code 44 = .ok (.iload_n 3, 1) := by decide +kernel
theorem d_M_findWrong_45 : decode prog_11_method_28_code 45 = .ok (.iaload, 1) := by decide +kernel
theorem d_M_findWrong_46 : decode prog_11_method_28_code 46 = .ok (.ifCond .lt 21, 3) := by decide +kernel
theorem d_M_findWrong_49 : decode prog_11_method_28_code 49 = .ok (.aload_n 0, 1) := by decide +kernel
theorem d_M_findWrong_50 : decode prog_11_method_28_code 50 = .ok (.aload_n 0, 1) := by decide +kernel
theorem d_M_findWrong_51 : decode prog_11_method_28_code 51 = .ok (.getfield 77, 3) := by decide +kernel
theorem d_M_findWrong_54 : decode prog_11_method_28_code 54 = .ok (.iload_n 3, 1) := by decide +kernel
theorem d_M_findWrong_55 : decode prog_11_method_28_code 55 = .ok (.iaload, 1) := by decide +kernel
theorem d_M_findWrong_56 : decode prog_11_method_28_code 56 = .ok (.invokevirtual 188, 3) := by decide +kernel
theorem d_M_findWrong_59 : decode prog_11_method_28_code 59 = .ok (.iconst (-1), 1) := by decide +kernel
theorem d_M_findWrong_60 : decode prog_11_method_28_code 60 = .ok (.if_icmp .ne 7, 3) := by decide +kernel
theorem d_M_findWrong_63 : decode prog_11_method_28_code 63 = .ok (.iconst 1, 1) := by decide +kernel
theorem d_M_findWrong_64 : decode prog_11_method_28_code 64 = .ok (.goto 4, 3) := by decide +kernel
theorem d_M_findWrong_67 : decode prog_11_method_28_code 67 = .ok (.iconst 0, 1) := by decide +kernel
theorem d_M_findWrong_68 : decode prog_11_method_28_code 68 = .ok (.istore 4, 2) := by decide +kernel
theorem d_M_findWrong_70 : decode prog_11_method_28_code 70 = .ok (.iload 4, 2) := by decide +kernel
theorem d_M_findWrong_72 : decode prog_11_method_28_code 72 = .ok (.ifCond .eq 7, 3) := by decide +kernel
theorem d_M_findWrong_75 : decode prog_11_method_28_code 75 = .ok (.lconst 0, 1) := by decide +kernel
theorem d_M_findWrong_76 : decode prog_11_method_28_code 76 = .ok (.goto 8, 3) := by decide +kernel
theorem d_M_findWrong_79 : decode prog_11_method_28_code 79 = .ok (.aload_n 0, 1) := by decide +kernel
theorem d_M_findWrong_80 : decode prog_11_method_28_code 80 = .ok (.iload_n 3, 1) := by decide +kernel
theorem d_M_findWrong_81 : decode prog_11_method_28_code 81 = .ok (.invokevirtual 198, 3) := by decide +kernel
theorem d_M_findWrong_84 : decode prog_11_method_28_code 84 = .ok (.lstore 5, 2) := by decide +kernel
theorem d_M_findWrong_86 : decode prog_11_method_28_code 86 = .ok (.iload 4, 2) := by decide +kernel
theorem d_M_findWrong_88 : decode prog_11_method_28_code 88 = .ok (.ifCond .ne 23, 3) := by decide +kernel
theorem d_M_findWrong_91 : decode prog_11_method_28_code 91 = .ok (.aload_n 0, 1) := by decide +kernel
theorem d_M_findWrong_92 : decode prog_11_method_28_code 92 = .ok (.getfield 71, 3) := by decide +kernel
theorem d_M_findWrong_95 : decode prog_11_method_28_code 95 = .ok (.iload_n 3, 1) := by decide +kernel
theorem d_M_findWrong_96 : decode prog_11_method_28_code 96 = .ok (.iaload, 1) := by decide +kernel
theorem d_M_findWrong_97 : decode prog_11_method_28_code 97 = .ok (.iconst 4, 1) := by decide +kernel
theorem d_M_findWrong_98 : decode prog_11_method_28_code 98 = .ok (.if_icmp .ne 17, 3) := by decide +kernel
theorem d_M_findWrong_101 : decode prog_11_method_28_code 101 = .ok (.lload 5, 2) := by decide +kernel
theorem d_M_findWrong_103 : decode prog_11_method_28_code 103 = .ok (.lload 5, 2) := by decide +kernel
theorem d_M_findWrong_105 : decode prog_11_method_28_code 105 = .ok (.l2i, 1) := by decide +kernel
theorem d_M_findWrong_106 : decode prog_11_method_28_code 106 = .ok (.i2l, 1) := by decide +kernel
theorem d_M_findWrong_107 : decode prog_11_method_28_code 107 = .ok (.lcmp, 1) := by decide +kernel
theorem d_M_findWrong_108 : decode prog_11_method_28_code 108 = .ok (.ifCond .eq 7, 3) := by decide +kernel
theorem d_M_findWrong_111 : decode prog_11_method_28_code 111 = .ok (.iconst 1, 1) := by decide +kernel
theorem d_M_findWrong_112 : decode prog_11_method_28_code 112 = .ok (.goto 4, 3) := by decide +kernel
theorem d_M_findWrong_115 : decode prog_11_method_28_code 115 = .ok (.iconst 0, 1) := by decide +kernel
theorem d_M_findWrong_116 : decode prog_11_method_28_code 116 = .ok (.istore 7, 2) := by decide +kernel
theorem d_M_findWrong_118 : decode prog_11_method_28_code 118 = .ok (.iload_n 1, 1) := by decide +kernel
theorem d_M_findWrong_119 : decode prog_11_method_28_code 119 = .ok (.ifCond .lt 48, 3) := by decide +kernel
theorem d_M_findWrong_122 : decode prog_11_method_28_code 122 = .ok (.aload_n 0, 1) := by decide +kernel
theorem d_M_findWrong_123 : decode prog_11_method_28_code 123 = .ok (.getfield 62, 3) := by decide +kernel
theorem d_M_findWrong_126 : decode prog_11_method_28_code 126 = .ok (.iload_n 3, 1) := by decide +kernel
theorem d_M_findWrong_127 : decode prog_11_method_28_code 127 = .ok (.iaload, 1) := by decide +kernel
theorem d_M_findWrong_128 : decode prog_11_method_28_code 128 = .ok (.aload_n 0, 1) := by decide +kernel
theorem d_M_findWrong_129 : decode prog_11_method_28_code 129 = .ok (.getfield 62, 3) := by decide +kernel
theorem d_M_findWrong_132 : decode prog_11_method_28_code 132 = .ok (.iload_n 1, 1) := by decide +kernel
theorem d_M_findWrong_133 : decode prog_11_method_28_code 133 = .ok (.iaload, 1) := by decide +kernel
theorem d_M_findWrong_134 : decode prog_11_method_28_code 134 = .ok (.if_icmp .lt 33, 3) := by decide +kernel
theorem d_M_findWrong_137 : decode prog_11_method_28_code 137 = .ok (.aload_n 0, 1) := by decide +kernel
theorem d_M_findWrong_138 : decode prog_11_method_28_code 138 = .ok (.getfield 62, 3) := by decide +kernel
theorem d_M_findWrong_141 : decode prog_11_method_28_code 141 = .ok (.iload_n 3, 1) := by decide +kernel
theorem d_M_findWrong_142 : decode prog_11_method_28_code 142 = .ok (.iaload, 1) := by decide +kernel
theorem d_M_findWrong_143 : decode prog_11_method_28_code 143 = .ok (.aload_n 0, 1) := by decide +kernel
theorem d_M_findWrong_144 : decode prog_11_method_28_code 144 = .ok (.getfield 62, 3) := by decide +kernel
theorem d_M_findWrong_147 : decode prog_11_method_28_code 147 = .ok (.iload_n 1, 1) := by decide +kernel
theorem d_M_findWrong_148 : decode prog_11_method_28_code 148 = .ok (.iaload, 1) := by decide +kernel
theorem d_M_findWrong_149 : decode prog_11_method_28_code 149 = .ok (.if_icmp .ne 22, 3) := by decide +kernel
theorem d_M_findWrong_152 : decode prog_11_method_28_code 152 = .ok (.aload_n 0, 1) := by decide +kernel
theorem d_M_findWrong_153 : decode prog_11_method_28_code 153 = .ok (.getfield 80, 3) := by decide +kernel
theorem d_M_findWrong_156 : decode prog_11_method_28_code 156 = .ok (.iload_n 3, 1) := by decide +kernel
theorem d_M_findWrong_157 : decode prog_11_method_28_code 157 = .ok (.iaload, 1) := by decide +kernel
theorem d_M_findWrong_158 : decode prog_11_method_28_code 158 = .ok (.aload_n 0, 1) := by decide +kernel
theorem d_M_findWrong_159 : decode prog_11_method_28_code 159 = .ok (.getfield 80, 3) := by decide +kernel
theorem d_M_findWrong_162 : decode prog_11_method_28_code 162 = .ok (.iload_n 1, 1) := by decide +kernel
theorem d_M_findWrong_163 : decode prog_11_method_28_code 163 = .ok (.iaload, 1) := by decide +kernel
theorem d_M_findWrong_164 : decode prog_11_method_28_code 164 = .ok (.if_icmp .ge 7, 3) := by decide +kernel
theorem d_M_findWrong_167 : decode prog_11_method_28_code 167 = .ok (.iconst 1, 1) := by decide +kernel
theorem d_M_findWrong_168 : decode prog_11_method_28_code 168 = .ok (.goto 4, 3) := by decide +kernel
theorem d_M_findWrong_171 : decode prog_11_method_28_code 171 = .ok (.iconst 0, 1) := by decide +kernel
theorem d_M_findWrong_172 : decode prog_11_method_28_code 172 = .ok (.istore 8, 2) := by decide +kernel
theorem d_M_findWrong_174 : decode prog_11_method_28_code 174 = .ok (.iload 7, 2) := by decide +kernel
theorem d_M_findWrong_176 : decode prog_11_method_28_code 176 = .ok (.ifCond .eq 24, 3) := by decide +kernel
theorem d_M_findWrong_179 : decode prog_11_method_28_code 179 = .ok (.iload 8, 2) := by decide +kernel
theorem d_M_findWrong_181 : decode prog_11_method_28_code 181 = .ok (.ifCond .ne 6, 3) := by decide +kernel
theorem d_M_findWrong_184 : decode prog_11_method_28_code 184 = .ok (.goto 16, 3) := by decide +kernel
theorem d_M_findWrong_187 : decode prog_11_method_28_code 187 = .ok (.iload_n 3, 1) := by decide +kernel
theorem d_M_findWrong_188 : decode prog_11_method_28_code 188 = .ok (.istore_n 1, 1) := by decide +kernel
theorem d_M_findWrong_189 : decode prog_11_method_28_code 189 = .ok (.iload 4, 2) := by decide +kernel
theorem d_M_findWrong_191 : decode prog_11_method_28_code 191 = .ok (.ifCond .eq 7, 3) := by decide +kernel
theorem d_M_findWrong_194 : decode prog_11_method_28_code 194 = .ok (.iconst 3, 1) := by decide +kernel
theorem d_M_findWrong_195 : decode prog_11_method_28_code 195 = .ok (.goto 4, 3) := by decide +kernel
theorem d_M_findWrong_198 : decode prog_11_method_28_code 198 = .ok (.iconst 4, 1) := by decide +kernel
theorem d_M_findWrong_199 : decode prog_11_method_28_code 199 = .ok (.istore_n 2, 1) := by decide +kernel
theorem d_M_findWrong_200 : decode prog_11_method_28_code 200 = .ok (.iinc 3 1, 3) := by decide +kernel
theorem d_M_findWrong_203 : decode prog_11_method_28_code 203 = .ok (.goto (-197), 3) := by decide +kernel
theorem d_M_findWrong_206 : decode prog_11_method_28_code 206 = .ok (.iload_n 1, 1) := by decide +kernel
theorem d_M_findWrong_207 : decode prog_11_method_28_code 207 = .ok (.ifCond .lt 20, 3) := by decide +kernel
theorem d_M_findWrong_210 : decode prog_11_method_28_code 210 = .ok (.aload_n 0, 1) := by decide +kernel
theorem d_M_findWrong_211 : decode prog_11_method_28_code 211 = .ok (.iload_n 2, 1) := by decide +kernel
theorem d_M_findWrong_212 : decode prog_11_method_28_code 212 = .ok (.aload_n 0, 1) := by decide +kernel
theorem d_M_findWrong_213 : decode prog_11_method_28_code 213 = .ok (.getfield 62, 3) := by decide +kernel
theorem d_M_findWrong_216 : decode prog_11_method_28_code 216 = .ok (.iload_n 1, 1) := by decide +kernel
theorem d_M_findWrong_217 : decode prog_11_method_28_code 217 = .ok (.iaload, 1) := by decide +kernel
theorem d_M_findWrong_218 : decode prog_11_method_28_code 218 = .ok (.aload_n 0, 1) := by decide +kernel
theorem d_M_findWrong_219 : decode prog_11_method_28_code 219 = .ok (.getfield 80, 3) := by decide +kernel
theorem d_M_findWrong_222 : decode prog_11_method_28_code 222 = .ok (.iload_n 1, 1) := by decide +kernel
theorem d_M_findWrong_223 : decode prog_11_method_28_code 223 = .ok (.iaload, 1) := by decide +kernel
theorem d_M_findWrong_224 : decode prog_11_method_28_code 224 = .ok (.invokevirtual 184, 3) := by decide +kernel
theorem d_M_findWrong_227 : decode prog_11_method_28_code 227 = .ok (.return_, 1) := by decide +kernel
theorem d_M_valueOf_0 : decode prog_11_method_27_code 0 = .ok (.aload_n 0, 1) := by decide +kernel
theorem d_M_valueOf_1 : decode prog_11_method_27_code 1 = .ok (.getfield 62, 3) := by decide +kernel
theorem d_M_valueOf_4 : decode prog_11_method_27_code 4 = .ok (.iload_n 1, 1) := by decide +kernel
theorem d_M_valueOf_5 : decode prog_11_method_27_code 5 = .ok (.iaload, 1) := by decide +kernel
theorem d_M_valueOf_6 : decode prog_11_method_27_code 6 = .ok (.istore_n 2, 1) := by decide +kernel
theorem d_M_valueOf_7 : decode prog_11_method_27_code 7 = .ok (.aload_n 0, 1) := by decide +kernel
theorem d_M_valueOf_8 : decode prog_11_method_27_code 8 = .ok (.getfield 77, 3) := by decide +kernel
theorem d_M_valueOf_11 : decode prog_11_method_27_code 11 = .ok (.iload_n 1, 1) := by decide +kernel
theorem d_M_valueOf_12 : decode prog_11_method_27_code 12 = .ok (.iaload, 1) := by decide +kernel
theorem d_M_valueOf_13 : decode prog_11_method_27_code 13 = .ok (.istore_n 3, 1) := by decide +kernel
theorem d_M_valueOf_14 : decode prog_11_method_27_code 14 = .ok (.aload_n 0, 1) := by decide +kernel
theorem d_M_valueOf_15 : decode prog_11_method_27_code 15 = .ok (.getfield 83, 3) := by decide +kernel
theorem d_M_valueOf_18 : decode prog_11_method_27_code 18 = .ok (.iload_n 1, 1) := by decide +kernel
theorem d_M_valueOf_19 : decode prog_11_method_27_code 19 = .ok (.laload, 1) := by decide +kernel
theorem d_M_valueOf_20 : decode prog_11_method_27_code 20 = .ok (.lstore 4, 2) := by decide +kernel
theorem d_M_valueOf_22 : decode prog_11_method_27_code 22 = .ok (.iload_n 3, 1) := by decide +kernel
theorem d_M_valueOf_23 : decode prog_11_method_27_code 23 = .ok (.ifCond .ge 7, 3) := by decide +kernel
theorem d_M_valueOf_26 : decode prog_11_method_27_code 26 = .ok (.iconst (-1), 1) := by decide +kernel
theorem d_M_valueOf_27 : decode prog_11_method_27_code 27 = .ok (.goto 8, 3) := by decide +kernel
theorem d_M_valueOf_30 : decode prog_11_method_27_code 30 = .ok (.aload_n 0, 1) := by decide +kernel
theorem d_M_valueOf_31 : decode prog_11_method_27_code 31 = .ok (.iload_n 3, 1) := by decide +kernel
theorem d_M_valueOf_32 : decode prog_11_method_27_code 32 = .ok (.invokevirtual 188, 3) := by decide +kernel
theorem d_M_valueOf_35 : decode prog_11_method_27_code 35 = .ok (.istore 6, 2) := by decide +kernel
theorem d_M_valueOf_37 : decode prog_11_method_27_code 37 = .ok (.iload 6, 2) := by decide +kernel
theorem d_M_valueOf_39 : decode prog_11_method_27_code 39 = .ok (.ifCond .lt 15, 3) := by decide +kernel
theorem d_M_valueOf_42 : decode prog_11_method_27_code 42 = .ok (.lload 4, 2) := by decide +kernel
theorem d_M_valueOf_44 : decode prog_11_method_27_code 44 = .ok (.aload_n 0, 1) := by decide +kernel
theorem d_M_valueOf_45 : decode prog_11_method_27_code 45 = .ok (.iload 6, 2) := by decide +kernel
theorem d_M_valueOf_47 : decode prog_11_method_27_code 47 = .ok (.invokevirtual 195, 3) := by decide +kernel
theorem d_M_valueOf_50 : decode prog_11_method_27_code 50 = .ok (.i2l, 1) := by decide +kernel
theorem d_M_valueOf_51 : decode prog_11_method_27_code 51 = .ok (.ladd, 1) := by decide +kernel
theorem d_M_valueOf_52 : decode prog_11_method_27_code 52 = .ok (.lstore 4, 2) := by decide +kernel
theorem d_M_valueOf_54 : decode prog_11_method_27_code 54 = .ok (.iload_n 3, 1) := by decide +kernel
theorem d_M_valueOf_55 : decode prog_11_method_27_code 55 = .ok (.iconst (-1), 1) := by decide +kernel
theorem d_M_valueOf_56 : decode prog_11_method_27_code 56 = .ok (.if_icmp .ge 24, 3) := by decide +kernel
theorem d_M_valueOf_59 : decode prog_11_method_27_code 59 = .ok (.lload 4, 2) := by decide +kernel
theorem d_M_valueOf_61 : decode prog_11_method_27_code 61 = .ok (.ldc 194, 2) := by decide +kernel
theorem d_M_valueOf_63 : decode prog_11_method_27_code 63 = .ok (.aload_n 0, 1) := by decide +kernel
theorem d_M_valueOf_64 : decode prog_11_method_27_code 64 = .ok (.getfield 29, 3) := by decide +kernel
theorem d_M_valueOf_67 : decode prog_11_method_27_code 67 = .ok (.iconst 4, 1) := by decide +kernel
theorem d_M_valueOf_68 : decode prog_11_method_27_code 68 = .ok (.iload_n 2, 1) := by decide +kernel
theorem d_M_valueOf_69 : decode prog_11_method_27_code 69 = .ok (.imul, 1) := by decide +kernel
theorem d_M_valueOf_70 : decode prog_11_method_27_code 70 = .ok (.iconst 2, 1) := by decide +kernel
theorem d_M_valueOf_71 : decode prog_11_method_27_code 71 = .ok (.isub, 1) := by decide +kernel
theorem d_M_valueOf_72 : decode prog_11_method_27_code 72 = .ok (.iload_n 3, 1) := by decide +kernel
theorem d_M_valueOf_73 : decode prog_11_method_27_code 73 = .ok (.isub, 1) := by decide +kernel
theorem d_M_valueOf_74 : decode prog_11_method_27_code 74 = .ok (.iaload, 1) := by decide +kernel
theorem d_M_valueOf_75 : decode prog_11_method_27_code 75 = .ok (.iadd, 1) := by decide +kernel
theorem d_M_valueOf_76 : decode prog_11_method_27_code 76 = .ok (.i2l, 1) := by decide +kernel
theorem d_M_valueOf_77 : decode prog_11_method_27_code 77 = .ok (.ladd, 1) := by decide +kernel
theorem d_M_valueOf_78 : decode prog_11_method_27_code 78 = .ok (.lstore 4, 2) := by decide +kernel
theorem d_M_valueOf_80 : decode prog_11_method_27_code 80 = .ok (.aload_n 0, 1) := by decide +kernel
theorem d_M_valueOf_81 : decode prog_11_method_27_code 81 = .ok (.getfield 74, 3) := by decide +kernel
theorem d_M_valueOf_84 : decode prog_11_method_27_code 84 = .ok (.iload_n 1, 1) := by decide +kernel
theorem d_M_valueOf_85 : decode prog_11_method_27_code 85 = .ok (.iaload, 1) := by decide +kernel
theorem d_M_valueOf_86 : decode prog_11_method_27_code 86 = .ok (.ifCond .lt 34, 3) := by decide +kernel
theorem d_M_valueOf_89 : decode prog_11_method_27_code 89 = .ok (.lload 4, 2) := by decide +kernel
theorem d_M_valueOf_91 : decode prog_11_method_27_code 91 = .ok (.ldc 194, 2) := by decide +kernel
theorem d_M_valueOf_93 : decode prog_11_method_27_code 93 = .ok (.aload_n 0, 1) := by decide +kernel
theorem d_M_valueOf_94 : decode prog_11_method_27_code 94 = .ok (.getfield 29, 3) := by decide +kernel
theorem d_M_valueOf_97 : decode prog_11_method_27_code 97 = .ok (.iconst 4, 1) := by decide +kernel
theorem d_M_valueOf_98 : decode prog_11_method_27_code 98 = .ok (.iload_n 2, 1) := by decide +kernel
theorem d_M_valueOf_99 : decode prog_11_method_27_code 99 = .ok (.imul, 1) := by decide +kernel
theorem d_M_valueOf_100 : decode prog_11_method_27_code 100 = .ok (.aload_n 0, 1) := by decide +kernel
theorem d_M_valueOf_101 : decode prog_11_method_27_code 101 = .ok (.getfield 65, 3) := by decide +kernel
theorem d_M_valueOf_104 : decode prog_11_method_27_code 104 = .ok (.iload_n 1, 1) := by decide +kernel
theorem d_M_valueOf_105 : decode prog_11_method_27_code 105 = .ok (.iaload, 1) := by decide +kernel
theorem d_M_valueOf_106 : decode prog_11_method_27_code 106 = .ok (.iadd, 1) := by decide +kernel
theorem d_M_valueOf_107 : decode prog_11_method_27_code 107 = .ok (.iaload, 1) := by decide +kernel
theorem d_M_valueOf_108 : decode prog_11_method_27_code 108 = .ok (.iadd, 1) := by decide +kernel
theorem d_M_valueOf_109 : decode prog_11_method_27_code 109 = .ok (.aload_n 0, 1) := by decide +kernel
theorem d_M_valueOf_110 : decode prog_11_method_27_code 110 = .ok (.getfield 74, 3) := by decide +kernel
theorem d_M_valueOf_113 : decode prog_11_method_27_code 113 = .ok (.iload_n 1, 1) := by decide +kernel
theorem d_M_valueOf_114 : decode prog_11_method_27_code 114 = .ok (.iaload, 1) := by decide +kernel
theorem d_M_valueOf_115 : decode prog_11_method_27_code 115 = .ok (.iadd, 1) := by decide +kernel
theorem d_M_valueOf_116 : decode prog_11_method_27_code 116 = .ok (.i2l, 1) := by decide +kernel
theorem d_M_valueOf_117 : decode prog_11_method_27_code 117 = .ok (.lsub, 1) := by decide +kernel
theorem d_M_valueOf_118 : decode prog_11_method_27_code 118 = .ok (.lstore 4, 2) := by decide +kernel
theorem d_M_valueOf_120 : decode prog_11_method_27_code 120 = .ok (.lload 4, 2) := by decide +kernel
theorem d_M_valueOf_122 : decode prog_11_method_27_code 122 = .ok (.lreturn, 1) := by decide +kernel
theorem d_M_labelAddress_0 : decode prog_11_method_26_code 0 = .ok (.ldc 194, 2) := by decide +kernel
theorem d_M_labelAddress_2 : decode prog_11_method_26_code 2 = .ok (.aload_n 0, 1) := by decide +kernel
theorem d_M_labelAddress_3 : decode prog_11_method_26_code 3 = .ok (.getfield 29, 3) := by decide +kernel
theorem d_M_labelAddress_6 : decode prog_11_method_26_code 6 = .ok (.iconst 4, 1) := by decide +kernel
theorem d_M_labelAddress_7 : decode prog_11_method_26_code 7 = .ok (.aload_n 0, 1) := by decide +kernel
theorem d_M_labelAddress_8 : decode prog_11_method_26_code 8 = .ok (.getfield 44, 3) := by decide +kernel
theorem d_M_labelAddress_11 : decode prog_11_method_26_code 11 = .ok (.iload_n 1, 1) := by decide +kernel
theorem d_M_labelAddress_12 : decode prog_11_method_26_code 12 = .ok (.iaload, 1) := by decide +kernel
theorem d_M_labelAddress_13 : decode prog_11_method_26_code 13 = .ok (.imul, 1) := by decide +kernel
theorem d_M_labelAddress_14 : decode prog_11_method_26_code 14 = .ok (.aload_n 0, 1) := by decide +kernel
theorem d_M_labelAddress_15 : decode prog_11_method_26_code 15 = .ok (.getfield 50, 3) := by decide +kernel
theorem d_M_labelAddress_18 : decode prog_11_method_26_code 18 = .ok (.iload_n 1, 1) := by decide +kernel
theorem d_M_labelAddress_19 : decode prog_11_method_26_code 19 = .ok (.iaload, 1) := by decide +kernel
theorem d_M_labelAddress_20 : decode prog_11_method_26_code 20 = .ok (.iadd, 1) := by decide +kernel
theorem d_M_labelAddress_21 : decode prog_11_method_26_code 21 = .ok (.iaload, 1) := by decide +kernel
theorem d_M_labelAddress_22 : decode prog_11_method_26_code 22 = .ok (.iadd, 1) := by decide +kernel
theorem d_M_labelAddress_23 : decode prog_11_method_26_code 23 = .ok (.aload_n 0, 1) := by decide +kernel
theorem d_M_labelAddress_24 : decode prog_11_method_26_code 24 = .ok (.getfield 53, 3) := by decide +kernel
theorem d_M_labelAddress_27 : decode prog_11_method_26_code 27 = .ok (.iload_n 1, 1) := by decide +kernel
theorem d_M_labelAddress_28 : decode prog_11_method_26_code 28 = .ok (.iaload, 1) := by decide +kernel
theorem d_M_labelAddress_29 : decode prog_11_method_26_code 29 = .ok (.iadd, 1) := by decide +kernel
theorem d_M_labelAddress_30 : decode prog_11_method_26_code 30 = .ok (.ireturn, 1) := by decide +kernel
theorem d_M_keepNames_0 : decode prog_11_method_30_code 0 = .ok (.aload_n 0, 1) := by decide +kernel
theorem d_M_keepNames_1 : decode prog_11_method_30_code 1 = .ok (.iconst 0, 1) := by decide +kernel
theorem d_M_keepNames_2 : decode prog_11_method_30_code 2 = .ok (.putfield 231, 3) := by decide +kernel
theorem d_M_keepNames_5 : decode prog_11_method_30_code 5 = .ok (.iconst 0, 1) := by decide +kernel
theorem d_M_keepNames_6 : decode prog_11_method_30_code 6 = .ok (.istore_n 1, 1) := by decide +kernel
theorem d_M_keepNames_7 : decode prog_11_method_30_code 7 = .ok (.iload_n 1, 1) := by decide +kernel
theorem d_M_keepNames_8 : decode prog_11_method_30_code 8 = .ok (.aload_n 0, 1) := by decide +kernel
theorem d_M_keepNames_9 : decode prog_11_method_30_code 9 = .ok (.getfield 129, 3) := by decide +kernel
theorem d_M_keepNames_12 : decode prog_11_method_30_code 12 = .ok (.if_icmp .ge 123, 3) := by decide +kernel
theorem d_M_keepNames_15 : decode prog_11_method_30_code 15 = .ok (.aload_n 0, 1) := by decide +kernel
theorem d_M_keepNames_16 : decode prog_11_method_30_code 16 = .ok (.getfield 16, 3) := by decide +kernel
theorem d_M_keepNames_19 : decode prog_11_method_30_code 19 = .ok (.aload_n 0, 1) := by decide +kernel
theorem d_M_keepNames_20 : decode prog_11_method_30_code 20 = .ok (.getfield 44, 3) := by decide +kernel
theorem d_M_keepNames_23 : decode prog_11_method_30_code 23 = .ok (.iload_n 1, 1) := by decide +kernel
theorem d_M_keepNames_24 : decode prog_11_method_30_code 24 = .ok (.iaload, 1) := by decide +kernel
theorem d_M_keepNames_25 : decode prog_11_method_30_code 25 = .ok (.baload, 1) := by decide +kernel
theorem d_M_keepNames_26 : decode prog_11_method_30_code 26 = .ok (.ifCond .eq 103, 3) := by decide +kernel
theorem d_M_keepNames_29 : decode prog_11_method_30_code 29 = .ok (.aload_n 0, 1) := by decide +kernel
theorem d_M_keepNames_30 : decode prog_11_method_30_code 30 = .ok (.aload_n 0, 1) := by decide +kernel
theorem d_M_keepNames_31 : decode prog_11_method_30_code 31 = .ok (.getfield 37, 3) := by decide +kernel
theorem d_M_keepNames_34 : decode prog_11_method_30_code 34 = .ok (.iload_n 1, 1) := by decide +kernel
theorem d_M_keepNames_35 : decode prog_11_method_30_code 35 = .ok (.laload, 1) := by decide +kernel
theorem d_M_keepNames_36 : decode prog_11_method_30_code 36 = .ok (.aload_n 0, 1) := by decide +kernel
theorem d_M_keepNames_37 : decode prog_11_method_30_code 37 = .ok (.getfield 41, 3) := by decide +kernel
theorem d_M_keepNames_40 : decode prog_11_method_30_code 40 = .ok (.iload_n 1, 1) := by decide +kernel
theorem d_M_keepNames_41 : decode prog_11_method_30_code 41 = .ok (.iaload, 1) := by decide +kernel
theorem d_M_keepNames_42 : decode prog_11_method_30_code 42 = .ok (.invokevirtual 171, 3) := by decide +kernel
theorem d_M_keepNames_45 : decode prog_11_method_30_code 45 = .ok (.iload_n 1, 1) := by decide +kernel
theorem d_M_keepNames_46 : decode prog_11_method_30_code 46 = .ok (.if_icmp .ne 83, 3) := by decide +kernel
theorem d_M_keepNames_49 : decode prog_11_method_30_code 49 = .ok (.aload_n 0, 1) := by decide +kernel
theorem d_M_keepNames_50 : decode prog_11_method_30_code 50 = .ok (.getfield 19, 3) := by decide +kernel
theorem d_M_keepNames_53 : decode prog_11_method_30_code 53 = .ok (.iconst 4, 1) := by decide +kernel
theorem d_M_keepNames_54 : decode prog_11_method_30_code 54 = .ok (.aload_n 0, 1) := by decide +kernel
theorem d_M_keepNames_55 : decode prog_11_method_30_code 55 = .ok (.getfield 44, 3) := by decide +kernel
theorem d_M_keepNames_58 : decode prog_11_method_30_code 58 = .ok (.iload_n 1, 1) := by decide +kernel
theorem d_M_keepNames_59 : decode prog_11_method_30_code 59 = .ok (.iaload, 1) := by decide +kernel
theorem d_M_keepNames_60 : decode prog_11_method_30_code 60 = .ok (.imul, 1) := by decide +kernel
theorem d_M_keepNames_61 : decode prog_11_method_30_code 61 = .ok (.aload_n 0, 1) := by decide +kernel
theorem d_M_keepNames_62 : decode prog_11_method_30_code 62 = .ok (.getfield 50, 3) := by decide +kernel
theorem d_M_keepNames_65 : decode prog_11_method_30_code 65 = .ok (.iload_n 1, 1) := by decide +kernel
theorem d_M_keepNames_66 : decode prog_11_method_30_code 66 = .ok (.iaload, 1) := by decide +kernel
theorem d_M_keepNames_67 : decode prog_11_method_30_code 67 = .ok (.iadd, 1) := by decide +kernel
theorem d_M_keepNames_68 : decode prog_11_method_30_code 68 = .ok (.baload, 1) := by decide +kernel
theorem d_M_keepNames_69 : decode prog_11_method_30_code 69 = .ok (.ifCond .ne 6, 3) := by decide +kernel
theorem d_M_keepNames_72 : decode prog_11_method_30_code 72 = .ok (.goto 57, 3) := by decide +kernel
theorem d_M_keepNames_75 : decode prog_11_method_30_code 75 = .ok (.aload_n 0, 1) := by decide +kernel
theorem d_M_keepNames_76 : decode prog_11_method_30_code 76 = .ok (.getfield 108, 3) := by decide +kernel
theorem d_M_keepNames_79 : decode prog_11_method_30_code 79 = .ok (.aload_n 0, 1) := by decide +kernel
theorem d_M_keepNames_80 : decode prog_11_method_30_code 80 = .ok (.getfield 231, 3) := by decide +kernel
theorem d_M_keepNames_83 : decode prog_11_method_30_code 83 = .ok (.aload_n 0, 1) := by decide +kernel
theorem d_M_keepNames_84 : decode prog_11_method_30_code 84 = .ok (.getfield 37, 3) := by decide +kernel
theorem d_M_keepNames_87 : decode prog_11_method_30_code 87 = .ok (.iload_n 1, 1) := by decide +kernel
theorem d_M_keepNames_88 : decode prog_11_method_30_code 88 = .ok (.laload, 1) := by decide +kernel
theorem d_M_keepNames_89 : decode prog_11_method_30_code 89 = .ok (.lastore, 1) := by decide +kernel
theorem d_M_keepNames_90 : decode prog_11_method_30_code 90 = .ok (.aload_n 0, 1) := by decide +kernel
theorem d_M_keepNames_91 : decode prog_11_method_30_code 91 = .ok (.getfield 111, 3) := by decide +kernel
theorem d_M_keepNames_94 : decode prog_11_method_30_code 94 = .ok (.aload_n 0, 1) := by decide +kernel
theorem d_M_keepNames_95 : decode prog_11_method_30_code 95 = .ok (.getfield 231, 3) := by decide +kernel
theorem d_M_keepNames_98 : decode prog_11_method_30_code 98 = .ok (.aload_n 0, 1) := by decide +kernel
theorem d_M_keepNames_99 : decode prog_11_method_30_code 99 = .ok (.getfield 41, 3) := by decide +kernel
theorem d_M_keepNames_102 : decode prog_11_method_30_code 102 = .ok (.iload_n 1, 1) := by decide +kernel
theorem d_M_keepNames_103 : decode prog_11_method_30_code 103 = .ok (.iaload, 1) := by decide +kernel
theorem d_M_keepNames_104 : decode prog_11_method_30_code 104 = .ok (.iastore, 1) := by decide +kernel
theorem d_M_keepNames_105 : decode prog_11_method_30_code 105 = .ok (.aload_n 0, 1) := by decide +kernel
theorem d_M_keepNames_106 : decode prog_11_method_30_code 106 = .ok (.getfield 114, 3) := by decide +kernel
theorem d_M_keepNames_109 : decode prog_11_method_30_code 109 = .ok (.aload_n 0, 1) := by decide +kernel
theorem d_M_keepNames_110 : decode prog_11_method_30_code 110 = .ok (.getfield 231, 3) := by decide +kernel
theorem d_M_keepNames_113 : decode prog_11_method_30_code 113 = .ok (.aload_n 0, 1) := by decide +kernel
theorem d_M_keepNames_114 : decode prog_11_method_30_code 114 = .ok (.iload_n 1, 1) := by decide +kernel
theorem d_M_keepNames_115 : decode prog_11_method_30_code 115 = .ok (.invokevirtual 195, 3) := by decide +kernel
theorem d_M_keepNames_118 : decode prog_11_method_30_code 118 = .ok (.iastore, 1) := by decide +kernel
theorem d_M_keepNames_119 : decode prog_11_method_30_code 119 = .ok (.aload_n 0, 1) := by decide +kernel
theorem d_M_keepNames_120 : decode prog_11_method_30_code 120 = .ok (.dup, 1) := by decide +kernel
theorem d_M_keepNames_121 : decode prog_11_method_30_code 121 = .ok (.getfield 231, 3) := by decide +kernel
theorem d_M_keepNames_124 : decode prog_11_method_30_code 124 = .ok (.iconst 1, 1) := by decide +kernel
theorem d_M_keepNames_125 : decode prog_11_method_30_code 125 = .ok (.iadd, 1) := by decide +kernel
theorem d_M_keepNames_126 : decode prog_11_method_30_code 126 = .ok (.putfield 231, 3) := by decide +kernel
theorem d_M_keepNames_129 : decode prog_11_method_30_code 129 = .ok (.iinc 1 1, 3) := by decide +kernel
theorem d_M_keepNames_132 : decode prog_11_method_30_code 132 = .ok (.goto (-125), 3) := by decide +kernel
theorem d_M_keepNames_135 : decode prog_11_method_30_code 135 = .ok (.aload_n 0, 1) := by decide +kernel
theorem d_M_keepNames_136 : decode prog_11_method_30_code 136 = .ok (.iconst 0, 1) := by decide +kernel
theorem d_M_keepNames_137 : decode prog_11_method_30_code 137 = .ok (.putfield 234, 3) := by decide +kernel
theorem d_M_keepNames_140 : decode prog_11_method_30_code 140 = .ok (.iconst 0, 1) := by decide +kernel
theorem d_M_keepNames_141 : decode prog_11_method_30_code 141 = .ok (.istore_n 1, 1) := by decide +kernel
theorem d_M_keepNames_142 : decode prog_11_method_30_code 142 = .ok (.iload_n 1, 1) := by decide +kernel
theorem d_M_keepNames_143 : decode prog_11_method_30_code 143 = .ok (.aload_n 0, 1) := by decide +kernel
theorem d_M_keepNames_144 : decode prog_11_method_30_code 144 = .ok (.getfield 135, 3) := by decide +kernel
theorem d_M_keepNames_147 : decode prog_11_method_30_code 147 = .ok (.if_icmp .ge 92, 3) := by decide +kernel
theorem d_M_keepNames_150 : decode prog_11_method_30_code 150 = .ok (.aload_n 0, 1) := by decide +kernel
theorem d_M_keepNames_151 : decode prog_11_method_30_code 151 = .ok (.getfield 19, 3) := by decide +kernel
theorem d_M_keepNames_154 : decode prog_11_method_30_code 154 = .ok (.iconst 4, 1) := by decide +kernel
theorem d_M_keepNames_155 : decode prog_11_method_30_code 155 = .ok (.aload_n 0, 1) := by decide +kernel
theorem d_M_keepNames_156 : decode prog_11_method_30_code 156 = .ok (.getfield 86, 3) := by decide +kernel
theorem d_M_keepNames_159 : decode prog_11_method_30_code 159 = .ok (.iload_n 1, 1) := by decide +kernel
theorem d_M_keepNames_160 : decode prog_11_method_30_code 160 = .ok (.iaload, 1) := by decide +kernel
theorem d_M_keepNames_161 : decode prog_11_method_30_code 161 = .ok (.imul, 1) := by decide +kernel
theorem d_M_keepNames_162 : decode prog_11_method_30_code 162 = .ok (.baload, 1) := by decide +kernel
theorem d_M_keepNames_163 : decode prog_11_method_30_code 163 = .ok (.ifCond .ne 6, 3) := by decide +kernel
theorem d_M_keepNames_166 : decode prog_11_method_30_code 166 = .ok (.goto 67, 3) := by decide +kernel
theorem d_M_keepNames_169 : decode prog_11_method_30_code 169 = .ok (.aload_n 0, 1) := by decide +kernel
theorem d_M_keepNames_170 : decode prog_11_method_30_code 170 = .ok (.getfield 117, 3) := by decide +kernel
theorem d_M_keepNames_173 : decode prog_11_method_30_code 173 = .ok (.aload_n 0, 1) := by decide +kernel
theorem d_M_keepNames_174 : decode prog_11_method_30_code 174 = .ok (.getfield 234, 3) := by decide +kernel
theorem d_M_keepNames_177 : decode prog_11_method_30_code 177 = .ok (.aload_n 0, 1) := by decide +kernel
theorem d_M_keepNames_178 : decode prog_11_method_30_code 178 = .ok (.getfield 29, 3) := by decide +kernel
theorem d_M_keepNames_181 : decode prog_11_method_30_code 181 = .ok (.iconst 4, 1) := by decide +kernel
theorem d_M_keepNames_182 : decode prog_11_method_30_code 182 = .ok (.aload_n 0, 1) := by decide +kernel
theorem d_M_keepNames_183 : decode prog_11_method_30_code 183 = .ok (.getfield 86, 3) := by decide +kernel
theorem d_M_keepNames_186 : decode prog_11_method_30_code 186 = .ok (.iload_n 1, 1) := by decide +kernel
theorem d_M_keepNames_187 : decode prog_11_method_30_code 187 = .ok (.iaload, 1) := by decide +kernel
theorem d_M_keepNames_188 : decode prog_11_method_30_code 188 = .ok (.imul, 1) := by decide +kernel
theorem d_M_keepNames_189 : decode prog_11_method_30_code 189 = .ok (.iaload, 1) := by decide +kernel
theorem d_M_keepNames_190 : decode prog_11_method_30_code 190 = .ok (.aload_n 0, 1) := by decide +kernel
theorem d_M_keepNames_191 : decode prog_11_method_30_code 191 = .ok (.getfield 89, 3) := by decide +kernel
theorem d_M_keepNames_194 : decode prog_11_method_30_code 194 = .ok (.iload_n 1, 1) := by decide +kernel
theorem d_M_keepNames_195 : decode prog_11_method_30_code 195 = .ok (.iaload, 1) := by decide +kernel
theorem d_M_keepNames_196 : decode prog_11_method_30_code 196 = .ok (.iadd, 1) := by decide +kernel
theorem d_M_keepNames_197 : decode prog_11_method_30_code 197 = .ok (.iastore, 1) := by decide +kernel
theorem d_M_keepNames_198 : decode prog_11_method_30_code 198 = .ok (.aload_n 0, 1) := by decide +kernel
theorem d_M_keepNames_199 : decode prog_11_method_30_code 199 = .ok (.getfield 120, 3) := by decide +kernel
theorem d_M_keepNames_202 : decode prog_11_method_30_code 202 = .ok (.aload_n 0, 1) := by decide +kernel
theorem d_M_keepNames_203 : decode prog_11_method_30_code 203 = .ok (.getfield 234, 3) := by decide +kernel
theorem d_M_keepNames_206 : decode prog_11_method_30_code 206 = .ok (.ldc 144, 2) := by decide +kernel
theorem d_M_keepNames_208 : decode prog_11_method_30_code 208 = .ok (.aload_n 0, 1) := by decide +kernel
theorem d_M_keepNames_209 : decode prog_11_method_30_code 209 = .ok (.getfield 86, 3) := by decide +kernel
theorem d_M_keepNames_212 : decode prog_11_method_30_code 212 = .ok (.iload_n 1, 1) := by decide +kernel
theorem d_M_keepNames_213 : decode prog_11_method_30_code 213 = .ok (.iaload, 1) := by decide +kernel
theorem d_M_keepNames_214 : decode prog_11_method_30_code 214 = .ok (.imul, 1) := by decide +kernel
theorem d_M_keepNames_215 : decode prog_11_method_30_code 215 = .ok (.aload_n 0, 1) := by decide +kernel
theorem d_M_keepNames_216 : decode prog_11_method_30_code 216 = .ok (.getfield 92, 3) := by decide +kernel
theorem d_M_keepNames_219 : decode prog_11_method_30_code 219 = .ok (.iload_n 1, 1) := by decide +kernel
theorem d_M_keepNames_220 : decode prog_11_method_30_code 220 = .ok (.iaload, 1) := by decide +kernel
theorem d_M_keepNames_221 : decode prog_11_method_30_code 221 = .ok (.iadd, 1) := by decide +kernel
theorem d_M_keepNames_222 : decode prog_11_method_30_code 222 = .ok (.iastore, 1) := by decide +kernel
theorem d_M_keepNames_223 : decode prog_11_method_30_code 223 = .ok (.aload_n 0, 1) := by decide +kernel
theorem d_M_keepNames_224 : decode prog_11_method_30_code 224 = .ok (.dup, 1) := by decide +kernel
theorem d_M_keepNames_225 : decode prog_11_method_30_code 225 = .ok (.getfield 234, 3) := by decide +kernel
theorem d_M_keepNames_228 : decode prog_11_method_30_code 228 = .ok (.iconst 1, 1) := by decide +kernel
theorem d_M_keepNames_229 : decode prog_11_method_30_code 229 = .ok (.iadd, 1) := by decide +kernel
theorem d_M_keepNames_230 : decode prog_11_method_30_code 230 = .ok (.putfield 234, 3) := by decide +kernel
theorem d_M_keepNames_233 : decode prog_11_method_30_code 233 = .ok (.iinc 1 1, 3) := by decide +kernel
theorem d_M_keepNames_236 : decode prog_11_method_30_code 236 = .ok (.goto (-94), 3) := by decide +kernel
theorem d_M_keepNames_239 : decode prog_11_method_30_code 239 = .ok (.return_, 1) := by decide +kernel
theorem d_M_fault_0 : decode prog_11_method_31_code 0 = .ok (.aload_n 0, 1) := by decide +kernel
theorem d_M_fault_1 : decode prog_11_method_31_code 1 = .ok (.iconst 0, 1) := by decide +kernel
theorem d_M_fault_2 : decode prog_11_method_31_code 2 = .ok (.iload_n 1, 1) := by decide +kernel
theorem d_M_fault_3 : decode prog_11_method_31_code 3 = .ok (.ifCond .ne 10, 3) := by decide +kernel
theorem d_M_fault_6 : decode prog_11_method_31_code 6 = .ok (.aload_n 0, 1) := by decide +kernel
theorem d_M_fault_7 : decode prog_11_method_31_code 7 = .ok (.getfield 178, 3) := by decide +kernel
theorem d_M_fault_10 : decode prog_11_method_31_code 10 = .ok (.goto 28, 3) := by decide +kernel
theorem d_M_fault_13 : decode prog_11_method_31_code 13 = .ok (.iload_n 1, 1) := by decide +kernel
theorem d_M_fault_14 : decode prog_11_method_31_code 14 = .ok (.iconst 1, 1) := by decide +kernel
theorem d_M_fault_15 : decode prog_11_method_31_code 15 = .ok (.if_icmp .ne 10, 3) := by decide +kernel
theorem d_M_fault_18 : decode prog_11_method_31_code 18 = .ok (.aload_n 0, 1) := by decide +kernel
theorem d_M_fault_19 : decode prog_11_method_31_code 19 = .ok (.getfield 181, 3) := by decide +kernel
theorem d_M_fault_22 : decode prog_11_method_31_code 22 = .ok (.goto 16, 3) := by decide +kernel
theorem d_M_fault_25 : decode prog_11_method_31_code 25 = .ok (.iload_n 1, 1) := by decide +kernel
theorem d_M_fault_26 : decode prog_11_method_31_code 26 = .ok (.iconst 2, 1) := by decide +kernel
theorem d_M_fault_27 : decode prog_11_method_31_code 27 = .ok (.if_icmp .ne 10, 3) := by decide +kernel
theorem d_M_fault_30 : decode prog_11_method_31_code 30 = .ok (.aload_n 0, 1) := by decide +kernel
theorem d_M_fault_31 : decode prog_11_method_31_code 31 = .ok (.getfield 95, 3) := by decide +kernel
theorem d_M_fault_34 : decode prog_11_method_31_code 34 = .ok (.goto 4, 3) := by decide +kernel
theorem d_M_fault_37 : decode prog_11_method_31_code 37 = .ok (.iconst (-1), 1) := by decide +kernel
theorem d_M_fault_38 : decode prog_11_method_31_code 38 = .ok (.invokevirtual 210, 3) := by decide +kernel
theorem d_M_fault_41 : decode prog_11_method_31_code 41 = .ok (.ireturn, 1) := by decide +kernel
theorem d_M_needed_0 : decode prog_11_method_32_code 0 = .ok (.aload_n 0, 1) := by decide +kernel
theorem d_M_needed_1 : decode prog_11_method_32_code 1 = .ok (.iconst 0, 1) := by decide +kernel
theorem d_M_needed_2 : decode prog_11_method_32_code 2 = .ok (.putfield 123, 3) := by decide +kernel
theorem d_M_needed_5 : decode prog_11_method_32_code 5 = .ok (.iload_n 1, 1) := by decide +kernel
theorem d_M_needed_6 : decode prog_11_method_32_code 6 = .ok (.ifCond .lt 20, 3) := by decide +kernel
theorem d_M_needed_9 : decode prog_11_method_32_code 9 = .ok (.iload_n 1, 1) := by decide +kernel
theorem d_M_needed_10 : decode prog_11_method_32_code 10 = .ok (.aload_n 0, 1) := by decide +kernel
theorem d_M_needed_11 : decode prog_11_method_32_code 11 = .ok (.getfield 126, 3) := by decide +kernel
theorem d_M_needed_14 : decode prog_11_method_32_code 14 = .ok (.if_icmp .ge 12, 3) := by decide +kernel
theorem d_M_needed_17 : decode prog_11_method_32_code 17 = .ok (.iload_n 2, 1) := by decide +kernel
theorem d_M_needed_18 : decode prog_11_method_32_code 18 = .ok (.ifCond .lt 8, 3) := by decide +kernel
theorem d_M_needed_21 : decode prog_11_method_32_code 21 = .ok (.iload_n 2, 1) := by decide +kernel
theorem d_M_needed_22 : decode prog_11_method_32_code 22 = .ok (.iconst 3, 1) := by decide +kernel
theorem d_M_needed_23 : decode prog_11_method_32_code 23 = .ok (.if_icmp .le 5, 3) := by decide +kernel
theorem d_M_needed_26 : decode prog_11_method_32_code 26 = .ok (.iconst (-1), 1) := by decide +kernel
theorem d_M_needed_27 : decode prog_11_method_32_code 27 = .ok (.ireturn, 1) := by decide +kernel
theorem d_M_needed_28 : decode prog_11_method_32_code 28 = .ok (.iload_n 1, 1) := by decide +kernel
theorem d_M_needed_29 : decode prog_11_method_32_code 29 = .ok (.aload_n 0, 1) := by decide +kernel
theorem d_M_needed_30 : decode prog_11_method_32_code 30 = .ok (.getfield 141, 3) := by decide +kernel
theorem d_M_needed_33 : decode prog_11_method_32_code 33 = .ok (.if_icmp .ge 20, 3) := by decide +kernel
theorem d_M_needed_36 : decode prog_11_method_32_code 36 = .ok (.aload_n 0, 1) := by decide +kernel
theorem d_M_needed_37 : decode prog_11_method_32_code 37 = .ok (.getfield 99, 3) := by decide +kernel
theorem d_M_needed_40 : decode prog_11_method_32_code 40 = .ok (.iconst 4, 1) := by decide +kernel
theorem d_M_needed_41 : decode prog_11_method_32_code 41 = .ok (.iload_n 1, 1) := by decide +kernel
theorem d_M_needed_42 : decode prog_11_method_32_code 42 = .ok (.imul, 1) := by decide +kernel
theorem d_M_needed_43 : decode prog_11_method_32_code 43 = .ok (.iload_n 2, 1) := by decide +kernel
theorem d_M_needed_44 : decode prog_11_method_32_code 44 = .ok (.iadd, 1) := by decide +kernel
theorem d_M_needed_45 : decode prog_11_method_32_code 45 = .ok (.baload, 1) := by decide +kernel
theorem d_M_needed_46 : decode prog_11_method_32_code 46 = .ok (.ifCond .eq 7, 3) := by decide +kernel
theorem d_M_needed_49 : decode prog_11_method_32_code 49 = .ok (.iconst 1, 1) := by decide +kernel
theorem d_M_needed_50 : decode prog_11_method_32_code 50 = .ok (.goto 4, 3) := by decide +kernel
theorem d_M_needed_53 : decode prog_11_method_32_code 53 = .ok (.iconst 0, 1) := by decide +kernel
theorem d_M_needed_54 : decode prog_11_method_32_code 54 = .ok (.ireturn, 1) := by decide +kernel
theorem d_M_octet_0 : decode prog_11_method_33_code 0 = .ok (.aload_n 0, 1) := by decide +kernel
theorem d_M_octet_1 : decode prog_11_method_33_code 1 = .ok (.iconst 0, 1) := by decide +kernel
theorem d_M_octet_2 : decode prog_11_method_33_code 2 = .ok (.aload_n 0, 1) := by decide +kernel
theorem d_M_octet_3 : decode prog_11_method_33_code 3 = .ok (.getfield 224, 3) := by decide +kernel
theorem d_M_octet_6 : decode prog_11_method_33_code 6 = .ok (.ifCond .eq 28, 3) := by decide +kernel
theorem d_M_octet_9 : decode prog_11_method_33_code 9 = .ok (.iload_n 1, 1) := by decide +kernel
theorem d_M_octet_10 : decode prog_11_method_33_code 10 = .ok (.ifCond .lt 24, 3) := by decide +kernel
theorem d_M_octet_13 : decode prog_11_method_33_code 13 = .ok (.iload_n 1, 1) := by decide +kernel
theorem d_M_octet_14 : decode prog_11_method_33_code 14 = .ok (.aload_n 0, 1) := by decide +kernel
theorem d_M_octet_15 : decode prog_11_method_33_code 15 = .ok (.getfield 191, 3) := by decide +kernel
theorem d_M_octet_18 : decode prog_11_method_33_code 18 = .ok (.if_icmp .ge 16, 3) := by decide +kernel
theorem d_M_octet_21 : decode prog_11_method_33_code 21 = .ok (.aload_n 0, 1) := by decide +kernel
theorem d_M_octet_22 : decode prog_11_method_33_code 22 = .ok (.getfield 102, 3) := by decide +kernel
theorem d_M_octet_25 : decode prog_11_method_33_code 25 = .ok (.iload_n 1, 1) := by decide +kernel
theorem d_M_octet_26 : decode prog_11_method_33_code 26 = .ok (.baload, 1) := by decide +kernel
theorem d_M_octet_27 : decode prog_11_method_33_code 27 = .ok (.sipush 255, 3) := by decide +kernel
theorem d_M_octet_30 : decode prog_11_method_33_code 30 = .ok (.iand, 1) := by decide +kernel
theorem d_M_octet_31 : decode prog_11_method_33_code 31 = .ok (.goto 4, 3) := by decide +kernel
theorem d_M_octet_34 : decode prog_11_method_33_code 34 = .ok (.iconst (-1), 1) := by decide +kernel
theorem d_M_octet_35 : decode prog_11_method_33_code 35 = .ok (.invokevirtual 210, 3) := by decide +kernel
theorem d_M_octet_38 : decode prog_11_method_33_code 38 = .ok (.ireturn, 1) := by decide +kernel
theorem d_M_address_0 : decode prog_11_method_34_code 0 = .ok (.iconst 0, 1) := by decide +kernel
theorem d_M_address_1 : decode prog_11_method_34_code 1 = .ok (.istore 4, 2) := by decide +kernel
theorem d_M_address_3 : decode prog_11_method_34_code 3 = .ok (.iload 4, 2) := by decide +kernel
theorem d_M_address_5 : decode prog_11_method_34_code 5 = .ok (.aload_n 0, 1) := by decide +kernel
theorem d_M_address_6 : decode prog_11_method_34_code 6 = .ok (.getfield 231, 3) := by decide +kernel
theorem d_M_address_9 : decode prog_11_method_34_code 9 = .ok (.if_icmp .ge 67, 3) := by decide +kernel
theorem d_M_address_12 : decode prog_11_method_34_code 12 = .ok (.aload_n 0, 1) := by decide +kernel
theorem d_M_address_13 : decode prog_11_method_34_code 13 = .ok (.getfield 224, 3) := by decide +kernel
theorem d_M_address_16 : decode prog_11_method_34_code 16 = .ok (.ifCond .eq 60, 3) := by decide +kernel
theorem d_M_address_19 : decode prog_11_method_34_code 19 = .ok (.iload_n 3, 1) := by decide +kernel
theorem d_M_address_20 : decode prog_11_method_34_code 20 = .ok (.iconst 1, 1) := by decide +kernel
theorem d_M_address_21 : decode prog_11_method_34_code 21 = .ok (.if_icmp .lt 55, 3) := by decide +kernel
theorem d_M_address_24 : decode prog_11_method_34_code 24 = .ok (.iload_n 3, 1) := by decide +kernel
theorem d_M_address_25 : decode prog_11_method_34_code 25 = .ok (.bipush 8, 2) := by decide +kernel
theorem d_M_address_27 : decode prog_11_method_34_code 27 = .ok (.if_icmp .gt 49, 3) := by decide +kernel
theorem d_M_address_30 : decode prog_11_method_34_code 30 = .ok (.aload_n 0, 1) := by decide +kernel
theorem d_M_address_31 : decode prog_11_method_34_code 31 = .ok (.getfield 111, 3) := by decide +kernel
theorem d_M_address_34 : decode prog_11_method_34_code 34 = .ok (.iload 4, 2) := by decide +kernel
theorem d_M_address_36 : decode prog_11_method_34_code 36 = .ok (.iaload, 1) := by decide +kernel
theorem d_M_address_37 : decode prog_11_method_34_code 37 = .ok (.iload_n 3, 1) := by decide +kernel
theorem d_M_address_38 : decode prog_11_method_34_code 38 = .ok (.if_icmp .ne 32, 3) := by decide +kernel
theorem d_M_address_41 : decode prog_11_method_34_code 41 = .ok (.aload_n 0, 1) := by decide +kernel
theorem d_M_address_42 : decode prog_11_method_34_code 42 = .ok (.getfield 108, 3) := by decide +kernel
theorem d_M_address_45 : decode prog_11_method_34_code 45 = .ok (.iload 4, 2) := by decide +kernel
theorem d_M_address_47 : decode prog_11_method_34_code 47 = .ok (.laload, 1) := by decide +kernel
theorem d_M_address_48 : decode prog_11_method_34_code 48 = .ok (.lload_n 1, 1) := by decide +kernel
theorem d_M_address_49 : decode prog_11_method_34_code 49 = .ok (.iload_n 3, 1) := by decide +kernel
theorem d_M_address_50 : decode prog_11_method_34_code 50 = .ok (.invokestatic 161, 3) := by decide +kernel
theorem d_M_address_53 : decode prog_11_method_34_code 53 = .ok (.lcmp, 1) := by decide +kernel
theorem d_M_address_54 : decode prog_11_method_34_code 54 = .ok (.ifCond .ne 16, 3) := by decide +kernel
theorem d_M_address_57 : decode prog_11_method_34_code 57 = .ok (.aload_n 0, 1) := by decide +kernel
theorem d_M_address_58 : decode prog_11_method_34_code 58 = .ok (.iconst 0, 1) := by decide +kernel
theorem d_M_address_59 : decode prog_11_method_34_code 59 = .ok (.aload_n 0, 1) := by decide +kernel
theorem d_M_address_60 : decode prog_11_method_34_code 60 = .ok (.getfield 114, 3) := by decide +kernel
theorem d_M_address_63 : decode prog_11_method_34_code 63 = .ok (.iload 4, 2) := by decide +kernel
theorem d_M_address_65 : decode prog_11_method_34_code 65 = .ok (.iaload, 1) := by decide +kernel
theorem d_M_address_66 : decode prog_11_method_34_code 66 = .ok (.invokevirtual 210, 3) := by decide +kernel
theorem d_M_address_69 : decode prog_11_method_34_code 69 = .ok (.ireturn, 1) := by decide +kernel
theorem d_M_address_70 : decode prog_11_method_34_code 70 = .ok (.iinc 4 1, 3) := by decide +kernel
theorem d_M_address_73 : decode prog_11_method_34_code 73 = .ok (.goto (-70), 3) := by decide +kernel
theorem d_M_address_76 : decode prog_11_method_34_code 76 = .ok (.aload_n 0, 1) := by decide +kernel
theorem d_M_address_77 : decode prog_11_method_34_code 77 = .ok (.iconst 1, 1) := by decide +kernel
theorem d_M_address_78 : decode prog_11_method_34_code 78 = .ok (.iconst 0, 1) := by decide +kernel
theorem d_M_address_79 : decode prog_11_method_34_code 79 = .ok (.invokevirtual 210, 3) := by decide +kernel
theorem d_M_address_82 : decode prog_11_method_34_code 82 = .ok (.ireturn, 1) := by decide +kernel
theorem d_M_line_0 : decode prog_11_method_35_code 0 = .ok (.aload_n 0, 1) := by decide +kernel
theorem d_M_line_1 : decode prog_11_method_35_code 1 = .ok (.iconst 0, 1) := by decide +kernel
theorem d_M_line_2 : decode prog_11_method_35_code 2 = .ok (.putfield 123, 3) := by decide +kernel
theorem d_M_line_5 : decode prog_11_method_35_code 5 = .ok (.aload_n 0, 1) := by decide +kernel
theorem d_M_line_6 : decode prog_11_method_35_code 6 = .ok (.getfield 234, 3) := by decide +kernel
theorem d_M_line_9 : decode prog_11_method_35_code 9 = .ok (.iconst 1, 1) := by decide +kernel
theorem d_M_line_10 : decode prog_11_method_35_code 10 = .ok (.isub, 1) := by decide +kernel
theorem d_M_line_11 : decode prog_11_method_35_code 11 = .ok (.istore_n 2, 1) := by decide +kernel
theorem d_M_line_12 : decode prog_11_method_35_code 12 = .ok (.iload_n 2, 1) := by decide +kernel
theorem d_M_line_13 : decode prog_11_method_35_code 13 = .ok (.ifCond .lt 33, 3) := by decide +kernel
theorem d_M_line_16 : decode prog_11_method_35_code 16 = .ok (.aload_n 0, 1) := by decide +kernel
theorem d_M_line_17 : decode prog_11_method_35_code 17 = .ok (.getfield 224, 3) := by decide +kernel
theorem d_M_line_20 : decode prog_11_method_35_code 20 = .ok (.ifCond .eq 26, 3) := by decide +kernel
theorem d_M_line_23 : decode prog_11_method_35_code 23 = .ok (.aload_n 0, 1) := by decide +kernel
theorem d_M_line_24 : decode prog_11_method_35_code 24 = .ok (.getfield 117, 3) := by decide +kernel
theorem d_M_line_27 : decode prog_11_method_35_code 27 = .ok (.iload_n 2, 1) := by decide +kernel
theorem d_M_line_28 : decode prog_11_method_35_code 28 = .ok (.iaload, 1) := by decide +kernel
theorem d_M_line_29 : decode prog_11_method_35_code 29 = .ok (.iload_n 1, 1) := by decide +kernel
theorem d_M_line_30 : decode prog_11_method_35_code 30 = .ok (.if_icmp .ne 10, 3) := by decide +kernel
theorem d_M_line_33 : decode prog_11_method_35_code 33 = .ok (.aload_n 0, 1) := by decide +kernel
theorem d_M_line_34 : decode prog_11_method_35_code 34 = .ok (.getfield 120, 3) := by decide +kernel
theorem d_M_line_37 : decode prog_11_method_35_code 37 = .ok (.iload_n 2, 1) := by decide +kernel
theorem d_M_line_38 : decode prog_11_method_35_code 38 = .ok (.iaload, 1) := by decide +kernel
theorem d_M_line_39 : decode prog_11_method_35_code 39 = .ok (.ireturn, 1) := by decide +kernel
theorem d_M_line_40 : decode prog_11_method_35_code 40 = .ok (.iinc 2 (-1), 3) := by decide +kernel
theorem d_M_line_43 : decode prog_11_method_35_code 43 = .ok (.goto (-31), 3) := by decide +kernel
theorem d_M_line_46 : decode prog_11_method_35_code 46 = .ok (.iconst (-1), 1) := by decide +kernel
theorem d_M_line_47 : decode prog_11_method_35_code 47 = .ok (.ireturn, 1) := by decide +kernel
theorem d_M_part_0 : decode prog_11_method_36_code 0 = .ok (.aload_n 0, 1) := by decide +kernel
theorem d_M_part_1 : decode prog_11_method_36_code 1 = .ok (.iconst 0, 1) := by decide +kernel
theorem d_M_part_2 : decode prog_11_method_36_code 2 = .ok (.iload_n 1, 1) := by decide +kernel
theorem d_M_part_3 : decode prog_11_method_36_code 3 = .ok (.ifCond .lt 9, 3) := by decide +kernel
theorem d_M_part_6 : decode prog_11_method_36_code 6 = .ok (.iload_n 1, 1) := by decide +kernel
theorem d_M_part_7 : decode prog_11_method_36_code 7 = .ok (.bipush 6, 2) := by decide +kernel
theorem d_M_part_9 : decode prog_11_method_36_code 9 = .ok (.if_icmp .le 7, 3) := by decide +kernel
theorem d_M_part_12 : decode prog_11_method_36_code 12 = .ok (.iconst (-1), 1) := by decide +kernel
theorem d_M_part_13 : decode prog_11_method_36_code 13 = .ok (.goto 20, 3) := by decide +kernel
theorem d_M_part_16 : decode prog_11_method_36_code 16 = .ok (.aload_n 0, 1) := by decide +kernel
theorem d_M_part_17 : decode prog_11_method_36_code 17 = .ok (.getfield 224, 3) := by decide +kernel
theorem d_M_part_20 : decode prog_11_method_36_code 20 = .ok (.ifCond .eq 12, 3) := by decide +kernel
theorem d_M_part_23 : decode prog_11_method_36_code 23 = .ok (.aload_n 0, 1) := by decide +kernel
theorem d_M_part_24 : decode prog_11_method_36_code 24 = .ok (.getfield 105, 3) := by decide +kernel
theorem d_M_part_27 : decode prog_11_method_36_code 27 = .ok (.iload_n 1, 1) := by decide +kernel
theorem d_M_part_28 : decode prog_11_method_36_code 28 = .ok (.iaload, 1) := by decide +kernel
theorem d_M_part_29 : decode prog_11_method_36_code 29 = .ok (.goto 4, 3) := by decide +kernel
theorem d_M_part_32 : decode prog_11_method_36_code 32 = .ok (.iconst 0, 1) := by decide +kernel
theorem d_M_part_33 : decode prog_11_method_36_code 33 = .ok (.invokevirtual 210, 3) := by decide +kernel
theorem d_M_part_36 : decode prog_11_method_36_code 36 = .ok (.ireturn, 1) := by decide +kernel
