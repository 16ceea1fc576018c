theorem d_M_init_0 : decode prog_14_method_1_code 0 = .ok (.aload_n 0, 1) := by decide +kernel
theorem d_M_init_1 : decode prog_14_method_1_code 1 = .ok (.invokespecial 1, 3) := by decide +kernel
theorem d_M_init_4 : decode prog_14_method_1_code 4 = .ok (.aload_n 0, 1) := by decide +kernel
theorem d_M_init_5 : decode prog_14_method_1_code 5 = .ok (.bipush 7, 2) := by decide +kernel
theorem d_M_init_7 : decode prog_14_method_1_code 7 = .ok (.newarray .int, 2) := by decide +kernel
theorem d_M_init_9 : decode prog_14_method_1_code 9 = .ok (.putfield 9, 3) := by decide +kernel
theorem d_M_init_12 : decode prog_14_method_1_code 12 = .ok (.aload_n 0, 1) := by decide +kernel
theorem d_M_init_13 : decode prog_14_method_1_code 13 = .ok (.bipush 20, 2) := by decide +kernel
theorem d_M_init_15 : decode prog_14_method_1_code 15 = .ok (.newarray .int, 2) := by decide +kernel
theorem d_M_init_17 : decode prog_14_method_1_code 17 = .ok (.putfield 13, 3) := by decide +kernel
theorem d_M_init_20 : decode prog_14_method_1_code 20 = .ok (.aload_n 0, 1) := by decide +kernel
theorem d_M_init_21 : decode prog_14_method_1_code 21 = .ok (.bipush 20, 2) := by decide +kernel
theorem d_M_init_23 : decode prog_14_method_1_code 23 = .ok (.newarray .int, 2) := by decide +kernel
theorem d_M_init_25 : decode prog_14_method_1_code 25 = .ok (.putfield 16, 3) := by decide +kernel
theorem d_M_init_28 : decode prog_14_method_1_code 28 = .ok (.aload_n 0, 1) := by decide +kernel
theorem d_M_init_29 : decode prog_14_method_1_code 29 = .ok (.bipush 20, 2) := by decide +kernel
theorem d_M_init_31 : decode prog_14_method_1_code 31 = .ok (.newarray .int, 2) := by decide +kernel
theorem d_M_init_33 : decode prog_14_method_1_code 33 = .ok (.putfield 19, 3) := by decide +kernel
theorem d_M_init_36 : decode prog_14_method_1_code 36 = .ok (.aload_n 0, 1) := by decide +kernel
theorem d_M_init_37 : decode prog_14_method_1_code 37 = .ok (.bipush 20, 2) := by decide +kernel
theorem d_M_init_39 : decode prog_14_method_1_code 39 = .ok (.newarray .int, 2) := by decide +kernel
theorem d_M_init_41 : decode prog_14_method_1_code 41 = .ok (.putfield 22, 3) := by decide +kernel
theorem d_M_init_44 : decode prog_14_method_1_code 44 = .ok (.aload_n 0, 1) := by decide +kernel
theorem d_M_init_45 : decode prog_14_method_1_code 45 = .ok (.bipush 20, 2) := by decide +kernel
theorem d_M_init_47 : decode prog_14_method_1_code 47 = .ok (.newarray .int, 2) := by decide +kernel
theorem d_M_init_49 : decode prog_14_method_1_code 49 = .ok (.putfield 25, 3) := by decide +kernel
theorem d_M_init_52 : decode prog_14_method_1_code 52 = .ok (.aload_n 0, 1) := by decide +kernel
theorem d_M_init_53 : decode prog_14_method_1_code 53 = .ok (.bipush 35, 2) := by decide +kernel
theorem d_M_init_55 : decode prog_14_method_1_code 55 = .ok (.newarray .int, 2) := by decide +kernel
theorem d_M_init_57 : decode prog_14_method_1_code 57 = .ok (.putfield 28, 3) := by decide +kernel
theorem d_M_init_60 : decode prog_14_method_1_code 60 = .ok (.aload_n 0, 1) := by decide +kernel
theorem d_M_init_61 : decode prog_14_method_1_code 61 = .ok (.bipush 7, 2) := by decide +kernel
theorem d_M_init_63 : decode prog_14_method_1_code 63 = .ok (.newarray .int, 2) := by decide +kernel
theorem d_M_init_65 : decode prog_14_method_1_code 65 = .ok (.putfield 31, 3) := by decide +kernel
theorem d_M_init_68 : decode prog_14_method_1_code 68 = .ok (.aload_n 0, 1) := by decide +kernel
theorem d_M_init_69 : decode prog_14_method_1_code 69 = .ok (.iconst 2, 1) := by decide +kernel
theorem d_M_init_70 : decode prog_14_method_1_code 70 = .ok (.newarray .int, 2) := by decide +kernel
theorem d_M_init_72 : decode prog_14_method_1_code 72 = .ok (.putfield 34, 3) := by decide +kernel
theorem d_M_init_75 : decode prog_14_method_1_code 75 = .ok (.aload_n 0, 1) := by decide +kernel
theorem d_M_init_76 : decode prog_14_method_1_code 76 = .ok (.iconst 2, 1) := by decide +kernel
theorem d_M_init_77 : decode prog_14_method_1_code 77 = .ok (.newarray .int, 2) := by decide +kernel
theorem d_M_init_79 : decode prog_14_method_1_code 79 = .ok (.putfield 37, 3) := by decide +kernel
theorem d_M_init_82 : decode prog_14_method_1_code 82 = .ok (.aload_n 0, 1) := by decide +kernel
theorem d_M_init_83 : decode prog_14_method_1_code 83 = .ok (.bipush 16, 2) := by decide +kernel
theorem d_M_init_85 : decode prog_14_method_1_code 85 = .ok (.newarray .int, 2) := by decide +kernel
theorem d_M_init_87 : decode prog_14_method_1_code 87 = .ok (.putfield 40, 3) := by decide +kernel
theorem d_M_init_90 : decode prog_14_method_1_code 90 = .ok (.aload_n 0, 1) := by decide +kernel
theorem d_M_init_91 : decode prog_14_method_1_code 91 = .ok (.bipush 16, 2) := by decide +kernel
theorem d_M_init_93 : decode prog_14_method_1_code 93 = .ok (.newarray .int, 2) := by decide +kernel
theorem d_M_init_95 : decode prog_14_method_1_code 95 = .ok (.putfield 43, 3) := by decide +kernel
theorem d_M_init_98 : decode prog_14_method_1_code 98 = .ok (.aload_n 0, 1) := by decide +kernel
theorem d_M_init_99 : decode prog_14_method_1_code 99 = .ok (.iconst 2, 1) := by decide +kernel
theorem d_M_init_100 : decode prog_14_method_1_code 100 = .ok (.newarray .int, 2) := by decide +kernel
theorem d_M_init_102 : decode prog_14_method_1_code 102 = .ok (.putfield 46, 3) := by decide +kernel
theorem d_M_init_105 : decode prog_14_method_1_code 105 = .ok (.aload_n 0, 1) := by decide +kernel
theorem d_M_init_106 : decode prog_14_method_1_code 106 = .ok (.iconst 4, 1) := by decide +kernel
theorem d_M_init_107 : decode prog_14_method_1_code 107 = .ok (.newarray .boolean, 2) := by decide +kernel
theorem d_M_init_109 : decode prog_14_method_1_code 109 = .ok (.putfield 49, 3) := by decide +kernel
theorem d_M_init_112 : decode prog_14_method_1_code 112 = .ok (.aload_n 0, 1) := by decide +kernel
theorem d_M_init_113 : decode prog_14_method_1_code 113 = .ok (.iconst 4, 1) := by decide +kernel
theorem d_M_init_114 : decode prog_14_method_1_code 114 = .ok (.newarray .int, 2) := by decide +kernel
theorem d_M_init_116 : decode prog_14_method_1_code 116 = .ok (.putfield 53, 3) := by decide +kernel
theorem d_M_init_119 : decode prog_14_method_1_code 119 = .ok (.aload_n 0, 1) := by decide +kernel
theorem d_M_init_120 : decode prog_14_method_1_code 120 = .ok (.iconst 4, 1) := by decide +kernel
theorem d_M_init_121 : decode prog_14_method_1_code 121 = .ok (.newarray .int, 2) := by decide +kernel
theorem d_M_init_123 : decode prog_14_method_1_code 123 = .ok (.putfield 56, 3) := by decide +kernel
theorem d_M_init_126 : decode prog_14_method_1_code 126 = .ok (.aload_n 0, 1) := by decide +kernel
theorem d_M_init_127 : decode prog_14_method_1_code 127 = .ok (.bipush 20, 2) := by decide +kernel
theorem d_M_init_129 : decode prog_14_method_1_code 129 = .ok (.newarray .int, 2) := by decide +kernel
theorem d_M_init_131 : decode prog_14_method_1_code 131 = .ok (.putfield 59, 3) := by decide +kernel
theorem d_M_init_134 : decode prog_14_method_1_code 134 = .ok (.aload_n 0, 1) := by decide +kernel
theorem d_M_init_135 : decode prog_14_method_1_code 135 = .ok (.iconst 4, 1) := by decide +kernel
theorem d_M_init_136 : decode prog_14_method_1_code 136 = .ok (.newarray .int, 2) := by decide +kernel
theorem d_M_init_138 : decode prog_14_method_1_code 138 = .ok (.putfield 62, 3) := by decide +kernel
theorem d_M_init_141 : decode prog_14_method_1_code 141 = .ok (.aload_n 0, 1) := by decide +kernel
theorem d_M_init_142 : decode prog_14_method_1_code 142 = .ok (.bipush 120, 2) := by decide +kernel
theorem d_M_init_144 : decode prog_14_method_1_code 144 = .ok (.newarray .int, 2) := by decide +kernel
theorem d_M_init_146 : decode prog_14_method_1_code 146 = .ok (.putfield 65, 3) := by decide +kernel
theorem d_M_init_149 : decode prog_14_method_1_code 149 = .ok (.aload_n 0, 1) := by decide +kernel
theorem d_M_init_150 : decode prog_14_method_1_code 150 = .ok (.bipush 120, 2) := by decide +kernel
theorem d_M_init_152 : decode prog_14_method_1_code 152 = .ok (.newarray .int, 2) := by decide +kernel
theorem d_M_init_154 : decode prog_14_method_1_code 154 = .ok (.putfield 68, 3) := by decide +kernel
theorem d_M_init_157 : decode prog_14_method_1_code 157 = .ok (.aload_n 0, 1) := by decide +kernel
theorem d_M_init_158 : decode prog_14_method_1_code 158 = .ok (.iconst 4, 1) := by decide +kernel
theorem d_M_init_159 : decode prog_14_method_1_code 159 = .ok (.newarray .int, 2) := by decide +kernel
theorem d_M_init_161 : decode prog_14_method_1_code 161 = .ok (.putfield 71, 3) := by decide +kernel
theorem d_M_init_164 : decode prog_14_method_1_code 164 = .ok (.aload_n 0, 1) := by decide +kernel
theorem d_M_init_165 : decode prog_14_method_1_code 165 = .ok (.bipush 120, 2) := by decide +kernel
theorem d_M_init_167 : decode prog_14_method_1_code 167 = .ok (.newarray .int, 2) := by decide +kernel
theorem d_M_init_169 : decode prog_14_method_1_code 169 = .ok (.putfield 74, 3) := by decide +kernel
theorem d_M_init_172 : decode prog_14_method_1_code 172 = .ok (.aload_n 0, 1) := by decide +kernel
theorem d_M_init_173 : decode prog_14_method_1_code 173 = .ok (.iconst 4, 1) := by decide +kernel
theorem d_M_init_174 : decode prog_14_method_1_code 174 = .ok (.newarray .int, 2) := by decide +kernel
theorem d_M_init_176 : decode prog_14_method_1_code 176 = .ok (.putfield 77, 3) := by decide +kernel
theorem d_M_init_179 : decode prog_14_method_1_code 179 = .ok (.aload_n 0, 1) := by decide +kernel
theorem d_M_init_180 : decode prog_14_method_1_code 180 = .ok (.bipush 120, 2) := by decide +kernel
theorem d_M_init_182 : decode prog_14_method_1_code 182 = .ok (.newarray .int, 2) := by decide +kernel
theorem d_M_init_184 : decode prog_14_method_1_code 184 = .ok (.putfield 80, 3) := by decide +kernel
theorem d_M_init_187 : decode prog_14_method_1_code 187 = .ok (.aload_n 0, 1) := by decide +kernel
theorem d_M_init_188 : decode prog_14_method_1_code 188 = .ok (.iconst 4, 1) := by decide +kernel
theorem d_M_init_189 : decode prog_14_method_1_code 189 = .ok (.newarray .int, 2) := by decide +kernel
theorem d_M_init_191 : decode prog_14_method_1_code 191 = .ok (.putfield 83, 3) := by decide +kernel
theorem d_M_init_194 : decode prog_14_method_1_code 194 = .ok (.aload_n 0, 1) := by decide +kernel
theorem d_M_init_195 : decode prog_14_method_1_code 195 = .ok (.bipush 100, 2) := by decide +kernel
theorem d_M_init_197 : decode prog_14_method_1_code 197 = .ok (.newarray .byte, 2) := by decide +kernel
theorem d_M_init_199 : decode prog_14_method_1_code 199 = .ok (.putfield 86, 3) := by decide +kernel
theorem d_M_init_202 : decode prog_14_method_1_code 202 = .ok (.aload_n 0, 1) := by decide +kernel
theorem d_M_init_203 : decode prog_14_method_1_code 203 = .ok (.bipush 40, 2) := by decide +kernel
theorem d_M_init_205 : decode prog_14_method_1_code 205 = .ok (.newarray .int, 2) := by decide +kernel
theorem d_M_init_207 : decode prog_14_method_1_code 207 = .ok (.putfield 90, 3) := by decide +kernel
theorem d_M_init_210 : decode prog_14_method_1_code 210 = .ok (.aload_n 0, 1) := by decide +kernel
theorem d_M_init_211 : decode prog_14_method_1_code 211 = .ok (.bipush 32, 2) := by decide +kernel
theorem d_M_init_213 : decode prog_14_method_1_code 213 = .ok (.newarray .int, 2) := by decide +kernel
theorem d_M_init_215 : decode prog_14_method_1_code 215 = .ok (.putfield 93, 3) := by decide +kernel
theorem d_M_init_218 : decode prog_14_method_1_code 218 = .ok (.aload_n 0, 1) := by decide +kernel
theorem d_M_init_219 : decode prog_14_method_1_code 219 = .ok (.iconst 4, 1) := by decide +kernel
theorem d_M_init_220 : decode prog_14_method_1_code 220 = .ok (.newarray .int, 2) := by decide +kernel
theorem d_M_init_222 : decode prog_14_method_1_code 222 = .ok (.putfield 96, 3) := by decide +kernel
theorem d_M_init_225 : decode prog_14_method_1_code 225 = .ok (.aload_n 0, 1) := by decide +kernel
theorem d_M_init_226 : decode prog_14_method_1_code 226 = .ok (.sipush 1024, 3) := by decide +kernel
theorem d_M_init_229 : decode prog_14_method_1_code 229 = .ok (.newarray .int, 2) := by decide +kernel
theorem d_M_init_231 : decode prog_14_method_1_code 231 = .ok (.putfield 99, 3) := by decide +kernel
theorem d_M_init_234 : decode prog_14_method_1_code 234 = .ok (.aload_n 0, 1) := by decide +kernel
theorem d_M_init_235 : decode prog_14_method_1_code 235 = .ok (.iconst 5, 1) := by decide +kernel
theorem d_M_init_236 : decode prog_14_method_1_code 236 = .ok (.newarray .int, 2) := by decide +kernel
theorem d_M_init_238 : decode prog_14_method_1_code 238 = .ok (.putfield 102, 3) := by decide +kernel
theorem d_M_init_241 : decode prog_14_method_1_code 241 = .ok (.aload_n 0, 1) := by decide +kernel
theorem d_M_init_242 : decode prog_14_method_1_code 242 = .ok (.bipush 30, 2) := by decide +kernel
theorem d_M_init_244 : decode prog_14_method_1_code 244 = .ok (.newarray .int, 2) := by decide +kernel
theorem d_M_init_246 : decode prog_14_method_1_code 246 = .ok (.putfield 105, 3) := by decide +kernel
theorem d_M_init_249 : decode prog_14_method_1_code 249 = .ok (.aload_n 0, 1) := by decide +kernel
theorem d_M_init_250 : decode prog_14_method_1_code 250 = .ok (.bipush 30, 2) := by decide +kernel
theorem d_M_init_252 : decode prog_14_method_1_code 252 = .ok (.newarray .int, 2) := by decide +kernel
theorem d_M_init_254 : decode prog_14_method_1_code 254 = .ok (.putfield 108, 3) := by decide +kernel
theorem d_M_init_257 : decode prog_14_method_1_code 257 = .ok (.aload_n 0, 1) := by decide +kernel
theorem d_M_init_258 : decode prog_14_method_1_code 258 = .ok (.bipush 30, 2) := by decide +kernel
theorem d_M_init_260 : decode prog_14_method_1_code 260 = .ok (.newarray .int, 2) := by decide +kernel
theorem d_M_init_262 : decode prog_14_method_1_code 262 = .ok (.putfield 111, 3) := by decide +kernel
theorem d_M_init_265 : decode prog_14_method_1_code 265 = .ok (.aload_n 0, 1) := by decide +kernel
theorem d_M_init_266 : decode prog_14_method_1_code 266 = .ok (.bipush 30, 2) := by decide +kernel
theorem d_M_init_268 : decode prog_14_method_1_code 268 = .ok (.newarray .int, 2) := by decide +kernel
theorem d_M_init_270 : decode prog_14_method_1_code 270 = .ok (.putfield 114, 3) := by decide +kernel
theorem d_M_init_273 : decode prog_14_method_1_code 273 = .ok (.aload_n 0, 1) := by decide +kernel
theorem d_M_init_274 : decode prog_14_method_1_code 274 = .ok (.sipush 256, 3) := by decide +kernel
theorem d_M_init_277 : decode prog_14_method_1_code 277 = .ok (.newarray .boolean, 2) := by decide +kernel
theorem d_M_init_279 : decode prog_14_method_1_code 279 = .ok (.putfield 117, 3) := by decide +kernel
theorem d_M_init_282 : decode prog_14_method_1_code 282 = .ok (.aload_n 0, 1) := by decide +kernel
theorem d_M_init_283 : decode prog_14_method_1_code 283 = .ok (.bipush 7, 2) := by decide +kernel
theorem d_M_init_285 : decode prog_14_method_1_code 285 = .ok (.newarray .int, 2) := by decide +kernel
theorem d_M_init_287 : decode prog_14_method_1_code 287 = .ok (.putfield 120, 3) := by decide +kernel
theorem d_M_init_290 : decode prog_14_method_1_code 290 = .ok (.aload_n 0, 1) := by decide +kernel
theorem d_M_init_291 : decode prog_14_method_1_code 291 = .ok (.iconst (-1), 1) := by decide +kernel
theorem d_M_init_292 : decode prog_14_method_1_code 292 = .ok (.putfield 123, 3) := by decide +kernel
theorem d_M_init_295 : decode prog_14_method_1_code 295 = .ok (.aload_n 0, 1) := by decide +kernel
theorem d_M_init_296 : decode prog_14_method_1_code 296 = .ok (.iconst 5, 1) := by decide +kernel
theorem d_M_init_297 : decode prog_14_method_1_code 297 = .ok (.newarray .int, 2) := by decide +kernel
theorem d_M_init_299 : decode prog_14_method_1_code 299 = .ok (.putfield 127, 3) := by decide +kernel
theorem d_M_init_302 : decode prog_14_method_1_code 302 = .ok (.aload_n 0, 1) := by decide +kernel
theorem d_M_init_303 : decode prog_14_method_1_code 303 = .ok (.iconst (-1), 1) := by decide +kernel
theorem d_M_init_304 : decode prog_14_method_1_code 304 = .ok (.putfield 130, 3) := by decide +kernel
theorem d_M_init_307 : decode prog_14_method_1_code 307 = .ok (.aload_n 0, 1) := by decide +kernel
theorem d_M_init_308 : decode prog_14_method_1_code 308 = .ok (.iconst (-1), 1) := by decide +kernel
theorem d_M_init_309 : decode prog_14_method_1_code 309 = .ok (.putfield 133, 3) := by decide +kernel
theorem d_M_init_312 : decode prog_14_method_1_code 312 = .ok (.aload_n 0, 1) := by decide +kernel
theorem d_M_init_313 : decode prog_14_method_1_code 313 = .ok (.sipush 12300, 3) := by decide +kernel
theorem d_M_init_316 : decode prog_14_method_1_code 316 = .ok (.newarray .int, 2) := by decide +kernel
theorem d_M_init_318 : decode prog_14_method_1_code 318 = .ok (.putfield 136, 3) := by decide +kernel
theorem d_M_init_321 : decode prog_14_method_1_code 321 = .ok (.aload_n 0, 1) := by decide +kernel
theorem d_M_init_322 : decode prog_14_method_1_code 322 = .ok (.sipush 12300, 3) := by decide +kernel
theorem d_M_init_325 : decode prog_14_method_1_code 325 = .ok (.newarray .int, 2) := by decide +kernel
theorem d_M_init_327 : decode prog_14_method_1_code 327 = .ok (.putfield 139, 3) := by decide +kernel
theorem d_M_init_330 : decode prog_14_method_1_code 330 = .ok (.aload_n 0, 1) := by decide +kernel
theorem d_M_init_331 : decode prog_14_method_1_code 331 = .ok (.sipush 12300, 3) := by decide +kernel
theorem d_M_init_334 : decode prog_14_method_1_code 334 = .ok (.newarray .int, 2) := by decide +kernel
theorem d_M_init_336 : decode prog_14_method_1_code 336 = .ok (.putfield 142, 3) := by decide +kernel
theorem d_M_init_339 : decode prog_14_method_1_code 339 = .ok (.aload_n 0, 1) := by decide +kernel
theorem d_M_init_340 : decode prog_14_method_1_code 340 = .ok (.iconst 4, 1) := by decide +kernel
theorem d_M_init_341 : decode prog_14_method_1_code 341 = .ok (.newarray .int, 2) := by decide +kernel
theorem d_M_init_343 : decode prog_14_method_1_code 343 = .ok (.putfield 145, 3) := by decide +kernel
theorem d_M_init_346 : decode prog_14_method_1_code 346 = .ok (.return_, 1) := by decide +kernel
theorem d_M_thrown_0 : decode prog_14_method_2_code 0 = .ok (.aload_n 0, 1) := by decide +kernel
theorem d_M_thrown_1 : decode prog_14_method_2_code 1 = .ok (.getfield 148, 3) := by decide +kernel
theorem d_M_thrown_4 : decode prog_14_method_2_code 4 = .ok (.ireturn, 1) := by decide +kernel
theorem d_M_in_0 : decode prog_14_method_3_code 0 = .ok (.iload_n 0, 1) := by decide +kernel
theorem d_M_in_1 : decode prog_14_method_3_code 1 = .ok (.iload_n 1, 1) := by decide +kernel
theorem d_M_in_2 : decode prog_14_method_3_code 2 = .ok (.if_icmp .lt 12, 3) := by decide +kernel
theorem d_M_in_5 : decode prog_14_method_3_code 5 = .ok (.iload_n 0, 1) := by decide +kernel
theorem d_M_in_6 : decode prog_14_method_3_code 6 = .ok (.iload_n 2, 1) := by decide +kernel
theorem d_M_in_7 : decode prog_14_method_3_code 7 = .ok (.if_icmp .gt 7, 3) := by decide +kernel
theorem d_M_in_10 : decode prog_14_method_3_code 10 = .ok (.iconst 1, 1) := by decide +kernel
theorem d_M_in_11 : decode prog_14_method_3_code 11 = .ok (.goto 4, 3) := by decide +kernel
theorem d_M_in_14 : decode prog_14_method_3_code 14 = .ok (.iconst 0, 1) := by decide +kernel
theorem d_M_in_15 : decode prog_14_method_3_code 15 = .ok (.ireturn, 1) := by decide +kernel
theorem d_M_lost_0 : decode prog_14_method_4_code 0 = .ok (.aload_n 0, 1) := by decide +kernel
theorem d_M_lost_1 : decode prog_14_method_4_code 1 = .ok (.iconst 1, 1) := by decide +kernel
theorem d_M_lost_2 : decode prog_14_method_4_code 2 = .ok (.putfield 148, 3) := by decide +kernel
theorem d_M_lost_5 : decode prog_14_method_4_code 5 = .ok (.iconst 0, 1) := by decide +kernel
theorem d_M_lost_6 : decode prog_14_method_4_code 6 = .ok (.ireturn, 1) := by decide +kernel
theorem d_M_isPerson_0 : decode prog_14_method_5_code 0 = .ok (.iload_n 1, 1) := by decide +kernel
theorem d_M_isPerson_1 : decode prog_14_method_5_code 1 = .ok (.iconst 0, 1) := by decide +kernel
theorem d_M_isPerson_2 : decode prog_14_method_5_code 2 = .ok (.aload_n 0, 1) := by decide +kernel
theorem d_M_isPerson_3 : decode prog_14_method_5_code 3 = .ok (.getfield 151, 3) := by decide +kernel
theorem d_M_isPerson_6 : decode prog_14_method_5_code 6 = .ok (.iconst 1, 1) := by decide +kernel
theorem d_M_isPerson_7 : decode prog_14_method_5_code 7 = .ok (.isub, 1) := by decide +kernel
theorem d_M_isPerson_8 : decode prog_14_method_5_code 8 = .ok (.invokestatic 154, 3) := by decide +kernel
theorem d_M_isPerson_11 : decode prog_14_method_5_code 11 = .ok (.ireturn, 1) := by decide +kernel
theorem d_M_isOffice_0 : decode prog_14_method_6_code 0 = .ok (.iload_n 1, 1) := by decide +kernel
theorem d_M_isOffice_1 : decode prog_14_method_6_code 1 = .ok (.iconst 0, 1) := by decide +kernel
theorem d_M_isOffice_2 : decode prog_14_method_6_code 2 = .ok (.aload_n 0, 1) := by decide +kernel
theorem d_M_isOffice_3 : decode prog_14_method_6_code 3 = .ok (.getfield 158, 3) := by decide +kernel
theorem d_M_isOffice_6 : decode prog_14_method_6_code 6 = .ok (.iconst 1, 1) := by decide +kernel
theorem d_M_isOffice_7 : decode prog_14_method_6_code 7 = .ok (.isub, 1) := by decide +kernel
theorem d_M_isOffice_8 : decode prog_14_method_6_code 8 = .ok (.invokestatic 154, 3) := by decide +kernel
theorem d_M_isOffice_11 : decode prog_14_method_6_code 11 = .ok (.ireturn, 1) := by decide +kernel
theorem d_M_isBond_0 : decode prog_14_method_7_code 0 = .ok (.iload_n 1, 1) := by decide +kernel
theorem d_M_isBond_1 : decode prog_14_method_7_code 1 = .ok (.iconst 0, 1) := by decide +kernel
theorem d_M_isBond_2 : decode prog_14_method_7_code 2 = .ok (.aload_n 0, 1) := by decide +kernel
theorem d_M_isBond_3 : decode prog_14_method_7_code 3 = .ok (.getfield 161, 3) := by decide +kernel
theorem d_M_isBond_6 : decode prog_14_method_7_code 6 = .ok (.iconst 1, 1) := by decide +kernel
theorem d_M_isBond_7 : decode prog_14_method_7_code 7 = .ok (.isub, 1) := by decide +kernel
theorem d_M_isBond_8 : decode prog_14_method_7_code 8 = .ok (.invokestatic 154, 3) := by decide +kernel
theorem d_M_isBond_11 : decode prog_14_method_7_code 11 = .ok (.ireturn, 1) := by decide +kernel
theorem d_M_isSet_0 : decode prog_14_method_8_code 0 = .ok (.iload_n 1, 1) := by decide +kernel
theorem d_M_isSet_1 : decode prog_14_method_8_code 1 = .ok (.iconst 0, 1) := by decide +kernel
theorem d_M_isSet_2 : decode prog_14_method_8_code 2 = .ok (.iconst 1, 1) := by decide +kernel
theorem d_M_isSet_3 : decode prog_14_method_8_code 3 = .ok (.aload_n 0, 1) := by decide +kernel
theorem d_M_isSet_4 : decode prog_14_method_8_code 4 = .ok (.getfield 161, 3) := by decide +kernel
theorem d_M_isSet_7 : decode prog_14_method_8_code 7 = .ok (.ishl, 1) := by decide +kernel
theorem d_M_isSet_8 : decode prog_14_method_8_code 8 = .ok (.iconst 1, 1) := by decide +kernel
theorem d_M_isSet_9 : decode prog_14_method_8_code 9 = .ok (.isub, 1) := by decide +kernel
theorem d_M_isSet_10 : decode prog_14_method_8_code 10 = .ok (.invokestatic 154, 3) := by decide +kernel
theorem d_M_isSet_13 : decode prog_14_method_8_code 13 = .ok (.ireturn, 1) := by decide +kernel
theorem d_M_has_0 : decode prog_14_method_9_code 0 = .ok (.iload_n 0, 1) := by decide +kernel
theorem d_M_has_1 : decode prog_14_method_9_code 1 = .ok (.iload_n 1, 1) := by decide +kernel
theorem d_M_has_2 : decode prog_14_method_9_code 2 = .ok (.ishr, 1) := by decide +kernel
theorem d_M_has_3 : decode prog_14_method_9_code 3 = .ok (.iconst 1, 1) := by decide +kernel
theorem d_M_has_4 : decode prog_14_method_9_code 4 = .ok (.iand, 1) := by decide +kernel
theorem d_M_has_5 : decode prog_14_method_9_code 5 = .ok (.iconst 1, 1) := by decide +kernel
theorem d_M_has_6 : decode prog_14_method_9_code 6 = .ok (.if_icmp .ne 7, 3) := by decide +kernel
theorem d_M_has_9 : decode prog_14_method_9_code 9 = .ok (.iconst 1, 1) := by decide +kernel
theorem d_M_has_10 : decode prog_14_method_9_code 10 = .ok (.goto 4, 3) := by decide +kernel
theorem d_M_has_13 : decode prog_14_method_9_code 13 = .ok (.iconst 0, 1) := by decide +kernel
theorem d_M_has_14 : decode prog_14_method_9_code 14 = .ok (.ireturn, 1) := by decide +kernel
theorem d_M_many_0 : decode prog_14_method_10_code 0 = .ok (.iload_n 0, 1) := by decide +kernel
theorem d_M_many_1 : decode prog_14_method_10_code 1 = .ok (.invokestatic 164, 3) := by decide +kernel
theorem d_M_many_4 : decode prog_14_method_10_code 4 = .ok (.ireturn, 1) := by decide +kernel
theorem d_M_tell_0 : decode prog_14_method_11_code 0 = .ok (.aload_n 0, 1) := by decide +kernel
theorem d_M_tell_1 : decode prog_14_method_11_code 1 = .ok (.getfield 90, 3) := by decide +kernel
theorem d_M_tell_4 : decode prog_14_method_11_code 4 = .ok (.aload_n 0, 1) := by decide +kernel
theorem d_M_tell_5 : decode prog_14_method_11_code 5 = .ok (.getfield 170, 3) := by decide +kernel
theorem d_M_tell_8 : decode prog_14_method_11_code 8 = .ok (.iload_n 1, 1) := by decide +kernel
theorem d_M_tell_9 : decode prog_14_method_11_code 9 = .ok (.iastore, 1) := by decide +kernel
theorem d_M_tell_10 : decode prog_14_method_11_code 10 = .ok (.aload_n 0, 1) := by decide +kernel
theorem d_M_tell_11 : decode prog_14_method_11_code 11 = .ok (.dup, 1) := by decide +kernel
theorem d_M_tell_12 : decode prog_14_method_11_code 12 = .ok (.getfield 170, 3) := by decide +kernel
theorem d_M_tell_15 : decode prog_14_method_11_code 15 = .ok (.iconst 1, 1) := by decide +kernel
theorem d_M_tell_16 : decode prog_14_method_11_code 16 = .ok (.iadd, 1) := by decide +kernel
theorem d_M_tell_17 : decode prog_14_method_11_code 17 = .ok (.putfield 170, 3) := by decide +kernel
theorem d_M_tell_20 : decode prog_14_method_11_code 20 = .ok (.return_, 1) := by decide +kernel
theorem d_M_person_0 : decode prog_14_method_12_code 0 = .ok (.aload_n 0, 1) := by decide +kernel
theorem d_M_person_1 : decode prog_14_method_12_code 1 = .ok (.iconst 0, 1) := by decide +kernel
theorem d_M_person_2 : decode prog_14_method_12_code 2 = .ok (.putfield 148, 3) := by decide +kernel
theorem d_M_person_5 : decode prog_14_method_12_code 5 = .ok (.iload_n 1, 1) := by decide +kernel
theorem d_M_person_6 : decode prog_14_method_12_code 6 = .ok (.iconst 0, 1) := by decide +kernel
theorem d_M_person_7 : decode prog_14_method_12_code 7 = .ok (.iconst 3, 1) := by decide +kernel
theorem d_M_person_8 : decode prog_14_method_12_code 8 = .ok (.invokestatic 154, 3) := by decide +kernel
theorem d_M_person_11 : decode prog_14_method_12_code 11 = .ok (.ifCond .eq 12, 3) := by decide +kernel
theorem d_M_person_14 : decode prog_14_method_12_code 14 = .ok (.aload_n 0, 1) := by decide +kernel
theorem d_M_person_15 : decode prog_14_method_12_code 15 = .ok (.getfield 151, 3) := by decide +kernel
theorem d_M_person_18 : decode prog_14_method_12_code 18 = .ok (.bipush 7, 2) := by decide +kernel
theorem d_M_person_20 : decode prog_14_method_12_code 20 = .ok (.if_icmp .ne 5, 3) := by decide +kernel
theorem d_M_person_23 : decode prog_14_method_12_code 23 = .ok (.iconst (-1), 1) := by decide +kernel
theorem d_M_person_24 : decode prog_14_method_12_code 24 = .ok (.ireturn, 1) := by decide +kernel
theorem d_M_person_25 : decode prog_14_method_12_code 25 = .ok (.aload_n 0, 1) := by decide +kernel
theorem d_M_person_26 : decode prog_14_method_12_code 26 = .ok (.getfield 9, 3) := by decide +kernel
theorem d_M_person_29 : decode prog_14_method_12_code 29 = .ok (.aload_n 0, 1) := by decide +kernel
theorem d_M_person_30 : decode prog_14_method_12_code 30 = .ok (.getfield 151, 3) := by decide +kernel
theorem d_M_person_33 : decode prog_14_method_12_code 33 = .ok (.iload_n 1, 1) := by decide +kernel
theorem d_M_person_34 : decode prog_14_method_12_code 34 = .ok (.iastore, 1) := by decide +kernel
theorem d_M_person_35 : decode prog_14_method_12_code 35 = .ok (.aload_n 0, 1) := by decide +kernel
theorem d_M_person_36 : decode prog_14_method_12_code 36 = .ok (.dup, 1) := by decide +kernel
theorem d_M_person_37 : decode prog_14_method_12_code 37 = .ok (.getfield 151, 3) := by decide +kernel
theorem d_M_person_40 : decode prog_14_method_12_code 40 = .ok (.iconst 1, 1) := by decide +kernel
theorem d_M_person_41 : decode prog_14_method_12_code 41 = .ok (.iadd, 1) := by decide +kernel
theorem d_M_person_42 : decode prog_14_method_12_code 42 = .ok (.putfield 151, 3) := by decide +kernel
theorem d_M_person_45 : decode prog_14_method_12_code 45 = .ok (.aload_n 0, 1) := by decide +kernel
theorem d_M_person_46 : decode prog_14_method_12_code 46 = .ok (.getfield 151, 3) := by decide +kernel
theorem d_M_person_49 : decode prog_14_method_12_code 49 = .ok (.iconst 1, 1) := by decide +kernel
theorem d_M_person_50 : decode prog_14_method_12_code 50 = .ok (.isub, 1) := by decide +kernel
theorem d_M_person_51 : decode prog_14_method_12_code 51 = .ok (.ireturn, 1) := by decide +kernel
theorem d_M_office_0 : decode prog_14_method_13_code 0 = .ok (.aload_n 0, 1) := by decide +kernel
theorem d_M_office_1 : decode prog_14_method_13_code 1 = .ok (.iconst 0, 1) := by decide +kernel
theorem d_M_office_2 : decode prog_14_method_13_code 2 = .ok (.putfield 148, 3) := by decide +kernel
theorem d_M_office_5 : decode prog_14_method_13_code 5 = .ok (.aload_n 0, 1) := by decide +kernel
theorem d_M_office_6 : decode prog_14_method_13_code 6 = .ok (.getfield 158, 3) := by decide +kernel
theorem d_M_office_9 : decode prog_14_method_13_code 9 = .ok (.iconst 4, 1) := by decide +kernel
theorem d_M_office_10 : decode prog_14_method_13_code 10 = .ok (.if_icmp .ne 5, 3) := by decide +kernel
theorem d_M_office_13 : decode prog_14_method_13_code 13 = .ok (.iconst (-1), 1) := by decide +kernel
theorem d_M_office_14 : decode prog_14_method_13_code 14 = .ok (.ireturn, 1) := by decide +kernel
theorem d_M_office_15 : decode prog_14_method_13_code 15 = .ok (.aload_n 0, 1) := by decide +kernel
theorem d_M_office_16 : decode prog_14_method_13_code 16 = .ok (.dup, 1) := by decide +kernel
theorem d_M_office_17 : decode prog_14_method_13_code 17 = .ok (.getfield 158, 3) := by decide +kernel
theorem d_M_office_20 : decode prog_14_method_13_code 20 = .ok (.iconst 1, 1) := by decide +kernel
theorem d_M_office_21 : decode prog_14_method_13_code 21 = .ok (.iadd, 1) := by decide +kernel
theorem d_M_office_22 : decode prog_14_method_13_code 22 = .ok (.putfield 158, 3) := by decide +kernel
theorem d_M_office_25 : decode prog_14_method_13_code 25 = .ok (.aload_n 0, 1) := by decide +kernel
theorem d_M_office_26 : decode prog_14_method_13_code 26 = .ok (.iconst 0, 1) := by decide +kernel
theorem d_M_office_27 : decode prog_14_method_13_code 27 = .ok (.putfield 173, 3) := by decide +kernel
theorem d_M_office_30 : decode prog_14_method_13_code 30 = .ok (.aload_n 0, 1) := by decide +kernel
theorem d_M_office_31 : decode prog_14_method_13_code 31 = .ok (.getfield 158, 3) := by decide +kernel
theorem d_M_office_34 : decode prog_14_method_13_code 34 = .ok (.iconst 1, 1) := by decide +kernel
theorem d_M_office_35 : decode prog_14_method_13_code 35 = .ok (.isub, 1) := by decide +kernel
theorem d_M_office_36 : decode prog_14_method_13_code 36 = .ok (.ireturn, 1) := by decide +kernel
theorem d_M_bond_0 : decode prog_14_method_14_code 0 = .ok (.aload_n 0, 1) := by decide +kernel
theorem d_M_bond_1 : decode prog_14_method_14_code 1 = .ok (.iconst 0, 1) := by decide +kernel
theorem d_M_bond_2 : decode prog_14_method_14_code 2 = .ok (.putfield 148, 3) := by decide +kernel
theorem d_M_bond_5 : decode prog_14_method_14_code 5 = .ok (.aload_n 0, 1) := by decide +kernel
theorem d_M_bond_6 : decode prog_14_method_14_code 6 = .ok (.iload_n 1, 1) := by decide +kernel
theorem d_M_bond_7 : decode prog_14_method_14_code 7 = .ok (.invokevirtual 177, 3) := by decide +kernel
theorem d_M_bond_10 : decode prog_14_method_14_code 10 = .ok (.ifCond .eq 52, 3) := by decide +kernel
theorem d_M_bond_13 : decode prog_14_method_14_code 13 = .ok (.aload_n 0, 1) := by decide +kernel
theorem d_M_bond_14 : decode prog_14_method_14_code 14 = .ok (.iload_n 2, 1) := by decide +kernel
theorem d_M_bond_15 : decode prog_14_method_14_code 15 = .ok (.invokevirtual 181, 3) := by decide +kernel
theorem d_M_bond_18 : decode prog_14_method_14_code 18 = .ok (.ifCond .eq 44, 3) := by decide +kernel
theorem d_M_bond_21 : decode prog_14_method_14_code 21 = .ok (.iload_n 3, 1) := by decide +kernel
theorem d_M_bond_22 : decode prog_14_method_14_code 22 = .ok (.iconst 0, 1) := by decide +kernel
theorem d_M_bond_23 : decode prog_14_method_14_code 23 = .ok (.bipush 99, 2) := by decide +kernel
theorem d_M_bond_25 : decode prog_14_method_14_code 25 = .ok (.invokestatic 154, 3) := by decide +kernel
theorem d_M_bond_28 : decode prog_14_method_14_code 28 = .ok (.ifCond .eq 34, 3) := by decide +kernel
theorem d_M_bond_31 : decode prog_14_method_14_code 31 = .ok (.iload 4, 2) := by decide +kernel
theorem d_M_bond_33 : decode prog_14_method_14_code 33 = .ok (.iconst 0, 1) := by decide +kernel
theorem d_M_bond_34 : decode prog_14_method_14_code 34 = .ok (.bipush 9, 2) := by decide +kernel
theorem d_M_bond_36 : decode prog_14_method_14_code 36 = .ok (.invokestatic 154, 3) := by decide +kernel
theorem d_M_bond_39 : decode prog_14_method_14_code 39 = .ok (.ifCond .eq 23, 3) := by decide +kernel
theorem d_M_bond_42 : decode prog_14_method_14_code 42 = .ok (.iload 5, 2) := by decide +kernel
theorem d_M_bond_44 : decode prog_14_method_14_code 44 = .ok (.iconst 0, 1) := by decide +kernel
theorem d_M_bond_45 : decode prog_14_method_14_code 45 = .ok (.bipush 9, 2) := by decide +kernel
theorem d_M_bond_47 : decode prog_14_method_14_code 47 = .ok (.invokestatic 154, 3) := by decide +kernel
theorem d_M_bond_50 : decode prog_14_method_14_code 50 = .ok (.ifCond .eq 12, 3) := by decide +kernel
theorem d_M_bond_53 : decode prog_14_method_14_code 53 = .ok (.aload_n 0, 1) := by decide +kernel
theorem d_M_bond_54 : decode prog_14_method_14_code 54 = .ok (.getfield 161, 3) := by decide +kernel
theorem d_M_bond_57 : decode prog_14_method_14_code 57 = .ok (.bipush 20, 2) := by decide +kernel
theorem d_M_bond_59 : decode prog_14_method_14_code 59 = .ok (.if_icmp .ne 5, 3) := by decide +kernel
theorem d_M_bond_62 : decode prog_14_method_14_code 62 = .ok (.iconst (-1), 1) := by decide +kernel
theorem d_M_bond_63 : decode prog_14_method_14_code 63 = .ok (.ireturn, 1) := by decide +kernel
theorem d_M_bond_64 : decode prog_14_method_14_code 64 = .ok (.iconst 0, 1) := by decide +kernel
theorem d_M_bond_65 : decode prog_14_method_14_code 65 = .ok (.istore 6, 2) := by decide +kernel
theorem d_M_bond_67 : decode prog_14_method_14_code 67 = .ok (.iconst 0, 1) := by decide +kernel
theorem d_M_bond_68 : decode prog_14_method_14_code 68 = .ok (.istore 7, 2) := by decide +kernel
theorem d_M_bond_70 : decode prog_14_method_14_code 70 = .ok (.iconst 0, 1) := by decide +kernel
theorem d_M_bond_71 : decode prog_14_method_14_code 71 = .ok (.istore 8, 2) := by decide +kernel
theorem d_M_bond_73 : decode prog_14_method_14_code 73 = .ok (.iload 8, 2) := by decide +kernel
theorem d_M_bond_75 : decode prog_14_method_14_code 75 = .ok (.aload_n 0, 1) := by decide +kernel
theorem d_M_bond_76 : decode prog_14_method_14_code 76 = .ok (.getfield 161, 3) := by decide +kernel
theorem d_M_bond_79 : decode prog_14_method_14_code 79 = .ok (.if_icmp .ge 51, 3) := by decide +kernel
theorem d_M_bond_82 : decode prog_14_method_14_code 82 = .ok (.iload 6, 2) := by decide +kernel
theorem d_M_bond_84 : decode prog_14_method_14_code 84 = .ok (.aload_n 0, 1) := by decide +kernel
theorem d_M_bond_85 : decode prog_14_method_14_code 85 = .ok (.getfield 13, 3) := by decide +kernel
theorem d_M_bond_88 : decode prog_14_method_14_code 88 = .ok (.iload 8, 2) := by decide +kernel
theorem d_M_bond_90 : decode prog_14_method_14_code 90 = .ok (.iaload, 1) := by decide +kernel
theorem d_M_bond_91 : decode prog_14_method_14_code 91 = .ok (.iload_n 1, 1) := by decide +kernel
theorem d_M_bond_92 : decode prog_14_method_14_code 92 = .ok (.if_icmp .ne 7, 3) := by decide +kernel
theorem d_M_bond_95 : decode prog_14_method_14_code 95 = .ok (.iconst 1, 1) := by decide +kernel
theorem d_M_bond_96 : decode prog_14_method_14_code 96 = .ok (.goto 4, 3) := by decide +kernel
theorem d_M_bond_99 : decode prog_14_method_14_code 99 = .ok (.iconst 0, 1) := by decide +kernel
theorem d_M_bond_100 : decode prog_14_method_14_code 100 = .ok (.iadd, 1) := by decide +kernel
theorem d_M_bond_101 : decode prog_14_method_14_code 101 = .ok (.istore 6, 2) := by decide +kernel
theorem d_M_bond_103 : decode prog_14_method_14_code 103 = .ok (.iload 7, 2) := by decide +kernel
theorem d_M_bond_105 : decode prog_14_method_14_code 105 = .ok (.aload_n 0, 1) := by decide +kernel
theorem d_M_bond_106 : decode prog_14_method_14_code 106 = .ok (.getfield 16, 3) := by decide +kernel
theorem d_M_bond_109 : decode prog_14_method_14_code 109 = .ok (.iload 8, 2) := by decide +kernel
theorem d_M_bond_111 : decode prog_14_method_14_code 111 = .ok (.iaload, 1) := by decide +kernel
theorem d_M_bond_112 : decode prog_14_method_14_code 112 = .ok (.iload_n 2, 1) := by decide +kernel
theorem d_M_bond_113 : decode prog_14_method_14_code 113 = .ok (.if_icmp .ne 7, 3) := by decide +kernel
theorem d_M_bond_116 : decode prog_14_method_14_code 116 = .ok (.iconst 1, 1) := by decide +kernel
theorem d_M_bond_117 : decode prog_14_method_14_code 117 = .ok (.goto 4, 3) := by decide +kernel
theorem d_M_bond_120 : decode prog_14_method_14_code 120 = .ok (.iconst 0, 1) := by decide +kernel
theorem d_M_bond_121 : decode prog_14_method_14_code 121 = .ok (.iadd, 1) := by decide +kernel
theorem d_M_bond_122 : decode prog_14_method_14_code 122 = .ok (.istore 7, 2) := by decide +kernel
theorem d_M_bond_124 : decode prog_14_method_14_code 124 = .ok (.iinc 8 1, 3) := by decide +kernel
theorem d_M_bond_127 : decode prog_14_method_14_code 127 = .ok (.goto (-54), 3) := by decide +kernel
theorem d_M_bond_130 : decode prog_14_method_14_code 130 = .ok (.iload 6, 2) := by decide +kernel
theorem d_M_bond_132 : decode prog_14_method_14_code 132 = .ok (.iconst 5, 1) := by decide +kernel
theorem d_M_bond_133 : decode prog_14_method_14_code 133 = .ok (.if_icmp .eq 10, 3) := by decide +kernel
theorem d_M_bond_136 : decode prog_14_method_14_code 136 = .ok (.iload 7, 2) := by decide +kernel
theorem d_M_bond_138 : decode prog_14_method_14_code 138 = .ok (.bipush 8, 2) := by decide +kernel
theorem d_M_bond_140 : decode prog_14_method_14_code 140 = .ok (.if_icmp .ne 5, 3) := by decide +kernel
theorem d_M_bond_143 : decode prog_14_method_14_code 143 = .ok (.iconst (-1), 1) := by decide +kernel
theorem d_M_bond_144 : decode prog_14_method_14_code 144 = .ok (.ireturn, 1) := by decide +kernel
theorem d_M_bond_145 : decode prog_14_method_14_code 145 = .ok (.aload_n 0, 1) := by decide +kernel
theorem d_M_bond_146 : decode prog_14_method_14_code 146 = .ok (.getfield 13, 3) := by decide +kernel
theorem d_M_bond_149 : decode prog_14_method_14_code 149 = .ok (.aload_n 0, 1) := by decide +kernel
theorem d_M_bond_150 : decode prog_14_method_14_code 150 = .ok (.getfield 161, 3) := by decide +kernel
theorem d_M_bond_153 : decode prog_14_method_14_code 153 = .ok (.iload_n 1, 1) := by decide +kernel
theorem d_M_bond_154 : decode prog_14_method_14_code 154 = .ok (.iastore, 1) := by decide +kernel
theorem d_M_bond_155 : decode prog_14_method_14_code 155 = .ok (.aload_n 0, 1) := by decide +kernel
theorem d_M_bond_156 : decode prog_14_method_14_code 156 = .ok (.getfield 16, 3) := by decide +kernel
theorem d_M_bond_159 : decode prog_14_method_14_code 159 = .ok (.aload_n 0, 1) := by decide +kernel
theorem d_M_bond_160 : decode prog_14_method_14_code 160 = .ok (.getfield 161, 3) := by decide +kernel
theorem d_M_bond_163 : decode prog_14_method_14_code 163 = .ok (.iload_n 2, 1) := by decide +kernel
theorem d_M_bond_164 : decode prog_14_method_14_code 164 = .ok (.iastore, 1) := by decide +kernel
theorem d_M_bond_165 : decode prog_14_method_14_code 165 = .ok (.aload_n 0, 1) := by decide +kernel
theorem d_M_bond_166 : decode prog_14_method_14_code 166 = .ok (.getfield 19, 3) := by decide +kernel
theorem d_M_bond_169 : decode prog_14_method_14_code 169 = .ok (.aload_n 0, 1) := by decide +kernel
theorem d_M_bond_170 : decode prog_14_method_14_code 170 = .ok (.getfield 161, 3) := by decide +kernel
theorem d_M_bond_173 : decode prog_14_method_14_code 173 = .ok (.iload_n 3, 1) := by decide +kernel
theorem d_M_bond_174 : decode prog_14_method_14_code 174 = .ok (.iastore, 1) := by decide +kernel
theorem d_M_bond_175 : decode prog_14_method_14_code 175 = .ok (.aload_n 0, 1) := by decide +kernel
theorem d_M_bond_176 : decode prog_14_method_14_code 176 = .ok (.getfield 22, 3) := by decide +kernel
theorem d_M_bond_179 : decode prog_14_method_14_code 179 = .ok (.aload_n 0, 1) := by decide +kernel
theorem d_M_bond_180 : decode prog_14_method_14_code 180 = .ok (.getfield 161, 3) := by decide +kernel
theorem d_M_bond_183 : decode prog_14_method_14_code 183 = .ok (.iload 4, 2) := by decide +kernel
theorem d_M_bond_185 : decode prog_14_method_14_code 185 = .ok (.iastore, 1) := by decide +kernel
theorem d_M_bond_186 : decode prog_14_method_14_code 186 = .ok (.aload_n 0, 1) := by decide +kernel
theorem d_M_bond_187 : decode prog_14_method_14_code 187 = .ok (.getfield 25, 3) := by decide +kernel
theorem d_M_bond_190 : decode prog_14_method_14_code 190 = .ok (.aload_n 0, 1) := by decide +kernel
theorem d_M_bond_191 : decode prog_14_method_14_code 191 = .ok (.getfield 161, 3) := by decide +kernel
theorem d_M_bond_194 : decode prog_14_method_14_code 194 = .ok (.iload 5, 2) := by decide +kernel
theorem d_M_bond_196 : decode prog_14_method_14_code 196 = .ok (.iastore, 1) := by decide +kernel
theorem d_M_bond_197 : decode prog_14_method_14_code 197 = .ok (.aload_n 0, 1) := by decide +kernel
theorem d_M_bond_198 : decode prog_14_method_14_code 198 = .ok (.dup, 1) := by decide +kernel
theorem d_M_bond_199 : decode prog_14_method_14_code 199 = .ok (.getfield 161, 3) := by decide +kernel
theorem d_M_bond_202 : decode prog_14_method_14_code 202 = .ok (.iconst 1, 1) := by decide +kernel
theorem d_M_bond_203 : decode prog_14_method_14_code 203 = .ok (.iadd, 1) := by decide +kernel
theorem d_M_bond_204 : decode prog_14_method_14_code 204 = .ok (.putfield 161, 3) := by decide +kernel
theorem d_M_bond_207 : decode prog_14_method_14_code 207 = .ok (.aload_n 0, 1) := by decide +kernel
theorem d_M_bond_208 : decode prog_14_method_14_code 208 = .ok (.iconst 0, 1) := by decide +kernel
theorem d_M_bond_209 : decode prog_14_method_14_code 209 = .ok (.putfield 173, 3) := by decide +kernel
theorem d_M_bond_212 : decode prog_14_method_14_code 212 = .ok (.aload_n 0, 1) := by decide +kernel
theorem d_M_bond_213 : decode prog_14_method_14_code 213 = .ok (.getfield 161, 3) := by decide +kernel
theorem d_M_bond_216 : decode prog_14_method_14_code 216 = .ok (.iconst 1, 1) := by decide +kernel
theorem d_M_bond_217 : decode prog_14_method_14_code 217 = .ok (.isub, 1) := by decide +kernel
theorem d_M_bond_218 : decode prog_14_method_14_code 218 = .ok (.ireturn, 1) := by decide +kernel
theorem d_M_placeOf_0 : decode prog_14_method_15_code 0 = .ok (.aload_n 0, 1) := by decide +kernel
theorem d_M_placeOf_1 : decode prog_14_method_15_code 1 = .ok (.getfield 13, 3) := by decide +kernel
theorem d_M_placeOf_4 : decode prog_14_method_15_code 4 = .ok (.iload_n 1, 1) := by decide +kernel
theorem d_M_placeOf_5 : decode prog_14_method_15_code 5 = .ok (.iaload, 1) := by decide +kernel
theorem d_M_placeOf_6 : decode prog_14_method_15_code 6 = .ok (.istore_n 2, 1) := by decide +kernel
theorem d_M_placeOf_7 : decode prog_14_method_15_code 7 = .ok (.iconst 0, 1) := by decide +kernel
theorem d_M_placeOf_8 : decode prog_14_method_15_code 8 = .ok (.istore_n 3, 1) := by decide +kernel
theorem d_M_placeOf_9 : decode prog_14_method_15_code 9 = .ok (.iload_n 3, 1) := by decide +kernel
theorem d_M_placeOf_10 : decode prog_14_method_15_code 10 = .ok (.aload_n 0, 1) := by decide +kernel
theorem d_M_placeOf_11 : decode prog_14_method_15_code 11 = .ok (.getfield 31, 3) := by decide +kernel
theorem d_M_placeOf_14 : decode prog_14_method_15_code 14 = .ok (.iload_n 2, 1) := by decide +kernel
theorem d_M_placeOf_15 : decode prog_14_method_15_code 15 = .ok (.iaload, 1) := by decide +kernel
theorem d_M_placeOf_16 : decode prog_14_method_15_code 16 = .ok (.if_icmp .ge 25, 3) := by decide +kernel
theorem d_M_placeOf_19 : decode prog_14_method_15_code 19 = .ok (.aload_n 0, 1) := by decide +kernel
theorem d_M_placeOf_20 : decode prog_14_method_15_code 20 = .ok (.getfield 28, 3) := by decide +kernel
theorem d_M_placeOf_23 : decode prog_14_method_15_code 23 = .ok (.iconst 5, 1) := by decide +kernel
theorem d_M_placeOf_24 : decode prog_14_method_15_code 24 = .ok (.iload_n 2, 1) := by decide +kernel
theorem d_M_placeOf_25 : decode prog_14_method_15_code 25 = .ok (.imul, 1) := by decide +kernel
theorem d_M_placeOf_26 : decode prog_14_method_15_code 26 = .ok (.iload_n 3, 1) := by decide +kernel
theorem d_M_placeOf_27 : decode prog_14_method_15_code 27 = .ok (.iadd, 1) := by decide +kernel
theorem d_M_placeOf_28 : decode prog_14_method_15_code 28 = .ok (.iaload, 1) := by decide +kernel
theorem d_M_placeOf_29 : decode prog_14_method_15_code 29 = .ok (.iload_n 1, 1) := by decide +kernel
theorem d_M_placeOf_30 : decode prog_14_method_15_code 30 = .ok (.if_icmp .ne 5, 3) := by decide +kernel
theorem d_M_placeOf_33 : decode prog_14_method_15_code 33 = .ok (.iload_n 3, 1) := by decide +kernel
theorem d_M_placeOf_34 : decode prog_14_method_15_code 34 = .ok (.ireturn, 1) := by decide +kernel
theorem d_M_placeOf_35 : decode prog_14_method_15_code 35 = .ok (.iinc 3 1, 3) := by decide +kernel
theorem d_M_placeOf_38 : decode prog_14_method_15_code 38 = .ok (.goto (-29), 3) := by decide +kernel
theorem d_M_placeOf_41 : decode prog_14_method_15_code 41 = .ok (.iconst (-1), 1) := by decide +kernel
theorem d_M_placeOf_42 : decode prog_14_method_15_code 42 = .ok (.ireturn, 1) := by decide +kernel
theorem d_M_list_0 : decode prog_14_method_16_code 0 = .ok (.aload_n 0, 1) := by decide +kernel
theorem d_M_list_1 : decode prog_14_method_16_code 1 = .ok (.iconst 0, 1) := by decide +kernel
theorem d_M_list_2 : decode prog_14_method_16_code 2 = .ok (.putfield 148, 3) := by decide +kernel
theorem d_M_list_5 : decode prog_14_method_16_code 5 = .ok (.aload_n 0, 1) := by decide +kernel
theorem d_M_list_6 : decode prog_14_method_16_code 6 = .ok (.iload_n 1, 1) := by decide +kernel
theorem d_M_list_7 : decode prog_14_method_16_code 7 = .ok (.invokevirtual 184, 3) := by decide +kernel
theorem d_M_list_10 : decode prog_14_method_16_code 10 = .ok (.ifCond .eq 12, 3) := by decide +kernel
theorem d_M_list_13 : decode prog_14_method_16_code 13 = .ok (.aload_n 0, 1) := by decide +kernel
theorem d_M_list_14 : decode prog_14_method_16_code 14 = .ok (.iload_n 1, 1) := by decide +kernel
theorem d_M_list_15 : decode prog_14_method_16_code 15 = .ok (.invokevirtual 187, 3) := by decide +kernel
theorem d_M_list_18 : decode prog_14_method_16_code 18 = .ok (.iconst (-1), 1) := by decide +kernel
theorem d_M_list_19 : decode prog_14_method_16_code 19 = .ok (.if_icmp .eq 5, 3) := by decide +kernel
theorem d_M_list_22 : decode prog_14_method_16_code 22 = .ok (.iconst (-1), 1) := by decide +kernel
theorem d_M_list_23 : decode prog_14_method_16_code 23 = .ok (.ireturn, 1) := by decide +kernel
theorem d_M_list_24 : decode prog_14_method_16_code 24 = .ok (.aload_n 0, 1) := by decide +kernel
theorem d_M_list_25 : decode prog_14_method_16_code 25 = .ok (.getfield 13, 3) := by decide +kernel
theorem d_M_list_28 : decode prog_14_method_16_code 28 = .ok (.iload_n 1, 1) := by decide +kernel
theorem d_M_list_29 : decode prog_14_method_16_code 29 = .ok (.iaload, 1) := by decide +kernel
theorem d_M_list_30 : decode prog_14_method_16_code 30 = .ok (.istore_n 2, 1) := by decide +kernel
theorem d_M_list_31 : decode prog_14_method_16_code 31 = .ok (.aload_n 0, 1) := by decide +kernel
theorem d_M_list_32 : decode prog_14_method_16_code 32 = .ok (.getfield 28, 3) := by decide +kernel
theorem d_M_list_35 : decode prog_14_method_16_code 35 = .ok (.iconst 5, 1) := by decide +kernel
theorem d_M_list_36 : decode prog_14_method_16_code 36 = .ok (.iload_n 2, 1) := by decide +kernel
theorem d_M_list_37 : decode prog_14_method_16_code 37 = .ok (.imul, 1) := by decide +kernel
theorem d_M_list_38 : decode prog_14_method_16_code 38 = .ok (.aload_n 0, 1) := by decide +kernel
theorem d_M_list_39 : decode prog_14_method_16_code 39 = .ok (.getfield 31, 3) := by decide +kernel
theorem d_M_list_42 : decode prog_14_method_16_code 42 = .ok (.iload_n 2, 1) := by decide +kernel
theorem d_M_list_43 : decode prog_14_method_16_code 43 = .ok (.iaload, 1) := by decide +kernel
theorem d_M_list_44 : decode prog_14_method_16_code 44 = .ok (.iadd, 1) := by decide +kernel
theorem d_M_list_45 : decode prog_14_method_16_code 45 = .ok (.iload_n 1, 1) := by decide +kernel
theorem d_M_list_46 : decode prog_14_method_16_code 46 = .ok (.iastore, 1) := by decide +kernel
theorem d_M_list_47 : decode prog_14_method_16_code 47 = .ok (.aload_n 0, 1) := by decide +kernel
theorem d_M_list_48 : decode prog_14_method_16_code 48 = .ok (.getfield 31, 3) := by decide +kernel
theorem d_M_list_51 : decode prog_14_method_16_code 51 = .ok (.iload_n 2, 1) := by decide +kernel
theorem d_M_list_52 : decode prog_14_method_16_code 52 = .ok (.dup2, 1) := by decide +kernel
theorem d_M_list_53 : decode prog_14_method_16_code 53 = .ok (.iaload, 1) := by decide +kernel
theorem d_M_list_54 : decode prog_14_method_16_code 54 = .ok (.iconst 1, 1) := by decide +kernel
theorem d_M_list_55 : decode prog_14_method_16_code 55 = .ok (.iadd, 1) := by decide +kernel
theorem d_M_list_56 : decode prog_14_method_16_code 56 = .ok (.iastore, 1) := by decide +kernel
theorem d_M_list_57 : decode prog_14_method_16_code 57 = .ok (.aload_n 0, 1) := by decide +kernel
theorem d_M_list_58 : decode prog_14_method_16_code 58 = .ok (.getfield 31, 3) := by decide +kernel
theorem d_M_list_61 : decode prog_14_method_16_code 61 = .ok (.iload_n 2, 1) := by decide +kernel
theorem d_M_list_62 : decode prog_14_method_16_code 62 = .ok (.iaload, 1) := by decide +kernel
theorem d_M_list_63 : decode prog_14_method_16_code 63 = .ok (.ireturn, 1) := by decide +kernel
theorem d_M_clear_0 : decode prog_14_method_17_code 0 = .ok (.aload_n 0, 1) := by decide +kernel
theorem d_M_clear_1 : decode prog_14_method_17_code 1 = .ok (.iconst 0, 1) := by decide +kernel
theorem d_M_clear_2 : decode prog_14_method_17_code 2 = .ok (.putfield 148, 3) := by decide +kernel
theorem d_M_clear_5 : decode prog_14_method_17_code 5 = .ok (.aload_n 0, 1) := by decide +kernel
theorem d_M_clear_6 : decode prog_14_method_17_code 6 = .ok (.iload_n 1, 1) := by decide +kernel
theorem d_M_clear_7 : decode prog_14_method_17_code 7 = .ok (.invokevirtual 177, 3) := by decide +kernel
theorem d_M_clear_10 : decode prog_14_method_17_code 10 = .ok (.ifCond .ne 5, 3) := by decide +kernel
theorem d_M_clear_13 : decode prog_14_method_17_code 13 = .ok (.iconst (-1), 1) := by decide +kernel
theorem d_M_clear_14 : decode prog_14_method_17_code 14 = .ok (.ireturn, 1) := by decide +kernel
theorem d_M_clear_15 : decode prog_14_method_17_code 15 = .ok (.aload_n 0, 1) := by decide +kernel
theorem d_M_clear_16 : decode prog_14_method_17_code 16 = .ok (.getfield 31, 3) := by decide +kernel
theorem d_M_clear_19 : decode prog_14_method_17_code 19 = .ok (.iload_n 1, 1) := by decide +kernel
theorem d_M_clear_20 : decode prog_14_method_17_code 20 = .ok (.iaload, 1) := by decide +kernel
theorem d_M_clear_21 : decode prog_14_method_17_code 21 = .ok (.istore_n 2, 1) := by decide +kernel
theorem d_M_clear_22 : decode prog_14_method_17_code 22 = .ok (.aload_n 0, 1) := by decide +kernel
theorem d_M_clear_23 : decode prog_14_method_17_code 23 = .ok (.getfield 31, 3) := by decide +kernel
theorem d_M_clear_26 : decode prog_14_method_17_code 26 = .ok (.iload_n 1, 1) := by decide +kernel
theorem d_M_clear_27 : decode prog_14_method_17_code 27 = .ok (.iconst 0, 1) := by decide +kernel
theorem d_M_clear_28 : decode prog_14_method_17_code 28 = .ok (.iastore, 1) := by decide +kernel
theorem d_M_clear_29 : decode prog_14_method_17_code 29 = .ok (.iload_n 2, 1) := by decide +kernel
theorem d_M_clear_30 : decode prog_14_method_17_code 30 = .ok (.ireturn, 1) := by decide +kernel
theorem d_M_coupleOf_0 : decode prog_14_method_18_code 0 = .ok (.iconst 0, 1) := by decide +kernel
theorem d_M_coupleOf_1 : decode prog_14_method_18_code 1 = .ok (.istore_n 2, 1) := by decide +kernel
theorem d_M_coupleOf_2 : decode prog_14_method_18_code 2 = .ok (.iload_n 2, 1) := by decide +kernel
theorem d_M_coupleOf_3 : decode prog_14_method_18_code 3 = .ok (.aload_n 0, 1) := by decide +kernel
theorem d_M_coupleOf_4 : decode prog_14_method_18_code 4 = .ok (.getfield 190, 3) := by decide +kernel
theorem d_M_coupleOf_7 : decode prog_14_method_18_code 7 = .ok (.if_icmp .ge 31, 3) := by decide +kernel
theorem d_M_coupleOf_10 : decode prog_14_method_18_code 10 = .ok (.aload_n 0, 1) := by decide +kernel
theorem d_M_coupleOf_11 : decode prog_14_method_18_code 11 = .ok (.getfield 34, 3) := by decide +kernel
theorem d_M_coupleOf_14 : decode prog_14_method_18_code 14 = .ok (.iload_n 2, 1) := by decide +kernel
theorem d_M_coupleOf_15 : decode prog_14_method_18_code 15 = .ok (.iaload, 1) := by decide +kernel
theorem d_M_coupleOf_16 : decode prog_14_method_18_code 16 = .ok (.iload_n 1, 1) := by decide +kernel
theorem d_M_coupleOf_17 : decode prog_14_method_18_code 17 = .ok (.if_icmp .eq 13, 3) := by decide +kernel
theorem d_M_coupleOf_20 : decode prog_14_method_18_code 20 = .ok (.aload_n 0, 1) := by decide +kernel
theorem d_M_coupleOf_21 : decode prog_14_method_18_code 21 = .ok (.getfield 37, 3) := by decide +kernel
theorem d_M_coupleOf_24 : decode prog_14_method_18_code 24 = .ok (.iload_n 2, 1) := by decide +kernel
theorem d_M_coupleOf_25 : decode prog_14_method_18_code 25 = .ok (.iaload, 1) := by decide +kernel
theorem d_M_coupleOf_26 : decode prog_14_method_18_code 26 = .ok (.iload_n 1, 1) := by decide +kernel
theorem d_M_coupleOf_27 : decode prog_14_method_18_code 27 = .ok (.if_icmp .ne 5, 3) := by decide +kernel
theorem d_M_coupleOf_30 : decode prog_14_method_18_code 30 = .ok (.iload_n 2, 1) := by decide +kernel
theorem d_M_coupleOf_31 : decode prog_14_method_18_code 31 = .ok (.ireturn, 1) := by decide +kernel
theorem d_M_coupleOf_32 : decode prog_14_method_18_code 32 = .ok (.iinc 2 1, 3) := by decide +kernel
theorem d_M_coupleOf_35 : decode prog_14_method_18_code 35 = .ok (.goto (-33), 3) := by decide +kernel
theorem d_M_coupleOf_38 : decode prog_14_method_18_code 38 = .ok (.iconst (-1), 1) := by decide +kernel
theorem d_M_coupleOf_39 : decode prog_14_method_18_code 39 = .ok (.ireturn, 1) := by decide +kernel
theorem d_M_couple_0 : decode prog_14_method_19_code 0 = .ok (.aload_n 0, 1) := by decide +kernel
theorem d_M_couple_1 : decode prog_14_method_19_code 1 = .ok (.iconst 0, 1) := by decide +kernel
theorem d_M_couple_2 : decode prog_14_method_19_code 2 = .ok (.putfield 148, 3) := by decide +kernel
theorem d_M_couple_5 : decode prog_14_method_19_code 5 = .ok (.aload_n 0, 1) := by decide +kernel
theorem d_M_couple_6 : decode prog_14_method_19_code 6 = .ok (.iload_n 1, 1) := by decide +kernel
theorem d_M_couple_7 : decode prog_14_method_19_code 7 = .ok (.invokevirtual 177, 3) := by decide +kernel
theorem d_M_couple_10 : decode prog_14_method_19_code 10 = .ok (.ifCond .eq 42, 3) := by decide +kernel
theorem d_M_couple_13 : decode prog_14_method_19_code 13 = .ok (.aload_n 0, 1) := by decide +kernel
theorem d_M_couple_14 : decode prog_14_method_19_code 14 = .ok (.iload_n 2, 1) := by decide +kernel
theorem d_M_couple_15 : decode prog_14_method_19_code 15 = .ok (.invokevirtual 177, 3) := by decide +kernel
theorem d_M_couple_18 : decode prog_14_method_19_code 18 = .ok (.ifCond .eq 34, 3) := by decide +kernel
theorem d_M_couple_21 : decode prog_14_method_19_code 21 = .ok (.iload_n 1, 1) := by decide +kernel
theorem d_M_couple_22 : decode prog_14_method_19_code 22 = .ok (.iload_n 2, 1) := by decide +kernel
theorem d_M_couple_23 : decode prog_14_method_19_code 23 = .ok (.if_icmp .eq 29, 3) := by decide +kernel
theorem d_M_couple_26 : decode prog_14_method_19_code 26 = .ok (.aload_n 0, 1) := by decide +kernel
theorem d_M_couple_27 : decode prog_14_method_19_code 27 = .ok (.iload_n 1, 1) := by decide +kernel
theorem d_M_couple_28 : decode prog_14_method_19_code 28 = .ok (.invokevirtual 193, 3) := by decide +kernel
theorem d_M_couple_31 : decode prog_14_method_19_code 31 = .ok (.iconst (-1), 1) := by decide +kernel
theorem d_M_couple_32 : decode prog_14_method_19_code 32 = .ok (.if_icmp .ne 20, 3) := by decide +kernel
theorem d_M_couple_35 : decode prog_14_method_19_code 35 = .ok (.aload_n 0, 1) := by decide +kernel
theorem d_M_couple_36 : decode prog_14_method_19_code 36 = .ok (.iload_n 2, 1) := by decide +kernel
theorem d_M_couple_37 : decode prog_14_method_19_code 37 = .ok (.invokevirtual 193, 3) := by decide +kernel
theorem d_M_couple_40 : decode prog_14_method_19_code 40 = .ok (.iconst (-1), 1) := by decide +kernel
theorem d_M_couple_41 : decode prog_14_method_19_code 41 = .ok (.if_icmp .ne 11, 3) := by decide +kernel
theorem d_M_couple_44 : decode prog_14_method_19_code 44 = .ok (.aload_n 0, 1) := by decide +kernel
theorem d_M_couple_45 : decode prog_14_method_19_code 45 = .ok (.getfield 190, 3) := by decide +kernel
theorem d_M_couple_48 : decode prog_14_method_19_code 48 = .ok (.iconst 2, 1) := by decide +kernel
theorem d_M_couple_49 : decode prog_14_method_19_code 49 = .ok (.if_icmp .ne 5, 3) := by decide +kernel
theorem d_M_couple_52 : decode prog_14_method_19_code 52 = .ok (.iconst (-1), 1) := by decide +kernel
theorem d_M_couple_53 : decode prog_14_method_19_code 53 = .ok (.ireturn, 1) := by decide +kernel
theorem d_M_couple_54 : decode prog_14_method_19_code 54 = .ok (.aload_n 0, 1) := by decide +kernel
theorem d_M_couple_55 : decode prog_14_method_19_code 55 = .ok (.getfield 34, 3) := by decide +kernel
theorem d_M_couple_58 : decode prog_14_method_19_code 58 = .ok (.aload_n 0, 1) := by decide +kernel
theorem d_M_couple_59 : decode prog_14_method_19_code 59 = .ok (.getfield 190, 3) := by decide +kernel
theorem d_M_couple_62 : decode prog_14_method_19_code 62 = .ok (.iload_n 1, 1) := by decide +kernel
theorem d_M_couple_63 : decode prog_14_method_19_code 63 = .ok (.iastore, 1) := by decide +kernel
theorem d_M_couple_64 : decode prog_14_method_19_code 64 = .ok (.aload_n 0, 1) := by decide +kernel
theorem d_M_couple_65 : decode prog_14_method_19_code 65 = .ok (.getfield 37, 3) := by decide +kernel
theorem d_M_couple_68 : decode prog_14_method_19_code 68 = .ok (.aload_n 0, 1) := by decide +kernel
theorem d_M_couple_69 : decode prog_14_method_19_code 69 = .ok (.getfield 190, 3) := by decide +kernel
theorem d_M_couple_72 : decode prog_14_method_19_code 72 = .ok (.iload_n 2, 1) := by decide +kernel
theorem d_M_couple_73 : decode prog_14_method_19_code 73 = .ok (.iastore, 1) := by decide +kernel
theorem d_M_couple_74 : decode prog_14_method_19_code 74 = .ok (.aload_n 0, 1) := by decide +kernel
theorem d_M_couple_75 : decode prog_14_method_19_code 75 = .ok (.dup, 1) := by decide +kernel
theorem d_M_couple_76 : decode prog_14_method_19_code 76 = .ok (.getfield 190, 3) := by decide +kernel
theorem d_M_couple_79 : decode prog_14_method_19_code 79 = .ok (.iconst 1, 1) := by decide +kernel
theorem d_M_couple_80 : decode prog_14_method_19_code 80 = .ok (.iadd, 1) := by decide +kernel
theorem d_M_couple_81 : decode prog_14_method_19_code 81 = .ok (.putfield 190, 3) := by decide +kernel
theorem d_M_couple_84 : decode prog_14_method_19_code 84 = .ok (.aload_n 0, 1) := by decide +kernel
theorem d_M_couple_85 : decode prog_14_method_19_code 85 = .ok (.getfield 190, 3) := by decide +kernel
theorem d_M_couple_88 : decode prog_14_method_19_code 88 = .ok (.iconst 1, 1) := by decide +kernel
theorem d_M_couple_89 : decode prog_14_method_19_code 89 = .ok (.isub, 1) := by decide +kernel
theorem d_M_couple_90 : decode prog_14_method_19_code 90 = .ok (.ireturn, 1) := by decide +kernel
theorem d_M_isOf_0 : decode prog_14_method_20_code 0 = .ok (.iload_n 1, 1) := by decide +kernel
theorem d_M_isOf_1 : decode prog_14_method_20_code 1 = .ok (.iconst (-1), 1) := by decide +kernel
theorem d_M_isOf_2 : decode prog_14_method_20_code 2 = .ok (.if_icmp .eq 21, 3) := by decide +kernel
theorem d_M_isOf_5 : decode prog_14_method_20_code 5 = .ok (.aload_n 0, 1) := by decide +kernel
theorem d_M_isOf_6 : decode prog_14_method_20_code 6 = .ok (.iload_n 1, 1) := by decide +kernel
theorem d_M_isOf_7 : decode prog_14_method_20_code 7 = .ok (.invokevirtual 184, 3) := by decide +kernel
theorem d_M_isOf_10 : decode prog_14_method_20_code 10 = .ok (.ifCond .eq 17, 3) := by decide +kernel
theorem d_M_isOf_13 : decode prog_14_method_20_code 13 = .ok (.aload_n 0, 1) := by decide +kernel
theorem d_M_isOf_14 : decode prog_14_method_20_code 14 = .ok (.getfield 13, 3) := by decide +kernel
theorem d_M_isOf_17 : decode prog_14_method_20_code 17 = .ok (.iload_n 1, 1) := by decide +kernel
theorem d_M_isOf_18 : decode prog_14_method_20_code 18 = .ok (.iaload, 1) := by decide +kernel
theorem d_M_isOf_19 : decode prog_14_method_20_code 19 = .ok (.iload_n 2, 1) := by decide +kernel
theorem d_M_isOf_20 : decode prog_14_method_20_code 20 = .ok (.if_icmp .ne 7, 3) := by decide +kernel
theorem d_M_isOf_23 : decode prog_14_method_20_code 23 = .ok (.iconst 1, 1) := by decide +kernel
theorem d_M_isOf_24 : decode prog_14_method_20_code 24 = .ok (.goto 4, 3) := by decide +kernel
theorem d_M_isOf_27 : decode prog_14_method_20_code 27 = .ok (.iconst 0, 1) := by decide +kernel
theorem d_M_isOf_28 : decode prog_14_method_20_code 28 = .ok (.ireturn, 1) := by decide +kernel
theorem d_M_pair_0 : decode prog_14_method_21_code 0 = .ok (.aload_n 0, 1) := by decide +kernel
theorem d_M_pair_1 : decode prog_14_method_21_code 1 = .ok (.iconst 0, 1) := by decide +kernel
theorem d_M_pair_2 : decode prog_14_method_21_code 2 = .ok (.putfield 148, 3) := by decide +kernel
theorem d_M_pair_5 : decode prog_14_method_21_code 5 = .ok (.iload_n 1, 1) := by decide +kernel
theorem d_M_pair_6 : decode prog_14_method_21_code 6 = .ok (.iconst 0, 1) := by decide +kernel
theorem d_M_pair_7 : decode prog_14_method_21_code 7 = .ok (.aload_n 0, 1) := by decide +kernel
theorem d_M_pair_8 : decode prog_14_method_21_code 8 = .ok (.getfield 190, 3) := by decide +kernel
theorem d_M_pair_11 : decode prog_14_method_21_code 11 = .ok (.iconst 1, 1) := by decide +kernel
theorem d_M_pair_12 : decode prog_14_method_21_code 12 = .ok (.isub, 1) := by decide +kernel
theorem d_M_pair_13 : decode prog_14_method_21_code 13 = .ok (.invokestatic 154, 3) := by decide +kernel
theorem d_M_pair_16 : decode prog_14_method_21_code 16 = .ok (.ifCond .eq 52, 3) := by decide +kernel
theorem d_M_pair_19 : decode prog_14_method_21_code 19 = .ok (.aload_n 0, 1) := by decide +kernel
theorem d_M_pair_20 : decode prog_14_method_21_code 20 = .ok (.iload_n 2, 1) := by decide +kernel
theorem d_M_pair_21 : decode prog_14_method_21_code 21 = .ok (.aload_n 0, 1) := by decide +kernel
theorem d_M_pair_22 : decode prog_14_method_21_code 22 = .ok (.getfield 34, 3) := by decide +kernel
theorem d_M_pair_25 : decode prog_14_method_21_code 25 = .ok (.iload_n 1, 1) := by decide +kernel
theorem d_M_pair_26 : decode prog_14_method_21_code 26 = .ok (.iaload, 1) := by decide +kernel
theorem d_M_pair_27 : decode prog_14_method_21_code 27 = .ok (.invokevirtual 196, 3) := by decide +kernel
theorem d_M_pair_30 : decode prog_14_method_21_code 30 = .ok (.ifCond .eq 38, 3) := by decide +kernel
theorem d_M_pair_33 : decode prog_14_method_21_code 33 = .ok (.aload_n 0, 1) := by decide +kernel
theorem d_M_pair_34 : decode prog_14_method_21_code 34 = .ok (.iload_n 3, 1) := by decide +kernel
theorem d_M_pair_35 : decode prog_14_method_21_code 35 = .ok (.aload_n 0, 1) := by decide +kernel
theorem d_M_pair_36 : decode prog_14_method_21_code 36 = .ok (.getfield 37, 3) := by decide +kernel
theorem d_M_pair_39 : decode prog_14_method_21_code 39 = .ok (.iload_n 1, 1) := by decide +kernel
theorem d_M_pair_40 : decode prog_14_method_21_code 40 = .ok (.iaload, 1) := by decide +kernel
theorem d_M_pair_41 : decode prog_14_method_21_code 41 = .ok (.invokevirtual 196, 3) := by decide +kernel
theorem d_M_pair_44 : decode prog_14_method_21_code 44 = .ok (.ifCond .eq 24, 3) := by decide +kernel
theorem d_M_pair_47 : decode prog_14_method_21_code 47 = .ok (.iload_n 2, 1) := by decide +kernel
theorem d_M_pair_48 : decode prog_14_method_21_code 48 = .ok (.iconst (-1), 1) := by decide +kernel
theorem d_M_pair_49 : decode prog_14_method_21_code 49 = .ok (.if_icmp .ne 8, 3) := by decide +kernel
theorem d_M_pair_52 : decode prog_14_method_21_code 52 = .ok (.iload_n 3, 1) := by decide +kernel
theorem d_M_pair_53 : decode prog_14_method_21_code 53 = .ok (.iconst (-1), 1) := by decide +kernel
theorem d_M_pair_54 : decode prog_14_method_21_code 54 = .ok (.if_icmp .eq 14, 3) := by decide +kernel
theorem d_M_pair_57 : decode prog_14_method_21_code 57 = .ok (.aload_n 0, 1) := by decide +kernel
theorem d_M_pair_58 : decode prog_14_method_21_code 58 = .ok (.getfield 46, 3) := by decide +kernel
theorem d_M_pair_61 : decode prog_14_method_21_code 61 = .ok (.iload_n 1, 1) := by decide +kernel
theorem d_M_pair_62 : decode prog_14_method_21_code 62 = .ok (.iaload, 1) := by decide +kernel
theorem d_M_pair_63 : decode prog_14_method_21_code 63 = .ok (.bipush 8, 2) := by decide +kernel
theorem d_M_pair_65 : decode prog_14_method_21_code 65 = .ok (.if_icmp .ne 5, 3) := by decide +kernel
theorem d_M_pair_68 : decode prog_14_method_21_code 68 = .ok (.iconst (-1), 1) := by decide +kernel
theorem d_M_pair_69 : decode prog_14_method_21_code 69 = .ok (.ireturn, 1) := by decide +kernel
theorem d_M_pair_70 : decode prog_14_method_21_code 70 = .ok (.iconst 0, 1) := by decide +kernel
theorem d_M_pair_71 : decode prog_14_method_21_code 71 = .ok (.istore 4, 2) := by decide +kernel
theorem d_M_pair_73 : decode prog_14_method_21_code 73 = .ok (.iload 4, 2) := by decide +kernel
theorem d_M_pair_75 : decode prog_14_method_21_code 75 = .ok (.aload_n 0, 1) := by decide +kernel
theorem d_M_pair_76 : decode prog_14_method_21_code 76 = .ok (.getfield 46, 3) := by decide +kernel
theorem d_M_pair_79 : decode prog_14_method_21_code 79 = .ok (.iload_n 1, 1) := by decide +kernel
theorem d_M_pair_80 : decode prog_14_method_21_code 80 = .ok (.iaload, 1) := by decide +kernel
theorem d_M_pair_81 : decode prog_14_method_21_code 81 = .ok (.if_icmp .ge 43, 3) := by decide +kernel
theorem d_M_pair_84 : decode prog_14_method_21_code 84 = .ok (.aload_n 0, 1) := by decide +kernel
theorem d_M_pair_85 : decode prog_14_method_21_code 85 = .ok (.getfield 40, 3) := by decide +kernel
theorem d_M_pair_88 : decode prog_14_method_21_code 88 = .ok (.bipush 8, 2) := by decide +kernel
theorem d_M_pair_90 : decode prog_14_method_21_code 90 = .ok (.iload_n 1, 1) := by decide +kernel
theorem d_M_pair_91 : decode prog_14_method_21_code 91 = .ok (.imul, 1) := by decide +kernel
theorem d_M_pair_92 : decode prog_14_method_21_code 92 = .ok (.iload 4, 2) := by decide +kernel
theorem d_M_pair_94 : decode prog_14_method_21_code 94 = .ok (.iadd, 1) := by decide +kernel
theorem d_M_pair_95 : decode prog_14_method_21_code 95 = .ok (.iaload, 1) := by decide +kernel
theorem d_M_pair_96 : decode prog_14_method_21_code 96 = .ok (.iload_n 2, 1) := by decide +kernel
theorem d_M_pair_97 : decode prog_14_method_21_code 97 = .ok (.if_icmp .ne 21, 3) := by decide +kernel
theorem d_M_pair_100 : decode prog_14_method_21_code 100 = .ok (.aload_n 0, 1) := by decide +kernel
theorem d_M_pair_101 : decode prog_14_method_21_code 101 = .ok (.getfield 43, 3) := by decide +kernel
theorem d_M_pair_104 : decode prog_14_method_21_code 104 = .ok (.bipush 8, 2) := by decide +kernel
theorem d_M_pair_106 : decode prog_14_method_21_code 106 = .ok (.iload_n 1, 1) := by decide +kernel
theorem d_M_pair_107 : decode prog_14_method_21_code 107 = .ok (.imul, 1) := by decide +kernel
theorem d_M_pair_108 : decode prog_14_method_21_code 108 = .ok (.iload 4, 2) := by decide +kernel
theorem d_M_pair_110 : decode prog_14_method_21_code 110 = .ok (.iadd, 1) := by decide +kernel
theorem d_M_pair_111 : decode prog_14_method_21_code 111 = .ok (.iaload, 1) := by decide +kernel
theorem d_M_pair_112 : decode prog_14_method_21_code 112 = .ok (.iload_n 3, 1) := by decide +kernel
theorem d_M_pair_113 : decode prog_14_method_21_code 113 = .ok (.if_icmp .ne 5, 3) := by decide +kernel
theorem d_M_pair_116 : decode prog_14_method_21_code 116 = .ok (.iconst (-1), 1) := by decide +kernel
theorem d_M_pair_117 : decode prog_14_method_21_code 117 = .ok (.ireturn, 1) := by decide +kernel
theorem d_M_pair_118 : decode prog_14_method_21_code 118 = .ok (.iinc 4 1, 3) := by decide +kernel
theorem d_M_pair_121 : decode prog_14_method_21_code 121 = .ok (.goto (-48), 3) := by decide +kernel
theorem d_M_pair_124 : decode prog_14_method_21_code 124 = .ok (.aload_n 0, 1) := by decide +kernel
theorem d_M_pair_125 : decode prog_14_method_21_code 125 = .ok (.getfield 40, 3) := by decide +kernel
theorem d_M_pair_128 : decode prog_14_method_21_code 128 = .ok (.bipush 8, 2) := by decide +kernel
theorem d_M_pair_130 : decode prog_14_method_21_code 130 = .ok (.iload_n 1, 1) := by decide +kernel
theorem d_M_pair_131 : decode prog_14_method_21_code 131 = .ok (.imul, 1) := by decide +kernel
theorem d_M_pair_132 : decode prog_14_method_21_code 132 = .ok (.aload_n 0, 1) := by decide +kernel
theorem d_M_pair_133 : decode prog_14_method_21_code 133 = .ok (.getfield 46, 3) := by decide +kernel
theorem d_M_pair_136 : decode prog_14_method_21_code 136 = .ok (.iload_n 1, 1) := by decide +kernel
theorem d_M_pair_137 : decode prog_14_method_21_code 137 = .ok (.iaload, 1) := by decide +kernel
theorem d_M_pair_138 : decode prog_14_method_21_code 138 = .ok (.iadd, 1) := by decide +kernel
theorem d_M_pair_139 : decode prog_14_method_21_code 139 = .ok (.iload_n 2, 1) := by decide +kernel
theorem d_M_pair_140 : decode prog_14_method_21_code 140 = .ok (.iastore, 1) := by decide +kernel
theorem d_M_pair_141 : decode prog_14_method_21_code 141 = .ok (.aload_n 0, 1) := by decide +kernel
theorem d_M_pair_142 : decode prog_14_method_21_code 142 = .ok (.getfield 43, 3) := by decide +kernel
theorem d_M_pair_145 : decode prog_14_method_21_code 145 = .ok (.bipush 8, 2) := by decide +kernel
theorem d_M_pair_147 : decode prog_14_method_21_code 147 = .ok (.iload_n 1, 1) := by decide +kernel
theorem d_M_pair_148 : decode prog_14_method_21_code 148 = .ok (.imul, 1) := by decide +kernel
theorem d_M_pair_149 : decode prog_14_method_21_code 149 = .ok (.aload_n 0, 1) := by decide +kernel
theorem d_M_pair_150 : decode prog_14_method_21_code 150 = .ok (.getfield 46, 3) := by decide +kernel
theorem d_M_pair_153 : decode prog_14_method_21_code 153 = .ok (.iload_n 1, 1) := by decide +kernel
theorem d_M_pair_154 : decode prog_14_method_21_code 154 = .ok (.iaload, 1) := by decide +kernel
theorem d_M_pair_155 : decode prog_14_method_21_code 155 = .ok (.iadd, 1) := by decide +kernel
theorem d_M_pair_156 : decode prog_14_method_21_code 156 = .ok (.iload_n 3, 1) := by decide +kernel
theorem d_M_pair_157 : decode prog_14_method_21_code 157 = .ok (.iastore, 1) := by decide +kernel
theorem d_M_pair_158 : decode prog_14_method_21_code 158 = .ok (.aload_n 0, 1) := by decide +kernel
theorem d_M_pair_159 : decode prog_14_method_21_code 159 = .ok (.getfield 46, 3) := by decide +kernel
theorem d_M_pair_162 : decode prog_14_method_21_code 162 = .ok (.iload_n 1, 1) := by decide +kernel
theorem d_M_pair_163 : decode prog_14_method_21_code 163 = .ok (.dup2, 1) := by decide +kernel
theorem d_M_pair_164 : decode prog_14_method_21_code 164 = .ok (.iaload, 1) := by decide +kernel
theorem d_M_pair_165 : decode prog_14_method_21_code 165 = .ok (.iconst 1, 1) := by decide +kernel
theorem d_M_pair_166 : decode prog_14_method_21_code 166 = .ok (.iadd, 1) := by decide +kernel
theorem d_M_pair_167 : decode prog_14_method_21_code 167 = .ok (.iastore, 1) := by decide +kernel
theorem d_M_pair_168 : decode prog_14_method_21_code 168 = .ok (.aload_n 0, 1) := by decide +kernel
theorem d_M_pair_169 : decode prog_14_method_21_code 169 = .ok (.getfield 46, 3) := by decide +kernel
theorem d_M_pair_172 : decode prog_14_method_21_code 172 = .ok (.iload_n 1, 1) := by decide +kernel
theorem d_M_pair_173 : decode prog_14_method_21_code 173 = .ok (.iaload, 1) := by decide +kernel
theorem d_M_pair_174 : decode prog_14_method_21_code 174 = .ok (.ireturn, 1) := by decide +kernel
theorem d_M_sign_0 : decode prog_14_method_22_code 0 = .ok (.aload_n 0, 1) := by decide +kernel
theorem d_M_sign_1 : decode prog_14_method_22_code 1 = .ok (.iconst 0, 1) := by decide +kernel
theorem d_M_sign_2 : decode prog_14_method_22_code 2 = .ok (.putfield 148, 3) := by decide +kernel
theorem d_M_sign_5 : decode prog_14_method_22_code 5 = .ok (.aload_n 0, 1) := by decide +kernel
theorem d_M_sign_6 : decode prog_14_method_22_code 6 = .ok (.getfield 200, 3) := by decide +kernel
theorem d_M_sign_9 : decode prog_14_method_22_code 9 = .ok (.iconst 4, 1) := by decide +kernel
theorem d_M_sign_10 : decode prog_14_method_22_code 10 = .ok (.iadd, 1) := by decide +kernel
theorem d_M_sign_11 : decode prog_14_method_22_code 11 = .ok (.bipush 100, 2) := by decide +kernel
theorem d_M_sign_13 : decode prog_14_method_22_code 13 = .ok (.if_icmp .le 5, 3) := by decide +kernel
theorem d_M_sign_16 : decode prog_14_method_22_code 16 = .ok (.iconst (-1), 1) := by decide +kernel
theorem d_M_sign_17 : decode prog_14_method_22_code 17 = .ok (.ireturn, 1) := by decide +kernel
theorem d_M_sign_18 : decode prog_14_method_22_code 18 = .ok (.iconst 3, 1) := by decide +kernel
theorem d_M_sign_19 : decode prog_14_method_22_code 19 = .ok (.istore_n 2, 1) := by decide +kernel
theorem d_M_sign_20 : decode prog_14_method_22_code 20 = .ok (.iload_n 2, 1) := by decide +kernel
theorem d_M_sign_21 : decode prog_14_method_22_code 21 = .ok (.ifCond .lt 32, 3) := by decide +kernel
theorem d_M_sign_24 : decode prog_14_method_22_code 24 = .ok (.aload_n 0, 1) := by decide +kernel
theorem d_M_sign_25 : decode prog_14_method_22_code 25 = .ok (.getfield 86, 3) := by decide +kernel
theorem d_M_sign_28 : decode prog_14_method_22_code 28 = .ok (.aload_n 0, 1) := by decide +kernel
theorem d_M_sign_29 : decode prog_14_method_22_code 29 = .ok (.dup, 1) := by decide +kernel
theorem d_M_sign_30 : decode prog_14_method_22_code 30 = .ok (.getfield 200, 3) := by decide +kernel
theorem d_M_sign_33 : decode prog_14_method_22_code 33 = .ok (.dup_x1, 1) := by decide +kernel
theorem d_M_sign_34 : decode prog_14_method_22_code 34 = .ok (.iconst 1, 1) := by decide +kernel
theorem d_M_sign_35 : decode prog_14_method_22_code 35 = .ok (.iadd, 1) := by decide +kernel
theorem d_M_sign_36 : decode prog_14_method_22_code 36 = .ok (.putfield 200, 3) := by decide +kernel
theorem d_M_sign_39 : decode prog_14_method_22_code 39 = .ok (.iload_n 1, 1) := by decide +kernel
theorem d_M_sign_40 : decode prog_14_method_22_code 40 = .ok (.bipush 8, 2) := by decide +kernel
theorem d_M_sign_42 : decode prog_14_method_22_code 42 = .ok (.iload_n 2, 1) := by decide +kernel
theorem d_M_sign_43 : decode prog_14_method_22_code 43 = .ok (.imul, 1) := by decide +kernel
theorem d_M_sign_44 : decode prog_14_method_22_code 44 = .ok (.ishr, 1) := by decide +kernel
theorem d_M_sign_45 : decode prog_14_method_22_code 45 = .ok (.i2b, 1) := by decide +kernel
theorem d_M_sign_46 : decode prog_14_method_22_code 46 = .ok (.bastore, 1) := by decide +kernel
theorem d_M_sign_47 : decode prog_14_method_22_code 47 = .ok (.iinc 2 (-1), 3) := by decide +kernel
theorem d_M_sign_50 : decode prog_14_method_22_code 50 = .ok (.goto (-30), 3) := by decide +kernel
theorem d_M_sign_53 : decode prog_14_method_22_code 53 = .ok (.aload_n 0, 1) := by decide +kernel
theorem d_M_sign_54 : decode prog_14_method_22_code 54 = .ok (.getfield 200, 3) := by decide +kernel
theorem d_M_sign_57 : decode prog_14_method_22_code 57 = .ok (.ireturn, 1) := by decide +kernel
theorem d_M_end_0 : decode prog_14_method_23_code 0 = .ok (.aload_n 0, 1) := by decide +kernel
theorem d_M_end_1 : decode prog_14_method_23_code 1 = .ok (.iconst 0, 1) := by decide +kernel
theorem d_M_end_2 : decode prog_14_method_23_code 2 = .ok (.putfield 148, 3) := by decide +kernel
theorem d_M_end_5 : decode prog_14_method_23_code 5 = .ok (.iload_n 1, 1) := by decide +kernel
theorem d_M_end_6 : decode prog_14_method_23_code 6 = .ok (.iconst 0, 1) := by decide +kernel
theorem d_M_end_7 : decode prog_14_method_23_code 7 = .ok (.aload_n 0, 1) := by decide +kernel
theorem d_M_end_8 : decode prog_14_method_23_code 8 = .ok (.getfield 200, 3) := by decide +kernel
theorem d_M_end_11 : decode prog_14_method_23_code 11 = .ok (.invokestatic 154, 3) := by decide +kernel
theorem d_M_end_14 : decode prog_14_method_23_code 14 = .ok (.ifCond .ne 5, 3) := by decide +kernel
theorem d_M_end_17 : decode prog_14_method_23_code 17 = .ok (.iconst 0, 1) := by decide +kernel
theorem d_M_end_18 : decode prog_14_method_23_code 18 = .ok (.ireturn, 1) := by decide +kernel
theorem d_M_end_19 : decode prog_14_method_23_code 19 = .ok (.aload_n 0, 1) := by decide +kernel
theorem d_M_end_20 : decode prog_14_method_23_code 20 = .ok (.iload_n 1, 1) := by decide +kernel
theorem d_M_end_21 : decode prog_14_method_23_code 21 = .ok (.putfield 200, 3) := by decide +kernel
theorem d_M_end_24 : decode prog_14_method_23_code 24 = .ok (.iconst 1, 1) := by decide +kernel
theorem d_M_end_25 : decode prog_14_method_23_code 25 = .ok (.ireturn, 1) := by decide +kernel
theorem d_M_here_0 : decode prog_14_method_24_code 0 = .ok (.aload_n 0, 1) := by decide +kernel
theorem d_M_here_1 : decode prog_14_method_24_code 1 = .ok (.getfield 203, 3) := by decide +kernel
theorem d_M_here_4 : decode prog_14_method_24_code 4 = .ok (.aload_n 0, 1) := by decide +kernel
theorem d_M_here_5 : decode prog_14_method_24_code 5 = .ok (.getfield 206, 3) := by decide +kernel
theorem d_M_here_8 : decode prog_14_method_24_code 8 = .ok (.if_icmp .ge 24, 3) := by decide +kernel
theorem d_M_here_11 : decode prog_14_method_24_code 11 = .ok (.aload_n 0, 1) := by decide +kernel
theorem d_M_here_12 : decode prog_14_method_24_code 12 = .ok (.getfield 203, 3) := by decide +kernel
theorem d_M_here_15 : decode prog_14_method_24_code 15 = .ok (.bipush 60, 2) := by decide +kernel
theorem d_M_here_17 : decode prog_14_method_24_code 17 = .ok (.if_icmp .ge 15, 3) := by decide +kernel
theorem d_M_here_20 : decode prog_14_method_24_code 20 = .ok (.aload_n 0, 1) := by decide +kernel
theorem d_M_here_21 : decode prog_14_method_24_code 21 = .ok (.getfield 86, 3) := by decide +kernel
theorem d_M_here_24 : decode prog_14_method_24_code 24 = .ok (.aload_n 0, 1) := by decide +kernel
theorem d_M_here_25 : decode prog_14_method_24_code 25 = .ok (.getfield 203, 3) := by decide +kernel
theorem d_M_here_28 : decode prog_14_method_24_code 28 = .ok (.baload, 1) := by decide +kernel
theorem d_M_here_29 : decode prog_14_method_24_code 29 = .ok (.goto 4, 3) := by decide +kernel
theorem d_M_here_32 : decode prog_14_method_24_code 32 = .ok (.iconst (-1), 1) := by decide +kernel
theorem d_M_here_33 : decode prog_14_method_24_code 33 = .ok (.ireturn, 1) := by decide +kernel
theorem d_M_passes_0 : decode prog_14_method_25_code 0 = .ok (.aload_n 0, 1) := by decide +kernel
theorem d_M_passes_1 : decode prog_14_method_25_code 1 = .ok (.invokevirtual 209, 3) := by decide +kernel
theorem d_M_passes_4 : decode prog_14_method_25_code 4 = .ok (.iload_n 1, 1) := by decide +kernel
theorem d_M_passes_5 : decode prog_14_method_25_code 5 = .ok (.if_icmp .eq 5, 3) := by decide +kernel
theorem d_M_passes_8 : decode prog_14_method_25_code 8 = .ok (.iconst 0, 1) := by decide +kernel
theorem d_M_passes_9 : decode prog_14_method_25_code 9 = .ok (.ireturn, 1) := by decide +kernel
theorem d_M_passes_10 : decode prog_14_method_25_code 10 = .ok (.aload_n 0, 1) := by decide +kernel
theorem d_M_passes_11 : decode prog_14_method_25_code 11 = .ok (.dup, 1) := by decide +kernel
theorem d_M_passes_12 : decode prog_14_method_25_code 12 = .ok (.getfield 203, 3) := by decide +kernel
theorem d_M_passes_15 : decode prog_14_method_25_code 15 = .ok (.iconst 1, 1) := by decide +kernel
theorem d_M_passes_16 : decode prog_14_method_25_code 16 = .ok (.iadd, 1) := by decide +kernel
theorem d_M_passes_17 : decode prog_14_method_25_code 17 = .ok (.putfield 203, 3) := by decide +kernel
theorem d_M_passes_20 : decode prog_14_method_25_code 20 = .ok (.iconst 1, 1) := by decide +kernel
theorem d_M_passes_21 : decode prog_14_method_25_code 21 = .ok (.ireturn, 1) := by decide +kernel
theorem d_M_digit_0 : decode prog_14_method_26_code 0 = .ok (.aload_n 0, 1) := by decide +kernel
theorem d_M_digit_1 : decode prog_14_method_26_code 1 = .ok (.invokevirtual 209, 3) := by decide +kernel
theorem d_M_digit_4 : decode prog_14_method_26_code 4 = .ok (.bipush 48, 2) := by decide +kernel
theorem d_M_digit_6 : decode prog_14_method_26_code 6 = .ok (.iload_n 1, 1) := by decide +kernel
theorem d_M_digit_7 : decode prog_14_method_26_code 7 = .ok (.invokestatic 154, 3) := by decide +kernel
theorem d_M_digit_10 : decode prog_14_method_26_code 10 = .ok (.ifCond .ne 5, 3) := by decide +kernel
theorem d_M_digit_13 : decode prog_14_method_26_code 13 = .ok (.iconst (-1), 1) := by decide +kernel
theorem d_M_digit_14 : decode prog_14_method_26_code 14 = .ok (.ireturn, 1) := by decide +kernel
theorem d_M_digit_15 : decode prog_14_method_26_code 15 = .ok (.aload_n 0, 1) := by decide +kernel
theorem d_M_digit_16 : decode prog_14_method_26_code 16 = .ok (.dup, 1) := by decide +kernel
theorem d_M_digit_17 : decode prog_14_method_26_code 17 = .ok (.getfield 203, 3) := by decide +kernel
theorem d_M_digit_20 : decode prog_14_method_26_code 20 = .ok (.iconst 1, 1) := by decide +kernel
theorem d_M_digit_21 : decode prog_14_method_26_code 21 = .ok (.iadd, 1) := by decide +kernel
theorem d_M_digit_22 : decode prog_14_method_26_code 22 = .ok (.putfield 203, 3) := by decide +kernel
theorem d_M_digit_25 : decode prog_14_method_26_code 25 = .ok (.aload_n 0, 1) := by decide +kernel
theorem d_M_digit_26 : decode prog_14_method_26_code 26 = .ok (.getfield 86, 3) := by decide +kernel
theorem d_M_digit_29 : decode prog_14_method_26_code 29 = .ok (.aload_n 0, 1) := by decide +kernel
theorem d_M_digit_30 : decode prog_14_method_26_code 30 = .ok (.getfield 203, 3) := by decide +kernel
theorem d_M_digit_33 : decode prog_14_method_26_code 33 = .ok (.iconst 1, 1) := by decide +kernel
theorem d_M_digit_34 : decode prog_14_method_26_code 34 = .ok (.isub, 1) := by decide +kernel
theorem d_M_digit_35 : decode prog_14_method_26_code 35 = .ok (.baload, 1) := by decide +kernel
theorem d_M_digit_36 : decode prog_14_method_26_code 36 = .ok (.bipush 48, 2) := by decide +kernel
theorem d_M_digit_38 : decode prog_14_method_26_code 38 = .ok (.isub, 1) := by decide +kernel
theorem d_M_digit_39 : decode prog_14_method_26_code 39 = .ok (.ireturn, 1) := by decide +kernel
theorem d_M_number_0 : decode prog_14_method_27_code 0 = .ok (.aload_n 0, 1) := by decide +kernel
theorem d_M_number_1 : decode prog_14_method_27_code 1 = .ok (.bipush 57, 2) := by decide +kernel
theorem d_M_number_3 : decode prog_14_method_27_code 3 = .ok (.invokevirtual 213, 3) := by decide +kernel
theorem d_M_number_6 : decode prog_14_method_27_code 6 = .ok (.istore_n 1, 1) := by decide +kernel
theorem d_M_number_7 : decode prog_14_method_27_code 7 = .ok (.iconst 1, 1) := by decide +kernel
theorem d_M_number_8 : decode prog_14_method_27_code 8 = .ok (.istore_n 2, 1) := by decide +kernel
theorem d_M_number_9 : decode prog_14_method_27_code 9 = .ok (.iload_n 2, 1) := by decide +kernel
theorem d_M_number_10 : decode prog_14_method_27_code 10 = .ok (.iconst 3, 1) := by decide +kernel
theorem d_M_number_11 : decode prog_14_method_27_code 11 = .ok (.if_icmp .ge 40, 3) := by decide +kernel
theorem d_M_number_14 : decode prog_14_method_27_code 14 = .ok (.iload_n 1, 1) := by decide +kernel
theorem d_M_number_15 : decode prog_14_method_27_code 15 = .ok (.iconst (-1), 1) := by decide +kernel
theorem d_M_number_16 : decode prog_14_method_27_code 16 = .ok (.if_icmp .eq 35, 3) := by decide +kernel
theorem d_M_number_19 : decode prog_14_method_27_code 19 = .ok (.aload_n 0, 1) := by decide +kernel
theorem d_M_number_20 : decode prog_14_method_27_code 20 = .ok (.invokevirtual 209, 3) := by decide +kernel
theorem d_M_number_23 : decode prog_14_method_27_code 23 = .ok (.bipush 48, 2) := by decide +kernel
theorem d_M_number_25 : decode prog_14_method_27_code 25 = .ok (.bipush 57, 2) := by decide +kernel
theorem d_M_number_27 : decode prog_14_method_27_code 27 = .ok (.invokestatic 154, 3) := by decide +kernel
theorem d_M_number_30 : decode prog_14_method_27_code 30 = .ok (.ifCond .eq 21, 3) := by decide +kernel
theorem d_M_number_33 : decode prog_14_method_27_code 33 = .ok (.bipush 10, 2) := by decide +kernel
theorem d_M_number_35 : decode prog_14_method_27_code 35 = .ok (.iload_n 1, 1) := by decide +kernel
theorem d_M_number_36 : decode prog_14_method_27_code 36 = .ok (.imul, 1) := by decide +kernel
theorem d_M_number_37 : decode prog_14_method_27_code 37 = .ok (.aload_n 0, 1) := by decide +kernel
theorem d_M_number_38 : decode prog_14_method_27_code 38 = .ok (.bipush 57, 2) := by decide +kernel
theorem d_M_number_40 : decode prog_14_method_27_code 40 = .ok (.invokevirtual 213, 3) := by decide +kernel
theorem d_M_number_43 : decode prog_14_method_27_code 43 = .ok (.iadd, 1) := by decide +kernel
theorem d_M_number_44 : decode prog_14_method_27_code 44 = .ok (.istore_n 1, 1) := by decide +kernel
theorem d_M_number_45 : decode prog_14_method_27_code 45 = .ok (.iinc 2 1, 3) := by decide +kernel
theorem d_M_number_48 : decode prog_14_method_27_code 48 = .ok (.goto (-39), 3) := by decide +kernel
theorem d_M_number_51 : decode prog_14_method_27_code 51 = .ok (.iload_n 1, 1) := by decide +kernel
theorem d_M_number_52 : decode prog_14_method_27_code 52 = .ok (.ireturn, 1) := by decide +kernel
theorem d_M_key_0 : decode prog_14_method_28_code 0 = .ok (.aload_n 0, 1) := by decide +kernel
theorem d_M_key_1 : decode prog_14_method_28_code 1 = .ok (.invokevirtual 209, 3) := by decide +kernel
theorem d_M_key_4 : decode prog_14_method_28_code 4 = .ok (.istore_n 1, 1) := by decide +kernel
theorem d_M_key_5 : decode prog_14_method_28_code 5 = .ok (.iload_n 1, 1) := by decide +kernel
theorem d_M_key_6 : decode prog_14_method_28_code 6 = .ok (.bipush 43, 2) := by decide +kernel
theorem d_M_key_8 : decode prog_14_method_28_code 8 = .ok (.if_icmp .eq 11, 3) := by decide +kernel
theorem d_M_key_11 : decode prog_14_method_28_code 11 = .ok (.iload_n 1, 1) := by decide +kernel
theorem d_M_key_12 : decode prog_14_method_28_code 12 = .ok (.bipush 45, 2) := by decide +kernel
theorem d_M_key_14 : decode prog_14_method_28_code 14 = .ok (.if_icmp .eq 5, 3) := by decide +kernel
theorem d_M_key_17 : decode prog_14_method_28_code 17 = .ok (.iconst 0, 1) := by decide +kernel
theorem d_M_key_18 : decode prog_14_method_28_code 18 = .ok (.ireturn, 1) := by decide +kernel
theorem d_M_key_19 : decode prog_14_method_28_code 19 = .ok (.aload_n 0, 1) := by decide +kernel
theorem d_M_key_20 : decode prog_14_method_28_code 20 = .ok (.dup, 1) := by decide +kernel
theorem d_M_key_21 : decode prog_14_method_28_code 21 = .ok (.getfield 203, 3) := by decide +kernel
theorem d_M_key_24 : decode prog_14_method_28_code 24 = .ok (.iconst 1, 1) := by decide +kernel
theorem d_M_key_25 : decode prog_14_method_28_code 25 = .ok (.iadd, 1) := by decide +kernel
theorem d_M_key_26 : decode prog_14_method_28_code 26 = .ok (.putfield 203, 3) := by decide +kernel
theorem d_M_key_29 : decode prog_14_method_28_code 29 = .ok (.aload_n 0, 1) := by decide +kernel
theorem d_M_key_30 : decode prog_14_method_28_code 30 = .ok (.invokevirtual 209, 3) := by decide +kernel
theorem d_M_key_33 : decode prog_14_method_28_code 33 = .ok (.istore_n 2, 1) := by decide +kernel
theorem d_M_key_34 : decode prog_14_method_28_code 34 = .ok (.iload_n 2, 1) := by decide +kernel
theorem d_M_key_35 : decode prog_14_method_28_code 35 = .ok (.iconst (-1), 1) := by decide +kernel
theorem d_M_key_36 : decode prog_14_method_28_code 36 = .ok (.if_icmp .ne 7, 3) := by decide +kernel
theorem d_M_key_39 : decode prog_14_method_28_code 39 = .ok (.iconst (-1), 1) := by decide +kernel
theorem d_M_key_40 : decode prog_14_method_28_code 40 = .ok (.goto 9, 3) := by decide +kernel
theorem d_M_key_43 : decode prog_14_method_28_code 43 = .ok (.ldc 217, 2) := by decide +kernel
theorem d_M_key_45 : decode prog_14_method_28_code 45 = .ok (.iload_n 2, 1) := by decide +kernel
theorem d_M_key_46 : decode prog_14_method_28_code 46 = .ok (.invokevirtual 219, 3) := by decide +kernel
theorem d_M_key_49 : decode prog_14_method_28_code 49 = .ok (.istore_n 3, 1) := by decide +kernel
theorem d_M_key_50 : decode prog_14_method_28_code 50 = .ok (.iload_n 3, 1) := by decide +kernel
theorem d_M_key_51 : decode prog_14_method_28_code 51 = .ok (.ifCond .ge 5, 3) := by decide +kernel
theorem d_M_key_54 : decode prog_14_method_28_code 54 = .ok (.iconst 0, 1) := by decide +kernel
theorem d_M_key_55 : decode prog_14_method_28_code 55 = .ok (.ireturn, 1) := by decide +kernel
theorem d_M_key_56 : decode prog_14_method_28_code 56 = .ok (.aload_n 0, 1) := by decide +kernel
theorem d_M_key_57 : decode prog_14_method_28_code 57 = .ok (.dup, 1) := by decide +kernel
theorem d_M_key_58 : decode prog_14_method_28_code 58 = .ok (.getfield 203, 3) := by decide +kernel
theorem d_M_key_61 : decode prog_14_method_28_code 61 = .ok (.iconst 1, 1) := by decide +kernel
theorem d_M_key_62 : decode prog_14_method_28_code 62 = .ok (.iadd, 1) := by decide +kernel
theorem d_M_key_63 : decode prog_14_method_28_code 63 = .ok (.putfield 203, 3) := by decide +kernel
theorem d_M_key_66 : decode prog_14_method_28_code 66 = .ok (.aload_n 0, 1) := by decide +kernel
theorem d_M_key_67 : decode prog_14_method_28_code 67 = .ok (.getfield 102, 3) := by decide +kernel
theorem d_M_key_70 : decode prog_14_method_28_code 70 = .ok (.aload_n 0, 1) := by decide +kernel
theorem d_M_key_71 : decode prog_14_method_28_code 71 = .ok (.getfield 224, 3) := by decide +kernel
theorem d_M_key_74 : decode prog_14_method_28_code 74 = .ok (.iload_n 1, 1) := by decide +kernel
theorem d_M_key_75 : decode prog_14_method_28_code 75 = .ok (.bipush 43, 2) := by decide +kernel
theorem d_M_key_77 : decode prog_14_method_28_code 77 = .ok (.if_icmp .ne 7, 3) := by decide +kernel
theorem d_M_key_80 : decode prog_14_method_28_code 80 = .ok (.iload_n 3, 1) := by decide +kernel
theorem d_M_key_81 : decode prog_14_method_28_code 81 = .ok (.goto 6, 3) := by decide +kernel
theorem d_M_key_84 : decode prog_14_method_28_code 84 = .ok (.iload_n 3, 1) := by decide +kernel
theorem d_M_key_85 : decode prog_14_method_28_code 85 = .ok (.iconst 5, 1) := by decide +kernel
theorem d_M_key_86 : decode prog_14_method_28_code 86 = .ok (.iadd, 1) := by decide +kernel
theorem d_M_key_87 : decode prog_14_method_28_code 87 = .ok (.iastore, 1) := by decide +kernel
theorem d_M_key_88 : decode prog_14_method_28_code 88 = .ok (.aload_n 0, 1) := by decide +kernel
theorem d_M_key_89 : decode prog_14_method_28_code 89 = .ok (.dup, 1) := by decide +kernel
theorem d_M_key_90 : decode prog_14_method_28_code 90 = .ok (.getfield 224, 3) := by decide +kernel
theorem d_M_key_93 : decode prog_14_method_28_code 93 = .ok (.iconst 1, 1) := by decide +kernel
theorem d_M_key_94 : decode prog_14_method_28_code 94 = .ok (.iadd, 1) := by decide +kernel
theorem d_M_key_95 : decode prog_14_method_28_code 95 = .ok (.putfield 224, 3) := by decide +kernel
theorem d_M_key_98 : decode prog_14_method_28_code 98 = .ok (.iconst 1, 1) := by decide +kernel
theorem d_M_key_99 : decode prog_14_method_28_code 99 = .ok (.ireturn, 1) := by decide +kernel
theorem d_M_two_0 : decode prog_14_method_29_code 0 = .ok (.aload_n 0, 1) := by decide +kernel
theorem d_M_two_1 : decode prog_14_method_29_code 1 = .ok (.bipush 54, 2) := by decide +kernel
theorem d_M_two_3 : decode prog_14_method_29_code 3 = .ok (.invokevirtual 213, 3) := by decide +kernel
theorem d_M_two_6 : decode prog_14_method_29_code 6 = .ok (.istore_n 2, 1) := by decide +kernel
theorem d_M_two_7 : decode prog_14_method_29_code 7 = .ok (.iload_n 2, 1) := by decide +kernel
theorem d_M_two_8 : decode prog_14_method_29_code 8 = .ok (.iconst (-1), 1) := by decide +kernel
theorem d_M_two_9 : decode prog_14_method_29_code 9 = .ok (.if_icmp .eq 11, 3) := by decide +kernel
theorem d_M_two_12 : decode prog_14_method_29_code 12 = .ok (.aload_n 0, 1) := by decide +kernel
theorem d_M_two_13 : decode prog_14_method_29_code 13 = .ok (.iload_n 1, 1) := by decide +kernel
theorem d_M_two_14 : decode prog_14_method_29_code 14 = .ok (.invokevirtual 227, 3) := by decide +kernel
theorem d_M_two_17 : decode prog_14_method_29_code 17 = .ok (.ifCond .ne 5, 3) := by decide +kernel
theorem d_M_two_20 : decode prog_14_method_29_code 20 = .ok (.iconst (-1), 1) := by decide +kernel
theorem d_M_two_21 : decode prog_14_method_29_code 21 = .ok (.ireturn, 1) := by decide +kernel
theorem d_M_two_22 : decode prog_14_method_29_code 22 = .ok (.aload_n 0, 1) := by decide +kernel
theorem d_M_two_23 : decode prog_14_method_29_code 23 = .ok (.invokevirtual 209, 3) := by decide +kernel
theorem d_M_two_26 : decode prog_14_method_29_code 26 = .ok (.bipush 48, 2) := by decide +kernel
theorem d_M_two_28 : decode prog_14_method_29_code 28 = .ok (.iload_n 2, 1) := by decide +kernel
theorem d_M_two_29 : decode prog_14_method_29_code 29 = .ok (.iadd, 1) := by decide +kernel
theorem d_M_two_30 : decode prog_14_method_29_code 30 = .ok (.if_icmp .ne 5, 3) := by decide +kernel
theorem d_M_two_33 : decode prog_14_method_29_code 33 = .ok (.iconst (-1), 1) := by decide +kernel
theorem d_M_two_34 : decode prog_14_method_29_code 34 = .ok (.ireturn, 1) := by decide +kernel
theorem d_M_two_35 : decode prog_14_method_29_code 35 = .ok (.aload_n 0, 1) := by decide +kernel
theorem d_M_two_36 : decode prog_14_method_29_code 36 = .ok (.bipush 54, 2) := by decide +kernel
theorem d_M_two_38 : decode prog_14_method_29_code 38 = .ok (.invokevirtual 213, 3) := by decide +kernel
theorem d_M_two_41 : decode prog_14_method_29_code 41 = .ok (.istore_n 3, 1) := by decide +kernel
theorem d_M_two_42 : decode prog_14_method_29_code 42 = .ok (.iload_n 3, 1) := by decide +kernel
theorem d_M_two_43 : decode prog_14_method_29_code 43 = .ok (.iconst (-1), 1) := by decide +kernel
theorem d_M_two_44 : decode prog_14_method_29_code 44 = .ok (.if_icmp .ne 7, 3) := by decide +kernel
theorem d_M_two_47 : decode prog_14_method_29_code 47 = .ok (.iconst (-1), 1) := by decide +kernel
theorem d_M_two_48 : decode prog_14_method_29_code 48 = .ok (.goto 10, 3) := by decide +kernel
theorem d_M_two_51 : decode prog_14_method_29_code 51 = .ok (.iconst 1, 1) := by decide +kernel
theorem d_M_two_52 : decode prog_14_method_29_code 52 = .ok (.iload_n 2, 1) := by decide +kernel
theorem d_M_two_53 : decode prog_14_method_29_code 53 = .ok (.ishl, 1) := by decide +kernel
theorem d_M_two_54 : decode prog_14_method_29_code 54 = .ok (.iconst 1, 1) := by decide +kernel
theorem d_M_two_55 : decode prog_14_method_29_code 55 = .ok (.iload_n 3, 1) := by decide +kernel
theorem d_M_two_56 : decode prog_14_method_29_code 56 = .ok (.ishl, 1) := by decide +kernel
theorem d_M_two_57 : decode prog_14_method_29_code 57 = .ok (.ior, 1) := by decide +kernel
theorem d_M_two_58 : decode prog_14_method_29_code 58 = .ok (.ireturn, 1) := by decide +kernel
theorem d_M_line_0 : decode prog_14_method_30_code 0 = .ok (.aload_n 0, 1) := by decide +kernel
theorem d_M_line_1 : decode prog_14_method_30_code 1 = .ok (.bipush 113, 2) := by decide +kernel
theorem d_M_line_3 : decode prog_14_method_30_code 3 = .ok (.invokevirtual 227, 3) := by decide +kernel
theorem d_M_line_6 : decode prog_14_method_30_code 6 = .ok (.ifCond .eq 22, 3) := by decide +kernel
theorem d_M_line_9 : decode prog_14_method_30_code 9 = .ok (.aload_n 0, 1) := by decide +kernel
theorem d_M_line_10 : decode prog_14_method_30_code 10 = .ok (.invokevirtual 230, 3) := by decide +kernel
theorem d_M_line_13 : decode prog_14_method_30_code 13 = .ok (.istore_n 1, 1) := by decide +kernel
theorem d_M_line_14 : decode prog_14_method_30_code 14 = .ok (.iload_n 1, 1) := by decide +kernel
theorem d_M_line_15 : decode prog_14_method_30_code 15 = .ok (.iconst (-1), 1) := by decide +kernel
theorem d_M_line_16 : decode prog_14_method_30_code 16 = .ok (.if_icmp .ne 5, 3) := by decide +kernel
theorem d_M_line_19 : decode prog_14_method_30_code 19 = .ok (.iconst 0, 1) := by decide +kernel
theorem d_M_line_20 : decode prog_14_method_30_code 20 = .ok (.ireturn, 1) := by decide +kernel
theorem d_M_line_21 : decode prog_14_method_30_code 21 = .ok (.aload_n 0, 1) := by decide +kernel
theorem d_M_line_22 : decode prog_14_method_30_code 22 = .ok (.iload_n 1, 1) := by decide +kernel
theorem d_M_line_23 : decode prog_14_method_30_code 23 = .ok (.putfield 233, 3) := by decide +kernel
theorem d_M_line_26 : decode prog_14_method_30_code 26 = .ok (.iconst 1, 1) := by decide +kernel
theorem d_M_line_27 : decode prog_14_method_30_code 27 = .ok (.ireturn, 1) := by decide +kernel
theorem d_M_line_28 : decode prog_14_method_30_code 28 = .ok (.aload_n 0, 1) := by decide +kernel
theorem d_M_line_29 : decode prog_14_method_30_code 29 = .ok (.bipush 99, 2) := by decide +kernel
theorem d_M_line_31 : decode prog_14_method_30_code 31 = .ok (.invokevirtual 227, 3) := by decide +kernel
theorem d_M_line_34 : decode prog_14_method_30_code 34 = .ok (.ifCond .eq 22, 3) := by decide +kernel
theorem d_M_line_37 : decode prog_14_method_30_code 37 = .ok (.aload_n 0, 1) := by decide +kernel
theorem d_M_line_38 : decode prog_14_method_30_code 38 = .ok (.invokevirtual 230, 3) := by decide +kernel
theorem d_M_line_41 : decode prog_14_method_30_code 41 = .ok (.istore_n 1, 1) := by decide +kernel
theorem d_M_line_42 : decode prog_14_method_30_code 42 = .ok (.iload_n 1, 1) := by decide +kernel
theorem d_M_line_43 : decode prog_14_method_30_code 43 = .ok (.iconst (-1), 1) := by decide +kernel
theorem d_M_line_44 : decode prog_14_method_30_code 44 = .ok (.if_icmp .ne 5, 3) := by decide +kernel
theorem d_M_line_47 : decode prog_14_method_30_code 47 = .ok (.iconst 0, 1) := by decide +kernel
theorem d_M_line_48 : decode prog_14_method_30_code 48 = .ok (.ireturn, 1) := by decide +kernel
theorem d_M_line_49 : decode prog_14_method_30_code 49 = .ok (.aload_n 0, 1) := by decide +kernel
theorem d_M_line_50 : decode prog_14_method_30_code 50 = .ok (.iload_n 1, 1) := by decide +kernel
theorem d_M_line_51 : decode prog_14_method_30_code 51 = .ok (.putfield 236, 3) := by decide +kernel
theorem d_M_line_54 : decode prog_14_method_30_code 54 = .ok (.iconst 1, 1) := by decide +kernel
theorem d_M_line_55 : decode prog_14_method_30_code 55 = .ok (.ireturn, 1) := by decide +kernel
theorem d_M_line_56 : decode prog_14_method_30_code 56 = .ok (.aload_n 0, 1) := by decide +kernel
theorem d_M_line_57 : decode prog_14_method_30_code 57 = .ok (.bipush 114, 2) := by decide +kernel
theorem d_M_line_59 : decode prog_14_method_30_code 59 = .ok (.invokevirtual 227, 3) := by decide +kernel
theorem d_M_line_62 : decode prog_14_method_30_code 62 = .ok (.ifCond .eq 54, 3) := by decide +kernel
theorem d_M_line_65 : decode prog_14_method_30_code 65 = .ok (.aload_n 0, 1) := by decide +kernel
theorem d_M_line_66 : decode prog_14_method_30_code 66 = .ok (.iconst 0, 1) := by decide +kernel
theorem d_M_line_67 : decode prog_14_method_30_code 67 = .ok (.putfield 224, 3) := by decide +kernel
theorem d_M_line_70 : decode prog_14_method_30_code 70 = .ok (.aload_n 0, 1) := by decide +kernel
theorem d_M_line_71 : decode prog_14_method_30_code 71 = .ok (.invokevirtual 239, 3) := by decide +kernel
theorem d_M_line_74 : decode prog_14_method_30_code 74 = .ok (.ifCond .ne 5, 3) := by decide +kernel
theorem d_M_line_77 : decode prog_14_method_30_code 77 = .ok (.iconst 0, 1) := by decide +kernel
theorem d_M_line_78 : decode prog_14_method_30_code 78 = .ok (.ireturn, 1) := by decide +kernel
theorem d_M_line_79 : decode prog_14_method_30_code 79 = .ok (.aload_n 0, 1) := by decide +kernel
theorem d_M_line_80 : decode prog_14_method_30_code 80 = .ok (.getfield 224, 3) := by decide +kernel
theorem d_M_line_83 : decode prog_14_method_30_code 83 = .ok (.iconst 5, 1) := by decide +kernel
theorem d_M_line_84 : decode prog_14_method_30_code 84 = .ok (.if_icmp .ge 30, 3) := by decide +kernel
theorem d_M_line_87 : decode prog_14_method_30_code 87 = .ok (.aload_n 0, 1) := by decide +kernel
theorem d_M_line_88 : decode prog_14_method_30_code 88 = .ok (.invokevirtual 209, 3) := by decide +kernel
theorem d_M_line_91 : decode prog_14_method_30_code 91 = .ok (.bipush 43, 2) := by decide +kernel
theorem d_M_line_93 : decode prog_14_method_30_code 93 = .ok (.if_icmp .eq 12, 3) := by decide +kernel
theorem d_M_line_96 : decode prog_14_method_30_code 96 = .ok (.aload_n 0, 1) := by decide +kernel
theorem d_M_line_97 : decode prog_14_method_30_code 97 = .ok (.invokevirtual 209, 3) := by decide +kernel
theorem d_M_line_100 : decode prog_14_method_30_code 100 = .ok (.bipush 45, 2) := by decide +kernel
theorem d_M_line_102 : decode prog_14_method_30_code 102 = .ok (.if_icmp .ne 12, 3) := by decide +kernel
theorem d_M_line_105 : decode prog_14_method_30_code 105 = .ok (.aload_n 0, 1) := by decide +kernel
theorem d_M_line_106 : decode prog_14_method_30_code 106 = .ok (.invokevirtual 239, 3) := by decide +kernel
theorem d_M_line_109 : decode prog_14_method_30_code 109 = .ok (.ifCond .ne (-30), 3) := by decide +kernel
theorem d_M_line_112 : decode prog_14_method_30_code 112 = .ok (.iconst 0, 1) := by decide +kernel
theorem d_M_line_113 : decode prog_14_method_30_code 113 = .ok (.ireturn, 1) := by decide +kernel
theorem d_M_line_114 : decode prog_14_method_30_code 114 = .ok (.iconst 1, 1) := by decide +kernel
theorem d_M_line_115 : decode prog_14_method_30_code 115 = .ok (.ireturn, 1) := by decide +kernel
theorem d_M_line_116 : decode prog_14_method_30_code 116 = .ok (.aload_n 0, 1) := by decide +kernel
theorem d_M_line_117 : decode prog_14_method_30_code 117 = .ok (.bipush 107, 2) := by decide +kernel
theorem d_M_line_119 : decode prog_14_method_30_code 119 = .ok (.invokevirtual 227, 3) := by decide +kernel
theorem d_M_line_122 : decode prog_14_method_30_code 122 = .ok (.ifCond .eq 72, 3) := by decide +kernel
theorem d_M_line_125 : decode prog_14_method_30_code 125 = .ok (.aload_n 0, 1) := by decide +kernel
theorem d_M_line_126 : decode prog_14_method_30_code 126 = .ok (.bipush 51, 2) := by decide +kernel
theorem d_M_line_128 : decode prog_14_method_30_code 128 = .ok (.invokevirtual 213, 3) := by decide +kernel
theorem d_M_line_131 : decode prog_14_method_30_code 131 = .ok (.istore_n 1, 1) := by decide +kernel
theorem d_M_line_132 : decode prog_14_method_30_code 132 = .ok (.iload_n 1, 1) := by decide +kernel
theorem d_M_line_133 : decode prog_14_method_30_code 133 = .ok (.iconst (-1), 1) := by decide +kernel
theorem d_M_line_134 : decode prog_14_method_30_code 134 = .ok (.if_icmp .eq 12, 3) := by decide +kernel
theorem d_M_line_137 : decode prog_14_method_30_code 137 = .ok (.aload_n 0, 1) := by decide +kernel
theorem d_M_line_138 : decode prog_14_method_30_code 138 = .ok (.bipush 42, 2) := by decide +kernel
theorem d_M_line_140 : decode prog_14_method_30_code 140 = .ok (.invokevirtual 227, 3) := by decide +kernel
theorem d_M_line_143 : decode prog_14_method_30_code 143 = .ok (.ifCond .ne 5, 3) := by decide +kernel
theorem d_M_line_146 : decode prog_14_method_30_code 146 = .ok (.iconst 0, 1) := by decide +kernel
theorem d_M_line_147 : decode prog_14_method_30_code 147 = .ok (.ireturn, 1) := by decide +kernel
theorem d_M_line_148 : decode prog_14_method_30_code 148 = .ok (.aload_n 0, 1) := by decide +kernel
theorem d_M_line_149 : decode prog_14_method_30_code 149 = .ok (.bipush 57, 2) := by decide +kernel
theorem d_M_line_151 : decode prog_14_method_30_code 151 = .ok (.invokevirtual 213, 3) := by decide +kernel
theorem d_M_line_154 : decode prog_14_method_30_code 154 = .ok (.istore_n 2, 1) := by decide +kernel
theorem d_M_line_155 : decode prog_14_method_30_code 155 = .ok (.iload_n 2, 1) := by decide +kernel
theorem d_M_line_156 : decode prog_14_method_30_code 156 = .ok (.iconst (-1), 1) := by decide +kernel
theorem d_M_line_157 : decode prog_14_method_30_code 157 = .ok (.if_icmp .ne 5, 3) := by decide +kernel
theorem d_M_line_160 : decode prog_14_method_30_code 160 = .ok (.iconst 0, 1) := by decide +kernel
theorem d_M_line_161 : decode prog_14_method_30_code 161 = .ok (.ireturn, 1) := by decide +kernel
theorem d_M_line_162 : decode prog_14_method_30_code 162 = .ok (.aload_n 0, 1) := by decide +kernel
theorem d_M_line_163 : decode prog_14_method_30_code 163 = .ok (.getfield 105, 3) := by decide +kernel
theorem d_M_line_166 : decode prog_14_method_30_code 166 = .ok (.aload_n 0, 1) := by decide +kernel
theorem d_M_line_167 : decode prog_14_method_30_code 167 = .ok (.getfield 243, 3) := by decide +kernel
theorem d_M_line_170 : decode prog_14_method_30_code 170 = .ok (.iload_n 1, 1) := by decide +kernel
theorem d_M_line_171 : decode prog_14_method_30_code 171 = .ok (.iastore, 1) := by decide +kernel
theorem d_M_line_172 : decode prog_14_method_30_code 172 = .ok (.aload_n 0, 1) := by decide +kernel
theorem d_M_line_173 : decode prog_14_method_30_code 173 = .ok (.getfield 108, 3) := by decide +kernel
theorem d_M_line_176 : decode prog_14_method_30_code 176 = .ok (.aload_n 0, 1) := by decide +kernel
theorem d_M_line_177 : decode prog_14_method_30_code 177 = .ok (.getfield 243, 3) := by decide +kernel
theorem d_M_line_180 : decode prog_14_method_30_code 180 = .ok (.iload_n 2, 1) := by decide +kernel
theorem d_M_line_181 : decode prog_14_method_30_code 181 = .ok (.iastore, 1) := by decide +kernel
theorem d_M_line_182 : decode prog_14_method_30_code 182 = .ok (.aload_n 0, 1) := by decide +kernel
theorem d_M_line_183 : decode prog_14_method_30_code 183 = .ok (.dup, 1) := by decide +kernel
theorem d_M_line_184 : decode prog_14_method_30_code 184 = .ok (.getfield 243, 3) := by decide +kernel
theorem d_M_line_187 : decode prog_14_method_30_code 187 = .ok (.iconst 1, 1) := by decide +kernel
theorem d_M_line_188 : decode prog_14_method_30_code 188 = .ok (.iadd, 1) := by decide +kernel
theorem d_M_line_189 : decode prog_14_method_30_code 189 = .ok (.putfield 243, 3) := by decide +kernel
theorem d_M_line_192 : decode prog_14_method_30_code 192 = .ok (.iconst 1, 1) := by decide +kernel
theorem d_M_line_193 : decode prog_14_method_30_code 193 = .ok (.ireturn, 1) := by decide +kernel
theorem d_M_line_194 : decode prog_14_method_30_code 194 = .ok (.aload_n 0, 1) := by decide +kernel
theorem d_M_line_195 : decode prog_14_method_30_code 195 = .ok (.bipush 119, 2) := by decide +kernel
theorem d_M_line_197 : decode prog_14_method_30_code 197 = .ok (.invokevirtual 227, 3) := by decide +kernel
theorem d_M_line_200 : decode prog_14_method_30_code 200 = .ok (.ifCond .eq 39, 3) := by decide +kernel
theorem d_M_line_203 : decode prog_14_method_30_code 203 = .ok (.aload_n 0, 1) := by decide +kernel
theorem d_M_line_204 : decode prog_14_method_30_code 204 = .ok (.bipush 38, 2) := by decide +kernel
theorem d_M_line_206 : decode prog_14_method_30_code 206 = .ok (.invokevirtual 246, 3) := by decide +kernel
theorem d_M_line_209 : decode prog_14_method_30_code 209 = .ok (.istore_n 1, 1) := by decide +kernel
theorem d_M_line_210 : decode prog_14_method_30_code 210 = .ok (.iload_n 1, 1) := by decide +kernel
theorem d_M_line_211 : decode prog_14_method_30_code 211 = .ok (.iconst (-1), 1) := by decide +kernel
theorem d_M_line_212 : decode prog_14_method_30_code 212 = .ok (.if_icmp .ne 5, 3) := by decide +kernel
theorem d_M_line_215 : decode prog_14_method_30_code 215 = .ok (.iconst 0, 1) := by decide +kernel
theorem d_M_line_216 : decode prog_14_method_30_code 216 = .ok (.ireturn, 1) := by decide +kernel
theorem d_M_line_217 : decode prog_14_method_30_code 217 = .ok (.aload_n 0, 1) := by decide +kernel
theorem d_M_line_218 : decode prog_14_method_30_code 218 = .ok (.getfield 111, 3) := by decide +kernel
theorem d_M_line_221 : decode prog_14_method_30_code 221 = .ok (.aload_n 0, 1) := by decide +kernel
theorem d_M_line_222 : decode prog_14_method_30_code 222 = .ok (.getfield 249, 3) := by decide +kernel
theorem d_M_line_225 : decode prog_14_method_30_code 225 = .ok (.iload_n 1, 1) := by decide +kernel
theorem d_M_line_226 : decode prog_14_method_30_code 226 = .ok (.iastore, 1) := by decide +kernel
theorem d_M_line_227 : decode prog_14_method_30_code 227 = .ok (.aload_n 0, 1) := by decide +kernel
theorem d_M_line_228 : decode prog_14_method_30_code 228 = .ok (.dup, 1) := by decide +kernel
theorem d_M_line_229 : decode prog_14_method_30_code 229 = .ok (.getfield 249, 3) := by decide +kernel
theorem d_M_line_232 : decode prog_14_method_30_code 232 = .ok (.iconst 1, 1) := by decide +kernel
theorem d_M_line_233 : decode prog_14_method_30_code 233 = .ok (.iadd, 1) := by decide +kernel
theorem d_M_line_234 : decode prog_14_method_30_code 234 = .ok (.putfield 249, 3) := by decide +kernel
theorem d_M_line_237 : decode prog_14_method_30_code 237 = .ok (.iconst 1, 1) := by decide +kernel
theorem d_M_line_238 : decode prog_14_method_30_code 238 = .ok (.ireturn, 1) := by decide +kernel
theorem d_M_line_239 : decode prog_14_method_30_code 239 = .ok (.aload_n 0, 1) := by decide +kernel
theorem d_M_line_240 : decode prog_14_method_30_code 240 = .ok (.bipush 120, 2) := by decide +kernel
theorem d_M_line_242 : decode prog_14_method_30_code 242 = .ok (.invokevirtual 227, 3) := by decide +kernel
theorem d_M_line_245 : decode prog_14_method_30_code 245 = .ok (.ifCond .ne 5, 3) := by decide +kernel
theorem d_M_line_248 : decode prog_14_method_30_code 248 = .ok (.iconst 0, 1) := by decide +kernel
theorem d_M_line_249 : decode prog_14_method_30_code 249 = .ok (.ireturn, 1) := by decide +kernel
theorem d_M_line_250 : decode prog_14_method_30_code 250 = .ok (.aload_n 0, 1) := by decide +kernel
theorem d_M_line_251 : decode prog_14_method_30_code 251 = .ok (.bipush 124, 2) := by decide +kernel
theorem d_M_line_253 : decode prog_14_method_30_code 253 = .ok (.invokevirtual 246, 3) := by decide +kernel
theorem d_M_line_256 : decode prog_14_method_30_code 256 = .ok (.istore_n 1, 1) := by decide +kernel
theorem d_M_line_257 : decode prog_14_method_30_code 257 = .ok (.iload_n 1, 1) := by decide +kernel
theorem d_M_line_258 : decode prog_14_method_30_code 258 = .ok (.iconst (-1), 1) := by decide +kernel
theorem d_M_line_259 : decode prog_14_method_30_code 259 = .ok (.if_icmp .ne 5, 3) := by decide +kernel
theorem d_M_line_262 : decode prog_14_method_30_code 262 = .ok (.iconst 0, 1) := by decide +kernel
theorem d_M_line_263 : decode prog_14_method_30_code 263 = .ok (.ireturn, 1) := by decide +kernel
theorem d_M_line_264 : decode prog_14_method_30_code 264 = .ok (.aload_n 0, 1) := by decide +kernel
theorem d_M_line_265 : decode prog_14_method_30_code 265 = .ok (.getfield 114, 3) := by decide +kernel
theorem d_M_line_268 : decode prog_14_method_30_code 268 = .ok (.aload_n 0, 1) := by decide +kernel
theorem d_M_line_269 : decode prog_14_method_30_code 269 = .ok (.getfield 252, 3) := by decide +kernel
theorem d_M_line_272 : decode prog_14_method_30_code 272 = .ok (.iload_n 1, 1) := by decide +kernel
theorem d_M_line_273 : decode prog_14_method_30_code 273 = .ok (.iastore, 1) := by decide +kernel
theorem d_M_line_274 : decode prog_14_method_30_code 274 = .ok (.aload_n 0, 1) := by decide +kernel
theorem d_M_line_275 : decode prog_14_method_30_code 275 = .ok (.dup, 1) := by decide +kernel
theorem d_M_line_276 : decode prog_14_method_30_code 276 = .ok (.getfield 252, 3) := by decide +kernel
theorem d_M_line_279 : decode prog_14_method_30_code 279 = .ok (.iconst 1, 1) := by decide +kernel
theorem d_M_line_280 : decode prog_14_method_30_code 280 = .ok (.iadd, 1) := by decide +kernel
theorem d_M_line_281 : decode prog_14_method_30_code 281 = .ok (.putfield 252, 3) := by decide +kernel
theorem d_M_line_284 : decode prog_14_method_30_code 284 = .ok (.iconst 1, 1) := by decide +kernel
theorem d_M_line_285 : decode prog_14_method_30_code 285 = .ok (.ireturn, 1) := by decide +kernel
theorem d_M_choice_0 : decode prog_14_method_31_code 0 = .ok (.aload_n 0, 1) := by decide +kernel
theorem d_M_choice_1 : decode prog_14_method_31_code 1 = .ok (.iconst 0, 1) := by decide +kernel
theorem d_M_choice_2 : decode prog_14_method_31_code 2 = .ok (.putfield 148, 3) := by decide +kernel
theorem d_M_choice_5 : decode prog_14_method_31_code 5 = .ok (.aload_n 0, 1) := by decide +kernel
theorem d_M_choice_6 : decode prog_14_method_31_code 6 = .ok (.aload_n 0, 1) := by decide +kernel
theorem d_M_choice_7 : decode prog_14_method_31_code 7 = .ok (.getfield 200, 3) := by decide +kernel
theorem d_M_choice_10 : decode prog_14_method_31_code 10 = .ok (.putfield 206, 3) := by decide +kernel
theorem d_M_choice_13 : decode prog_14_method_31_code 13 = .ok (.aload_n 0, 1) := by decide +kernel
theorem d_M_choice_14 : decode prog_14_method_31_code 14 = .ok (.iconst 0, 1) := by decide +kernel
theorem d_M_choice_15 : decode prog_14_method_31_code 15 = .ok (.putfield 200, 3) := by decide +kernel
theorem d_M_choice_18 : decode prog_14_method_31_code 18 = .ok (.aload_n 0, 1) := by decide +kernel
theorem d_M_choice_19 : decode prog_14_method_31_code 19 = .ok (.iload_n 1, 1) := by decide +kernel
theorem d_M_choice_20 : decode prog_14_method_31_code 20 = .ok (.invokevirtual 181, 3) := by decide +kernel
theorem d_M_choice_23 : decode prog_14_method_31_code 23 = .ok (.ifCond .ne 6, 3) := by decide +kernel
theorem d_M_choice_26 : decode prog_14_method_31_code 26 = .ok (.bipush (-100), 2) := by decide +kernel
theorem d_M_choice_28 : decode prog_14_method_31_code 28 = .ok (.ireturn, 1) := by decide +kernel
theorem d_M_choice_29 : decode prog_14_method_31_code 29 = .ok (.aload_n 0, 1) := by decide +kernel
theorem d_M_choice_30 : decode prog_14_method_31_code 30 = .ok (.iconst 0, 1) := by decide +kernel
theorem d_M_choice_31 : decode prog_14_method_31_code 31 = .ok (.putfield 203, 3) := by decide +kernel
theorem d_M_choice_34 : decode prog_14_method_31_code 34 = .ok (.aload_n 0, 1) := by decide +kernel
theorem d_M_choice_35 : decode prog_14_method_31_code 35 = .ok (.bipush 8, 2) := by decide +kernel
theorem d_M_choice_37 : decode prog_14_method_31_code 37 = .ok (.putfield 233, 3) := by decide +kernel
theorem d_M_choice_40 : decode prog_14_method_31_code 40 = .ok (.aload_n 0, 1) := by decide +kernel
theorem d_M_choice_41 : decode prog_14_method_31_code 41 = .ok (.iconst (-1), 1) := by decide +kernel
theorem d_M_choice_42 : decode prog_14_method_31_code 42 = .ok (.putfield 236, 3) := by decide +kernel
theorem d_M_choice_45 : decode prog_14_method_31_code 45 = .ok (.aload_n 0, 1) := by decide +kernel
theorem d_M_choice_46 : decode prog_14_method_31_code 46 = .ok (.iconst 0, 1) := by decide +kernel
theorem d_M_choice_47 : decode prog_14_method_31_code 47 = .ok (.putfield 224, 3) := by decide +kernel
theorem d_M_choice_50 : decode prog_14_method_31_code 50 = .ok (.aload_n 0, 1) := by decide +kernel
theorem d_M_choice_51 : decode prog_14_method_31_code 51 = .ok (.iconst 0, 1) := by decide +kernel
theorem d_M_choice_52 : decode prog_14_method_31_code 52 = .ok (.putfield 243, 3) := by decide +kernel
theorem d_M_choice_55 : decode prog_14_method_31_code 55 = .ok (.aload_n 0, 1) := by decide +kernel
theorem d_M_choice_56 : decode prog_14_method_31_code 56 = .ok (.iconst 0, 1) := by decide +kernel
theorem d_M_choice_57 : decode prog_14_method_31_code 57 = .ok (.putfield 249, 3) := by decide +kernel
theorem d_M_choice_60 : decode prog_14_method_31_code 60 = .ok (.aload_n 0, 1) := by decide +kernel
theorem d_M_choice_61 : decode prog_14_method_31_code 61 = .ok (.iconst 0, 1) := by decide +kernel
theorem d_M_choice_62 : decode prog_14_method_31_code 62 = .ok (.putfield 252, 3) := by decide +kernel
theorem d_M_choice_65 : decode prog_14_method_31_code 65 = .ok (.iconst 0, 1) := by decide +kernel
theorem d_M_choice_66 : decode prog_14_method_31_code 66 = .ok (.istore_n 2, 1) := by decide +kernel
theorem d_M_choice_67 : decode prog_14_method_31_code 67 = .ok (.aload_n 0, 1) := by decide +kernel
theorem d_M_choice_68 : decode prog_14_method_31_code 68 = .ok (.invokevirtual 255, 3) := by decide +kernel
theorem d_M_choice_71 : decode prog_14_method_31_code 71 = .ok (.ifCond .ne 10, 3) := by decide +kernel
theorem d_M_choice_74 : decode prog_14_method_31_code 74 = .ok (.iconst (-1), 1) := by decide +kernel
theorem d_M_choice_75 : decode prog_14_method_31_code 75 = .ok (.aload_n 0, 1) := by decide +kernel
theorem d_M_choice_76 : decode prog_14_method_31_code 76 = .ok (.getfield 203, 3) := by decide +kernel
theorem d_M_choice_79 : decode prog_14_method_31_code 79 = .ok (.isub, 1) := by decide +kernel
theorem d_M_choice_80 : decode prog_14_method_31_code 80 = .ok (.ireturn, 1) := by decide +kernel
theorem d_M_choice_81 : decode prog_14_method_31_code 81 = .ok (.iinc 2 1, 3) := by decide +kernel
theorem d_M_choice_84 : decode prog_14_method_31_code 84 = .ok (.aload_n 0, 1) := by decide +kernel
theorem d_M_choice_85 : decode prog_14_method_31_code 85 = .ok (.bipush 59, 2) := by decide +kernel
theorem d_M_choice_87 : decode prog_14_method_31_code 87 = .ok (.invokevirtual 227, 3) := by decide +kernel
theorem d_M_choice_90 : decode prog_14_method_31_code 90 = .ok (.ifCond .ne (-23), 3) := by decide +kernel
theorem d_M_choice_93 : decode prog_14_method_31_code 93 = .ok (.aload_n 0, 1) := by decide +kernel
theorem d_M_choice_94 : decode prog_14_method_31_code 94 = .ok (.getfield 203, 3) := by decide +kernel
theorem d_M_choice_97 : decode prog_14_method_31_code 97 = .ok (.aload_n 0, 1) := by decide +kernel
theorem d_M_choice_98 : decode prog_14_method_31_code 98 = .ok (.getfield 206, 3) := by decide +kernel
theorem d_M_choice_101 : decode prog_14_method_31_code 101 = .ok (.if_icmp .ge 10, 3) := by decide +kernel
theorem d_M_choice_104 : decode prog_14_method_31_code 104 = .ok (.iconst (-1), 1) := by decide +kernel
theorem d_M_choice_105 : decode prog_14_method_31_code 105 = .ok (.aload_n 0, 1) := by decide +kernel
theorem d_M_choice_106 : decode prog_14_method_31_code 106 = .ok (.getfield 203, 3) := by decide +kernel
theorem d_M_choice_109 : decode prog_14_method_31_code 109 = .ok (.isub, 1) := by decide +kernel
theorem d_M_choice_110 : decode prog_14_method_31_code 110 = .ok (.ireturn, 1) := by decide +kernel
theorem d_M_choice_111 : decode prog_14_method_31_code 111 = .ok (.aload_n 0, 1) := by decide +kernel
theorem d_M_choice_112 : decode prog_14_method_31_code 112 = .ok (.getfield 49, 3) := by decide +kernel
theorem d_M_choice_115 : decode prog_14_method_31_code 115 = .ok (.iload_n 1, 1) := by decide +kernel
theorem d_M_choice_116 : decode prog_14_method_31_code 116 = .ok (.iconst 1, 1) := by decide +kernel
theorem d_M_choice_117 : decode prog_14_method_31_code 117 = .ok (.bastore, 1) := by decide +kernel
