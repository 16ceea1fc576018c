theorem d_M_choice_118 : decode prog_14_method_31_code 118 = .ok (.aload_n 0, 1) := by decide +kernel
theorem d_M_choice_119 : decode prog_14_method_31_code 119 = .ok (.getfield 53, 3) := by decide +kernel
theorem d_M_choice_122 : decode prog_14_method_31_code 122 = .ok (.iload_n 1, 1) := by decide +kernel
theorem d_M_choice_123 : decode prog_14_method_31_code 123 = .ok (.aload_n 0, 1) := by decide +kernel
theorem d_M_choice_124 : decode prog_14_method_31_code 124 = .ok (.getfield 233, 3) := by decide +kernel
theorem d_M_choice_127 : decode prog_14_method_31_code 127 = .ok (.iastore, 1) := by decide +kernel
theorem d_M_choice_128 : decode prog_14_method_31_code 128 = .ok (.aload_n 0, 1) := by decide +kernel
theorem d_M_choice_129 : decode prog_14_method_31_code 129 = .ok (.getfield 56, 3) := by decide +kernel
theorem d_M_choice_132 : decode prog_14_method_31_code 132 = .ok (.iload_n 1, 1) := by decide +kernel
theorem d_M_choice_133 : decode prog_14_method_31_code 133 = .ok (.aload_n 0, 1) := by decide +kernel
theorem d_M_choice_134 : decode prog_14_method_31_code 134 = .ok (.getfield 236, 3) := by decide +kernel
theorem d_M_choice_137 : decode prog_14_method_31_code 137 = .ok (.iastore, 1) := by decide +kernel
theorem d_M_choice_138 : decode prog_14_method_31_code 138 = .ok (.aload_n 0, 1) := by decide +kernel
theorem d_M_choice_139 : decode prog_14_method_31_code 139 = .ok (.getfield 62, 3) := by decide +kernel
theorem d_M_choice_142 : decode prog_14_method_31_code 142 = .ok (.iload_n 1, 1) := by decide +kernel
theorem d_M_choice_143 : decode prog_14_method_31_code 143 = .ok (.aload_n 0, 1) := by decide +kernel
theorem d_M_choice_144 : decode prog_14_method_31_code 144 = .ok (.getfield 224, 3) := by decide +kernel
theorem d_M_choice_147 : decode prog_14_method_31_code 147 = .ok (.iastore, 1) := by decide +kernel
theorem d_M_choice_148 : decode prog_14_method_31_code 148 = .ok (.iconst 0, 1) := by decide +kernel
theorem d_M_choice_149 : decode prog_14_method_31_code 149 = .ok (.istore_n 3, 1) := by decide +kernel
theorem d_M_choice_150 : decode prog_14_method_31_code 150 = .ok (.iload_n 3, 1) := by decide +kernel
theorem d_M_choice_151 : decode prog_14_method_31_code 151 = .ok (.aload_n 0, 1) := by decide +kernel
theorem d_M_choice_152 : decode prog_14_method_31_code 152 = .ok (.getfield 224, 3) := by decide +kernel
theorem d_M_choice_155 : decode prog_14_method_31_code 155 = .ok (.if_icmp .ge 25, 3) := by decide +kernel
theorem d_M_choice_158 : decode prog_14_method_31_code 158 = .ok (.aload_n 0, 1) := by decide +kernel
theorem d_M_choice_159 : decode prog_14_method_31_code 159 = .ok (.getfield 59, 3) := by decide +kernel
theorem d_M_choice_162 : decode prog_14_method_31_code 162 = .ok (.iconst 5, 1) := by decide +kernel
theorem d_M_choice_163 : decode prog_14_method_31_code 163 = .ok (.iload_n 1, 1) := by decide +kernel
theorem d_M_choice_164 : decode prog_14_method_31_code 164 = .ok (.imul, 1) := by decide +kernel
theorem d_M_choice_165 : decode prog_14_method_31_code 165 = .ok (.iload_n 3, 1) := by decide +kernel
theorem d_M_choice_166 : decode prog_14_method_31_code 166 = .ok (.iadd, 1) := by decide +kernel
theorem d_M_choice_167 : decode prog_14_method_31_code 167 = .ok (.aload_n 0, 1) := by decide +kernel
theorem d_M_choice_168 : decode prog_14_method_31_code 168 = .ok (.getfield 102, 3) := by decide +kernel
theorem d_M_choice_171 : decode prog_14_method_31_code 171 = .ok (.iload_n 3, 1) := by decide +kernel
theorem d_M_choice_172 : decode prog_14_method_31_code 172 = .ok (.iaload, 1) := by decide +kernel
theorem d_M_choice_173 : decode prog_14_method_31_code 173 = .ok (.iastore, 1) := by decide +kernel
theorem d_M_choice_174 : decode prog_14_method_31_code 174 = .ok (.iinc 3 1, 3) := by decide +kernel
theorem d_M_choice_177 : decode prog_14_method_31_code 177 = .ok (.goto (-27), 3) := by decide +kernel
theorem d_M_choice_180 : decode prog_14_method_31_code 180 = .ok (.aload_n 0, 1) := by decide +kernel
theorem d_M_choice_181 : decode prog_14_method_31_code 181 = .ok (.getfield 71, 3) := by decide +kernel
theorem d_M_choice_184 : decode prog_14_method_31_code 184 = .ok (.iload_n 1, 1) := by decide +kernel
theorem d_M_choice_185 : decode prog_14_method_31_code 185 = .ok (.aload_n 0, 1) := by decide +kernel
theorem d_M_choice_186 : decode prog_14_method_31_code 186 = .ok (.getfield 243, 3) := by decide +kernel
theorem d_M_choice_189 : decode prog_14_method_31_code 189 = .ok (.iastore, 1) := by decide +kernel
theorem d_M_choice_190 : decode prog_14_method_31_code 190 = .ok (.aload_n 0, 1) := by decide +kernel
theorem d_M_choice_191 : decode prog_14_method_31_code 191 = .ok (.getfield 77, 3) := by decide +kernel
theorem d_M_choice_194 : decode prog_14_method_31_code 194 = .ok (.iload_n 1, 1) := by decide +kernel
theorem d_M_choice_195 : decode prog_14_method_31_code 195 = .ok (.aload_n 0, 1) := by decide +kernel
theorem d_M_choice_196 : decode prog_14_method_31_code 196 = .ok (.getfield 249, 3) := by decide +kernel
theorem d_M_choice_199 : decode prog_14_method_31_code 199 = .ok (.iastore, 1) := by decide +kernel
theorem d_M_choice_200 : decode prog_14_method_31_code 200 = .ok (.aload_n 0, 1) := by decide +kernel
theorem d_M_choice_201 : decode prog_14_method_31_code 201 = .ok (.getfield 83, 3) := by decide +kernel
theorem d_M_choice_204 : decode prog_14_method_31_code 204 = .ok (.iload_n 1, 1) := by decide +kernel
theorem d_M_choice_205 : decode prog_14_method_31_code 205 = .ok (.aload_n 0, 1) := by decide +kernel
theorem d_M_choice_206 : decode prog_14_method_31_code 206 = .ok (.getfield 252, 3) := by decide +kernel
theorem d_M_choice_209 : decode prog_14_method_31_code 209 = .ok (.iastore, 1) := by decide +kernel
theorem d_M_choice_210 : decode prog_14_method_31_code 210 = .ok (.iconst 0, 1) := by decide +kernel
theorem d_M_choice_211 : decode prog_14_method_31_code 211 = .ok (.istore_n 3, 1) := by decide +kernel
theorem d_M_choice_212 : decode prog_14_method_31_code 212 = .ok (.iload_n 3, 1) := by decide +kernel
theorem d_M_choice_213 : decode prog_14_method_31_code 213 = .ok (.bipush 30, 2) := by decide +kernel
theorem d_M_choice_215 : decode prog_14_method_31_code 215 = .ok (.if_icmp .ge 77, 3) := by decide +kernel
theorem d_M_choice_218 : decode prog_14_method_31_code 218 = .ok (.aload_n 0, 1) := by decide +kernel
theorem d_M_choice_219 : decode prog_14_method_31_code 219 = .ok (.getfield 65, 3) := by decide +kernel
theorem d_M_choice_222 : decode prog_14_method_31_code 222 = .ok (.bipush 30, 2) := by decide +kernel
theorem d_M_choice_224 : decode prog_14_method_31_code 224 = .ok (.iload_n 1, 1) := by decide +kernel
theorem d_M_choice_225 : decode prog_14_method_31_code 225 = .ok (.imul, 1) := by decide +kernel
theorem d_M_choice_226 : decode prog_14_method_31_code 226 = .ok (.iload_n 3, 1) := by decide +kernel
theorem d_M_choice_227 : decode prog_14_method_31_code 227 = .ok (.iadd, 1) := by decide +kernel
theorem d_M_choice_228 : decode prog_14_method_31_code 228 = .ok (.aload_n 0, 1) := by decide +kernel
theorem d_M_choice_229 : decode prog_14_method_31_code 229 = .ok (.getfield 105, 3) := by decide +kernel
theorem d_M_choice_232 : decode prog_14_method_31_code 232 = .ok (.iload_n 3, 1) := by decide +kernel
theorem d_M_choice_233 : decode prog_14_method_31_code 233 = .ok (.iaload, 1) := by decide +kernel
theorem d_M_choice_234 : decode prog_14_method_31_code 234 = .ok (.iastore, 1) := by decide +kernel
theorem d_M_choice_235 : decode prog_14_method_31_code 235 = .ok (.aload_n 0, 1) := by decide +kernel
theorem d_M_choice_236 : decode prog_14_method_31_code 236 = .ok (.getfield 68, 3) := by decide +kernel
theorem d_M_choice_239 : decode prog_14_method_31_code 239 = .ok (.bipush 30, 2) := by decide +kernel
theorem d_M_choice_241 : decode prog_14_method_31_code 241 = .ok (.iload_n 1, 1) := by decide +kernel
theorem d_M_choice_242 : decode prog_14_method_31_code 242 = .ok (.imul, 1) := by decide +kernel
theorem d_M_choice_243 : decode prog_14_method_31_code 243 = .ok (.iload_n 3, 1) := by decide +kernel
theorem d_M_choice_244 : decode prog_14_method_31_code 244 = .ok (.iadd, 1) := by decide +kernel
theorem d_M_choice_245 : decode prog_14_method_31_code 245 = .ok (.aload_n 0, 1) := by decide +kernel
theorem d_M_choice_246 : decode prog_14_method_31_code 246 = .ok (.getfield 108, 3) := by decide +kernel
theorem d_M_choice_249 : decode prog_14_method_31_code 249 = .ok (.iload_n 3, 1) := by decide +kernel
theorem d_M_choice_250 : decode prog_14_method_31_code 250 = .ok (.iaload, 1) := by decide +kernel
theorem d_M_choice_251 : decode prog_14_method_31_code 251 = .ok (.iastore, 1) := by decide +kernel
theorem d_M_choice_252 : decode prog_14_method_31_code 252 = .ok (.aload_n 0, 1) := by decide +kernel
theorem d_M_choice_253 : decode prog_14_method_31_code 253 = .ok (.getfield 74, 3) := by decide +kernel
theorem d_M_choice_256 : decode prog_14_method_31_code 256 = .ok (.bipush 30, 2) := by decide +kernel
theorem d_M_choice_258 : decode prog_14_method_31_code 258 = .ok (.iload_n 1, 1) := by decide +kernel
theorem d_M_choice_259 : decode prog_14_method_31_code 259 = .ok (.imul, 1) := by decide +kernel
theorem d_M_choice_260 : decode prog_14_method_31_code 260 = .ok (.iload_n 3, 1) := by decide +kernel
theorem d_M_choice_261 : decode prog_14_method_31_code 261 = .ok (.iadd, 1) := by decide +kernel
theorem d_M_choice_262 : decode prog_14_method_31_code 262 = .ok (.aload_n 0, 1) := by decide +kernel
theorem d_M_choice_263 : decode prog_14_method_31_code 263 = .ok (.getfield 111, 3) := by decide +kernel
theorem d_M_choice_266 : decode prog_14_method_31_code 266 = .ok (.iload_n 3, 1) := by decide +kernel
theorem d_M_choice_267 : decode prog_14_method_31_code 267 = .ok (.iaload, 1) := by decide +kernel
theorem d_M_choice_268 : decode prog_14_method_31_code 268 = .ok (.iastore, 1) := by decide +kernel
theorem d_M_choice_269 : decode prog_14_method_31_code 269 = .ok (.aload_n 0, 1) := by decide +kernel
theorem d_M_choice_270 : decode prog_14_method_31_code 270 = .ok (.getfield 80, 3) := by decide +kernel
theorem d_M_choice_273 : decode prog_14_method_31_code 273 = .ok (.bipush 30, 2) := by decide +kernel
theorem d_M_choice_275 : decode prog_14_method_31_code 275 = .ok (.iload_n 1, 1) := by decide +kernel
theorem d_M_choice_276 : decode prog_14_method_31_code 276 = .ok (.imul, 1) := by decide +kernel
theorem d_M_choice_277 : decode prog_14_method_31_code 277 = .ok (.iload_n 3, 1) := by decide +kernel
theorem d_M_choice_278 : decode prog_14_method_31_code 278 = .ok (.iadd, 1) := by decide +kernel
theorem d_M_choice_279 : decode prog_14_method_31_code 279 = .ok (.aload_n 0, 1) := by decide +kernel
theorem d_M_choice_280 : decode prog_14_method_31_code 280 = .ok (.getfield 114, 3) := by decide +kernel
theorem d_M_choice_283 : decode prog_14_method_31_code 283 = .ok (.iload_n 3, 1) := by decide +kernel
theorem d_M_choice_284 : decode prog_14_method_31_code 284 = .ok (.iaload, 1) := by decide +kernel
theorem d_M_choice_285 : decode prog_14_method_31_code 285 = .ok (.iastore, 1) := by decide +kernel
theorem d_M_choice_286 : decode prog_14_method_31_code 286 = .ok (.iinc 3 1, 3) := by decide +kernel
theorem d_M_choice_289 : decode prog_14_method_31_code 289 = .ok (.goto (-77), 3) := by decide +kernel
theorem d_M_choice_292 : decode prog_14_method_31_code 292 = .ok (.aload_n 0, 1) := by decide +kernel
theorem d_M_choice_293 : decode prog_14_method_31_code 293 = .ok (.iconst 0, 1) := by decide +kernel
theorem d_M_choice_294 : decode prog_14_method_31_code 294 = .ok (.putfield 173, 3) := by decide +kernel
theorem d_M_choice_297 : decode prog_14_method_31_code 297 = .ok (.iload_n 2, 1) := by decide +kernel
theorem d_M_choice_298 : decode prog_14_method_31_code 298 = .ok (.ireturn, 1) := by decide +kernel
theorem d_M_valueOf_0 : decode prog_14_method_32_code 0 = .ok (.iload_n 2, 1) := by decide +kernel
theorem d_M_valueOf_1 : decode prog_14_method_32_code 1 = .ok (.iconst 5, 1) := by decide +kernel
theorem d_M_valueOf_2 : decode prog_14_method_32_code 2 = .ok (.irem, 1) := by decide +kernel
theorem d_M_valueOf_3 : decode prog_14_method_32_code 3 = .ok (.tableswitch 62 0 3 #[29, 36, 43, 50], 29) := by decide +kernel
theorem d_M_valueOf_32 : decode prog_14_method_32_code 32 = .ok (.aload_n 0, 1) := by decide +kernel
theorem d_M_valueOf_33 : decode prog_14_method_32_code 33 = .ok (.getfield 19, 3) := by decide +kernel
theorem d_M_valueOf_36 : decode prog_14_method_32_code 36 = .ok (.iload_n 1, 1) := by decide +kernel
theorem d_M_valueOf_37 : decode prog_14_method_32_code 37 = .ok (.iaload, 1) := by decide +kernel
theorem d_M_valueOf_38 : decode prog_14_method_32_code 38 = .ok (.ireturn, 1) := by decide +kernel
theorem d_M_valueOf_39 : decode prog_14_method_32_code 39 = .ok (.aload_n 0, 1) := by decide +kernel
theorem d_M_valueOf_40 : decode prog_14_method_32_code 40 = .ok (.getfield 22, 3) := by decide +kernel
theorem d_M_valueOf_43 : decode prog_14_method_32_code 43 = .ok (.iload_n 1, 1) := by decide +kernel
theorem d_M_valueOf_44 : decode prog_14_method_32_code 44 = .ok (.iaload, 1) := by decide +kernel
theorem d_M_valueOf_45 : decode prog_14_method_32_code 45 = .ok (.ireturn, 1) := by decide +kernel
theorem d_M_valueOf_46 : decode prog_14_method_32_code 46 = .ok (.aload_n 0, 1) := by decide +kernel
theorem d_M_valueOf_47 : decode prog_14_method_32_code 47 = .ok (.getfield 25, 3) := by decide +kernel
theorem d_M_valueOf_50 : decode prog_14_method_32_code 50 = .ok (.iload_n 1, 1) := by decide +kernel
theorem d_M_valueOf_51 : decode prog_14_method_32_code 51 = .ok (.iaload, 1) := by decide +kernel
theorem d_M_valueOf_52 : decode prog_14_method_32_code 52 = .ok (.ireturn, 1) := by decide +kernel
theorem d_M_valueOf_53 : decode prog_14_method_32_code 53 = .ok (.aload_n 0, 1) := by decide +kernel
theorem d_M_valueOf_54 : decode prog_14_method_32_code 54 = .ok (.getfield 9, 3) := by decide +kernel
theorem d_M_valueOf_57 : decode prog_14_method_32_code 57 = .ok (.aload_n 0, 1) := by decide +kernel
theorem d_M_valueOf_58 : decode prog_14_method_32_code 58 = .ok (.getfield 13, 3) := by decide +kernel
theorem d_M_valueOf_61 : decode prog_14_method_32_code 61 = .ok (.iload_n 1, 1) := by decide +kernel
theorem d_M_valueOf_62 : decode prog_14_method_32_code 62 = .ok (.iaload, 1) := by decide +kernel
theorem d_M_valueOf_63 : decode prog_14_method_32_code 63 = .ok (.iaload, 1) := by decide +kernel
theorem d_M_valueOf_64 : decode prog_14_method_32_code 64 = .ok (.ireturn, 1) := by decide +kernel
theorem d_M_valueOf_65 : decode prog_14_method_32_code 65 = .ok (.aload_n 0, 1) := by decide +kernel
theorem d_M_valueOf_66 : decode prog_14_method_32_code 66 = .ok (.getfield 13, 3) := by decide +kernel
theorem d_M_valueOf_69 : decode prog_14_method_32_code 69 = .ok (.iload_n 1, 1) := by decide +kernel
theorem d_M_valueOf_70 : decode prog_14_method_32_code 70 = .ok (.iaload, 1) := by decide +kernel
theorem d_M_valueOf_71 : decode prog_14_method_32_code 71 = .ok (.ireturn, 1) := by decide +kernel
theorem d_M_isAhead_0 : decode prog_14_method_33_code 0 = .ok (.iconst 0, 1) := by decide +kernel
theorem d_M_isAhead_1 : decode prog_14_method_33_code 1 = .ok (.istore 4, 2) := by decide +kernel
theorem d_M_isAhead_3 : decode prog_14_method_33_code 3 = .ok (.iload 4, 2) := by decide +kernel
theorem d_M_isAhead_5 : decode prog_14_method_33_code 5 = .ok (.aload_n 0, 1) := by decide +kernel
theorem d_M_isAhead_6 : decode prog_14_method_33_code 6 = .ok (.getfield 62, 3) := by decide +kernel
theorem d_M_isAhead_9 : decode prog_14_method_33_code 9 = .ok (.iload_n 1, 1) := by decide +kernel
theorem d_M_isAhead_10 : decode prog_14_method_33_code 10 = .ok (.iaload, 1) := by decide +kernel
theorem d_M_isAhead_11 : decode prog_14_method_33_code 11 = .ok (.if_icmp .ge 74, 3) := by decide +kernel
theorem d_M_isAhead_14 : decode prog_14_method_33_code 14 = .ok (.aload_n 0, 1) := by decide +kernel
theorem d_M_isAhead_15 : decode prog_14_method_33_code 15 = .ok (.getfield 59, 3) := by decide +kernel
theorem d_M_isAhead_18 : decode prog_14_method_33_code 18 = .ok (.iconst 5, 1) := by decide +kernel
theorem d_M_isAhead_19 : decode prog_14_method_33_code 19 = .ok (.iload_n 1, 1) := by decide +kernel
theorem d_M_isAhead_20 : decode prog_14_method_33_code 20 = .ok (.imul, 1) := by decide +kernel
theorem d_M_isAhead_21 : decode prog_14_method_33_code 21 = .ok (.iload 4, 2) := by decide +kernel
theorem d_M_isAhead_23 : decode prog_14_method_33_code 23 = .ok (.iadd, 1) := by decide +kernel
theorem d_M_isAhead_24 : decode prog_14_method_33_code 24 = .ok (.iaload, 1) := by decide +kernel
theorem d_M_isAhead_25 : decode prog_14_method_33_code 25 = .ok (.istore 5, 2) := by decide +kernel
theorem d_M_isAhead_27 : decode prog_14_method_33_code 27 = .ok (.aload_n 0, 1) := by decide +kernel
theorem d_M_isAhead_28 : decode prog_14_method_33_code 28 = .ok (.iload_n 2, 1) := by decide +kernel
theorem d_M_isAhead_29 : decode prog_14_method_33_code 29 = .ok (.iload 5, 2) := by decide +kernel
theorem d_M_isAhead_31 : decode prog_14_method_33_code 31 = .ok (.invokevirtual 258, 3) := by decide +kernel
theorem d_M_isAhead_34 : decode prog_14_method_33_code 34 = .ok (.aload_n 0, 1) := by decide +kernel
theorem d_M_isAhead_35 : decode prog_14_method_33_code 35 = .ok (.iload_n 3, 1) := by decide +kernel
theorem d_M_isAhead_36 : decode prog_14_method_33_code 36 = .ok (.iload 5, 2) := by decide +kernel
theorem d_M_isAhead_38 : decode prog_14_method_33_code 38 = .ok (.invokevirtual 258, 3) := by decide +kernel
theorem d_M_isAhead_41 : decode prog_14_method_33_code 41 = .ok (.isub, 1) := by decide +kernel
theorem d_M_isAhead_42 : decode prog_14_method_33_code 42 = .ok (.istore 6, 2) := by decide +kernel
theorem d_M_isAhead_44 : decode prog_14_method_33_code 44 = .ok (.iload 6, 2) := by decide +kernel
theorem d_M_isAhead_46 : decode prog_14_method_33_code 46 = .ok (.ifCond .eq 33, 3) := by decide +kernel
theorem d_M_isAhead_49 : decode prog_14_method_33_code 49 = .ok (.iload 6, 2) := by decide +kernel
theorem d_M_isAhead_51 : decode prog_14_method_33_code 51 = .ok (.ifCond .le 7, 3) := by decide +kernel
theorem d_M_isAhead_54 : decode prog_14_method_33_code 54 = .ok (.iconst 1, 1) := by decide +kernel
theorem d_M_isAhead_55 : decode prog_14_method_33_code 55 = .ok (.goto 4, 3) := by decide +kernel
theorem d_M_isAhead_58 : decode prog_14_method_33_code 58 = .ok (.iconst 0, 1) := by decide +kernel
theorem d_M_isAhead_59 : decode prog_14_method_33_code 59 = .ok (.iload 5, 2) := by decide +kernel
theorem d_M_isAhead_61 : decode prog_14_method_33_code 61 = .ok (.iconst 5, 1) := by decide +kernel
theorem d_M_isAhead_62 : decode prog_14_method_33_code 62 = .ok (.if_icmp .ge 7, 3) := by decide +kernel
theorem d_M_isAhead_65 : decode prog_14_method_33_code 65 = .ok (.iconst 1, 1) := by decide +kernel
theorem d_M_isAhead_66 : decode prog_14_method_33_code 66 = .ok (.goto 4, 3) := by decide +kernel
theorem d_M_isAhead_69 : decode prog_14_method_33_code 69 = .ok (.iconst 0, 1) := by decide +kernel
theorem d_M_isAhead_70 : decode prog_14_method_33_code 70 = .ok (.if_icmp .ne 7, 3) := by decide +kernel
theorem d_M_isAhead_73 : decode prog_14_method_33_code 73 = .ok (.iconst 1, 1) := by decide +kernel
theorem d_M_isAhead_74 : decode prog_14_method_33_code 74 = .ok (.goto 4, 3) := by decide +kernel
theorem d_M_isAhead_77 : decode prog_14_method_33_code 77 = .ok (.iconst 0, 1) := by decide +kernel
theorem d_M_isAhead_78 : decode prog_14_method_33_code 78 = .ok (.ireturn, 1) := by decide +kernel
theorem d_M_isAhead_79 : decode prog_14_method_33_code 79 = .ok (.iinc 4 1, 3) := by decide +kernel
theorem d_M_isAhead_82 : decode prog_14_method_33_code 82 = .ok (.goto (-79), 3) := by decide +kernel
theorem d_M_isAhead_85 : decode prog_14_method_33_code 85 = .ok (.iload_n 2, 1) := by decide +kernel
theorem d_M_isAhead_86 : decode prog_14_method_33_code 86 = .ok (.iload_n 3, 1) := by decide +kernel
theorem d_M_isAhead_87 : decode prog_14_method_33_code 87 = .ok (.if_icmp .ge 7, 3) := by decide +kernel
theorem d_M_isAhead_90 : decode prog_14_method_33_code 90 = .ok (.iconst 1, 1) := by decide +kernel
theorem d_M_isAhead_91 : decode prog_14_method_33_code 91 = .ok (.goto 4, 3) := by decide +kernel
theorem d_M_isAhead_94 : decode prog_14_method_33_code 94 = .ok (.iconst 0, 1) := by decide +kernel
theorem d_M_isAhead_95 : decode prog_14_method_33_code 95 = .ok (.ireturn, 1) := by decide +kernel
theorem d_M_peopleOf_0 : decode prog_14_method_34_code 0 = .ok (.iconst 0, 1) := by decide +kernel
theorem d_M_peopleOf_1 : decode prog_14_method_34_code 1 = .ok (.istore_n 2, 1) := by decide +kernel
theorem d_M_peopleOf_2 : decode prog_14_method_34_code 2 = .ok (.iconst 0, 1) := by decide +kernel
theorem d_M_peopleOf_3 : decode prog_14_method_34_code 3 = .ok (.istore_n 3, 1) := by decide +kernel
theorem d_M_peopleOf_4 : decode prog_14_method_34_code 4 = .ok (.iload_n 3, 1) := by decide +kernel
theorem d_M_peopleOf_5 : decode prog_14_method_34_code 5 = .ok (.aload_n 0, 1) := by decide +kernel
theorem d_M_peopleOf_6 : decode prog_14_method_34_code 6 = .ok (.getfield 161, 3) := by decide +kernel
theorem d_M_peopleOf_9 : decode prog_14_method_34_code 9 = .ok (.if_icmp .ge 28, 3) := by decide +kernel
theorem d_M_peopleOf_12 : decode prog_14_method_34_code 12 = .ok (.iload_n 1, 1) := by decide +kernel
theorem d_M_peopleOf_13 : decode prog_14_method_34_code 13 = .ok (.iload_n 3, 1) := by decide +kernel
theorem d_M_peopleOf_14 : decode prog_14_method_34_code 14 = .ok (.invokestatic 262, 3) := by decide +kernel
theorem d_M_peopleOf_17 : decode prog_14_method_34_code 17 = .ok (.ifCond .eq 14, 3) := by decide +kernel
theorem d_M_peopleOf_20 : decode prog_14_method_34_code 20 = .ok (.iload_n 2, 1) := by decide +kernel
theorem d_M_peopleOf_21 : decode prog_14_method_34_code 21 = .ok (.iconst 1, 1) := by decide +kernel
theorem d_M_peopleOf_22 : decode prog_14_method_34_code 22 = .ok (.aload_n 0, 1) := by decide +kernel
theorem d_M_peopleOf_23 : decode prog_14_method_34_code 23 = .ok (.getfield 13, 3) := by decide +kernel
theorem d_M_peopleOf_26 : decode prog_14_method_34_code 26 = .ok (.iload_n 3, 1) := by decide +kernel
theorem d_M_peopleOf_27 : decode prog_14_method_34_code 27 = .ok (.iaload, 1) := by decide +kernel
theorem d_M_peopleOf_28 : decode prog_14_method_34_code 28 = .ok (.ishl, 1) := by decide +kernel
theorem d_M_peopleOf_29 : decode prog_14_method_34_code 29 = .ok (.ior, 1) := by decide +kernel
theorem d_M_peopleOf_30 : decode prog_14_method_34_code 30 = .ok (.istore_n 2, 1) := by decide +kernel
theorem d_M_peopleOf_31 : decode prog_14_method_34_code 31 = .ok (.iinc 3 1, 3) := by decide +kernel
theorem d_M_peopleOf_34 : decode prog_14_method_34_code 34 = .ok (.goto (-30), 3) := by decide +kernel
theorem d_M_peopleOf_37 : decode prog_14_method_34_code 37 = .ok (.iload_n 2, 1) := by decide +kernel
theorem d_M_peopleOf_38 : decode prog_14_method_34_code 38 = .ok (.ireturn, 1) := by decide +kernel
theorem d_M_payOf_0 : decode prog_14_method_35_code 0 = .ok (.iconst 0, 1) := by decide +kernel
theorem d_M_payOf_1 : decode prog_14_method_35_code 1 = .ok (.istore_n 2, 1) := by decide +kernel
theorem d_M_payOf_2 : decode prog_14_method_35_code 2 = .ok (.iconst 0, 1) := by decide +kernel
theorem d_M_payOf_3 : decode prog_14_method_35_code 3 = .ok (.istore_n 3, 1) := by decide +kernel
theorem d_M_payOf_4 : decode prog_14_method_35_code 4 = .ok (.iload_n 3, 1) := by decide +kernel
theorem d_M_payOf_5 : decode prog_14_method_35_code 5 = .ok (.aload_n 0, 1) := by decide +kernel
theorem d_M_payOf_6 : decode prog_14_method_35_code 6 = .ok (.getfield 161, 3) := by decide +kernel
theorem d_M_payOf_9 : decode prog_14_method_35_code 9 = .ok (.if_icmp .ge 30, 3) := by decide +kernel
theorem d_M_payOf_12 : decode prog_14_method_35_code 12 = .ok (.iload_n 2, 1) := by decide +kernel
theorem d_M_payOf_13 : decode prog_14_method_35_code 13 = .ok (.iload_n 1, 1) := by decide +kernel
theorem d_M_payOf_14 : decode prog_14_method_35_code 14 = .ok (.iload_n 3, 1) := by decide +kernel
theorem d_M_payOf_15 : decode prog_14_method_35_code 15 = .ok (.invokestatic 262, 3) := by decide +kernel
theorem d_M_payOf_18 : decode prog_14_method_35_code 18 = .ok (.ifCond .eq 12, 3) := by decide +kernel
theorem d_M_payOf_21 : decode prog_14_method_35_code 21 = .ok (.aload_n 0, 1) := by decide +kernel
theorem d_M_payOf_22 : decode prog_14_method_35_code 22 = .ok (.getfield 19, 3) := by decide +kernel
theorem d_M_payOf_25 : decode prog_14_method_35_code 25 = .ok (.iload_n 3, 1) := by decide +kernel
theorem d_M_payOf_26 : decode prog_14_method_35_code 26 = .ok (.iaload, 1) := by decide +kernel
theorem d_M_payOf_27 : decode prog_14_method_35_code 27 = .ok (.goto 4, 3) := by decide +kernel
theorem d_M_payOf_30 : decode prog_14_method_35_code 30 = .ok (.iconst 0, 1) := by decide +kernel
theorem d_M_payOf_31 : decode prog_14_method_35_code 31 = .ok (.iadd, 1) := by decide +kernel
theorem d_M_payOf_32 : decode prog_14_method_35_code 32 = .ok (.istore_n 2, 1) := by decide +kernel
theorem d_M_payOf_33 : decode prog_14_method_35_code 33 = .ok (.iinc 3 1, 3) := by decide +kernel
theorem d_M_payOf_36 : decode prog_14_method_35_code 36 = .ok (.goto (-32), 3) := by decide +kernel
theorem d_M_payOf_39 : decode prog_14_method_35_code 39 = .ok (.iload_n 2, 1) := by decide +kernel
theorem d_M_payOf_40 : decode prog_14_method_35_code 40 = .ok (.ireturn, 1) := by decide +kernel
theorem d_M_breach_0 : decode prog_14_method_36_code 0 = .ok (.aload_n 0, 1) := by decide +kernel
theorem d_M_breach_1 : decode prog_14_method_36_code 1 = .ok (.iload_n 2, 1) := by decide +kernel
theorem d_M_breach_2 : decode prog_14_method_36_code 2 = .ok (.invokevirtual 265, 3) := by decide +kernel
theorem d_M_breach_5 : decode prog_14_method_36_code 5 = .ok (.istore_n 3, 1) := by decide +kernel
theorem d_M_breach_6 : decode prog_14_method_36_code 6 = .ok (.iload_n 3, 1) := by decide +kernel
theorem d_M_breach_7 : decode prog_14_method_36_code 7 = .ok (.invokestatic 268, 3) := by decide +kernel
theorem d_M_breach_10 : decode prog_14_method_36_code 10 = .ok (.iload_n 2, 1) := by decide +kernel
theorem d_M_breach_11 : decode prog_14_method_36_code 11 = .ok (.invokestatic 268, 3) := by decide +kernel
theorem d_M_breach_14 : decode prog_14_method_36_code 14 = .ok (.if_icmp .eq 5, 3) := by decide +kernel
theorem d_M_breach_17 : decode prog_14_method_36_code 17 = .ok (.iconst 1, 1) := by decide +kernel
theorem d_M_breach_18 : decode prog_14_method_36_code 18 = .ok (.ireturn, 1) := by decide +kernel
theorem d_M_breach_19 : decode prog_14_method_36_code 19 = .ok (.iload_n 2, 1) := by decide +kernel
theorem d_M_breach_20 : decode prog_14_method_36_code 20 = .ok (.invokestatic 268, 3) := by decide +kernel
theorem d_M_breach_23 : decode prog_14_method_36_code 23 = .ok (.aload_n 0, 1) := by decide +kernel
theorem d_M_breach_24 : decode prog_14_method_36_code 24 = .ok (.getfield 53, 3) := by decide +kernel
theorem d_M_breach_27 : decode prog_14_method_36_code 27 = .ok (.iload_n 1, 1) := by decide +kernel
theorem d_M_breach_28 : decode prog_14_method_36_code 28 = .ok (.iaload, 1) := by decide +kernel
theorem d_M_breach_29 : decode prog_14_method_36_code 29 = .ok (.if_icmp .le 5, 3) := by decide +kernel
theorem d_M_breach_32 : decode prog_14_method_36_code 32 = .ok (.iconst 2, 1) := by decide +kernel
theorem d_M_breach_33 : decode prog_14_method_36_code 33 = .ok (.ireturn, 1) := by decide +kernel
theorem d_M_breach_34 : decode prog_14_method_36_code 34 = .ok (.aload_n 0, 1) := by decide +kernel
theorem d_M_breach_35 : decode prog_14_method_36_code 35 = .ok (.getfield 56, 3) := by decide +kernel
theorem d_M_breach_38 : decode prog_14_method_36_code 38 = .ok (.iload_n 1, 1) := by decide +kernel
theorem d_M_breach_39 : decode prog_14_method_36_code 39 = .ok (.iaload, 1) := by decide +kernel
theorem d_M_breach_40 : decode prog_14_method_36_code 40 = .ok (.iconst (-1), 1) := by decide +kernel
theorem d_M_breach_41 : decode prog_14_method_36_code 41 = .ok (.if_icmp .eq 19, 3) := by decide +kernel
theorem d_M_breach_44 : decode prog_14_method_36_code 44 = .ok (.aload_n 0, 1) := by decide +kernel
theorem d_M_breach_45 : decode prog_14_method_36_code 45 = .ok (.iload_n 2, 1) := by decide +kernel
theorem d_M_breach_46 : decode prog_14_method_36_code 46 = .ok (.invokevirtual 271, 3) := by decide +kernel
theorem d_M_breach_49 : decode prog_14_method_36_code 49 = .ok (.aload_n 0, 1) := by decide +kernel
theorem d_M_breach_50 : decode prog_14_method_36_code 50 = .ok (.getfield 56, 3) := by decide +kernel
theorem d_M_breach_53 : decode prog_14_method_36_code 53 = .ok (.iload_n 1, 1) := by decide +kernel
theorem d_M_breach_54 : decode prog_14_method_36_code 54 = .ok (.iaload, 1) := by decide +kernel
theorem d_M_breach_55 : decode prog_14_method_36_code 55 = .ok (.if_icmp .le 5, 3) := by decide +kernel
theorem d_M_breach_58 : decode prog_14_method_36_code 58 = .ok (.iconst 3, 1) := by decide +kernel
theorem d_M_breach_59 : decode prog_14_method_36_code 59 = .ok (.ireturn, 1) := by decide +kernel
theorem d_M_breach_60 : decode prog_14_method_36_code 60 = .ok (.iconst 0, 1) := by decide +kernel
theorem d_M_breach_61 : decode prog_14_method_36_code 61 = .ok (.istore 4, 2) := by decide +kernel
theorem d_M_breach_63 : decode prog_14_method_36_code 63 = .ok (.iload 4, 2) := by decide +kernel
theorem d_M_breach_65 : decode prog_14_method_36_code 65 = .ok (.aload_n 0, 1) := by decide +kernel
theorem d_M_breach_66 : decode prog_14_method_36_code 66 = .ok (.getfield 71, 3) := by decide +kernel
theorem d_M_breach_69 : decode prog_14_method_36_code 69 = .ok (.iload_n 1, 1) := by decide +kernel
theorem d_M_breach_70 : decode prog_14_method_36_code 70 = .ok (.iaload, 1) := by decide +kernel
theorem d_M_breach_71 : decode prog_14_method_36_code 71 = .ok (.if_icmp .ge 101, 3) := by decide +kernel
theorem d_M_breach_74 : decode prog_14_method_36_code 74 = .ok (.iconst 0, 1) := by decide +kernel
theorem d_M_breach_75 : decode prog_14_method_36_code 75 = .ok (.istore 5, 2) := by decide +kernel
theorem d_M_breach_77 : decode prog_14_method_36_code 77 = .ok (.iconst 0, 1) := by decide +kernel
theorem d_M_breach_78 : decode prog_14_method_36_code 78 = .ok (.istore 6, 2) := by decide +kernel
theorem d_M_breach_80 : decode prog_14_method_36_code 80 = .ok (.iload 6, 2) := by decide +kernel
theorem d_M_breach_82 : decode prog_14_method_36_code 82 = .ok (.aload_n 0, 1) := by decide +kernel
theorem d_M_breach_83 : decode prog_14_method_36_code 83 = .ok (.getfield 151, 3) := by decide +kernel
theorem d_M_breach_86 : decode prog_14_method_36_code 86 = .ok (.if_icmp .ge 50, 3) := by decide +kernel
theorem d_M_breach_89 : decode prog_14_method_36_code 89 = .ok (.iload 5, 2) := by decide +kernel
theorem d_M_breach_91 : decode prog_14_method_36_code 91 = .ok (.iload_n 3, 1) := by decide +kernel
theorem d_M_breach_92 : decode prog_14_method_36_code 92 = .ok (.iload 6, 2) := by decide +kernel
theorem d_M_breach_94 : decode prog_14_method_36_code 94 = .ok (.invokestatic 262, 3) := by decide +kernel
theorem d_M_breach_97 : decode prog_14_method_36_code 97 = .ok (.ifCond .eq 29, 3) := by decide +kernel
theorem d_M_breach_100 : decode prog_14_method_36_code 100 = .ok (.aload_n 0, 1) := by decide +kernel
theorem d_M_breach_101 : decode prog_14_method_36_code 101 = .ok (.getfield 9, 3) := by decide +kernel
theorem d_M_breach_104 : decode prog_14_method_36_code 104 = .ok (.iload 6, 2) := by decide +kernel
theorem d_M_breach_106 : decode prog_14_method_36_code 106 = .ok (.iaload, 1) := by decide +kernel
theorem d_M_breach_107 : decode prog_14_method_36_code 107 = .ok (.aload_n 0, 1) := by decide +kernel
theorem d_M_breach_108 : decode prog_14_method_36_code 108 = .ok (.getfield 65, 3) := by decide +kernel
theorem d_M_breach_111 : decode prog_14_method_36_code 111 = .ok (.bipush 30, 2) := by decide +kernel
theorem d_M_breach_113 : decode prog_14_method_36_code 113 = .ok (.iload_n 1, 1) := by decide +kernel
theorem d_M_breach_114 : decode prog_14_method_36_code 114 = .ok (.imul, 1) := by decide +kernel
theorem d_M_breach_115 : decode prog_14_method_36_code 115 = .ok (.iload 4, 2) := by decide +kernel
theorem d_M_breach_117 : decode prog_14_method_36_code 117 = .ok (.iadd, 1) := by decide +kernel
theorem d_M_breach_118 : decode prog_14_method_36_code 118 = .ok (.iaload, 1) := by decide +kernel
theorem d_M_breach_119 : decode prog_14_method_36_code 119 = .ok (.if_icmp .eq 7, 3) := by decide +kernel
theorem d_M_breach_122 : decode prog_14_method_36_code 122 = .ok (.iconst 1, 1) := by decide +kernel
theorem d_M_breach_123 : decode prog_14_method_36_code 123 = .ok (.goto 4, 3) := by decide +kernel
theorem d_M_breach_126 : decode prog_14_method_36_code 126 = .ok (.iconst 0, 1) := by decide +kernel
theorem d_M_breach_127 : decode prog_14_method_36_code 127 = .ok (.iadd, 1) := by decide +kernel
theorem d_M_breach_128 : decode prog_14_method_36_code 128 = .ok (.istore 5, 2) := by decide +kernel
theorem d_M_breach_130 : decode prog_14_method_36_code 130 = .ok (.iinc 6 1, 3) := by decide +kernel
theorem d_M_breach_133 : decode prog_14_method_36_code 133 = .ok (.goto (-53), 3) := by decide +kernel
theorem d_M_breach_136 : decode prog_14_method_36_code 136 = .ok (.iload 5, 2) := by decide +kernel
theorem d_M_breach_138 : decode prog_14_method_36_code 138 = .ok (.iconst 0, 1) := by decide +kernel
theorem d_M_breach_139 : decode prog_14_method_36_code 139 = .ok (.aload_n 0, 1) := by decide +kernel
theorem d_M_breach_140 : decode prog_14_method_36_code 140 = .ok (.getfield 53, 3) := by decide +kernel
theorem d_M_breach_143 : decode prog_14_method_36_code 143 = .ok (.iload_n 1, 1) := by decide +kernel
theorem d_M_breach_144 : decode prog_14_method_36_code 144 = .ok (.iaload, 1) := by decide +kernel
theorem d_M_breach_145 : decode prog_14_method_36_code 145 = .ok (.aload_n 0, 1) := by decide +kernel
theorem d_M_breach_146 : decode prog_14_method_36_code 146 = .ok (.getfield 68, 3) := by decide +kernel
theorem d_M_breach_149 : decode prog_14_method_36_code 149 = .ok (.bipush 30, 2) := by decide +kernel
theorem d_M_breach_151 : decode prog_14_method_36_code 151 = .ok (.iload_n 1, 1) := by decide +kernel
theorem d_M_breach_152 : decode prog_14_method_36_code 152 = .ok (.imul, 1) := by decide +kernel
theorem d_M_breach_153 : decode prog_14_method_36_code 153 = .ok (.iload 4, 2) := by decide +kernel
theorem d_M_breach_155 : decode prog_14_method_36_code 155 = .ok (.iadd, 1) := by decide +kernel
theorem d_M_breach_156 : decode prog_14_method_36_code 156 = .ok (.iaload, 1) := by decide +kernel
theorem d_M_breach_157 : decode prog_14_method_36_code 157 = .ok (.isub, 1) := by decide +kernel
theorem d_M_breach_158 : decode prog_14_method_36_code 158 = .ok (.invokestatic 274, 3) := by decide +kernel
theorem d_M_breach_161 : decode prog_14_method_36_code 161 = .ok (.if_icmp .le 5, 3) := by decide +kernel
theorem d_M_breach_164 : decode prog_14_method_36_code 164 = .ok (.iconst 4, 1) := by decide +kernel
theorem d_M_breach_165 : decode prog_14_method_36_code 165 = .ok (.ireturn, 1) := by decide +kernel
theorem d_M_breach_166 : decode prog_14_method_36_code 166 = .ok (.iinc 4 1, 3) := by decide +kernel
theorem d_M_breach_169 : decode prog_14_method_36_code 169 = .ok (.goto (-106), 3) := by decide +kernel
theorem d_M_breach_172 : decode prog_14_method_36_code 172 = .ok (.iconst 0, 1) := by decide +kernel
theorem d_M_breach_173 : decode prog_14_method_36_code 173 = .ok (.istore 4, 2) := by decide +kernel
theorem d_M_breach_175 : decode prog_14_method_36_code 175 = .ok (.iload 4, 2) := by decide +kernel
theorem d_M_breach_177 : decode prog_14_method_36_code 177 = .ok (.aload_n 0, 1) := by decide +kernel
theorem d_M_breach_178 : decode prog_14_method_36_code 178 = .ok (.getfield 83, 3) := by decide +kernel
theorem d_M_breach_181 : decode prog_14_method_36_code 181 = .ok (.iload_n 1, 1) := by decide +kernel
theorem d_M_breach_182 : decode prog_14_method_36_code 182 = .ok (.iaload, 1) := by decide +kernel
theorem d_M_breach_183 : decode prog_14_method_36_code 183 = .ok (.if_icmp .ge 40, 3) := by decide +kernel
theorem d_M_breach_186 : decode prog_14_method_36_code 186 = .ok (.iload_n 3, 1) := by decide +kernel
theorem d_M_breach_187 : decode prog_14_method_36_code 187 = .ok (.aload_n 0, 1) := by decide +kernel
theorem d_M_breach_188 : decode prog_14_method_36_code 188 = .ok (.getfield 80, 3) := by decide +kernel
theorem d_M_breach_191 : decode prog_14_method_36_code 191 = .ok (.bipush 30, 2) := by decide +kernel
theorem d_M_breach_193 : decode prog_14_method_36_code 193 = .ok (.iload_n 1, 1) := by decide +kernel
theorem d_M_breach_194 : decode prog_14_method_36_code 194 = .ok (.imul, 1) := by decide +kernel
theorem d_M_breach_195 : decode prog_14_method_36_code 195 = .ok (.iload 4, 2) := by decide +kernel
theorem d_M_breach_197 : decode prog_14_method_36_code 197 = .ok (.iadd, 1) := by decide +kernel
theorem d_M_breach_198 : decode prog_14_method_36_code 198 = .ok (.iaload, 1) := by decide +kernel
theorem d_M_breach_199 : decode prog_14_method_36_code 199 = .ok (.iand, 1) := by decide +kernel
theorem d_M_breach_200 : decode prog_14_method_36_code 200 = .ok (.aload_n 0, 1) := by decide +kernel
theorem d_M_breach_201 : decode prog_14_method_36_code 201 = .ok (.getfield 80, 3) := by decide +kernel
theorem d_M_breach_204 : decode prog_14_method_36_code 204 = .ok (.bipush 30, 2) := by decide +kernel
theorem d_M_breach_206 : decode prog_14_method_36_code 206 = .ok (.iload_n 1, 1) := by decide +kernel
theorem d_M_breach_207 : decode prog_14_method_36_code 207 = .ok (.imul, 1) := by decide +kernel
theorem d_M_breach_208 : decode prog_14_method_36_code 208 = .ok (.iload 4, 2) := by decide +kernel
theorem d_M_breach_210 : decode prog_14_method_36_code 210 = .ok (.iadd, 1) := by decide +kernel
theorem d_M_breach_211 : decode prog_14_method_36_code 211 = .ok (.iaload, 1) := by decide +kernel
theorem d_M_breach_212 : decode prog_14_method_36_code 212 = .ok (.if_icmp .ne 5, 3) := by decide +kernel
theorem d_M_breach_215 : decode prog_14_method_36_code 215 = .ok (.iconst 5, 1) := by decide +kernel
theorem d_M_breach_216 : decode prog_14_method_36_code 216 = .ok (.ireturn, 1) := by decide +kernel
theorem d_M_breach_217 : decode prog_14_method_36_code 217 = .ok (.iinc 4 1, 3) := by decide +kernel
theorem d_M_breach_220 : decode prog_14_method_36_code 220 = .ok (.goto (-45), 3) := by decide +kernel
theorem d_M_breach_223 : decode prog_14_method_36_code 223 = .ok (.iconst 0, 1) := by decide +kernel
theorem d_M_breach_224 : decode prog_14_method_36_code 224 = .ok (.ireturn, 1) := by decide +kernel
theorem d_M_isAllowed_0 : decode prog_14_method_37_code 0 = .ok (.iload_n 2, 1) := by decide +kernel
theorem d_M_isAllowed_1 : decode prog_14_method_37_code 1 = .ok (.ifCond .ne 5, 3) := by decide +kernel
theorem d_M_isAllowed_4 : decode prog_14_method_37_code 4 = .ok (.iconst 1, 1) := by decide +kernel
theorem d_M_isAllowed_5 : decode prog_14_method_37_code 5 = .ok (.ireturn, 1) := by decide +kernel
theorem d_M_isAllowed_6 : decode prog_14_method_37_code 6 = .ok (.aload_n 0, 1) := by decide +kernel
theorem d_M_isAllowed_7 : decode prog_14_method_37_code 7 = .ok (.getfield 49, 3) := by decide +kernel
theorem d_M_isAllowed_10 : decode prog_14_method_37_code 10 = .ok (.iload_n 1, 1) := by decide +kernel
theorem d_M_isAllowed_11 : decode prog_14_method_37_code 11 = .ok (.baload, 1) := by decide +kernel
theorem d_M_isAllowed_12 : decode prog_14_method_37_code 12 = .ok (.ifCond .eq 12, 3) := by decide +kernel
theorem d_M_isAllowed_15 : decode prog_14_method_37_code 15 = .ok (.aload_n 0, 1) := by decide +kernel
theorem d_M_isAllowed_16 : decode prog_14_method_37_code 16 = .ok (.iload_n 1, 1) := by decide +kernel
theorem d_M_isAllowed_17 : decode prog_14_method_37_code 17 = .ok (.iload_n 2, 1) := by decide +kernel
theorem d_M_isAllowed_18 : decode prog_14_method_37_code 18 = .ok (.invokevirtual 279, 3) := by decide +kernel
theorem d_M_isAllowed_21 : decode prog_14_method_37_code 21 = .ok (.ifCond .eq 5, 3) := by decide +kernel
theorem d_M_isAllowed_24 : decode prog_14_method_37_code 24 = .ok (.iconst 0, 1) := by decide +kernel
theorem d_M_isAllowed_25 : decode prog_14_method_37_code 25 = .ok (.ireturn, 1) := by decide +kernel
theorem d_M_isAllowed_26 : decode prog_14_method_37_code 26 = .ok (.aload_n 0, 1) := by decide +kernel
theorem d_M_isAllowed_27 : decode prog_14_method_37_code 27 = .ok (.iload_n 2, 1) := by decide +kernel
theorem d_M_isAllowed_28 : decode prog_14_method_37_code 28 = .ok (.invokevirtual 265, 3) := by decide +kernel
theorem d_M_isAllowed_31 : decode prog_14_method_37_code 31 = .ok (.istore_n 3, 1) := by decide +kernel
theorem d_M_isAllowed_32 : decode prog_14_method_37_code 32 = .ok (.iconst 0, 1) := by decide +kernel
theorem d_M_isAllowed_33 : decode prog_14_method_37_code 33 = .ok (.istore 4, 2) := by decide +kernel
theorem d_M_isAllowed_35 : decode prog_14_method_37_code 35 = .ok (.iload 4, 2) := by decide +kernel
theorem d_M_isAllowed_37 : decode prog_14_method_37_code 37 = .ok (.aload_n 0, 1) := by decide +kernel
theorem d_M_isAllowed_38 : decode prog_14_method_37_code 38 = .ok (.getfield 77, 3) := by decide +kernel
theorem d_M_isAllowed_41 : decode prog_14_method_37_code 41 = .ok (.iload_n 1, 1) := by decide +kernel
theorem d_M_isAllowed_42 : decode prog_14_method_37_code 42 = .ok (.iaload, 1) := by decide +kernel
theorem d_M_isAllowed_43 : decode prog_14_method_37_code 43 = .ok (.if_icmp .ge 49, 3) := by decide +kernel
theorem d_M_isAllowed_46 : decode prog_14_method_37_code 46 = .ok (.iload_n 3, 1) := by decide +kernel
theorem d_M_isAllowed_47 : decode prog_14_method_37_code 47 = .ok (.aload_n 0, 1) := by decide +kernel
theorem d_M_isAllowed_48 : decode prog_14_method_37_code 48 = .ok (.getfield 74, 3) := by decide +kernel
theorem d_M_isAllowed_51 : decode prog_14_method_37_code 51 = .ok (.bipush 30, 2) := by decide +kernel
theorem d_M_isAllowed_53 : decode prog_14_method_37_code 53 = .ok (.iload_n 1, 1) := by decide +kernel
theorem d_M_isAllowed_54 : decode prog_14_method_37_code 54 = .ok (.imul, 1) := by decide +kernel
theorem d_M_isAllowed_55 : decode prog_14_method_37_code 55 = .ok (.iload 4, 2) := by decide +kernel
theorem d_M_isAllowed_57 : decode prog_14_method_37_code 57 = .ok (.iadd, 1) := by decide +kernel
theorem d_M_isAllowed_58 : decode prog_14_method_37_code 58 = .ok (.iaload, 1) := by decide +kernel
theorem d_M_isAllowed_59 : decode prog_14_method_37_code 59 = .ok (.iand, 1) := by decide +kernel
theorem d_M_isAllowed_60 : decode prog_14_method_37_code 60 = .ok (.istore 5, 2) := by decide +kernel
theorem d_M_isAllowed_62 : decode prog_14_method_37_code 62 = .ok (.iload 5, 2) := by decide +kernel
theorem d_M_isAllowed_64 : decode prog_14_method_37_code 64 = .ok (.ifCond .eq 22, 3) := by decide +kernel
theorem d_M_isAllowed_67 : decode prog_14_method_37_code 67 = .ok (.iload 5, 2) := by decide +kernel
theorem d_M_isAllowed_69 : decode prog_14_method_37_code 69 = .ok (.aload_n 0, 1) := by decide +kernel
theorem d_M_isAllowed_70 : decode prog_14_method_37_code 70 = .ok (.getfield 74, 3) := by decide +kernel
theorem d_M_isAllowed_73 : decode prog_14_method_37_code 73 = .ok (.bipush 30, 2) := by decide +kernel
theorem d_M_isAllowed_75 : decode prog_14_method_37_code 75 = .ok (.iload_n 1, 1) := by decide +kernel
theorem d_M_isAllowed_76 : decode prog_14_method_37_code 76 = .ok (.imul, 1) := by decide +kernel
theorem d_M_isAllowed_77 : decode prog_14_method_37_code 77 = .ok (.iload 4, 2) := by decide +kernel
theorem d_M_isAllowed_79 : decode prog_14_method_37_code 79 = .ok (.iadd, 1) := by decide +kernel
theorem d_M_isAllowed_80 : decode prog_14_method_37_code 80 = .ok (.iaload, 1) := by decide +kernel
theorem d_M_isAllowed_81 : decode prog_14_method_37_code 81 = .ok (.if_icmp .eq 5, 3) := by decide +kernel
theorem d_M_isAllowed_84 : decode prog_14_method_37_code 84 = .ok (.iconst 0, 1) := by decide +kernel
theorem d_M_isAllowed_85 : decode prog_14_method_37_code 85 = .ok (.ireturn, 1) := by decide +kernel
theorem d_M_isAllowed_86 : decode prog_14_method_37_code 86 = .ok (.iinc 4 1, 3) := by decide +kernel
theorem d_M_isAllowed_89 : decode prog_14_method_37_code 89 = .ok (.goto (-54), 3) := by decide +kernel
theorem d_M_isAllowed_92 : decode prog_14_method_37_code 92 = .ok (.iconst 1, 1) := by decide +kernel
theorem d_M_isAllowed_93 : decode prog_14_method_37_code 93 = .ok (.ireturn, 1) := by decide +kernel
theorem d_M_spread_0 : decode prog_14_method_38_code 0 = .ok (.iconst 0, 1) := by decide +kernel
theorem d_M_spread_1 : decode prog_14_method_38_code 1 = .ok (.istore_n 3, 1) := by decide +kernel
theorem d_M_spread_2 : decode prog_14_method_38_code 2 = .ok (.iconst 0, 1) := by decide +kernel
theorem d_M_spread_3 : decode prog_14_method_38_code 3 = .ok (.istore 4, 2) := by decide +kernel
theorem d_M_spread_5 : decode prog_14_method_38_code 5 = .ok (.iload 4, 2) := by decide +kernel
theorem d_M_spread_7 : decode prog_14_method_38_code 7 = .ok (.aload_n 0, 1) := by decide +kernel
theorem d_M_spread_8 : decode prog_14_method_38_code 8 = .ok (.getfield 96, 3) := by decide +kernel
theorem d_M_spread_11 : decode prog_14_method_38_code 11 = .ok (.iload_n 1, 1) := by decide +kernel
theorem d_M_spread_12 : decode prog_14_method_38_code 12 = .ok (.iaload, 1) := by decide +kernel
theorem d_M_spread_13 : decode prog_14_method_38_code 13 = .ok (.if_icmp .ge 44, 3) := by decide +kernel
theorem d_M_spread_16 : decode prog_14_method_38_code 16 = .ok (.iload_n 2, 1) := by decide +kernel
theorem d_M_spread_17 : decode prog_14_method_38_code 17 = .ok (.aload_n 0, 1) := by decide +kernel
theorem d_M_spread_18 : decode prog_14_method_38_code 18 = .ok (.getfield 96, 3) := by decide +kernel
theorem d_M_spread_21 : decode prog_14_method_38_code 21 = .ok (.iload_n 1, 1) := by decide +kernel
theorem d_M_spread_22 : decode prog_14_method_38_code 22 = .ok (.iaload, 1) := by decide +kernel
theorem d_M_spread_23 : decode prog_14_method_38_code 23 = .ok (.iconst 1, 1) := by decide +kernel
theorem d_M_spread_24 : decode prog_14_method_38_code 24 = .ok (.isub, 1) := by decide +kernel
theorem d_M_spread_25 : decode prog_14_method_38_code 25 = .ok (.iload 4, 2) := by decide +kernel
theorem d_M_spread_27 : decode prog_14_method_38_code 27 = .ok (.isub, 1) := by decide +kernel
theorem d_M_spread_28 : decode prog_14_method_38_code 28 = .ok (.invokestatic 262, 3) := by decide +kernel
theorem d_M_spread_31 : decode prog_14_method_38_code 31 = .ok (.ifCond .eq 20, 3) := by decide +kernel
theorem d_M_spread_34 : decode prog_14_method_38_code 34 = .ok (.iload_n 3, 1) := by decide +kernel
theorem d_M_spread_35 : decode prog_14_method_38_code 35 = .ok (.iconst 1, 1) := by decide +kernel
theorem d_M_spread_36 : decode prog_14_method_38_code 36 = .ok (.aload_n 0, 1) := by decide +kernel
theorem d_M_spread_37 : decode prog_14_method_38_code 37 = .ok (.getfield 93, 3) := by decide +kernel
theorem d_M_spread_40 : decode prog_14_method_38_code 40 = .ok (.bipush 8, 2) := by decide +kernel
theorem d_M_spread_42 : decode prog_14_method_38_code 42 = .ok (.iload_n 1, 1) := by decide +kernel
theorem d_M_spread_43 : decode prog_14_method_38_code 43 = .ok (.imul, 1) := by decide +kernel
theorem d_M_spread_44 : decode prog_14_method_38_code 44 = .ok (.iload 4, 2) := by decide +kernel
theorem d_M_spread_46 : decode prog_14_method_38_code 46 = .ok (.iadd, 1) := by decide +kernel
theorem d_M_spread_47 : decode prog_14_method_38_code 47 = .ok (.iaload, 1) := by decide +kernel
theorem d_M_spread_48 : decode prog_14_method_38_code 48 = .ok (.ishl, 1) := by decide +kernel
theorem d_M_spread_49 : decode prog_14_method_38_code 49 = .ok (.ior, 1) := by decide +kernel
theorem d_M_spread_50 : decode prog_14_method_38_code 50 = .ok (.istore_n 3, 1) := by decide +kernel
theorem d_M_spread_51 : decode prog_14_method_38_code 51 = .ok (.iinc 4 1, 3) := by decide +kernel
theorem d_M_spread_54 : decode prog_14_method_38_code 54 = .ok (.goto (-49), 3) := by decide +kernel
theorem d_M_spread_57 : decode prog_14_method_38_code 57 = .ok (.iload_n 3, 1) := by decide +kernel
theorem d_M_spread_58 : decode prog_14_method_38_code 58 = .ok (.ireturn, 1) := by decide +kernel
theorem d_M_gather_0 : decode prog_14_method_39_code 0 = .ok (.iconst 0, 1) := by decide +kernel
theorem d_M_gather_1 : decode prog_14_method_39_code 1 = .ok (.istore_n 3, 1) := by decide +kernel
theorem d_M_gather_2 : decode prog_14_method_39_code 2 = .ok (.iconst 0, 1) := by decide +kernel
theorem d_M_gather_3 : decode prog_14_method_39_code 3 = .ok (.istore 4, 2) := by decide +kernel
theorem d_M_gather_5 : decode prog_14_method_39_code 5 = .ok (.iload 4, 2) := by decide +kernel
theorem d_M_gather_7 : decode prog_14_method_39_code 7 = .ok (.aload_n 0, 1) := by decide +kernel
theorem d_M_gather_8 : decode prog_14_method_39_code 8 = .ok (.getfield 96, 3) := by decide +kernel
theorem d_M_gather_11 : decode prog_14_method_39_code 11 = .ok (.iload_n 1, 1) := by decide +kernel
theorem d_M_gather_12 : decode prog_14_method_39_code 12 = .ok (.iaload, 1) := by decide +kernel
theorem d_M_gather_13 : decode prog_14_method_39_code 13 = .ok (.if_icmp .ge 44, 3) := by decide +kernel
theorem d_M_gather_16 : decode prog_14_method_39_code 16 = .ok (.iload_n 2, 1) := by decide +kernel
theorem d_M_gather_17 : decode prog_14_method_39_code 17 = .ok (.aload_n 0, 1) := by decide +kernel
theorem d_M_gather_18 : decode prog_14_method_39_code 18 = .ok (.getfield 93, 3) := by decide +kernel
theorem d_M_gather_21 : decode prog_14_method_39_code 21 = .ok (.bipush 8, 2) := by decide +kernel
theorem d_M_gather_23 : decode prog_14_method_39_code 23 = .ok (.iload_n 1, 1) := by decide +kernel
theorem d_M_gather_24 : decode prog_14_method_39_code 24 = .ok (.imul, 1) := by decide +kernel
theorem d_M_gather_25 : decode prog_14_method_39_code 25 = .ok (.iload 4, 2) := by decide +kernel
theorem d_M_gather_27 : decode prog_14_method_39_code 27 = .ok (.iadd, 1) := by decide +kernel
theorem d_M_gather_28 : decode prog_14_method_39_code 28 = .ok (.iaload, 1) := by decide +kernel
theorem d_M_gather_29 : decode prog_14_method_39_code 29 = .ok (.invokestatic 262, 3) := by decide +kernel
theorem d_M_gather_32 : decode prog_14_method_39_code 32 = .ok (.ifCond .eq 19, 3) := by decide +kernel
theorem d_M_gather_35 : decode prog_14_method_39_code 35 = .ok (.iload_n 3, 1) := by decide +kernel
theorem d_M_gather_36 : decode prog_14_method_39_code 36 = .ok (.iconst 1, 1) := by decide +kernel
theorem d_M_gather_37 : decode prog_14_method_39_code 37 = .ok (.aload_n 0, 1) := by decide +kernel
theorem d_M_gather_38 : decode prog_14_method_39_code 38 = .ok (.getfield 96, 3) := by decide +kernel
theorem d_M_gather_41 : decode prog_14_method_39_code 41 = .ok (.iload_n 1, 1) := by decide +kernel
theorem d_M_gather_42 : decode prog_14_method_39_code 42 = .ok (.iaload, 1) := by decide +kernel
theorem d_M_gather_43 : decode prog_14_method_39_code 43 = .ok (.iconst 1, 1) := by decide +kernel
theorem d_M_gather_44 : decode prog_14_method_39_code 44 = .ok (.isub, 1) := by decide +kernel
theorem d_M_gather_45 : decode prog_14_method_39_code 45 = .ok (.iload 4, 2) := by decide +kernel
theorem d_M_gather_47 : decode prog_14_method_39_code 47 = .ok (.isub, 1) := by decide +kernel
theorem d_M_gather_48 : decode prog_14_method_39_code 48 = .ok (.ishl, 1) := by decide +kernel
theorem d_M_gather_49 : decode prog_14_method_39_code 49 = .ok (.ior, 1) := by decide +kernel
theorem d_M_gather_50 : decode prog_14_method_39_code 50 = .ok (.istore_n 3, 1) := by decide +kernel
theorem d_M_gather_51 : decode prog_14_method_39_code 51 = .ok (.iinc 4 1, 3) := by decide +kernel
theorem d_M_gather_54 : decode prog_14_method_39_code 54 = .ok (.goto (-49), 3) := by decide +kernel
theorem d_M_gather_57 : decode prog_14_method_39_code 57 = .ok (.iload_n 3, 1) := by decide +kernel
theorem d_M_gather_58 : decode prog_14_method_39_code 58 = .ok (.ireturn, 1) := by decide +kernel
theorem d_M_make1_0 : decode prog_14_method_40_code 0 = .ok (.iconst 0, 1) := by decide +kernel
theorem d_M_make1_1 : decode prog_14_method_40_code 1 = .ok (.istore_n 2, 1) := by decide +kernel
theorem d_M_make1_2 : decode prog_14_method_40_code 2 = .ok (.iconst 0, 1) := by decide +kernel
theorem d_M_make1_3 : decode prog_14_method_40_code 3 = .ok (.istore_n 3, 1) := by decide +kernel
theorem d_M_make1_4 : decode prog_14_method_40_code 4 = .ok (.iload_n 3, 1) := by decide +kernel
theorem d_M_make1_5 : decode prog_14_method_40_code 5 = .ok (.aload_n 0, 1) := by decide +kernel
theorem d_M_make1_6 : decode prog_14_method_40_code 6 = .ok (.getfield 161, 3) := by decide +kernel
theorem d_M_make1_9 : decode prog_14_method_40_code 9 = .ok (.if_icmp .ge 101, 3) := by decide +kernel
theorem d_M_make1_12 : decode prog_14_method_40_code 12 = .ok (.aload_n 0, 1) := by decide +kernel
theorem d_M_make1_13 : decode prog_14_method_40_code 13 = .ok (.getfield 16, 3) := by decide +kernel
theorem d_M_make1_16 : decode prog_14_method_40_code 16 = .ok (.iload_n 3, 1) := by decide +kernel
theorem d_M_make1_17 : decode prog_14_method_40_code 17 = .ok (.iaload, 1) := by decide +kernel
theorem d_M_make1_18 : decode prog_14_method_40_code 18 = .ok (.iload_n 1, 1) := by decide +kernel
theorem d_M_make1_19 : decode prog_14_method_40_code 19 = .ok (.if_icmp .eq 6, 3) := by decide +kernel
theorem d_M_make1_22 : decode prog_14_method_40_code 22 = .ok (.goto 82, 3) := by decide +kernel
theorem d_M_make1_25 : decode prog_14_method_40_code 25 = .ok (.iload_n 2, 1) := by decide +kernel
theorem d_M_make1_26 : decode prog_14_method_40_code 26 = .ok (.istore 4, 2) := by decide +kernel
theorem d_M_make1_28 : decode prog_14_method_40_code 28 = .ok (.iinc 2 1, 3) := by decide +kernel
theorem d_M_make1_31 : decode prog_14_method_40_code 31 = .ok (.iload 4, 2) := by decide +kernel
theorem d_M_make1_33 : decode prog_14_method_40_code 33 = .ok (.ifCond .le 58, 3) := by decide +kernel
theorem d_M_make1_36 : decode prog_14_method_40_code 36 = .ok (.aload_n 0, 1) := by decide +kernel
theorem d_M_make1_37 : decode prog_14_method_40_code 37 = .ok (.iload_n 1, 1) := by decide +kernel
theorem d_M_make1_38 : decode prog_14_method_40_code 38 = .ok (.iload_n 3, 1) := by decide +kernel
theorem d_M_make1_39 : decode prog_14_method_40_code 39 = .ok (.aload_n 0, 1) := by decide +kernel
theorem d_M_make1_40 : decode prog_14_method_40_code 40 = .ok (.getfield 93, 3) := by decide +kernel
theorem d_M_make1_43 : decode prog_14_method_40_code 43 = .ok (.bipush 8, 2) := by decide +kernel
theorem d_M_make1_45 : decode prog_14_method_40_code 45 = .ok (.iload_n 1, 1) := by decide +kernel
theorem d_M_make1_46 : decode prog_14_method_40_code 46 = .ok (.imul, 1) := by decide +kernel
theorem d_M_make1_47 : decode prog_14_method_40_code 47 = .ok (.iload 4, 2) := by decide +kernel
theorem d_M_make1_49 : decode prog_14_method_40_code 49 = .ok (.iadd, 1) := by decide +kernel
theorem d_M_make1_50 : decode prog_14_method_40_code 50 = .ok (.iconst 1, 1) := by decide +kernel
theorem d_M_make1_51 : decode prog_14_method_40_code 51 = .ok (.isub, 1) := by decide +kernel
theorem d_M_make1_52 : decode prog_14_method_40_code 52 = .ok (.iaload, 1) := by decide +kernel
theorem d_M_make1_53 : decode prog_14_method_40_code 53 = .ok (.invokevirtual 282, 3) := by decide +kernel
theorem d_M_make1_56 : decode prog_14_method_40_code 56 = .ok (.ifCond .eq 35, 3) := by decide +kernel
theorem d_M_make1_59 : decode prog_14_method_40_code 59 = .ok (.aload_n 0, 1) := by decide +kernel
theorem d_M_make1_60 : decode prog_14_method_40_code 60 = .ok (.getfield 93, 3) := by decide +kernel
theorem d_M_make1_63 : decode prog_14_method_40_code 63 = .ok (.bipush 8, 2) := by decide +kernel
theorem d_M_make1_65 : decode prog_14_method_40_code 65 = .ok (.iload_n 1, 1) := by decide +kernel
theorem d_M_make1_66 : decode prog_14_method_40_code 66 = .ok (.imul, 1) := by decide +kernel
theorem d_M_make1_67 : decode prog_14_method_40_code 67 = .ok (.iload 4, 2) := by decide +kernel
theorem d_M_make1_69 : decode prog_14_method_40_code 69 = .ok (.iadd, 1) := by decide +kernel
theorem d_M_make1_70 : decode prog_14_method_40_code 70 = .ok (.aload_n 0, 1) := by decide +kernel
theorem d_M_make1_71 : decode prog_14_method_40_code 71 = .ok (.getfield 93, 3) := by decide +kernel
theorem d_M_make1_74 : decode prog_14_method_40_code 74 = .ok (.bipush 8, 2) := by decide +kernel
theorem d_M_make1_76 : decode prog_14_method_40_code 76 = .ok (.iload_n 1, 1) := by decide +kernel
theorem d_M_make1_77 : decode prog_14_method_40_code 77 = .ok (.imul, 1) := by decide +kernel
theorem d_M_make1_78 : decode prog_14_method_40_code 78 = .ok (.iload 4, 2) := by decide +kernel
theorem d_M_make1_80 : decode prog_14_method_40_code 80 = .ok (.iadd, 1) := by decide +kernel
theorem d_M_make1_81 : decode prog_14_method_40_code 81 = .ok (.iconst 1, 1) := by decide +kernel
theorem d_M_make1_82 : decode prog_14_method_40_code 82 = .ok (.isub, 1) := by decide +kernel
theorem d_M_make1_83 : decode prog_14_method_40_code 83 = .ok (.iaload, 1) := by decide +kernel
theorem d_M_make1_84 : decode prog_14_method_40_code 84 = .ok (.iastore, 1) := by decide +kernel
theorem d_M_make1_85 : decode prog_14_method_40_code 85 = .ok (.iinc 4 (-1), 3) := by decide +kernel
theorem d_M_make1_88 : decode prog_14_method_40_code 88 = .ok (.goto (-57), 3) := by decide +kernel
theorem d_M_make1_91 : decode prog_14_method_40_code 91 = .ok (.aload_n 0, 1) := by decide +kernel
theorem d_M_make1_92 : decode prog_14_method_40_code 92 = .ok (.getfield 93, 3) := by decide +kernel
theorem d_M_make1_95 : decode prog_14_method_40_code 95 = .ok (.bipush 8, 2) := by decide +kernel
theorem d_M_make1_97 : decode prog_14_method_40_code 97 = .ok (.iload_n 1, 1) := by decide +kernel
theorem d_M_make1_98 : decode prog_14_method_40_code 98 = .ok (.imul, 1) := by decide +kernel
theorem d_M_make1_99 : decode prog_14_method_40_code 99 = .ok (.iload 4, 2) := by decide +kernel
theorem d_M_make1_101 : decode prog_14_method_40_code 101 = .ok (.iadd, 1) := by decide +kernel
theorem d_M_make1_102 : decode prog_14_method_40_code 102 = .ok (.iload_n 3, 1) := by decide +kernel
theorem d_M_make1_103 : decode prog_14_method_40_code 103 = .ok (.iastore, 1) := by decide +kernel
theorem d_M_make1_104 : decode prog_14_method_40_code 104 = .ok (.iinc 3 1, 3) := by decide +kernel
theorem d_M_make1_107 : decode prog_14_method_40_code 107 = .ok (.goto (-103), 3) := by decide +kernel
theorem d_M_make1_110 : decode prog_14_method_40_code 110 = .ok (.aload_n 0, 1) := by decide +kernel
theorem d_M_make1_111 : decode prog_14_method_40_code 111 = .ok (.getfield 96, 3) := by decide +kernel
theorem d_M_make1_114 : decode prog_14_method_40_code 114 = .ok (.iload_n 1, 1) := by decide +kernel
theorem d_M_make1_115 : decode prog_14_method_40_code 115 = .ok (.iload_n 2, 1) := by decide +kernel
theorem d_M_make1_116 : decode prog_14_method_40_code 116 = .ok (.iastore, 1) := by decide +kernel
theorem d_M_make1_117 : decode prog_14_method_40_code 117 = .ok (.iconst 0, 1) := by decide +kernel
theorem d_M_make1_118 : decode prog_14_method_40_code 118 = .ok (.istore_n 3, 1) := by decide +kernel
theorem d_M_make1_119 : decode prog_14_method_40_code 119 = .ok (.iload_n 3, 1) := by decide +kernel
theorem d_M_make1_120 : decode prog_14_method_40_code 120 = .ok (.iconst 1, 1) := by decide +kernel
theorem d_M_make1_121 : decode prog_14_method_40_code 121 = .ok (.iload_n 2, 1) := by decide +kernel
theorem d_M_make1_122 : decode prog_14_method_40_code 122 = .ok (.ishl, 1) := by decide +kernel
theorem d_M_make1_123 : decode prog_14_method_40_code 123 = .ok (.if_icmp .ge 26, 3) := by decide +kernel
theorem d_M_make1_126 : decode prog_14_method_40_code 126 = .ok (.aload_n 0, 1) := by decide +kernel
theorem d_M_make1_127 : decode prog_14_method_40_code 127 = .ok (.getfield 117, 3) := by decide +kernel
theorem d_M_make1_130 : decode prog_14_method_40_code 130 = .ok (.iload_n 3, 1) := by decide +kernel
theorem d_M_make1_131 : decode prog_14_method_40_code 131 = .ok (.aload_n 0, 1) := by decide +kernel
theorem d_M_make1_132 : decode prog_14_method_40_code 132 = .ok (.iload_n 1, 1) := by decide +kernel
theorem d_M_make1_133 : decode prog_14_method_40_code 133 = .ok (.aload_n 0, 1) := by decide +kernel
theorem d_M_make1_134 : decode prog_14_method_40_code 134 = .ok (.iload_n 1, 1) := by decide +kernel
theorem d_M_make1_135 : decode prog_14_method_40_code 135 = .ok (.iload_n 3, 1) := by decide +kernel
theorem d_M_make1_136 : decode prog_14_method_40_code 136 = .ok (.invokevirtual 285, 3) := by decide +kernel
theorem d_M_make1_139 : decode prog_14_method_40_code 139 = .ok (.invokevirtual 288, 3) := by decide +kernel
theorem d_M_make1_142 : decode prog_14_method_40_code 142 = .ok (.bastore, 1) := by decide +kernel
theorem d_M_make1_143 : decode prog_14_method_40_code 143 = .ok (.iinc 3 1, 3) := by decide +kernel
theorem d_M_make1_146 : decode prog_14_method_40_code 146 = .ok (.goto (-27), 3) := by decide +kernel
theorem d_M_make1_149 : decode prog_14_method_40_code 149 = .ok (.iconst 0, 1) := by decide +kernel
theorem d_M_make1_150 : decode prog_14_method_40_code 150 = .ok (.istore_n 3, 1) := by decide +kernel
theorem d_M_make1_151 : decode prog_14_method_40_code 151 = .ok (.iload_n 3, 1) := by decide +kernel
theorem d_M_make1_152 : decode prog_14_method_40_code 152 = .ok (.iconst 1, 1) := by decide +kernel
theorem d_M_make1_153 : decode prog_14_method_40_code 153 = .ok (.iload_n 2, 1) := by decide +kernel
theorem d_M_make1_154 : decode prog_14_method_40_code 154 = .ok (.ishl, 1) := by decide +kernel
theorem d_M_make1_155 : decode prog_14_method_40_code 155 = .ok (.if_icmp .ge 51, 3) := by decide +kernel
theorem d_M_make1_158 : decode prog_14_method_40_code 158 = .ok (.iload_n 3, 1) := by decide +kernel
theorem d_M_make1_159 : decode prog_14_method_40_code 159 = .ok (.istore 4, 2) := by decide +kernel
theorem d_M_make1_161 : decode prog_14_method_40_code 161 = .ok (.aload_n 0, 1) := by decide +kernel
theorem d_M_make1_162 : decode prog_14_method_40_code 162 = .ok (.getfield 117, 3) := by decide +kernel
theorem d_M_make1_165 : decode prog_14_method_40_code 165 = .ok (.iload 4, 2) := by decide +kernel
theorem d_M_make1_167 : decode prog_14_method_40_code 167 = .ok (.baload, 1) := by decide +kernel
theorem d_M_make1_168 : decode prog_14_method_40_code 168 = .ok (.ifCond .ne 14, 3) := by decide +kernel
theorem d_M_make1_171 : decode prog_14_method_40_code 171 = .ok (.iload 4, 2) := by decide +kernel
theorem d_M_make1_173 : decode prog_14_method_40_code 173 = .ok (.iconst 1, 1) := by decide +kernel
theorem d_M_make1_174 : decode prog_14_method_40_code 174 = .ok (.isub, 1) := by decide +kernel
theorem d_M_make1_175 : decode prog_14_method_40_code 175 = .ok (.iload_n 3, 1) := by decide +kernel
theorem d_M_make1_176 : decode prog_14_method_40_code 176 = .ok (.iand, 1) := by decide +kernel
theorem d_M_make1_177 : decode prog_14_method_40_code 177 = .ok (.istore 4, 2) := by decide +kernel
theorem d_M_make1_179 : decode prog_14_method_40_code 179 = .ok (.goto (-18), 3) := by decide +kernel
theorem d_M_make1_182 : decode prog_14_method_40_code 182 = .ok (.aload_n 0, 1) := by decide +kernel
theorem d_M_make1_183 : decode prog_14_method_40_code 183 = .ok (.getfield 99, 3) := by decide +kernel
theorem d_M_make1_186 : decode prog_14_method_40_code 186 = .ok (.iload_n 1, 1) := by decide +kernel
theorem d_M_make1_187 : decode prog_14_method_40_code 187 = .ok (.bipush 8, 2) := by decide +kernel
theorem d_M_make1_189 : decode prog_14_method_40_code 189 = .ok (.ishl, 1) := by decide +kernel
theorem d_M_make1_190 : decode prog_14_method_40_code 190 = .ok (.iload_n 3, 1) := by decide +kernel
theorem d_M_make1_191 : decode prog_14_method_40_code 191 = .ok (.iadd, 1) := by decide +kernel
theorem d_M_make1_192 : decode prog_14_method_40_code 192 = .ok (.aload_n 0, 1) := by decide +kernel
theorem d_M_make1_193 : decode prog_14_method_40_code 193 = .ok (.iload_n 1, 1) := by decide +kernel
theorem d_M_make1_194 : decode prog_14_method_40_code 194 = .ok (.iload 4, 2) := by decide +kernel
theorem d_M_make1_196 : decode prog_14_method_40_code 196 = .ok (.invokevirtual 285, 3) := by decide +kernel
theorem d_M_make1_199 : decode prog_14_method_40_code 199 = .ok (.iastore, 1) := by decide +kernel
theorem d_M_make1_200 : decode prog_14_method_40_code 200 = .ok (.iinc 3 1, 3) := by decide +kernel
theorem d_M_make1_203 : decode prog_14_method_40_code 203 = .ok (.goto (-52), 3) := by decide +kernel
theorem d_M_make1_206 : decode prog_14_method_40_code 206 = .ok (.return_, 1) := by decide +kernel
theorem d_M_make_0 : decode prog_14_method_41_code 0 = .ok (.aload_n 0, 1) := by decide +kernel
theorem d_M_make_1 : decode prog_14_method_41_code 1 = .ok (.getfield 173, 3) := by decide +kernel
theorem d_M_make_4 : decode prog_14_method_41_code 4 = .ok (.ifCond .eq 4, 3) := by decide +kernel
theorem d_M_make_7 : decode prog_14_method_41_code 7 = .ok (.return_, 1) := by decide +kernel
theorem d_M_make_8 : decode prog_14_method_41_code 8 = .ok (.aload_n 0, 1) := by decide +kernel
theorem d_M_make_9 : decode prog_14_method_41_code 9 = .ok (.iconst 1, 1) := by decide +kernel
theorem d_M_make_10 : decode prog_14_method_41_code 10 = .ok (.putfield 173, 3) := by decide +kernel
theorem d_M_make_13 : decode prog_14_method_41_code 13 = .ok (.iconst 0, 1) := by decide +kernel
theorem d_M_make_14 : decode prog_14_method_41_code 14 = .ok (.istore_n 1, 1) := by decide +kernel
theorem d_M_make_15 : decode prog_14_method_41_code 15 = .ok (.iload_n 1, 1) := by decide +kernel
theorem d_M_make_16 : decode prog_14_method_41_code 16 = .ok (.aload_n 0, 1) := by decide +kernel
theorem d_M_make_17 : decode prog_14_method_41_code 17 = .ok (.getfield 158, 3) := by decide +kernel
theorem d_M_make_20 : decode prog_14_method_41_code 20 = .ok (.if_icmp .ge 14, 3) := by decide +kernel
theorem d_M_make_23 : decode prog_14_method_41_code 23 = .ok (.aload_n 0, 1) := by decide +kernel
theorem d_M_make_24 : decode prog_14_method_41_code 24 = .ok (.iload_n 1, 1) := by decide +kernel
theorem d_M_make_25 : decode prog_14_method_41_code 25 = .ok (.invokevirtual 291, 3) := by decide +kernel
theorem d_M_make_28 : decode prog_14_method_41_code 28 = .ok (.iinc 1 1, 3) := by decide +kernel
theorem d_M_make_31 : decode prog_14_method_41_code 31 = .ok (.goto (-16), 3) := by decide +kernel
theorem d_M_make_34 : decode prog_14_method_41_code 34 = .ok (.return_, 1) := by decide +kernel
theorem d_M_takeOf_0 : decode prog_14_method_42_code 0 = .ok (.aload_n 0, 1) := by decide +kernel
theorem d_M_takeOf_1 : decode prog_14_method_42_code 1 = .ok (.invokevirtual 295, 3) := by decide +kernel
theorem d_M_takeOf_4 : decode prog_14_method_42_code 4 = .ok (.aload_n 0, 1) := by decide +kernel
theorem d_M_takeOf_5 : decode prog_14_method_42_code 5 = .ok (.getfield 99, 3) := by decide +kernel
theorem d_M_takeOf_8 : decode prog_14_method_42_code 8 = .ok (.iload_n 1, 1) := by decide +kernel
theorem d_M_takeOf_9 : decode prog_14_method_42_code 9 = .ok (.bipush 8, 2) := by decide +kernel
theorem d_M_takeOf_11 : decode prog_14_method_42_code 11 = .ok (.ishl, 1) := by decide +kernel
theorem d_M_takeOf_12 : decode prog_14_method_42_code 12 = .ok (.aload_n 0, 1) := by decide +kernel
theorem d_M_takeOf_13 : decode prog_14_method_42_code 13 = .ok (.iload_n 1, 1) := by decide +kernel
theorem d_M_takeOf_14 : decode prog_14_method_42_code 14 = .ok (.iload_n 2, 1) := by decide +kernel
theorem d_M_takeOf_15 : decode prog_14_method_42_code 15 = .ok (.invokevirtual 297, 3) := by decide +kernel
theorem d_M_takeOf_18 : decode prog_14_method_42_code 18 = .ok (.iadd, 1) := by decide +kernel
theorem d_M_takeOf_19 : decode prog_14_method_42_code 19 = .ok (.iaload, 1) := by decide +kernel
theorem d_M_takeOf_20 : decode prog_14_method_42_code 20 = .ok (.ireturn, 1) := by decide +kernel
theorem d_M_bondsOf_0 : decode prog_14_method_43_code 0 = .ok (.iconst 0, 1) := by decide +kernel
theorem d_M_bondsOf_1 : decode prog_14_method_43_code 1 = .ok (.istore_n 2, 1) := by decide +kernel
theorem d_M_bondsOf_2 : decode prog_14_method_43_code 2 = .ok (.iconst 0, 1) := by decide +kernel
theorem d_M_bondsOf_3 : decode prog_14_method_43_code 3 = .ok (.istore_n 3, 1) := by decide +kernel
theorem d_M_bondsOf_4 : decode prog_14_method_43_code 4 = .ok (.iload_n 3, 1) := by decide +kernel
theorem d_M_bondsOf_5 : decode prog_14_method_43_code 5 = .ok (.aload_n 0, 1) := by decide +kernel
theorem d_M_bondsOf_6 : decode prog_14_method_43_code 6 = .ok (.getfield 161, 3) := by decide +kernel
theorem d_M_bondsOf_9 : decode prog_14_method_43_code 9 = .ok (.if_icmp .ge 25, 3) := by decide +kernel
theorem d_M_bondsOf_12 : decode prog_14_method_43_code 12 = .ok (.aload_n 0, 1) := by decide +kernel
theorem d_M_bondsOf_13 : decode prog_14_method_43_code 13 = .ok (.getfield 16, 3) := by decide +kernel
theorem d_M_bondsOf_16 : decode prog_14_method_43_code 16 = .ok (.iload_n 3, 1) := by decide +kernel
theorem d_M_bondsOf_17 : decode prog_14_method_43_code 17 = .ok (.iaload, 1) := by decide +kernel
theorem d_M_bondsOf_18 : decode prog_14_method_43_code 18 = .ok (.iload_n 1, 1) := by decide +kernel
theorem d_M_bondsOf_19 : decode prog_14_method_43_code 19 = .ok (.if_icmp .ne 9, 3) := by decide +kernel
theorem d_M_bondsOf_22 : decode prog_14_method_43_code 22 = .ok (.iload_n 2, 1) := by decide +kernel
theorem d_M_bondsOf_23 : decode prog_14_method_43_code 23 = .ok (.iconst 1, 1) := by decide +kernel
theorem d_M_bondsOf_24 : decode prog_14_method_43_code 24 = .ok (.iload_n 3, 1) := by decide +kernel
theorem d_M_bondsOf_25 : decode prog_14_method_43_code 25 = .ok (.ishl, 1) := by decide +kernel
theorem d_M_bondsOf_26 : decode prog_14_method_43_code 26 = .ok (.ior, 1) := by decide +kernel
theorem d_M_bondsOf_27 : decode prog_14_method_43_code 27 = .ok (.istore_n 2, 1) := by decide +kernel
theorem d_M_bondsOf_28 : decode prog_14_method_43_code 28 = .ok (.iinc 3 1, 3) := by decide +kernel
theorem d_M_bondsOf_31 : decode prog_14_method_43_code 31 = .ok (.goto (-27), 3) := by decide +kernel
theorem d_M_bondsOf_34 : decode prog_14_method_43_code 34 = .ok (.iload_n 2, 1) := by decide +kernel
theorem d_M_bondsOf_35 : decode prog_14_method_43_code 35 = .ok (.ireturn, 1) := by decide +kernel
theorem d_M_take_0 : decode prog_14_method_44_code 0 = .ok (.aload_n 0, 1) := by decide +kernel
theorem d_M_take_1 : decode prog_14_method_44_code 1 = .ok (.iconst 0, 1) := by decide +kernel
theorem d_M_take_2 : decode prog_14_method_44_code 2 = .ok (.putfield 148, 3) := by decide +kernel
theorem d_M_take_5 : decode prog_14_method_44_code 5 = .ok (.aload_n 0, 1) := by decide +kernel
theorem d_M_take_6 : decode prog_14_method_44_code 6 = .ok (.iload_n 1, 1) := by decide +kernel
theorem d_M_take_7 : decode prog_14_method_44_code 7 = .ok (.invokevirtual 181, 3) := by decide +kernel
theorem d_M_take_10 : decode prog_14_method_44_code 10 = .ok (.ifCond .eq 20, 3) := by decide +kernel
theorem d_M_take_13 : decode prog_14_method_44_code 13 = .ok (.aload_n 0, 1) := by decide +kernel
theorem d_M_take_14 : decode prog_14_method_44_code 14 = .ok (.iload_n 2, 1) := by decide +kernel
theorem d_M_take_15 : decode prog_14_method_44_code 15 = .ok (.invokevirtual 300, 3) := by decide +kernel
theorem d_M_take_18 : decode prog_14_method_44_code 18 = .ok (.ifCond .eq 12, 3) := by decide +kernel
theorem d_M_take_21 : decode prog_14_method_44_code 21 = .ok (.aload_n 0, 1) := by decide +kernel
theorem d_M_take_22 : decode prog_14_method_44_code 22 = .ok (.iload_n 1, 1) := by decide +kernel
theorem d_M_take_23 : decode prog_14_method_44_code 23 = .ok (.iload_n 2, 1) := by decide +kernel
theorem d_M_take_24 : decode prog_14_method_44_code 24 = .ok (.invokevirtual 303, 3) := by decide +kernel
theorem d_M_take_27 : decode prog_14_method_44_code 27 = .ok (.goto 4, 3) := by decide +kernel
theorem d_M_take_30 : decode prog_14_method_44_code 30 = .ok (.iconst (-1), 1) := by decide +kernel
theorem d_M_take_31 : decode prog_14_method_44_code 31 = .ok (.ireturn, 1) := by decide +kernel
theorem d_M_why_0 : decode prog_14_method_45_code 0 = .ok (.aload_n 0, 1) := by decide +kernel
theorem d_M_why_1 : decode prog_14_method_45_code 1 = .ok (.iconst 0, 1) := by decide +kernel
theorem d_M_why_2 : decode prog_14_method_45_code 2 = .ok (.putfield 148, 3) := by decide +kernel
theorem d_M_why_5 : decode prog_14_method_45_code 5 = .ok (.aload_n 0, 1) := by decide +kernel
theorem d_M_why_6 : decode prog_14_method_45_code 6 = .ok (.iload_n 1, 1) := by decide +kernel
theorem d_M_why_7 : decode prog_14_method_45_code 7 = .ok (.invokevirtual 181, 3) := by decide +kernel
theorem d_M_why_10 : decode prog_14_method_45_code 10 = .ok (.ifCond .eq 37, 3) := by decide +kernel
theorem d_M_why_13 : decode prog_14_method_45_code 13 = .ok (.aload_n 0, 1) := by decide +kernel
theorem d_M_why_14 : decode prog_14_method_45_code 14 = .ok (.iload_n 2, 1) := by decide +kernel
theorem d_M_why_15 : decode prog_14_method_45_code 15 = .ok (.invokevirtual 300, 3) := by decide +kernel
theorem d_M_why_18 : decode prog_14_method_45_code 18 = .ok (.ifCond .eq 29, 3) := by decide +kernel
theorem d_M_why_21 : decode prog_14_method_45_code 21 = .ok (.aload_n 0, 1) := by decide +kernel
theorem d_M_why_22 : decode prog_14_method_45_code 22 = .ok (.iload_n 3, 1) := by decide +kernel
theorem d_M_why_23 : decode prog_14_method_45_code 23 = .ok (.invokevirtual 184, 3) := by decide +kernel
theorem d_M_why_26 : decode prog_14_method_45_code 26 = .ok (.ifCond .eq 21, 3) := by decide +kernel
theorem d_M_why_29 : decode prog_14_method_45_code 29 = .ok (.aload_n 0, 1) := by decide +kernel
theorem d_M_why_30 : decode prog_14_method_45_code 30 = .ok (.getfield 16, 3) := by decide +kernel
theorem d_M_why_33 : decode prog_14_method_45_code 33 = .ok (.iload_n 3, 1) := by decide +kernel
theorem d_M_why_34 : decode prog_14_method_45_code 34 = .ok (.iaload, 1) := by decide +kernel
theorem d_M_why_35 : decode prog_14_method_45_code 35 = .ok (.iload_n 1, 1) := by decide +kernel
theorem d_M_why_36 : decode prog_14_method_45_code 36 = .ok (.if_icmp .ne 11, 3) := by decide +kernel
theorem d_M_why_39 : decode prog_14_method_45_code 39 = .ok (.iload_n 2, 1) := by decide +kernel
theorem d_M_why_40 : decode prog_14_method_45_code 40 = .ok (.iload_n 3, 1) := by decide +kernel
theorem d_M_why_41 : decode prog_14_method_45_code 41 = .ok (.invokestatic 262, 3) := by decide +kernel
theorem d_M_why_44 : decode prog_14_method_45_code 44 = .ok (.ifCond .ne 5, 3) := by decide +kernel
theorem d_M_why_47 : decode prog_14_method_45_code 47 = .ok (.iconst (-1), 1) := by decide +kernel
theorem d_M_why_48 : decode prog_14_method_45_code 48 = .ok (.ireturn, 1) := by decide +kernel
theorem d_M_why_49 : decode prog_14_method_45_code 49 = .ok (.aload_n 0, 1) := by decide +kernel
theorem d_M_why_50 : decode prog_14_method_45_code 50 = .ok (.iload_n 1, 1) := by decide +kernel
theorem d_M_why_51 : decode prog_14_method_45_code 51 = .ok (.iload_n 2, 1) := by decide +kernel
theorem d_M_why_52 : decode prog_14_method_45_code 52 = .ok (.invokevirtual 303, 3) := by decide +kernel
theorem d_M_why_55 : decode prog_14_method_45_code 55 = .ok (.istore 4, 2) := by decide +kernel
theorem d_M_why_57 : decode prog_14_method_45_code 57 = .ok (.iload 4, 2) := by decide +kernel
theorem d_M_why_59 : decode prog_14_method_45_code 59 = .ok (.iload_n 3, 1) := by decide +kernel
theorem d_M_why_60 : decode prog_14_method_45_code 60 = .ok (.invokestatic 262, 3) := by decide +kernel
theorem d_M_why_63 : decode prog_14_method_45_code 63 = .ok (.ifCond .eq 5, 3) := by decide +kernel
theorem d_M_why_66 : decode prog_14_method_45_code 66 = .ok (.iconst 0, 1) := by decide +kernel
theorem d_M_why_67 : decode prog_14_method_45_code 67 = .ok (.ireturn, 1) := by decide +kernel
theorem d_M_why_68 : decode prog_14_method_45_code 68 = .ok (.iconst 1, 1) := by decide +kernel
theorem d_M_why_69 : decode prog_14_method_45_code 69 = .ok (.iload_n 3, 1) := by decide +kernel
theorem d_M_why_70 : decode prog_14_method_45_code 70 = .ok (.ishl, 1) := by decide +kernel
theorem d_M_why_71 : decode prog_14_method_45_code 71 = .ok (.istore 5, 2) := by decide +kernel
theorem d_M_why_73 : decode prog_14_method_45_code 73 = .ok (.iconst 0, 1) := by decide +kernel
theorem d_M_why_74 : decode prog_14_method_45_code 74 = .ok (.istore 6, 2) := by decide +kernel
theorem d_M_why_76 : decode prog_14_method_45_code 76 = .ok (.aload_n 0, 1) := by decide +kernel
theorem d_M_why_77 : decode prog_14_method_45_code 77 = .ok (.getfield 93, 3) := by decide +kernel
theorem d_M_why_80 : decode prog_14_method_45_code 80 = .ok (.bipush 8, 2) := by decide +kernel
theorem d_M_why_82 : decode prog_14_method_45_code 82 = .ok (.iload_n 1, 1) := by decide +kernel
theorem d_M_why_83 : decode prog_14_method_45_code 83 = .ok (.imul, 1) := by decide +kernel
theorem d_M_why_84 : decode prog_14_method_45_code 84 = .ok (.iload 6, 2) := by decide +kernel
theorem d_M_why_86 : decode prog_14_method_45_code 86 = .ok (.iadd, 1) := by decide +kernel
theorem d_M_why_87 : decode prog_14_method_45_code 87 = .ok (.iaload, 1) := by decide +kernel
theorem d_M_why_88 : decode prog_14_method_45_code 88 = .ok (.iload_n 3, 1) := by decide +kernel
theorem d_M_why_89 : decode prog_14_method_45_code 89 = .ok (.if_icmp .eq 31, 3) := by decide +kernel
theorem d_M_why_92 : decode prog_14_method_45_code 92 = .ok (.iload 5, 2) := by decide +kernel
theorem d_M_why_94 : decode prog_14_method_45_code 94 = .ok (.iload 4, 2) := by decide +kernel
theorem d_M_why_96 : decode prog_14_method_45_code 96 = .ok (.iconst 1, 1) := by decide +kernel
theorem d_M_why_97 : decode prog_14_method_45_code 97 = .ok (.aload_n 0, 1) := by decide +kernel
theorem d_M_why_98 : decode prog_14_method_45_code 98 = .ok (.getfield 93, 3) := by decide +kernel
theorem d_M_why_101 : decode prog_14_method_45_code 101 = .ok (.bipush 8, 2) := by decide +kernel
theorem d_M_why_103 : decode prog_14_method_45_code 103 = .ok (.iload_n 1, 1) := by decide +kernel
theorem d_M_why_104 : decode prog_14_method_45_code 104 = .ok (.imul, 1) := by decide +kernel
theorem d_M_why_105 : decode prog_14_method_45_code 105 = .ok (.iload 6, 2) := by decide +kernel
theorem d_M_why_107 : decode prog_14_method_45_code 107 = .ok (.iadd, 1) := by decide +kernel
theorem d_M_why_108 : decode prog_14_method_45_code 108 = .ok (.iaload, 1) := by decide +kernel
theorem d_M_why_109 : decode prog_14_method_45_code 109 = .ok (.ishl, 1) := by decide +kernel
theorem d_M_why_110 : decode prog_14_method_45_code 110 = .ok (.iand, 1) := by decide +kernel
theorem d_M_why_111 : decode prog_14_method_45_code 111 = .ok (.ior, 1) := by decide +kernel
theorem d_M_why_112 : decode prog_14_method_45_code 112 = .ok (.istore 5, 2) := by decide +kernel
theorem d_M_why_114 : decode prog_14_method_45_code 114 = .ok (.iinc 6 1, 3) := by decide +kernel
theorem d_M_why_117 : decode prog_14_method_45_code 117 = .ok (.goto (-41), 3) := by decide +kernel
theorem d_M_why_120 : decode prog_14_method_45_code 120 = .ok (.aload_n 0, 1) := by decide +kernel
theorem d_M_why_121 : decode prog_14_method_45_code 121 = .ok (.getfield 49, 3) := by decide +kernel
theorem d_M_why_124 : decode prog_14_method_45_code 124 = .ok (.iload_n 1, 1) := by decide +kernel
theorem d_M_why_125 : decode prog_14_method_45_code 125 = .ok (.baload, 1) := by decide +kernel
theorem d_M_why_126 : decode prog_14_method_45_code 126 = .ok (.ifCond .ne 6, 3) := by decide +kernel
theorem d_M_why_129 : decode prog_14_method_45_code 129 = .ok (.bipush 6, 2) := by decide +kernel
theorem d_M_why_131 : decode prog_14_method_45_code 131 = .ok (.ireturn, 1) := by decide +kernel
theorem d_M_why_132 : decode prog_14_method_45_code 132 = .ok (.aload_n 0, 1) := by decide +kernel
theorem d_M_why_133 : decode prog_14_method_45_code 133 = .ok (.iload_n 1, 1) := by decide +kernel
theorem d_M_why_134 : decode prog_14_method_45_code 134 = .ok (.iload 5, 2) := by decide +kernel
theorem d_M_why_136 : decode prog_14_method_45_code 136 = .ok (.invokevirtual 279, 3) := by decide +kernel
theorem d_M_why_139 : decode prog_14_method_45_code 139 = .ok (.istore 6, 2) := by decide +kernel
theorem d_M_why_141 : decode prog_14_method_45_code 141 = .ok (.iload 6, 2) := by decide +kernel
theorem d_M_why_143 : decode prog_14_method_45_code 143 = .ok (.ifCond .ne 8, 3) := by decide +kernel
theorem d_M_why_146 : decode prog_14_method_45_code 146 = .ok (.bipush 6, 2) := by decide +kernel
theorem d_M_why_148 : decode prog_14_method_45_code 148 = .ok (.goto 5, 3) := by decide +kernel
theorem d_M_why_151 : decode prog_14_method_45_code 151 = .ok (.iload 6, 2) := by decide +kernel
theorem d_M_why_153 : decode prog_14_method_45_code 153 = .ok (.ireturn, 1) := by decide +kernel
theorem d_M_order_0 : decode prog_14_method_46_code 0 = .ok (.aload_n 0, 1) := by decide +kernel
theorem d_M_order_1 : decode prog_14_method_46_code 1 = .ok (.iconst 0, 1) := by decide +kernel
theorem d_M_order_2 : decode prog_14_method_46_code 2 = .ok (.putfield 148, 3) := by decide +kernel
theorem d_M_order_5 : decode prog_14_method_46_code 5 = .ok (.aload_n 0, 1) := by decide +kernel
theorem d_M_order_6 : decode prog_14_method_46_code 6 = .ok (.iload_n 1, 1) := by decide +kernel
theorem d_M_order_7 : decode prog_14_method_46_code 7 = .ok (.invokevirtual 184, 3) := by decide +kernel
theorem d_M_order_10 : decode prog_14_method_46_code 10 = .ok (.ifCond .ne 5, 3) := by decide +kernel
theorem d_M_order_13 : decode prog_14_method_46_code 13 = .ok (.iconst (-1), 1) := by decide +kernel
theorem d_M_order_14 : decode prog_14_method_46_code 14 = .ok (.ireturn, 1) := by decide +kernel
theorem d_M_order_15 : decode prog_14_method_46_code 15 = .ok (.aload_n 0, 1) := by decide +kernel
theorem d_M_order_16 : decode prog_14_method_46_code 16 = .ok (.invokevirtual 295, 3) := by decide +kernel
theorem d_M_order_19 : decode prog_14_method_46_code 19 = .ok (.iconst 0, 1) := by decide +kernel
theorem d_M_order_20 : decode prog_14_method_46_code 20 = .ok (.istore_n 2, 1) := by decide +kernel
theorem d_M_order_21 : decode prog_14_method_46_code 21 = .ok (.aload_n 0, 1) := by decide +kernel
theorem d_M_order_22 : decode prog_14_method_46_code 22 = .ok (.getfield 93, 3) := by decide +kernel
theorem d_M_order_25 : decode prog_14_method_46_code 25 = .ok (.bipush 8, 2) := by decide +kernel
theorem d_M_order_27 : decode prog_14_method_46_code 27 = .ok (.aload_n 0, 1) := by decide +kernel
theorem d_M_order_28 : decode prog_14_method_46_code 28 = .ok (.getfield 16, 3) := by decide +kernel
theorem d_M_order_31 : decode prog_14_method_46_code 31 = .ok (.iload_n 1, 1) := by decide +kernel
theorem d_M_order_32 : decode prog_14_method_46_code 32 = .ok (.iaload, 1) := by decide +kernel
theorem d_M_order_33 : decode prog_14_method_46_code 33 = .ok (.imul, 1) := by decide +kernel
theorem d_M_order_34 : decode prog_14_method_46_code 34 = .ok (.iload_n 2, 1) := by decide +kernel
theorem d_M_order_35 : decode prog_14_method_46_code 35 = .ok (.iadd, 1) := by decide +kernel
theorem d_M_order_36 : decode prog_14_method_46_code 36 = .ok (.iaload, 1) := by decide +kernel
theorem d_M_order_37 : decode prog_14_method_46_code 37 = .ok (.iload_n 1, 1) := by decide +kernel
theorem d_M_order_38 : decode prog_14_method_46_code 38 = .ok (.if_icmp .eq 9, 3) := by decide +kernel
theorem d_M_order_41 : decode prog_14_method_46_code 41 = .ok (.iinc 2 1, 3) := by decide +kernel
theorem d_M_order_44 : decode prog_14_method_46_code 44 = .ok (.goto (-23), 3) := by decide +kernel
theorem d_M_order_47 : decode prog_14_method_46_code 47 = .ok (.iload_n 2, 1) := by decide +kernel
theorem d_M_order_48 : decode prog_14_method_46_code 48 = .ok (.ireturn, 1) := by decide +kernel
theorem d_M_law_0 : decode prog_14_method_47_code 0 = .ok (.aload_n 0, 1) := by decide +kernel
theorem d_M_law_1 : decode prog_14_method_47_code 1 = .ok (.iconst 0, 1) := by decide +kernel
theorem d_M_law_2 : decode prog_14_method_47_code 2 = .ok (.putfield 148, 3) := by decide +kernel
theorem d_M_law_5 : decode prog_14_method_47_code 5 = .ok (.aload_n 0, 1) := by decide +kernel
theorem d_M_law_6 : decode prog_14_method_47_code 6 = .ok (.iload_n 1, 1) := by decide +kernel
theorem d_M_law_7 : decode prog_14_method_47_code 7 = .ok (.invokevirtual 181, 3) := by decide +kernel
theorem d_M_law_10 : decode prog_14_method_47_code 10 = .ok (.ifCond .eq 12, 3) := by decide +kernel
theorem d_M_law_13 : decode prog_14_method_47_code 13 = .ok (.iload_n 2, 1) := by decide +kernel
theorem d_M_law_14 : decode prog_14_method_47_code 14 = .ok (.iconst 0, 1) := by decide +kernel
theorem d_M_law_15 : decode prog_14_method_47_code 15 = .ok (.iconst 1, 1) := by decide +kernel
theorem d_M_law_16 : decode prog_14_method_47_code 16 = .ok (.invokestatic 154, 3) := by decide +kernel
theorem d_M_law_19 : decode prog_14_method_47_code 19 = .ok (.ifCond .ne 5, 3) := by decide +kernel
theorem d_M_law_22 : decode prog_14_method_47_code 22 = .ok (.iconst (-1), 1) := by decide +kernel
theorem d_M_law_23 : decode prog_14_method_47_code 23 = .ok (.ireturn, 1) := by decide +kernel
theorem d_M_law_24 : decode prog_14_method_47_code 24 = .ok (.aload_n 0, 1) := by decide +kernel
theorem d_M_law_25 : decode prog_14_method_47_code 25 = .ok (.iload_n 1, 1) := by decide +kernel
theorem d_M_law_26 : decode prog_14_method_47_code 26 = .ok (.invokevirtual 306, 3) := by decide +kernel
theorem d_M_law_29 : decode prog_14_method_47_code 29 = .ok (.istore_n 3, 1) := by decide +kernel
theorem d_M_law_30 : decode prog_14_method_47_code 30 = .ok (.iconst 0, 1) := by decide +kernel
theorem d_M_law_31 : decode prog_14_method_47_code 31 = .ok (.istore 4, 2) := by decide +kernel
theorem d_M_law_33 : decode prog_14_method_47_code 33 = .ok (.aload_n 0, 1) := by decide +kernel
theorem d_M_law_34 : decode prog_14_method_47_code 34 = .ok (.iload_n 1, 1) := by decide +kernel
theorem d_M_law_35 : decode prog_14_method_47_code 35 = .ok (.iload 4, 2) := by decide +kernel
theorem d_M_law_37 : decode prog_14_method_47_code 37 = .ok (.invokevirtual 303, 3) := by decide +kernel
theorem d_M_law_40 : decode prog_14_method_47_code 40 = .ok (.istore 5, 2) := by decide +kernel
theorem d_M_law_42 : decode prog_14_method_47_code 42 = .ok (.iconst 0, 1) := by decide +kernel
theorem d_M_law_43 : decode prog_14_method_47_code 43 = .ok (.istore 6, 2) := by decide +kernel
theorem d_M_law_45 : decode prog_14_method_47_code 45 = .ok (.iload 6, 2) := by decide +kernel
theorem d_M_law_47 : decode prog_14_method_47_code 47 = .ok (.aload_n 0, 1) := by decide +kernel
theorem d_M_law_48 : decode prog_14_method_47_code 48 = .ok (.getfield 161, 3) := by decide +kernel
theorem d_M_law_51 : decode prog_14_method_47_code 51 = .ok (.if_icmp .ge 117, 3) := by decide +kernel
theorem d_M_law_54 : decode prog_14_method_47_code 54 = .ok (.iload_n 3, 1) := by decide +kernel
theorem d_M_law_55 : decode prog_14_method_47_code 55 = .ok (.iload 6, 2) := by decide +kernel
theorem d_M_law_57 : decode prog_14_method_47_code 57 = .ok (.invokestatic 262, 3) := by decide +kernel
theorem d_M_law_60 : decode prog_14_method_47_code 60 = .ok (.ifCond .eq 102, 3) := by decide +kernel
theorem d_M_law_63 : decode prog_14_method_47_code 63 = .ok (.iload 4, 2) := by decide +kernel
theorem d_M_law_65 : decode prog_14_method_47_code 65 = .ok (.iload 6, 2) := by decide +kernel
theorem d_M_law_67 : decode prog_14_method_47_code 67 = .ok (.invokestatic 262, 3) := by decide +kernel
theorem d_M_law_70 : decode prog_14_method_47_code 70 = .ok (.ifCond .eq 6, 3) := by decide +kernel
theorem d_M_law_73 : decode prog_14_method_47_code 73 = .ok (.goto 89, 3) := by decide +kernel
theorem d_M_law_76 : decode prog_14_method_47_code 76 = .ok (.aload_n 0, 1) := by decide +kernel
theorem d_M_law_77 : decode prog_14_method_47_code 77 = .ok (.iload_n 1, 1) := by decide +kernel
theorem d_M_law_78 : decode prog_14_method_47_code 78 = .ok (.iload 4, 2) := by decide +kernel
theorem d_M_law_80 : decode prog_14_method_47_code 80 = .ok (.iconst 1, 1) := by decide +kernel
theorem d_M_law_81 : decode prog_14_method_47_code 81 = .ok (.iload 6, 2) := by decide +kernel
theorem d_M_law_83 : decode prog_14_method_47_code 83 = .ok (.ishl, 1) := by decide +kernel
theorem d_M_law_84 : decode prog_14_method_47_code 84 = .ok (.ior, 1) := by decide +kernel
theorem d_M_law_85 : decode prog_14_method_47_code 85 = .ok (.invokevirtual 303, 3) := by decide +kernel
theorem d_M_law_88 : decode prog_14_method_47_code 88 = .ok (.istore 7, 2) := by decide +kernel
theorem d_M_law_90 : decode prog_14_method_47_code 90 = .ok (.iload 4, 2) := by decide +kernel
theorem d_M_law_92 : decode prog_14_method_47_code 92 = .ok (.iload 5, 2) := by decide +kernel
theorem d_M_law_94 : decode prog_14_method_47_code 94 = .ok (.iconst (-1), 1) := by decide +kernel
theorem d_M_law_95 : decode prog_14_method_47_code 95 = .ok (.ixor, 1) := by decide +kernel
theorem d_M_law_96 : decode prog_14_method_47_code 96 = .ok (.iand, 1) := by decide +kernel
theorem d_M_law_97 : decode prog_14_method_47_code 97 = .ok (.iload 7, 2) := by decide +kernel
theorem d_M_law_99 : decode prog_14_method_47_code 99 = .ok (.iand, 1) := by decide +kernel
theorem d_M_law_100 : decode prog_14_method_47_code 100 = .ok (.istore 8, 2) := by decide +kernel
theorem d_M_law_102 : decode prog_14_method_47_code 102 = .ok (.iload_n 2, 1) := by decide +kernel
theorem d_M_law_103 : decode prog_14_method_47_code 103 = .ok (.ifCond .ne 11, 3) := by decide +kernel
theorem d_M_law_106 : decode prog_14_method_47_code 106 = .ok (.iload 8, 2) := by decide +kernel
theorem d_M_law_108 : decode prog_14_method_47_code 108 = .ok (.ifCond .ne 22, 3) := by decide +kernel
theorem d_M_law_111 : decode prog_14_method_47_code 111 = .ok (.goto 51, 3) := by decide +kernel
theorem d_M_law_114 : decode prog_14_method_47_code 114 = .ok (.iload 7, 2) := by decide +kernel
theorem d_M_law_116 : decode prog_14_method_47_code 116 = .ok (.invokestatic 268, 3) := by decide +kernel
theorem d_M_law_119 : decode prog_14_method_47_code 119 = .ok (.iload 5, 2) := by decide +kernel
theorem d_M_law_121 : decode prog_14_method_47_code 121 = .ok (.invokestatic 268, 3) := by decide +kernel
theorem d_M_law_124 : decode prog_14_method_47_code 124 = .ok (.if_icmp .lt 6, 3) := by decide +kernel
theorem d_M_law_127 : decode prog_14_method_47_code 127 = .ok (.goto 35, 3) := by decide +kernel
theorem d_M_law_130 : decode prog_14_method_47_code 130 = .ok (.aload_n 0, 1) := by decide +kernel
theorem d_M_law_131 : decode prog_14_method_47_code 131 = .ok (.iconst 0, 1) := by decide +kernel
theorem d_M_law_132 : decode prog_14_method_47_code 132 = .ok (.putfield 170, 3) := by decide +kernel
theorem d_M_law_135 : decode prog_14_method_47_code 135 = .ok (.aload_n 0, 1) := by decide +kernel
theorem d_M_law_136 : decode prog_14_method_47_code 136 = .ok (.iload 4, 2) := by decide +kernel
theorem d_M_law_138 : decode prog_14_method_47_code 138 = .ok (.invokevirtual 309, 3) := by decide +kernel
theorem d_M_law_141 : decode prog_14_method_47_code 141 = .ok (.aload_n 0, 1) := by decide +kernel
theorem d_M_law_142 : decode prog_14_method_47_code 142 = .ok (.iload 6, 2) := by decide +kernel
theorem d_M_law_144 : decode prog_14_method_47_code 144 = .ok (.invokevirtual 309, 3) := by decide +kernel
theorem d_M_law_147 : decode prog_14_method_47_code 147 = .ok (.iload_n 2, 1) := by decide +kernel
theorem d_M_law_148 : decode prog_14_method_47_code 148 = .ok (.ifCond .ne 12, 3) := by decide +kernel
theorem d_M_law_151 : decode prog_14_method_47_code 151 = .ok (.aload_n 0, 1) := by decide +kernel
theorem d_M_law_152 : decode prog_14_method_47_code 152 = .ok (.iload 8, 2) := by decide +kernel
theorem d_M_law_154 : decode prog_14_method_47_code 154 = .ok (.invokestatic 312, 3) := by decide +kernel
theorem d_M_law_157 : decode prog_14_method_47_code 157 = .ok (.invokevirtual 309, 3) := by decide +kernel
theorem d_M_law_160 : decode prog_14_method_47_code 160 = .ok (.iconst 0, 1) := by decide +kernel
theorem d_M_law_161 : decode prog_14_method_47_code 161 = .ok (.ireturn, 1) := by decide +kernel
theorem d_M_law_162 : decode prog_14_method_47_code 162 = .ok (.iinc 6 1, 3) := by decide +kernel
theorem d_M_law_165 : decode prog_14_method_47_code 165 = .ok (.goto (-120), 3) := by decide +kernel
theorem d_M_law_168 : decode prog_14_method_47_code 168 = .ok (.iload 4, 2) := by decide +kernel
theorem d_M_law_170 : decode prog_14_method_47_code 170 = .ok (.iload_n 3, 1) := by decide +kernel
theorem d_M_law_171 : decode prog_14_method_47_code 171 = .ok (.if_icmp .ne 5, 3) := by decide +kernel
theorem d_M_law_174 : decode prog_14_method_47_code 174 = .ok (.iconst 1, 1) := by decide +kernel
theorem d_M_law_175 : decode prog_14_method_47_code 175 = .ok (.ireturn, 1) := by decide +kernel
theorem d_M_law_176 : decode prog_14_method_47_code 176 = .ok (.iload 4, 2) := by decide +kernel
theorem d_M_law_178 : decode prog_14_method_47_code 178 = .ok (.iload_n 3, 1) := by decide +kernel
theorem d_M_law_179 : decode prog_14_method_47_code 179 = .ok (.isub, 1) := by decide +kernel
theorem d_M_law_180 : decode prog_14_method_47_code 180 = .ok (.iload_n 3, 1) := by decide +kernel
theorem d_M_law_181 : decode prog_14_method_47_code 181 = .ok (.iand, 1) := by decide +kernel
theorem d_M_law_182 : decode prog_14_method_47_code 182 = .ok (.istore 4, 2) := by decide +kernel
theorem d_M_law_184 : decode prog_14_method_47_code 184 = .ok (.goto (-151), 3) := by decide +kernel
theorem d_M_bondOf_0 : decode prog_14_method_48_code 0 = .ok (.iconst 0, 1) := by decide +kernel
theorem d_M_bondOf_1 : decode prog_14_method_48_code 1 = .ok (.istore_n 3, 1) := by decide +kernel
theorem d_M_bondOf_2 : decode prog_14_method_48_code 2 = .ok (.iload_n 3, 1) := by decide +kernel
theorem d_M_bondOf_3 : decode prog_14_method_48_code 3 = .ok (.aload_n 0, 1) := by decide +kernel
theorem d_M_bondOf_4 : decode prog_14_method_48_code 4 = .ok (.getfield 161, 3) := by decide +kernel
theorem d_M_bondOf_7 : decode prog_14_method_48_code 7 = .ok (.if_icmp .ge 29, 3) := by decide +kernel
theorem d_M_bondOf_10 : decode prog_14_method_48_code 10 = .ok (.iload_n 1, 1) := by decide +kernel
theorem d_M_bondOf_11 : decode prog_14_method_48_code 11 = .ok (.iload_n 3, 1) := by decide +kernel
theorem d_M_bondOf_12 : decode prog_14_method_48_code 12 = .ok (.invokestatic 262, 3) := by decide +kernel
theorem d_M_bondOf_15 : decode prog_14_method_48_code 15 = .ok (.ifCond .eq 15, 3) := by decide +kernel
theorem d_M_bondOf_18 : decode prog_14_method_48_code 18 = .ok (.aload_n 0, 1) := by decide +kernel
theorem d_M_bondOf_19 : decode prog_14_method_48_code 19 = .ok (.getfield 13, 3) := by decide +kernel
theorem d_M_bondOf_22 : decode prog_14_method_48_code 22 = .ok (.iload_n 3, 1) := by decide +kernel
theorem d_M_bondOf_23 : decode prog_14_method_48_code 23 = .ok (.iaload, 1) := by decide +kernel
theorem d_M_bondOf_24 : decode prog_14_method_48_code 24 = .ok (.iload_n 2, 1) := by decide +kernel
theorem d_M_bondOf_25 : decode prog_14_method_48_code 25 = .ok (.if_icmp .ne 5, 3) := by decide +kernel
theorem d_M_bondOf_28 : decode prog_14_method_48_code 28 = .ok (.iload_n 3, 1) := by decide +kernel
theorem d_M_bondOf_29 : decode prog_14_method_48_code 29 = .ok (.ireturn, 1) := by decide +kernel
theorem d_M_bondOf_30 : decode prog_14_method_48_code 30 = .ok (.iinc 3 1, 3) := by decide +kernel
theorem d_M_bondOf_33 : decode prog_14_method_48_code 33 = .ok (.goto (-31), 3) := by decide +kernel
theorem d_M_bondOf_36 : decode prog_14_method_48_code 36 = .ok (.iconst (-1), 1) := by decide +kernel
theorem d_M_bondOf_37 : decode prog_14_method_48_code 37 = .ok (.ireturn, 1) := by decide +kernel
theorem d_M_rank_0 : decode prog_14_method_49_code 0 = .ok (.aload_n 0, 1) := by decide +kernel
theorem d_M_rank_1 : decode prog_14_method_49_code 1 = .ok (.iload_n 1, 1) := by decide +kernel
theorem d_M_rank_2 : decode prog_14_method_49_code 2 = .ok (.iload_n 2, 1) := by decide +kernel
theorem d_M_rank_3 : decode prog_14_method_49_code 3 = .ok (.invokevirtual 315, 3) := by decide +kernel
theorem d_M_rank_6 : decode prog_14_method_49_code 6 = .ok (.istore_n 3, 1) := by decide +kernel
theorem d_M_rank_7 : decode prog_14_method_49_code 7 = .ok (.iload_n 3, 1) := by decide +kernel
theorem d_M_rank_8 : decode prog_14_method_49_code 8 = .ok (.iconst (-1), 1) := by decide +kernel
theorem d_M_rank_9 : decode prog_14_method_49_code 9 = .ok (.if_icmp .ne 12, 3) := by decide +kernel
theorem d_M_rank_12 : decode prog_14_method_49_code 12 = .ok (.aload_n 0, 1) := by decide +kernel
theorem d_M_rank_13 : decode prog_14_method_49_code 13 = .ok (.getfield 31, 3) := by decide +kernel
theorem d_M_rank_16 : decode prog_14_method_49_code 16 = .ok (.iload_n 2, 1) := by decide +kernel
theorem d_M_rank_17 : decode prog_14_method_49_code 17 = .ok (.iaload, 1) := by decide +kernel
theorem d_M_rank_18 : decode prog_14_method_49_code 18 = .ok (.goto 8, 3) := by decide +kernel
theorem d_M_rank_21 : decode prog_14_method_49_code 21 = .ok (.aload_n 0, 1) := by decide +kernel
theorem d_M_rank_22 : decode prog_14_method_49_code 22 = .ok (.iload_n 3, 1) := by decide +kernel
theorem d_M_rank_23 : decode prog_14_method_49_code 23 = .ok (.invokevirtual 187, 3) := by decide +kernel
theorem d_M_rank_26 : decode prog_14_method_49_code 26 = .ok (.ireturn, 1) := by decide +kernel
theorem d_M_rankOfCouple_0 : decode prog_14_method_50_code 0 = .ok (.aload_n 0, 1) := by decide +kernel
theorem d_M_rankOfCouple_1 : decode prog_14_method_50_code 1 = .ok (.iload_n 1, 1) := by decide +kernel
theorem d_M_rankOfCouple_2 : decode prog_14_method_50_code 2 = .ok (.aload_n 0, 1) := by decide +kernel
theorem d_M_rankOfCouple_3 : decode prog_14_method_50_code 3 = .ok (.getfield 34, 3) := by decide +kernel
theorem d_M_rankOfCouple_6 : decode prog_14_method_50_code 6 = .ok (.iload_n 2, 1) := by decide +kernel
theorem d_M_rankOfCouple_7 : decode prog_14_method_50_code 7 = .ok (.iaload, 1) := by decide +kernel
theorem d_M_rankOfCouple_8 : decode prog_14_method_50_code 8 = .ok (.invokevirtual 315, 3) := by decide +kernel
theorem d_M_rankOfCouple_11 : decode prog_14_method_50_code 11 = .ok (.istore_n 3, 1) := by decide +kernel
theorem d_M_rankOfCouple_12 : decode prog_14_method_50_code 12 = .ok (.aload_n 0, 1) := by decide +kernel
theorem d_M_rankOfCouple_13 : decode prog_14_method_50_code 13 = .ok (.iload_n 1, 1) := by decide +kernel
theorem d_M_rankOfCouple_14 : decode prog_14_method_50_code 14 = .ok (.aload_n 0, 1) := by decide +kernel
theorem d_M_rankOfCouple_15 : decode prog_14_method_50_code 15 = .ok (.getfield 37, 3) := by decide +kernel
theorem d_M_rankOfCouple_18 : decode prog_14_method_50_code 18 = .ok (.iload_n 2, 1) := by decide +kernel
theorem d_M_rankOfCouple_19 : decode prog_14_method_50_code 19 = .ok (.iaload, 1) := by decide +kernel
theorem d_M_rankOfCouple_20 : decode prog_14_method_50_code 20 = .ok (.invokevirtual 315, 3) := by decide +kernel
theorem d_M_rankOfCouple_23 : decode prog_14_method_50_code 23 = .ok (.istore 4, 2) := by decide +kernel
theorem d_M_rankOfCouple_25 : decode prog_14_method_50_code 25 = .ok (.iload_n 3, 1) := by decide +kernel
theorem d_M_rankOfCouple_26 : decode prog_14_method_50_code 26 = .ok (.iconst (-1), 1) := by decide +kernel
theorem d_M_rankOfCouple_27 : decode prog_14_method_50_code 27 = .ok (.if_icmp .ne 16, 3) := by decide +kernel
theorem d_M_rankOfCouple_30 : decode prog_14_method_50_code 30 = .ok (.iload 4, 2) := by decide +kernel
theorem d_M_rankOfCouple_32 : decode prog_14_method_50_code 32 = .ok (.iconst (-1), 1) := by decide +kernel
theorem d_M_rankOfCouple_33 : decode prog_14_method_50_code 33 = .ok (.if_icmp .ne 10, 3) := by decide +kernel
theorem d_M_rankOfCouple_36 : decode prog_14_method_50_code 36 = .ok (.aload_n 0, 1) := by decide +kernel
theorem d_M_rankOfCouple_37 : decode prog_14_method_50_code 37 = .ok (.getfield 46, 3) := by decide +kernel
theorem d_M_rankOfCouple_40 : decode prog_14_method_50_code 40 = .ok (.iload_n 2, 1) := by decide +kernel
theorem d_M_rankOfCouple_41 : decode prog_14_method_50_code 41 = .ok (.iaload, 1) := by decide +kernel
theorem d_M_rankOfCouple_42 : decode prog_14_method_50_code 42 = .ok (.ireturn, 1) := by decide +kernel
theorem d_M_rankOfCouple_43 : decode prog_14_method_50_code 43 = .ok (.iconst 0, 1) := by decide +kernel
theorem d_M_rankOfCouple_44 : decode prog_14_method_50_code 44 = .ok (.istore 5, 2) := by decide +kernel
theorem d_M_rankOfCouple_46 : decode prog_14_method_50_code 46 = .ok (.iload 5, 2) := by decide +kernel
theorem d_M_rankOfCouple_48 : decode prog_14_method_50_code 48 = .ok (.aload_n 0, 1) := by decide +kernel
theorem d_M_rankOfCouple_49 : decode prog_14_method_50_code 49 = .ok (.getfield 46, 3) := by decide +kernel
theorem d_M_rankOfCouple_52 : decode prog_14_method_50_code 52 = .ok (.iload_n 2, 1) := by decide +kernel
theorem d_M_rankOfCouple_53 : decode prog_14_method_50_code 53 = .ok (.iaload, 1) := by decide +kernel
theorem d_M_rankOfCouple_54 : decode prog_14_method_50_code 54 = .ok (.if_icmp .ge 45, 3) := by decide +kernel
theorem d_M_rankOfCouple_57 : decode prog_14_method_50_code 57 = .ok (.aload_n 0, 1) := by decide +kernel
theorem d_M_rankOfCouple_58 : decode prog_14_method_50_code 58 = .ok (.getfield 40, 3) := by decide +kernel
theorem d_M_rankOfCouple_61 : decode prog_14_method_50_code 61 = .ok (.bipush 8, 2) := by decide +kernel
theorem d_M_rankOfCouple_63 : decode prog_14_method_50_code 63 = .ok (.iload_n 2, 1) := by decide +kernel
theorem d_M_rankOfCouple_64 : decode prog_14_method_50_code 64 = .ok (.imul, 1) := by decide +kernel
theorem d_M_rankOfCouple_65 : decode prog_14_method_50_code 65 = .ok (.iload 5, 2) := by decide +kernel
theorem d_M_rankOfCouple_67 : decode prog_14_method_50_code 67 = .ok (.iadd, 1) := by decide +kernel
theorem d_M_rankOfCouple_68 : decode prog_14_method_50_code 68 = .ok (.iaload, 1) := by decide +kernel
theorem d_M_rankOfCouple_69 : decode prog_14_method_50_code 69 = .ok (.iload_n 3, 1) := by decide +kernel
theorem d_M_rankOfCouple_70 : decode prog_14_method_50_code 70 = .ok (.if_icmp .ne 23, 3) := by decide +kernel
theorem d_M_rankOfCouple_73 : decode prog_14_method_50_code 73 = .ok (.aload_n 0, 1) := by decide +kernel
theorem d_M_rankOfCouple_74 : decode prog_14_method_50_code 74 = .ok (.getfield 43, 3) := by decide +kernel
theorem d_M_rankOfCouple_77 : decode prog_14_method_50_code 77 = .ok (.bipush 8, 2) := by decide +kernel
theorem d_M_rankOfCouple_79 : decode prog_14_method_50_code 79 = .ok (.iload_n 2, 1) := by decide +kernel
theorem d_M_rankOfCouple_80 : decode prog_14_method_50_code 80 = .ok (.imul, 1) := by decide +kernel
theorem d_M_rankOfCouple_81 : decode prog_14_method_50_code 81 = .ok (.iload 5, 2) := by decide +kernel
theorem d_M_rankOfCouple_83 : decode prog_14_method_50_code 83 = .ok (.iadd, 1) := by decide +kernel
theorem d_M_rankOfCouple_84 : decode prog_14_method_50_code 84 = .ok (.iaload, 1) := by decide +kernel
theorem d_M_rankOfCouple_85 : decode prog_14_method_50_code 85 = .ok (.iload 4, 2) := by decide +kernel
theorem d_M_rankOfCouple_87 : decode prog_14_method_50_code 87 = .ok (.if_icmp .ne 6, 3) := by decide +kernel
theorem d_M_rankOfCouple_90 : decode prog_14_method_50_code 90 = .ok (.iload 5, 2) := by decide +kernel
theorem d_M_rankOfCouple_92 : decode prog_14_method_50_code 92 = .ok (.ireturn, 1) := by decide +kernel
theorem d_M_rankOfCouple_93 : decode prog_14_method_50_code 93 = .ok (.iinc 5 1, 3) := by decide +kernel
theorem d_M_rankOfCouple_96 : decode prog_14_method_50_code 96 = .ok (.goto (-50), 3) := by decide +kernel
theorem d_M_rankOfCouple_99 : decode prog_14_method_50_code 99 = .ok (.iconst (-1), 1) := by decide +kernel
theorem d_M_rankOfCouple_100 : decode prog_14_method_50_code 100 = .ok (.ireturn, 1) := by decide +kernel
theorem d_M_isFree_0 : decode prog_14_method_51_code 0 = .ok (.iconst 0, 1) := by decide +kernel
theorem d_M_isFree_1 : decode prog_14_method_51_code 1 = .ok (.istore_n 2, 1) := by decide +kernel
theorem d_M_isFree_2 : decode prog_14_method_51_code 2 = .ok (.iload_n 2, 1) := by decide +kernel
theorem d_M_isFree_3 : decode prog_14_method_51_code 3 = .ok (.aload_n 0, 1) := by decide +kernel
theorem d_M_isFree_4 : decode prog_14_method_51_code 4 = .ok (.getfield 151, 3) := by decide +kernel
theorem d_M_isFree_7 : decode prog_14_method_51_code 7 = .ok (.if_icmp .ge 30, 3) := by decide +kernel
theorem d_M_isFree_10 : decode prog_14_method_51_code 10 = .ok (.aload_n 0, 1) := by decide +kernel
theorem d_M_isFree_11 : decode prog_14_method_51_code 11 = .ok (.iload_n 2, 1) := by decide +kernel
theorem d_M_isFree_12 : decode prog_14_method_51_code 12 = .ok (.invokevirtual 193, 3) := by decide +kernel
theorem d_M_isFree_15 : decode prog_14_method_51_code 15 = .ok (.iconst (-1), 1) := by decide +kernel
theorem d_M_isFree_16 : decode prog_14_method_51_code 16 = .ok (.if_icmp .ne 15, 3) := by decide +kernel
theorem d_M_isFree_19 : decode prog_14_method_51_code 19 = .ok (.aload_n 0, 1) := by decide +kernel
theorem d_M_isFree_20 : decode prog_14_method_51_code 20 = .ok (.iload_n 1, 1) := by decide +kernel
theorem d_M_isFree_21 : decode prog_14_method_51_code 21 = .ok (.iload_n 2, 1) := by decide +kernel
theorem d_M_isFree_22 : decode prog_14_method_51_code 22 = .ok (.invokevirtual 318, 3) := by decide +kernel
theorem d_M_isFree_25 : decode prog_14_method_51_code 25 = .ok (.iconst (-1), 1) := by decide +kernel
theorem d_M_isFree_26 : decode prog_14_method_51_code 26 = .ok (.if_icmp .ne 5, 3) := by decide +kernel
theorem d_M_isFree_29 : decode prog_14_method_51_code 29 = .ok (.iconst 0, 1) := by decide +kernel
theorem d_M_isFree_30 : decode prog_14_method_51_code 30 = .ok (.ireturn, 1) := by decide +kernel
theorem d_M_isFree_31 : decode prog_14_method_51_code 31 = .ok (.iinc 2 1, 3) := by decide +kernel
theorem d_M_isFree_34 : decode prog_14_method_51_code 34 = .ok (.goto (-32), 3) := by decide +kernel
theorem d_M_isFree_37 : decode prog_14_method_51_code 37 = .ok (.iconst 0, 1) := by decide +kernel
theorem d_M_isFree_38 : decode prog_14_method_51_code 38 = .ok (.istore_n 2, 1) := by decide +kernel
theorem d_M_isFree_39 : decode prog_14_method_51_code 39 = .ok (.iload_n 2, 1) := by decide +kernel
theorem d_M_isFree_40 : decode prog_14_method_51_code 40 = .ok (.aload_n 0, 1) := by decide +kernel
theorem d_M_isFree_41 : decode prog_14_method_51_code 41 = .ok (.getfield 190, 3) := by decide +kernel
theorem d_M_isFree_44 : decode prog_14_method_51_code 44 = .ok (.if_icmp .ge 21, 3) := by decide +kernel
theorem d_M_isFree_47 : decode prog_14_method_51_code 47 = .ok (.aload_n 0, 1) := by decide +kernel
theorem d_M_isFree_48 : decode prog_14_method_51_code 48 = .ok (.iload_n 1, 1) := by decide +kernel
theorem d_M_isFree_49 : decode prog_14_method_51_code 49 = .ok (.iload_n 2, 1) := by decide +kernel
theorem d_M_isFree_50 : decode prog_14_method_51_code 50 = .ok (.invokevirtual 321, 3) := by decide +kernel
theorem d_M_isFree_53 : decode prog_14_method_51_code 53 = .ok (.iconst (-1), 1) := by decide +kernel
theorem d_M_isFree_54 : decode prog_14_method_51_code 54 = .ok (.if_icmp .ne 5, 3) := by decide +kernel
theorem d_M_isFree_57 : decode prog_14_method_51_code 57 = .ok (.iconst 0, 1) := by decide +kernel
theorem d_M_isFree_58 : decode prog_14_method_51_code 58 = .ok (.ireturn, 1) := by decide +kernel
theorem d_M_isFree_59 : decode prog_14_method_51_code 59 = .ok (.iinc 2 1, 3) := by decide +kernel
theorem d_M_isFree_62 : decode prog_14_method_51_code 62 = .ok (.goto (-23), 3) := by decide +kernel
theorem d_M_isFree_65 : decode prog_14_method_51_code 65 = .ok (.iconst 0, 1) := by decide +kernel
theorem d_M_isFree_66 : decode prog_14_method_51_code 66 = .ok (.istore_n 2, 1) := by decide +kernel
theorem d_M_isFree_67 : decode prog_14_method_51_code 67 = .ok (.iload_n 2, 1) := by decide +kernel
theorem d_M_isFree_68 : decode prog_14_method_51_code 68 = .ok (.aload_n 0, 1) := by decide +kernel
theorem d_M_isFree_69 : decode prog_14_method_51_code 69 = .ok (.getfield 158, 3) := by decide +kernel
theorem d_M_isFree_72 : decode prog_14_method_51_code 72 = .ok (.if_icmp .ge 29, 3) := by decide +kernel
theorem d_M_isFree_75 : decode prog_14_method_51_code 75 = .ok (.iload_n 1, 1) := by decide +kernel
theorem d_M_isFree_76 : decode prog_14_method_51_code 76 = .ok (.aload_n 0, 1) := by decide +kernel
theorem d_M_isFree_77 : decode prog_14_method_51_code 77 = .ok (.iload_n 2, 1) := by decide +kernel
theorem d_M_isFree_78 : decode prog_14_method_51_code 78 = .ok (.invokevirtual 306, 3) := by decide +kernel
theorem d_M_isFree_81 : decode prog_14_method_51_code 81 = .ok (.iand, 1) := by decide +kernel
theorem d_M_isFree_82 : decode prog_14_method_51_code 82 = .ok (.istore_n 3, 1) := by decide +kernel
theorem d_M_isFree_83 : decode prog_14_method_51_code 83 = .ok (.aload_n 0, 1) := by decide +kernel
theorem d_M_isFree_84 : decode prog_14_method_51_code 84 = .ok (.iload_n 2, 1) := by decide +kernel
theorem d_M_isFree_85 : decode prog_14_method_51_code 85 = .ok (.iload_n 3, 1) := by decide +kernel
theorem d_M_isFree_86 : decode prog_14_method_51_code 86 = .ok (.invokevirtual 303, 3) := by decide +kernel
theorem d_M_isFree_89 : decode prog_14_method_51_code 89 = .ok (.iload_n 3, 1) := by decide +kernel
theorem d_M_isFree_90 : decode prog_14_method_51_code 90 = .ok (.if_icmp .eq 5, 3) := by decide +kernel
theorem d_M_isFree_93 : decode prog_14_method_51_code 93 = .ok (.iconst 0, 1) := by decide +kernel
theorem d_M_isFree_94 : decode prog_14_method_51_code 94 = .ok (.ireturn, 1) := by decide +kernel
theorem d_M_isFree_95 : decode prog_14_method_51_code 95 = .ok (.iinc 2 1, 3) := by decide +kernel
theorem d_M_isFree_98 : decode prog_14_method_51_code 98 = .ok (.goto (-31), 3) := by decide +kernel
theorem d_M_isFree_101 : decode prog_14_method_51_code 101 = .ok (.iconst 1, 1) := by decide +kernel
theorem d_M_isFree_102 : decode prog_14_method_51_code 102 = .ok (.ireturn, 1) := by decide +kernel
theorem d_M_wanted_0 : decode prog_14_method_52_code 0 = .ok (.iconst 0, 1) := by decide +kernel
theorem d_M_wanted_1 : decode prog_14_method_52_code 1 = .ok (.istore_n 2, 1) := by decide +kernel
theorem d_M_wanted_2 : decode prog_14_method_52_code 2 = .ok (.iconst 0, 1) := by decide +kernel
theorem d_M_wanted_3 : decode prog_14_method_52_code 3 = .ok (.istore_n 3, 1) := by decide +kernel
theorem d_M_wanted_4 : decode prog_14_method_52_code 4 = .ok (.iload_n 3, 1) := by decide +kernel
theorem d_M_wanted_5 : decode prog_14_method_52_code 5 = .ok (.aload_n 0, 1) := by decide +kernel
theorem d_M_wanted_6 : decode prog_14_method_52_code 6 = .ok (.getfield 161, 3) := by decide +kernel
theorem d_M_wanted_9 : decode prog_14_method_52_code 9 = .ok (.if_icmp .ge 57, 3) := by decide +kernel
theorem d_M_wanted_12 : decode prog_14_method_52_code 12 = .ok (.aload_n 0, 1) := by decide +kernel
theorem d_M_wanted_13 : decode prog_14_method_52_code 13 = .ok (.aload_n 0, 1) := by decide +kernel
theorem d_M_wanted_14 : decode prog_14_method_52_code 14 = .ok (.getfield 13, 3) := by decide +kernel
theorem d_M_wanted_17 : decode prog_14_method_52_code 17 = .ok (.iload_n 3, 1) := by decide +kernel
theorem d_M_wanted_18 : decode prog_14_method_52_code 18 = .ok (.iaload, 1) := by decide +kernel
theorem d_M_wanted_19 : decode prog_14_method_52_code 19 = .ok (.invokevirtual 193, 3) := by decide +kernel
theorem d_M_wanted_22 : decode prog_14_method_52_code 22 = .ok (.iconst (-1), 1) := by decide +kernel
theorem d_M_wanted_23 : decode prog_14_method_52_code 23 = .ok (.if_icmp .ne 37, 3) := by decide +kernel
theorem d_M_wanted_26 : decode prog_14_method_52_code 26 = .ok (.aload_n 0, 1) := by decide +kernel
theorem d_M_wanted_27 : decode prog_14_method_52_code 27 = .ok (.iload_n 3, 1) := by decide +kernel
theorem d_M_wanted_28 : decode prog_14_method_52_code 28 = .ok (.invokevirtual 187, 3) := by decide +kernel
theorem d_M_wanted_31 : decode prog_14_method_52_code 31 = .ok (.iconst (-1), 1) := by decide +kernel
theorem d_M_wanted_32 : decode prog_14_method_52_code 32 = .ok (.if_icmp .eq 28, 3) := by decide +kernel
theorem d_M_wanted_35 : decode prog_14_method_52_code 35 = .ok (.aload_n 0, 1) := by decide +kernel
theorem d_M_wanted_36 : decode prog_14_method_52_code 36 = .ok (.iload_n 3, 1) := by decide +kernel
theorem d_M_wanted_37 : decode prog_14_method_52_code 37 = .ok (.invokevirtual 187, 3) := by decide +kernel
theorem d_M_wanted_40 : decode prog_14_method_52_code 40 = .ok (.aload_n 0, 1) := by decide +kernel
theorem d_M_wanted_41 : decode prog_14_method_52_code 41 = .ok (.iload_n 1, 1) := by decide +kernel
theorem d_M_wanted_42 : decode prog_14_method_52_code 42 = .ok (.aload_n 0, 1) := by decide +kernel
theorem d_M_wanted_43 : decode prog_14_method_52_code 43 = .ok (.getfield 13, 3) := by decide +kernel
theorem d_M_wanted_46 : decode prog_14_method_52_code 46 = .ok (.iload_n 3, 1) := by decide +kernel
theorem d_M_wanted_47 : decode prog_14_method_52_code 47 = .ok (.iaload, 1) := by decide +kernel
theorem d_M_wanted_48 : decode prog_14_method_52_code 48 = .ok (.invokevirtual 318, 3) := by decide +kernel
theorem d_M_wanted_51 : decode prog_14_method_52_code 51 = .ok (.if_icmp .ge 9, 3) := by decide +kernel
theorem d_M_wanted_54 : decode prog_14_method_52_code 54 = .ok (.iload_n 2, 1) := by decide +kernel
theorem d_M_wanted_55 : decode prog_14_method_52_code 55 = .ok (.iconst 1, 1) := by decide +kernel
theorem d_M_wanted_56 : decode prog_14_method_52_code 56 = .ok (.iload_n 3, 1) := by decide +kernel
theorem d_M_wanted_57 : decode prog_14_method_52_code 57 = .ok (.ishl, 1) := by decide +kernel
theorem d_M_wanted_58 : decode prog_14_method_52_code 58 = .ok (.ior, 1) := by decide +kernel
theorem d_M_wanted_59 : decode prog_14_method_52_code 59 = .ok (.istore_n 2, 1) := by decide +kernel
theorem d_M_wanted_60 : decode prog_14_method_52_code 60 = .ok (.iinc 3 1, 3) := by decide +kernel
theorem d_M_wanted_63 : decode prog_14_method_52_code 63 = .ok (.goto (-59), 3) := by decide +kernel
theorem d_M_wanted_66 : decode prog_14_method_52_code 66 = .ok (.iload_n 2, 1) := by decide +kernel
theorem d_M_wanted_67 : decode prog_14_method_52_code 67 = .ok (.ireturn, 1) := by decide +kernel
theorem d_M_breaking_0 : decode prog_14_method_53_code 0 = .ok (.iload_n 1, 1) := by decide +kernel
theorem d_M_breaking_1 : decode prog_14_method_53_code 1 = .ok (.aload_n 0, 1) := by decide +kernel
theorem d_M_breaking_2 : decode prog_14_method_53_code 2 = .ok (.iload_n 2, 1) := by decide +kernel
theorem d_M_breaking_3 : decode prog_14_method_53_code 3 = .ok (.invokevirtual 306, 3) := by decide +kernel
theorem d_M_breaking_6 : decode prog_14_method_53_code 6 = .ok (.iand, 1) := by decide +kernel
theorem d_M_breaking_7 : decode prog_14_method_53_code 7 = .ok (.istore 4, 2) := by decide +kernel
theorem d_M_breaking_9 : decode prog_14_method_53_code 9 = .ok (.iload 4, 2) := by decide +kernel
theorem d_M_breaking_11 : decode prog_14_method_53_code 11 = .ok (.iload_n 3, 1) := by decide +kernel
theorem d_M_breaking_12 : decode prog_14_method_53_code 12 = .ok (.aload_n 0, 1) := by decide +kernel
theorem d_M_breaking_13 : decode prog_14_method_53_code 13 = .ok (.iload_n 2, 1) := by decide +kernel
theorem d_M_breaking_14 : decode prog_14_method_53_code 14 = .ok (.invokevirtual 306, 3) := by decide +kernel
theorem d_M_breaking_17 : decode prog_14_method_53_code 17 = .ok (.iand, 1) := by decide +kernel
theorem d_M_breaking_18 : decode prog_14_method_53_code 18 = .ok (.ior, 1) := by decide +kernel
theorem d_M_breaking_19 : decode prog_14_method_53_code 19 = .ok (.istore 5, 2) := by decide +kernel
theorem d_M_breaking_21 : decode prog_14_method_53_code 21 = .ok (.iconst 0, 1) := by decide +kernel
theorem d_M_breaking_22 : decode prog_14_method_53_code 22 = .ok (.istore 6, 2) := by decide +kernel
theorem d_M_breaking_24 : decode prog_14_method_53_code 24 = .ok (.iload 6, 2) := by decide +kernel
theorem d_M_breaking_26 : decode prog_14_method_53_code 26 = .ok (.iload 4, 2) := by decide +kernel
theorem d_M_breaking_28 : decode prog_14_method_53_code 28 = .ok (.if_icmp .eq 21, 3) := by decide +kernel
theorem d_M_breaking_31 : decode prog_14_method_53_code 31 = .ok (.aload_n 0, 1) := by decide +kernel
theorem d_M_breaking_32 : decode prog_14_method_53_code 32 = .ok (.iload_n 2, 1) := by decide +kernel
theorem d_M_breaking_33 : decode prog_14_method_53_code 33 = .ok (.iload 4, 2) := by decide +kernel
theorem d_M_breaking_35 : decode prog_14_method_53_code 35 = .ok (.iload 6, 2) := by decide +kernel
theorem d_M_breaking_37 : decode prog_14_method_53_code 37 = .ok (.ior, 1) := by decide +kernel
theorem d_M_breaking_38 : decode prog_14_method_53_code 38 = .ok (.invokevirtual 303, 3) := by decide +kernel
theorem d_M_breaking_41 : decode prog_14_method_53_code 41 = .ok (.iload 6, 2) := by decide +kernel
theorem d_M_breaking_43 : decode prog_14_method_53_code 43 = .ok (.if_icmp .ne 6, 3) := by decide +kernel
theorem d_M_breaking_46 : decode prog_14_method_53_code 46 = .ok (.iload 6, 2) := by decide +kernel
theorem d_M_breaking_48 : decode prog_14_method_53_code 48 = .ok (.ireturn, 1) := by decide +kernel
theorem d_M_breaking_49 : decode prog_14_method_53_code 49 = .ok (.iload 6, 2) := by decide +kernel
theorem d_M_breaking_51 : decode prog_14_method_53_code 51 = .ok (.iload 5, 2) := by decide +kernel
theorem d_M_breaking_53 : decode prog_14_method_53_code 53 = .ok (.if_icmp .ne 5, 3) := by decide +kernel
theorem d_M_breaking_56 : decode prog_14_method_53_code 56 = .ok (.iconst (-1), 1) := by decide +kernel
theorem d_M_breaking_57 : decode prog_14_method_53_code 57 = .ok (.ireturn, 1) := by decide +kernel
theorem d_M_breaking_58 : decode prog_14_method_53_code 58 = .ok (.iload 6, 2) := by decide +kernel
theorem d_M_breaking_60 : decode prog_14_method_53_code 60 = .ok (.iload 5, 2) := by decide +kernel
theorem d_M_breaking_62 : decode prog_14_method_53_code 62 = .ok (.isub, 1) := by decide +kernel
theorem d_M_breaking_63 : decode prog_14_method_53_code 63 = .ok (.iload 5, 2) := by decide +kernel
theorem d_M_breaking_65 : decode prog_14_method_53_code 65 = .ok (.iand, 1) := by decide +kernel
theorem d_M_breaking_66 : decode prog_14_method_53_code 66 = .ok (.istore 6, 2) := by decide +kernel
theorem d_M_breaking_68 : decode prog_14_method_53_code 68 = .ok (.goto (-44), 3) := by decide +kernel
theorem d_M_breakingPair_0 : decode prog_14_method_54_code 0 = .ok (.iload_n 1, 1) := by decide +kernel
theorem d_M_breakingPair_1 : decode prog_14_method_54_code 1 = .ok (.istore_n 3, 1) := by decide +kernel
theorem d_M_breakingPair_2 : decode prog_14_method_54_code 2 = .ok (.iconst 0, 1) := by decide +kernel
theorem d_M_breakingPair_3 : decode prog_14_method_54_code 3 = .ok (.istore 4, 2) := by decide +kernel
theorem d_M_breakingPair_5 : decode prog_14_method_54_code 5 = .ok (.iload 4, 2) := by decide +kernel
theorem d_M_breakingPair_7 : decode prog_14_method_54_code 7 = .ok (.aload_n 0, 1) := by decide +kernel
theorem d_M_breakingPair_8 : decode prog_14_method_54_code 8 = .ok (.getfield 161, 3) := by decide +kernel
theorem d_M_breakingPair_11 : decode prog_14_method_54_code 11 = .ok (.if_icmp .ge 33, 3) := by decide +kernel
theorem d_M_breakingPair_14 : decode prog_14_method_54_code 14 = .ok (.aload_n 0, 1) := by decide +kernel
theorem d_M_breakingPair_15 : decode prog_14_method_54_code 15 = .ok (.aload_n 0, 1) := by decide +kernel
theorem d_M_breakingPair_16 : decode prog_14_method_54_code 16 = .ok (.getfield 13, 3) := by decide +kernel
theorem d_M_breakingPair_19 : decode prog_14_method_54_code 19 = .ok (.iload 4, 2) := by decide +kernel
theorem d_M_breakingPair_21 : decode prog_14_method_54_code 21 = .ok (.iaload, 1) := by decide +kernel
theorem d_M_breakingPair_22 : decode prog_14_method_54_code 22 = .ok (.invokevirtual 193, 3) := by decide +kernel
theorem d_M_breakingPair_25 : decode prog_14_method_54_code 25 = .ok (.iload_n 2, 1) := by decide +kernel
theorem d_M_breakingPair_26 : decode prog_14_method_54_code 26 = .ok (.if_icmp .ne 12, 3) := by decide +kernel
theorem d_M_breakingPair_29 : decode prog_14_method_54_code 29 = .ok (.iload_n 3, 1) := by decide +kernel
theorem d_M_breakingPair_30 : decode prog_14_method_54_code 30 = .ok (.iconst 1, 1) := by decide +kernel
theorem d_M_breakingPair_31 : decode prog_14_method_54_code 31 = .ok (.iload 4, 2) := by decide +kernel
theorem d_M_breakingPair_33 : decode prog_14_method_54_code 33 = .ok (.ishl, 1) := by decide +kernel
