theorem dL_courses_0 : decode cL_courses 0 = .ok (.aload_n 0, 1) := by decide +kernel
theorem dL_courses_1 : decode cL_courses 1 = .ok (.invokevirtual 183, 3) := by decide +kernel
theorem dL_courses_4 : decode cL_courses 4 = .ok (.ifCond .ne 19, 3) := by decide +kernel
theorem dL_courses_7 : decode cL_courses 7 = .ok (.aload_n 0, 1) := by decide +kernel
theorem dL_courses_8 : decode cL_courses 8 = .ok (.iconst 0, 1) := by decide +kernel
theorem dL_courses_9 : decode cL_courses 9 = .ok (.iconst 0, 1) := by decide +kernel
theorem dL_courses_10 : decode cL_courses 10 = .ok (.invokestatic 296, 3) := by decide +kernel
theorem dL_courses_13 : decode cL_courses 13 = .ok (.iconst (-1), 1) := by decide +kernel
theorem dL_courses_14 : decode cL_courses 14 = .ok (.if_icmp .ne 7, 3) := by decide +kernel
theorem dL_courses_17 : decode cL_courses 17 = .ok (.iconst 1, 1) := by decide +kernel
theorem dL_courses_18 : decode cL_courses 18 = .ok (.goto 4, 3) := by decide +kernel
theorem dL_courses_21 : decode cL_courses 21 = .ok (.iconst 0, 1) := by decide +kernel
theorem dL_courses_22 : decode cL_courses 22 = .ok (.ireturn, 1) := by decide +kernel
theorem dL_courses_23 : decode cL_courses 23 = .ok (.aload_n 1, 1) := by decide +kernel
theorem dL_courses_24 : decode cL_courses 24 = .ok (.aload_n 0, 1) := by decide +kernel
theorem dL_courses_25 : decode cL_courses 25 = .ok (.invokevirtual 183, 3) := by decide +kernel
theorem dL_courses_28 : decode cL_courses 28 = .ok (.invokevirtual 168, 3) := by decide +kernel
theorem dL_courses_31 : decode cL_courses 31 = .ok (.istore_n 2, 1) := by decide +kernel
theorem dL_courses_32 : decode cL_courses 32 = .ok (.sipush 360, 3) := by decide +kernel
theorem dL_courses_35 : decode cL_courses 35 = .ok (.newarray .boolean, 2) := by decide +kernel
theorem dL_courses_37 : decode cL_courses 37 = .ok (.astore_n 3, 1) := by decide +kernel
theorem dL_courses_38 : decode cL_courses 38 = .ok (.sipush 360, 3) := by decide +kernel
theorem dL_courses_41 : decode cL_courses 41 = .ok (.newarray .int, 2) := by decide +kernel
theorem dL_courses_43 : decode cL_courses 43 = .ok (.astore 4, 2) := by decide +kernel
theorem dL_courses_45 : decode cL_courses 45 = .ok (.sipush 360, 3) := by decide +kernel
theorem dL_courses_48 : decode cL_courses 48 = .ok (.istore 5, 2) := by decide +kernel
theorem dL_courses_50 : decode cL_courses 50 = .ok (.iconst 0, 1) := by decide +kernel
theorem dL_courses_51 : decode cL_courses 51 = .ok (.istore 6, 2) := by decide +kernel
theorem dL_courses_53 : decode cL_courses 53 = .ok (.iload 6, 2) := by decide +kernel
theorem dL_courses_55 : decode cL_courses 55 = .ok (.sipush 360, 3) := by decide +kernel
theorem dL_courses_58 : decode cL_courses 58 = .ok (.if_icmp .ge 163, 3) := by decide +kernel
theorem dL_courses_61 : decode cL_courses 61 = .ok (.aload_n 0, 1) := by decide +kernel
theorem dL_courses_62 : decode cL_courses 62 = .ok (.iload_n 2, 1) := by decide +kernel
theorem dL_courses_63 : decode cL_courses 63 = .ok (.iload 6, 2) := by decide +kernel
theorem dL_courses_65 : decode cL_courses 65 = .ok (.bipush 45, 2) := by decide +kernel
theorem dL_courses_67 : decode cL_courses 67 = .ok (.idiv, 1) := by decide +kernel
theorem dL_courses_68 : decode cL_courses 68 = .ok (.bipush 45, 2) := by decide +kernel
theorem dL_courses_70 : decode cL_courses 70 = .ok (.imul, 1) := by decide +kernel
theorem dL_courses_71 : decode cL_courses 71 = .ok (.invokestatic 263, 3) := by decide +kernel
theorem dL_courses_74 : decode cL_courses 74 = .ok (.bipush 100, 2) := by decide +kernel
theorem dL_courses_76 : decode cL_courses 76 = .ok (.isub, 1) := by decide +kernel
theorem dL_courses_77 : decode cL_courses 77 = .ok (.istore 7, 2) := by decide +kernel
theorem dL_courses_79 : decode cL_courses 79 = .ok (.aload_n 0, 1) := by decide +kernel
theorem dL_courses_80 : decode cL_courses 80 = .ok (.iload_n 2, 1) := by decide +kernel
theorem dL_courses_81 : decode cL_courses 81 = .ok (.iload 6, 2) := by decide +kernel
theorem dL_courses_83 : decode cL_courses 83 = .ok (.bipush 45, 2) := by decide +kernel
theorem dL_courses_85 : decode cL_courses 85 = .ok (.idiv, 1) := by decide +kernel
theorem dL_courses_86 : decode cL_courses 86 = .ok (.iconst 1, 1) := by decide +kernel
theorem dL_courses_87 : decode cL_courses 87 = .ok (.iadd, 1) := by decide +kernel
theorem dL_courses_88 : decode cL_courses 88 = .ok (.bipush 8, 2) := by decide +kernel
theorem dL_courses_90 : decode cL_courses 90 = .ok (.irem, 1) := by decide +kernel
theorem dL_courses_91 : decode cL_courses 91 = .ok (.bipush 45, 2) := by decide +kernel
theorem dL_courses_93 : decode cL_courses 93 = .ok (.imul, 1) := by decide +kernel
theorem dL_courses_94 : decode cL_courses 94 = .ok (.invokestatic 263, 3) := by decide +kernel
theorem dL_courses_97 : decode cL_courses 97 = .ok (.bipush 100, 2) := by decide +kernel
theorem dL_courses_99 : decode cL_courses 99 = .ok (.isub, 1) := by decide +kernel
theorem dL_courses_100 : decode cL_courses 100 = .ok (.istore 8, 2) := by decide +kernel
theorem dL_courses_102 : decode cL_courses 102 = .ok (.iload 7, 2) := by decide +kernel
theorem dL_courses_104 : decode cL_courses 104 = .ok (.bipush 45, 2) := by decide +kernel
theorem dL_courses_106 : decode cL_courses 106 = .ok (.iload 6, 2) := by decide +kernel
theorem dL_courses_108 : decode cL_courses 108 = .ok (.bipush 45, 2) := by decide +kernel
theorem dL_courses_110 : decode cL_courses 110 = .ok (.irem, 1) := by decide +kernel
theorem dL_courses_111 : decode cL_courses 111 = .ok (.isub, 1) := by decide +kernel
theorem dL_courses_112 : decode cL_courses 112 = .ok (.imul, 1) := by decide +kernel
theorem dL_courses_113 : decode cL_courses 113 = .ok (.iload 8, 2) := by decide +kernel
theorem dL_courses_115 : decode cL_courses 115 = .ok (.iload 6, 2) := by decide +kernel
theorem dL_courses_117 : decode cL_courses 117 = .ok (.bipush 45, 2) := by decide +kernel
theorem dL_courses_119 : decode cL_courses 119 = .ok (.irem, 1) := by decide +kernel
theorem dL_courses_120 : decode cL_courses 120 = .ok (.imul, 1) := by decide +kernel
theorem dL_courses_121 : decode cL_courses 121 = .ok (.iadd, 1) := by decide +kernel
theorem dL_courses_122 : decode cL_courses 122 = .ok (.bipush 45, 2) := by decide +kernel
theorem dL_courses_124 : decode cL_courses 124 = .ok (.invokestatic 298, 3) := by decide +kernel
theorem dL_courses_127 : decode cL_courses 127 = .ok (.istore 9, 2) := by decide +kernel
theorem dL_courses_129 : decode cL_courses 129 = .ok (.iload 6, 2) := by decide +kernel
theorem dL_courses_131 : decode cL_courses 131 = .ok (.iload 9, 2) := by decide +kernel
theorem dL_courses_133 : decode cL_courses 133 = .ok (.iadd, 1) := by decide +kernel
theorem dL_courses_134 : decode cL_courses 134 = .ok (.sipush 360, 3) := by decide +kernel
theorem dL_courses_137 : decode cL_courses 137 = .ok (.invokestatic 301, 3) := by decide +kernel
theorem dL_courses_140 : decode cL_courses 140 = .ok (.istore 10, 2) := by decide +kernel
theorem dL_courses_142 : decode cL_courses 142 = .ok (.aload_n 0, 1) := by decide +kernel
theorem dL_courses_143 : decode cL_courses 143 = .ok (.iload_n 2, 1) := by decide +kernel
theorem dL_courses_144 : decode cL_courses 144 = .ok (.iload 6, 2) := by decide +kernel
theorem dL_courses_146 : decode cL_courses 146 = .ok (.invokestatic 263, 3) := by decide +kernel
theorem dL_courses_149 : decode cL_courses 149 = .ok (.iload 9, 2) := by decide +kernel
theorem dL_courses_151 : decode cL_courses 151 = .ok (.bipush 100, 2) := by decide +kernel
theorem dL_courses_153 : decode cL_courses 153 = .ok (.iadd, 1) := by decide +kernel
theorem dL_courses_154 : decode cL_courses 154 = .ok (.if_icmp .ne 15, 3) := by decide +kernel
theorem dL_courses_157 : decode cL_courses 157 = .ok (.aload_n 0, 1) := by decide +kernel
theorem dL_courses_158 : decode cL_courses 158 = .ok (.iload_n 2, 1) := by decide +kernel
theorem dL_courses_159 : decode cL_courses 159 = .ok (.iload 6, 2) := by decide +kernel
theorem dL_courses_161 : decode cL_courses 161 = .ok (.invokestatic 296, 3) := by decide +kernel
theorem dL_courses_164 : decode cL_courses 164 = .ok (.iload 10, 2) := by decide +kernel
theorem dL_courses_166 : decode cL_courses 166 = .ok (.if_icmp .eq 5, 3) := by decide +kernel
theorem dL_courses_169 : decode cL_courses 169 = .ok (.iconst 0, 1) := by decide +kernel
theorem dL_courses_170 : decode cL_courses 170 = .ok (.ireturn, 1) := by decide +kernel
theorem dL_courses_171 : decode cL_courses 171 = .ok (.aload 4, 2) := by decide +kernel
theorem dL_courses_173 : decode cL_courses 173 = .ok (.iload 10, 2) := by decide +kernel
theorem dL_courses_175 : decode cL_courses 175 = .ok (.aload_n 3, 1) := by decide +kernel
theorem dL_courses_176 : decode cL_courses 176 = .ok (.iload 10, 2) := by decide +kernel
theorem dL_courses_178 : decode cL_courses 178 = .ok (.baload, 1) := by decide +kernel
theorem dL_courses_179 : decode cL_courses 179 = .ok (.ifCond .eq 11, 3) := by decide +kernel
theorem dL_courses_182 : decode cL_courses 182 = .ok (.aload 4, 2) := by decide +kernel
theorem dL_courses_184 : decode cL_courses 184 = .ok (.iload 10, 2) := by decide +kernel
theorem dL_courses_186 : decode cL_courses 186 = .ok (.iaload, 1) := by decide +kernel
theorem dL_courses_187 : decode cL_courses 187 = .ok (.goto 5, 3) := by decide +kernel
theorem dL_courses_190 : decode cL_courses 190 = .ok (.iload 6, 2) := by decide +kernel
theorem dL_courses_192 : decode cL_courses 192 = .ok (.iastore, 1) := by decide +kernel
theorem dL_courses_193 : decode cL_courses 193 = .ok (.iload 5, 2) := by decide +kernel
theorem dL_courses_195 : decode cL_courses 195 = .ok (.aload_n 3, 1) := by decide +kernel
theorem dL_courses_196 : decode cL_courses 196 = .ok (.iload 10, 2) := by decide +kernel
theorem dL_courses_198 : decode cL_courses 198 = .ok (.baload, 1) := by decide +kernel
theorem dL_courses_199 : decode cL_courses 199 = .ok (.ifCond .eq 7, 3) := by decide +kernel
theorem dL_courses_202 : decode cL_courses 202 = .ok (.iconst 0, 1) := by decide +kernel
theorem dL_courses_203 : decode cL_courses 203 = .ok (.goto 4, 3) := by decide +kernel
theorem dL_courses_206 : decode cL_courses 206 = .ok (.iconst 1, 1) := by decide +kernel
theorem dL_courses_207 : decode cL_courses 207 = .ok (.isub, 1) := by decide +kernel
theorem dL_courses_208 : decode cL_courses 208 = .ok (.istore 5, 2) := by decide +kernel
theorem dL_courses_210 : decode cL_courses 210 = .ok (.aload_n 3, 1) := by decide +kernel
theorem dL_courses_211 : decode cL_courses 211 = .ok (.iload 10, 2) := by decide +kernel
theorem dL_courses_213 : decode cL_courses 213 = .ok (.iconst 1, 1) := by decide +kernel
theorem dL_courses_214 : decode cL_courses 214 = .ok (.bastore, 1) := by decide +kernel
theorem dL_courses_215 : decode cL_courses 215 = .ok (.iinc 6 1, 3) := by decide +kernel
theorem dL_courses_218 : decode cL_courses 218 = .ok (.goto (-165), 3) := by decide +kernel
theorem dL_courses_221 : decode cL_courses 221 = .ok (.iconst 0, 1) := by decide +kernel
theorem dL_courses_222 : decode cL_courses 222 = .ok (.istore 6, 2) := by decide +kernel
theorem dL_courses_224 : decode cL_courses 224 = .ok (.iload 6, 2) := by decide +kernel
theorem dL_courses_226 : decode cL_courses 226 = .ok (.bipush 20, 2) := by decide +kernel
theorem dL_courses_228 : decode cL_courses 228 = .ok (.if_icmp .ge 63, 3) := by decide +kernel
theorem dL_courses_231 : decode cL_courses 231 = .ok (.aload_n 1, 1) := by decide +kernel
theorem dL_courses_232 : decode cL_courses 232 = .ok (.sipush 360, 3) := by decide +kernel
theorem dL_courses_235 : decode cL_courses 235 = .ok (.invokevirtual 168, 3) := by decide +kernel
theorem dL_courses_238 : decode cL_courses 238 = .ok (.istore 7, 2) := by decide +kernel
theorem dL_courses_240 : decode cL_courses 240 = .ok (.aload_n 3, 1) := by decide +kernel
theorem dL_courses_241 : decode cL_courses 241 = .ok (.iload 7, 2) := by decide +kernel
theorem dL_courses_243 : decode cL_courses 243 = .ok (.baload, 1) := by decide +kernel
theorem dL_courses_244 : decode cL_courses 244 = .ok (.ifCond .eq 11, 3) := by decide +kernel
theorem dL_courses_247 : decode cL_courses 247 = .ok (.aload 4, 2) := by decide +kernel
theorem dL_courses_249 : decode cL_courses 249 = .ok (.iload 7, 2) := by decide +kernel
theorem dL_courses_251 : decode cL_courses 251 = .ok (.iaload, 1) := by decide +kernel
theorem dL_courses_252 : decode cL_courses 252 = .ok (.goto 5, 3) := by decide +kernel
theorem dL_courses_255 : decode cL_courses 255 = .ok (.bipush (-3), 2) := by decide +kernel
theorem dL_courses_257 : decode cL_courses 257 = .ok (.istore 8, 2) := by decide +kernel
theorem dL_courses_259 : decode cL_courses 259 = .ok (.aload_n 0, 1) := by decide +kernel
theorem dL_courses_260 : decode cL_courses 260 = .ok (.iload_n 2, 1) := by decide +kernel
theorem dL_courses_261 : decode cL_courses 261 = .ok (.iload 7, 2) := by decide +kernel
theorem dL_courses_263 : decode cL_courses 263 = .ok (.invokestatic 304, 3) := by decide +kernel
theorem dL_courses_266 : decode cL_courses 266 = .ok (.iload 8, 2) := by decide +kernel
theorem dL_courses_268 : decode cL_courses 268 = .ok (.if_icmp .ne 15, 3) := by decide +kernel
theorem dL_courses_271 : decode cL_courses 271 = .ok (.aload_n 0, 1) := by decide +kernel
theorem dL_courses_272 : decode cL_courses 272 = .ok (.iload_n 2, 1) := by decide +kernel
theorem dL_courses_273 : decode cL_courses 273 = .ok (.iload 7, 2) := by decide +kernel
theorem dL_courses_275 : decode cL_courses 275 = .ok (.invokestatic 306, 3) := by decide +kernel
theorem dL_courses_278 : decode cL_courses 278 = .ok (.iload 8, 2) := by decide +kernel
theorem dL_courses_280 : decode cL_courses 280 = .ok (.if_icmp .eq 5, 3) := by decide +kernel
theorem dL_courses_283 : decode cL_courses 283 = .ok (.iconst 0, 1) := by decide +kernel
theorem dL_courses_284 : decode cL_courses 284 = .ok (.ireturn, 1) := by decide +kernel
theorem dL_courses_285 : decode cL_courses 285 = .ok (.iinc 6 1, 3) := by decide +kernel
theorem dL_courses_288 : decode cL_courses 288 = .ok (.goto (-64), 3) := by decide +kernel
theorem dL_courses_291 : decode cL_courses 291 = .ok (.aload_n 0, 1) := by decide +kernel
theorem dL_courses_292 : decode cL_courses 292 = .ok (.iload_n 2, 1) := by decide +kernel
theorem dL_courses_293 : decode cL_courses 293 = .ok (.invokestatic 308, 3) := by decide +kernel
theorem dL_courses_296 : decode cL_courses 296 = .ok (.iload 5, 2) := by decide +kernel
theorem dL_courses_298 : decode cL_courses 298 = .ok (.if_icmp .ne 31, 3) := by decide +kernel
theorem dL_courses_301 : decode cL_courses 301 = .ok (.aload_n 0, 1) := by decide +kernel
theorem dL_courses_302 : decode cL_courses 302 = .ok (.iload_n 2, 1) := by decide +kernel
theorem dL_courses_303 : decode cL_courses 303 = .ok (.sipush 360, 3) := by decide +kernel
theorem dL_courses_306 : decode cL_courses 306 = .ok (.invokestatic 304, 3) := by decide +kernel
theorem dL_courses_309 : decode cL_courses 309 = .ok (.bipush (-2), 2) := by decide +kernel
theorem dL_courses_311 : decode cL_courses 311 = .ok (.if_icmp .ne 18, 3) := by decide +kernel
theorem dL_courses_314 : decode cL_courses 314 = .ok (.aload_n 0, 1) := by decide +kernel
theorem dL_courses_315 : decode cL_courses 315 = .ok (.iload_n 2, 1) := by decide +kernel
theorem dL_courses_316 : decode cL_courses 316 = .ok (.iconst (-1), 1) := by decide +kernel
theorem dL_courses_317 : decode cL_courses 317 = .ok (.invokestatic 296, 3) := by decide +kernel
theorem dL_courses_320 : decode cL_courses 320 = .ok (.bipush (-2), 2) := by decide +kernel
theorem dL_courses_322 : decode cL_courses 322 = .ok (.if_icmp .ne 7, 3) := by decide +kernel
theorem dL_courses_325 : decode cL_courses 325 = .ok (.iconst 1, 1) := by decide +kernel
theorem dL_courses_326 : decode cL_courses 326 = .ok (.goto 4, 3) := by decide +kernel
theorem dL_courses_329 : decode cL_courses 329 = .ok (.iconst 0, 1) := by decide +kernel
theorem dL_courses_330 : decode cL_courses 330 = .ok (.ireturn, 1) := by decide +kernel
theorem dL_pairs_0 : decode cL_pairs 0 = .ok (.new 310, 3) := by decide +kernel
theorem dL_pairs_3 : decode cL_pairs 3 = .ok (.dup, 1) := by decide +kernel
theorem dL_pairs_4 : decode cL_pairs 4 = .ok (.invokespecial 312, 3) := by decide +kernel
theorem dL_pairs_7 : decode cL_pairs 7 = .ok (.astore_n 1, 1) := by decide +kernel
theorem dL_pairs_8 : decode cL_pairs 8 = .ok (.iconst 0, 1) := by decide +kernel
theorem dL_pairs_9 : decode cL_pairs 9 = .ok (.istore_n 2, 1) := by decide +kernel
theorem dL_pairs_10 : decode cL_pairs 10 = .ok (.iload_n 2, 1) := by decide +kernel
theorem dL_pairs_11 : decode cL_pairs 11 = .ok (.aload_n 0, 1) := by decide +kernel
theorem dL_pairs_12 : decode cL_pairs 12 = .ok (.invokevirtual 183, 3) := by decide +kernel
theorem dL_pairs_15 : decode cL_pairs 15 = .ok (.if_icmp .ge 30, 3) := by decide +kernel
theorem dL_pairs_18 : decode cL_pairs 18 = .ok (.aload_n 0, 1) := by decide +kernel
theorem dL_pairs_19 : decode cL_pairs 19 = .ok (.iload_n 2, 1) := by decide +kernel
theorem dL_pairs_20 : decode cL_pairs 20 = .ok (.invokestatic 313, 3) := by decide +kernel
theorem dL_pairs_23 : decode cL_pairs 23 = .ok (.ifCond .eq 16, 3) := by decide +kernel
theorem dL_pairs_26 : decode cL_pairs 26 = .ok (.aload_n 1, 1) := by decide +kernel
theorem dL_pairs_27 : decode cL_pairs 27 = .ok (.aload_n 0, 1) := by decide +kernel
theorem dL_pairs_28 : decode cL_pairs 28 = .ok (.iload_n 2, 1) := by decide +kernel
theorem dL_pairs_29 : decode cL_pairs 29 = .ok (.invokestatic 258, 3) := by decide +kernel
theorem dL_pairs_32 : decode cL_pairs 32 = .ok (.invokestatic 317, 3) := by decide +kernel
theorem dL_pairs_35 : decode cL_pairs 35 = .ok (.invokevirtual 323, 3) := by decide +kernel
theorem dL_pairs_38 : decode cL_pairs 38 = .ok (.pop, 1) := by decide +kernel
theorem dL_pairs_39 : decode cL_pairs 39 = .ok (.iinc 2 1, 3) := by decide +kernel
theorem dL_pairs_42 : decode cL_pairs 42 = .ok (.goto (-32), 3) := by decide +kernel
theorem dL_pairs_45 : decode cL_pairs 45 = .ok (.aload_n 1, 1) := by decide +kernel
theorem dL_pairs_46 : decode cL_pairs 46 = .ok (.invokestatic 326, 3) := by decide +kernel
theorem dL_pairs_49 : decode cL_pairs 49 = .ok (.aload_n 1, 1) := by decide +kernel
theorem dL_pairs_50 : decode cL_pairs 50 = .ok (.invokevirtual 332, 3) := by decide +kernel
theorem dL_pairs_53 : decode cL_pairs 53 = .ok (.istore_n 2, 1) := by decide +kernel
theorem dL_pairs_54 : decode cL_pairs 54 = .ok (.iload_n 2, 1) := by decide +kernel
theorem dL_pairs_55 : decode cL_pairs 55 = .ok (.iconst 2, 1) := by decide +kernel
theorem dL_pairs_56 : decode cL_pairs 56 = .ok (.if_icmp .ge 7, 3) := by decide +kernel
theorem dL_pairs_59 : decode cL_pairs 59 = .ok (.iconst 0, 1) := by decide +kernel
theorem dL_pairs_60 : decode cL_pairs 60 = .ok (.goto 6, 3) := by decide +kernel
theorem dL_pairs_63 : decode cL_pairs 63 = .ok (.ldc_w 335, 3) := by decide +kernel
theorem dL_pairs_66 : decode cL_pairs 66 = .ok (.istore_n 3, 1) := by decide +kernel
theorem dL_pairs_67 : decode cL_pairs 67 = .ok (.iload_n 2, 1) := by decide +kernel
theorem dL_pairs_68 : decode cL_pairs 68 = .ok (.iconst 2, 1) := by decide +kernel
theorem dL_pairs_69 : decode cL_pairs 69 = .ok (.irem, 1) := by decide +kernel
theorem dL_pairs_70 : decode cL_pairs 70 = .ok (.iconst 1, 1) := by decide +kernel
theorem dL_pairs_71 : decode cL_pairs 71 = .ok (.if_icmp .ne 7, 3) := by decide +kernel
theorem dL_pairs_74 : decode cL_pairs 74 = .ok (.iconst 0, 1) := by decide +kernel
theorem dL_pairs_75 : decode cL_pairs 75 = .ok (.goto 4, 3) := by decide +kernel
theorem dL_pairs_78 : decode cL_pairs 78 = .ok (.iconst (-1), 1) := by decide +kernel
theorem dL_pairs_79 : decode cL_pairs 79 = .ok (.istore 4, 2) := by decide +kernel
theorem dL_pairs_81 : decode cL_pairs 81 = .ok (.iload 4, 2) := by decide +kernel
theorem dL_pairs_83 : decode cL_pairs 83 = .ok (.iload_n 2, 1) := by decide +kernel
theorem dL_pairs_84 : decode cL_pairs 84 = .ok (.iconst 2, 1) := by decide +kernel
theorem dL_pairs_85 : decode cL_pairs 85 = .ok (.irem, 1) := by decide +kernel
theorem dL_pairs_86 : decode cL_pairs 86 = .ok (.iconst 1, 1) := by decide +kernel
theorem dL_pairs_87 : decode cL_pairs 87 = .ok (.if_icmp .ne 7, 3) := by decide +kernel
theorem dL_pairs_90 : decode cL_pairs 90 = .ok (.iload_n 2, 1) := by decide +kernel
theorem dL_pairs_91 : decode cL_pairs 91 = .ok (.goto 4, 3) := by decide +kernel
theorem dL_pairs_94 : decode cL_pairs 94 = .ok (.iconst 0, 1) := by decide +kernel
theorem dL_pairs_95 : decode cL_pairs 95 = .ok (.if_icmp .ge 102, 3) := by decide +kernel
theorem dL_pairs_98 : decode cL_pairs 98 = .ok (.iconst 0, 1) := by decide +kernel
theorem dL_pairs_99 : decode cL_pairs 99 = .ok (.istore 5, 2) := by decide +kernel
theorem dL_pairs_101 : decode cL_pairs 101 = .ok (.iconst (-1), 1) := by decide +kernel
theorem dL_pairs_102 : decode cL_pairs 102 = .ok (.istore 6, 2) := by decide +kernel
theorem dL_pairs_104 : decode cL_pairs 104 = .ok (.iconst 0, 1) := by decide +kernel
theorem dL_pairs_105 : decode cL_pairs 105 = .ok (.istore 7, 2) := by decide +kernel
theorem dL_pairs_107 : decode cL_pairs 107 = .ok (.iload 7, 2) := by decide +kernel
theorem dL_pairs_109 : decode cL_pairs 109 = .ok (.iload_n 2, 1) := by decide +kernel
theorem dL_pairs_110 : decode cL_pairs 110 = .ok (.if_icmp .ge 74, 3) := by decide +kernel
theorem dL_pairs_113 : decode cL_pairs 113 = .ok (.aload_n 1, 1) := by decide +kernel
theorem dL_pairs_114 : decode cL_pairs 114 = .ok (.iload 7, 2) := by decide +kernel
theorem dL_pairs_116 : decode cL_pairs 116 = .ok (.invokevirtual 336, 3) := by decide +kernel
theorem dL_pairs_119 : decode cL_pairs 119 = .ok (.checkcast 318, 3) := by decide +kernel
theorem dL_pairs_122 : decode cL_pairs 122 = .ok (.invokevirtual 340, 3) := by decide +kernel
theorem dL_pairs_125 : decode cL_pairs 125 = .ok (.istore 8, 2) := by decide +kernel
theorem dL_pairs_127 : decode cL_pairs 127 = .ok (.iload 5, 2) := by decide +kernel
theorem dL_pairs_129 : decode cL_pairs 129 = .ok (.iload 7, 2) := by decide +kernel
theorem dL_pairs_131 : decode cL_pairs 131 = .ok (.iload 4, 2) := by decide +kernel
theorem dL_pairs_133 : decode cL_pairs 133 = .ok (.if_icmp .eq 8, 3) := by decide +kernel
theorem dL_pairs_136 : decode cL_pairs 136 = .ok (.iload 6, 2) := by decide +kernel
theorem dL_pairs_138 : decode cL_pairs 138 = .ok (.ifCond .ge 7, 3) := by decide +kernel
theorem dL_pairs_141 : decode cL_pairs 141 = .ok (.iconst 0, 1) := by decide +kernel
theorem dL_pairs_142 : decode cL_pairs 142 = .ok (.goto 8, 3) := by decide +kernel
theorem dL_pairs_145 : decode cL_pairs 145 = .ok (.iload 8, 2) := by decide +kernel
theorem dL_pairs_147 : decode cL_pairs 147 = .ok (.iload 6, 2) := by decide +kernel
theorem dL_pairs_149 : decode cL_pairs 149 = .ok (.isub, 1) := by decide +kernel
theorem dL_pairs_150 : decode cL_pairs 150 = .ok (.iadd, 1) := by decide +kernel
theorem dL_pairs_151 : decode cL_pairs 151 = .ok (.istore 5, 2) := by decide +kernel
theorem dL_pairs_153 : decode cL_pairs 153 = .ok (.iload 7, 2) := by decide +kernel
theorem dL_pairs_155 : decode cL_pairs 155 = .ok (.iload 4, 2) := by decide +kernel
theorem dL_pairs_157 : decode cL_pairs 157 = .ok (.if_icmp .ne 8, 3) := by decide +kernel
theorem dL_pairs_160 : decode cL_pairs 160 = .ok (.iload 6, 2) := by decide +kernel
theorem dL_pairs_162 : decode cL_pairs 162 = .ok (.goto 14, 3) := by decide +kernel
theorem dL_pairs_165 : decode cL_pairs 165 = .ok (.iload 6, 2) := by decide +kernel
theorem dL_pairs_167 : decode cL_pairs 167 = .ok (.ifCond .ge 8, 3) := by decide +kernel
theorem dL_pairs_170 : decode cL_pairs 170 = .ok (.iload 8, 2) := by decide +kernel
theorem dL_pairs_172 : decode cL_pairs 172 = .ok (.goto 4, 3) := by decide +kernel
theorem dL_pairs_175 : decode cL_pairs 175 = .ok (.iconst (-1), 1) := by decide +kernel
theorem dL_pairs_176 : decode cL_pairs 176 = .ok (.istore 6, 2) := by decide +kernel
theorem dL_pairs_178 : decode cL_pairs 178 = .ok (.iinc 7 1, 3) := by decide +kernel
theorem dL_pairs_181 : decode cL_pairs 181 = .ok (.goto (-74), 3) := by decide +kernel
theorem dL_pairs_184 : decode cL_pairs 184 = .ok (.iload_n 3, 1) := by decide +kernel
theorem dL_pairs_185 : decode cL_pairs 185 = .ok (.iload 5, 2) := by decide +kernel
theorem dL_pairs_187 : decode cL_pairs 187 = .ok (.invokestatic 343, 3) := by decide +kernel
theorem dL_pairs_190 : decode cL_pairs 190 = .ok (.istore_n 3, 1) := by decide +kernel
theorem dL_pairs_191 : decode cL_pairs 191 = .ok (.iinc 4 1, 3) := by decide +kernel
theorem dL_pairs_194 : decode cL_pairs 194 = .ok (.goto (-113), 3) := by decide +kernel
theorem dL_pairs_197 : decode cL_pairs 197 = .ok (.iconst 0, 1) := by decide +kernel
theorem dL_pairs_198 : decode cL_pairs 198 = .ok (.istore 4, 2) := by decide +kernel
theorem dL_pairs_200 : decode cL_pairs 200 = .ok (.iconst 0, 1) := by decide +kernel
theorem dL_pairs_201 : decode cL_pairs 201 = .ok (.istore 5, 2) := by decide +kernel
theorem dL_pairs_203 : decode cL_pairs 203 = .ok (.iload 5, 2) := by decide +kernel
theorem dL_pairs_205 : decode cL_pairs 205 = .ok (.aload_n 0, 1) := by decide +kernel
theorem dL_pairs_206 : decode cL_pairs 206 = .ok (.invokevirtual 183, 3) := by decide +kernel
theorem dL_pairs_209 : decode cL_pairs 209 = .ok (.if_icmp .ge 118, 3) := by decide +kernel
theorem dL_pairs_212 : decode cL_pairs 212 = .ok (.aload_n 0, 1) := by decide +kernel
theorem dL_pairs_213 : decode cL_pairs 213 = .ok (.iload 5, 2) := by decide +kernel
theorem dL_pairs_215 : decode cL_pairs 215 = .ok (.invokestatic 346, 3) := by decide +kernel
theorem dL_pairs_218 : decode cL_pairs 218 = .ok (.istore 6, 2) := by decide +kernel
theorem dL_pairs_220 : decode cL_pairs 220 = .ok (.iload 6, 2) := by decide +kernel
theorem dL_pairs_222 : decode cL_pairs 222 = .ok (.bipush (-2), 2) := by decide +kernel
theorem dL_pairs_224 : decode cL_pairs 224 = .ok (.if_icmp .ne 27, 3) := by decide +kernel
theorem dL_pairs_227 : decode cL_pairs 227 = .ok (.aload_n 0, 1) := by decide +kernel
theorem dL_pairs_228 : decode cL_pairs 228 = .ok (.iload 5, 2) := by decide +kernel
theorem dL_pairs_230 : decode cL_pairs 230 = .ok (.invokestatic 313, 3) := by decide +kernel
theorem dL_pairs_233 : decode cL_pairs 233 = .ok (.ifCond .eq 10, 3) := by decide +kernel
theorem dL_pairs_236 : decode cL_pairs 236 = .ok (.iload_n 2, 1) := by decide +kernel
theorem dL_pairs_237 : decode cL_pairs 237 = .ok (.iconst 2, 1) := by decide +kernel
theorem dL_pairs_238 : decode cL_pairs 238 = .ok (.irem, 1) := by decide +kernel
theorem dL_pairs_239 : decode cL_pairs 239 = .ok (.iconst 1, 1) := by decide +kernel
theorem dL_pairs_240 : decode cL_pairs 240 = .ok (.if_icmp .ne 7, 3) := by decide +kernel
theorem dL_pairs_243 : decode cL_pairs 243 = .ok (.iconst 1, 1) := by decide +kernel
theorem dL_pairs_244 : decode cL_pairs 244 = .ok (.goto 42, 3) := by decide +kernel
theorem dL_pairs_247 : decode cL_pairs 247 = .ok (.iconst 0, 1) := by decide +kernel
theorem dL_pairs_248 : decode cL_pairs 248 = .ok (.goto 38, 3) := by decide +kernel
theorem dL_pairs_251 : decode cL_pairs 251 = .ok (.iload 6, 2) := by decide +kernel
theorem dL_pairs_253 : decode cL_pairs 253 = .ok (.ifCond .lt 32, 3) := by decide +kernel
theorem dL_pairs_256 : decode cL_pairs 256 = .ok (.iload 6, 2) := by decide +kernel
theorem dL_pairs_258 : decode cL_pairs 258 = .ok (.iload 5, 2) := by decide +kernel
theorem dL_pairs_260 : decode cL_pairs 260 = .ok (.if_icmp .eq 25, 3) := by decide +kernel
theorem dL_pairs_263 : decode cL_pairs 263 = .ok (.aload_n 0, 1) := by decide +kernel
theorem dL_pairs_264 : decode cL_pairs 264 = .ok (.iload 5, 2) := by decide +kernel
theorem dL_pairs_266 : decode cL_pairs 266 = .ok (.invokestatic 313, 3) := by decide +kernel
theorem dL_pairs_269 : decode cL_pairs 269 = .ok (.ifCond .eq 16, 3) := by decide +kernel
theorem dL_pairs_272 : decode cL_pairs 272 = .ok (.aload_n 0, 1) := by decide +kernel
theorem dL_pairs_273 : decode cL_pairs 273 = .ok (.iload 6, 2) := by decide +kernel
theorem dL_pairs_275 : decode cL_pairs 275 = .ok (.invokestatic 313, 3) := by decide +kernel
theorem dL_pairs_278 : decode cL_pairs 278 = .ok (.ifCond .eq 7, 3) := by decide +kernel
theorem dL_pairs_281 : decode cL_pairs 281 = .ok (.iconst 1, 1) := by decide +kernel
theorem dL_pairs_282 : decode cL_pairs 282 = .ok (.goto 4, 3) := by decide +kernel
theorem dL_pairs_285 : decode cL_pairs 285 = .ok (.iconst 0, 1) := by decide +kernel
theorem dL_pairs_286 : decode cL_pairs 286 = .ok (.istore 7, 2) := by decide +kernel
theorem dL_pairs_288 : decode cL_pairs 288 = .ok (.iload 4, 2) := by decide +kernel
theorem dL_pairs_290 : decode cL_pairs 290 = .ok (.iload 6, 2) := by decide +kernel
theorem dL_pairs_292 : decode cL_pairs 292 = .ok (.bipush (-2), 2) := by decide +kernel
theorem dL_pairs_294 : decode cL_pairs 294 = .ok (.if_icmp .ne 16, 3) := by decide +kernel
theorem dL_pairs_297 : decode cL_pairs 297 = .ok (.aload_n 0, 1) := by decide +kernel
theorem dL_pairs_298 : decode cL_pairs 298 = .ok (.iload 5, 2) := by decide +kernel
theorem dL_pairs_300 : decode cL_pairs 300 = .ok (.invokestatic 313, 3) := by decide +kernel
theorem dL_pairs_303 : decode cL_pairs 303 = .ok (.ifCond .eq 7, 3) := by decide +kernel
theorem dL_pairs_306 : decode cL_pairs 306 = .ok (.iconst 1, 1) := by decide +kernel
theorem dL_pairs_307 : decode cL_pairs 307 = .ok (.goto 4, 3) := by decide +kernel
theorem dL_pairs_310 : decode cL_pairs 310 = .ok (.iconst 0, 1) := by decide +kernel
theorem dL_pairs_311 : decode cL_pairs 311 = .ok (.iadd, 1) := by decide +kernel
theorem dL_pairs_312 : decode cL_pairs 312 = .ok (.istore 4, 2) := by decide +kernel
theorem dL_pairs_314 : decode cL_pairs 314 = .ok (.iload 7, 2) := by decide +kernel
theorem dL_pairs_316 : decode cL_pairs 316 = .ok (.ifCond .ne 5, 3) := by decide +kernel
theorem dL_pairs_319 : decode cL_pairs 319 = .ok (.iconst 0, 1) := by decide +kernel
theorem dL_pairs_320 : decode cL_pairs 320 = .ok (.ireturn, 1) := by decide +kernel
theorem dL_pairs_321 : decode cL_pairs 321 = .ok (.iinc 5 1, 3) := by decide +kernel
theorem dL_pairs_324 : decode cL_pairs 324 = .ok (.goto (-121), 3) := by decide +kernel
theorem dL_pairs_327 : decode cL_pairs 327 = .ok (.aload_n 0, 1) := by decide +kernel
theorem dL_pairs_328 : decode cL_pairs 328 = .ok (.invokevirtual 348, 3) := by decide +kernel
theorem dL_pairs_331 : decode cL_pairs 331 = .ok (.iload_n 3, 1) := by decide +kernel
theorem dL_pairs_332 : decode cL_pairs 332 = .ok (.if_icmp .ne 35, 3) := by decide +kernel
theorem dL_pairs_335 : decode cL_pairs 335 = .ok (.aload_n 0, 1) := by decide +kernel
theorem dL_pairs_336 : decode cL_pairs 336 = .ok (.invokevirtual 351, 3) := by decide +kernel
theorem dL_pairs_339 : decode cL_pairs 339 = .ok (.iload_n 3, 1) := by decide +kernel
theorem dL_pairs_340 : decode cL_pairs 340 = .ok (.if_icmp .ne 27, 3) := by decide +kernel
theorem dL_pairs_343 : decode cL_pairs 343 = .ok (.iload 4, 2) := by decide +kernel
theorem dL_pairs_345 : decode cL_pairs 345 = .ok (.iload_n 2, 1) := by decide +kernel
theorem dL_pairs_346 : decode cL_pairs 346 = .ok (.iconst 2, 1) := by decide +kernel
theorem dL_pairs_347 : decode cL_pairs 347 = .ok (.irem, 1) := by decide +kernel
theorem dL_pairs_348 : decode cL_pairs 348 = .ok (.if_icmp .gt 19, 3) := by decide +kernel
theorem dL_pairs_351 : decode cL_pairs 351 = .ok (.aload_n 0, 1) := by decide +kernel
theorem dL_pairs_352 : decode cL_pairs 352 = .ok (.aload_n 0, 1) := by decide +kernel
theorem dL_pairs_353 : decode cL_pairs 353 = .ok (.invokevirtual 183, 3) := by decide +kernel
theorem dL_pairs_356 : decode cL_pairs 356 = .ok (.invokestatic 346, 3) := by decide +kernel
theorem dL_pairs_359 : decode cL_pairs 359 = .ok (.iconst (-1), 1) := by decide +kernel
theorem dL_pairs_360 : decode cL_pairs 360 = .ok (.if_icmp .ne 7, 3) := by decide +kernel
theorem dL_pairs_363 : decode cL_pairs 363 = .ok (.iconst 1, 1) := by decide +kernel
theorem dL_pairs_364 : decode cL_pairs 364 = .ok (.goto 4, 3) := by decide +kernel
theorem dL_pairs_367 : decode cL_pairs 367 = .ok (.iconst 0, 1) := by decide +kernel
theorem dL_pairs_368 : decode cL_pairs 368 = .ok (.ireturn, 1) := by decide +kernel
