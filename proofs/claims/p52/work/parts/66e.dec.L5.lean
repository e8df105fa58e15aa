theorem dL_law_0 : decode cL_law 0 = .ok (.new 8, 3) := by decide +kernel
theorem dL_law_3 : decode cL_law 3 = .ok (.dup, 1) := by decide +kernel
theorem dL_law_4 : decode cL_law 4 = .ok (.invokespecial 368, 3) := by decide +kernel
theorem dL_law_7 : decode cL_law 7 = .ok (.astore_n 1, 1) := by decide +kernel
theorem dL_law_8 : decode cL_law 8 = .ok (.iconst 0, 1) := by decide +kernel
theorem dL_law_9 : decode cL_law 9 = .ok (.istore_n 2, 1) := by decide +kernel
theorem dL_law_10 : decode cL_law 10 = .ok (.aload_n 1, 1) := by decide +kernel
theorem dL_law_11 : decode cL_law 11 = .ok (.invokestatic 369, 3) := by decide +kernel
theorem dL_law_14 : decode cL_law 14 = .ok (.iconst (-1), 1) := by decide +kernel
theorem dL_law_15 : decode cL_law 15 = .ok (.if_icmp .ne 239, 3) := by decide +kernel
theorem dL_law_18 : decode cL_law 18 = .ok (.aload_n 1, 1) := by decide +kernel
theorem dL_law_19 : decode cL_law 19 = .ok (.invokestatic 366, 3) := by decide +kernel
theorem dL_law_22 : decode cL_law 22 = .ok (.iconst (-1), 1) := by decide +kernel
theorem dL_law_23 : decode cL_law 23 = .ok (.if_icmp .ne 231, 3) := by decide +kernel
theorem dL_law_26 : decode cL_law 26 = .ok (.aload_n 1, 1) := by decide +kernel
theorem dL_law_27 : decode cL_law 27 = .ok (.invokestatic 371, 3) := by decide +kernel
theorem dL_law_30 : decode cL_law 30 = .ok (.iconst (-1), 1) := by decide +kernel
theorem dL_law_31 : decode cL_law 31 = .ok (.if_icmp .ne 223, 3) := by decide +kernel
theorem dL_law_34 : decode cL_law 34 = .ok (.aload_n 1, 1) := by decide +kernel
theorem dL_law_35 : decode cL_law 35 = .ok (.invokestatic 373, 3) := by decide +kernel
theorem dL_law_38 : decode cL_law 38 = .ok (.iconst (-1), 1) := by decide +kernel
theorem dL_law_39 : decode cL_law 39 = .ok (.if_icmp .ne 215, 3) := by decide +kernel
theorem dL_law_42 : decode cL_law 42 = .ok (.aload_n 1, 1) := by decide +kernel
theorem dL_law_43 : decode cL_law 43 = .ok (.invokestatic 375, 3) := by decide +kernel
theorem dL_law_46 : decode cL_law 46 = .ok (.iconst (-1), 1) := by decide +kernel
theorem dL_law_47 : decode cL_law 47 = .ok (.if_icmp .ne 207, 3) := by decide +kernel
theorem dL_law_50 : decode cL_law 50 = .ok (.aload_n 1, 1) := by decide +kernel
theorem dL_law_51 : decode cL_law 51 = .ok (.invokestatic 371, 3) := by decide +kernel
theorem dL_law_54 : decode cL_law 54 = .ok (.ifCond .ne 200, 3) := by decide +kernel
theorem dL_law_57 : decode cL_law 57 = .ok (.aload_n 1, 1) := by decide +kernel
theorem dL_law_58 : decode cL_law 58 = .ok (.iconst 0, 1) := by decide +kernel
theorem dL_law_59 : decode cL_law 59 = .ok (.invokestatic 144, 3) := by decide +kernel
theorem dL_law_62 : decode cL_law 62 = .ok (.iconst (-1), 1) := by decide +kernel
theorem dL_law_63 : decode cL_law 63 = .ok (.if_icmp .ne 191, 3) := by decide +kernel
theorem dL_law_66 : decode cL_law 66 = .ok (.aload_n 1, 1) := by decide +kernel
theorem dL_law_67 : decode cL_law 67 = .ok (.bipush 100, 2) := by decide +kernel
theorem dL_law_69 : decode cL_law 69 = .ok (.invokestatic 190, 3) := by decide +kernel
theorem dL_law_72 : decode cL_law 72 = .ok (.iconst (-1), 1) := by decide +kernel
theorem dL_law_73 : decode cL_law 73 = .ok (.if_icmp .ne 181, 3) := by decide +kernel
theorem dL_law_76 : decode cL_law 76 = .ok (.aload_n 1, 1) := by decide +kernel
theorem dL_law_77 : decode cL_law 77 = .ok (.iconst 0, 1) := by decide +kernel
theorem dL_law_78 : decode cL_law 78 = .ok (.iconst 0, 1) := by decide +kernel
theorem dL_law_79 : decode cL_law 79 = .ok (.iconst 0, 1) := by decide +kernel
theorem dL_law_80 : decode cL_law 80 = .ok (.invokestatic 196, 3) := by decide +kernel
theorem dL_law_83 : decode cL_law 83 = .ok (.iconst (-1), 1) := by decide +kernel
theorem dL_law_84 : decode cL_law 84 = .ok (.if_icmp .ne 170, 3) := by decide +kernel
theorem dL_law_87 : decode cL_law 87 = .ok (.aload_n 1, 1) := by decide +kernel
theorem dL_law_88 : decode cL_law 88 = .ok (.iconst 0, 1) := by decide +kernel
theorem dL_law_89 : decode cL_law 89 = .ok (.iconst 1, 1) := by decide +kernel
theorem dL_law_90 : decode cL_law 90 = .ok (.invokestatic 199, 3) := by decide +kernel
theorem dL_law_93 : decode cL_law 93 = .ok (.iconst (-1), 1) := by decide +kernel
theorem dL_law_94 : decode cL_law 94 = .ok (.if_icmp .ne 160, 3) := by decide +kernel
theorem dL_law_97 : decode cL_law 97 = .ok (.aload_n 1, 1) := by decide +kernel
theorem dL_law_98 : decode cL_law 98 = .ok (.iconst 0, 1) := by decide +kernel
theorem dL_law_99 : decode cL_law 99 = .ok (.invokestatic 202, 3) := by decide +kernel
theorem dL_law_102 : decode cL_law 102 = .ok (.iconst (-1), 1) := by decide +kernel
theorem dL_law_103 : decode cL_law 103 = .ok (.if_icmp .ne 151, 3) := by decide +kernel
theorem dL_law_106 : decode cL_law 106 = .ok (.aload_n 1, 1) := by decide +kernel
theorem dL_law_107 : decode cL_law 107 = .ok (.iconst 0, 1) := by decide +kernel
theorem dL_law_108 : decode cL_law 108 = .ok (.invokestatic 204, 3) := by decide +kernel
theorem dL_law_111 : decode cL_law 111 = .ok (.iconst (-1), 1) := by decide +kernel
theorem dL_law_112 : decode cL_law 112 = .ok (.if_icmp .ne 142, 3) := by decide +kernel
theorem dL_law_115 : decode cL_law 115 = .ok (.aload_n 1, 1) := by decide +kernel
theorem dL_law_116 : decode cL_law 116 = .ok (.bipush 21, 2) := by decide +kernel
theorem dL_law_118 : decode cL_law 118 = .ok (.invokestatic 206, 3) := by decide +kernel
theorem dL_law_121 : decode cL_law 121 = .ok (.iconst (-1), 1) := by decide +kernel
theorem dL_law_122 : decode cL_law 122 = .ok (.if_icmp .ne 132, 3) := by decide +kernel
theorem dL_law_125 : decode cL_law 125 = .ok (.aload_n 1, 1) := by decide +kernel
theorem dL_law_126 : decode cL_law 126 = .ok (.iconst 0, 1) := by decide +kernel
theorem dL_law_127 : decode cL_law 127 = .ok (.invokestatic 288, 3) := by decide +kernel
theorem dL_law_130 : decode cL_law 130 = .ok (.iconst (-1), 1) := by decide +kernel
theorem dL_law_131 : decode cL_law 131 = .ok (.if_icmp .ne 123, 3) := by decide +kernel
theorem dL_law_134 : decode cL_law 134 = .ok (.aload_n 1, 1) := by decide +kernel
theorem dL_law_135 : decode cL_law 135 = .ok (.invokestatic 293, 3) := by decide +kernel
theorem dL_law_138 : decode cL_law 138 = .ok (.ldc2_w 83, 3) := by decide +kernel
theorem dL_law_141 : decode cL_law 141 = .ok (.dcmp .l, 1) := by decide +kernel
theorem dL_law_142 : decode cL_law 142 = .ok (.ifCond .ne 112, 3) := by decide +kernel
theorem dL_law_145 : decode cL_law 145 = .ok (.aload_n 1, 1) := by decide +kernel
theorem dL_law_146 : decode cL_law 146 = .ok (.iconst 0, 1) := by decide +kernel
theorem dL_law_147 : decode cL_law 147 = .ok (.invokestatic 346, 3) := by decide +kernel
theorem dL_law_150 : decode cL_law 150 = .ok (.iconst (-1), 1) := by decide +kernel
theorem dL_law_151 : decode cL_law 151 = .ok (.if_icmp .ne 103, 3) := by decide +kernel
theorem dL_law_154 : decode cL_law 154 = .ok (.aload_n 1, 1) := by decide +kernel
theorem dL_law_155 : decode cL_law 155 = .ok (.bipush 61, 2) := by decide +kernel
theorem dL_law_157 : decode cL_law 157 = .ok (.iconst 1, 1) := by decide +kernel
theorem dL_law_158 : decode cL_law 158 = .ok (.iconst 1, 1) := by decide +kernel
theorem dL_law_159 : decode cL_law 159 = .ok (.invokestatic 211, 3) := by decide +kernel
theorem dL_law_162 : decode cL_law 162 = .ok (.iconst (-1), 1) := by decide +kernel
theorem dL_law_163 : decode cL_law 163 = .ok (.if_icmp .ne 91, 3) := by decide +kernel
theorem dL_law_166 : decode cL_law 166 = .ok (.aload_n 1, 1) := by decide +kernel
theorem dL_law_167 : decode cL_law 167 = .ok (.iconst 0, 1) := by decide +kernel
theorem dL_law_168 : decode cL_law 168 = .ok (.invokestatic 217, 3) := by decide +kernel
theorem dL_law_171 : decode cL_law 171 = .ok (.iconst (-1), 1) := by decide +kernel
theorem dL_law_172 : decode cL_law 172 = .ok (.if_icmp .ne 82, 3) := by decide +kernel
theorem dL_law_175 : decode cL_law 175 = .ok (.aload_n 1, 1) := by decide +kernel
theorem dL_law_176 : decode cL_law 176 = .ok (.iconst 0, 1) := by decide +kernel
theorem dL_law_177 : decode cL_law 177 = .ok (.invokestatic 221, 3) := by decide +kernel
theorem dL_law_180 : decode cL_law 180 = .ok (.iconst (-1), 1) := by decide +kernel
theorem dL_law_181 : decode cL_law 181 = .ok (.if_icmp .ne 73, 3) := by decide +kernel
theorem dL_law_184 : decode cL_law 184 = .ok (.aload_n 1, 1) := by decide +kernel
theorem dL_law_185 : decode cL_law 185 = .ok (.bipush 61, 2) := by decide +kernel
theorem dL_law_187 : decode cL_law 187 = .ok (.invokestatic 219, 3) := by decide +kernel
theorem dL_law_190 : decode cL_law 190 = .ok (.iconst (-1), 1) := by decide +kernel
theorem dL_law_191 : decode cL_law 191 = .ok (.if_icmp .ne 63, 3) := by decide +kernel
theorem dL_law_194 : decode cL_law 194 = .ok (.aload_n 1, 1) := by decide +kernel
theorem dL_law_195 : decode cL_law 195 = .ok (.invokestatic 354, 3) := by decide +kernel
theorem dL_law_198 : decode cL_law 198 = .ok (.iconst (-1), 1) := by decide +kernel
theorem dL_law_199 : decode cL_law 199 = .ok (.if_icmp .ne 55, 3) := by decide +kernel
theorem dL_law_202 : decode cL_law 202 = .ok (.aload_n 1, 1) := by decide +kernel
theorem dL_law_203 : decode cL_law 203 = .ok (.invokestatic 357, 3) := by decide +kernel
theorem dL_law_206 : decode cL_law 206 = .ok (.ldc 114, 2) := by decide +kernel
theorem dL_law_208 : decode cL_law 208 = .ok (.fcmp .l, 1) := by decide +kernel
theorem dL_law_209 : decode cL_law 209 = .ok (.ifCond .ne 45, 3) := by decide +kernel
theorem dL_law_212 : decode cL_law 212 = .ok (.aload_n 1, 1) := by decide +kernel
theorem dL_law_213 : decode cL_law 213 = .ok (.iconst 0, 1) := by decide +kernel
theorem dL_law_214 : decode cL_law 214 = .ok (.invokestatic 223, 3) := by decide +kernel
theorem dL_law_217 : decode cL_law 217 = .ok (.iconst (-1), 1) := by decide +kernel
theorem dL_law_218 : decode cL_law 218 = .ok (.if_icmp .ne 36, 3) := by decide +kernel
theorem dL_law_221 : decode cL_law 221 = .ok (.aload_n 1, 1) := by decide +kernel
theorem dL_law_222 : decode cL_law 222 = .ok (.bipush 127, 2) := by decide +kernel
theorem dL_law_224 : decode cL_law 224 = .ok (.invokestatic 165, 3) := by decide +kernel
theorem dL_law_227 : decode cL_law 227 = .ok (.iconst (-1), 1) := by decide +kernel
theorem dL_law_228 : decode cL_law 228 = .ok (.if_icmp .ne 26, 3) := by decide +kernel
theorem dL_law_231 : decode cL_law 231 = .ok (.aload_n 1, 1) := by decide +kernel
theorem dL_law_232 : decode cL_law 232 = .ok (.invokevirtual 232, 3) := by decide +kernel
theorem dL_law_235 : decode cL_law 235 = .ok (.bipush 10, 2) := by decide +kernel
theorem dL_law_237 : decode cL_law 237 = .ok (.if_icmp .ne 17, 3) := by decide +kernel
theorem dL_law_240 : decode cL_law 240 = .ok (.aload_n 1, 1) := by decide +kernel
theorem dL_law_241 : decode cL_law 241 = .ok (.invokevirtual 348, 3) := by decide +kernel
theorem dL_law_244 : decode cL_law 244 = .ok (.ifCond .ne 10, 3) := by decide +kernel
theorem dL_law_247 : decode cL_law 247 = .ok (.aload_n 1, 1) := by decide +kernel
theorem dL_law_248 : decode cL_law 248 = .ok (.invokevirtual 253, 3) := by decide +kernel
theorem dL_law_251 : decode cL_law 251 = .ok (.ifCond .eq 5, 3) := by decide +kernel
theorem dL_law_254 : decode cL_law 254 = .ok (.iconst 0, 1) := by decide +kernel
theorem dL_law_255 : decode cL_law 255 = .ok (.ireturn, 1) := by decide +kernel
theorem dL_law_256 : decode cL_law 256 = .ok (.aload_n 1, 1) := by decide +kernel
theorem dL_law_257 : decode cL_law 257 = .ok (.invokestatic 377, 3) := by decide +kernel
theorem dL_law_260 : decode cL_law 260 = .ok (.istore_n 3, 1) := by decide +kernel
theorem dL_law_261 : decode cL_law 261 = .ok (.iconst 0, 1) := by decide +kernel
theorem dL_law_262 : decode cL_law 262 = .ok (.istore 4, 2) := by decide +kernel
theorem dL_law_264 : decode cL_law 264 = .ok (.iload 4, 2) := by decide +kernel
theorem dL_law_266 : decode cL_law 266 = .ok (.bipush 24, 2) := by decide +kernel
theorem dL_law_268 : decode cL_law 268 = .ok (.if_icmp .ge 184, 3) := by decide +kernel
theorem dL_law_271 : decode cL_law 271 = .ok (.aload_n 0, 1) := by decide +kernel
theorem dL_law_272 : decode cL_law 272 = .ok (.iload_n 2, 1) := by decide +kernel
theorem dL_law_273 : decode cL_law 273 = .ok (.invokestatic 380, 3) := by decide +kernel
theorem dL_law_276 : decode cL_law 276 = .ok (.sipush 255, 3) := by decide +kernel
theorem dL_law_279 : decode cL_law 279 = .ok (.iand, 1) := by decide +kernel
theorem dL_law_280 : decode cL_law 280 = .ok (.istore 5, 2) := by decide +kernel
theorem dL_law_282 : decode cL_law 282 = .ok (.new 169, 3) := by decide +kernel
theorem dL_law_285 : decode cL_law 285 = .ok (.dup, 1) := by decide +kernel
theorem dL_law_286 : decode cL_law 286 = .ok (.aload_n 0, 1) := by decide +kernel
theorem dL_law_287 : decode cL_law 287 = .ok (.iload_n 2, 1) := by decide +kernel
theorem dL_law_288 : decode cL_law 288 = .ok (.iconst 1, 1) := by decide +kernel
theorem dL_law_289 : decode cL_law 289 = .ok (.iadd, 1) := by decide +kernel
theorem dL_law_290 : decode cL_law 290 = .ok (.invokestatic 380, 3) := by decide +kernel
theorem dL_law_293 : decode cL_law 293 = .ok (.invokespecial 384, 3) := by decide +kernel
theorem dL_law_296 : decode cL_law 296 = .ok (.astore 6, 2) := by decide +kernel
theorem dL_law_298 : decode cL_law 298 = .ok (.iinc 2 2, 3) := by decide +kernel
theorem dL_law_301 : decode cL_law 301 = .ok (.aload_n 1, 1) := by decide +kernel
theorem dL_law_302 : decode cL_law 302 = .ok (.invokestatic 387, 3) := by decide +kernel
theorem dL_law_305 : decode cL_law 305 = .ok (.astore 7, 2) := by decide +kernel
theorem dL_law_307 : decode cL_law 307 = .ok (.aload_n 1, 1) := by decide +kernel
theorem dL_law_308 : decode cL_law 308 = .ok (.iload 5, 2) := by decide +kernel
theorem dL_law_310 : decode cL_law 310 = .ok (.aload 6, 2) := by decide +kernel
theorem dL_law_312 : decode cL_law 312 = .ok (.invokestatic 391, 3) := by decide +kernel
theorem dL_law_315 : decode cL_law 315 = .ok (.istore 8, 2) := by decide +kernel
theorem dL_law_317 : decode cL_law 317 = .ok (.iload 8, 2) := by decide +kernel
theorem dL_law_319 : decode cL_law 319 = .ok (.ifCond .ge 17, 3) := by decide +kernel
theorem dL_law_322 : decode cL_law 322 = .ok (.aload 7, 2) := by decide +kernel
theorem dL_law_324 : decode cL_law 324 = .ok (.aload_n 1, 1) := by decide +kernel
theorem dL_law_325 : decode cL_law 325 = .ok (.invokestatic 387, 3) := by decide +kernel
theorem dL_law_328 : decode cL_law 328 = .ok (.invokevirtual 284, 3) := by decide +kernel
theorem dL_law_331 : decode cL_law 331 = .ok (.ifCond .ne 5, 3) := by decide +kernel
theorem dL_law_334 : decode cL_law 334 = .ok (.iconst 0, 1) := by decide +kernel
theorem dL_law_335 : decode cL_law 335 = .ok (.ireturn, 1) := by decide +kernel
theorem dL_law_336 : decode cL_law 336 = .ok (.iload 8, 2) := by decide +kernel
theorem dL_law_338 : decode cL_law 338 = .ok (.ifCond .lt 33, 3) := by decide +kernel
theorem dL_law_341 : decode cL_law 341 = .ok (.aload 6, 2) := by decide +kernel
theorem dL_law_343 : decode cL_law 343 = .ok (.iconst 4, 1) := by decide +kernel
theorem dL_law_344 : decode cL_law 344 = .ok (.invokevirtual 168, 3) := by decide +kernel
theorem dL_law_347 : decode cL_law 347 = .ok (.ifCond .ne 24, 3) := by decide +kernel
theorem dL_law_350 : decode cL_law 350 = .ok (.aload_n 1, 1) := by decide +kernel
theorem dL_law_351 : decode cL_law 351 = .ok (.invokestatic 369, 3) := by decide +kernel
theorem dL_law_354 : decode cL_law 354 = .ok (.ifCond .lt 15, 3) := by decide +kernel
theorem dL_law_357 : decode cL_law 357 = .ok (.aload 7, 2) := by decide +kernel
theorem dL_law_359 : decode cL_law 359 = .ok (.aload_n 1, 1) := by decide +kernel
theorem dL_law_360 : decode cL_law 360 = .ok (.invokestatic 387, 3) := by decide +kernel
theorem dL_law_363 : decode cL_law 363 = .ok (.invokevirtual 284, 3) := by decide +kernel
theorem dL_law_366 : decode cL_law 366 = .ok (.ifCond .ne 5, 3) := by decide +kernel
theorem dL_law_369 : decode cL_law 369 = .ok (.iconst 0, 1) := by decide +kernel
theorem dL_law_370 : decode cL_law 370 = .ok (.ireturn, 1) := by decide +kernel
theorem dL_law_371 : decode cL_law 371 = .ok (.aload_n 1, 1) := by decide +kernel
theorem dL_law_372 : decode cL_law 372 = .ok (.invokestatic 395, 3) := by decide +kernel
theorem dL_law_375 : decode cL_law 375 = .ok (.ifCond .eq 17, 3) := by decide +kernel
theorem dL_law_378 : decode cL_law 378 = .ok (.aload_n 1, 1) := by decide +kernel
theorem dL_law_379 : decode cL_law 379 = .ok (.invokestatic 399, 3) := by decide +kernel
theorem dL_law_382 : decode cL_law 382 = .ok (.ifCond .eq 10, 3) := by decide +kernel
theorem dL_law_385 : decode cL_law 385 = .ok (.aload_n 1, 1) := by decide +kernel
theorem dL_law_386 : decode cL_law 386 = .ok (.invokestatic 402, 3) := by decide +kernel
theorem dL_law_389 : decode cL_law 389 = .ok (.ifCond .ne 5, 3) := by decide +kernel
theorem dL_law_392 : decode cL_law 392 = .ok (.iconst 0, 1) := by decide +kernel
theorem dL_law_393 : decode cL_law 393 = .ok (.ireturn, 1) := by decide +kernel
theorem dL_law_394 : decode cL_law 394 = .ok (.iload 4, 2) := by decide +kernel
theorem dL_law_396 : decode cL_law 396 = .ok (.iconst 3, 1) := by decide +kernel
theorem dL_law_397 : decode cL_law 397 = .ok (.irem, 1) := by decide +kernel
theorem dL_law_398 : decode cL_law 398 = .ok (.iconst 2, 1) := by decide +kernel
theorem dL_law_399 : decode cL_law 399 = .ok (.if_icmp .ne 47, 3) := by decide +kernel
theorem dL_law_402 : decode cL_law 402 = .ok (.aload_n 1, 1) := by decide +kernel
theorem dL_law_403 : decode cL_law 403 = .ok (.invokestatic 387, 3) := by decide +kernel
theorem dL_law_406 : decode cL_law 406 = .ok (.astore 7, 2) := by decide +kernel
theorem dL_law_408 : decode cL_law 408 = .ok (.aload_n 1, 1) := by decide +kernel
theorem dL_law_409 : decode cL_law 409 = .ok (.aload 6, 2) := by decide +kernel
theorem dL_law_411 : decode cL_law 411 = .ok (.invokestatic 405, 3) := by decide +kernel
theorem dL_law_414 : decode cL_law 414 = .ok (.ifCond .eq 30, 3) := by decide +kernel
theorem dL_law_417 : decode cL_law 417 = .ok (.aload_n 1, 1) := by decide +kernel
theorem dL_law_418 : decode cL_law 418 = .ok (.invokestatic 409, 3) := by decide +kernel
theorem dL_law_421 : decode cL_law 421 = .ok (.ifCond .eq 23, 3) := by decide +kernel
theorem dL_law_424 : decode cL_law 424 = .ok (.aload 7, 2) := by decide +kernel
theorem dL_law_426 : decode cL_law 426 = .ok (.aload_n 1, 1) := by decide +kernel
theorem dL_law_427 : decode cL_law 427 = .ok (.invokestatic 387, 3) := by decide +kernel
theorem dL_law_430 : decode cL_law 430 = .ok (.invokevirtual 284, 3) := by decide +kernel
theorem dL_law_433 : decode cL_law 433 = .ok (.ifCond .eq 11, 3) := by decide +kernel
theorem dL_law_436 : decode cL_law 436 = .ok (.aload_n 1, 1) := by decide +kernel
theorem dL_law_437 : decode cL_law 437 = .ok (.invokestatic 369, 3) := by decide +kernel
theorem dL_law_440 : decode cL_law 440 = .ok (.iconst (-1), 1) := by decide +kernel
theorem dL_law_441 : decode cL_law 441 = .ok (.if_icmp .eq 5, 3) := by decide +kernel
theorem dL_law_444 : decode cL_law 444 = .ok (.iconst 0, 1) := by decide +kernel
theorem dL_law_445 : decode cL_law 445 = .ok (.ireturn, 1) := by decide +kernel
theorem dL_law_446 : decode cL_law 446 = .ok (.iinc 4 1, 3) := by decide +kernel
theorem dL_law_449 : decode cL_law 449 = .ok (.goto (-185), 3) := by decide +kernel
theorem dL_law_452 : decode cL_law 452 = .ok (.iload_n 3, 1) := by decide +kernel
theorem dL_law_453 : decode cL_law 453 = .ok (.ifCond .le 7, 3) := by decide +kernel
theorem dL_law_456 : decode cL_law 456 = .ok (.iconst 1, 1) := by decide +kernel
theorem dL_law_457 : decode cL_law 457 = .ok (.goto 4, 3) := by decide +kernel
theorem dL_law_460 : decode cL_law 460 = .ok (.iconst 0, 1) := by decide +kernel
theorem dL_law_461 : decode cL_law 461 = .ok (.ireturn, 1) := by decide +kernel
