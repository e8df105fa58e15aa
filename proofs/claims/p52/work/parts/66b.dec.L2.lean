theorem dL_needles_0 : decode cL_needles 0 = .ok (.iconst 0, 1) := by decide +kernel
theorem dL_needles_1 : decode cL_needles 1 = .ok (.istore_n 1, 1) := by decide +kernel
theorem dL_needles_2 : decode cL_needles 2 = .ok (.iconst 0, 1) := by decide +kernel
theorem dL_needles_3 : decode cL_needles 3 = .ok (.istore_n 2, 1) := by decide +kernel
theorem dL_needles_4 : decode cL_needles 4 = .ok (.iconst (-1), 1) := by decide +kernel
theorem dL_needles_5 : decode cL_needles 5 = .ok (.istore_n 3, 1) := by decide +kernel
theorem dL_needles_6 : decode cL_needles 6 = .ok (.iconst 0, 1) := by decide +kernel
theorem dL_needles_7 : decode cL_needles 7 = .ok (.istore 4, 2) := by decide +kernel
theorem dL_needles_9 : decode cL_needles 9 = .ok (.iload 4, 2) := by decide +kernel
theorem dL_needles_11 : decode cL_needles 11 = .ok (.aload_n 0, 1) := by decide +kernel
theorem dL_needles_12 : decode cL_needles 12 = .ok (.invokevirtual 183, 3) := by decide +kernel
theorem dL_needles_15 : decode cL_needles 15 = .ok (.if_icmp .ge 507, 3) := by decide +kernel
theorem dL_needles_18 : decode cL_needles 18 = .ok (.new 141, 3) := by decide +kernel
theorem dL_needles_21 : decode cL_needles 21 = .ok (.dup, 1) := by decide +kernel
theorem dL_needles_22 : decode cL_needles 22 = .ok (.new 141, 3) := by decide +kernel
theorem dL_needles_25 : decode cL_needles 25 = .ok (.dup, 1) := by decide +kernel
theorem dL_needles_26 : decode cL_needles 26 = .ok (.invokespecial 143, 3) := by decide +kernel
theorem dL_needles_29 : decode cL_needles 29 = .ok (.iload 4, 2) := by decide +kernel
theorem dL_needles_31 : decode cL_needles 31 = .ok (.invokevirtual 235, 3) := by decide +kernel
theorem dL_needles_34 : decode cL_needles 34 = .ok (.ldc_w 256, 3) := by decide +kernel
theorem dL_needles_37 : decode cL_needles 37 = .ok (.invokevirtual 229, 3) := by decide +kernel
theorem dL_needles_40 : decode cL_needles 40 = .ok (.aload_n 0, 1) := by decide +kernel
theorem dL_needles_41 : decode cL_needles 41 = .ok (.iload 4, 2) := by decide +kernel
theorem dL_needles_43 : decode cL_needles 43 = .ok (.invokestatic 258, 3) := by decide +kernel
theorem dL_needles_46 : decode cL_needles 46 = .ok (.invokevirtual 235, 3) := by decide +kernel
theorem dL_needles_49 : decode cL_needles 49 = .ok (.invokevirtual 153, 3) := by decide +kernel
theorem dL_needles_52 : decode cL_needles 52 = .ok (.invokespecial 260, 3) := by decide +kernel
theorem dL_needles_55 : decode cL_needles 55 = .ok (.astore 5, 2) := by decide +kernel
theorem dL_needles_57 : decode cL_needles 57 = .ok (.iconst 0, 1) := by decide +kernel
theorem dL_needles_58 : decode cL_needles 58 = .ok (.istore 6, 2) := by decide +kernel
theorem dL_needles_60 : decode cL_needles 60 = .ok (.iconst 0, 1) := by decide +kernel
theorem dL_needles_61 : decode cL_needles 61 = .ok (.istore 7, 2) := by decide +kernel
theorem dL_needles_63 : decode cL_needles 63 = .ok (.iconst 0, 1) := by decide +kernel
theorem dL_needles_64 : decode cL_needles 64 = .ok (.istore 8, 2) := by decide +kernel
theorem dL_needles_66 : decode cL_needles 66 = .ok (.iconst 0, 1) := by decide +kernel
theorem dL_needles_67 : decode cL_needles 67 = .ok (.istore 9, 2) := by decide +kernel
theorem dL_needles_69 : decode cL_needles 69 = .ok (.iload 9, 2) := by decide +kernel
theorem dL_needles_71 : decode cL_needles 71 = .ok (.bipush 8, 2) := by decide +kernel
theorem dL_needles_73 : decode cL_needles 73 = .ok (.if_icmp .ge 93, 3) := by decide +kernel
theorem dL_needles_76 : decode cL_needles 76 = .ok (.aload_n 0, 1) := by decide +kernel
theorem dL_needles_77 : decode cL_needles 77 = .ok (.iload 4, 2) := by decide +kernel
theorem dL_needles_79 : decode cL_needles 79 = .ok (.bipush 45, 2) := by decide +kernel
theorem dL_needles_81 : decode cL_needles 81 = .ok (.iload 9, 2) := by decide +kernel
theorem dL_needles_83 : decode cL_needles 83 = .ok (.imul, 1) := by decide +kernel
theorem dL_needles_84 : decode cL_needles 84 = .ok (.invokestatic 263, 3) := by decide +kernel
theorem dL_needles_87 : decode cL_needles 87 = .ok (.bipush 100, 2) := by decide +kernel
theorem dL_needles_89 : decode cL_needles 89 = .ok (.isub, 1) := by decide +kernel
theorem dL_needles_90 : decode cL_needles 90 = .ok (.istore 10, 2) := by decide +kernel
theorem dL_needles_92 : decode cL_needles 92 = .ok (.aload 5, 2) := by decide +kernel
theorem dL_needles_94 : decode cL_needles 94 = .ok (.bipush 32, 2) := by decide +kernel
theorem dL_needles_96 : decode cL_needles 96 = .ok (.invokevirtual 149, 3) := by decide +kernel
theorem dL_needles_99 : decode cL_needles 99 = .ok (.iload 10, 2) := by decide +kernel
theorem dL_needles_101 : decode cL_needles 101 = .ok (.invokevirtual 235, 3) := by decide +kernel
theorem dL_needles_104 : decode cL_needles 104 = .ok (.pop, 1) := by decide +kernel
theorem dL_needles_105 : decode cL_needles 105 = .ok (.iload 6, 2) := by decide +kernel
theorem dL_needles_107 : decode cL_needles 107 = .ok (.iload 10, 2) := by decide +kernel
theorem dL_needles_109 : decode cL_needles 109 = .ok (.iload 10, 2) := by decide +kernel
theorem dL_needles_111 : decode cL_needles 111 = .ok (.imul, 1) := by decide +kernel
theorem dL_needles_112 : decode cL_needles 112 = .ok (.iadd, 1) := by decide +kernel
theorem dL_needles_113 : decode cL_needles 113 = .ok (.istore 6, 2) := by decide +kernel
theorem dL_needles_115 : decode cL_needles 115 = .ok (.iload 7, 2) := by decide +kernel
theorem dL_needles_117 : decode cL_needles 117 = .ok (.iload 10, 2) := by decide +kernel
theorem dL_needles_119 : decode cL_needles 119 = .ok (.iadd, 1) := by decide +kernel
theorem dL_needles_120 : decode cL_needles 120 = .ok (.istore 7, 2) := by decide +kernel
theorem dL_needles_122 : decode cL_needles 122 = .ok (.iload 8, 2) := by decide +kernel
theorem dL_needles_124 : decode cL_needles 124 = .ok (.iload 10, 2) := by decide +kernel
theorem dL_needles_126 : decode cL_needles 126 = .ok (.invokestatic 265, 3) := by decide +kernel
theorem dL_needles_129 : decode cL_needles 129 = .ok (.aload_n 0, 1) := by decide +kernel
theorem dL_needles_130 : decode cL_needles 130 = .ok (.invokevirtual 232, 3) := by decide +kernel
theorem dL_needles_133 : decode cL_needles 133 = .ok (.if_icmp .le 7, 3) := by decide +kernel
theorem dL_needles_136 : decode cL_needles 136 = .ok (.iconst 1, 1) := by decide +kernel
theorem dL_needles_137 : decode cL_needles 137 = .ok (.goto 4, 3) := by decide +kernel
theorem dL_needles_140 : decode cL_needles 140 = .ok (.iconst 0, 1) := by decide +kernel
theorem dL_needles_141 : decode cL_needles 141 = .ok (.ior, 1) := by decide +kernel
theorem dL_needles_142 : decode cL_needles 142 = .ok (.istore 8, 2) := by decide +kernel
theorem dL_needles_144 : decode cL_needles 144 = .ok (.iload 10, 2) := by decide +kernel
theorem dL_needles_146 : decode cL_needles 146 = .ok (.bipush (-20), 2) := by decide +kernel
theorem dL_needles_148 : decode cL_needles 148 = .ok (.if_icmp .lt 10, 3) := by decide +kernel
theorem dL_needles_151 : decode cL_needles 151 = .ok (.iload 10, 2) := by decide +kernel
theorem dL_needles_153 : decode cL_needles 153 = .ok (.bipush 20, 2) := by decide +kernel
theorem dL_needles_155 : decode cL_needles 155 = .ok (.if_icmp .le 5, 3) := by decide +kernel
theorem dL_needles_158 : decode cL_needles 158 = .ok (.iconst 0, 1) := by decide +kernel
theorem dL_needles_159 : decode cL_needles 159 = .ok (.ireturn, 1) := by decide +kernel
theorem dL_needles_160 : decode cL_needles 160 = .ok (.iinc 9 1, 3) := by decide +kernel
theorem dL_needles_163 : decode cL_needles 163 = .ok (.goto (-94), 3) := by decide +kernel
theorem dL_needles_166 : decode cL_needles 166 = .ok (.aload_n 0, 1) := by decide +kernel
theorem dL_needles_167 : decode cL_needles 167 = .ok (.iload 4, 2) := by decide +kernel
theorem dL_needles_169 : decode cL_needles 169 = .ok (.invokestatic 268, 3) := by decide +kernel
theorem dL_needles_172 : decode cL_needles 172 = .ok (.iconst 1, 1) := by decide +kernel
theorem dL_needles_173 : decode cL_needles 173 = .ok (.if_icmp .ne 7, 3) := by decide +kernel
theorem dL_needles_176 : decode cL_needles 176 = .ok (.iconst 1, 1) := by decide +kernel
theorem dL_needles_177 : decode cL_needles 177 = .ok (.goto 4, 3) := by decide +kernel
theorem dL_needles_180 : decode cL_needles 180 = .ok (.iconst 0, 1) := by decide +kernel
theorem dL_needles_181 : decode cL_needles 181 = .ok (.istore 9, 2) := by decide +kernel
theorem dL_needles_183 : decode cL_needles 183 = .ok (.aload 5, 2) := by decide +kernel
theorem dL_needles_185 : decode cL_needles 185 = .ok (.iload 9, 2) := by decide +kernel
theorem dL_needles_187 : decode cL_needles 187 = .ok (.ifCond .eq 9, 3) := by decide +kernel
theorem dL_needles_190 : decode cL_needles 190 = .ok (.ldc_w 270, 3) := by decide +kernel
theorem dL_needles_193 : decode cL_needles 193 = .ok (.goto 17, 3) := by decide +kernel
theorem dL_needles_196 : decode cL_needles 196 = .ok (.iload 8, 2) := by decide +kernel
theorem dL_needles_198 : decode cL_needles 198 = .ok (.ifCond .eq 9, 3) := by decide +kernel
theorem dL_needles_201 : decode cL_needles 201 = .ok (.ldc_w 272, 3) := by decide +kernel
theorem dL_needles_204 : decode cL_needles 204 = .ok (.goto 6, 3) := by decide +kernel
theorem dL_needles_207 : decode cL_needles 207 = .ok (.ldc_w 274, 3) := by decide +kernel
theorem dL_needles_210 : decode cL_needles 210 = .ok (.invokevirtual 229, 3) := by decide +kernel
theorem dL_needles_213 : decode cL_needles 213 = .ok (.pop, 1) := by decide +kernel
theorem dL_needles_214 : decode cL_needles 214 = .ok (.aload_n 0, 1) := by decide +kernel
theorem dL_needles_215 : decode cL_needles 215 = .ok (.iload 4, 2) := by decide +kernel
theorem dL_needles_217 : decode cL_needles 217 = .ok (.invokestatic 276, 3) := by decide +kernel
theorem dL_needles_220 : decode cL_needles 220 = .ok (.bipush 100, 2) := by decide +kernel
theorem dL_needles_222 : decode cL_needles 222 = .ok (.isub, 1) := by decide +kernel
theorem dL_needles_223 : decode cL_needles 223 = .ok (.istore 10, 2) := by decide +kernel
theorem dL_needles_225 : decode cL_needles 225 = .ok (.iconst 1, 1) := by decide +kernel
theorem dL_needles_226 : decode cL_needles 226 = .ok (.istore 11, 2) := by decide +kernel
theorem dL_needles_228 : decode cL_needles 228 = .ok (.bipush (-20), 2) := by decide +kernel
theorem dL_needles_230 : decode cL_needles 230 = .ok (.istore 12, 2) := by decide +kernel
theorem dL_needles_232 : decode cL_needles 232 = .ok (.iload 12, 2) := by decide +kernel
theorem dL_needles_234 : decode cL_needles 234 = .ok (.bipush 20, 2) := by decide +kernel
theorem dL_needles_236 : decode cL_needles 236 = .ok (.if_icmp .gt 95, 3) := by decide +kernel
theorem dL_needles_239 : decode cL_needles 239 = .ok (.iload 6, 2) := by decide +kernel
theorem dL_needles_241 : decode cL_needles 241 = .ok (.iconst 2, 1) := by decide +kernel
theorem dL_needles_242 : decode cL_needles 242 = .ok (.iload 12, 2) := by decide +kernel
theorem dL_needles_244 : decode cL_needles 244 = .ok (.imul, 1) := by decide +kernel
theorem dL_needles_245 : decode cL_needles 245 = .ok (.iload 7, 2) := by decide +kernel
theorem dL_needles_247 : decode cL_needles 247 = .ok (.imul, 1) := by decide +kernel
theorem dL_needles_248 : decode cL_needles 248 = .ok (.iadd, 1) := by decide +kernel
theorem dL_needles_249 : decode cL_needles 249 = .ok (.bipush 8, 2) := by decide +kernel
theorem dL_needles_251 : decode cL_needles 251 = .ok (.iload 12, 2) := by decide +kernel
theorem dL_needles_253 : decode cL_needles 253 = .ok (.imul, 1) := by decide +kernel
theorem dL_needles_254 : decode cL_needles 254 = .ok (.iload 12, 2) := by decide +kernel
theorem dL_needles_256 : decode cL_needles 256 = .ok (.imul, 1) := by decide +kernel
theorem dL_needles_257 : decode cL_needles 257 = .ok (.iadd, 1) := by decide +kernel
theorem dL_needles_258 : decode cL_needles 258 = .ok (.istore 13, 2) := by decide +kernel
theorem dL_needles_260 : decode cL_needles 260 = .ok (.iload 6, 2) := by decide +kernel
theorem dL_needles_262 : decode cL_needles 262 = .ok (.iconst 2, 1) := by decide +kernel
theorem dL_needles_263 : decode cL_needles 263 = .ok (.iload 10, 2) := by decide +kernel
theorem dL_needles_265 : decode cL_needles 265 = .ok (.imul, 1) := by decide +kernel
theorem dL_needles_266 : decode cL_needles 266 = .ok (.iload 7, 2) := by decide +kernel
theorem dL_needles_268 : decode cL_needles 268 = .ok (.imul, 1) := by decide +kernel
theorem dL_needles_269 : decode cL_needles 269 = .ok (.iadd, 1) := by decide +kernel
theorem dL_needles_270 : decode cL_needles 270 = .ok (.bipush 8, 2) := by decide +kernel
theorem dL_needles_272 : decode cL_needles 272 = .ok (.iload 10, 2) := by decide +kernel
theorem dL_needles_274 : decode cL_needles 274 = .ok (.imul, 1) := by decide +kernel
theorem dL_needles_275 : decode cL_needles 275 = .ok (.iload 10, 2) := by decide +kernel
theorem dL_needles_277 : decode cL_needles 277 = .ok (.imul, 1) := by decide +kernel
theorem dL_needles_278 : decode cL_needles 278 = .ok (.iadd, 1) := by decide +kernel
theorem dL_needles_279 : decode cL_needles 279 = .ok (.istore 14, 2) := by decide +kernel
theorem dL_needles_281 : decode cL_needles 281 = .ok (.iload 11, 2) := by decide +kernel
theorem dL_needles_283 : decode cL_needles 283 = .ok (.iload 13, 2) := by decide +kernel
theorem dL_needles_285 : decode cL_needles 285 = .ok (.iload 14, 2) := by decide +kernel
theorem dL_needles_287 : decode cL_needles 287 = .ok (.if_icmp .gt 30, 3) := by decide +kernel
theorem dL_needles_290 : decode cL_needles 290 = .ok (.iload 13, 2) := by decide +kernel
theorem dL_needles_292 : decode cL_needles 292 = .ok (.iload 14, 2) := by decide +kernel
theorem dL_needles_294 : decode cL_needles 294 = .ok (.if_icmp .ne 27, 3) := by decide +kernel
theorem dL_needles_297 : decode cL_needles 297 = .ok (.iload 12, 2) := by decide +kernel
theorem dL_needles_299 : decode cL_needles 299 = .ok (.iload 10, 2) := by decide +kernel
theorem dL_needles_301 : decode cL_needles 301 = .ok (.if_icmp .eq 16, 3) := by decide +kernel
theorem dL_needles_304 : decode cL_needles 304 = .ok (.iload 12, 2) := by decide +kernel
theorem dL_needles_306 : decode cL_needles 306 = .ok (.invokestatic 265, 3) := by decide +kernel
theorem dL_needles_309 : decode cL_needles 309 = .ok (.iload 10, 2) := by decide +kernel
theorem dL_needles_311 : decode cL_needles 311 = .ok (.invokestatic 265, 3) := by decide +kernel
theorem dL_needles_314 : decode cL_needles 314 = .ok (.if_icmp .le 7, 3) := by decide +kernel
theorem dL_needles_317 : decode cL_needles 317 = .ok (.iconst 1, 1) := by decide +kernel
theorem dL_needles_318 : decode cL_needles 318 = .ok (.goto 4, 3) := by decide +kernel
theorem dL_needles_321 : decode cL_needles 321 = .ok (.iconst 0, 1) := by decide +kernel
theorem dL_needles_322 : decode cL_needles 322 = .ok (.iand, 1) := by decide +kernel
theorem dL_needles_323 : decode cL_needles 323 = .ok (.istore 11, 2) := by decide +kernel
theorem dL_needles_325 : decode cL_needles 325 = .ok (.iinc 12 1, 3) := by decide +kernel
theorem dL_needles_328 : decode cL_needles 328 = .ok (.goto (-96), 3) := by decide +kernel
theorem dL_needles_331 : decode cL_needles 331 = .ok (.aload_n 0, 1) := by decide +kernel
theorem dL_needles_332 : decode cL_needles 332 = .ok (.iload 4, 2) := by decide +kernel
theorem dL_needles_334 : decode cL_needles 334 = .ok (.invokestatic 278, 3) := by decide +kernel
theorem dL_needles_337 : decode cL_needles 337 = .ok (.iload 6, 2) := by decide +kernel
theorem dL_needles_339 : decode cL_needles 339 = .ok (.if_icmp .ne 63, 3) := by decide +kernel
theorem dL_needles_342 : decode cL_needles 342 = .ok (.aload_n 0, 1) := by decide +kernel
theorem dL_needles_343 : decode cL_needles 343 = .ok (.iload 4, 2) := by decide +kernel
theorem dL_needles_345 : decode cL_needles 345 = .ok (.invokestatic 280, 3) := by decide +kernel
theorem dL_needles_348 : decode cL_needles 348 = .ok (.iconst 1, 1) := by decide +kernel
theorem dL_needles_349 : decode cL_needles 349 = .ok (.if_icmp .ne 7, 3) := by decide +kernel
theorem dL_needles_352 : decode cL_needles 352 = .ok (.iconst 1, 1) := by decide +kernel
theorem dL_needles_353 : decode cL_needles 353 = .ok (.goto 4, 3) := by decide +kernel
theorem dL_needles_356 : decode cL_needles 356 = .ok (.iconst 0, 1) := by decide +kernel
theorem dL_needles_357 : decode cL_needles 357 = .ok (.iload 8, 2) := by decide +kernel
theorem dL_needles_359 : decode cL_needles 359 = .ok (.if_icmp .ne 43, 3) := by decide +kernel
theorem dL_needles_362 : decode cL_needles 362 = .ok (.aload_n 0, 1) := by decide +kernel
theorem dL_needles_363 : decode cL_needles 363 = .ok (.iload 4, 2) := by decide +kernel
theorem dL_needles_365 : decode cL_needles 365 = .ok (.invokestatic 282, 3) := by decide +kernel
theorem dL_needles_368 : decode cL_needles 368 = .ok (.iload 10, 2) := by decide +kernel
theorem dL_needles_370 : decode cL_needles 370 = .ok (.bipush 100, 2) := by decide +kernel
theorem dL_needles_372 : decode cL_needles 372 = .ok (.iadd, 1) := by decide +kernel
theorem dL_needles_373 : decode cL_needles 373 = .ok (.if_icmp .ne 29, 3) := by decide +kernel
theorem dL_needles_376 : decode cL_needles 376 = .ok (.iload 11, 2) := by decide +kernel
theorem dL_needles_378 : decode cL_needles 378 = .ok (.ifCond .eq 24, 3) := by decide +kernel
theorem dL_needles_381 : decode cL_needles 381 = .ok (.aload_n 0, 1) := by decide +kernel
theorem dL_needles_382 : decode cL_needles 382 = .ok (.aload_n 0, 1) := by decide +kernel
theorem dL_needles_383 : decode cL_needles 383 = .ok (.iload 4, 2) := by decide +kernel
theorem dL_needles_385 : decode cL_needles 385 = .ok (.invokestatic 223, 3) := by decide +kernel
theorem dL_needles_388 : decode cL_needles 388 = .ok (.invokestatic 225, 3) := by decide +kernel
theorem dL_needles_391 : decode cL_needles 391 = .ok (.aload 5, 2) := by decide +kernel
theorem dL_needles_393 : decode cL_needles 393 = .ok (.invokevirtual 153, 3) := by decide +kernel
theorem dL_needles_396 : decode cL_needles 396 = .ok (.invokevirtual 284, 3) := by decide +kernel
theorem dL_needles_399 : decode cL_needles 399 = .ok (.ifCond .ne 5, 3) := by decide +kernel
theorem dL_needles_402 : decode cL_needles 402 = .ok (.iconst 0, 1) := by decide +kernel
theorem dL_needles_403 : decode cL_needles 403 = .ok (.ireturn, 1) := by decide +kernel
theorem dL_needles_404 : decode cL_needles 404 = .ok (.iload_n 1, 1) := by decide +kernel
theorem dL_needles_405 : decode cL_needles 405 = .ok (.iload 9, 2) := by decide +kernel
theorem dL_needles_407 : decode cL_needles 407 = .ok (.ifCond .ne 8, 3) := by decide +kernel
theorem dL_needles_410 : decode cL_needles 410 = .ok (.iload 8, 2) := by decide +kernel
theorem dL_needles_412 : decode cL_needles 412 = .ok (.ifCond .eq 7, 3) := by decide +kernel
theorem dL_needles_415 : decode cL_needles 415 = .ok (.iconst 0, 1) := by decide +kernel
theorem dL_needles_416 : decode cL_needles 416 = .ok (.goto 4, 3) := by decide +kernel
theorem dL_needles_419 : decode cL_needles 419 = .ok (.iconst 1, 1) := by decide +kernel
theorem dL_needles_420 : decode cL_needles 420 = .ok (.iadd, 1) := by decide +kernel
theorem dL_needles_421 : decode cL_needles 421 = .ok (.istore_n 1, 1) := by decide +kernel
theorem dL_needles_422 : decode cL_needles 422 = .ok (.iload_n 2, 1) := by decide +kernel
theorem dL_needles_423 : decode cL_needles 423 = .ok (.iload 9, 2) := by decide +kernel
theorem dL_needles_425 : decode cL_needles 425 = .ok (.ifCond .ne 8, 3) := by decide +kernel
theorem dL_needles_428 : decode cL_needles 428 = .ok (.iload 8, 2) := by decide +kernel
theorem dL_needles_430 : decode cL_needles 430 = .ok (.ifCond .eq 7, 3) := by decide +kernel
theorem dL_needles_433 : decode cL_needles 433 = .ok (.iconst 0, 1) := by decide +kernel
theorem dL_needles_434 : decode cL_needles 434 = .ok (.goto 5, 3) := by decide +kernel
theorem dL_needles_437 : decode cL_needles 437 = .ok (.iload 6, 2) := by decide +kernel
theorem dL_needles_439 : decode cL_needles 439 = .ok (.iadd, 1) := by decide +kernel
theorem dL_needles_440 : decode cL_needles 440 = .ok (.istore_n 2, 1) := by decide +kernel
theorem dL_needles_441 : decode cL_needles 441 = .ok (.aload_n 0, 1) := by decide +kernel
theorem dL_needles_442 : decode cL_needles 442 = .ok (.iload 4, 2) := by decide +kernel
theorem dL_needles_444 : decode cL_needles 444 = .ok (.invokestatic 288, 3) := by decide +kernel
theorem dL_needles_447 : decode cL_needles 447 = .ok (.istore 12, 2) := by decide +kernel
theorem dL_needles_449 : decode cL_needles 449 = .ok (.iload_n 3, 1) := by decide +kernel
theorem dL_needles_450 : decode cL_needles 450 = .ok (.ifCond .ge 7, 3) := by decide +kernel
theorem dL_needles_453 : decode cL_needles 453 = .ok (.iconst (-1), 1) := by decide +kernel
theorem dL_needles_454 : decode cL_needles 454 = .ok (.goto 15, 3) := by decide +kernel
theorem dL_needles_457 : decode cL_needles 457 = .ok (.aload_n 0, 1) := by decide +kernel
theorem dL_needles_458 : decode cL_needles 458 = .ok (.iload_n 3, 1) := by decide +kernel
theorem dL_needles_459 : decode cL_needles 459 = .ok (.invokestatic 278, 3) := by decide +kernel
theorem dL_needles_462 : decode cL_needles 462 = .ok (.aload_n 0, 1) := by decide +kernel
theorem dL_needles_463 : decode cL_needles 463 = .ok (.iload 12, 2) := by decide +kernel
theorem dL_needles_465 : decode cL_needles 465 = .ok (.invokestatic 278, 3) := by decide +kernel
theorem dL_needles_468 : decode cL_needles 468 = .ok (.isub, 1) := by decide +kernel
theorem dL_needles_469 : decode cL_needles 469 = .ok (.istore 13, 2) := by decide +kernel
theorem dL_needles_471 : decode cL_needles 471 = .ok (.iload 13, 2) := by decide +kernel
theorem dL_needles_473 : decode cL_needles 473 = .ok (.ifCond .eq 8, 3) := by decide +kernel
theorem dL_needles_476 : decode cL_needles 476 = .ok (.iload 13, 2) := by decide +kernel
theorem dL_needles_478 : decode cL_needles 478 = .ok (.goto 15, 3) := by decide +kernel
theorem dL_needles_481 : decode cL_needles 481 = .ok (.aload_n 0, 1) := by decide +kernel
theorem dL_needles_482 : decode cL_needles 482 = .ok (.iload 12, 2) := by decide +kernel
theorem dL_needles_484 : decode cL_needles 484 = .ok (.invokestatic 258, 3) := by decide +kernel
theorem dL_needles_487 : decode cL_needles 487 = .ok (.aload_n 0, 1) := by decide +kernel
theorem dL_needles_488 : decode cL_needles 488 = .ok (.iload_n 3, 1) := by decide +kernel
theorem dL_needles_489 : decode cL_needles 489 = .ok (.invokestatic 258, 3) := by decide +kernel
theorem dL_needles_492 : decode cL_needles 492 = .ok (.isub, 1) := by decide +kernel
theorem dL_needles_493 : decode cL_needles 493 = .ok (.istore 13, 2) := by decide +kernel
theorem dL_needles_495 : decode cL_needles 495 = .ok (.iload 13, 2) := by decide +kernel
theorem dL_needles_497 : decode cL_needles 497 = .ok (.ifCond .gt 14, 3) := by decide +kernel
theorem dL_needles_500 : decode cL_needles 500 = .ok (.iload 13, 2) := by decide +kernel
theorem dL_needles_502 : decode cL_needles 502 = .ok (.ifCond .ne 11, 3) := by decide +kernel
theorem dL_needles_505 : decode cL_needles 505 = .ok (.iload_n 3, 1) := by decide +kernel
theorem dL_needles_506 : decode cL_needles 506 = .ok (.iload 12, 2) := by decide +kernel
theorem dL_needles_508 : decode cL_needles 508 = .ok (.if_icmp .lt 5, 3) := by decide +kernel
theorem dL_needles_511 : decode cL_needles 511 = .ok (.iconst 0, 1) := by decide +kernel
theorem dL_needles_512 : decode cL_needles 512 = .ok (.ireturn, 1) := by decide +kernel
theorem dL_needles_513 : decode cL_needles 513 = .ok (.iload 12, 2) := by decide +kernel
theorem dL_needles_515 : decode cL_needles 515 = .ok (.istore_n 3, 1) := by decide +kernel
theorem dL_needles_516 : decode cL_needles 516 = .ok (.iinc 4 1, 3) := by decide +kernel
theorem dL_needles_519 : decode cL_needles 519 = .ok (.goto (-510), 3) := by decide +kernel
theorem dL_needles_522 : decode cL_needles 522 = .ok (.iload_n 1, 1) := by decide +kernel
theorem dL_needles_523 : decode cL_needles 523 = .ok (.ifCond .ne 9, 3) := by decide +kernel
theorem dL_needles_526 : decode cL_needles 526 = .ok (.ldc2_w 83, 3) := by decide +kernel
theorem dL_needles_529 : decode cL_needles 529 = .ok (.goto 8, 3) := by decide +kernel
theorem dL_needles_532 : decode cL_needles 532 = .ok (.iload_n 2, 1) := by decide +kernel
theorem dL_needles_533 : decode cL_needles 533 = .ok (.i2d, 1) := by decide +kernel
theorem dL_needles_534 : decode cL_needles 534 = .ok (.iload_n 1, 1) := by decide +kernel
theorem dL_needles_535 : decode cL_needles 535 = .ok (.i2d, 1) := by decide +kernel
theorem dL_needles_536 : decode cL_needles 536 = .ok (.ddiv, 1) := by decide +kernel
theorem dL_needles_537 : decode cL_needles 537 = .ok (.dstore 4, 2) := by decide +kernel
theorem dL_needles_539 : decode cL_needles 539 = .ok (.aload_n 0, 1) := by decide +kernel
theorem dL_needles_540 : decode cL_needles 540 = .ok (.invokevirtual 290, 3) := by decide +kernel
theorem dL_needles_543 : decode cL_needles 543 = .ok (.iload_n 1, 1) := by decide +kernel
theorem dL_needles_544 : decode cL_needles 544 = .ok (.if_icmp .ne 41, 3) := by decide +kernel
theorem dL_needles_547 : decode cL_needles 547 = .ok (.aload_n 0, 1) := by decide +kernel
theorem dL_needles_548 : decode cL_needles 548 = .ok (.invokestatic 293, 3) := by decide +kernel
theorem dL_needles_551 : decode cL_needles 551 = .ok (.dload 4, 2) := by decide +kernel
theorem dL_needles_553 : decode cL_needles 553 = .ok (.dcmp .l, 1) := by decide +kernel
theorem dL_needles_554 : decode cL_needles 554 = .ok (.ifCond .ne 31, 3) := by decide +kernel
theorem dL_needles_557 : decode cL_needles 557 = .ok (.aload_n 0, 1) := by decide +kernel
theorem dL_needles_558 : decode cL_needles 558 = .ok (.aload_n 0, 1) := by decide +kernel
theorem dL_needles_559 : decode cL_needles 559 = .ok (.invokevirtual 183, 3) := by decide +kernel
theorem dL_needles_562 : decode cL_needles 562 = .ok (.invokestatic 288, 3) := by decide +kernel
theorem dL_needles_565 : decode cL_needles 565 = .ok (.iconst (-1), 1) := by decide +kernel
theorem dL_needles_566 : decode cL_needles 566 = .ok (.if_icmp .ne 19, 3) := by decide +kernel
theorem dL_needles_569 : decode cL_needles 569 = .ok (.aload_n 0, 1) := by decide +kernel
theorem dL_needles_570 : decode cL_needles 570 = .ok (.aload_n 0, 1) := by decide +kernel
theorem dL_needles_571 : decode cL_needles 571 = .ok (.invokevirtual 183, 3) := by decide +kernel
theorem dL_needles_574 : decode cL_needles 574 = .ok (.invokestatic 278, 3) := by decide +kernel
theorem dL_needles_577 : decode cL_needles 577 = .ok (.iconst (-1), 1) := by decide +kernel
theorem dL_needles_578 : decode cL_needles 578 = .ok (.if_icmp .ne 7, 3) := by decide +kernel
theorem dL_needles_581 : decode cL_needles 581 = .ok (.iconst 1, 1) := by decide +kernel
theorem dL_needles_582 : decode cL_needles 582 = .ok (.goto 4, 3) := by decide +kernel
theorem dL_needles_585 : decode cL_needles 585 = .ok (.iconst 0, 1) := by decide +kernel
theorem dL_needles_586 : decode cL_needles 586 = .ok (.ireturn, 1) := by decide +kernel
