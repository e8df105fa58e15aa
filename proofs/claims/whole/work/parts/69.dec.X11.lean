theorem dX11_init_0 : decode cX11_init 0 = .ok (.aload_n 0, 1) := by decide +kernel
theorem dX11_init_1 : decode cX11_init 1 = .ok (.invokespecial 1, 3) := by decide +kernel
theorem dX11_init_4 : decode cX11_init 4 = .ok (.aload_n 0, 1) := by decide +kernel
theorem dX11_init_5 : decode cX11_init 5 = .ok (.iconst (-1), 1) := by decide +kernel
theorem dX11_init_6 : decode cX11_init 6 = .ok (.putfield 7, 3) := by decide +kernel
theorem dX11_init_9 : decode cX11_init 9 = .ok (.aload_n 0, 1) := by decide +kernel
theorem dX11_init_10 : decode cX11_init 10 = .ok (.iconst (-1), 1) := by decide +kernel
theorem dX11_init_11 : decode cX11_init 11 = .ok (.putfield 13, 3) := by decide +kernel
theorem dX11_init_14 : decode cX11_init 14 = .ok (.aload_n 0, 1) := by decide +kernel
theorem dX11_init_15 : decode cX11_init 15 = .ok (.bipush 118, 2) := by decide +kernel
theorem dX11_init_17 : decode cX11_init 17 = .ok (.newarray .int, 2) := by decide +kernel
theorem dX11_init_19 : decode cX11_init 19 = .ok (.putfield 16, 3) := by decide +kernel
theorem dX11_init_22 : decode cX11_init 22 = .ok (.aload_n 0, 1) := by decide +kernel
theorem dX11_init_23 : decode cX11_init 23 = .ok (.bipush 118, 2) := by decide +kernel
theorem dX11_init_25 : decode cX11_init 25 = .ok (.newarray .int, 2) := by decide +kernel
theorem dX11_init_27 : decode cX11_init 27 = .ok (.putfield 20, 3) := by decide +kernel
theorem dX11_init_30 : decode cX11_init 30 = .ok (.aload_n 0, 1) := by decide +kernel
theorem dX11_init_31 : decode cX11_init 31 = .ok (.bipush 118, 2) := by decide +kernel
theorem dX11_init_33 : decode cX11_init 33 = .ok (.newarray .int, 2) := by decide +kernel
theorem dX11_init_35 : decode cX11_init 35 = .ok (.putfield 23, 3) := by decide +kernel
theorem dX11_init_38 : decode cX11_init 38 = .ok (.aload_n 0, 1) := by decide +kernel
theorem dX11_init_39 : decode cX11_init 39 = .ok (.sipush 944, 3) := by decide +kernel
theorem dX11_init_42 : decode cX11_init 42 = .ok (.newarray .int, 2) := by decide +kernel
theorem dX11_init_44 : decode cX11_init 44 = .ok (.putfield 26, 3) := by decide +kernel
theorem dX11_init_47 : decode cX11_init 47 = .ok (.aload_n 0, 1) := by decide +kernel
theorem dX11_init_48 : decode cX11_init 48 = .ok (.sipush 256, 3) := by decide +kernel
theorem dX11_init_51 : decode cX11_init 51 = .ok (.newarray .int, 2) := by decide +kernel
theorem dX11_init_53 : decode cX11_init 53 = .ok (.putfield 29, 3) := by decide +kernel
theorem dX11_init_56 : decode cX11_init 56 = .ok (.aload_n 0, 1) := by decide +kernel
theorem dX11_init_57 : decode cX11_init 57 = .ok (.sipush 128, 3) := by decide +kernel
theorem dX11_init_60 : decode cX11_init 60 = .ok (.newarray .int, 2) := by decide +kernel
theorem dX11_init_62 : decode cX11_init 62 = .ok (.putfield 32, 3) := by decide +kernel
theorem dX11_init_65 : decode cX11_init 65 = .ok (.aload_n 0, 1) := by decide +kernel
theorem dX11_init_66 : decode cX11_init 66 = .ok (.sipush 360, 3) := by decide +kernel
theorem dX11_init_69 : decode cX11_init 69 = .ok (.newarray .int, 2) := by decide +kernel
theorem dX11_init_71 : decode cX11_init 71 = .ok (.putfield 35, 3) := by decide +kernel
theorem dX11_init_74 : decode cX11_init 74 = .ok (.aload_n 0, 1) := by decide +kernel
theorem dX11_init_75 : decode cX11_init 75 = .ok (.bipush 60, 2) := by decide +kernel
theorem dX11_init_77 : decode cX11_init 77 = .ok (.newarray .int, 2) := by decide +kernel
theorem dX11_init_79 : decode cX11_init 79 = .ok (.putfield 38, 3) := by decide +kernel
theorem dX11_init_82 : decode cX11_init 82 = .ok (.aload_n 0, 1) := by decide +kernel
theorem dX11_init_83 : decode cX11_init 83 = .ok (.bipush 60, 2) := by decide +kernel
theorem dX11_init_85 : decode cX11_init 85 = .ok (.newarray .int, 2) := by decide +kernel
theorem dX11_init_87 : decode cX11_init 87 = .ok (.putfield 41, 3) := by decide +kernel
theorem dX11_init_90 : decode cX11_init 90 = .ok (.aload_n 0, 1) := by decide +kernel
theorem dX11_init_91 : decode cX11_init 91 = .ok (.bipush 10, 2) := by decide +kernel
theorem dX11_init_93 : decode cX11_init 93 = .ok (.newarray .int, 2) := by decide +kernel
theorem dX11_init_95 : decode cX11_init 95 = .ok (.putfield 44, 3) := by decide +kernel
theorem dX11_init_98 : decode cX11_init 98 = .ok (.aload_n 0, 1) := by decide +kernel
theorem dX11_init_99 : decode cX11_init 99 = .ok (.bipush 60, 2) := by decide +kernel
theorem dX11_init_101 : decode cX11_init 101 = .ok (.newarray .int, 2) := by decide +kernel
theorem dX11_init_103 : decode cX11_init 103 = .ok (.dup, 1) := by decide +kernel
theorem dX11_init_104 : decode cX11_init 104 = .ok (.iconst 0, 1) := by decide +kernel
theorem dX11_init_105 : decode cX11_init 105 = .ok (.bipush 110, 2) := by decide +kernel
theorem dX11_init_107 : decode cX11_init 107 = .ok (.iastore, 1) := by decide +kernel
theorem dX11_init_108 : decode cX11_init 108 = .ok (.dup, 1) := by decide +kernel
theorem dX11_init_109 : decode cX11_init 109 = .ok (.iconst 1, 1) := by decide +kernel
theorem dX11_init_110 : decode cX11_init 110 = .ok (.bipush 101, 2) := by decide +kernel
theorem dX11_init_112 : decode cX11_init 112 = .ok (.iastore, 1) := by decide +kernel
theorem dX11_init_113 : decode cX11_init 113 = .ok (.dup, 1) := by decide +kernel
theorem dX11_init_114 : decode cX11_init 114 = .ok (.iconst 2, 1) := by decide +kernel
theorem dX11_init_115 : decode cX11_init 115 = .ok (.bipush 101, 2) := by decide +kernel
theorem dX11_init_117 : decode cX11_init 117 = .ok (.iastore, 1) := by decide +kernel
theorem dX11_init_118 : decode cX11_init 118 = .ok (.dup, 1) := by decide +kernel
theorem dX11_init_119 : decode cX11_init 119 = .ok (.iconst 3, 1) := by decide +kernel
theorem dX11_init_120 : decode cX11_init 120 = .ok (.bipush 100, 2) := by decide +kernel
theorem dX11_init_122 : decode cX11_init 122 = .ok (.iastore, 1) := by decide +kernel
theorem dX11_init_123 : decode cX11_init 123 = .ok (.dup, 1) := by decide +kernel
theorem dX11_init_124 : decode cX11_init 124 = .ok (.iconst 4, 1) := by decide +kernel
theorem dX11_init_125 : decode cX11_init 125 = .ok (.bipush 108, 2) := by decide +kernel
theorem dX11_init_127 : decode cX11_init 127 = .ok (.iastore, 1) := by decide +kernel
theorem dX11_init_128 : decode cX11_init 128 = .ok (.dup, 1) := by decide +kernel
theorem dX11_init_129 : decode cX11_init 129 = .ok (.iconst 5, 1) := by decide +kernel
theorem dX11_init_130 : decode cX11_init 130 = .ok (.bipush 101, 2) := by decide +kernel
theorem dX11_init_132 : decode cX11_init 132 = .ok (.iastore, 1) := by decide +kernel
theorem dX11_init_133 : decode cX11_init 133 = .ok (.dup, 1) := by decide +kernel
theorem dX11_init_134 : decode cX11_init 134 = .ok (.bipush 6, 2) := by decide +kernel
theorem dX11_init_136 : decode cX11_init 136 = .ok (.bipush 32, 2) := by decide +kernel
theorem dX11_init_138 : decode cX11_init 138 = .ok (.iastore, 1) := by decide +kernel
theorem dX11_init_139 : decode cX11_init 139 = .ok (.dup, 1) := by decide +kernel
theorem dX11_init_140 : decode cX11_init 140 = .ok (.bipush 7, 2) := by decide +kernel
theorem dX11_init_142 : decode cX11_init 142 = .ok (.bipush 115, 2) := by decide +kernel
theorem dX11_init_144 : decode cX11_init 144 = .ok (.iastore, 1) := by decide +kernel
theorem dX11_init_145 : decode cX11_init 145 = .ok (.dup, 1) := by decide +kernel
theorem dX11_init_146 : decode cX11_init 146 = .ok (.bipush 8, 2) := by decide +kernel
theorem dX11_init_148 : decode cX11_init 148 = .ok (.bipush 101, 2) := by decide +kernel
theorem dX11_init_150 : decode cX11_init 150 = .ok (.iastore, 1) := by decide +kernel
theorem dX11_init_151 : decode cX11_init 151 = .ok (.dup, 1) := by decide +kernel
theorem dX11_init_152 : decode cX11_init 152 = .ok (.bipush 9, 2) := by decide +kernel
theorem dX11_init_154 : decode cX11_init 154 = .ok (.bipush 116, 2) := by decide +kernel
theorem dX11_init_156 : decode cX11_init 156 = .ok (.iastore, 1) := by decide +kernel
theorem dX11_init_157 : decode cX11_init 157 = .ok (.dup, 1) := by decide +kernel
theorem dX11_init_158 : decode cX11_init 158 = .ok (.bipush 10, 2) := by decide +kernel
theorem dX11_init_160 : decode cX11_init 160 = .ok (.bipush 32, 2) := by decide +kernel
theorem dX11_init_162 : decode cX11_init 162 = .ok (.iastore, 1) := by decide +kernel
theorem dX11_init_163 : decode cX11_init 163 = .ok (.dup, 1) := by decide +kernel
theorem dX11_init_164 : decode cX11_init 164 = .ok (.bipush 11, 2) := by decide +kernel
theorem dX11_init_166 : decode cX11_init 166 = .ok (.bipush 115, 2) := by decide +kernel
theorem dX11_init_168 : decode cX11_init 168 = .ok (.iastore, 1) := by decide +kernel
theorem dX11_init_169 : decode cX11_init 169 = .ok (.dup, 1) := by decide +kernel
theorem dX11_init_170 : decode cX11_init 170 = .ok (.bipush 12, 2) := by decide +kernel
theorem dX11_init_172 : decode cX11_init 172 = .ok (.bipush 104, 2) := by decide +kernel
theorem dX11_init_174 : decode cX11_init 174 = .ok (.iastore, 1) := by decide +kernel
theorem dX11_init_175 : decode cX11_init 175 = .ok (.dup, 1) := by decide +kernel
theorem dX11_init_176 : decode cX11_init 176 = .ok (.bipush 13, 2) := by decide +kernel
theorem dX11_init_178 : decode cX11_init 178 = .ok (.bipush 105, 2) := by decide +kernel
theorem dX11_init_180 : decode cX11_init 180 = .ok (.iastore, 1) := by decide +kernel
theorem dX11_init_181 : decode cX11_init 181 = .ok (.dup, 1) := by decide +kernel
theorem dX11_init_182 : decode cX11_init 182 = .ok (.bipush 14, 2) := by decide +kernel
theorem dX11_init_184 : decode cX11_init 184 = .ok (.bipush 102, 2) := by decide +kernel
theorem dX11_init_186 : decode cX11_init 186 = .ok (.iastore, 1) := by decide +kernel
theorem dX11_init_187 : decode cX11_init 187 = .ok (.dup, 1) := by decide +kernel
theorem dX11_init_188 : decode cX11_init 188 = .ok (.bipush 15, 2) := by decide +kernel
theorem dX11_init_190 : decode cX11_init 190 = .ok (.bipush 116, 2) := by decide +kernel
theorem dX11_init_192 : decode cX11_init 192 = .ok (.iastore, 1) := by decide +kernel
theorem dX11_init_193 : decode cX11_init 193 = .ok (.dup, 1) := by decide +kernel
theorem dX11_init_194 : decode cX11_init 194 = .ok (.bipush 16, 2) := by decide +kernel
theorem dX11_init_196 : decode cX11_init 196 = .ok (.bipush 32, 2) := by decide +kernel
theorem dX11_init_198 : decode cX11_init 198 = .ok (.iastore, 1) := by decide +kernel
theorem dX11_init_199 : decode cX11_init 199 = .ok (.dup, 1) := by decide +kernel
theorem dX11_init_200 : decode cX11_init 200 = .ok (.bipush 17, 2) := by decide +kernel
theorem dX11_init_202 : decode cX11_init 202 = .ok (.bipush 99, 2) := by decide +kernel
theorem dX11_init_204 : decode cX11_init 204 = .ok (.iastore, 1) := by decide +kernel
theorem dX11_init_205 : decode cX11_init 205 = .ok (.dup, 1) := by decide +kernel
theorem dX11_init_206 : decode cX11_init 206 = .ok (.bipush 18, 2) := by decide +kernel
theorem dX11_init_208 : decode cX11_init 208 = .ok (.bipush 111, 2) := by decide +kernel
theorem dX11_init_210 : decode cX11_init 210 = .ok (.iastore, 1) := by decide +kernel
theorem dX11_init_211 : decode cX11_init 211 = .ok (.dup, 1) := by decide +kernel
theorem dX11_init_212 : decode cX11_init 212 = .ok (.bipush 19, 2) := by decide +kernel
theorem dX11_init_214 : decode cX11_init 214 = .ok (.bipush 114, 2) := by decide +kernel
theorem dX11_init_216 : decode cX11_init 216 = .ok (.iastore, 1) := by decide +kernel
theorem dX11_init_217 : decode cX11_init 217 = .ok (.dup, 1) := by decide +kernel
theorem dX11_init_218 : decode cX11_init 218 = .ok (.bipush 20, 2) := by decide +kernel
theorem dX11_init_220 : decode cX11_init 220 = .ok (.bipush 114, 2) := by decide +kernel
theorem dX11_init_222 : decode cX11_init 222 = .ok (.iastore, 1) := by decide +kernel
theorem dX11_init_223 : decode cX11_init 223 = .ok (.dup, 1) := by decide +kernel
theorem dX11_init_224 : decode cX11_init 224 = .ok (.bipush 21, 2) := by decide +kernel
theorem dX11_init_226 : decode cX11_init 226 = .ok (.bipush 101, 2) := by decide +kernel
theorem dX11_init_228 : decode cX11_init 228 = .ok (.iastore, 1) := by decide +kernel
theorem dX11_init_229 : decode cX11_init 229 = .ok (.dup, 1) := by decide +kernel
theorem dX11_init_230 : decode cX11_init 230 = .ok (.bipush 22, 2) := by decide +kernel
theorem dX11_init_232 : decode cX11_init 232 = .ok (.bipush 99, 2) := by decide +kernel
theorem dX11_init_234 : decode cX11_init 234 = .ok (.iastore, 1) := by decide +kernel
theorem dX11_init_235 : decode cX11_init 235 = .ok (.dup, 1) := by decide +kernel
theorem dX11_init_236 : decode cX11_init 236 = .ok (.bipush 23, 2) := by decide +kernel
theorem dX11_init_238 : decode cX11_init 238 = .ok (.bipush 116, 2) := by decide +kernel
theorem dX11_init_240 : decode cX11_init 240 = .ok (.iastore, 1) := by decide +kernel
theorem dX11_init_241 : decode cX11_init 241 = .ok (.dup, 1) := by decide +kernel
theorem dX11_init_242 : decode cX11_init 242 = .ok (.bipush 24, 2) := by decide +kernel
theorem dX11_init_244 : decode cX11_init 244 = .ok (.bipush 32, 2) := by decide +kernel
theorem dX11_init_246 : decode cX11_init 246 = .ok (.iastore, 1) := by decide +kernel
theorem dX11_init_247 : decode cX11_init 247 = .ok (.dup, 1) := by decide +kernel
theorem dX11_init_248 : decode cX11_init 248 = .ok (.bipush 25, 2) := by decide +kernel
theorem dX11_init_250 : decode cX11_init 250 = .ok (.bipush 100, 2) := by decide +kernel
theorem dX11_init_252 : decode cX11_init 252 = .ok (.iastore, 1) := by decide +kernel
theorem dX11_init_253 : decode cX11_init 253 = .ok (.dup, 1) := by decide +kernel
theorem dX11_init_254 : decode cX11_init 254 = .ok (.bipush 26, 2) := by decide +kernel
theorem dX11_init_256 : decode cX11_init 256 = .ok (.bipush 105, 2) := by decide +kernel
theorem dX11_init_258 : decode cX11_init 258 = .ok (.iastore, 1) := by decide +kernel
theorem dX11_init_259 : decode cX11_init 259 = .ok (.dup, 1) := by decide +kernel
theorem dX11_init_260 : decode cX11_init 260 = .ok (.bipush 27, 2) := by decide +kernel
theorem dX11_init_262 : decode cX11_init 262 = .ok (.bipush 115, 2) := by decide +kernel
theorem dX11_init_264 : decode cX11_init 264 = .ok (.iastore, 1) := by decide +kernel
theorem dX11_init_265 : decode cX11_init 265 = .ok (.dup, 1) := by decide +kernel
theorem dX11_init_266 : decode cX11_init 266 = .ok (.bipush 28, 2) := by decide +kernel
theorem dX11_init_268 : decode cX11_init 268 = .ok (.bipush 99, 2) := by decide +kernel
theorem dX11_init_270 : decode cX11_init 270 = .ok (.iastore, 1) := by decide +kernel
theorem dX11_init_271 : decode cX11_init 271 = .ok (.dup, 1) := by decide +kernel
theorem dX11_init_272 : decode cX11_init 272 = .ok (.bipush 29, 2) := by decide +kernel
theorem dX11_init_274 : decode cX11_init 274 = .ok (.bipush 97, 2) := by decide +kernel
theorem dX11_init_276 : decode cX11_init 276 = .ok (.iastore, 1) := by decide +kernel
theorem dX11_init_277 : decode cX11_init 277 = .ok (.dup, 1) := by decide +kernel
theorem dX11_init_278 : decode cX11_init 278 = .ok (.bipush 30, 2) := by decide +kernel
theorem dX11_init_280 : decode cX11_init 280 = .ok (.bipush 114, 2) := by decide +kernel
theorem dX11_init_282 : decode cX11_init 282 = .ok (.iastore, 1) := by decide +kernel
theorem dX11_init_283 : decode cX11_init 283 = .ok (.dup, 1) := by decide +kernel
theorem dX11_init_284 : decode cX11_init 284 = .ok (.bipush 31, 2) := by decide +kernel
theorem dX11_init_286 : decode cX11_init 286 = .ok (.bipush 100, 2) := by decide +kernel
theorem dX11_init_288 : decode cX11_init 288 = .ok (.iastore, 1) := by decide +kernel
theorem dX11_init_289 : decode cX11_init 289 = .ok (.dup, 1) := by decide +kernel
theorem dX11_init_290 : decode cX11_init 290 = .ok (.bipush 32, 2) := by decide +kernel
theorem dX11_init_292 : decode cX11_init 292 = .ok (.bipush 32, 2) := by decide +kernel
theorem dX11_init_294 : decode cX11_init 294 = .ok (.iastore, 1) := by decide +kernel
theorem dX11_init_295 : decode cX11_init 295 = .ok (.dup, 1) := by decide +kernel
theorem dX11_init_296 : decode cX11_init 296 = .ok (.bipush 33, 2) := by decide +kernel
theorem dX11_init_298 : decode cX11_init 298 = .ok (.bipush 108, 2) := by decide +kernel
theorem dX11_init_300 : decode cX11_init 300 = .ok (.iastore, 1) := by decide +kernel
theorem dX11_init_301 : decode cX11_init 301 = .ok (.dup, 1) := by decide +kernel
theorem dX11_init_302 : decode cX11_init 302 = .ok (.bipush 34, 2) := by decide +kernel
theorem dX11_init_304 : decode cX11_init 304 = .ok (.bipush 105, 2) := by decide +kernel
theorem dX11_init_306 : decode cX11_init 306 = .ok (.iastore, 1) := by decide +kernel
theorem dX11_init_307 : decode cX11_init 307 = .ok (.dup, 1) := by decide +kernel
theorem dX11_init_308 : decode cX11_init 308 = .ok (.bipush 35, 2) := by decide +kernel
theorem dX11_init_310 : decode cX11_init 310 = .ok (.bipush 109, 2) := by decide +kernel
theorem dX11_init_312 : decode cX11_init 312 = .ok (.iastore, 1) := by decide +kernel
theorem dX11_init_313 : decode cX11_init 313 = .ok (.dup, 1) := by decide +kernel
theorem dX11_init_314 : decode cX11_init 314 = .ok (.bipush 36, 2) := by decide +kernel
theorem dX11_init_316 : decode cX11_init 316 = .ok (.bipush 105, 2) := by decide +kernel
theorem dX11_init_318 : decode cX11_init 318 = .ok (.iastore, 1) := by decide +kernel
theorem dX11_init_319 : decode cX11_init 319 = .ok (.dup, 1) := by decide +kernel
theorem dX11_init_320 : decode cX11_init 320 = .ok (.bipush 37, 2) := by decide +kernel
theorem dX11_init_322 : decode cX11_init 322 = .ok (.bipush 116, 2) := by decide +kernel
theorem dX11_init_324 : decode cX11_init 324 = .ok (.iastore, 1) := by decide +kernel
theorem dX11_init_325 : decode cX11_init 325 = .ok (.dup, 1) := by decide +kernel
theorem dX11_init_326 : decode cX11_init 326 = .ok (.bipush 38, 2) := by decide +kernel
theorem dX11_init_328 : decode cX11_init 328 = .ok (.bipush 32, 2) := by decide +kernel
theorem dX11_init_330 : decode cX11_init 330 = .ok (.iastore, 1) := by decide +kernel
theorem dX11_init_331 : decode cX11_init 331 = .ok (.dup, 1) := by decide +kernel
theorem dX11_init_332 : decode cX11_init 332 = .ok (.bipush 39, 2) := by decide +kernel
theorem dX11_init_334 : decode cX11_init 334 = .ok (.bipush 98, 2) := by decide +kernel
theorem dX11_init_336 : decode cX11_init 336 = .ok (.iastore, 1) := by decide +kernel
theorem dX11_init_337 : decode cX11_init 337 = .ok (.dup, 1) := by decide +kernel
theorem dX11_init_338 : decode cX11_init 338 = .ok (.bipush 40, 2) := by decide +kernel
theorem dX11_init_340 : decode cX11_init 340 = .ok (.bipush 97, 2) := by decide +kernel
theorem dX11_init_342 : decode cX11_init 342 = .ok (.iastore, 1) := by decide +kernel
theorem dX11_init_343 : decode cX11_init 343 = .ok (.dup, 1) := by decide +kernel
theorem dX11_init_344 : decode cX11_init 344 = .ok (.bipush 41, 2) := by decide +kernel
theorem dX11_init_346 : decode cX11_init 346 = .ok (.bipush 116, 2) := by decide +kernel
theorem dX11_init_348 : decode cX11_init 348 = .ok (.iastore, 1) := by decide +kernel
theorem dX11_init_349 : decode cX11_init 349 = .ok (.dup, 1) := by decide +kernel
theorem dX11_init_350 : decode cX11_init 350 = .ok (.bipush 42, 2) := by decide +kernel
theorem dX11_init_352 : decode cX11_init 352 = .ok (.bipush 99, 2) := by decide +kernel
theorem dX11_init_354 : decode cX11_init 354 = .ok (.iastore, 1) := by decide +kernel
theorem dX11_init_355 : decode cX11_init 355 = .ok (.dup, 1) := by decide +kernel
theorem dX11_init_356 : decode cX11_init 356 = .ok (.bipush 43, 2) := by decide +kernel
theorem dX11_init_358 : decode cX11_init 358 = .ok (.bipush 104, 2) := by decide +kernel
theorem dX11_init_360 : decode cX11_init 360 = .ok (.iastore, 1) := by decide +kernel
theorem dX11_init_361 : decode cX11_init 361 = .ok (.dup, 1) := by decide +kernel
theorem dX11_init_362 : decode cX11_init 362 = .ok (.bipush 44, 2) := by decide +kernel
theorem dX11_init_364 : decode cX11_init 364 = .ok (.bipush 32, 2) := by decide +kernel
theorem dX11_init_366 : decode cX11_init 366 = .ok (.iastore, 1) := by decide +kernel
theorem dX11_init_367 : decode cX11_init 367 = .ok (.dup, 1) := by decide +kernel
theorem dX11_init_368 : decode cX11_init 368 = .ok (.bipush 45, 2) := by decide +kernel
theorem dX11_init_370 : decode cX11_init 370 = .ok (.bipush 100, 2) := by decide +kernel
theorem dX11_init_372 : decode cX11_init 372 = .ok (.iastore, 1) := by decide +kernel
theorem dX11_init_373 : decode cX11_init 373 = .ok (.dup, 1) := by decide +kernel
theorem dX11_init_374 : decode cX11_init 374 = .ok (.bipush 46, 2) := by decide +kernel
theorem dX11_init_376 : decode cX11_init 376 = .ok (.bipush 114, 2) := by decide +kernel
theorem dX11_init_378 : decode cX11_init 378 = .ok (.iastore, 1) := by decide +kernel
theorem dX11_init_379 : decode cX11_init 379 = .ok (.dup, 1) := by decide +kernel
theorem dX11_init_380 : decode cX11_init 380 = .ok (.bipush 47, 2) := by decide +kernel
theorem dX11_init_382 : decode cX11_init 382 = .ok (.bipush 111, 2) := by decide +kernel
theorem dX11_init_384 : decode cX11_init 384 = .ok (.iastore, 1) := by decide +kernel
theorem dX11_init_385 : decode cX11_init 385 = .ok (.dup, 1) := by decide +kernel
theorem dX11_init_386 : decode cX11_init 386 = .ok (.bipush 48, 2) := by decide +kernel
theorem dX11_init_388 : decode cX11_init 388 = .ok (.bipush 112, 2) := by decide +kernel
theorem dX11_init_390 : decode cX11_init 390 = .ok (.iastore, 1) := by decide +kernel
theorem dX11_init_391 : decode cX11_init 391 = .ok (.dup, 1) := by decide +kernel
theorem dX11_init_392 : decode cX11_init 392 = .ok (.bipush 49, 2) := by decide +kernel
theorem dX11_init_394 : decode cX11_init 394 = .ok (.bipush 32, 2) := by decide +kernel
theorem dX11_init_396 : decode cX11_init 396 = .ok (.iastore, 1) := by decide +kernel
theorem dX11_init_397 : decode cX11_init 397 = .ok (.dup, 1) := by decide +kernel
theorem dX11_init_398 : decode cX11_init 398 = .ok (.bipush 50, 2) := by decide +kernel
theorem dX11_init_400 : decode cX11_init 400 = .ok (.bipush 98, 2) := by decide +kernel
theorem dX11_init_402 : decode cX11_init 402 = .ok (.iastore, 1) := by decide +kernel
theorem dX11_init_403 : decode cX11_init 403 = .ok (.dup, 1) := by decide +kernel
theorem dX11_init_404 : decode cX11_init 404 = .ok (.bipush 51, 2) := by decide +kernel
theorem dX11_init_406 : decode cX11_init 406 = .ok (.bipush 97, 2) := by decide +kernel
theorem dX11_init_408 : decode cX11_init 408 = .ok (.iastore, 1) := by decide +kernel
theorem dX11_init_409 : decode cX11_init 409 = .ok (.dup, 1) := by decide +kernel
theorem dX11_init_410 : decode cX11_init 410 = .ok (.bipush 52, 2) := by decide +kernel
theorem dX11_init_412 : decode cX11_init 412 = .ok (.bipush 107, 2) := by decide +kernel
theorem dX11_init_414 : decode cX11_init 414 = .ok (.iastore, 1) := by decide +kernel
theorem dX11_init_415 : decode cX11_init 415 = .ok (.dup, 1) := by decide +kernel
theorem dX11_init_416 : decode cX11_init 416 = .ok (.bipush 53, 2) := by decide +kernel
theorem dX11_init_418 : decode cX11_init 418 = .ok (.bipush 101, 2) := by decide +kernel
theorem dX11_init_420 : decode cX11_init 420 = .ok (.iastore, 1) := by decide +kernel
theorem dX11_init_421 : decode cX11_init 421 = .ok (.dup, 1) := by decide +kernel
theorem dX11_init_422 : decode cX11_init 422 = .ok (.bipush 54, 2) := by decide +kernel
theorem dX11_init_424 : decode cX11_init 424 = .ok (.bipush 32, 2) := by decide +kernel
theorem dX11_init_426 : decode cX11_init 426 = .ok (.iastore, 1) := by decide +kernel
theorem dX11_init_427 : decode cX11_init 427 = .ok (.dup, 1) := by decide +kernel
theorem dX11_init_428 : decode cX11_init 428 = .ok (.bipush 55, 2) := by decide +kernel
theorem dX11_init_430 : decode cX11_init 430 = .ok (.bipush 114, 2) := by decide +kernel
theorem dX11_init_432 : decode cX11_init 432 = .ok (.iastore, 1) := by decide +kernel
theorem dX11_init_433 : decode cX11_init 433 = .ok (.dup, 1) := by decide +kernel
theorem dX11_init_434 : decode cX11_init 434 = .ok (.bipush 56, 2) := by decide +kernel
theorem dX11_init_436 : decode cX11_init 436 = .ok (.bipush 101, 2) := by decide +kernel
theorem dX11_init_438 : decode cX11_init 438 = .ok (.iastore, 1) := by decide +kernel
theorem dX11_init_439 : decode cX11_init 439 = .ok (.dup, 1) := by decide +kernel
theorem dX11_init_440 : decode cX11_init 440 = .ok (.bipush 57, 2) := by decide +kernel
theorem dX11_init_442 : decode cX11_init 442 = .ok (.bipush 115, 2) := by decide +kernel
theorem dX11_init_444 : decode cX11_init 444 = .ok (.iastore, 1) := by decide +kernel
theorem dX11_init_445 : decode cX11_init 445 = .ok (.dup, 1) := by decide +kernel
theorem dX11_init_446 : decode cX11_init 446 = .ok (.bipush 58, 2) := by decide +kernel
theorem dX11_init_448 : decode cX11_init 448 = .ok (.bipush 116, 2) := by decide +kernel
theorem dX11_init_450 : decode cX11_init 450 = .ok (.iastore, 1) := by decide +kernel
theorem dX11_init_451 : decode cX11_init 451 = .ok (.dup, 1) := by decide +kernel
theorem dX11_init_452 : decode cX11_init 452 = .ok (.bipush 59, 2) := by decide +kernel
theorem dX11_init_454 : decode cX11_init 454 = .ok (.bipush 32, 2) := by decide +kernel
theorem dX11_init_456 : decode cX11_init 456 = .ok (.iastore, 1) := by decide +kernel
theorem dX11_init_457 : decode cX11_init 457 = .ok (.putfield 47, 3) := by decide +kernel
theorem dX11_init_460 : decode cX11_init 460 = .ok (.aload_n 0, 1) := by decide +kernel
theorem dX11_init_461 : decode cX11_init 461 = .ok (.bipush 11, 2) := by decide +kernel
theorem dX11_init_463 : decode cX11_init 463 = .ok (.newarray .int, 2) := by decide +kernel
theorem dX11_init_465 : decode cX11_init 465 = .ok (.dup, 1) := by decide +kernel
theorem dX11_init_466 : decode cX11_init 466 = .ok (.iconst 0, 1) := by decide +kernel
theorem dX11_init_467 : decode cX11_init 467 = .ok (.iconst 0, 1) := by decide +kernel
theorem dX11_init_468 : decode cX11_init 468 = .ok (.iastore, 1) := by decide +kernel
theorem dX11_init_469 : decode cX11_init 469 = .ok (.dup, 1) := by decide +kernel
theorem dX11_init_470 : decode cX11_init 470 = .ok (.iconst 1, 1) := by decide +kernel
theorem dX11_init_471 : decode cX11_init 471 = .ok (.bipush 7, 2) := by decide +kernel
theorem dX11_init_473 : decode cX11_init 473 = .ok (.iastore, 1) := by decide +kernel
theorem dX11_init_474 : decode cX11_init 474 = .ok (.dup, 1) := by decide +kernel
theorem dX11_init_475 : decode cX11_init 475 = .ok (.iconst 2, 1) := by decide +kernel
theorem dX11_init_476 : decode cX11_init 476 = .ok (.bipush 11, 2) := by decide +kernel
theorem dX11_init_478 : decode cX11_init 478 = .ok (.iastore, 1) := by decide +kernel
theorem dX11_init_479 : decode cX11_init 479 = .ok (.dup, 1) := by decide +kernel
theorem dX11_init_480 : decode cX11_init 480 = .ok (.iconst 3, 1) := by decide +kernel
theorem dX11_init_481 : decode cX11_init 481 = .ok (.bipush 17, 2) := by decide +kernel
theorem dX11_init_483 : decode cX11_init 483 = .ok (.iastore, 1) := by decide +kernel
theorem dX11_init_484 : decode cX11_init 484 = .ok (.dup, 1) := by decide +kernel
theorem dX11_init_485 : decode cX11_init 485 = .ok (.iconst 4, 1) := by decide +kernel
theorem dX11_init_486 : decode cX11_init 486 = .ok (.bipush 25, 2) := by decide +kernel
theorem dX11_init_488 : decode cX11_init 488 = .ok (.iastore, 1) := by decide +kernel
theorem dX11_init_489 : decode cX11_init 489 = .ok (.dup, 1) := by decide +kernel
theorem dX11_init_490 : decode cX11_init 490 = .ok (.iconst 5, 1) := by decide +kernel
theorem dX11_init_491 : decode cX11_init 491 = .ok (.bipush 33, 2) := by decide +kernel
theorem dX11_init_493 : decode cX11_init 493 = .ok (.iastore, 1) := by decide +kernel
theorem dX11_init_494 : decode cX11_init 494 = .ok (.dup, 1) := by decide +kernel
theorem dX11_init_495 : decode cX11_init 495 = .ok (.bipush 6, 2) := by decide +kernel
theorem dX11_init_497 : decode cX11_init 497 = .ok (.bipush 39, 2) := by decide +kernel
theorem dX11_init_499 : decode cX11_init 499 = .ok (.iastore, 1) := by decide +kernel
theorem dX11_init_500 : decode cX11_init 500 = .ok (.dup, 1) := by decide +kernel
theorem dX11_init_501 : decode cX11_init 501 = .ok (.bipush 7, 2) := by decide +kernel
theorem dX11_init_503 : decode cX11_init 503 = .ok (.bipush 45, 2) := by decide +kernel
theorem dX11_init_505 : decode cX11_init 505 = .ok (.iastore, 1) := by decide +kernel
theorem dX11_init_506 : decode cX11_init 506 = .ok (.dup, 1) := by decide +kernel
theorem dX11_init_507 : decode cX11_init 507 = .ok (.bipush 8, 2) := by decide +kernel
theorem dX11_init_509 : decode cX11_init 509 = .ok (.bipush 50, 2) := by decide +kernel
theorem dX11_init_511 : decode cX11_init 511 = .ok (.iastore, 1) := by decide +kernel
theorem dX11_init_512 : decode cX11_init 512 = .ok (.dup, 1) := by decide +kernel
theorem dX11_init_513 : decode cX11_init 513 = .ok (.bipush 9, 2) := by decide +kernel
theorem dX11_init_515 : decode cX11_init 515 = .ok (.bipush 55, 2) := by decide +kernel
theorem dX11_init_517 : decode cX11_init 517 = .ok (.iastore, 1) := by decide +kernel
theorem dX11_init_518 : decode cX11_init 518 = .ok (.dup, 1) := by decide +kernel
theorem dX11_init_519 : decode cX11_init 519 = .ok (.bipush 10, 2) := by decide +kernel
theorem dX11_init_521 : decode cX11_init 521 = .ok (.bipush 60, 2) := by decide +kernel
theorem dX11_init_523 : decode cX11_init 523 = .ok (.iastore, 1) := by decide +kernel
theorem dX11_init_524 : decode cX11_init 524 = .ok (.putfield 50, 3) := by decide +kernel
theorem dX11_init_527 : decode cX11_init 527 = .ok (.aload_n 0, 1) := by decide +kernel
theorem dX11_init_528 : decode cX11_init 528 = .ok (.getfield 16, 3) := by decide +kernel
theorem dX11_init_531 : decode cX11_init 531 = .ok (.iconst 1, 1) := by decide +kernel
theorem dX11_init_532 : decode cX11_init 532 = .ok (.bipush 10, 2) := by decide +kernel
theorem dX11_init_534 : decode cX11_init 534 = .ok (.iastore, 1) := by decide +kernel
theorem dX11_init_535 : decode cX11_init 535 = .ok (.return_, 1) := by decide +kernel
theorem dX11_thrown_0 : decode cX11_thrown 0 = .ok (.aload_n 0, 1) := by decide +kernel
theorem dX11_thrown_1 : decode cX11_thrown 1 = .ok (.getfield 53, 3) := by decide +kernel
theorem dX11_thrown_4 : decode cX11_thrown 4 = .ok (.ireturn, 1) := by decide +kernel
theorem dX11_fail_0 : decode cX11_fail 0 = .ok (.aload_n 0, 1) := by decide +kernel
theorem dX11_fail_1 : decode cX11_fail 1 = .ok (.iload_n 1, 1) := by decide +kernel
theorem dX11_fail_2 : decode cX11_fail 2 = .ok (.putfield 53, 3) := by decide +kernel
theorem dX11_fail_5 : decode cX11_fail 5 = .ok (.iconst 0, 1) := by decide +kernel
theorem dX11_fail_6 : decode cX11_fail 6 = .ok (.ireturn, 1) := by decide +kernel
theorem dX11_isIn_0 : decode cX11_isIn 0 = .ok (.iload_n 0, 1) := by decide +kernel
theorem dX11_isIn_1 : decode cX11_isIn 1 = .ok (.iload_n 1, 1) := by decide +kernel
theorem dX11_isIn_2 : decode cX11_isIn 2 = .ok (.if_icmp .lt 12, 3) := by decide +kernel
theorem dX11_isIn_5 : decode cX11_isIn 5 = .ok (.iload_n 0, 1) := by decide +kernel
theorem dX11_isIn_6 : decode cX11_isIn 6 = .ok (.iload_n 2, 1) := by decide +kernel
theorem dX11_isIn_7 : decode cX11_isIn 7 = .ok (.if_icmp .gt 7, 3) := by decide +kernel
theorem dX11_isIn_10 : decode cX11_isIn 10 = .ok (.iconst 1, 1) := by decide +kernel
theorem dX11_isIn_11 : decode cX11_isIn 11 = .ok (.goto 4, 3) := by decide +kernel
theorem dX11_isIn_14 : decode cX11_isIn 14 = .ok (.iconst 0, 1) := by decide +kernel
theorem dX11_isIn_15 : decode cX11_isIn 15 = .ok (.ireturn, 1) := by decide +kernel
theorem dX11_lays_0 : decode cX11_lays 0 = .ok (.iconst 0, 1) := by decide +kernel
theorem dX11_lays_1 : decode cX11_lays 1 = .ok (.istore_n 2, 1) := by decide +kernel
theorem dX11_lays_2 : decode cX11_lays 2 = .ok (.iload_n 2, 1) := by decide +kernel
theorem dX11_lays_3 : decode cX11_lays 3 = .ok (.bipush 118, 2) := by decide +kernel
theorem dX11_lays_5 : decode cX11_lays 5 = .ok (.if_icmp .ge 15, 3) := by decide +kernel
theorem dX11_lays_8 : decode cX11_lays 8 = .ok (.aload_n 0, 1) := by decide +kernel
theorem dX11_lays_9 : decode cX11_lays 9 = .ok (.iload_n 2, 1) := by decide +kernel
theorem dX11_lays_10 : decode cX11_lays 10 = .ok (.aload_n 1, 1) := by decide +kernel
theorem dX11_lays_11 : decode cX11_lays 11 = .ok (.iload_n 2, 1) := by decide +kernel
theorem dX11_lays_12 : decode cX11_lays 12 = .ok (.iaload, 1) := by decide +kernel
theorem dX11_lays_13 : decode cX11_lays 13 = .ok (.iastore, 1) := by decide +kernel
theorem dX11_lays_14 : decode cX11_lays 14 = .ok (.iinc 2 1, 3) := by decide +kernel
theorem dX11_lays_17 : decode cX11_lays 17 = .ok (.goto (-15), 3) := by decide +kernel
theorem dX11_lays_20 : decode cX11_lays 20 = .ok (.return_, 1) := by decide +kernel
theorem dX11_begins_0 : decode cX11_begins 0 = .ok (.aload_n 0, 1) := by decide +kernel
theorem dX11_begins_1 : decode cX11_begins 1 = .ok (.iconst 0, 1) := by decide +kernel
theorem dX11_begins_2 : decode cX11_begins 2 = .ok (.putfield 53, 3) := by decide +kernel
theorem dX11_begins_5 : decode cX11_begins 5 = .ok (.aload_n 0, 1) := by decide +kernel
theorem dX11_begins_6 : decode cX11_begins 6 = .ok (.getfield 20, 3) := by decide +kernel
theorem dX11_begins_9 : decode cX11_begins 9 = .ok (.aload_n 0, 1) := by decide +kernel
theorem dX11_begins_10 : decode cX11_begins 10 = .ok (.getfield 16, 3) := by decide +kernel
theorem dX11_begins_13 : decode cX11_begins 13 = .ok (.invokestatic 56, 3) := by decide +kernel
theorem dX11_begins_16 : decode cX11_begins 16 = .ok (.return_, 1) := by decide +kernel
theorem dX11_ends_0 : decode cX11_ends 0 = .ok (.aload_n 0, 1) := by decide +kernel
theorem dX11_ends_1 : decode cX11_ends 1 = .ok (.getfield 53, 3) := by decide +kernel
theorem dX11_ends_4 : decode cX11_ends 4 = .ok (.ifCond .eq 16, 3) := by decide +kernel
theorem dX11_ends_7 : decode cX11_ends 7 = .ok (.aload_n 0, 1) := by decide +kernel
theorem dX11_ends_8 : decode cX11_ends 8 = .ok (.getfield 16, 3) := by decide +kernel
theorem dX11_ends_11 : decode cX11_ends 11 = .ok (.aload_n 0, 1) := by decide +kernel
theorem dX11_ends_12 : decode cX11_ends 12 = .ok (.getfield 20, 3) := by decide +kernel
theorem dX11_ends_15 : decode cX11_ends 15 = .ok (.invokestatic 56, 3) := by decide +kernel
theorem dX11_ends_18 : decode cX11_ends 18 = .ok (.iconst 0, 1) := by decide +kernel
theorem dX11_ends_19 : decode cX11_ends 19 = .ok (.ireturn, 1) := by decide +kernel
theorem dX11_ends_20 : decode cX11_ends 20 = .ok (.aload_n 0, 1) := by decide +kernel
theorem dX11_ends_21 : decode cX11_ends 21 = .ok (.getfield 60, 3) := by decide +kernel
theorem dX11_ends_24 : decode cX11_ends 24 = .ok (.bipush 8, 2) := by decide +kernel
theorem dX11_ends_26 : decode cX11_ends 26 = .ok (.if_icmp .ne 43, 3) := by decide +kernel
theorem dX11_ends_29 : decode cX11_ends 29 = .ok (.iconst 0, 1) := by decide +kernel
theorem dX11_ends_30 : decode cX11_ends 30 = .ok (.istore_n 2, 1) := by decide +kernel
theorem dX11_ends_31 : decode cX11_ends 31 = .ok (.iload_n 2, 1) := by decide +kernel
theorem dX11_ends_32 : decode cX11_ends 32 = .ok (.sipush 826, 3) := by decide +kernel
theorem dX11_ends_35 : decode cX11_ends 35 = .ok (.if_icmp .ge 24, 3) := by decide +kernel
theorem dX11_ends_38 : decode cX11_ends 38 = .ok (.aload_n 0, 1) := by decide +kernel
theorem dX11_ends_39 : decode cX11_ends 39 = .ok (.getfield 26, 3) := by decide +kernel
theorem dX11_ends_42 : decode cX11_ends 42 = .ok (.iload_n 2, 1) := by decide +kernel
theorem dX11_ends_43 : decode cX11_ends 43 = .ok (.aload_n 0, 1) := by decide +kernel
theorem dX11_ends_44 : decode cX11_ends 44 = .ok (.getfield 26, 3) := by decide +kernel
theorem dX11_ends_47 : decode cX11_ends 47 = .ok (.iload_n 2, 1) := by decide +kernel
theorem dX11_ends_48 : decode cX11_ends 48 = .ok (.bipush 118, 2) := by decide +kernel
theorem dX11_ends_50 : decode cX11_ends 50 = .ok (.iadd, 1) := by decide +kernel
theorem dX11_ends_51 : decode cX11_ends 51 = .ok (.iaload, 1) := by decide +kernel
theorem dX11_ends_52 : decode cX11_ends 52 = .ok (.iastore, 1) := by decide +kernel
theorem dX11_ends_53 : decode cX11_ends 53 = .ok (.iinc 2 1, 3) := by decide +kernel
theorem dX11_ends_56 : decode cX11_ends 56 = .ok (.goto (-25), 3) := by decide +kernel
theorem dX11_ends_59 : decode cX11_ends 59 = .ok (.aload_n 0, 1) := by decide +kernel
theorem dX11_ends_60 : decode cX11_ends 60 = .ok (.dup, 1) := by decide +kernel
theorem dX11_ends_61 : decode cX11_ends 61 = .ok (.getfield 60, 3) := by decide +kernel
theorem dX11_ends_64 : decode cX11_ends 64 = .ok (.iconst 1, 1) := by decide +kernel
theorem dX11_ends_65 : decode cX11_ends 65 = .ok (.isub, 1) := by decide +kernel
theorem dX11_ends_66 : decode cX11_ends 66 = .ok (.putfield 60, 3) := by decide +kernel
theorem dX11_ends_69 : decode cX11_ends 69 = .ok (.iconst 0, 1) := by decide +kernel
theorem dX11_ends_70 : decode cX11_ends 70 = .ok (.istore_n 2, 1) := by decide +kernel
theorem dX11_ends_71 : decode cX11_ends 71 = .ok (.iload_n 2, 1) := by decide +kernel
theorem dX11_ends_72 : decode cX11_ends 72 = .ok (.bipush 118, 2) := by decide +kernel
theorem dX11_ends_74 : decode cX11_ends 74 = .ok (.if_icmp .ge 29, 3) := by decide +kernel
theorem dX11_ends_77 : decode cX11_ends 77 = .ok (.aload_n 0, 1) := by decide +kernel
theorem dX11_ends_78 : decode cX11_ends 78 = .ok (.getfield 26, 3) := by decide +kernel
theorem dX11_ends_81 : decode cX11_ends 81 = .ok (.aload_n 0, 1) := by decide +kernel
theorem dX11_ends_82 : decode cX11_ends 82 = .ok (.getfield 60, 3) := by decide +kernel
theorem dX11_ends_85 : decode cX11_ends 85 = .ok (.bipush 118, 2) := by decide +kernel
theorem dX11_ends_87 : decode cX11_ends 87 = .ok (.imul, 1) := by decide +kernel
theorem dX11_ends_88 : decode cX11_ends 88 = .ok (.iload_n 2, 1) := by decide +kernel
theorem dX11_ends_89 : decode cX11_ends 89 = .ok (.iadd, 1) := by decide +kernel
theorem dX11_ends_90 : decode cX11_ends 90 = .ok (.aload_n 0, 1) := by decide +kernel
theorem dX11_ends_91 : decode cX11_ends 91 = .ok (.getfield 20, 3) := by decide +kernel
theorem dX11_ends_94 : decode cX11_ends 94 = .ok (.iload_n 2, 1) := by decide +kernel
theorem dX11_ends_95 : decode cX11_ends 95 = .ok (.iaload, 1) := by decide +kernel
theorem dX11_ends_96 : decode cX11_ends 96 = .ok (.iastore, 1) := by decide +kernel
theorem dX11_ends_97 : decode cX11_ends 97 = .ok (.iinc 2 1, 3) := by decide +kernel
theorem dX11_ends_100 : decode cX11_ends 100 = .ok (.goto (-29), 3) := by decide +kernel
theorem dX11_ends_103 : decode cX11_ends 103 = .ok (.aload_n 0, 1) := by decide +kernel
theorem dX11_ends_104 : decode cX11_ends 104 = .ok (.dup, 1) := by decide +kernel
theorem dX11_ends_105 : decode cX11_ends 105 = .ok (.getfield 60, 3) := by decide +kernel
theorem dX11_ends_108 : decode cX11_ends 108 = .ok (.iconst 1, 1) := by decide +kernel
theorem dX11_ends_109 : decode cX11_ends 109 = .ok (.iadd, 1) := by decide +kernel
theorem dX11_ends_110 : decode cX11_ends 110 = .ok (.putfield 60, 3) := by decide +kernel
theorem dX11_ends_113 : decode cX11_ends 113 = .ok (.iload_n 1, 1) := by decide +kernel
theorem dX11_ends_114 : decode cX11_ends 114 = .ok (.ireturn, 1) := by decide +kernel
theorem dX11_isNeedle_0 : decode cX11_isNeedle 0 = .ok (.iload_n 1, 1) := by decide +kernel
theorem dX11_isNeedle_1 : decode cX11_isNeedle 1 = .ok (.iconst 0, 1) := by decide +kernel
theorem dX11_isNeedle_2 : decode cX11_isNeedle 2 = .ok (.aload_n 0, 1) := by decide +kernel
theorem dX11_isNeedle_3 : decode cX11_isNeedle 3 = .ok (.getfield 16, 3) := by decide +kernel
theorem dX11_isNeedle_6 : decode cX11_isNeedle 6 = .ok (.iconst 0, 1) := by decide +kernel
theorem dX11_isNeedle_7 : decode cX11_isNeedle 7 = .ok (.iaload, 1) := by decide +kernel
theorem dX11_isNeedle_8 : decode cX11_isNeedle 8 = .ok (.iconst 1, 1) := by decide +kernel
theorem dX11_isNeedle_9 : decode cX11_isNeedle 9 = .ok (.isub, 1) := by decide +kernel
theorem dX11_isNeedle_10 : decode cX11_isNeedle 10 = .ok (.invokestatic 63, 3) := by decide +kernel
theorem dX11_isNeedle_13 : decode cX11_isNeedle 13 = .ok (.ireturn, 1) := by decide +kernel
theorem dX11_of_0 : decode cX11_of 0 = .ok (.bipush 10, 2) := by decide +kernel
theorem dX11_of_2 : decode cX11_of 2 = .ok (.bipush 10, 2) := by decide +kernel
theorem dX11_of_4 : decode cX11_of 4 = .ok (.iload_n 0, 1) := by decide +kernel
theorem dX11_of_5 : decode cX11_of 5 = .ok (.imul, 1) := by decide +kernel
theorem dX11_of_6 : decode cX11_of 6 = .ok (.iadd, 1) := by decide +kernel
theorem dX11_of_7 : decode cX11_of 7 = .ok (.iload_n 1, 1) := by decide +kernel
theorem dX11_of_8 : decode cX11_of 8 = .ok (.iadd, 1) := by decide +kernel
theorem dX11_of_9 : decode cX11_of 9 = .ok (.ireturn, 1) := by decide +kernel
theorem dX11_far_0 : decode cX11_far 0 = .ok (.aload_n 0, 1) := by decide +kernel
theorem dX11_far_1 : decode cX11_far 1 = .ok (.getfield 16, 3) := by decide +kernel
theorem dX11_far_4 : decode cX11_far 4 = .ok (.iload_n 1, 1) := by decide +kernel
theorem dX11_far_5 : decode cX11_far 5 = .ok (.iconst 2, 1) := by decide +kernel
theorem dX11_far_6 : decode cX11_far 6 = .ok (.iload_n 2, 1) := by decide +kernel
theorem dX11_far_7 : decode cX11_far 7 = .ok (.iadd, 1) := by decide +kernel
theorem dX11_far_8 : decode cX11_far 8 = .ok (.invokestatic 67, 3) := by decide +kernel
theorem dX11_far_11 : decode cX11_far 11 = .ok (.iaload, 1) := by decide +kernel
theorem dX11_far_12 : decode cX11_far 12 = .ok (.ireturn, 1) := by decide +kernel
theorem dX11_at_0 : decode cX11_at 0 = .ok (.bipush 90, 2) := by decide +kernel
theorem dX11_at_2 : decode cX11_at 2 = .ok (.iconst 4, 1) := by decide +kernel
theorem dX11_at_3 : decode cX11_at 3 = .ok (.iload_n 0, 1) := by decide +kernel
theorem dX11_at_4 : decode cX11_at 4 = .ok (.imul, 1) := by decide +kernel
theorem dX11_at_5 : decode cX11_at 5 = .ok (.iadd, 1) := by decide +kernel
theorem dX11_at_6 : decode cX11_at 6 = .ok (.iload_n 1, 1) := by decide +kernel
theorem dX11_at_7 : decode cX11_at 7 = .ok (.iadd, 1) := by decide +kernel
theorem dX11_at_8 : decode cX11_at 8 = .ok (.ireturn, 1) := by decide +kernel
theorem dX11_find_0 : decode cX11_find 0 = .ok (.iconst 0, 1) := by decide +kernel
theorem dX11_find_1 : decode cX11_find 1 = .ok (.istore_n 2, 1) := by decide +kernel
theorem dX11_find_2 : decode cX11_find 2 = .ok (.iload_n 2, 1) := by decide +kernel
theorem dX11_find_3 : decode cX11_find 3 = .ok (.aload_n 0, 1) := by decide +kernel
theorem dX11_find_4 : decode cX11_find 4 = .ok (.getfield 16, 3) := by decide +kernel
theorem dX11_find_7 : decode cX11_find 7 = .ok (.iconst 4, 1) := by decide +kernel
theorem dX11_find_8 : decode cX11_find 8 = .ok (.iaload, 1) := by decide +kernel
theorem dX11_find_9 : decode cX11_find 9 = .ok (.if_icmp .ge 25, 3) := by decide +kernel
theorem dX11_find_12 : decode cX11_find 12 = .ok (.aload_n 0, 1) := by decide +kernel
theorem dX11_find_13 : decode cX11_find 13 = .ok (.getfield 16, 3) := by decide +kernel
theorem dX11_find_16 : decode cX11_find 16 = .ok (.iload_n 2, 1) := by decide +kernel
theorem dX11_find_17 : decode cX11_find 17 = .ok (.iconst 0, 1) := by decide +kernel
theorem dX11_find_18 : decode cX11_find 18 = .ok (.invokestatic 71, 3) := by decide +kernel
theorem dX11_find_21 : decode cX11_find 21 = .ok (.iaload, 1) := by decide +kernel
theorem dX11_find_22 : decode cX11_find 22 = .ok (.iload_n 1, 1) := by decide +kernel
theorem dX11_find_23 : decode cX11_find 23 = .ok (.if_icmp .ne 5, 3) := by decide +kernel
theorem dX11_find_26 : decode cX11_find 26 = .ok (.iload_n 2, 1) := by decide +kernel
theorem dX11_find_27 : decode cX11_find 27 = .ok (.ireturn, 1) := by decide +kernel
theorem dX11_find_28 : decode cX11_find 28 = .ok (.iinc 2 1, 3) := by decide +kernel
theorem dX11_find_31 : decode cX11_find 31 = .ok (.goto (-29), 3) := by decide +kernel
theorem dX11_find_34 : decode cX11_find 34 = .ok (.iconst (-1), 1) := by decide +kernel
theorem dX11_find_35 : decode cX11_find 35 = .ok (.ireturn, 1) := by decide +kernel
theorem dX11_adds_0 : decode cX11_adds 0 = .ok (.iload_n 1, 1) := by decide +kernel
theorem dX11_adds_1 : decode cX11_adds 1 = .ok (.iconst 1, 1) := by decide +kernel
theorem dX11_adds_2 : decode cX11_adds 2 = .ok (.bipush 99, 2) := by decide +kernel
theorem dX11_adds_4 : decode cX11_adds 4 = .ok (.invokestatic 63, 3) := by decide +kernel
theorem dX11_adds_7 : decode cX11_adds 7 = .ok (.ifCond .ne 9, 3) := by decide +kernel
theorem dX11_adds_10 : decode cX11_adds 10 = .ok (.aload_n 0, 1) := by decide +kernel
theorem dX11_adds_11 : decode cX11_adds 11 = .ok (.iconst 1, 1) := by decide +kernel
theorem dX11_adds_12 : decode cX11_adds 12 = .ok (.invokevirtual 74, 3) := by decide +kernel
theorem dX11_adds_15 : decode cX11_adds 15 = .ok (.ireturn, 1) := by decide +kernel
theorem dX11_adds_16 : decode cX11_adds 16 = .ok (.aload_n 0, 1) := by decide +kernel
theorem dX11_adds_17 : decode cX11_adds 17 = .ok (.getfield 16, 3) := by decide +kernel
theorem dX11_adds_20 : decode cX11_adds 20 = .ok (.iconst 0, 1) := by decide +kernel
theorem dX11_adds_21 : decode cX11_adds 21 = .ok (.iaload, 1) := by decide +kernel
theorem dX11_adds_22 : decode cX11_adds 22 = .ok (.istore_n 2, 1) := by decide +kernel
theorem dX11_adds_23 : decode cX11_adds 23 = .ok (.iload_n 2, 1) := by decide +kernel
theorem dX11_adds_24 : decode cX11_adds 24 = .ok (.bipush 8, 2) := by decide +kernel
theorem dX11_adds_26 : decode cX11_adds 26 = .ok (.if_icmp .ne 9, 3) := by decide +kernel
theorem dX11_adds_29 : decode cX11_adds 29 = .ok (.aload_n 0, 1) := by decide +kernel
theorem dX11_adds_30 : decode cX11_adds 30 = .ok (.iconst 2, 1) := by decide +kernel
theorem dX11_adds_31 : decode cX11_adds 31 = .ok (.invokevirtual 74, 3) := by decide +kernel
theorem dX11_adds_34 : decode cX11_adds 34 = .ok (.ireturn, 1) := by decide +kernel
theorem dX11_adds_35 : decode cX11_adds 35 = .ok (.iconst 0, 1) := by decide +kernel
theorem dX11_adds_36 : decode cX11_adds 36 = .ok (.istore_n 3, 1) := by decide +kernel
theorem dX11_adds_37 : decode cX11_adds 37 = .ok (.iload_n 3, 1) := by decide +kernel
theorem dX11_adds_38 : decode cX11_adds 38 = .ok (.bipush 10, 2) := by decide +kernel
theorem dX11_adds_40 : decode cX11_adds 40 = .ok (.if_icmp .ge 20, 3) := by decide +kernel
theorem dX11_adds_43 : decode cX11_adds 43 = .ok (.aload_n 0, 1) := by decide +kernel
theorem dX11_adds_44 : decode cX11_adds 44 = .ok (.getfield 16, 3) := by decide +kernel
theorem dX11_adds_47 : decode cX11_adds 47 = .ok (.iload_n 2, 1) := by decide +kernel
theorem dX11_adds_48 : decode cX11_adds 48 = .ok (.iload_n 3, 1) := by decide +kernel
theorem dX11_adds_49 : decode cX11_adds 49 = .ok (.invokestatic 67, 3) := by decide +kernel
theorem dX11_adds_52 : decode cX11_adds 52 = .ok (.iconst 0, 1) := by decide +kernel
theorem dX11_adds_53 : decode cX11_adds 53 = .ok (.iastore, 1) := by decide +kernel
theorem dX11_adds_54 : decode cX11_adds 54 = .ok (.iinc 3 1, 3) := by decide +kernel
theorem dX11_adds_57 : decode cX11_adds 57 = .ok (.goto (-20), 3) := by decide +kernel
theorem dX11_adds_60 : decode cX11_adds 60 = .ok (.aload_n 0, 1) := by decide +kernel
theorem dX11_adds_61 : decode cX11_adds 61 = .ok (.getfield 16, 3) := by decide +kernel
theorem dX11_adds_64 : decode cX11_adds 64 = .ok (.iload_n 2, 1) := by decide +kernel
theorem dX11_adds_65 : decode cX11_adds 65 = .ok (.iconst 0, 1) := by decide +kernel
theorem dX11_adds_66 : decode cX11_adds 66 = .ok (.invokestatic 67, 3) := by decide +kernel
theorem dX11_adds_69 : decode cX11_adds 69 = .ok (.iload_n 1, 1) := by decide +kernel
theorem dX11_adds_70 : decode cX11_adds 70 = .ok (.iastore, 1) := by decide +kernel
theorem dX11_adds_71 : decode cX11_adds 71 = .ok (.aload_n 0, 1) := by decide +kernel
theorem dX11_adds_72 : decode cX11_adds 72 = .ok (.getfield 16, 3) := by decide +kernel
theorem dX11_adds_75 : decode cX11_adds 75 = .ok (.iconst 0, 1) := by decide +kernel
theorem dX11_adds_76 : decode cX11_adds 76 = .ok (.dup2, 1) := by decide +kernel
theorem dX11_adds_77 : decode cX11_adds 77 = .ok (.iaload, 1) := by decide +kernel
theorem dX11_adds_78 : decode cX11_adds 78 = .ok (.iconst 1, 1) := by decide +kernel
theorem dX11_adds_79 : decode cX11_adds 79 = .ok (.iadd, 1) := by decide +kernel
theorem dX11_adds_80 : decode cX11_adds 80 = .ok (.iastore, 1) := by decide +kernel
theorem dX11_adds_81 : decode cX11_adds 81 = .ok (.iload_n 2, 1) := by decide +kernel
theorem dX11_adds_82 : decode cX11_adds 82 = .ok (.ireturn, 1) := by decide +kernel
theorem dX11_addNeedle_0 : decode cX11_addNeedle 0 = .ok (.aload_n 0, 1) := by decide +kernel
theorem dX11_addNeedle_1 : decode cX11_addNeedle 1 = .ok (.invokevirtual 78, 3) := by decide +kernel
theorem dX11_addNeedle_4 : decode cX11_addNeedle 4 = .ok (.aload_n 0, 1) := by decide +kernel
theorem dX11_addNeedle_5 : decode cX11_addNeedle 5 = .ok (.aload_n 0, 1) := by decide +kernel
theorem dX11_addNeedle_6 : decode cX11_addNeedle 6 = .ok (.iload_n 1, 1) := by decide +kernel
theorem dX11_addNeedle_7 : decode cX11_addNeedle 7 = .ok (.invokevirtual 81, 3) := by decide +kernel
theorem dX11_addNeedle_10 : decode cX11_addNeedle 10 = .ok (.invokevirtual 84, 3) := by decide +kernel
theorem dX11_addNeedle_13 : decode cX11_addNeedle 13 = .ok (.ireturn, 1) := by decide +kernel
theorem dX11_sets_0 : decode cX11_sets 0 = .ok (.aload_n 0, 1) := by decide +kernel
theorem dX11_sets_1 : decode cX11_sets 1 = .ok (.iload_n 1, 1) := by decide +kernel
theorem dX11_sets_2 : decode cX11_sets 2 = .ok (.invokevirtual 87, 3) := by decide +kernel
theorem dX11_sets_5 : decode cX11_sets 5 = .ok (.ifCond .ne 9, 3) := by decide +kernel
theorem dX11_sets_8 : decode cX11_sets 8 = .ok (.aload_n 0, 1) := by decide +kernel
theorem dX11_sets_9 : decode cX11_sets 9 = .ok (.iconst 1, 1) := by decide +kernel
theorem dX11_sets_10 : decode cX11_sets 10 = .ok (.invokevirtual 74, 3) := by decide +kernel
theorem dX11_sets_13 : decode cX11_sets 13 = .ok (.ireturn, 1) := by decide +kernel
theorem dX11_sets_14 : decode cX11_sets 14 = .ok (.iload_n 2, 1) := by decide +kernel
theorem dX11_sets_15 : decode cX11_sets 15 = .ok (.iconst 0, 1) := by decide +kernel
theorem dX11_sets_16 : decode cX11_sets 16 = .ok (.bipush 7, 2) := by decide +kernel
theorem dX11_sets_18 : decode cX11_sets 18 = .ok (.invokestatic 63, 3) := by decide +kernel
theorem dX11_sets_21 : decode cX11_sets 21 = .ok (.ifCond .eq 14, 3) := by decide +kernel
theorem dX11_sets_24 : decode cX11_sets 24 = .ok (.iload_n 3, 1) := by decide +kernel
theorem dX11_sets_25 : decode cX11_sets 25 = .ok (.bipush (-20), 2) := by decide +kernel
theorem dX11_sets_27 : decode cX11_sets 27 = .ok (.bipush 20, 2) := by decide +kernel
theorem dX11_sets_29 : decode cX11_sets 29 = .ok (.invokestatic 63, 3) := by decide +kernel
theorem dX11_sets_32 : decode cX11_sets 32 = .ok (.ifCond .ne 9, 3) := by decide +kernel
theorem dX11_sets_35 : decode cX11_sets 35 = .ok (.aload_n 0, 1) := by decide +kernel
theorem dX11_sets_36 : decode cX11_sets 36 = .ok (.iconst 2, 1) := by decide +kernel
theorem dX11_sets_37 : decode cX11_sets 37 = .ok (.invokevirtual 74, 3) := by decide +kernel
theorem dX11_sets_40 : decode cX11_sets 40 = .ok (.ireturn, 1) := by decide +kernel
theorem dX11_sets_41 : decode cX11_sets 41 = .ok (.aload_n 0, 1) := by decide +kernel
theorem dX11_sets_42 : decode cX11_sets 42 = .ok (.getfield 16, 3) := by decide +kernel
theorem dX11_sets_45 : decode cX11_sets 45 = .ok (.iload_n 1, 1) := by decide +kernel
theorem dX11_sets_46 : decode cX11_sets 46 = .ok (.iconst 1, 1) := by decide +kernel
theorem dX11_sets_47 : decode cX11_sets 47 = .ok (.invokestatic 67, 3) := by decide +kernel
theorem dX11_sets_50 : decode cX11_sets 50 = .ok (.iaload, 1) := by decide +kernel
theorem dX11_sets_51 : decode cX11_sets 51 = .ok (.iconst 1, 1) := by decide +kernel
theorem dX11_sets_52 : decode cX11_sets 52 = .ok (.if_icmp .ne 9, 3) := by decide +kernel
theorem dX11_sets_55 : decode cX11_sets 55 = .ok (.aload_n 0, 1) := by decide +kernel
theorem dX11_sets_56 : decode cX11_sets 56 = .ok (.iconst 3, 1) := by decide +kernel
theorem dX11_sets_57 : decode cX11_sets 57 = .ok (.invokevirtual 74, 3) := by decide +kernel
theorem dX11_sets_60 : decode cX11_sets 60 = .ok (.ireturn, 1) := by decide +kernel
theorem dX11_sets_61 : decode cX11_sets 61 = .ok (.aload_n 0, 1) := by decide +kernel
theorem dX11_sets_62 : decode cX11_sets 62 = .ok (.iload_n 1, 1) := by decide +kernel
theorem dX11_sets_63 : decode cX11_sets 63 = .ok (.iload_n 2, 1) := by decide +kernel
theorem dX11_sets_64 : decode cX11_sets 64 = .ok (.invokevirtual 91, 3) := by decide +kernel
theorem dX11_sets_67 : decode cX11_sets 67 = .ok (.istore 4, 2) := by decide +kernel
theorem dX11_sets_69 : decode cX11_sets 69 = .ok (.aload_n 0, 1) := by decide +kernel
theorem dX11_sets_70 : decode cX11_sets 70 = .ok (.getfield 16, 3) := by decide +kernel
theorem dX11_sets_73 : decode cX11_sets 73 = .ok (.iload_n 1, 1) := by decide +kernel
theorem dX11_sets_74 : decode cX11_sets 74 = .ok (.iconst 2, 1) := by decide +kernel
theorem dX11_sets_75 : decode cX11_sets 75 = .ok (.iload_n 2, 1) := by decide +kernel
theorem dX11_sets_76 : decode cX11_sets 76 = .ok (.iadd, 1) := by decide +kernel
theorem dX11_sets_77 : decode cX11_sets 77 = .ok (.invokestatic 67, 3) := by decide +kernel
theorem dX11_sets_80 : decode cX11_sets 80 = .ok (.iload_n 3, 1) := by decide +kernel
theorem dX11_sets_81 : decode cX11_sets 81 = .ok (.iastore, 1) := by decide +kernel
theorem dX11_sets_82 : decode cX11_sets 82 = .ok (.iload 4, 2) := by decide +kernel
theorem dX11_sets_84 : decode cX11_sets 84 = .ok (.ireturn, 1) := by decide +kernel
theorem dX11_setDeviation_0 : decode cX11_setDeviation 0 = .ok (.aload_n 0, 1) := by decide +kernel
theorem dX11_setDeviation_1 : decode cX11_setDeviation 1 = .ok (.invokevirtual 78, 3) := by decide +kernel
theorem dX11_setDeviation_4 : decode cX11_setDeviation 4 = .ok (.aload_n 0, 1) := by decide +kernel
theorem dX11_setDeviation_5 : decode cX11_setDeviation 5 = .ok (.aload_n 0, 1) := by decide +kernel
theorem dX11_setDeviation_6 : decode cX11_setDeviation 6 = .ok (.iload_n 1, 1) := by decide +kernel
theorem dX11_setDeviation_7 : decode cX11_setDeviation 7 = .ok (.iload_n 2, 1) := by decide +kernel
theorem dX11_setDeviation_8 : decode cX11_setDeviation 8 = .ok (.iload_n 3, 1) := by decide +kernel
theorem dX11_setDeviation_9 : decode cX11_setDeviation 9 = .ok (.invokevirtual 94, 3) := by decide +kernel
theorem dX11_setDeviation_12 : decode cX11_setDeviation 12 = .ok (.invokevirtual 84, 3) := by decide +kernel
theorem dX11_setDeviation_15 : decode cX11_setDeviation 15 = .ok (.ireturn, 1) := by decide +kernel
theorem dX11_error_0 : decode cX11_error 0 = .ok (.iconst 0, 1) := by decide +kernel
theorem dX11_error_1 : decode cX11_error 1 = .ok (.istore_n 3, 1) := by decide +kernel
theorem dX11_error_2 : decode cX11_error 2 = .ok (.iconst 0, 1) := by decide +kernel
theorem dX11_error_3 : decode cX11_error 3 = .ok (.istore 4, 2) := by decide +kernel
theorem dX11_error_5 : decode cX11_error 5 = .ok (.iload 4, 2) := by decide +kernel
theorem dX11_error_7 : decode cX11_error 7 = .ok (.bipush 8, 2) := by decide +kernel
theorem dX11_error_9 : decode cX11_error 9 = .ok (.if_icmp .ge 31, 3) := by decide +kernel
theorem dX11_error_12 : decode cX11_error 12 = .ok (.iload_n 3, 1) := by decide +kernel
theorem dX11_error_13 : decode cX11_error 13 = .ok (.aload_n 0, 1) := by decide +kernel
theorem dX11_error_14 : decode cX11_error 14 = .ok (.iload_n 1, 1) := by decide +kernel
theorem dX11_error_15 : decode cX11_error 15 = .ok (.iload 4, 2) := by decide +kernel
theorem dX11_error_17 : decode cX11_error 17 = .ok (.invokevirtual 91, 3) := by decide +kernel
theorem dX11_error_20 : decode cX11_error 20 = .ok (.iload_n 2, 1) := by decide +kernel
theorem dX11_error_21 : decode cX11_error 21 = .ok (.iadd, 1) := by decide +kernel
theorem dX11_error_22 : decode cX11_error 22 = .ok (.aload_n 0, 1) := by decide +kernel
theorem dX11_error_23 : decode cX11_error 23 = .ok (.iload_n 1, 1) := by decide +kernel
theorem dX11_error_24 : decode cX11_error 24 = .ok (.iload 4, 2) := by decide +kernel
theorem dX11_error_26 : decode cX11_error 26 = .ok (.invokevirtual 91, 3) := by decide +kernel
theorem dX11_error_29 : decode cX11_error 29 = .ok (.iload_n 2, 1) := by decide +kernel
theorem dX11_error_30 : decode cX11_error 30 = .ok (.iadd, 1) := by decide +kernel
theorem dX11_error_31 : decode cX11_error 31 = .ok (.imul, 1) := by decide +kernel
theorem dX11_error_32 : decode cX11_error 32 = .ok (.iadd, 1) := by decide +kernel
theorem dX11_error_33 : decode cX11_error 33 = .ok (.istore_n 3, 1) := by decide +kernel
theorem dX11_error_34 : decode cX11_error 34 = .ok (.iinc 4 1, 3) := by decide +kernel
theorem dX11_error_37 : decode cX11_error 37 = .ok (.goto (-32), 3) := by decide +kernel
theorem dX11_error_40 : decode cX11_error 40 = .ok (.iload_n 3, 1) := by decide +kernel
theorem dX11_error_41 : decode cX11_error 41 = .ok (.ireturn, 1) := by decide +kernel
theorem dX11_moves_0 : decode cX11_moves 0 = .ok (.iconst 1, 1) := by decide +kernel
theorem dX11_moves_1 : decode cX11_moves 1 = .ok (.istore_n 3, 1) := by decide +kernel
theorem dX11_moves_2 : decode cX11_moves 2 = .ok (.iconst 0, 1) := by decide +kernel
theorem dX11_moves_3 : decode cX11_moves 3 = .ok (.istore 4, 2) := by decide +kernel
theorem dX11_moves_5 : decode cX11_moves 5 = .ok (.iload 4, 2) := by decide +kernel
theorem dX11_moves_7 : decode cX11_moves 7 = .ok (.bipush 8, 2) := by decide +kernel
theorem dX11_moves_9 : decode cX11_moves 9 = .ok (.if_icmp .ge 43, 3) := by decide +kernel
theorem dX11_moves_12 : decode cX11_moves 12 = .ok (.aload_n 0, 1) := by decide +kernel
theorem dX11_moves_13 : decode cX11_moves 13 = .ok (.getfield 16, 3) := by decide +kernel
theorem dX11_moves_16 : decode cX11_moves 16 = .ok (.iload_n 1, 1) := by decide +kernel
theorem dX11_moves_17 : decode cX11_moves 17 = .ok (.iconst 2, 1) := by decide +kernel
theorem dX11_moves_18 : decode cX11_moves 18 = .ok (.iload 4, 2) := by decide +kernel
theorem dX11_moves_20 : decode cX11_moves 20 = .ok (.iadd, 1) := by decide +kernel
theorem dX11_moves_21 : decode cX11_moves 21 = .ok (.invokestatic 67, 3) := by decide +kernel
theorem dX11_moves_24 : decode cX11_moves 24 = .ok (.dup2, 1) := by decide +kernel
theorem dX11_moves_25 : decode cX11_moves 25 = .ok (.iaload, 1) := by decide +kernel
theorem dX11_moves_26 : decode cX11_moves 26 = .ok (.iload_n 2, 1) := by decide +kernel
theorem dX11_moves_27 : decode cX11_moves 27 = .ok (.iadd, 1) := by decide +kernel
theorem dX11_moves_28 : decode cX11_moves 28 = .ok (.iastore, 1) := by decide +kernel
theorem dX11_moves_29 : decode cX11_moves 29 = .ok (.iload_n 3, 1) := by decide +kernel
theorem dX11_moves_30 : decode cX11_moves 30 = .ok (.aload_n 0, 1) := by decide +kernel
theorem dX11_moves_31 : decode cX11_moves 31 = .ok (.iload_n 1, 1) := by decide +kernel
theorem dX11_moves_32 : decode cX11_moves 32 = .ok (.iload 4, 2) := by decide +kernel
theorem dX11_moves_34 : decode cX11_moves 34 = .ok (.invokevirtual 91, 3) := by decide +kernel
theorem dX11_moves_37 : decode cX11_moves 37 = .ok (.bipush (-20), 2) := by decide +kernel
theorem dX11_moves_39 : decode cX11_moves 39 = .ok (.bipush 20, 2) := by decide +kernel
theorem dX11_moves_41 : decode cX11_moves 41 = .ok (.invokestatic 63, 3) := by decide +kernel
theorem dX11_moves_44 : decode cX11_moves 44 = .ok (.iand, 1) := by decide +kernel
theorem dX11_moves_45 : decode cX11_moves 45 = .ok (.istore_n 3, 1) := by decide +kernel
theorem dX11_moves_46 : decode cX11_moves 46 = .ok (.iinc 4 1, 3) := by decide +kernel
theorem dX11_moves_49 : decode cX11_moves 49 = .ok (.goto (-44), 3) := by decide +kernel
theorem dX11_moves_52 : decode cX11_moves 52 = .ok (.iload_n 3, 1) := by decide +kernel
theorem dX11_moves_53 : decode cX11_moves 53 = .ok (.ireturn, 1) := by decide +kernel
theorem dX11_shifts_0 : decode cX11_shifts 0 = .ok (.aload_n 0, 1) := by decide +kernel
theorem dX11_shifts_1 : decode cX11_shifts 1 = .ok (.iload_n 1, 1) := by decide +kernel
theorem dX11_shifts_2 : decode cX11_shifts 2 = .ok (.invokevirtual 87, 3) := by decide +kernel
theorem dX11_shifts_5 : decode cX11_shifts 5 = .ok (.ifCond .ne 9, 3) := by decide +kernel
theorem dX11_shifts_8 : decode cX11_shifts 8 = .ok (.aload_n 0, 1) := by decide +kernel
theorem dX11_shifts_9 : decode cX11_shifts 9 = .ok (.iconst 1, 1) := by decide +kernel
theorem dX11_shifts_10 : decode cX11_shifts 10 = .ok (.invokevirtual 74, 3) := by decide +kernel
theorem dX11_shifts_13 : decode cX11_shifts 13 = .ok (.ireturn, 1) := by decide +kernel
theorem dX11_shifts_14 : decode cX11_shifts 14 = .ok (.iload_n 2, 1) := by decide +kernel
theorem dX11_shifts_15 : decode cX11_shifts 15 = .ok (.bipush (-40), 2) := by decide +kernel
theorem dX11_shifts_17 : decode cX11_shifts 17 = .ok (.bipush 40, 2) := by decide +kernel
theorem dX11_shifts_19 : decode cX11_shifts 19 = .ok (.invokestatic 63, 3) := by decide +kernel
theorem dX11_shifts_22 : decode cX11_shifts 22 = .ok (.ifCond .ne 9, 3) := by decide +kernel
theorem dX11_shifts_25 : decode cX11_shifts 25 = .ok (.aload_n 0, 1) := by decide +kernel
theorem dX11_shifts_26 : decode cX11_shifts 26 = .ok (.iconst 2, 1) := by decide +kernel
theorem dX11_shifts_27 : decode cX11_shifts 27 = .ok (.invokevirtual 74, 3) := by decide +kernel
theorem dX11_shifts_30 : decode cX11_shifts 30 = .ok (.ireturn, 1) := by decide +kernel
theorem dX11_shifts_31 : decode cX11_shifts 31 = .ok (.aload_n 0, 1) := by decide +kernel
theorem dX11_shifts_32 : decode cX11_shifts 32 = .ok (.getfield 16, 3) := by decide +kernel
theorem dX11_shifts_35 : decode cX11_shifts 35 = .ok (.iload_n 1, 1) := by decide +kernel
theorem dX11_shifts_36 : decode cX11_shifts 36 = .ok (.iconst 1, 1) := by decide +kernel
theorem dX11_shifts_37 : decode cX11_shifts 37 = .ok (.invokestatic 67, 3) := by decide +kernel
theorem dX11_shifts_40 : decode cX11_shifts 40 = .ok (.iaload, 1) := by decide +kernel
theorem dX11_shifts_41 : decode cX11_shifts 41 = .ok (.iconst 1, 1) := by decide +kernel
theorem dX11_shifts_42 : decode cX11_shifts 42 = .ok (.if_icmp .ne 9, 3) := by decide +kernel
theorem dX11_shifts_45 : decode cX11_shifts 45 = .ok (.aload_n 0, 1) := by decide +kernel
theorem dX11_shifts_46 : decode cX11_shifts 46 = .ok (.iconst 3, 1) := by decide +kernel
theorem dX11_shifts_47 : decode cX11_shifts 47 = .ok (.invokevirtual 74, 3) := by decide +kernel
theorem dX11_shifts_50 : decode cX11_shifts 50 = .ok (.ireturn, 1) := by decide +kernel
theorem dX11_shifts_51 : decode cX11_shifts 51 = .ok (.aload_n 0, 1) := by decide +kernel
theorem dX11_shifts_52 : decode cX11_shifts 52 = .ok (.iload_n 1, 1) := by decide +kernel
theorem dX11_shifts_53 : decode cX11_shifts 53 = .ok (.iload_n 2, 1) := by decide +kernel
theorem dX11_shifts_54 : decode cX11_shifts 54 = .ok (.invokevirtual 98, 3) := by decide +kernel
theorem dX11_shifts_57 : decode cX11_shifts 57 = .ok (.ifCond .eq 12, 3) := by decide +kernel
theorem dX11_shifts_60 : decode cX11_shifts 60 = .ok (.aload_n 0, 1) := by decide +kernel
theorem dX11_shifts_61 : decode cX11_shifts 61 = .ok (.iload_n 1, 1) := by decide +kernel
theorem dX11_shifts_62 : decode cX11_shifts 62 = .ok (.iconst 0, 1) := by decide +kernel
theorem dX11_shifts_63 : decode cX11_shifts 63 = .ok (.invokevirtual 102, 3) := by decide +kernel
theorem dX11_shifts_66 : decode cX11_shifts 66 = .ok (.goto 8, 3) := by decide +kernel
theorem dX11_shifts_69 : decode cX11_shifts 69 = .ok (.aload_n 0, 1) := by decide +kernel
theorem dX11_shifts_70 : decode cX11_shifts 70 = .ok (.iconst 4, 1) := by decide +kernel
theorem dX11_shifts_71 : decode cX11_shifts 71 = .ok (.invokevirtual 74, 3) := by decide +kernel
theorem dX11_shifts_74 : decode cX11_shifts 74 = .ok (.ireturn, 1) := by decide +kernel
theorem dX11_shift_0 : decode cX11_shift 0 = .ok (.aload_n 0, 1) := by decide +kernel
theorem dX11_shift_1 : decode cX11_shift 1 = .ok (.invokevirtual 78, 3) := by decide +kernel
theorem dX11_shift_4 : decode cX11_shift 4 = .ok (.aload_n 0, 1) := by decide +kernel
theorem dX11_shift_5 : decode cX11_shift 5 = .ok (.aload_n 0, 1) := by decide +kernel
theorem dX11_shift_6 : decode cX11_shift 6 = .ok (.iload_n 1, 1) := by decide +kernel
theorem dX11_shift_7 : decode cX11_shift 7 = .ok (.iload_n 2, 1) := by decide +kernel
theorem dX11_shift_8 : decode cX11_shift 8 = .ok (.invokevirtual 105, 3) := by decide +kernel
theorem dX11_shift_11 : decode cX11_shift 11 = .ok (.invokevirtual 84, 3) := by decide +kernel
theorem dX11_shift_14 : decode cX11_shift 14 = .ok (.ireturn, 1) := by decide +kernel
theorem dX11_bestFor_0 : decode cX11_bestFor 0 = .ok (.iconst 0, 1) := by decide +kernel
theorem dX11_bestFor_1 : decode cX11_bestFor 1 = .ok (.istore_n 2, 1) := by decide +kernel
theorem dX11_bestFor_2 : decode cX11_bestFor 2 = .ok (.iconst 1, 1) := by decide +kernel
theorem dX11_bestFor_3 : decode cX11_bestFor 3 = .ok (.istore_n 3, 1) := by decide +kernel
theorem dX11_bestFor_4 : decode cX11_bestFor 4 = .ok (.iload_n 3, 1) := by decide +kernel
theorem dX11_bestFor_5 : decode cX11_bestFor 5 = .ok (.bipush 20, 2) := by decide +kernel
theorem dX11_bestFor_7 : decode cX11_bestFor 7 = .ok (.if_icmp .gt 45, 3) := by decide +kernel
theorem dX11_bestFor_10 : decode cX11_bestFor 10 = .ok (.aload_n 0, 1) := by decide +kernel
theorem dX11_bestFor_11 : decode cX11_bestFor 11 = .ok (.iload_n 1, 1) := by decide +kernel
theorem dX11_bestFor_12 : decode cX11_bestFor 12 = .ok (.iload_n 3, 1) := by decide +kernel
theorem dX11_bestFor_13 : decode cX11_bestFor 13 = .ok (.invokevirtual 102, 3) := by decide +kernel
theorem dX11_bestFor_16 : decode cX11_bestFor 16 = .ok (.aload_n 0, 1) := by decide +kernel
theorem dX11_bestFor_17 : decode cX11_bestFor 17 = .ok (.iload_n 1, 1) := by decide +kernel
theorem dX11_bestFor_18 : decode cX11_bestFor 18 = .ok (.iload_n 2, 1) := by decide +kernel
theorem dX11_bestFor_19 : decode cX11_bestFor 19 = .ok (.invokevirtual 102, 3) := by decide +kernel
theorem dX11_bestFor_22 : decode cX11_bestFor 22 = .ok (.if_icmp .ge 5, 3) := by decide +kernel
theorem dX11_bestFor_25 : decode cX11_bestFor 25 = .ok (.iload_n 3, 1) := by decide +kernel
theorem dX11_bestFor_26 : decode cX11_bestFor 26 = .ok (.istore_n 2, 1) := by decide +kernel
theorem dX11_bestFor_27 : decode cX11_bestFor 27 = .ok (.aload_n 0, 1) := by decide +kernel
theorem dX11_bestFor_28 : decode cX11_bestFor 28 = .ok (.iload_n 1, 1) := by decide +kernel
theorem dX11_bestFor_29 : decode cX11_bestFor 29 = .ok (.iload_n 3, 1) := by decide +kernel
theorem dX11_bestFor_30 : decode cX11_bestFor 30 = .ok (.ineg, 1) := by decide +kernel
theorem dX11_bestFor_31 : decode cX11_bestFor 31 = .ok (.invokevirtual 102, 3) := by decide +kernel
theorem dX11_bestFor_34 : decode cX11_bestFor 34 = .ok (.aload_n 0, 1) := by decide +kernel
theorem dX11_bestFor_35 : decode cX11_bestFor 35 = .ok (.iload_n 1, 1) := by decide +kernel
theorem dX11_bestFor_36 : decode cX11_bestFor 36 = .ok (.iload_n 2, 1) := by decide +kernel
theorem dX11_bestFor_37 : decode cX11_bestFor 37 = .ok (.invokevirtual 102, 3) := by decide +kernel
theorem dX11_bestFor_40 : decode cX11_bestFor 40 = .ok (.if_icmp .ge 6, 3) := by decide +kernel
theorem dX11_bestFor_43 : decode cX11_bestFor 43 = .ok (.iload_n 3, 1) := by decide +kernel
theorem dX11_bestFor_44 : decode cX11_bestFor 44 = .ok (.ineg, 1) := by decide +kernel
theorem dX11_bestFor_45 : decode cX11_bestFor 45 = .ok (.istore_n 2, 1) := by decide +kernel
theorem dX11_bestFor_46 : decode cX11_bestFor 46 = .ok (.iinc 3 1, 3) := by decide +kernel
theorem dX11_bestFor_49 : decode cX11_bestFor 49 = .ok (.goto (-45), 3) := by decide +kernel
theorem dX11_bestFor_52 : decode cX11_bestFor 52 = .ok (.iload_n 2, 1) := by decide +kernel
theorem dX11_bestFor_53 : decode cX11_bestFor 53 = .ok (.ireturn, 1) := by decide +kernel
theorem dX11_corrects_0 : decode cX11_corrects 0 = .ok (.aload_n 0, 1) := by decide +kernel
theorem dX11_corrects_1 : decode cX11_corrects 1 = .ok (.iload_n 1, 1) := by decide +kernel
theorem dX11_corrects_2 : decode cX11_corrects 2 = .ok (.invokevirtual 87, 3) := by decide +kernel
theorem dX11_corrects_5 : decode cX11_corrects 5 = .ok (.ifCond .ne 9, 3) := by decide +kernel
theorem dX11_corrects_8 : decode cX11_corrects 8 = .ok (.aload_n 0, 1) := by decide +kernel
theorem dX11_corrects_9 : decode cX11_corrects 9 = .ok (.iconst 1, 1) := by decide +kernel
theorem dX11_corrects_10 : decode cX11_corrects 10 = .ok (.invokevirtual 74, 3) := by decide +kernel
theorem dX11_corrects_13 : decode cX11_corrects 13 = .ok (.ireturn, 1) := by decide +kernel
theorem dX11_corrects_14 : decode cX11_corrects 14 = .ok (.aload_n 0, 1) := by decide +kernel
theorem dX11_corrects_15 : decode cX11_corrects 15 = .ok (.getfield 16, 3) := by decide +kernel
theorem dX11_corrects_18 : decode cX11_corrects 18 = .ok (.iload_n 1, 1) := by decide +kernel
theorem dX11_corrects_19 : decode cX11_corrects 19 = .ok (.iconst 1, 1) := by decide +kernel
theorem dX11_corrects_20 : decode cX11_corrects 20 = .ok (.invokestatic 67, 3) := by decide +kernel
theorem dX11_corrects_23 : decode cX11_corrects 23 = .ok (.iaload, 1) := by decide +kernel
theorem dX11_corrects_24 : decode cX11_corrects 24 = .ok (.iconst 1, 1) := by decide +kernel
theorem dX11_corrects_25 : decode cX11_corrects 25 = .ok (.if_icmp .ne 9, 3) := by decide +kernel
theorem dX11_corrects_28 : decode cX11_corrects 28 = .ok (.aload_n 0, 1) := by decide +kernel
theorem dX11_corrects_29 : decode cX11_corrects 29 = .ok (.iconst 2, 1) := by decide +kernel
theorem dX11_corrects_30 : decode cX11_corrects 30 = .ok (.invokevirtual 74, 3) := by decide +kernel
theorem dX11_corrects_33 : decode cX11_corrects 33 = .ok (.ireturn, 1) := by decide +kernel
theorem dX11_corrects_34 : decode cX11_corrects 34 = .ok (.aload_n 0, 1) := by decide +kernel
theorem dX11_corrects_35 : decode cX11_corrects 35 = .ok (.iload_n 1, 1) := by decide +kernel
theorem dX11_corrects_36 : decode cX11_corrects 36 = .ok (.invokevirtual 108, 3) := by decide +kernel
theorem dX11_corrects_39 : decode cX11_corrects 39 = .ok (.istore_n 2, 1) := by decide +kernel
theorem dX11_corrects_40 : decode cX11_corrects 40 = .ok (.aload_n 0, 1) := by decide +kernel
theorem dX11_corrects_41 : decode cX11_corrects 41 = .ok (.iload_n 1, 1) := by decide +kernel
theorem dX11_corrects_42 : decode cX11_corrects 42 = .ok (.iload_n 2, 1) := by decide +kernel
theorem dX11_corrects_43 : decode cX11_corrects 43 = .ok (.invokevirtual 98, 3) := by decide +kernel
theorem dX11_corrects_46 : decode cX11_corrects 46 = .ok (.ifCond .eq 7, 3) := by decide +kernel
theorem dX11_corrects_49 : decode cX11_corrects 49 = .ok (.iload_n 2, 1) := by decide +kernel
theorem dX11_corrects_50 : decode cX11_corrects 50 = .ok (.goto 8, 3) := by decide +kernel
theorem dX11_corrects_53 : decode cX11_corrects 53 = .ok (.aload_n 0, 1) := by decide +kernel
theorem dX11_corrects_54 : decode cX11_corrects 54 = .ok (.iconst 3, 1) := by decide +kernel
theorem dX11_corrects_55 : decode cX11_corrects 55 = .ok (.invokevirtual 74, 3) := by decide +kernel
theorem dX11_corrects_58 : decode cX11_corrects 58 = .ok (.ireturn, 1) := by decide +kernel
theorem dX11_correct_0 : decode cX11_correct 0 = .ok (.aload_n 0, 1) := by decide +kernel
theorem dX11_correct_1 : decode cX11_correct 1 = .ok (.invokevirtual 78, 3) := by decide +kernel
theorem dX11_correct_4 : decode cX11_correct 4 = .ok (.aload_n 0, 1) := by decide +kernel
theorem dX11_correct_5 : decode cX11_correct 5 = .ok (.aload_n 0, 1) := by decide +kernel
theorem dX11_correct_6 : decode cX11_correct 6 = .ok (.iload_n 1, 1) := by decide +kernel
theorem dX11_correct_7 : decode cX11_correct 7 = .ok (.invokevirtual 111, 3) := by decide +kernel
theorem dX11_correct_10 : decode cX11_correct 10 = .ok (.invokevirtual 84, 3) := by decide +kernel
theorem dX11_correct_13 : decode cX11_correct 13 = .ok (.ireturn, 1) := by decide +kernel
theorem dX11_drops_0 : decode cX11_drops 0 = .ok (.aload_n 0, 1) := by decide +kernel
theorem dX11_drops_1 : decode cX11_drops 1 = .ok (.iload_n 1, 1) := by decide +kernel
theorem dX11_drops_2 : decode cX11_drops 2 = .ok (.invokevirtual 87, 3) := by decide +kernel
theorem dX11_drops_5 : decode cX11_drops 5 = .ok (.ifCond .ne 9, 3) := by decide +kernel
theorem dX11_drops_8 : decode cX11_drops 8 = .ok (.aload_n 0, 1) := by decide +kernel
theorem dX11_drops_9 : decode cX11_drops 9 = .ok (.iconst 1, 1) := by decide +kernel
theorem dX11_drops_10 : decode cX11_drops 10 = .ok (.invokevirtual 74, 3) := by decide +kernel
theorem dX11_drops_13 : decode cX11_drops 13 = .ok (.ireturn, 1) := by decide +kernel
theorem dX11_drops_14 : decode cX11_drops 14 = .ok (.aload_n 0, 1) := by decide +kernel
theorem dX11_drops_15 : decode cX11_drops 15 = .ok (.getfield 16, 3) := by decide +kernel
theorem dX11_drops_18 : decode cX11_drops 18 = .ok (.iload_n 1, 1) := by decide +kernel
theorem dX11_drops_19 : decode cX11_drops 19 = .ok (.iconst 1, 1) := by decide +kernel
theorem dX11_drops_20 : decode cX11_drops 20 = .ok (.invokestatic 67, 3) := by decide +kernel
theorem dX11_drops_23 : decode cX11_drops 23 = .ok (.iaload, 1) := by decide +kernel
theorem dX11_drops_24 : decode cX11_drops 24 = .ok (.iconst 1, 1) := by decide +kernel
theorem dX11_drops_25 : decode cX11_drops 25 = .ok (.if_icmp .ne 9, 3) := by decide +kernel
theorem dX11_drops_28 : decode cX11_drops 28 = .ok (.aload_n 0, 1) := by decide +kernel
theorem dX11_drops_29 : decode cX11_drops 29 = .ok (.iconst 2, 1) := by decide +kernel
theorem dX11_drops_30 : decode cX11_drops 30 = .ok (.invokevirtual 74, 3) := by decide +kernel
theorem dX11_drops_33 : decode cX11_drops 33 = .ok (.ireturn, 1) := by decide +kernel
theorem dX11_drops_34 : decode cX11_drops 34 = .ok (.aload_n 0, 1) := by decide +kernel
theorem dX11_drops_35 : decode cX11_drops 35 = .ok (.getfield 16, 3) := by decide +kernel
theorem dX11_drops_38 : decode cX11_drops 38 = .ok (.iload_n 1, 1) := by decide +kernel
theorem dX11_drops_39 : decode cX11_drops 39 = .ok (.iconst 1, 1) := by decide +kernel
theorem dX11_drops_40 : decode cX11_drops 40 = .ok (.invokestatic 67, 3) := by decide +kernel
theorem dX11_drops_43 : decode cX11_drops 43 = .ok (.iconst 1, 1) := by decide +kernel
theorem dX11_drops_44 : decode cX11_drops 44 = .ok (.iastore, 1) := by decide +kernel
theorem dX11_drops_45 : decode cX11_drops 45 = .ok (.iconst 0, 1) := by decide +kernel
theorem dX11_drops_46 : decode cX11_drops 46 = .ok (.istore_n 2, 1) := by decide +kernel
theorem dX11_drops_47 : decode cX11_drops 47 = .ok (.iconst 0, 1) := by decide +kernel
theorem dX11_drops_48 : decode cX11_drops 48 = .ok (.istore_n 3, 1) := by decide +kernel
theorem dX11_drops_49 : decode cX11_drops 49 = .ok (.iload_n 3, 1) := by decide +kernel
theorem dX11_drops_50 : decode cX11_drops 50 = .ok (.aload_n 0, 1) := by decide +kernel
theorem dX11_drops_51 : decode cX11_drops 51 = .ok (.getfield 16, 3) := by decide +kernel
theorem dX11_drops_54 : decode cX11_drops 54 = .ok (.iconst 0, 1) := by decide +kernel
theorem dX11_drops_55 : decode cX11_drops 55 = .ok (.iaload, 1) := by decide +kernel
theorem dX11_drops_56 : decode cX11_drops 56 = .ok (.if_icmp .ge 22, 3) := by decide +kernel
theorem dX11_drops_59 : decode cX11_drops 59 = .ok (.iload_n 2, 1) := by decide +kernel
theorem dX11_drops_60 : decode cX11_drops 60 = .ok (.aload_n 0, 1) := by decide +kernel
theorem dX11_drops_61 : decode cX11_drops 61 = .ok (.getfield 16, 3) := by decide +kernel
theorem dX11_drops_64 : decode cX11_drops 64 = .ok (.iload_n 3, 1) := by decide +kernel
theorem dX11_drops_65 : decode cX11_drops 65 = .ok (.iconst 1, 1) := by decide +kernel
theorem dX11_drops_66 : decode cX11_drops 66 = .ok (.invokestatic 67, 3) := by decide +kernel
theorem dX11_drops_69 : decode cX11_drops 69 = .ok (.iaload, 1) := by decide +kernel
theorem dX11_drops_70 : decode cX11_drops 70 = .ok (.iadd, 1) := by decide +kernel
theorem dX11_drops_71 : decode cX11_drops 71 = .ok (.istore_n 2, 1) := by decide +kernel
theorem dX11_drops_72 : decode cX11_drops 72 = .ok (.iinc 3 1, 3) := by decide +kernel
theorem dX11_drops_75 : decode cX11_drops 75 = .ok (.goto (-26), 3) := by decide +kernel
theorem dX11_drops_78 : decode cX11_drops 78 = .ok (.iload_n 2, 1) := by decide +kernel
theorem dX11_drops_79 : decode cX11_drops 79 = .ok (.ireturn, 1) := by decide +kernel
theorem dX11_discard_0 : decode cX11_discard 0 = .ok (.aload_n 0, 1) := by decide +kernel
theorem dX11_discard_1 : decode cX11_discard 1 = .ok (.invokevirtual 78, 3) := by decide +kernel
theorem dX11_discard_4 : decode cX11_discard 4 = .ok (.aload_n 0, 1) := by decide +kernel
theorem dX11_discard_5 : decode cX11_discard 5 = .ok (.aload_n 0, 1) := by decide +kernel
theorem dX11_discard_6 : decode cX11_discard 6 = .ok (.iload_n 1, 1) := by decide +kernel
theorem dX11_discard_7 : decode cX11_discard 7 = .ok (.invokevirtual 114, 3) := by decide +kernel
theorem dX11_discard_10 : decode cX11_discard 10 = .ok (.invokevirtual 84, 3) := by decide +kernel
theorem dX11_discard_13 : decode cX11_discard 13 = .ok (.ireturn, 1) := by decide +kernel
theorem dX11_isBad_0 : decode cX11_isBad 0 = .ok (.iconst 0, 1) := by decide +kernel
theorem dX11_isBad_1 : decode cX11_isBad 1 = .ok (.istore_n 2, 1) := by decide +kernel
theorem dX11_isBad_2 : decode cX11_isBad 2 = .ok (.iload_n 2, 1) := by decide +kernel
theorem dX11_isBad_3 : decode cX11_isBad 3 = .ok (.bipush 8, 2) := by decide +kernel
theorem dX11_isBad_5 : decode cX11_isBad 5 = .ok (.if_icmp .ge 42, 3) := by decide +kernel
theorem dX11_isBad_8 : decode cX11_isBad 8 = .ok (.aload_n 0, 1) := by decide +kernel
theorem dX11_isBad_9 : decode cX11_isBad 9 = .ok (.iload_n 1, 1) := by decide +kernel
theorem dX11_isBad_10 : decode cX11_isBad 10 = .ok (.iload_n 2, 1) := by decide +kernel
theorem dX11_isBad_11 : decode cX11_isBad 11 = .ok (.invokevirtual 91, 3) := by decide +kernel
theorem dX11_isBad_14 : decode cX11_isBad 14 = .ok (.aload_n 0, 1) := by decide +kernel
theorem dX11_isBad_15 : decode cX11_isBad 15 = .ok (.getfield 16, 3) := by decide +kernel
theorem dX11_isBad_18 : decode cX11_isBad 18 = .ok (.iconst 1, 1) := by decide +kernel
theorem dX11_isBad_19 : decode cX11_isBad 19 = .ok (.iaload, 1) := by decide +kernel
theorem dX11_isBad_20 : decode cX11_isBad 20 = .ok (.if_icmp .gt 19, 3) := by decide +kernel
theorem dX11_isBad_23 : decode cX11_isBad 23 = .ok (.aload_n 0, 1) := by decide +kernel
theorem dX11_isBad_24 : decode cX11_isBad 24 = .ok (.iload_n 1, 1) := by decide +kernel
theorem dX11_isBad_25 : decode cX11_isBad 25 = .ok (.iload_n 2, 1) := by decide +kernel
theorem dX11_isBad_26 : decode cX11_isBad 26 = .ok (.invokevirtual 91, 3) := by decide +kernel
theorem dX11_isBad_29 : decode cX11_isBad 29 = .ok (.ineg, 1) := by decide +kernel
theorem dX11_isBad_30 : decode cX11_isBad 30 = .ok (.aload_n 0, 1) := by decide +kernel
theorem dX11_isBad_31 : decode cX11_isBad 31 = .ok (.getfield 16, 3) := by decide +kernel
theorem dX11_isBad_34 : decode cX11_isBad 34 = .ok (.iconst 1, 1) := by decide +kernel
theorem dX11_isBad_35 : decode cX11_isBad 35 = .ok (.iaload, 1) := by decide +kernel
theorem dX11_isBad_36 : decode cX11_isBad 36 = .ok (.if_icmp .le 5, 3) := by decide +kernel
theorem dX11_isBad_39 : decode cX11_isBad 39 = .ok (.iconst 1, 1) := by decide +kernel
theorem dX11_isBad_40 : decode cX11_isBad 40 = .ok (.ireturn, 1) := by decide +kernel
theorem dX11_isBad_41 : decode cX11_isBad 41 = .ok (.iinc 2 1, 3) := by decide +kernel
theorem dX11_isBad_44 : decode cX11_isBad 44 = .ok (.goto (-42), 3) := by decide +kernel
theorem dX11_isBad_47 : decode cX11_isBad 47 = .ok (.iconst 0, 1) := by decide +kernel
theorem dX11_isBad_48 : decode cX11_isBad 48 = .ok (.ireturn, 1) := by decide +kernel
theorem dX11_limits_0 : decode cX11_limits 0 = .ok (.iload_n 1, 1) := by decide +kernel
theorem dX11_limits_1 : decode cX11_limits 1 = .ok (.iconst 0, 1) := by decide +kernel
theorem dX11_limits_2 : decode cX11_limits 2 = .ok (.bipush 20, 2) := by decide +kernel
theorem dX11_limits_4 : decode cX11_limits 4 = .ok (.invokestatic 63, 3) := by decide +kernel
theorem dX11_limits_7 : decode cX11_limits 7 = .ok (.ifCond .ne 9, 3) := by decide +kernel
theorem dX11_limits_10 : decode cX11_limits 10 = .ok (.aload_n 0, 1) := by decide +kernel
theorem dX11_limits_11 : decode cX11_limits 11 = .ok (.iconst 1, 1) := by decide +kernel
theorem dX11_limits_12 : decode cX11_limits 12 = .ok (.invokevirtual 74, 3) := by decide +kernel
theorem dX11_limits_15 : decode cX11_limits 15 = .ok (.ireturn, 1) := by decide +kernel
theorem dX11_limits_16 : decode cX11_limits 16 = .ok (.aload_n 0, 1) := by decide +kernel
theorem dX11_limits_17 : decode cX11_limits 17 = .ok (.getfield 16, 3) := by decide +kernel
theorem dX11_limits_20 : decode cX11_limits 20 = .ok (.iconst 1, 1) := by decide +kernel
theorem dX11_limits_21 : decode cX11_limits 21 = .ok (.iload_n 1, 1) := by decide +kernel
theorem dX11_limits_22 : decode cX11_limits 22 = .ok (.iastore, 1) := by decide +kernel
theorem dX11_limits_23 : decode cX11_limits 23 = .ok (.iconst 0, 1) := by decide +kernel
theorem dX11_limits_24 : decode cX11_limits 24 = .ok (.istore_n 2, 1) := by decide +kernel
theorem dX11_limits_25 : decode cX11_limits 25 = .ok (.iconst 0, 1) := by decide +kernel
theorem dX11_limits_26 : decode cX11_limits 26 = .ok (.istore_n 3, 1) := by decide +kernel
theorem dX11_limits_27 : decode cX11_limits 27 = .ok (.iload_n 3, 1) := by decide +kernel
theorem dX11_limits_28 : decode cX11_limits 28 = .ok (.aload_n 0, 1) := by decide +kernel
theorem dX11_limits_29 : decode cX11_limits 29 = .ok (.getfield 16, 3) := by decide +kernel
theorem dX11_limits_32 : decode cX11_limits 32 = .ok (.iconst 0, 1) := by decide +kernel
theorem dX11_limits_33 : decode cX11_limits 33 = .ok (.iaload, 1) := by decide +kernel
theorem dX11_limits_34 : decode cX11_limits 34 = .ok (.if_icmp .ge 25, 3) := by decide +kernel
theorem dX11_limits_37 : decode cX11_limits 37 = .ok (.iload_n 2, 1) := by decide +kernel
theorem dX11_limits_38 : decode cX11_limits 38 = .ok (.aload_n 0, 1) := by decide +kernel
theorem dX11_limits_39 : decode cX11_limits 39 = .ok (.iload_n 3, 1) := by decide +kernel
theorem dX11_limits_40 : decode cX11_limits 40 = .ok (.invokevirtual 117, 3) := by decide +kernel
theorem dX11_limits_43 : decode cX11_limits 43 = .ok (.ifCond .eq 7, 3) := by decide +kernel
theorem dX11_limits_46 : decode cX11_limits 46 = .ok (.iconst 1, 1) := by decide +kernel
theorem dX11_limits_47 : decode cX11_limits 47 = .ok (.goto 4, 3) := by decide +kernel
theorem dX11_limits_50 : decode cX11_limits 50 = .ok (.iconst 0, 1) := by decide +kernel
theorem dX11_limits_51 : decode cX11_limits 51 = .ok (.iadd, 1) := by decide +kernel
theorem dX11_limits_52 : decode cX11_limits 52 = .ok (.istore_n 2, 1) := by decide +kernel
theorem dX11_limits_53 : decode cX11_limits 53 = .ok (.iinc 3 1, 3) := by decide +kernel
theorem dX11_limits_56 : decode cX11_limits 56 = .ok (.goto (-29), 3) := by decide +kernel
theorem dX11_limits_59 : decode cX11_limits 59 = .ok (.iload_n 2, 1) := by decide +kernel
theorem dX11_limits_60 : decode cX11_limits 60 = .ok (.ireturn, 1) := by decide +kernel
theorem dX11_setTolerance_0 : decode cX11_setTolerance 0 = .ok (.aload_n 0, 1) := by decide +kernel
theorem dX11_setTolerance_1 : decode cX11_setTolerance 1 = .ok (.invokevirtual 78, 3) := by decide +kernel
theorem dX11_setTolerance_4 : decode cX11_setTolerance 4 = .ok (.aload_n 0, 1) := by decide +kernel
theorem dX11_setTolerance_5 : decode cX11_setTolerance 5 = .ok (.aload_n 0, 1) := by decide +kernel
theorem dX11_setTolerance_6 : decode cX11_setTolerance 6 = .ok (.iload_n 1, 1) := by decide +kernel
theorem dX11_setTolerance_7 : decode cX11_setTolerance 7 = .ok (.invokevirtual 120, 3) := by decide +kernel
theorem dX11_setTolerance_10 : decode cX11_setTolerance 10 = .ok (.invokevirtual 84, 3) := by decide +kernel
theorem dX11_setTolerance_13 : decode cX11_setTolerance 13 = .ok (.ireturn, 1) := by decide +kernel
theorem dX11_tells_0 : decode cX11_tells 0 = .ok (.aload_n 0, 1) := by decide +kernel
theorem dX11_tells_1 : decode cX11_tells 1 = .ok (.iconst 0, 1) := by decide +kernel
theorem dX11_tells_2 : decode cX11_tells 2 = .ok (.putfield 53, 3) := by decide +kernel
theorem dX11_tells_5 : decode cX11_tells 5 = .ok (.aload_n 0, 1) := by decide +kernel
theorem dX11_tells_6 : decode cX11_tells 6 = .ok (.getfield 16, 3) := by decide +kernel
theorem dX11_tells_9 : decode cX11_tells 9 = .ok (.iload_n 1, 1) := by decide +kernel
theorem dX11_tells_10 : decode cX11_tells 10 = .ok (.iaload, 1) := by decide +kernel
theorem dX11_tells_11 : decode cX11_tells 11 = .ok (.ireturn, 1) := by decide +kernel
theorem dX11_needleCount_0 : decode cX11_needleCount 0 = .ok (.aload_n 0, 1) := by decide +kernel
theorem dX11_needleCount_1 : decode cX11_needleCount 1 = .ok (.iconst 0, 1) := by decide +kernel
theorem dX11_needleCount_2 : decode cX11_needleCount 2 = .ok (.invokevirtual 123, 3) := by decide +kernel
theorem dX11_needleCount_5 : decode cX11_needleCount 5 = .ok (.ireturn, 1) := by decide +kernel
theorem dX11_strengthOf_0 : decode cX11_strengthOf 0 = .ok (.aload_n 0, 1) := by decide +kernel
theorem dX11_strengthOf_1 : decode cX11_strengthOf 1 = .ok (.aload_n 0, 1) := by decide +kernel
theorem dX11_strengthOf_2 : decode cX11_strengthOf 2 = .ok (.iload_n 1, 1) := by decide +kernel
theorem dX11_strengthOf_3 : decode cX11_strengthOf 3 = .ok (.invokevirtual 87, 3) := by decide +kernel
theorem dX11_strengthOf_6 : decode cX11_strengthOf 6 = .ok (.ifCond .eq 7, 3) := by decide +kernel
theorem dX11_strengthOf_9 : decode cX11_strengthOf 9 = .ok (.iconst 0, 1) := by decide +kernel
theorem dX11_strengthOf_10 : decode cX11_strengthOf 10 = .ok (.goto 4, 3) := by decide +kernel
theorem dX11_strengthOf_13 : decode cX11_strengthOf 13 = .ok (.iconst 1, 1) := by decide +kernel
theorem dX11_strengthOf_14 : decode cX11_strengthOf 14 = .ok (.putfield 53, 3) := by decide +kernel
theorem dX11_strengthOf_17 : decode cX11_strengthOf 17 = .ok (.aload_n 0, 1) := by decide +kernel
theorem dX11_strengthOf_18 : decode cX11_strengthOf 18 = .ok (.getfield 53, 3) := by decide +kernel
theorem dX11_strengthOf_21 : decode cX11_strengthOf 21 = .ok (.ifCond .ne 16, 3) := by decide +kernel
theorem dX11_strengthOf_24 : decode cX11_strengthOf 24 = .ok (.aload_n 0, 1) := by decide +kernel
theorem dX11_strengthOf_25 : decode cX11_strengthOf 25 = .ok (.getfield 16, 3) := by decide +kernel
theorem dX11_strengthOf_28 : decode cX11_strengthOf 28 = .ok (.iload_n 1, 1) := by decide +kernel
theorem dX11_strengthOf_29 : decode cX11_strengthOf 29 = .ok (.iconst 0, 1) := by decide +kernel
theorem dX11_strengthOf_30 : decode cX11_strengthOf 30 = .ok (.invokestatic 67, 3) := by decide +kernel
theorem dX11_strengthOf_33 : decode cX11_strengthOf 33 = .ok (.iaload, 1) := by decide +kernel
theorem dX11_strengthOf_34 : decode cX11_strengthOf 34 = .ok (.goto 4, 3) := by decide +kernel
theorem dX11_strengthOf_37 : decode cX11_strengthOf 37 = .ok (.iconst 0, 1) := by decide +kernel
theorem dX11_strengthOf_38 : decode cX11_strengthOf 38 = .ok (.ireturn, 1) := by decide +kernel
theorem dX11_isDiscarded_0 : decode cX11_isDiscarded 0 = .ok (.aload_n 0, 1) := by decide +kernel
theorem dX11_isDiscarded_1 : decode cX11_isDiscarded 1 = .ok (.aload_n 0, 1) := by decide +kernel
theorem dX11_isDiscarded_2 : decode cX11_isDiscarded 2 = .ok (.iload_n 1, 1) := by decide +kernel
theorem dX11_isDiscarded_3 : decode cX11_isDiscarded 3 = .ok (.invokevirtual 87, 3) := by decide +kernel
theorem dX11_isDiscarded_6 : decode cX11_isDiscarded 6 = .ok (.ifCond .eq 7, 3) := by decide +kernel
theorem dX11_isDiscarded_9 : decode cX11_isDiscarded 9 = .ok (.iconst 0, 1) := by decide +kernel
theorem dX11_isDiscarded_10 : decode cX11_isDiscarded 10 = .ok (.goto 4, 3) := by decide +kernel
theorem dX11_isDiscarded_13 : decode cX11_isDiscarded 13 = .ok (.iconst 1, 1) := by decide +kernel
theorem dX11_isDiscarded_14 : decode cX11_isDiscarded 14 = .ok (.putfield 53, 3) := by decide +kernel
theorem dX11_isDiscarded_17 : decode cX11_isDiscarded 17 = .ok (.aload_n 0, 1) := by decide +kernel
theorem dX11_isDiscarded_18 : decode cX11_isDiscarded 18 = .ok (.getfield 53, 3) := by decide +kernel
theorem dX11_isDiscarded_21 : decode cX11_isDiscarded 21 = .ok (.ifCond .ne 21, 3) := by decide +kernel
theorem dX11_isDiscarded_24 : decode cX11_isDiscarded 24 = .ok (.aload_n 0, 1) := by decide +kernel
theorem dX11_isDiscarded_25 : decode cX11_isDiscarded 25 = .ok (.getfield 16, 3) := by decide +kernel
theorem dX11_isDiscarded_28 : decode cX11_isDiscarded 28 = .ok (.iload_n 1, 1) := by decide +kernel
theorem dX11_isDiscarded_29 : decode cX11_isDiscarded 29 = .ok (.iconst 1, 1) := by decide +kernel
theorem dX11_isDiscarded_30 : decode cX11_isDiscarded 30 = .ok (.invokestatic 67, 3) := by decide +kernel
theorem dX11_isDiscarded_33 : decode cX11_isDiscarded 33 = .ok (.iaload, 1) := by decide +kernel
theorem dX11_isDiscarded_34 : decode cX11_isDiscarded 34 = .ok (.iconst 1, 1) := by decide +kernel
theorem dX11_isDiscarded_35 : decode cX11_isDiscarded 35 = .ok (.if_icmp .ne 7, 3) := by decide +kernel
theorem dX11_isDiscarded_38 : decode cX11_isDiscarded 38 = .ok (.iconst 1, 1) := by decide +kernel
theorem dX11_isDiscarded_39 : decode cX11_isDiscarded 39 = .ok (.goto 4, 3) := by decide +kernel
theorem dX11_isDiscarded_42 : decode cX11_isDiscarded 42 = .ok (.iconst 0, 1) := by decide +kernel
theorem dX11_isDiscarded_43 : decode cX11_isDiscarded 43 = .ok (.ireturn, 1) := by decide +kernel
theorem dX11_isReject_0 : decode cX11_isReject 0 = .ok (.aload_n 0, 1) := by decide +kernel
theorem dX11_isReject_1 : decode cX11_isReject 1 = .ok (.aload_n 0, 1) := by decide +kernel
theorem dX11_isReject_2 : decode cX11_isReject 2 = .ok (.iload_n 1, 1) := by decide +kernel
theorem dX11_isReject_3 : decode cX11_isReject 3 = .ok (.invokevirtual 87, 3) := by decide +kernel
theorem dX11_isReject_6 : decode cX11_isReject 6 = .ok (.ifCond .eq 7, 3) := by decide +kernel
theorem dX11_isReject_9 : decode cX11_isReject 9 = .ok (.iconst 0, 1) := by decide +kernel
theorem dX11_isReject_10 : decode cX11_isReject 10 = .ok (.goto 4, 3) := by decide +kernel
theorem dX11_isReject_13 : decode cX11_isReject 13 = .ok (.iconst 1, 1) := by decide +kernel
theorem dX11_isReject_14 : decode cX11_isReject 14 = .ok (.putfield 53, 3) := by decide +kernel
theorem dX11_isReject_17 : decode cX11_isReject 17 = .ok (.aload_n 0, 1) := by decide +kernel
theorem dX11_isReject_18 : decode cX11_isReject 18 = .ok (.getfield 53, 3) := by decide +kernel
theorem dX11_isReject_21 : decode cX11_isReject 21 = .ok (.ifCond .ne 15, 3) := by decide +kernel
theorem dX11_isReject_24 : decode cX11_isReject 24 = .ok (.aload_n 0, 1) := by decide +kernel
theorem dX11_isReject_25 : decode cX11_isReject 25 = .ok (.iload_n 1, 1) := by decide +kernel
theorem dX11_isReject_26 : decode cX11_isReject 26 = .ok (.invokevirtual 117, 3) := by decide +kernel
theorem dX11_isReject_29 : decode cX11_isReject 29 = .ok (.ifCond .eq 7, 3) := by decide +kernel
theorem dX11_isReject_32 : decode cX11_isReject 32 = .ok (.iconst 1, 1) := by decide +kernel
theorem dX11_isReject_33 : decode cX11_isReject 33 = .ok (.goto 4, 3) := by decide +kernel
theorem dX11_isReject_36 : decode cX11_isReject 36 = .ok (.iconst 0, 1) := by decide +kernel
theorem dX11_isReject_37 : decode cX11_isReject 37 = .ok (.ireturn, 1) := by decide +kernel
theorem dX11_tolerance_0 : decode cX11_tolerance 0 = .ok (.aload_n 0, 1) := by decide +kernel
theorem dX11_tolerance_1 : decode cX11_tolerance 1 = .ok (.iconst 1, 1) := by decide +kernel
theorem dX11_tolerance_2 : decode cX11_tolerance 2 = .ok (.invokevirtual 123, 3) := by decide +kernel
theorem dX11_tolerance_5 : decode cX11_tolerance 5 = .ok (.ireturn, 1) := by decide +kernel
theorem dX11_down_0 : decode cX11_down 0 = .ok (.iload_n 0, 1) := by decide +kernel
theorem dX11_down_1 : decode cX11_down 1 = .ok (.ifCond .lt 9, 3) := by decide +kernel
theorem dX11_down_4 : decode cX11_down 4 = .ok (.iload_n 0, 1) := by decide +kernel
theorem dX11_down_5 : decode cX11_down 5 = .ok (.iload_n 1, 1) := by decide +kernel
theorem dX11_down_6 : decode cX11_down 6 = .ok (.idiv, 1) := by decide +kernel
theorem dX11_down_7 : decode cX11_down 7 = .ok (.goto 11, 3) := by decide +kernel
theorem dX11_down_10 : decode cX11_down 10 = .ok (.iload_n 1, 1) := by decide +kernel
theorem dX11_down_11 : decode cX11_down 11 = .ok (.iconst 1, 1) := by decide +kernel
theorem dX11_down_12 : decode cX11_down 12 = .ok (.isub, 1) := by decide +kernel
theorem dX11_down_13 : decode cX11_down 13 = .ok (.iload_n 0, 1) := by decide +kernel
theorem dX11_down_14 : decode cX11_down 14 = .ok (.isub, 1) := by decide +kernel
theorem dX11_down_15 : decode cX11_down 15 = .ok (.iload_n 1, 1) := by decide +kernel
theorem dX11_down_16 : decode cX11_down 16 = .ok (.idiv, 1) := by decide +kernel
theorem dX11_down_17 : decode cX11_down 17 = .ok (.ineg, 1) := by decide +kernel
theorem dX11_down_18 : decode cX11_down 18 = .ok (.ireturn, 1) := by decide +kernel
theorem dX11_between_0 : decode cX11_between 0 = .ok (.iload_n 2, 1) := by decide +kernel
theorem dX11_between_1 : decode cX11_between 1 = .ok (.bipush 45, 2) := by decide +kernel
theorem dX11_between_3 : decode cX11_between 3 = .ok (.idiv, 1) := by decide +kernel
theorem dX11_between_4 : decode cX11_between 4 = .ok (.istore_n 3, 1) := by decide +kernel
theorem dX11_between_5 : decode cX11_between 5 = .ok (.iload_n 2, 1) := by decide +kernel
theorem dX11_between_6 : decode cX11_between 6 = .ok (.bipush 45, 2) := by decide +kernel
theorem dX11_between_8 : decode cX11_between 8 = .ok (.irem, 1) := by decide +kernel
theorem dX11_between_9 : decode cX11_between 9 = .ok (.istore 4, 2) := by decide +kernel
theorem dX11_between_11 : decode cX11_between 11 = .ok (.aload_n 0, 1) := by decide +kernel
theorem dX11_between_12 : decode cX11_between 12 = .ok (.iload_n 1, 1) := by decide +kernel
theorem dX11_between_13 : decode cX11_between 13 = .ok (.iload_n 3, 1) := by decide +kernel
theorem dX11_between_14 : decode cX11_between 14 = .ok (.invokevirtual 91, 3) := by decide +kernel
theorem dX11_between_17 : decode cX11_between 17 = .ok (.bipush 45, 2) := by decide +kernel
theorem dX11_between_19 : decode cX11_between 19 = .ok (.iload 4, 2) := by decide +kernel
theorem dX11_between_21 : decode cX11_between 21 = .ok (.isub, 1) := by decide +kernel
theorem dX11_between_22 : decode cX11_between 22 = .ok (.imul, 1) := by decide +kernel
theorem dX11_between_23 : decode cX11_between 23 = .ok (.aload_n 0, 1) := by decide +kernel
theorem dX11_between_24 : decode cX11_between 24 = .ok (.iload_n 1, 1) := by decide +kernel
theorem dX11_between_25 : decode cX11_between 25 = .ok (.iload_n 3, 1) := by decide +kernel
theorem dX11_between_26 : decode cX11_between 26 = .ok (.iconst 1, 1) := by decide +kernel
theorem dX11_between_27 : decode cX11_between 27 = .ok (.iadd, 1) := by decide +kernel
theorem dX11_between_28 : decode cX11_between 28 = .ok (.bipush 8, 2) := by decide +kernel
theorem dX11_between_30 : decode cX11_between 30 = .ok (.irem, 1) := by decide +kernel
theorem dX11_between_31 : decode cX11_between 31 = .ok (.invokevirtual 91, 3) := by decide +kernel
theorem dX11_between_34 : decode cX11_between 34 = .ok (.iload 4, 2) := by decide +kernel
theorem dX11_between_36 : decode cX11_between 36 = .ok (.imul, 1) := by decide +kernel
theorem dX11_between_37 : decode cX11_between 37 = .ok (.iadd, 1) := by decide +kernel
theorem dX11_between_38 : decode cX11_between 38 = .ok (.bipush 45, 2) := by decide +kernel
theorem dX11_between_40 : decode cX11_between 40 = .ok (.invokestatic 126, 3) := by decide +kernel
theorem dX11_between_43 : decode cX11_between 43 = .ok (.ireturn, 1) := by decide +kernel
theorem dX11_turned_0 : decode cX11_turned 0 = .ok (.iload_n 2, 1) := by decide +kernel
theorem dX11_turned_1 : decode cX11_turned 1 = .ok (.aload_n 0, 1) := by decide +kernel
theorem dX11_turned_2 : decode cX11_turned 2 = .ok (.iload_n 1, 1) := by decide +kernel
theorem dX11_turned_3 : decode cX11_turned 3 = .ok (.iload_n 2, 1) := by decide +kernel
theorem dX11_turned_4 : decode cX11_turned 4 = .ok (.invokevirtual 129, 3) := by decide +kernel
theorem dX11_turned_7 : decode cX11_turned 7 = .ok (.iadd, 1) := by decide +kernel
theorem dX11_turned_8 : decode cX11_turned 8 = .ok (.sipush 360, 3) := by decide +kernel
theorem dX11_turned_11 : decode cX11_turned 11 = .ok (.iadd, 1) := by decide +kernel
theorem dX11_turned_12 : decode cX11_turned 12 = .ok (.sipush 360, 3) := by decide +kernel
theorem dX11_turned_15 : decode cX11_turned 15 = .ok (.irem, 1) := by decide +kernel
theorem dX11_turned_16 : decode cX11_turned 16 = .ok (.ireturn, 1) := by decide +kernel
theorem dX11_looks_0 : decode cX11_looks 0 = .ok (.aload_n 0, 1) := by decide +kernel
theorem dX11_looks_1 : decode cX11_looks 1 = .ok (.aload_n 0, 1) := by decide +kernel
theorem dX11_looks_2 : decode cX11_looks 2 = .ok (.iload_n 1, 1) := by decide +kernel
theorem dX11_looks_3 : decode cX11_looks 3 = .ok (.invokevirtual 87, 3) := by decide +kernel
theorem dX11_looks_6 : decode cX11_looks 6 = .ok (.ifCond .ne 7, 3) := by decide +kernel
theorem dX11_looks_9 : decode cX11_looks 9 = .ok (.iconst 1, 1) := by decide +kernel
theorem dX11_looks_10 : decode cX11_looks 10 = .ok (.goto 19, 3) := by decide +kernel
theorem dX11_looks_13 : decode cX11_looks 13 = .ok (.iload_n 2, 1) := by decide +kernel
theorem dX11_looks_14 : decode cX11_looks 14 = .ok (.iconst 0, 1) := by decide +kernel
theorem dX11_looks_15 : decode cX11_looks 15 = .ok (.sipush 359, 3) := by decide +kernel
theorem dX11_looks_18 : decode cX11_looks 18 = .ok (.invokestatic 63, 3) := by decide +kernel
theorem dX11_looks_21 : decode cX11_looks 21 = .ok (.ifCond .eq 7, 3) := by decide +kernel
theorem dX11_looks_24 : decode cX11_looks 24 = .ok (.iconst 0, 1) := by decide +kernel
theorem dX11_looks_25 : decode cX11_looks 25 = .ok (.goto 4, 3) := by decide +kernel
theorem dX11_looks_28 : decode cX11_looks 28 = .ok (.iconst 2, 1) := by decide +kernel
theorem dX11_looks_29 : decode cX11_looks 29 = .ok (.putfield 53, 3) := by decide +kernel
theorem dX11_looks_32 : decode cX11_looks 32 = .ok (.aload_n 0, 1) := by decide +kernel
theorem dX11_looks_33 : decode cX11_looks 33 = .ok (.getfield 53, 3) := by decide +kernel
theorem dX11_looks_36 : decode cX11_looks 36 = .ok (.ireturn, 1) := by decide +kernel
theorem dX11_deviationAt_0 : decode cX11_deviationAt 0 = .ok (.aload_n 0, 1) := by decide +kernel
theorem dX11_deviationAt_1 : decode cX11_deviationAt 1 = .ok (.iload_n 1, 1) := by decide +kernel
theorem dX11_deviationAt_2 : decode cX11_deviationAt 2 = .ok (.iload_n 2, 1) := by decide +kernel
theorem dX11_deviationAt_3 : decode cX11_deviationAt 3 = .ok (.invokevirtual 132, 3) := by decide +kernel
theorem dX11_deviationAt_6 : decode cX11_deviationAt 6 = .ok (.ifCond .ne 12, 3) := by decide +kernel
theorem dX11_deviationAt_9 : decode cX11_deviationAt 9 = .ok (.aload_n 0, 1) := by decide +kernel
theorem dX11_deviationAt_10 : decode cX11_deviationAt 10 = .ok (.iload_n 1, 1) := by decide +kernel
theorem dX11_deviationAt_11 : decode cX11_deviationAt 11 = .ok (.iload_n 2, 1) := by decide +kernel
theorem dX11_deviationAt_12 : decode cX11_deviationAt 12 = .ok (.invokevirtual 129, 3) := by decide +kernel
theorem dX11_deviationAt_15 : decode cX11_deviationAt 15 = .ok (.goto 4, 3) := by decide +kernel
theorem dX11_deviationAt_18 : decode cX11_deviationAt 18 = .ok (.iconst 0, 1) := by decide +kernel
theorem dX11_deviationAt_19 : decode cX11_deviationAt 19 = .ok (.ireturn, 1) := by decide +kernel
theorem dX11_trueCourse_0 : decode cX11_trueCourse 0 = .ok (.aload_n 0, 1) := by decide +kernel
theorem dX11_trueCourse_1 : decode cX11_trueCourse 1 = .ok (.iload_n 1, 1) := by decide +kernel
theorem dX11_trueCourse_2 : decode cX11_trueCourse 2 = .ok (.iload_n 2, 1) := by decide +kernel
theorem dX11_trueCourse_3 : decode cX11_trueCourse 3 = .ok (.invokevirtual 132, 3) := by decide +kernel
theorem dX11_trueCourse_6 : decode cX11_trueCourse 6 = .ok (.ifCond .ne 12, 3) := by decide +kernel
theorem dX11_trueCourse_9 : decode cX11_trueCourse 9 = .ok (.aload_n 0, 1) := by decide +kernel
theorem dX11_trueCourse_10 : decode cX11_trueCourse 10 = .ok (.iload_n 1, 1) := by decide +kernel
theorem dX11_trueCourse_11 : decode cX11_trueCourse 11 = .ok (.iload_n 2, 1) := by decide +kernel
theorem dX11_trueCourse_12 : decode cX11_trueCourse 12 = .ok (.invokevirtual 135, 3) := by decide +kernel
theorem dX11_trueCourse_15 : decode cX11_trueCourse 15 = .ok (.goto 4, 3) := by decide +kernel
theorem dX11_trueCourse_18 : decode cX11_trueCourse 18 = .ok (.iconst 0, 1) := by decide +kernel
theorem dX11_trueCourse_19 : decode cX11_trueCourse 19 = .ok (.ireturn, 1) := by decide +kernel
theorem dX11_lowest_0 : decode cX11_lowest 0 = .ok (.iconst 0, 1) := by decide +kernel
theorem dX11_lowest_1 : decode cX11_lowest 1 = .ok (.istore_n 3, 1) := by decide +kernel
theorem dX11_lowest_2 : decode cX11_lowest 2 = .ok (.iload_n 3, 1) := by decide +kernel
theorem dX11_lowest_3 : decode cX11_lowest 3 = .ok (.sipush 360, 3) := by decide +kernel
theorem dX11_lowest_6 : decode cX11_lowest 6 = .ok (.if_icmp .ge 21, 3) := by decide +kernel
theorem dX11_lowest_9 : decode cX11_lowest 9 = .ok (.aload_n 0, 1) := by decide +kernel
theorem dX11_lowest_10 : decode cX11_lowest 10 = .ok (.iload_n 1, 1) := by decide +kernel
theorem dX11_lowest_11 : decode cX11_lowest 11 = .ok (.iload_n 3, 1) := by decide +kernel
theorem dX11_lowest_12 : decode cX11_lowest 12 = .ok (.invokevirtual 135, 3) := by decide +kernel
theorem dX11_lowest_15 : decode cX11_lowest 15 = .ok (.iload_n 2, 1) := by decide +kernel
theorem dX11_lowest_16 : decode cX11_lowest 16 = .ok (.if_icmp .ne 5, 3) := by decide +kernel
theorem dX11_lowest_19 : decode cX11_lowest 19 = .ok (.iload_n 3, 1) := by decide +kernel
theorem dX11_lowest_20 : decode cX11_lowest 20 = .ok (.ireturn, 1) := by decide +kernel
theorem dX11_lowest_21 : decode cX11_lowest 21 = .ok (.iinc 3 1, 3) := by decide +kernel
theorem dX11_lowest_24 : decode cX11_lowest 24 = .ok (.goto (-22), 3) := by decide +kernel
theorem dX11_lowest_27 : decode cX11_lowest 27 = .ok (.iconst (-1), 1) := by decide +kernel
theorem dX11_lowest_28 : decode cX11_lowest 28 = .ok (.ireturn, 1) := by decide +kernel
theorem dX11_courseFor_0 : decode cX11_courseFor 0 = .ok (.aload_n 0, 1) := by decide +kernel
theorem dX11_courseFor_1 : decode cX11_courseFor 1 = .ok (.iload_n 1, 1) := by decide +kernel
theorem dX11_courseFor_2 : decode cX11_courseFor 2 = .ok (.iload_n 2, 1) := by decide +kernel
theorem dX11_courseFor_3 : decode cX11_courseFor 3 = .ok (.invokevirtual 132, 3) := by decide +kernel
theorem dX11_courseFor_6 : decode cX11_courseFor 6 = .ok (.ifCond .eq 5, 3) := by decide +kernel
theorem dX11_courseFor_9 : decode cX11_courseFor 9 = .ok (.iconst 0, 1) := by decide +kernel
theorem dX11_courseFor_10 : decode cX11_courseFor 10 = .ok (.ireturn, 1) := by decide +kernel
theorem dX11_courseFor_11 : decode cX11_courseFor 11 = .ok (.aload_n 0, 1) := by decide +kernel
theorem dX11_courseFor_12 : decode cX11_courseFor 12 = .ok (.iload_n 1, 1) := by decide +kernel
theorem dX11_courseFor_13 : decode cX11_courseFor 13 = .ok (.iload_n 2, 1) := by decide +kernel
theorem dX11_courseFor_14 : decode cX11_courseFor 14 = .ok (.invokevirtual 138, 3) := by decide +kernel
theorem dX11_courseFor_17 : decode cX11_courseFor 17 = .ok (.istore_n 3, 1) := by decide +kernel
theorem dX11_courseFor_18 : decode cX11_courseFor 18 = .ok (.iload_n 3, 1) := by decide +kernel
theorem dX11_courseFor_19 : decode cX11_courseFor 19 = .ok (.ifCond .ge 11, 3) := by decide +kernel
theorem dX11_courseFor_22 : decode cX11_courseFor 22 = .ok (.aload_n 0, 1) := by decide +kernel
theorem dX11_courseFor_23 : decode cX11_courseFor 23 = .ok (.iconst 3, 1) := by decide +kernel
theorem dX11_courseFor_24 : decode cX11_courseFor 24 = .ok (.invokevirtual 74, 3) := by decide +kernel
theorem dX11_courseFor_27 : decode cX11_courseFor 27 = .ok (.goto 4, 3) := by decide +kernel
theorem dX11_courseFor_30 : decode cX11_courseFor 30 = .ok (.iload_n 3, 1) := by decide +kernel
theorem dX11_courseFor_31 : decode cX11_courseFor 31 = .ok (.ireturn, 1) := by decide +kernel
theorem dX11_courseForNearby_0 : decode cX11_courseForNearby 0 = .ok (.aload_n 0, 1) := by decide +kernel
theorem dX11_courseForNearby_1 : decode cX11_courseForNearby 1 = .ok (.iload_n 1, 1) := by decide +kernel
theorem dX11_courseForNearby_2 : decode cX11_courseForNearby 2 = .ok (.iload_n 2, 1) := by decide +kernel
theorem dX11_courseForNearby_3 : decode cX11_courseForNearby 3 = .ok (.invokevirtual 141, 3) := by decide +kernel
theorem dX11_courseForNearby_6 : decode cX11_courseForNearby 6 = .ok (.ireturn, 1) := by decide +kernel
theorem dX11_missedCourses_0 : decode cX11_missedCourses 0 = .ok (.aload_n 0, 1) := by decide +kernel
theorem dX11_missedCourses_1 : decode cX11_missedCourses 1 = .ok (.aload_n 0, 1) := by decide +kernel
theorem dX11_missedCourses_2 : decode cX11_missedCourses 2 = .ok (.iload_n 1, 1) := by decide +kernel
theorem dX11_missedCourses_3 : decode cX11_missedCourses 3 = .ok (.invokevirtual 87, 3) := by decide +kernel
theorem dX11_missedCourses_6 : decode cX11_missedCourses 6 = .ok (.ifCond .eq 7, 3) := by decide +kernel
theorem dX11_missedCourses_9 : decode cX11_missedCourses 9 = .ok (.iconst 0, 1) := by decide +kernel
theorem dX11_missedCourses_10 : decode cX11_missedCourses 10 = .ok (.goto 4, 3) := by decide +kernel
theorem dX11_missedCourses_13 : decode cX11_missedCourses 13 = .ok (.iconst 1, 1) := by decide +kernel
theorem dX11_missedCourses_14 : decode cX11_missedCourses 14 = .ok (.putfield 53, 3) := by decide +kernel
theorem dX11_missedCourses_17 : decode cX11_missedCourses 17 = .ok (.aload_n 0, 1) := by decide +kernel
theorem dX11_missedCourses_18 : decode cX11_missedCourses 18 = .ok (.getfield 53, 3) := by decide +kernel
theorem dX11_missedCourses_21 : decode cX11_missedCourses 21 = .ok (.ifCond .eq 5, 3) := by decide +kernel
theorem dX11_missedCourses_24 : decode cX11_missedCourses 24 = .ok (.iconst 0, 1) := by decide +kernel
theorem dX11_missedCourses_25 : decode cX11_missedCourses 25 = .ok (.ireturn, 1) := by decide +kernel
theorem dX11_missedCourses_26 : decode cX11_missedCourses 26 = .ok (.iconst 0, 1) := by decide +kernel
theorem dX11_missedCourses_27 : decode cX11_missedCourses 27 = .ok (.istore_n 2, 1) := by decide +kernel
theorem dX11_missedCourses_28 : decode cX11_missedCourses 28 = .ok (.iconst 0, 1) := by decide +kernel
theorem dX11_missedCourses_29 : decode cX11_missedCourses 29 = .ok (.istore_n 3, 1) := by decide +kernel
theorem dX11_missedCourses_30 : decode cX11_missedCourses 30 = .ok (.iload_n 3, 1) := by decide +kernel
theorem dX11_missedCourses_31 : decode cX11_missedCourses 31 = .ok (.sipush 360, 3) := by decide +kernel
theorem dX11_missedCourses_34 : decode cX11_missedCourses 34 = .ok (.if_icmp .ge 16, 3) := by decide +kernel
theorem dX11_missedCourses_37 : decode cX11_missedCourses 37 = .ok (.aload_n 0, 1) := by decide +kernel
theorem dX11_missedCourses_38 : decode cX11_missedCourses 38 = .ok (.getfield 35, 3) := by decide +kernel
theorem dX11_missedCourses_41 : decode cX11_missedCourses 41 = .ok (.iload_n 3, 1) := by decide +kernel
theorem dX11_missedCourses_42 : decode cX11_missedCourses 42 = .ok (.iconst 0, 1) := by decide +kernel
theorem dX11_missedCourses_43 : decode cX11_missedCourses 43 = .ok (.iastore, 1) := by decide +kernel
theorem dX11_missedCourses_44 : decode cX11_missedCourses 44 = .ok (.iinc 3 1, 3) := by decide +kernel
theorem dX11_missedCourses_47 : decode cX11_missedCourses 47 = .ok (.goto (-17), 3) := by decide +kernel
theorem dX11_missedCourses_50 : decode cX11_missedCourses 50 = .ok (.iconst 0, 1) := by decide +kernel
theorem dX11_missedCourses_51 : decode cX11_missedCourses 51 = .ok (.istore_n 3, 1) := by decide +kernel
theorem dX11_missedCourses_52 : decode cX11_missedCourses 52 = .ok (.iload_n 3, 1) := by decide +kernel
theorem dX11_missedCourses_53 : decode cX11_missedCourses 53 = .ok (.sipush 360, 3) := by decide +kernel
theorem dX11_missedCourses_56 : decode cX11_missedCourses 56 = .ok (.if_icmp .ge 21, 3) := by decide +kernel
theorem dX11_missedCourses_59 : decode cX11_missedCourses 59 = .ok (.aload_n 0, 1) := by decide +kernel
theorem dX11_missedCourses_60 : decode cX11_missedCourses 60 = .ok (.getfield 35, 3) := by decide +kernel
theorem dX11_missedCourses_63 : decode cX11_missedCourses 63 = .ok (.aload_n 0, 1) := by decide +kernel
theorem dX11_missedCourses_64 : decode cX11_missedCourses 64 = .ok (.iload_n 1, 1) := by decide +kernel
theorem dX11_missedCourses_65 : decode cX11_missedCourses 65 = .ok (.iload_n 3, 1) := by decide +kernel
theorem dX11_missedCourses_66 : decode cX11_missedCourses 66 = .ok (.invokevirtual 135, 3) := by decide +kernel
theorem dX11_missedCourses_69 : decode cX11_missedCourses 69 = .ok (.iconst 1, 1) := by decide +kernel
theorem dX11_missedCourses_70 : decode cX11_missedCourses 70 = .ok (.iastore, 1) := by decide +kernel
theorem dX11_missedCourses_71 : decode cX11_missedCourses 71 = .ok (.iinc 3 1, 3) := by decide +kernel
theorem dX11_missedCourses_74 : decode cX11_missedCourses 74 = .ok (.goto (-22), 3) := by decide +kernel
theorem dX11_missedCourses_77 : decode cX11_missedCourses 77 = .ok (.iconst 0, 1) := by decide +kernel
theorem dX11_missedCourses_78 : decode cX11_missedCourses 78 = .ok (.istore_n 3, 1) := by decide +kernel
theorem dX11_missedCourses_79 : decode cX11_missedCourses 79 = .ok (.iload_n 3, 1) := by decide +kernel
theorem dX11_missedCourses_80 : decode cX11_missedCourses 80 = .ok (.sipush 360, 3) := by decide +kernel
theorem dX11_missedCourses_83 : decode cX11_missedCourses 83 = .ok (.if_icmp .ge 20, 3) := by decide +kernel
theorem dX11_missedCourses_86 : decode cX11_missedCourses 86 = .ok (.iload_n 2, 1) := by decide +kernel
theorem dX11_missedCourses_87 : decode cX11_missedCourses 87 = .ok (.iconst 1, 1) := by decide +kernel
theorem dX11_missedCourses_88 : decode cX11_missedCourses 88 = .ok (.aload_n 0, 1) := by decide +kernel
theorem dX11_missedCourses_89 : decode cX11_missedCourses 89 = .ok (.getfield 35, 3) := by decide +kernel
theorem dX11_missedCourses_92 : decode cX11_missedCourses 92 = .ok (.iload_n 3, 1) := by decide +kernel
theorem dX11_missedCourses_93 : decode cX11_missedCourses 93 = .ok (.iaload, 1) := by decide +kernel
theorem dX11_missedCourses_94 : decode cX11_missedCourses 94 = .ok (.isub, 1) := by decide +kernel
theorem dX11_missedCourses_95 : decode cX11_missedCourses 95 = .ok (.iadd, 1) := by decide +kernel
theorem dX11_missedCourses_96 : decode cX11_missedCourses 96 = .ok (.istore_n 2, 1) := by decide +kernel
theorem dX11_missedCourses_97 : decode cX11_missedCourses 97 = .ok (.iinc 3 1, 3) := by decide +kernel
theorem dX11_missedCourses_100 : decode cX11_missedCourses 100 = .ok (.goto (-21), 3) := by decide +kernel
theorem dX11_missedCourses_103 : decode cX11_missedCourses 103 = .ok (.iload_n 2, 1) := by decide +kernel
theorem dX11_missedCourses_104 : decode cX11_missedCourses 104 = .ok (.ireturn, 1) := by decide +kernel
theorem dX11_errorOf_0 : decode cX11_errorOf 0 = .ok (.aload_n 0, 1) := by decide +kernel
theorem dX11_errorOf_1 : decode cX11_errorOf 1 = .ok (.aload_n 0, 1) := by decide +kernel
theorem dX11_errorOf_2 : decode cX11_errorOf 2 = .ok (.iload_n 1, 1) := by decide +kernel
theorem dX11_errorOf_3 : decode cX11_errorOf 3 = .ok (.invokevirtual 87, 3) := by decide +kernel
theorem dX11_errorOf_6 : decode cX11_errorOf 6 = .ok (.ifCond .eq 7, 3) := by decide +kernel
theorem dX11_errorOf_9 : decode cX11_errorOf 9 = .ok (.iconst 0, 1) := by decide +kernel
theorem dX11_errorOf_10 : decode cX11_errorOf 10 = .ok (.goto 4, 3) := by decide +kernel
theorem dX11_errorOf_13 : decode cX11_errorOf 13 = .ok (.iconst 1, 1) := by decide +kernel
theorem dX11_errorOf_14 : decode cX11_errorOf 14 = .ok (.putfield 53, 3) := by decide +kernel
theorem dX11_errorOf_17 : decode cX11_errorOf 17 = .ok (.aload_n 0, 1) := by decide +kernel
theorem dX11_errorOf_18 : decode cX11_errorOf 18 = .ok (.getfield 53, 3) := by decide +kernel
theorem dX11_errorOf_21 : decode cX11_errorOf 21 = .ok (.ifCond .ne 12, 3) := by decide +kernel
theorem dX11_errorOf_24 : decode cX11_errorOf 24 = .ok (.aload_n 0, 1) := by decide +kernel
theorem dX11_errorOf_25 : decode cX11_errorOf 25 = .ok (.iload_n 1, 1) := by decide +kernel
theorem dX11_errorOf_26 : decode cX11_errorOf 26 = .ok (.iconst 0, 1) := by decide +kernel
theorem dX11_errorOf_27 : decode cX11_errorOf 27 = .ok (.invokevirtual 102, 3) := by decide +kernel
theorem dX11_errorOf_30 : decode cX11_errorOf 30 = .ok (.goto 4, 3) := by decide +kernel
theorem dX11_errorOf_33 : decode cX11_errorOf 33 = .ok (.iconst 0, 1) := by decide +kernel
theorem dX11_errorOf_34 : decode cX11_errorOf 34 = .ok (.ireturn, 1) := by decide +kernel
theorem dX11_bestShift_0 : decode cX11_bestShift 0 = .ok (.aload_n 0, 1) := by decide +kernel
theorem dX11_bestShift_1 : decode cX11_bestShift 1 = .ok (.aload_n 0, 1) := by decide +kernel
theorem dX11_bestShift_2 : decode cX11_bestShift 2 = .ok (.iload_n 1, 1) := by decide +kernel
theorem dX11_bestShift_3 : decode cX11_bestShift 3 = .ok (.invokevirtual 87, 3) := by decide +kernel
theorem dX11_bestShift_6 : decode cX11_bestShift 6 = .ok (.ifCond .eq 7, 3) := by decide +kernel
theorem dX11_bestShift_9 : decode cX11_bestShift 9 = .ok (.iconst 0, 1) := by decide +kernel
theorem dX11_bestShift_10 : decode cX11_bestShift 10 = .ok (.goto 4, 3) := by decide +kernel
theorem dX11_bestShift_13 : decode cX11_bestShift 13 = .ok (.iconst 1, 1) := by decide +kernel
theorem dX11_bestShift_14 : decode cX11_bestShift 14 = .ok (.putfield 53, 3) := by decide +kernel
theorem dX11_bestShift_17 : decode cX11_bestShift 17 = .ok (.aload_n 0, 1) := by decide +kernel
theorem dX11_bestShift_18 : decode cX11_bestShift 18 = .ok (.getfield 53, 3) := by decide +kernel
theorem dX11_bestShift_21 : decode cX11_bestShift 21 = .ok (.ifCond .ne 11, 3) := by decide +kernel
theorem dX11_bestShift_24 : decode cX11_bestShift 24 = .ok (.aload_n 0, 1) := by decide +kernel
theorem dX11_bestShift_25 : decode cX11_bestShift 25 = .ok (.iload_n 1, 1) := by decide +kernel
theorem dX11_bestShift_26 : decode cX11_bestShift 26 = .ok (.invokevirtual 108, 3) := by decide +kernel
theorem dX11_bestShift_29 : decode cX11_bestShift 29 = .ok (.goto 4, 3) := by decide +kernel
theorem dX11_bestShift_32 : decode cX11_bestShift 32 = .ok (.iconst 0, 1) := by decide +kernel
theorem dX11_bestShift_33 : decode cX11_bestShift 33 = .ok (.ireturn, 1) := by decide +kernel
theorem dX11_bestShiftBySum_0 : decode cX11_bestShiftBySum 0 = .ok (.aload_n 0, 1) := by decide +kernel
theorem dX11_bestShiftBySum_1 : decode cX11_bestShiftBySum 1 = .ok (.iload_n 1, 1) := by decide +kernel
theorem dX11_bestShiftBySum_2 : decode cX11_bestShiftBySum 2 = .ok (.invokevirtual 144, 3) := by decide +kernel
theorem dX11_bestShiftBySum_5 : decode cX11_bestShiftBySum 5 = .ok (.ireturn, 1) := by decide +kernel
theorem dX11_isAhead_0 : decode cX11_isAhead 0 = .ok (.aload_n 0, 1) := by decide +kernel
theorem dX11_isAhead_1 : decode cX11_isAhead 1 = .ok (.iload_n 1, 1) := by decide +kernel
theorem dX11_isAhead_2 : decode cX11_isAhead 2 = .ok (.iconst 0, 1) := by decide +kernel
theorem dX11_isAhead_3 : decode cX11_isAhead 3 = .ok (.invokevirtual 102, 3) := by decide +kernel
theorem dX11_isAhead_6 : decode cX11_isAhead 6 = .ok (.aload_n 0, 1) := by decide +kernel
theorem dX11_isAhead_7 : decode cX11_isAhead 7 = .ok (.iload_n 2, 1) := by decide +kernel
theorem dX11_isAhead_8 : decode cX11_isAhead 8 = .ok (.iconst 0, 1) := by decide +kernel
theorem dX11_isAhead_9 : decode cX11_isAhead 9 = .ok (.invokevirtual 102, 3) := by decide +kernel
theorem dX11_isAhead_12 : decode cX11_isAhead 12 = .ok (.isub, 1) := by decide +kernel
theorem dX11_isAhead_13 : decode cX11_isAhead 13 = .ok (.istore_n 3, 1) := by decide +kernel
theorem dX11_isAhead_14 : decode cX11_isAhead 14 = .ok (.iload_n 3, 1) := by decide +kernel
theorem dX11_isAhead_15 : decode cX11_isAhead 15 = .ok (.ifCond .eq 7, 3) := by decide +kernel
theorem dX11_isAhead_18 : decode cX11_isAhead 18 = .ok (.iload_n 3, 1) := by decide +kernel
theorem dX11_isAhead_19 : decode cX11_isAhead 19 = .ok (.goto 24, 3) := by decide +kernel
theorem dX11_isAhead_22 : decode cX11_isAhead 22 = .ok (.aload_n 0, 1) := by decide +kernel
theorem dX11_isAhead_23 : decode cX11_isAhead 23 = .ok (.getfield 16, 3) := by decide +kernel
theorem dX11_isAhead_26 : decode cX11_isAhead 26 = .ok (.iload_n 2, 1) := by decide +kernel
theorem dX11_isAhead_27 : decode cX11_isAhead 27 = .ok (.iconst 0, 1) := by decide +kernel
theorem dX11_isAhead_28 : decode cX11_isAhead 28 = .ok (.invokestatic 67, 3) := by decide +kernel
theorem dX11_isAhead_31 : decode cX11_isAhead 31 = .ok (.iaload, 1) := by decide +kernel
theorem dX11_isAhead_32 : decode cX11_isAhead 32 = .ok (.aload_n 0, 1) := by decide +kernel
theorem dX11_isAhead_33 : decode cX11_isAhead 33 = .ok (.getfield 16, 3) := by decide +kernel
theorem dX11_isAhead_36 : decode cX11_isAhead 36 = .ok (.iload_n 1, 1) := by decide +kernel
theorem dX11_isAhead_37 : decode cX11_isAhead 37 = .ok (.iconst 0, 1) := by decide +kernel
theorem dX11_isAhead_38 : decode cX11_isAhead 38 = .ok (.invokestatic 67, 3) := by decide +kernel
theorem dX11_isAhead_41 : decode cX11_isAhead 41 = .ok (.iaload, 1) := by decide +kernel
theorem dX11_isAhead_42 : decode cX11_isAhead 42 = .ok (.isub, 1) := by decide +kernel
theorem dX11_isAhead_43 : decode cX11_isAhead 43 = .ok (.istore_n 3, 1) := by decide +kernel
theorem dX11_isAhead_44 : decode cX11_isAhead 44 = .ok (.iload_n 3, 1) := by decide +kernel
theorem dX11_isAhead_45 : decode cX11_isAhead 45 = .ok (.ifCond .lt 12, 3) := by decide +kernel
theorem dX11_isAhead_48 : decode cX11_isAhead 48 = .ok (.iload_n 3, 1) := by decide +kernel
theorem dX11_isAhead_49 : decode cX11_isAhead 49 = .ok (.ifCond .ne 12, 3) := by decide +kernel
theorem dX11_isAhead_52 : decode cX11_isAhead 52 = .ok (.iload_n 1, 1) := by decide +kernel
theorem dX11_isAhead_53 : decode cX11_isAhead 53 = .ok (.iload_n 2, 1) := by decide +kernel
theorem dX11_isAhead_54 : decode cX11_isAhead 54 = .ok (.if_icmp .ge 7, 3) := by decide +kernel
theorem dX11_isAhead_57 : decode cX11_isAhead 57 = .ok (.iconst 1, 1) := by decide +kernel
theorem dX11_isAhead_58 : decode cX11_isAhead 58 = .ok (.goto 4, 3) := by decide +kernel
theorem dX11_isAhead_61 : decode cX11_isAhead 61 = .ok (.iconst 0, 1) := by decide +kernel
theorem dX11_isAhead_62 : decode cX11_isAhead 62 = .ok (.ireturn, 1) := by decide +kernel
theorem dX11_needleAtRank_0 : decode cX11_needleAtRank 0 = .ok (.aload_n 0, 1) := by decide +kernel
theorem dX11_needleAtRank_1 : decode cX11_needleAtRank 1 = .ok (.iconst 0, 1) := by decide +kernel
theorem dX11_needleAtRank_2 : decode cX11_needleAtRank 2 = .ok (.putfield 53, 3) := by decide +kernel
theorem dX11_needleAtRank_5 : decode cX11_needleAtRank 5 = .ok (.iconst 0, 1) := by decide +kernel
theorem dX11_needleAtRank_6 : decode cX11_needleAtRank 6 = .ok (.istore_n 2, 1) := by decide +kernel
theorem dX11_needleAtRank_7 : decode cX11_needleAtRank 7 = .ok (.iload_n 2, 1) := by decide +kernel
theorem dX11_needleAtRank_8 : decode cX11_needleAtRank 8 = .ok (.aload_n 0, 1) := by decide +kernel
theorem dX11_needleAtRank_9 : decode cX11_needleAtRank 9 = .ok (.getfield 16, 3) := by decide +kernel
theorem dX11_needleAtRank_12 : decode cX11_needleAtRank 12 = .ok (.iconst 0, 1) := by decide +kernel
theorem dX11_needleAtRank_13 : decode cX11_needleAtRank 13 = .ok (.iaload, 1) := by decide +kernel
theorem dX11_needleAtRank_14 : decode cX11_needleAtRank 14 = .ok (.if_icmp .ge 62, 3) := by decide +kernel
theorem dX11_needleAtRank_17 : decode cX11_needleAtRank 17 = .ok (.iconst 0, 1) := by decide +kernel
theorem dX11_needleAtRank_18 : decode cX11_needleAtRank 18 = .ok (.istore_n 3, 1) := by decide +kernel
theorem dX11_needleAtRank_19 : decode cX11_needleAtRank 19 = .ok (.iconst 0, 1) := by decide +kernel
theorem dX11_needleAtRank_20 : decode cX11_needleAtRank 20 = .ok (.istore 4, 2) := by decide +kernel
theorem dX11_needleAtRank_22 : decode cX11_needleAtRank 22 = .ok (.iload 4, 2) := by decide +kernel
theorem dX11_needleAtRank_24 : decode cX11_needleAtRank 24 = .ok (.aload_n 0, 1) := by decide +kernel
theorem dX11_needleAtRank_25 : decode cX11_needleAtRank 25 = .ok (.getfield 16, 3) := by decide +kernel
theorem dX11_needleAtRank_28 : decode cX11_needleAtRank 28 = .ok (.iconst 0, 1) := by decide +kernel
theorem dX11_needleAtRank_29 : decode cX11_needleAtRank 29 = .ok (.iaload, 1) := by decide +kernel
theorem dX11_needleAtRank_30 : decode cX11_needleAtRank 30 = .ok (.if_icmp .ge 33, 3) := by decide +kernel
theorem dX11_needleAtRank_33 : decode cX11_needleAtRank 33 = .ok (.iload_n 3, 1) := by decide +kernel
theorem dX11_needleAtRank_34 : decode cX11_needleAtRank 34 = .ok (.iload 4, 2) := by decide +kernel
theorem dX11_needleAtRank_36 : decode cX11_needleAtRank 36 = .ok (.iload_n 2, 1) := by decide +kernel
theorem dX11_needleAtRank_37 : decode cX11_needleAtRank 37 = .ok (.if_icmp .eq 17, 3) := by decide +kernel
theorem dX11_needleAtRank_40 : decode cX11_needleAtRank 40 = .ok (.aload_n 0, 1) := by decide +kernel
theorem dX11_needleAtRank_41 : decode cX11_needleAtRank 41 = .ok (.iload 4, 2) := by decide +kernel
theorem dX11_needleAtRank_43 : decode cX11_needleAtRank 43 = .ok (.iload_n 2, 1) := by decide +kernel
theorem dX11_needleAtRank_44 : decode cX11_needleAtRank 44 = .ok (.invokevirtual 147, 3) := by decide +kernel
theorem dX11_needleAtRank_47 : decode cX11_needleAtRank 47 = .ok (.ifCond .eq 7, 3) := by decide +kernel
theorem dX11_needleAtRank_50 : decode cX11_needleAtRank 50 = .ok (.iconst 1, 1) := by decide +kernel
theorem dX11_needleAtRank_51 : decode cX11_needleAtRank 51 = .ok (.goto 4, 3) := by decide +kernel
theorem dX11_needleAtRank_54 : decode cX11_needleAtRank 54 = .ok (.iconst 0, 1) := by decide +kernel
theorem dX11_needleAtRank_55 : decode cX11_needleAtRank 55 = .ok (.iadd, 1) := by decide +kernel
theorem dX11_needleAtRank_56 : decode cX11_needleAtRank 56 = .ok (.istore_n 3, 1) := by decide +kernel
theorem dX11_needleAtRank_57 : decode cX11_needleAtRank 57 = .ok (.iinc 4 1, 3) := by decide +kernel
theorem dX11_needleAtRank_60 : decode cX11_needleAtRank 60 = .ok (.goto (-38), 3) := by decide +kernel
theorem dX11_needleAtRank_63 : decode cX11_needleAtRank 63 = .ok (.iload_n 3, 1) := by decide +kernel
theorem dX11_needleAtRank_64 : decode cX11_needleAtRank 64 = .ok (.iload_n 1, 1) := by decide +kernel
theorem dX11_needleAtRank_65 : decode cX11_needleAtRank 65 = .ok (.if_icmp .ne 5, 3) := by decide +kernel
theorem dX11_needleAtRank_68 : decode cX11_needleAtRank 68 = .ok (.iload_n 2, 1) := by decide +kernel
theorem dX11_needleAtRank_69 : decode cX11_needleAtRank 69 = .ok (.ireturn, 1) := by decide +kernel
theorem dX11_needleAtRank_70 : decode cX11_needleAtRank 70 = .ok (.iinc 2 1, 3) := by decide +kernel
theorem dX11_needleAtRank_73 : decode cX11_needleAtRank 73 = .ok (.goto (-66), 3) := by decide +kernel
theorem dX11_needleAtRank_76 : decode cX11_needleAtRank 76 = .ok (.aload_n 0, 1) := by decide +kernel
theorem dX11_needleAtRank_77 : decode cX11_needleAtRank 77 = .ok (.iconst 1, 1) := by decide +kernel
theorem dX11_needleAtRank_78 : decode cX11_needleAtRank 78 = .ok (.invokevirtual 74, 3) := by decide +kernel
theorem dX11_needleAtRank_81 : decode cX11_needleAtRank 81 = .ok (.ireturn, 1) := by decide +kernel
theorem dX11_isGood_0 : decode cX11_isGood 0 = .ok (.aload_n 0, 1) := by decide +kernel
theorem dX11_isGood_1 : decode cX11_isGood 1 = .ok (.getfield 16, 3) := by decide +kernel
theorem dX11_isGood_4 : decode cX11_isGood 4 = .ok (.iload_n 1, 1) := by decide +kernel
theorem dX11_isGood_5 : decode cX11_isGood 5 = .ok (.iconst 1, 1) := by decide +kernel
theorem dX11_isGood_6 : decode cX11_isGood 6 = .ok (.invokestatic 67, 3) := by decide +kernel
theorem dX11_isGood_9 : decode cX11_isGood 9 = .ok (.iaload, 1) := by decide +kernel
theorem dX11_isGood_10 : decode cX11_isGood 10 = .ok (.ifCond .ne 15, 3) := by decide +kernel
theorem dX11_isGood_13 : decode cX11_isGood 13 = .ok (.aload_n 0, 1) := by decide +kernel
theorem dX11_isGood_14 : decode cX11_isGood 14 = .ok (.iload_n 1, 1) := by decide +kernel
theorem dX11_isGood_15 : decode cX11_isGood 15 = .ok (.invokevirtual 117, 3) := by decide +kernel
theorem dX11_isGood_18 : decode cX11_isGood 18 = .ok (.ifCond .ne 7, 3) := by decide +kernel
theorem dX11_isGood_21 : decode cX11_isGood 21 = .ok (.iconst 1, 1) := by decide +kernel
theorem dX11_isGood_22 : decode cX11_isGood 22 = .ok (.goto 4, 3) := by decide +kernel
theorem dX11_isGood_25 : decode cX11_isGood 25 = .ok (.iconst 0, 1) := by decide +kernel
theorem dX11_isGood_26 : decode cX11_isGood 26 = .ok (.ireturn, 1) := by decide +kernel
theorem dX11_good_0 : decode cX11_good 0 = .ok (.iconst 0, 1) := by decide +kernel
theorem dX11_good_1 : decode cX11_good 1 = .ok (.istore_n 1, 1) := by decide +kernel
theorem dX11_good_2 : decode cX11_good 2 = .ok (.iconst 0, 1) := by decide +kernel
theorem dX11_good_3 : decode cX11_good 3 = .ok (.istore_n 2, 1) := by decide +kernel
theorem dX11_good_4 : decode cX11_good 4 = .ok (.iload_n 2, 1) := by decide +kernel
theorem dX11_good_5 : decode cX11_good 5 = .ok (.aload_n 0, 1) := by decide +kernel
theorem dX11_good_6 : decode cX11_good 6 = .ok (.getfield 16, 3) := by decide +kernel
theorem dX11_good_9 : decode cX11_good 9 = .ok (.iconst 0, 1) := by decide +kernel
theorem dX11_good_10 : decode cX11_good 10 = .ok (.iaload, 1) := by decide +kernel
theorem dX11_good_11 : decode cX11_good 11 = .ok (.if_icmp .ge 27, 3) := by decide +kernel
theorem dX11_good_14 : decode cX11_good 14 = .ok (.iload_n 1, 1) := by decide +kernel
theorem dX11_good_15 : decode cX11_good 15 = .ok (.aload_n 0, 1) := by decide +kernel
theorem dX11_good_16 : decode cX11_good 16 = .ok (.iload_n 2, 1) := by decide +kernel
theorem dX11_good_17 : decode cX11_good 17 = .ok (.invokevirtual 150, 3) := by decide +kernel
theorem dX11_good_20 : decode cX11_good 20 = .ok (.ifCond .eq 9, 3) := by decide +kernel
theorem dX11_good_23 : decode cX11_good 23 = .ok (.iconst 1, 1) := by decide +kernel
theorem dX11_good_24 : decode cX11_good 24 = .ok (.iload_n 2, 1) := by decide +kernel
theorem dX11_good_25 : decode cX11_good 25 = .ok (.ishl, 1) := by decide +kernel
theorem dX11_good_26 : decode cX11_good 26 = .ok (.goto 4, 3) := by decide +kernel
theorem dX11_good_29 : decode cX11_good 29 = .ok (.iconst 0, 1) := by decide +kernel
theorem dX11_good_30 : decode cX11_good 30 = .ok (.ior, 1) := by decide +kernel
theorem dX11_good_31 : decode cX11_good 31 = .ok (.istore_n 1, 1) := by decide +kernel
theorem dX11_good_32 : decode cX11_good 32 = .ok (.iinc 2 1, 3) := by decide +kernel
theorem dX11_good_35 : decode cX11_good 35 = .ok (.goto (-31), 3) := by decide +kernel
theorem dX11_good_38 : decode cX11_good 38 = .ok (.iload_n 1, 1) := by decide +kernel
theorem dX11_good_39 : decode cX11_good 39 = .ok (.ireturn, 1) := by decide +kernel
theorem dX11_count_0 : decode cX11_count 0 = .ok (.iconst 0, 1) := by decide +kernel
theorem dX11_count_1 : decode cX11_count 1 = .ok (.istore_n 1, 1) := by decide +kernel
theorem dX11_count_2 : decode cX11_count 2 = .ok (.iload_n 0, 1) := by decide +kernel
theorem dX11_count_3 : decode cX11_count 3 = .ok (.istore_n 2, 1) := by decide +kernel
theorem dX11_count_4 : decode cX11_count 4 = .ok (.iload_n 2, 1) := by decide +kernel
theorem dX11_count_5 : decode cX11_count 5 = .ok (.ifCond .eq 15, 3) := by decide +kernel
theorem dX11_count_8 : decode cX11_count 8 = .ok (.iinc 1 1, 3) := by decide +kernel
theorem dX11_count_11 : decode cX11_count 11 = .ok (.iload_n 2, 1) := by decide +kernel
theorem dX11_count_12 : decode cX11_count 12 = .ok (.iload_n 2, 1) := by decide +kernel
theorem dX11_count_13 : decode cX11_count 13 = .ok (.iconst 1, 1) := by decide +kernel
theorem dX11_count_14 : decode cX11_count 14 = .ok (.isub, 1) := by decide +kernel
theorem dX11_count_15 : decode cX11_count 15 = .ok (.iand, 1) := by decide +kernel
theorem dX11_count_16 : decode cX11_count 16 = .ok (.istore_n 2, 1) := by decide +kernel
theorem dX11_count_17 : decode cX11_count 17 = .ok (.goto (-13), 3) := by decide +kernel
theorem dX11_count_20 : decode cX11_count 20 = .ok (.iload_n 1, 1) := by decide +kernel
theorem dX11_count_21 : decode cX11_count 21 = .ok (.ireturn, 1) := by decide +kernel
theorem dX11_meanError_0 : decode cX11_meanError 0 = .ok (.aload_n 0, 1) := by decide +kernel
theorem dX11_meanError_1 : decode cX11_meanError 1 = .ok (.invokevirtual 153, 3) := by decide +kernel
theorem dX11_meanError_4 : decode cX11_meanError 4 = .ok (.istore_n 1, 1) := by decide +kernel
theorem dX11_meanError_5 : decode cX11_meanError 5 = .ok (.iconst 0, 1) := by decide +kernel
theorem dX11_meanError_6 : decode cX11_meanError 6 = .ok (.istore_n 2, 1) := by decide +kernel
theorem dX11_meanError_7 : decode cX11_meanError 7 = .ok (.aload_n 0, 1) := by decide +kernel
theorem dX11_meanError_8 : decode cX11_meanError 8 = .ok (.iload_n 1, 1) := by decide +kernel
theorem dX11_meanError_9 : decode cX11_meanError 9 = .ok (.ifCond .ne 7, 3) := by decide +kernel
theorem dX11_meanError_12 : decode cX11_meanError 12 = .ok (.iconst 1, 1) := by decide +kernel
theorem dX11_meanError_13 : decode cX11_meanError 13 = .ok (.goto 4, 3) := by decide +kernel
theorem dX11_meanError_16 : decode cX11_meanError 16 = .ok (.iconst 0, 1) := by decide +kernel
theorem dX11_meanError_17 : decode cX11_meanError 17 = .ok (.putfield 53, 3) := by decide +kernel
theorem dX11_meanError_20 : decode cX11_meanError 20 = .ok (.iconst 0, 1) := by decide +kernel
theorem dX11_meanError_21 : decode cX11_meanError 21 = .ok (.istore_n 3, 1) := by decide +kernel
theorem dX11_meanError_22 : decode cX11_meanError 22 = .ok (.iload_n 3, 1) := by decide +kernel
theorem dX11_meanError_23 : decode cX11_meanError 23 = .ok (.aload_n 0, 1) := by decide +kernel
theorem dX11_meanError_24 : decode cX11_meanError 24 = .ok (.getfield 16, 3) := by decide +kernel
theorem dX11_meanError_27 : decode cX11_meanError 27 = .ok (.iconst 0, 1) := by decide +kernel
theorem dX11_meanError_28 : decode cX11_meanError 28 = .ok (.iaload, 1) := by decide +kernel
theorem dX11_meanError_29 : decode cX11_meanError 29 = .ok (.if_icmp .ge 31, 3) := by decide +kernel
theorem dX11_meanError_32 : decode cX11_meanError 32 = .ok (.iload_n 2, 1) := by decide +kernel
theorem dX11_meanError_33 : decode cX11_meanError 33 = .ok (.iload_n 1, 1) := by decide +kernel
theorem dX11_meanError_34 : decode cX11_meanError 34 = .ok (.iload_n 3, 1) := by decide +kernel
theorem dX11_meanError_35 : decode cX11_meanError 35 = .ok (.ishr, 1) := by decide +kernel
theorem dX11_meanError_36 : decode cX11_meanError 36 = .ok (.iconst 1, 1) := by decide +kernel
theorem dX11_meanError_37 : decode cX11_meanError 37 = .ok (.iand, 1) := by decide +kernel
theorem dX11_meanError_38 : decode cX11_meanError 38 = .ok (.iconst 1, 1) := by decide +kernel
theorem dX11_meanError_39 : decode cX11_meanError 39 = .ok (.if_icmp .ne 12, 3) := by decide +kernel
theorem dX11_meanError_42 : decode cX11_meanError 42 = .ok (.aload_n 0, 1) := by decide +kernel
theorem dX11_meanError_43 : decode cX11_meanError 43 = .ok (.iload_n 3, 1) := by decide +kernel
theorem dX11_meanError_44 : decode cX11_meanError 44 = .ok (.iconst 0, 1) := by decide +kernel
theorem dX11_meanError_45 : decode cX11_meanError 45 = .ok (.invokevirtual 102, 3) := by decide +kernel
theorem dX11_meanError_48 : decode cX11_meanError 48 = .ok (.goto 4, 3) := by decide +kernel
theorem dX11_meanError_51 : decode cX11_meanError 51 = .ok (.iconst 0, 1) := by decide +kernel
theorem dX11_meanError_52 : decode cX11_meanError 52 = .ok (.iadd, 1) := by decide +kernel
theorem dX11_meanError_53 : decode cX11_meanError 53 = .ok (.istore_n 2, 1) := by decide +kernel
theorem dX11_meanError_54 : decode cX11_meanError 54 = .ok (.iinc 3 1, 3) := by decide +kernel
theorem dX11_meanError_57 : decode cX11_meanError 57 = .ok (.goto (-35), 3) := by decide +kernel
theorem dX11_meanError_60 : decode cX11_meanError 60 = .ok (.aload_n 0, 1) := by decide +kernel
theorem dX11_meanError_61 : decode cX11_meanError 61 = .ok (.getfield 53, 3) := by decide +kernel
theorem dX11_meanError_64 : decode cX11_meanError 64 = .ok (.ifCond .ne 14, 3) := by decide +kernel
theorem dX11_meanError_67 : decode cX11_meanError 67 = .ok (.iload_n 2, 1) := by decide +kernel
theorem dX11_meanError_68 : decode cX11_meanError 68 = .ok (.i2d, 1) := by decide +kernel
theorem dX11_meanError_69 : decode cX11_meanError 69 = .ok (.iload_n 1, 1) := by decide +kernel
theorem dX11_meanError_70 : decode cX11_meanError 70 = .ok (.invokestatic 157, 3) := by decide +kernel
theorem dX11_meanError_73 : decode cX11_meanError 73 = .ok (.i2d, 1) := by decide +kernel
theorem dX11_meanError_74 : decode cX11_meanError 74 = .ok (.ddiv, 1) := by decide +kernel
theorem dX11_meanError_75 : decode cX11_meanError 75 = .ok (.goto 4, 3) := by decide +kernel
theorem dX11_meanError_78 : decode cX11_meanError 78 = .ok (.dconst 0, 1) := by decide +kernel
theorem dX11_meanError_79 : decode cX11_meanError 79 = .ok (.dreturn, 1) := by decide +kernel
theorem dX11_goodCount_0 : decode cX11_goodCount 0 = .ok (.aload_n 0, 1) := by decide +kernel
theorem dX11_goodCount_1 : decode cX11_goodCount 1 = .ok (.iconst 0, 1) := by decide +kernel
theorem dX11_goodCount_2 : decode cX11_goodCount 2 = .ok (.putfield 53, 3) := by decide +kernel
theorem dX11_goodCount_5 : decode cX11_goodCount 5 = .ok (.aload_n 0, 1) := by decide +kernel
theorem dX11_goodCount_6 : decode cX11_goodCount 6 = .ok (.invokevirtual 153, 3) := by decide +kernel
theorem dX11_goodCount_9 : decode cX11_goodCount 9 = .ok (.invokestatic 157, 3) := by decide +kernel
theorem dX11_goodCount_12 : decode cX11_goodCount 12 = .ok (.ireturn, 1) := by decide +kernel
theorem dX11_apart_0 : decode cX11_apart 0 = .ok (.aload_n 0, 1) := by decide +kernel
theorem dX11_apart_1 : decode cX11_apart 1 = .ok (.getfield 16, 3) := by decide +kernel
theorem dX11_apart_4 : decode cX11_apart 4 = .ok (.iload_n 1, 1) := by decide +kernel
theorem dX11_apart_5 : decode cX11_apart 5 = .ok (.iconst 0, 1) := by decide +kernel
theorem dX11_apart_6 : decode cX11_apart 6 = .ok (.invokestatic 67, 3) := by decide +kernel
theorem dX11_apart_9 : decode cX11_apart 9 = .ok (.iaload, 1) := by decide +kernel
theorem dX11_apart_10 : decode cX11_apart 10 = .ok (.aload_n 0, 1) := by decide +kernel
theorem dX11_apart_11 : decode cX11_apart 11 = .ok (.getfield 16, 3) := by decide +kernel
theorem dX11_apart_14 : decode cX11_apart 14 = .ok (.iload_n 2, 1) := by decide +kernel
theorem dX11_apart_15 : decode cX11_apart 15 = .ok (.iconst 0, 1) := by decide +kernel
theorem dX11_apart_16 : decode cX11_apart 16 = .ok (.invokestatic 67, 3) := by decide +kernel
theorem dX11_apart_19 : decode cX11_apart 19 = .ok (.iaload, 1) := by decide +kernel
theorem dX11_apart_20 : decode cX11_apart 20 = .ok (.isub, 1) := by decide +kernel
theorem dX11_apart_21 : decode cX11_apart 21 = .ok (.istore_n 3, 1) := by decide +kernel
theorem dX11_apart_22 : decode cX11_apart 22 = .ok (.iload_n 3, 1) := by decide +kernel
theorem dX11_apart_23 : decode cX11_apart 23 = .ok (.ifCond .ge 8, 3) := by decide +kernel
theorem dX11_apart_26 : decode cX11_apart 26 = .ok (.iload_n 3, 1) := by decide +kernel
theorem dX11_apart_27 : decode cX11_apart 27 = .ok (.ineg, 1) := by decide +kernel
theorem dX11_apart_28 : decode cX11_apart 28 = .ok (.goto 4, 3) := by decide +kernel
theorem dX11_apart_31 : decode cX11_apart 31 = .ok (.iload_n 3, 1) := by decide +kernel
theorem dX11_apart_32 : decode cX11_apart 32 = .ok (.ireturn, 1) := by decide +kernel
theorem dX11_first_0 : decode cX11_first 0 = .ok (.iconst 0, 1) := by decide +kernel
theorem dX11_first_1 : decode cX11_first 1 = .ok (.istore_n 1, 1) := by decide +kernel
theorem dX11_first_2 : decode cX11_first 2 = .ok (.iload_n 0, 1) := by decide +kernel
theorem dX11_first_3 : decode cX11_first 3 = .ok (.iload_n 1, 1) := by decide +kernel
theorem dX11_first_4 : decode cX11_first 4 = .ok (.ishr, 1) := by decide +kernel
theorem dX11_first_5 : decode cX11_first 5 = .ok (.iconst 1, 1) := by decide +kernel
theorem dX11_first_6 : decode cX11_first 6 = .ok (.iand, 1) := by decide +kernel
theorem dX11_first_7 : decode cX11_first 7 = .ok (.ifCond .ne 9, 3) := by decide +kernel
theorem dX11_first_10 : decode cX11_first 10 = .ok (.iinc 1 1, 3) := by decide +kernel
theorem dX11_first_13 : decode cX11_first 13 = .ok (.goto (-11), 3) := by decide +kernel
theorem dX11_first_16 : decode cX11_first 16 = .ok (.iload_n 1, 1) := by decide +kernel
theorem dX11_first_17 : decode cX11_first 17 = .ok (.ireturn, 1) := by decide +kernel
theorem dX11_pairs_0 : decode cX11_pairs 0 = .ok (.aload_n 0, 1) := by decide +kernel
theorem dX11_pairs_1 : decode cX11_pairs 1 = .ok (.getfield 29, 3) := by decide +kernel
theorem dX11_pairs_4 : decode cX11_pairs 4 = .ok (.iconst 0, 1) := by decide +kernel
theorem dX11_pairs_5 : decode cX11_pairs 5 = .ok (.iconst 0, 1) := by decide +kernel
theorem dX11_pairs_6 : decode cX11_pairs 6 = .ok (.iastore, 1) := by decide +kernel
theorem dX11_pairs_7 : decode cX11_pairs 7 = .ok (.iconst 1, 1) := by decide +kernel
theorem dX11_pairs_8 : decode cX11_pairs 8 = .ok (.istore_n 1, 1) := by decide +kernel
theorem dX11_pairs_9 : decode cX11_pairs 9 = .ok (.iload_n 1, 1) := by decide +kernel
theorem dX11_pairs_10 : decode cX11_pairs 10 = .ok (.iconst 1, 1) := by decide +kernel
theorem dX11_pairs_11 : decode cX11_pairs 11 = .ok (.aload_n 0, 1) := by decide +kernel
theorem dX11_pairs_12 : decode cX11_pairs 12 = .ok (.getfield 16, 3) := by decide +kernel
theorem dX11_pairs_15 : decode cX11_pairs 15 = .ok (.iconst 0, 1) := by decide +kernel
theorem dX11_pairs_16 : decode cX11_pairs 16 = .ok (.iaload, 1) := by decide +kernel
theorem dX11_pairs_17 : decode cX11_pairs 17 = .ok (.ishl, 1) := by decide +kernel
theorem dX11_pairs_18 : decode cX11_pairs 18 = .ok (.if_icmp .ge 148, 3) := by decide +kernel
theorem dX11_pairs_21 : decode cX11_pairs 21 = .ok (.aload_n 0, 1) := by decide +kernel
theorem dX11_pairs_22 : decode cX11_pairs 22 = .ok (.getfield 29, 3) := by decide +kernel
theorem dX11_pairs_25 : decode cX11_pairs 25 = .ok (.iload_n 1, 1) := by decide +kernel
theorem dX11_pairs_26 : decode cX11_pairs 26 = .ok (.ldc 160, 2) := by decide +kernel
theorem dX11_pairs_28 : decode cX11_pairs 28 = .ok (.iastore, 1) := by decide +kernel
theorem dX11_pairs_29 : decode cX11_pairs 29 = .ok (.iload_n 1, 1) := by decide +kernel
theorem dX11_pairs_30 : decode cX11_pairs 30 = .ok (.invokestatic 161, 3) := by decide +kernel
theorem dX11_pairs_33 : decode cX11_pairs 33 = .ok (.istore_n 2, 1) := by decide +kernel
theorem dX11_pairs_34 : decode cX11_pairs 34 = .ok (.iload_n 1, 1) := by decide +kernel
theorem dX11_pairs_35 : decode cX11_pairs 35 = .ok (.invokestatic 157, 3) := by decide +kernel
theorem dX11_pairs_38 : decode cX11_pairs 38 = .ok (.iconst 2, 1) := by decide +kernel
theorem dX11_pairs_39 : decode cX11_pairs 39 = .ok (.irem, 1) := by decide +kernel
theorem dX11_pairs_40 : decode cX11_pairs 40 = .ok (.iconst 1, 1) := by decide +kernel
theorem dX11_pairs_41 : decode cX11_pairs 41 = .ok (.if_icmp .ne 7, 3) := by decide +kernel
theorem dX11_pairs_44 : decode cX11_pairs 44 = .ok (.iconst 1, 1) := by decide +kernel
theorem dX11_pairs_45 : decode cX11_pairs 45 = .ok (.goto 4, 3) := by decide +kernel
theorem dX11_pairs_48 : decode cX11_pairs 48 = .ok (.iconst 0, 1) := by decide +kernel
theorem dX11_pairs_49 : decode cX11_pairs 49 = .ok (.istore_n 3, 1) := by decide +kernel
theorem dX11_pairs_50 : decode cX11_pairs 50 = .ok (.iconst 0, 1) := by decide +kernel
theorem dX11_pairs_51 : decode cX11_pairs 51 = .ok (.istore 4, 2) := by decide +kernel
theorem dX11_pairs_53 : decode cX11_pairs 53 = .ok (.iload 4, 2) := by decide +kernel
theorem dX11_pairs_55 : decode cX11_pairs 55 = .ok (.aload_n 0, 1) := by decide +kernel
theorem dX11_pairs_56 : decode cX11_pairs 56 = .ok (.getfield 16, 3) := by decide +kernel
theorem dX11_pairs_59 : decode cX11_pairs 59 = .ok (.iconst 0, 1) := by decide +kernel
theorem dX11_pairs_60 : decode cX11_pairs 60 = .ok (.iaload, 1) := by decide +kernel
theorem dX11_pairs_61 : decode cX11_pairs 61 = .ok (.if_icmp .ge 99, 3) := by decide +kernel
theorem dX11_pairs_64 : decode cX11_pairs 64 = .ok (.iload_n 1, 1) := by decide +kernel
theorem dX11_pairs_65 : decode cX11_pairs 65 = .ok (.iload 4, 2) := by decide +kernel
theorem dX11_pairs_67 : decode cX11_pairs 67 = .ok (.ishr, 1) := by decide +kernel
theorem dX11_pairs_68 : decode cX11_pairs 68 = .ok (.iconst 1, 1) := by decide +kernel
theorem dX11_pairs_69 : decode cX11_pairs 69 = .ok (.iand, 1) := by decide +kernel
theorem dX11_pairs_70 : decode cX11_pairs 70 = .ok (.ifCond .eq 84, 3) := by decide +kernel
theorem dX11_pairs_73 : decode cX11_pairs 73 = .ok (.iload_n 3, 1) := by decide +kernel
theorem dX11_pairs_74 : decode cX11_pairs 74 = .ok (.ifCond .ne 12, 3) := by decide +kernel
theorem dX11_pairs_77 : decode cX11_pairs 77 = .ok (.iload 4, 2) := by decide +kernel
theorem dX11_pairs_79 : decode cX11_pairs 79 = .ok (.iload_n 2, 1) := by decide +kernel
theorem dX11_pairs_80 : decode cX11_pairs 80 = .ok (.if_icmp .ne 6, 3) := by decide +kernel
theorem dX11_pairs_83 : decode cX11_pairs 83 = .ok (.goto 71, 3) := by decide +kernel
theorem dX11_pairs_86 : decode cX11_pairs 86 = .ok (.iload_n 3, 1) := by decide +kernel
theorem dX11_pairs_87 : decode cX11_pairs 87 = .ok (.ifCond .eq 19, 3) := by decide +kernel
theorem dX11_pairs_90 : decode cX11_pairs 90 = .ok (.aload_n 0, 1) := by decide +kernel
theorem dX11_pairs_91 : decode cX11_pairs 91 = .ok (.getfield 29, 3) := by decide +kernel
theorem dX11_pairs_94 : decode cX11_pairs 94 = .ok (.iload_n 1, 1) := by decide +kernel
theorem dX11_pairs_95 : decode cX11_pairs 95 = .ok (.iconst 1, 1) := by decide +kernel
theorem dX11_pairs_96 : decode cX11_pairs 96 = .ok (.iload 4, 2) := by decide +kernel
theorem dX11_pairs_98 : decode cX11_pairs 98 = .ok (.ishl, 1) := by decide +kernel
theorem dX11_pairs_99 : decode cX11_pairs 99 = .ok (.iconst (-1), 1) := by decide +kernel
theorem dX11_pairs_100 : decode cX11_pairs 100 = .ok (.ixor, 1) := by decide +kernel
theorem dX11_pairs_101 : decode cX11_pairs 101 = .ok (.iand, 1) := by decide +kernel
theorem dX11_pairs_102 : decode cX11_pairs 102 = .ok (.iaload, 1) := by decide +kernel
theorem dX11_pairs_103 : decode cX11_pairs 103 = .ok (.goto 30, 3) := by decide +kernel
theorem dX11_pairs_106 : decode cX11_pairs 106 = .ok (.aload_n 0, 1) := by decide +kernel
theorem dX11_pairs_107 : decode cX11_pairs 107 = .ok (.iload_n 2, 1) := by decide +kernel
theorem dX11_pairs_108 : decode cX11_pairs 108 = .ok (.iload 4, 2) := by decide +kernel
theorem dX11_pairs_110 : decode cX11_pairs 110 = .ok (.invokevirtual 164, 3) := by decide +kernel
theorem dX11_pairs_113 : decode cX11_pairs 113 = .ok (.aload_n 0, 1) := by decide +kernel
theorem dX11_pairs_114 : decode cX11_pairs 114 = .ok (.getfield 29, 3) := by decide +kernel
theorem dX11_pairs_117 : decode cX11_pairs 117 = .ok (.iload_n 1, 1) := by decide +kernel
theorem dX11_pairs_118 : decode cX11_pairs 118 = .ok (.iconst 1, 1) := by decide +kernel
theorem dX11_pairs_119 : decode cX11_pairs 119 = .ok (.iload_n 2, 1) := by decide +kernel
theorem dX11_pairs_120 : decode cX11_pairs 120 = .ok (.ishl, 1) := by decide +kernel
theorem dX11_pairs_121 : decode cX11_pairs 121 = .ok (.iconst (-1), 1) := by decide +kernel
theorem dX11_pairs_122 : decode cX11_pairs 122 = .ok (.ixor, 1) := by decide +kernel
theorem dX11_pairs_123 : decode cX11_pairs 123 = .ok (.iand, 1) := by decide +kernel
theorem dX11_pairs_124 : decode cX11_pairs 124 = .ok (.iconst 1, 1) := by decide +kernel
theorem dX11_pairs_125 : decode cX11_pairs 125 = .ok (.iload 4, 2) := by decide +kernel
theorem dX11_pairs_127 : decode cX11_pairs 127 = .ok (.ishl, 1) := by decide +kernel
theorem dX11_pairs_128 : decode cX11_pairs 128 = .ok (.iconst (-1), 1) := by decide +kernel
theorem dX11_pairs_129 : decode cX11_pairs 129 = .ok (.ixor, 1) := by decide +kernel
theorem dX11_pairs_130 : decode cX11_pairs 130 = .ok (.iand, 1) := by decide +kernel
theorem dX11_pairs_131 : decode cX11_pairs 131 = .ok (.iaload, 1) := by decide +kernel
theorem dX11_pairs_132 : decode cX11_pairs 132 = .ok (.iadd, 1) := by decide +kernel
theorem dX11_pairs_133 : decode cX11_pairs 133 = .ok (.istore 5, 2) := by decide +kernel
theorem dX11_pairs_135 : decode cX11_pairs 135 = .ok (.iload 5, 2) := by decide +kernel
theorem dX11_pairs_137 : decode cX11_pairs 137 = .ok (.aload_n 0, 1) := by decide +kernel
theorem dX11_pairs_138 : decode cX11_pairs 138 = .ok (.getfield 29, 3) := by decide +kernel
theorem dX11_pairs_141 : decode cX11_pairs 141 = .ok (.iload_n 1, 1) := by decide +kernel
theorem dX11_pairs_142 : decode cX11_pairs 142 = .ok (.iaload, 1) := by decide +kernel
theorem dX11_pairs_143 : decode cX11_pairs 143 = .ok (.if_icmp .ge 11, 3) := by decide +kernel
theorem dX11_pairs_146 : decode cX11_pairs 146 = .ok (.aload_n 0, 1) := by decide +kernel
theorem dX11_pairs_147 : decode cX11_pairs 147 = .ok (.getfield 29, 3) := by decide +kernel
theorem dX11_pairs_150 : decode cX11_pairs 150 = .ok (.iload_n 1, 1) := by decide +kernel
theorem dX11_pairs_151 : decode cX11_pairs 151 = .ok (.iload 5, 2) := by decide +kernel
theorem dX11_pairs_153 : decode cX11_pairs 153 = .ok (.iastore, 1) := by decide +kernel
theorem dX11_pairs_154 : decode cX11_pairs 154 = .ok (.iinc 4 1, 3) := by decide +kernel
theorem dX11_pairs_157 : decode cX11_pairs 157 = .ok (.goto (-104), 3) := by decide +kernel
theorem dX11_pairs_160 : decode cX11_pairs 160 = .ok (.iinc 1 1, 3) := by decide +kernel
theorem dX11_pairs_163 : decode cX11_pairs 163 = .ok (.goto (-154), 3) := by decide +kernel
theorem dX11_pairs_166 : decode cX11_pairs 166 = .ok (.return_, 1) := by decide +kernel
theorem dX11_leastDifference_0 : decode cX11_leastDifference 0 = .ok (.aload_n 0, 1) := by decide +kernel
theorem dX11_leastDifference_1 : decode cX11_leastDifference 1 = .ok (.iconst 0, 1) := by decide +kernel
theorem dX11_leastDifference_2 : decode cX11_leastDifference 2 = .ok (.putfield 53, 3) := by decide +kernel
theorem dX11_leastDifference_5 : decode cX11_leastDifference 5 = .ok (.aload_n 0, 1) := by decide +kernel
theorem dX11_leastDifference_6 : decode cX11_leastDifference 6 = .ok (.invokevirtual 167, 3) := by decide +kernel
theorem dX11_leastDifference_9 : decode cX11_leastDifference 9 = .ok (.aload_n 0, 1) := by decide +kernel
theorem dX11_leastDifference_10 : decode cX11_leastDifference 10 = .ok (.getfield 29, 3) := by decide +kernel
theorem dX11_leastDifference_13 : decode cX11_leastDifference 13 = .ok (.aload_n 0, 1) := by decide +kernel
theorem dX11_leastDifference_14 : decode cX11_leastDifference 14 = .ok (.invokevirtual 153, 3) := by decide +kernel
theorem dX11_leastDifference_17 : decode cX11_leastDifference 17 = .ok (.iaload, 1) := by decide +kernel
theorem dX11_leastDifference_18 : decode cX11_leastDifference 18 = .ok (.ireturn, 1) := by decide +kernel
theorem dX11_leastDifferenceByOrder_0 : decode cX11_leastDifferenceByOrder 0 = .ok (.aload_n 0, 1) := by decide +kernel
theorem dX11_leastDifferenceByOrder_1 : decode cX11_leastDifferenceByOrder 1 = .ok (.invokevirtual 170, 3) := by decide +kernel
theorem dX11_leastDifferenceByOrder_4 : decode cX11_leastDifferenceByOrder 4 = .ok (.ireturn, 1) := by decide +kernel
theorem dX11_partnerOf_0 : decode cX11_partnerOf 0 = .ok (.aload_n 0, 1) := by decide +kernel
theorem dX11_partnerOf_1 : decode cX11_partnerOf 1 = .ok (.aload_n 0, 1) := by decide +kernel
theorem dX11_partnerOf_2 : decode cX11_partnerOf 2 = .ok (.iload_n 1, 1) := by decide +kernel
theorem dX11_partnerOf_3 : decode cX11_partnerOf 3 = .ok (.invokevirtual 87, 3) := by decide +kernel
theorem dX11_partnerOf_6 : decode cX11_partnerOf 6 = .ok (.ifCond .eq 7, 3) := by decide +kernel
theorem dX11_partnerOf_9 : decode cX11_partnerOf 9 = .ok (.iconst 0, 1) := by decide +kernel
theorem dX11_partnerOf_10 : decode cX11_partnerOf 10 = .ok (.goto 4, 3) := by decide +kernel
theorem dX11_partnerOf_13 : decode cX11_partnerOf 13 = .ok (.iconst 1, 1) := by decide +kernel
theorem dX11_partnerOf_14 : decode cX11_partnerOf 14 = .ok (.putfield 53, 3) := by decide +kernel
theorem dX11_partnerOf_17 : decode cX11_partnerOf 17 = .ok (.aload_n 0, 1) := by decide +kernel
theorem dX11_partnerOf_18 : decode cX11_partnerOf 18 = .ok (.getfield 53, 3) := by decide +kernel
theorem dX11_partnerOf_21 : decode cX11_partnerOf 21 = .ok (.ifCond .eq 5, 3) := by decide +kernel
theorem dX11_partnerOf_24 : decode cX11_partnerOf 24 = .ok (.iconst 0, 1) := by decide +kernel
theorem dX11_partnerOf_25 : decode cX11_partnerOf 25 = .ok (.ireturn, 1) := by decide +kernel
theorem dX11_partnerOf_26 : decode cX11_partnerOf 26 = .ok (.aload_n 0, 1) := by decide +kernel
theorem dX11_partnerOf_27 : decode cX11_partnerOf 27 = .ok (.invokevirtual 153, 3) := by decide +kernel
theorem dX11_partnerOf_30 : decode cX11_partnerOf 30 = .ok (.istore_n 2, 1) := by decide +kernel
theorem dX11_partnerOf_31 : decode cX11_partnerOf 31 = .ok (.iload_n 2, 1) := by decide +kernel
theorem dX11_partnerOf_32 : decode cX11_partnerOf 32 = .ok (.iload_n 1, 1) := by decide +kernel
theorem dX11_partnerOf_33 : decode cX11_partnerOf 33 = .ok (.ishr, 1) := by decide +kernel
theorem dX11_partnerOf_34 : decode cX11_partnerOf 34 = .ok (.iconst 1, 1) := by decide +kernel
theorem dX11_partnerOf_35 : decode cX11_partnerOf 35 = .ok (.iand, 1) := by decide +kernel
theorem dX11_partnerOf_36 : decode cX11_partnerOf 36 = .ok (.ifCond .ne 9, 3) := by decide +kernel
theorem dX11_partnerOf_39 : decode cX11_partnerOf 39 = .ok (.aload_n 0, 1) := by decide +kernel
theorem dX11_partnerOf_40 : decode cX11_partnerOf 40 = .ok (.iconst 2, 1) := by decide +kernel
theorem dX11_partnerOf_41 : decode cX11_partnerOf 41 = .ok (.invokevirtual 74, 3) := by decide +kernel
theorem dX11_partnerOf_44 : decode cX11_partnerOf 44 = .ok (.ireturn, 1) := by decide +kernel
theorem dX11_partnerOf_45 : decode cX11_partnerOf 45 = .ok (.aload_n 0, 1) := by decide +kernel
theorem dX11_partnerOf_46 : decode cX11_partnerOf 46 = .ok (.invokevirtual 167, 3) := by decide +kernel
theorem dX11_partnerOf_49 : decode cX11_partnerOf 49 = .ok (.iconst 0, 1) := by decide +kernel
theorem dX11_partnerOf_50 : decode cX11_partnerOf 50 = .ok (.istore_n 3, 1) := by decide +kernel
theorem dX11_partnerOf_51 : decode cX11_partnerOf 51 = .ok (.iload_n 3, 1) := by decide +kernel
theorem dX11_partnerOf_52 : decode cX11_partnerOf 52 = .ok (.aload_n 0, 1) := by decide +kernel
theorem dX11_partnerOf_53 : decode cX11_partnerOf 53 = .ok (.getfield 16, 3) := by decide +kernel
theorem dX11_partnerOf_56 : decode cX11_partnerOf 56 = .ok (.iconst 0, 1) := by decide +kernel
theorem dX11_partnerOf_57 : decode cX11_partnerOf 57 = .ok (.iaload, 1) := by decide +kernel
theorem dX11_partnerOf_58 : decode cX11_partnerOf 58 = .ok (.if_icmp .ge 61, 3) := by decide +kernel
theorem dX11_partnerOf_61 : decode cX11_partnerOf 61 = .ok (.iload_n 3, 1) := by decide +kernel
theorem dX11_partnerOf_62 : decode cX11_partnerOf 62 = .ok (.iload_n 1, 1) := by decide +kernel
theorem dX11_partnerOf_63 : decode cX11_partnerOf 63 = .ok (.if_icmp .eq 50, 3) := by decide +kernel
theorem dX11_partnerOf_66 : decode cX11_partnerOf 66 = .ok (.iload_n 2, 1) := by decide +kernel
theorem dX11_partnerOf_67 : decode cX11_partnerOf 67 = .ok (.iload_n 3, 1) := by decide +kernel
theorem dX11_partnerOf_68 : decode cX11_partnerOf 68 = .ok (.ishr, 1) := by decide +kernel
theorem dX11_partnerOf_69 : decode cX11_partnerOf 69 = .ok (.iconst 1, 1) := by decide +kernel
theorem dX11_partnerOf_70 : decode cX11_partnerOf 70 = .ok (.iand, 1) := by decide +kernel
theorem dX11_partnerOf_71 : decode cX11_partnerOf 71 = .ok (.ifCond .ne 6, 3) := by decide +kernel
theorem dX11_partnerOf_74 : decode cX11_partnerOf 74 = .ok (.goto 39, 3) := by decide +kernel
theorem dX11_partnerOf_77 : decode cX11_partnerOf 77 = .ok (.aload_n 0, 1) := by decide +kernel
theorem dX11_partnerOf_78 : decode cX11_partnerOf 78 = .ok (.iload_n 1, 1) := by decide +kernel
theorem dX11_partnerOf_79 : decode cX11_partnerOf 79 = .ok (.iload_n 3, 1) := by decide +kernel
theorem dX11_partnerOf_80 : decode cX11_partnerOf 80 = .ok (.invokevirtual 164, 3) := by decide +kernel
theorem dX11_partnerOf_83 : decode cX11_partnerOf 83 = .ok (.aload_n 0, 1) := by decide +kernel
theorem dX11_partnerOf_84 : decode cX11_partnerOf 84 = .ok (.getfield 29, 3) := by decide +kernel
theorem dX11_partnerOf_87 : decode cX11_partnerOf 87 = .ok (.iload_n 2, 1) := by decide +kernel
theorem dX11_partnerOf_88 : decode cX11_partnerOf 88 = .ok (.iconst 1, 1) := by decide +kernel
theorem dX11_partnerOf_89 : decode cX11_partnerOf 89 = .ok (.iload_n 1, 1) := by decide +kernel
theorem dX11_partnerOf_90 : decode cX11_partnerOf 90 = .ok (.ishl, 1) := by decide +kernel
theorem dX11_partnerOf_91 : decode cX11_partnerOf 91 = .ok (.iconst (-1), 1) := by decide +kernel
theorem dX11_partnerOf_92 : decode cX11_partnerOf 92 = .ok (.ixor, 1) := by decide +kernel
theorem dX11_partnerOf_93 : decode cX11_partnerOf 93 = .ok (.iand, 1) := by decide +kernel
theorem dX11_partnerOf_94 : decode cX11_partnerOf 94 = .ok (.iconst 1, 1) := by decide +kernel
theorem dX11_partnerOf_95 : decode cX11_partnerOf 95 = .ok (.iload_n 3, 1) := by decide +kernel
theorem dX11_partnerOf_96 : decode cX11_partnerOf 96 = .ok (.ishl, 1) := by decide +kernel
theorem dX11_partnerOf_97 : decode cX11_partnerOf 97 = .ok (.iconst (-1), 1) := by decide +kernel
theorem dX11_partnerOf_98 : decode cX11_partnerOf 98 = .ok (.ixor, 1) := by decide +kernel
theorem dX11_partnerOf_99 : decode cX11_partnerOf 99 = .ok (.iand, 1) := by decide +kernel
theorem dX11_partnerOf_100 : decode cX11_partnerOf 100 = .ok (.iaload, 1) := by decide +kernel
theorem dX11_partnerOf_101 : decode cX11_partnerOf 101 = .ok (.iadd, 1) := by decide +kernel
theorem dX11_partnerOf_102 : decode cX11_partnerOf 102 = .ok (.aload_n 0, 1) := by decide +kernel
theorem dX11_partnerOf_103 : decode cX11_partnerOf 103 = .ok (.getfield 29, 3) := by decide +kernel
theorem dX11_partnerOf_106 : decode cX11_partnerOf 106 = .ok (.iload_n 2, 1) := by decide +kernel
theorem dX11_partnerOf_107 : decode cX11_partnerOf 107 = .ok (.iaload, 1) := by decide +kernel
theorem dX11_partnerOf_108 : decode cX11_partnerOf 108 = .ok (.if_icmp .ne 5, 3) := by decide +kernel
theorem dX11_partnerOf_111 : decode cX11_partnerOf 111 = .ok (.iload_n 3, 1) := by decide +kernel
theorem dX11_partnerOf_112 : decode cX11_partnerOf 112 = .ok (.ireturn, 1) := by decide +kernel
theorem dX11_partnerOf_113 : decode cX11_partnerOf 113 = .ok (.iinc 3 1, 3) := by decide +kernel
theorem dX11_partnerOf_116 : decode cX11_partnerOf 116 = .ok (.goto (-65), 3) := by decide +kernel
theorem dX11_partnerOf_119 : decode cX11_partnerOf 119 = .ok (.aload_n 0, 1) := by decide +kernel
theorem dX11_partnerOf_120 : decode cX11_partnerOf 120 = .ok (.iconst 2, 1) := by decide +kernel
theorem dX11_partnerOf_121 : decode cX11_partnerOf 121 = .ok (.invokevirtual 74, 3) := by decide +kernel
theorem dX11_partnerOf_124 : decode cX11_partnerOf 124 = .ok (.ireturn, 1) := by decide +kernel
theorem dX11_puts_0 : decode cX11_puts 0 = .ok (.iload_n 1, 1) := by decide +kernel
theorem dX11_puts_1 : decode cX11_puts 1 = .ok (.iconst 1, 1) := by decide +kernel
theorem dX11_puts_2 : decode cX11_puts 2 = .ok (.bipush 60, 2) := by decide +kernel
theorem dX11_puts_4 : decode cX11_puts 4 = .ok (.invokestatic 63, 3) := by decide +kernel
theorem dX11_puts_7 : decode cX11_puts 7 = .ok (.ifCond .eq 24, 3) := by decide +kernel
theorem dX11_puts_10 : decode cX11_puts 10 = .ok (.iload_n 2, 1) := by decide +kernel
theorem dX11_puts_11 : decode cX11_puts 11 = .ok (.iconst 1, 1) := by decide +kernel
theorem dX11_puts_12 : decode cX11_puts 12 = .ok (.sipush 999, 3) := by decide +kernel
theorem dX11_puts_15 : decode cX11_puts 15 = .ok (.invokestatic 63, 3) := by decide +kernel
theorem dX11_puts_18 : decode cX11_puts 18 = .ok (.ifCond .eq 13, 3) := by decide +kernel
theorem dX11_puts_21 : decode cX11_puts 21 = .ok (.iload_n 3, 1) := by decide +kernel
theorem dX11_puts_22 : decode cX11_puts 22 = .ok (.iconst 1, 1) := by decide +kernel
theorem dX11_puts_23 : decode cX11_puts 23 = .ok (.bipush 9, 2) := by decide +kernel
theorem dX11_puts_25 : decode cX11_puts 25 = .ok (.invokestatic 63, 3) := by decide +kernel
theorem dX11_puts_28 : decode cX11_puts 28 = .ok (.ifCond .ne 9, 3) := by decide +kernel
theorem dX11_puts_31 : decode cX11_puts 31 = .ok (.aload_n 0, 1) := by decide +kernel
theorem dX11_puts_32 : decode cX11_puts 32 = .ok (.iconst 1, 1) := by decide +kernel
theorem dX11_puts_33 : decode cX11_puts 33 = .ok (.invokevirtual 74, 3) := by decide +kernel
theorem dX11_puts_36 : decode cX11_puts 36 = .ok (.ireturn, 1) := by decide +kernel
theorem dX11_puts_37 : decode cX11_puts 37 = .ok (.aload_n 0, 1) := by decide +kernel
theorem dX11_puts_38 : decode cX11_puts 38 = .ok (.getfield 16, 3) := by decide +kernel
theorem dX11_puts_41 : decode cX11_puts 41 = .ok (.iconst 4, 1) := by decide +kernel
theorem dX11_puts_42 : decode cX11_puts 42 = .ok (.iaload, 1) := by decide +kernel
theorem dX11_puts_43 : decode cX11_puts 43 = .ok (.istore 4, 2) := by decide +kernel
theorem dX11_puts_45 : decode cX11_puts 45 = .ok (.iload 4, 2) := by decide +kernel
theorem dX11_puts_47 : decode cX11_puts 47 = .ok (.bipush 7, 2) := by decide +kernel
theorem dX11_puts_49 : decode cX11_puts 49 = .ok (.if_icmp .ne 9, 3) := by decide +kernel
theorem dX11_puts_52 : decode cX11_puts 52 = .ok (.aload_n 0, 1) := by decide +kernel
theorem dX11_puts_53 : decode cX11_puts 53 = .ok (.iconst 2, 1) := by decide +kernel
theorem dX11_puts_54 : decode cX11_puts 54 = .ok (.invokevirtual 74, 3) := by decide +kernel
theorem dX11_puts_57 : decode cX11_puts 57 = .ok (.ireturn, 1) := by decide +kernel
theorem dX11_puts_58 : decode cX11_puts 58 = .ok (.aload_n 0, 1) := by decide +kernel
theorem dX11_puts_59 : decode cX11_puts 59 = .ok (.getfield 16, 3) := by decide +kernel
theorem dX11_puts_62 : decode cX11_puts 62 = .ok (.iload 4, 2) := by decide +kernel
theorem dX11_puts_64 : decode cX11_puts 64 = .ok (.iconst 0, 1) := by decide +kernel
theorem dX11_puts_65 : decode cX11_puts 65 = .ok (.invokestatic 71, 3) := by decide +kernel
theorem dX11_puts_68 : decode cX11_puts 68 = .ok (.aload_n 0, 1) := by decide +kernel
theorem dX11_puts_69 : decode cX11_puts 69 = .ok (.getfield 16, 3) := by decide +kernel
theorem dX11_puts_72 : decode cX11_puts 72 = .ok (.iconst 3, 1) := by decide +kernel
theorem dX11_puts_73 : decode cX11_puts 73 = .ok (.iaload, 1) := by decide +kernel
theorem dX11_puts_74 : decode cX11_puts 74 = .ok (.iastore, 1) := by decide +kernel
theorem dX11_puts_75 : decode cX11_puts 75 = .ok (.aload_n 0, 1) := by decide +kernel
theorem dX11_puts_76 : decode cX11_puts 76 = .ok (.getfield 16, 3) := by decide +kernel
theorem dX11_puts_79 : decode cX11_puts 79 = .ok (.iload 4, 2) := by decide +kernel
theorem dX11_puts_81 : decode cX11_puts 81 = .ok (.iconst 1, 1) := by decide +kernel
theorem dX11_puts_82 : decode cX11_puts 82 = .ok (.invokestatic 71, 3) := by decide +kernel
theorem dX11_puts_85 : decode cX11_puts 85 = .ok (.iload_n 1, 1) := by decide +kernel
theorem dX11_puts_86 : decode cX11_puts 86 = .ok (.iastore, 1) := by decide +kernel
theorem dX11_puts_87 : decode cX11_puts 87 = .ok (.aload_n 0, 1) := by decide +kernel
theorem dX11_puts_88 : decode cX11_puts 88 = .ok (.getfield 16, 3) := by decide +kernel
theorem dX11_puts_91 : decode cX11_puts 91 = .ok (.iload 4, 2) := by decide +kernel
theorem dX11_puts_93 : decode cX11_puts 93 = .ok (.iconst 2, 1) := by decide +kernel
theorem dX11_puts_94 : decode cX11_puts 94 = .ok (.invokestatic 71, 3) := by decide +kernel
theorem dX11_puts_97 : decode cX11_puts 97 = .ok (.iload_n 2, 1) := by decide +kernel
theorem dX11_puts_98 : decode cX11_puts 98 = .ok (.iastore, 1) := by decide +kernel
theorem dX11_puts_99 : decode cX11_puts 99 = .ok (.aload_n 0, 1) := by decide +kernel
theorem dX11_puts_100 : decode cX11_puts 100 = .ok (.getfield 16, 3) := by decide +kernel
theorem dX11_puts_103 : decode cX11_puts 103 = .ok (.iload 4, 2) := by decide +kernel
theorem dX11_puts_105 : decode cX11_puts 105 = .ok (.iconst 3, 1) := by decide +kernel
theorem dX11_puts_106 : decode cX11_puts 106 = .ok (.invokestatic 71, 3) := by decide +kernel
theorem dX11_puts_109 : decode cX11_puts 109 = .ok (.iload_n 3, 1) := by decide +kernel
theorem dX11_puts_110 : decode cX11_puts 110 = .ok (.iastore, 1) := by decide +kernel
theorem dX11_puts_111 : decode cX11_puts 111 = .ok (.aload_n 0, 1) := by decide +kernel
theorem dX11_puts_112 : decode cX11_puts 112 = .ok (.getfield 16, 3) := by decide +kernel
theorem dX11_puts_115 : decode cX11_puts 115 = .ok (.iconst 4, 1) := by decide +kernel
theorem dX11_puts_116 : decode cX11_puts 116 = .ok (.dup2, 1) := by decide +kernel
theorem dX11_puts_117 : decode cX11_puts 117 = .ok (.iaload, 1) := by decide +kernel
theorem dX11_puts_118 : decode cX11_puts 118 = .ok (.iconst 1, 1) := by decide +kernel
theorem dX11_puts_119 : decode cX11_puts 119 = .ok (.iadd, 1) := by decide +kernel
theorem dX11_puts_120 : decode cX11_puts 120 = .ok (.iastore, 1) := by decide +kernel
theorem dX11_puts_121 : decode cX11_puts 121 = .ok (.aload_n 0, 1) := by decide +kernel
theorem dX11_puts_122 : decode cX11_puts 122 = .ok (.getfield 16, 3) := by decide +kernel
theorem dX11_puts_125 : decode cX11_puts 125 = .ok (.iconst 3, 1) := by decide +kernel
theorem dX11_puts_126 : decode cX11_puts 126 = .ok (.dup2, 1) := by decide +kernel
theorem dX11_puts_127 : decode cX11_puts 127 = .ok (.iaload, 1) := by decide +kernel
theorem dX11_puts_128 : decode cX11_puts 128 = .ok (.iconst 1, 1) := by decide +kernel
theorem dX11_puts_129 : decode cX11_puts 129 = .ok (.iadd, 1) := by decide +kernel
theorem dX11_puts_130 : decode cX11_puts 130 = .ok (.iastore, 1) := by decide +kernel
theorem dX11_puts_131 : decode cX11_puts 131 = .ok (.aload_n 0, 1) := by decide +kernel
theorem dX11_puts_132 : decode cX11_puts 132 = .ok (.getfield 16, 3) := by decide +kernel
theorem dX11_puts_135 : decode cX11_puts 135 = .ok (.iload 4, 2) := by decide +kernel
theorem dX11_puts_137 : decode cX11_puts 137 = .ok (.iconst 0, 1) := by decide +kernel
theorem dX11_puts_138 : decode cX11_puts 138 = .ok (.invokestatic 71, 3) := by decide +kernel
theorem dX11_puts_141 : decode cX11_puts 141 = .ok (.iaload, 1) := by decide +kernel
theorem dX11_puts_142 : decode cX11_puts 142 = .ok (.ireturn, 1) := by decide +kernel
theorem dX11_addBatch_0 : decode cX11_addBatch 0 = .ok (.aload_n 0, 1) := by decide +kernel
theorem dX11_addBatch_1 : decode cX11_addBatch 1 = .ok (.invokevirtual 78, 3) := by decide +kernel
theorem dX11_addBatch_4 : decode cX11_addBatch 4 = .ok (.aload_n 0, 1) := by decide +kernel
theorem dX11_addBatch_5 : decode cX11_addBatch 5 = .ok (.aload_n 0, 1) := by decide +kernel
theorem dX11_addBatch_6 : decode cX11_addBatch 6 = .ok (.iload_n 1, 1) := by decide +kernel
theorem dX11_addBatch_7 : decode cX11_addBatch 7 = .ok (.iload_n 2, 1) := by decide +kernel
theorem dX11_addBatch_8 : decode cX11_addBatch 8 = .ok (.iload_n 3, 1) := by decide +kernel
theorem dX11_addBatch_9 : decode cX11_addBatch 9 = .ok (.invokevirtual 173, 3) := by decide +kernel
theorem dX11_addBatch_12 : decode cX11_addBatch 12 = .ok (.invokevirtual 84, 3) := by decide +kernel
theorem dX11_addBatch_15 : decode cX11_addBatch 15 = .ok (.ireturn, 1) := by decide +kernel
theorem dX11_goes_0 : decode cX11_goes 0 = .ok (.iload_n 1, 1) := by decide +kernel
theorem dX11_goes_1 : decode cX11_goes 1 = .ok (.ifCond .ge 9, 3) := by decide +kernel
theorem dX11_goes_4 : decode cX11_goes 4 = .ok (.aload_n 0, 1) := by decide +kernel
theorem dX11_goes_5 : decode cX11_goes 5 = .ok (.iconst 1, 1) := by decide +kernel
theorem dX11_goes_6 : decode cX11_goes 6 = .ok (.invokevirtual 74, 3) := by decide +kernel
theorem dX11_goes_9 : decode cX11_goes 9 = .ok (.ireturn, 1) := by decide +kernel
theorem dX11_goes_10 : decode cX11_goes 10 = .ok (.iload_n 1, 1) := by decide +kernel
theorem dX11_goes_11 : decode cX11_goes 11 = .ok (.iconst 0, 1) := by decide +kernel
theorem dX11_goes_12 : decode cX11_goes 12 = .ok (.invokestatic 71, 3) := by decide +kernel
theorem dX11_goes_15 : decode cX11_goes 15 = .ok (.istore_n 2, 1) := by decide +kernel
theorem dX11_goes_16 : decode cX11_goes 16 = .ok (.iload_n 2, 1) := by decide +kernel
theorem dX11_goes_17 : decode cX11_goes 17 = .ok (.bipush 118, 2) := by decide +kernel
theorem dX11_goes_19 : decode cX11_goes 19 = .ok (.if_icmp .ge 35, 3) := by decide +kernel
theorem dX11_goes_22 : decode cX11_goes 22 = .ok (.aload_n 0, 1) := by decide +kernel
theorem dX11_goes_23 : decode cX11_goes 23 = .ok (.getfield 16, 3) := by decide +kernel
theorem dX11_goes_26 : decode cX11_goes 26 = .ok (.iload_n 2, 1) := by decide +kernel
theorem dX11_goes_27 : decode cX11_goes 27 = .ok (.iload_n 2, 1) := by decide +kernel
theorem dX11_goes_28 : decode cX11_goes 28 = .ok (.iconst 4, 1) := by decide +kernel
theorem dX11_goes_29 : decode cX11_goes 29 = .ok (.iadd, 1) := by decide +kernel
theorem dX11_goes_30 : decode cX11_goes 30 = .ok (.bipush 118, 2) := by decide +kernel
theorem dX11_goes_32 : decode cX11_goes 32 = .ok (.if_icmp .ge 14, 3) := by decide +kernel
theorem dX11_goes_35 : decode cX11_goes 35 = .ok (.aload_n 0, 1) := by decide +kernel
theorem dX11_goes_36 : decode cX11_goes 36 = .ok (.getfield 16, 3) := by decide +kernel
theorem dX11_goes_39 : decode cX11_goes 39 = .ok (.iload_n 2, 1) := by decide +kernel
theorem dX11_goes_40 : decode cX11_goes 40 = .ok (.iconst 4, 1) := by decide +kernel
theorem dX11_goes_41 : decode cX11_goes 41 = .ok (.iadd, 1) := by decide +kernel
theorem dX11_goes_42 : decode cX11_goes 42 = .ok (.iaload, 1) := by decide +kernel
theorem dX11_goes_43 : decode cX11_goes 43 = .ok (.goto 4, 3) := by decide +kernel
theorem dX11_goes_46 : decode cX11_goes 46 = .ok (.iconst 0, 1) := by decide +kernel
theorem dX11_goes_47 : decode cX11_goes 47 = .ok (.iastore, 1) := by decide +kernel
theorem dX11_goes_48 : decode cX11_goes 48 = .ok (.iinc 2 1, 3) := by decide +kernel
theorem dX11_goes_51 : decode cX11_goes 51 = .ok (.goto (-35), 3) := by decide +kernel
theorem dX11_goes_54 : decode cX11_goes 54 = .ok (.aload_n 0, 1) := by decide +kernel
theorem dX11_goes_55 : decode cX11_goes 55 = .ok (.getfield 16, 3) := by decide +kernel
theorem dX11_goes_58 : decode cX11_goes 58 = .ok (.iconst 4, 1) := by decide +kernel
theorem dX11_goes_59 : decode cX11_goes 59 = .ok (.dup2, 1) := by decide +kernel
theorem dX11_goes_60 : decode cX11_goes 60 = .ok (.iaload, 1) := by decide +kernel
theorem dX11_goes_61 : decode cX11_goes 61 = .ok (.iconst 1, 1) := by decide +kernel
theorem dX11_goes_62 : decode cX11_goes 62 = .ok (.isub, 1) := by decide +kernel
theorem dX11_goes_63 : decode cX11_goes 63 = .ok (.iastore, 1) := by decide +kernel
theorem dX11_goes_64 : decode cX11_goes 64 = .ok (.aload_n 0, 1) := by decide +kernel
theorem dX11_goes_65 : decode cX11_goes 65 = .ok (.getfield 16, 3) := by decide +kernel
theorem dX11_goes_68 : decode cX11_goes 68 = .ok (.iconst 4, 1) := by decide +kernel
theorem dX11_goes_69 : decode cX11_goes 69 = .ok (.iaload, 1) := by decide +kernel
theorem dX11_goes_70 : decode cX11_goes 70 = .ok (.ireturn, 1) := by decide +kernel
theorem dX11_dropBatch_0 : decode cX11_dropBatch 0 = .ok (.aload_n 0, 1) := by decide +kernel
theorem dX11_dropBatch_1 : decode cX11_dropBatch 1 = .ok (.invokevirtual 78, 3) := by decide +kernel
theorem dX11_dropBatch_4 : decode cX11_dropBatch 4 = .ok (.aload_n 0, 1) := by decide +kernel
theorem dX11_dropBatch_5 : decode cX11_dropBatch 5 = .ok (.aload_n 0, 1) := by decide +kernel
theorem dX11_dropBatch_6 : decode cX11_dropBatch 6 = .ok (.aload_n 0, 1) := by decide +kernel
theorem dX11_dropBatch_7 : decode cX11_dropBatch 7 = .ok (.iload_n 1, 1) := by decide +kernel
theorem dX11_dropBatch_8 : decode cX11_dropBatch 8 = .ok (.invokevirtual 176, 3) := by decide +kernel
theorem dX11_dropBatch_11 : decode cX11_dropBatch 11 = .ok (.invokevirtual 179, 3) := by decide +kernel
theorem dX11_dropBatch_14 : decode cX11_dropBatch 14 = .ok (.invokevirtual 84, 3) := by decide +kernel
theorem dX11_dropBatch_17 : decode cX11_dropBatch 17 = .ok (.ireturn, 1) := by decide +kernel
theorem dX11_late_0 : decode cX11_late 0 = .ok (.iload_n 2, 1) := by decide +kernel
theorem dX11_late_1 : decode cX11_late 1 = .ok (.aload_n 0, 1) := by decide +kernel
theorem dX11_late_2 : decode cX11_late 2 = .ok (.getfield 16, 3) := by decide +kernel
theorem dX11_late_5 : decode cX11_late 5 = .ok (.iload_n 1, 1) := by decide +kernel
theorem dX11_late_6 : decode cX11_late 6 = .ok (.iconst 2, 1) := by decide +kernel
theorem dX11_late_7 : decode cX11_late 7 = .ok (.invokestatic 71, 3) := by decide +kernel
theorem dX11_late_10 : decode cX11_late 10 = .ok (.iaload, 1) := by decide +kernel
theorem dX11_late_11 : decode cX11_late 11 = .ok (.isub, 1) := by decide +kernel
theorem dX11_late_12 : decode cX11_late 12 = .ok (.istore_n 3, 1) := by decide +kernel
theorem dX11_late_13 : decode cX11_late 13 = .ok (.iload_n 3, 1) := by decide +kernel
theorem dX11_late_14 : decode cX11_late 14 = .ok (.ifCond .le 18, 3) := by decide +kernel
theorem dX11_late_17 : decode cX11_late 17 = .ok (.aload_n 0, 1) := by decide +kernel
theorem dX11_late_18 : decode cX11_late 18 = .ok (.getfield 16, 3) := by decide +kernel
theorem dX11_late_21 : decode cX11_late 21 = .ok (.iload_n 1, 1) := by decide +kernel
theorem dX11_late_22 : decode cX11_late 22 = .ok (.iconst 3, 1) := by decide +kernel
theorem dX11_late_23 : decode cX11_late 23 = .ok (.invokestatic 71, 3) := by decide +kernel
theorem dX11_late_26 : decode cX11_late 26 = .ok (.iaload, 1) := by decide +kernel
theorem dX11_late_27 : decode cX11_late 27 = .ok (.iload_n 3, 1) := by decide +kernel
theorem dX11_late_28 : decode cX11_late 28 = .ok (.imul, 1) := by decide +kernel
theorem dX11_late_29 : decode cX11_late 29 = .ok (.goto 4, 3) := by decide +kernel
theorem dX11_late_32 : decode cX11_late 32 = .ok (.iconst 0, 1) := by decide +kernel
theorem dX11_late_33 : decode cX11_late 33 = .ok (.ireturn, 1) := by decide +kernel
theorem dX11_bakes_0 : decode cX11_bakes 0 = .ok (.iload_n 1, 1) := by decide +kernel
theorem dX11_bakes_1 : decode cX11_bakes 1 = .ok (.ifCond .ge 9, 3) := by decide +kernel
theorem dX11_bakes_4 : decode cX11_bakes 4 = .ok (.aload_n 0, 1) := by decide +kernel
theorem dX11_bakes_5 : decode cX11_bakes 5 = .ok (.iconst 1, 1) := by decide +kernel
theorem dX11_bakes_6 : decode cX11_bakes 6 = .ok (.invokevirtual 74, 3) := by decide +kernel
theorem dX11_bakes_9 : decode cX11_bakes 9 = .ok (.ireturn, 1) := by decide +kernel
theorem dX11_bakes_10 : decode cX11_bakes 10 = .ok (.aload_n 0, 1) := by decide +kernel
theorem dX11_bakes_11 : decode cX11_bakes 11 = .ok (.getfield 16, 3) := by decide +kernel
theorem dX11_bakes_14 : decode cX11_bakes 14 = .ok (.iconst 2, 1) := by decide +kernel
theorem dX11_bakes_15 : decode cX11_bakes 15 = .ok (.dup2, 1) := by decide +kernel
theorem dX11_bakes_16 : decode cX11_bakes 16 = .ok (.iaload, 1) := by decide +kernel
theorem dX11_bakes_17 : decode cX11_bakes 17 = .ok (.aload_n 0, 1) := by decide +kernel
theorem dX11_bakes_18 : decode cX11_bakes 18 = .ok (.getfield 16, 3) := by decide +kernel
theorem dX11_bakes_21 : decode cX11_bakes 21 = .ok (.iload_n 1, 1) := by decide +kernel
theorem dX11_bakes_22 : decode cX11_bakes 22 = .ok (.iconst 1, 1) := by decide +kernel
theorem dX11_bakes_23 : decode cX11_bakes 23 = .ok (.invokestatic 71, 3) := by decide +kernel
theorem dX11_bakes_26 : decode cX11_bakes 26 = .ok (.iaload, 1) := by decide +kernel
theorem dX11_bakes_27 : decode cX11_bakes 27 = .ok (.iadd, 1) := by decide +kernel
theorem dX11_bakes_28 : decode cX11_bakes 28 = .ok (.iastore, 1) := by decide +kernel
theorem dX11_bakes_29 : decode cX11_bakes 29 = .ok (.aload_n 0, 1) := by decide +kernel
theorem dX11_bakes_30 : decode cX11_bakes 30 = .ok (.getfield 16, 3) := by decide +kernel
theorem dX11_bakes_33 : decode cX11_bakes 33 = .ok (.bipush 6, 2) := by decide +kernel
theorem dX11_bakes_35 : decode cX11_bakes 35 = .ok (.dup2, 1) := by decide +kernel
theorem dX11_bakes_36 : decode cX11_bakes 36 = .ok (.iaload, 1) := by decide +kernel
theorem dX11_bakes_37 : decode cX11_bakes 37 = .ok (.aload_n 0, 1) := by decide +kernel
theorem dX11_bakes_38 : decode cX11_bakes 38 = .ok (.getfield 16, 3) := by decide +kernel
theorem dX11_bakes_41 : decode cX11_bakes 41 = .ok (.iload_n 1, 1) := by decide +kernel
theorem dX11_bakes_42 : decode cX11_bakes 42 = .ok (.iconst 1, 1) := by decide +kernel
theorem dX11_bakes_43 : decode cX11_bakes 43 = .ok (.invokestatic 71, 3) := by decide +kernel
theorem dX11_bakes_46 : decode cX11_bakes 46 = .ok (.iaload, 1) := by decide +kernel
theorem dX11_bakes_47 : decode cX11_bakes 47 = .ok (.iadd, 1) := by decide +kernel
theorem dX11_bakes_48 : decode cX11_bakes 48 = .ok (.iastore, 1) := by decide +kernel
theorem dX11_bakes_49 : decode cX11_bakes 49 = .ok (.aload_n 0, 1) := by decide +kernel
theorem dX11_bakes_50 : decode cX11_bakes 50 = .ok (.getfield 16, 3) := by decide +kernel
theorem dX11_bakes_53 : decode cX11_bakes 53 = .ok (.iconst 5, 1) := by decide +kernel
theorem dX11_bakes_54 : decode cX11_bakes 54 = .ok (.dup2, 1) := by decide +kernel
theorem dX11_bakes_55 : decode cX11_bakes 55 = .ok (.iaload, 1) := by decide +kernel
theorem dX11_bakes_56 : decode cX11_bakes 56 = .ok (.iconst 1, 1) := by decide +kernel
theorem dX11_bakes_57 : decode cX11_bakes 57 = .ok (.iadd, 1) := by decide +kernel
theorem dX11_bakes_58 : decode cX11_bakes 58 = .ok (.iastore, 1) := by decide +kernel
theorem dX11_bakes_59 : decode cX11_bakes 59 = .ok (.aload_n 0, 1) := by decide +kernel
theorem dX11_bakes_60 : decode cX11_bakes 60 = .ok (.iload_n 1, 1) := by decide +kernel
theorem dX11_bakes_61 : decode cX11_bakes 61 = .ok (.aload_n 0, 1) := by decide +kernel
theorem dX11_bakes_62 : decode cX11_bakes 62 = .ok (.getfield 16, 3) := by decide +kernel
theorem dX11_bakes_65 : decode cX11_bakes 65 = .ok (.iconst 2, 1) := by decide +kernel
theorem dX11_bakes_66 : decode cX11_bakes 66 = .ok (.iaload, 1) := by decide +kernel
theorem dX11_bakes_67 : decode cX11_bakes 67 = .ok (.invokevirtual 182, 3) := by decide +kernel
theorem dX11_bakes_70 : decode cX11_bakes 70 = .ok (.istore_n 2, 1) := by decide +kernel
theorem dX11_bakes_71 : decode cX11_bakes 71 = .ok (.aload_n 0, 1) := by decide +kernel
theorem dX11_bakes_72 : decode cX11_bakes 72 = .ok (.getfield 16, 3) := by decide +kernel
theorem dX11_bakes_75 : decode cX11_bakes 75 = .ok (.bipush 7, 2) := by decide +kernel
theorem dX11_bakes_77 : decode cX11_bakes 77 = .ok (.iaload, 1) := by decide +kernel
theorem dX11_bakes_78 : decode cX11_bakes 78 = .ok (.iload_n 2, 1) := by decide +kernel
theorem dX11_bakes_79 : decode cX11_bakes 79 = .ok (.iadd, 1) := by decide +kernel
theorem dX11_bakes_80 : decode cX11_bakes 80 = .ok (.istore_n 3, 1) := by decide +kernel
theorem dX11_bakes_81 : decode cX11_bakes 81 = .ok (.aload_n 0, 1) := by decide +kernel
theorem dX11_bakes_82 : decode cX11_bakes 82 = .ok (.getfield 16, 3) := by decide +kernel
theorem dX11_bakes_85 : decode cX11_bakes 85 = .ok (.bipush 8, 2) := by decide +kernel
theorem dX11_bakes_87 : decode cX11_bakes 87 = .ok (.dup2, 1) := by decide +kernel
theorem dX11_bakes_88 : decode cX11_bakes 88 = .ok (.iaload, 1) := by decide +kernel
theorem dX11_bakes_89 : decode cX11_bakes 89 = .ok (.iload_n 3, 1) := by decide +kernel
theorem dX11_bakes_90 : decode cX11_bakes 90 = .ok (.ldc 185, 2) := by decide +kernel
theorem dX11_bakes_92 : decode cX11_bakes 92 = .ok (.idiv, 1) := by decide +kernel
theorem dX11_bakes_93 : decode cX11_bakes 93 = .ok (.iadd, 1) := by decide +kernel
theorem dX11_bakes_94 : decode cX11_bakes 94 = .ok (.iastore, 1) := by decide +kernel
theorem dX11_bakes_95 : decode cX11_bakes 95 = .ok (.aload_n 0, 1) := by decide +kernel
theorem dX11_bakes_96 : decode cX11_bakes 96 = .ok (.getfield 16, 3) := by decide +kernel
theorem dX11_bakes_99 : decode cX11_bakes 99 = .ok (.bipush 7, 2) := by decide +kernel
theorem dX11_bakes_101 : decode cX11_bakes 101 = .ok (.iload_n 3, 1) := by decide +kernel
theorem dX11_bakes_102 : decode cX11_bakes 102 = .ok (.ldc 185, 2) := by decide +kernel
theorem dX11_bakes_104 : decode cX11_bakes 104 = .ok (.irem, 1) := by decide +kernel
theorem dX11_bakes_105 : decode cX11_bakes 105 = .ok (.iastore, 1) := by decide +kernel
theorem dX11_bakes_106 : decode cX11_bakes 106 = .ok (.aload_n 0, 1) := by decide +kernel
theorem dX11_bakes_107 : decode cX11_bakes 107 = .ok (.iload_n 1, 1) := by decide +kernel
theorem dX11_bakes_108 : decode cX11_bakes 108 = .ok (.invokevirtual 179, 3) := by decide +kernel
theorem dX11_bakes_111 : decode cX11_bakes 111 = .ok (.istore 4, 2) := by decide +kernel
theorem dX11_bakes_113 : decode cX11_bakes 113 = .ok (.iload_n 2, 1) := by decide +kernel
theorem dX11_bakes_114 : decode cX11_bakes 114 = .ok (.ireturn, 1) := by decide +kernel
theorem dX11_bake_0 : decode cX11_bake 0 = .ok (.aload_n 0, 1) := by decide +kernel
theorem dX11_bake_1 : decode cX11_bake 1 = .ok (.invokevirtual 78, 3) := by decide +kernel
theorem dX11_bake_4 : decode cX11_bake 4 = .ok (.aload_n 0, 1) := by decide +kernel
theorem dX11_bake_5 : decode cX11_bake 5 = .ok (.aload_n 0, 1) := by decide +kernel
theorem dX11_bake_6 : decode cX11_bake 6 = .ok (.aload_n 0, 1) := by decide +kernel
theorem dX11_bake_7 : decode cX11_bake 7 = .ok (.iload_n 1, 1) := by decide +kernel
theorem dX11_bake_8 : decode cX11_bake 8 = .ok (.invokevirtual 176, 3) := by decide +kernel
theorem dX11_bake_11 : decode cX11_bake 11 = .ok (.invokevirtual 186, 3) := by decide +kernel
theorem dX11_bake_14 : decode cX11_bake 14 = .ok (.invokevirtual 84, 3) := by decide +kernel
theorem dX11_bake_17 : decode cX11_bake 17 = .ok (.ireturn, 1) := by decide +kernel
theorem dX11_rests_0 : decode cX11_rests 0 = .ok (.iload_n 1, 1) := by decide +kernel
theorem dX11_rests_1 : decode cX11_rests 1 = .ok (.iconst 1, 1) := by decide +kernel
theorem dX11_rests_2 : decode cX11_rests 2 = .ok (.bipush 60, 2) := by decide +kernel
theorem dX11_rests_4 : decode cX11_rests 4 = .ok (.invokestatic 63, 3) := by decide +kernel
theorem dX11_rests_7 : decode cX11_rests 7 = .ok (.ifCond .ne 9, 3) := by decide +kernel
theorem dX11_rests_10 : decode cX11_rests 10 = .ok (.aload_n 0, 1) := by decide +kernel
theorem dX11_rests_11 : decode cX11_rests 11 = .ok (.iconst 1, 1) := by decide +kernel
theorem dX11_rests_12 : decode cX11_rests 12 = .ok (.invokevirtual 74, 3) := by decide +kernel
theorem dX11_rests_15 : decode cX11_rests 15 = .ok (.ireturn, 1) := by decide +kernel
theorem dX11_rests_16 : decode cX11_rests 16 = .ok (.aload_n 0, 1) := by decide +kernel
theorem dX11_rests_17 : decode cX11_rests 17 = .ok (.getfield 16, 3) := by decide +kernel
theorem dX11_rests_20 : decode cX11_rests 20 = .ok (.iconst 2, 1) := by decide +kernel
theorem dX11_rests_21 : decode cX11_rests 21 = .ok (.dup2, 1) := by decide +kernel
theorem dX11_rests_22 : decode cX11_rests 22 = .ok (.iaload, 1) := by decide +kernel
theorem dX11_rests_23 : decode cX11_rests 23 = .ok (.iload_n 1, 1) := by decide +kernel
theorem dX11_rests_24 : decode cX11_rests 24 = .ok (.iadd, 1) := by decide +kernel
theorem dX11_rests_25 : decode cX11_rests 25 = .ok (.iastore, 1) := by decide +kernel
theorem dX11_rests_26 : decode cX11_rests 26 = .ok (.aload_n 0, 1) := by decide +kernel
theorem dX11_rests_27 : decode cX11_rests 27 = .ok (.getfield 16, 3) := by decide +kernel
theorem dX11_rests_30 : decode cX11_rests 30 = .ok (.iconst 2, 1) := by decide +kernel
theorem dX11_rests_31 : decode cX11_rests 31 = .ok (.iaload, 1) := by decide +kernel
theorem dX11_rests_32 : decode cX11_rests 32 = .ok (.ireturn, 1) := by decide +kernel
theorem dX11_rest_0 : decode cX11_rest 0 = .ok (.aload_n 0, 1) := by decide +kernel
theorem dX11_rest_1 : decode cX11_rest 1 = .ok (.invokevirtual 78, 3) := by decide +kernel
theorem dX11_rest_4 : decode cX11_rest 4 = .ok (.aload_n 0, 1) := by decide +kernel
theorem dX11_rest_5 : decode cX11_rest 5 = .ok (.aload_n 0, 1) := by decide +kernel
theorem dX11_rest_6 : decode cX11_rest 6 = .ok (.iload_n 1, 1) := by decide +kernel
theorem dX11_rest_7 : decode cX11_rest 7 = .ok (.invokevirtual 189, 3) := by decide +kernel
theorem dX11_rest_10 : decode cX11_rest 10 = .ok (.invokevirtual 84, 3) := by decide +kernel
theorem dX11_rest_13 : decode cX11_rest 13 = .ok (.ireturn, 1) := by decide +kernel
theorem dX11_clock_0 : decode cX11_clock 0 = .ok (.aload_n 0, 1) := by decide +kernel
theorem dX11_clock_1 : decode cX11_clock 1 = .ok (.iconst 2, 1) := by decide +kernel
theorem dX11_clock_2 : decode cX11_clock 2 = .ok (.invokevirtual 123, 3) := by decide +kernel
theorem dX11_clock_5 : decode cX11_clock 5 = .ok (.ireturn, 1) := by decide +kernel
theorem dX11_batchCount_0 : decode cX11_batchCount 0 = .ok (.aload_n 0, 1) := by decide +kernel
theorem dX11_batchCount_1 : decode cX11_batchCount 1 = .ok (.iconst 4, 1) := by decide +kernel
theorem dX11_batchCount_2 : decode cX11_batchCount 2 = .ok (.invokevirtual 123, 3) := by decide +kernel
theorem dX11_batchCount_5 : decode cX11_batchCount 5 = .ok (.ireturn, 1) := by decide +kernel
theorem dX11_batchAt_0 : decode cX11_batchAt 0 = .ok (.aload_n 0, 1) := by decide +kernel
theorem dX11_batchAt_1 : decode cX11_batchAt 1 = .ok (.iload_n 1, 1) := by decide +kernel
theorem dX11_batchAt_2 : decode cX11_batchAt 2 = .ok (.iconst 0, 1) := by decide +kernel
theorem dX11_batchAt_3 : decode cX11_batchAt 3 = .ok (.aload_n 0, 1) := by decide +kernel
theorem dX11_batchAt_4 : decode cX11_batchAt 4 = .ok (.getfield 16, 3) := by decide +kernel
theorem dX11_batchAt_7 : decode cX11_batchAt 7 = .ok (.iconst 4, 1) := by decide +kernel
theorem dX11_batchAt_8 : decode cX11_batchAt 8 = .ok (.iaload, 1) := by decide +kernel
theorem dX11_batchAt_9 : decode cX11_batchAt 9 = .ok (.iconst 1, 1) := by decide +kernel
theorem dX11_batchAt_10 : decode cX11_batchAt 10 = .ok (.isub, 1) := by decide +kernel
theorem dX11_batchAt_11 : decode cX11_batchAt 11 = .ok (.invokestatic 63, 3) := by decide +kernel
theorem dX11_batchAt_14 : decode cX11_batchAt 14 = .ok (.ifCond .eq 7, 3) := by decide +kernel
theorem dX11_batchAt_17 : decode cX11_batchAt 17 = .ok (.iconst 0, 1) := by decide +kernel
theorem dX11_batchAt_18 : decode cX11_batchAt 18 = .ok (.goto 4, 3) := by decide +kernel
theorem dX11_batchAt_21 : decode cX11_batchAt 21 = .ok (.iconst 1, 1) := by decide +kernel
theorem dX11_batchAt_22 : decode cX11_batchAt 22 = .ok (.putfield 53, 3) := by decide +kernel
theorem dX11_batchAt_25 : decode cX11_batchAt 25 = .ok (.aload_n 0, 1) := by decide +kernel
theorem dX11_batchAt_26 : decode cX11_batchAt 26 = .ok (.getfield 53, 3) := by decide +kernel
theorem dX11_batchAt_29 : decode cX11_batchAt 29 = .ok (.ifCond .ne 16, 3) := by decide +kernel
theorem dX11_batchAt_32 : decode cX11_batchAt 32 = .ok (.aload_n 0, 1) := by decide +kernel
theorem dX11_batchAt_33 : decode cX11_batchAt 33 = .ok (.getfield 16, 3) := by decide +kernel
theorem dX11_batchAt_36 : decode cX11_batchAt 36 = .ok (.iload_n 1, 1) := by decide +kernel
theorem dX11_batchAt_37 : decode cX11_batchAt 37 = .ok (.iconst 0, 1) := by decide +kernel
theorem dX11_batchAt_38 : decode cX11_batchAt 38 = .ok (.invokestatic 71, 3) := by decide +kernel
theorem dX11_batchAt_41 : decode cX11_batchAt 41 = .ok (.iaload, 1) := by decide +kernel
theorem dX11_batchAt_42 : decode cX11_batchAt 42 = .ok (.goto 4, 3) := by decide +kernel
theorem dX11_batchAt_45 : decode cX11_batchAt 45 = .ok (.iconst 0, 1) := by decide +kernel
theorem dX11_batchAt_46 : decode cX11_batchAt 46 = .ok (.ireturn, 1) := by decide +kernel
theorem dX11_now_0 : decode cX11_now 0 = .ok (.aload_n 0, 1) := by decide +kernel
theorem dX11_now_1 : decode cX11_now 1 = .ok (.iload_n 1, 1) := by decide +kernel
theorem dX11_now_2 : decode cX11_now 2 = .ok (.aload_n 0, 1) := by decide +kernel
theorem dX11_now_3 : decode cX11_now 3 = .ok (.getfield 16, 3) := by decide +kernel
theorem dX11_now_6 : decode cX11_now 6 = .ok (.iconst 2, 1) := by decide +kernel
theorem dX11_now_7 : decode cX11_now 7 = .ok (.iaload, 1) := by decide +kernel
theorem dX11_now_8 : decode cX11_now 8 = .ok (.aload_n 0, 1) := by decide +kernel
theorem dX11_now_9 : decode cX11_now 9 = .ok (.getfield 16, 3) := by decide +kernel
theorem dX11_now_12 : decode cX11_now 12 = .ok (.iload_n 1, 1) := by decide +kernel
theorem dX11_now_13 : decode cX11_now 13 = .ok (.iconst 1, 1) := by decide +kernel
theorem dX11_now_14 : decode cX11_now 14 = .ok (.invokestatic 71, 3) := by decide +kernel
theorem dX11_now_17 : decode cX11_now 17 = .ok (.iaload, 1) := by decide +kernel
theorem dX11_now_18 : decode cX11_now 18 = .ok (.iadd, 1) := by decide +kernel
theorem dX11_now_19 : decode cX11_now 19 = .ok (.invokevirtual 182, 3) := by decide +kernel
theorem dX11_now_22 : decode cX11_now 22 = .ok (.ireturn, 1) := by decide +kernel
theorem dX11_latenessNow_0 : decode cX11_latenessNow 0 = .ok (.aload_n 0, 1) := by decide +kernel
theorem dX11_latenessNow_1 : decode cX11_latenessNow 1 = .ok (.aload_n 0, 1) := by decide +kernel
theorem dX11_latenessNow_2 : decode cX11_latenessNow 2 = .ok (.iload_n 1, 1) := by decide +kernel
theorem dX11_latenessNow_3 : decode cX11_latenessNow 3 = .ok (.invokevirtual 176, 3) := by decide +kernel
theorem dX11_latenessNow_6 : decode cX11_latenessNow 6 = .ok (.ifCond .ge 7, 3) := by decide +kernel
theorem dX11_latenessNow_9 : decode cX11_latenessNow 9 = .ok (.iconst 1, 1) := by decide +kernel
theorem dX11_latenessNow_10 : decode cX11_latenessNow 10 = .ok (.goto 4, 3) := by decide +kernel
theorem dX11_latenessNow_13 : decode cX11_latenessNow 13 = .ok (.iconst 0, 1) := by decide +kernel
theorem dX11_latenessNow_14 : decode cX11_latenessNow 14 = .ok (.putfield 53, 3) := by decide +kernel
theorem dX11_latenessNow_17 : decode cX11_latenessNow 17 = .ok (.aload_n 0, 1) := by decide +kernel
theorem dX11_latenessNow_18 : decode cX11_latenessNow 18 = .ok (.getfield 53, 3) := by decide +kernel
theorem dX11_latenessNow_21 : decode cX11_latenessNow 21 = .ok (.ifCond .ne 15, 3) := by decide +kernel
theorem dX11_latenessNow_24 : decode cX11_latenessNow 24 = .ok (.aload_n 0, 1) := by decide +kernel
theorem dX11_latenessNow_25 : decode cX11_latenessNow 25 = .ok (.aload_n 0, 1) := by decide +kernel
theorem dX11_latenessNow_26 : decode cX11_latenessNow 26 = .ok (.iload_n 1, 1) := by decide +kernel
theorem dX11_latenessNow_27 : decode cX11_latenessNow 27 = .ok (.invokevirtual 176, 3) := by decide +kernel
theorem dX11_latenessNow_30 : decode cX11_latenessNow 30 = .ok (.invokevirtual 192, 3) := by decide +kernel
theorem dX11_latenessNow_33 : decode cX11_latenessNow 33 = .ok (.goto 4, 3) := by decide +kernel
theorem dX11_latenessNow_36 : decode cX11_latenessNow 36 = .ok (.iconst 0, 1) := by decide +kernel
theorem dX11_latenessNow_37 : decode cX11_latenessNow 37 = .ok (.ireturn, 1) := by decide +kernel
theorem dX11_orders_0 : decode cX11_orders 0 = .ok (.iconst 1, 1) := by decide +kernel
theorem dX11_orders_1 : decode cX11_orders 1 = .ok (.aload_n 0, 1) := by decide +kernel
theorem dX11_orders_2 : decode cX11_orders 2 = .ok (.getfield 16, 3) := by decide +kernel
theorem dX11_orders_5 : decode cX11_orders 5 = .ok (.iconst 4, 1) := by decide +kernel
theorem dX11_orders_6 : decode cX11_orders 6 = .ok (.iaload, 1) := by decide +kernel
theorem dX11_orders_7 : decode cX11_orders 7 = .ok (.ishl, 1) := by decide +kernel
theorem dX11_orders_8 : decode cX11_orders 8 = .ok (.iconst 1, 1) := by decide +kernel
theorem dX11_orders_9 : decode cX11_orders 9 = .ok (.isub, 1) := by decide +kernel
theorem dX11_orders_10 : decode cX11_orders 10 = .ok (.istore_n 1, 1) := by decide +kernel
theorem dX11_orders_11 : decode cX11_orders 11 = .ok (.aload_n 0, 1) := by decide +kernel
theorem dX11_orders_12 : decode cX11_orders 12 = .ok (.getfield 32, 3) := by decide +kernel
theorem dX11_orders_15 : decode cX11_orders 15 = .ok (.iconst 0, 1) := by decide +kernel
theorem dX11_orders_16 : decode cX11_orders 16 = .ok (.iconst 0, 1) := by decide +kernel
theorem dX11_orders_17 : decode cX11_orders 17 = .ok (.iastore, 1) := by decide +kernel
theorem dX11_orders_18 : decode cX11_orders 18 = .ok (.iconst 1, 1) := by decide +kernel
theorem dX11_orders_19 : decode cX11_orders 19 = .ok (.istore_n 2, 1) := by decide +kernel
theorem dX11_orders_20 : decode cX11_orders 20 = .ok (.iload_n 2, 1) := by decide +kernel
theorem dX11_orders_21 : decode cX11_orders 21 = .ok (.iload_n 1, 1) := by decide +kernel
theorem dX11_orders_22 : decode cX11_orders 22 = .ok (.if_icmp .gt 157, 3) := by decide +kernel
theorem dX11_orders_25 : decode cX11_orders 25 = .ok (.aload_n 0, 1) := by decide +kernel
theorem dX11_orders_26 : decode cX11_orders 26 = .ok (.getfield 16, 3) := by decide +kernel
theorem dX11_orders_29 : decode cX11_orders 29 = .ok (.iconst 2, 1) := by decide +kernel
theorem dX11_orders_30 : decode cX11_orders 30 = .ok (.iaload, 1) := by decide +kernel
theorem dX11_orders_31 : decode cX11_orders 31 = .ok (.istore_n 3, 1) := by decide +kernel
theorem dX11_orders_32 : decode cX11_orders 32 = .ok (.iconst 0, 1) := by decide +kernel
theorem dX11_orders_33 : decode cX11_orders 33 = .ok (.istore 4, 2) := by decide +kernel
theorem dX11_orders_35 : decode cX11_orders 35 = .ok (.iload 4, 2) := by decide +kernel
theorem dX11_orders_37 : decode cX11_orders 37 = .ok (.aload_n 0, 1) := by decide +kernel
theorem dX11_orders_38 : decode cX11_orders 38 = .ok (.getfield 16, 3) := by decide +kernel
theorem dX11_orders_41 : decode cX11_orders 41 = .ok (.iconst 4, 1) := by decide +kernel
theorem dX11_orders_42 : decode cX11_orders 42 = .ok (.iaload, 1) := by decide +kernel
theorem dX11_orders_43 : decode cX11_orders 43 = .ok (.if_icmp .ge 36, 3) := by decide +kernel
theorem dX11_orders_46 : decode cX11_orders 46 = .ok (.iload_n 3, 1) := by decide +kernel
theorem dX11_orders_47 : decode cX11_orders 47 = .ok (.iload_n 2, 1) := by decide +kernel
theorem dX11_orders_48 : decode cX11_orders 48 = .ok (.iload 4, 2) := by decide +kernel
theorem dX11_orders_50 : decode cX11_orders 50 = .ok (.ishr, 1) := by decide +kernel
theorem dX11_orders_51 : decode cX11_orders 51 = .ok (.iconst 1, 1) := by decide +kernel
theorem dX11_orders_52 : decode cX11_orders 52 = .ok (.iand, 1) := by decide +kernel
theorem dX11_orders_53 : decode cX11_orders 53 = .ok (.ifCond .ne 17, 3) := by decide +kernel
theorem dX11_orders_56 : decode cX11_orders 56 = .ok (.aload_n 0, 1) := by decide +kernel
theorem dX11_orders_57 : decode cX11_orders 57 = .ok (.getfield 16, 3) := by decide +kernel
theorem dX11_orders_60 : decode cX11_orders 60 = .ok (.iload 4, 2) := by decide +kernel
theorem dX11_orders_62 : decode cX11_orders 62 = .ok (.iconst 1, 1) := by decide +kernel
theorem dX11_orders_63 : decode cX11_orders 63 = .ok (.invokestatic 71, 3) := by decide +kernel
theorem dX11_orders_66 : decode cX11_orders 66 = .ok (.iaload, 1) := by decide +kernel
theorem dX11_orders_67 : decode cX11_orders 67 = .ok (.goto 4, 3) := by decide +kernel
theorem dX11_orders_70 : decode cX11_orders 70 = .ok (.iconst 0, 1) := by decide +kernel
theorem dX11_orders_71 : decode cX11_orders 71 = .ok (.iadd, 1) := by decide +kernel
theorem dX11_orders_72 : decode cX11_orders 72 = .ok (.istore_n 3, 1) := by decide +kernel
theorem dX11_orders_73 : decode cX11_orders 73 = .ok (.iinc 4 1, 3) := by decide +kernel
theorem dX11_orders_76 : decode cX11_orders 76 = .ok (.goto (-41), 3) := by decide +kernel
theorem dX11_orders_79 : decode cX11_orders 79 = .ok (.aload_n 0, 1) := by decide +kernel
theorem dX11_orders_80 : decode cX11_orders 80 = .ok (.getfield 32, 3) := by decide +kernel
theorem dX11_orders_83 : decode cX11_orders 83 = .ok (.iload_n 2, 1) := by decide +kernel
theorem dX11_orders_84 : decode cX11_orders 84 = .ok (.ldc 160, 2) := by decide +kernel
theorem dX11_orders_86 : decode cX11_orders 86 = .ok (.iastore, 1) := by decide +kernel
theorem dX11_orders_87 : decode cX11_orders 87 = .ok (.iconst 0, 1) := by decide +kernel
theorem dX11_orders_88 : decode cX11_orders 88 = .ok (.istore 4, 2) := by decide +kernel
theorem dX11_orders_90 : decode cX11_orders 90 = .ok (.iload 4, 2) := by decide +kernel
theorem dX11_orders_92 : decode cX11_orders 92 = .ok (.aload_n 0, 1) := by decide +kernel
theorem dX11_orders_93 : decode cX11_orders 93 = .ok (.getfield 16, 3) := by decide +kernel
theorem dX11_orders_96 : decode cX11_orders 96 = .ok (.iconst 4, 1) := by decide +kernel
theorem dX11_orders_97 : decode cX11_orders 97 = .ok (.iaload, 1) := by decide +kernel
theorem dX11_orders_98 : decode cX11_orders 98 = .ok (.if_icmp .ge 75, 3) := by decide +kernel
theorem dX11_orders_101 : decode cX11_orders 101 = .ok (.iload_n 2, 1) := by decide +kernel
theorem dX11_orders_102 : decode cX11_orders 102 = .ok (.iload 4, 2) := by decide +kernel
theorem dX11_orders_104 : decode cX11_orders 104 = .ok (.ishr, 1) := by decide +kernel
theorem dX11_orders_105 : decode cX11_orders 105 = .ok (.iconst 1, 1) := by decide +kernel
theorem dX11_orders_106 : decode cX11_orders 106 = .ok (.iand, 1) := by decide +kernel
theorem dX11_orders_107 : decode cX11_orders 107 = .ok (.ifCond .ne 6, 3) := by decide +kernel
theorem dX11_orders_110 : decode cX11_orders 110 = .ok (.goto 57, 3) := by decide +kernel
theorem dX11_orders_113 : decode cX11_orders 113 = .ok (.aload_n 0, 1) := by decide +kernel
theorem dX11_orders_114 : decode cX11_orders 114 = .ok (.iload 4, 2) := by decide +kernel
theorem dX11_orders_116 : decode cX11_orders 116 = .ok (.iload_n 3, 1) := by decide +kernel
theorem dX11_orders_117 : decode cX11_orders 117 = .ok (.aload_n 0, 1) := by decide +kernel
theorem dX11_orders_118 : decode cX11_orders 118 = .ok (.getfield 16, 3) := by decide +kernel
theorem dX11_orders_121 : decode cX11_orders 121 = .ok (.iload 4, 2) := by decide +kernel
theorem dX11_orders_123 : decode cX11_orders 123 = .ok (.iconst 1, 1) := by decide +kernel
theorem dX11_orders_124 : decode cX11_orders 124 = .ok (.invokestatic 71, 3) := by decide +kernel
theorem dX11_orders_127 : decode cX11_orders 127 = .ok (.iaload, 1) := by decide +kernel
theorem dX11_orders_128 : decode cX11_orders 128 = .ok (.iadd, 1) := by decide +kernel
theorem dX11_orders_129 : decode cX11_orders 129 = .ok (.invokevirtual 182, 3) := by decide +kernel
theorem dX11_orders_132 : decode cX11_orders 132 = .ok (.aload_n 0, 1) := by decide +kernel
theorem dX11_orders_133 : decode cX11_orders 133 = .ok (.getfield 32, 3) := by decide +kernel
theorem dX11_orders_136 : decode cX11_orders 136 = .ok (.iload_n 2, 1) := by decide +kernel
theorem dX11_orders_137 : decode cX11_orders 137 = .ok (.iconst 1, 1) := by decide +kernel
theorem dX11_orders_138 : decode cX11_orders 138 = .ok (.iload 4, 2) := by decide +kernel
theorem dX11_orders_140 : decode cX11_orders 140 = .ok (.ishl, 1) := by decide +kernel
theorem dX11_orders_141 : decode cX11_orders 141 = .ok (.iconst (-1), 1) := by decide +kernel
theorem dX11_orders_142 : decode cX11_orders 142 = .ok (.ixor, 1) := by decide +kernel
theorem dX11_orders_143 : decode cX11_orders 143 = .ok (.iand, 1) := by decide +kernel
theorem dX11_orders_144 : decode cX11_orders 144 = .ok (.iaload, 1) := by decide +kernel
theorem dX11_orders_145 : decode cX11_orders 145 = .ok (.iadd, 1) := by decide +kernel
theorem dX11_orders_146 : decode cX11_orders 146 = .ok (.istore 5, 2) := by decide +kernel
theorem dX11_orders_148 : decode cX11_orders 148 = .ok (.iload 5, 2) := by decide +kernel
theorem dX11_orders_150 : decode cX11_orders 150 = .ok (.aload_n 0, 1) := by decide +kernel
theorem dX11_orders_151 : decode cX11_orders 151 = .ok (.getfield 32, 3) := by decide +kernel
theorem dX11_orders_154 : decode cX11_orders 154 = .ok (.iload_n 2, 1) := by decide +kernel
theorem dX11_orders_155 : decode cX11_orders 155 = .ok (.iaload, 1) := by decide +kernel
theorem dX11_orders_156 : decode cX11_orders 156 = .ok (.if_icmp .ge 11, 3) := by decide +kernel
theorem dX11_orders_159 : decode cX11_orders 159 = .ok (.aload_n 0, 1) := by decide +kernel
theorem dX11_orders_160 : decode cX11_orders 160 = .ok (.getfield 32, 3) := by decide +kernel
theorem dX11_orders_163 : decode cX11_orders 163 = .ok (.iload_n 2, 1) := by decide +kernel
theorem dX11_orders_164 : decode cX11_orders 164 = .ok (.iload 5, 2) := by decide +kernel
theorem dX11_orders_166 : decode cX11_orders 166 = .ok (.iastore, 1) := by decide +kernel
theorem dX11_orders_167 : decode cX11_orders 167 = .ok (.iinc 4 1, 3) := by decide +kernel
theorem dX11_orders_170 : decode cX11_orders 170 = .ok (.goto (-80), 3) := by decide +kernel
theorem dX11_orders_173 : decode cX11_orders 173 = .ok (.iinc 2 1, 3) := by decide +kernel
theorem dX11_orders_176 : decode cX11_orders 176 = .ok (.goto (-156), 3) := by decide +kernel
theorem dX11_orders_179 : decode cX11_orders 179 = .ok (.return_, 1) := by decide +kernel
theorem dX11_leastLateness_0 : decode cX11_leastLateness 0 = .ok (.aload_n 0, 1) := by decide +kernel
theorem dX11_leastLateness_1 : decode cX11_leastLateness 1 = .ok (.iconst 0, 1) := by decide +kernel
theorem dX11_leastLateness_2 : decode cX11_leastLateness 2 = .ok (.putfield 53, 3) := by decide +kernel
theorem dX11_leastLateness_5 : decode cX11_leastLateness 5 = .ok (.aload_n 0, 1) := by decide +kernel
theorem dX11_leastLateness_6 : decode cX11_leastLateness 6 = .ok (.invokevirtual 195, 3) := by decide +kernel
theorem dX11_leastLateness_9 : decode cX11_leastLateness 9 = .ok (.aload_n 0, 1) := by decide +kernel
theorem dX11_leastLateness_10 : decode cX11_leastLateness 10 = .ok (.getfield 32, 3) := by decide +kernel
theorem dX11_leastLateness_13 : decode cX11_leastLateness 13 = .ok (.iconst 1, 1) := by decide +kernel
theorem dX11_leastLateness_14 : decode cX11_leastLateness 14 = .ok (.aload_n 0, 1) := by decide +kernel
theorem dX11_leastLateness_15 : decode cX11_leastLateness 15 = .ok (.getfield 16, 3) := by decide +kernel
theorem dX11_leastLateness_18 : decode cX11_leastLateness 18 = .ok (.iconst 4, 1) := by decide +kernel
theorem dX11_leastLateness_19 : decode cX11_leastLateness 19 = .ok (.iaload, 1) := by decide +kernel
theorem dX11_leastLateness_20 : decode cX11_leastLateness 20 = .ok (.ishl, 1) := by decide +kernel
theorem dX11_leastLateness_21 : decode cX11_leastLateness 21 = .ok (.iconst 1, 1) := by decide +kernel
theorem dX11_leastLateness_22 : decode cX11_leastLateness 22 = .ok (.isub, 1) := by decide +kernel
theorem dX11_leastLateness_23 : decode cX11_leastLateness 23 = .ok (.iaload, 1) := by decide +kernel
theorem dX11_leastLateness_24 : decode cX11_leastLateness 24 = .ok (.ireturn, 1) := by decide +kernel
theorem dX11_leastLatenessByOrders_0 : decode cX11_leastLatenessByOrders 0 = .ok (.aload_n 0, 1) := by decide +kernel
theorem dX11_leastLatenessByOrders_1 : decode cX11_leastLatenessByOrders 1 = .ok (.invokevirtual 198, 3) := by decide +kernel
theorem dX11_leastLatenessByOrders_4 : decode cX11_leastLatenessByOrders 4 = .ok (.ireturn, 1) := by decide +kernel
theorem dX11_bestFirst_0 : decode cX11_bestFirst 0 = .ok (.aload_n 0, 1) := by decide +kernel
theorem dX11_bestFirst_1 : decode cX11_bestFirst 1 = .ok (.aload_n 0, 1) := by decide +kernel
theorem dX11_bestFirst_2 : decode cX11_bestFirst 2 = .ok (.getfield 16, 3) := by decide +kernel
theorem dX11_bestFirst_5 : decode cX11_bestFirst 5 = .ok (.iconst 4, 1) := by decide +kernel
theorem dX11_bestFirst_6 : decode cX11_bestFirst 6 = .ok (.iaload, 1) := by decide +kernel
theorem dX11_bestFirst_7 : decode cX11_bestFirst 7 = .ok (.ifCond .ne 7, 3) := by decide +kernel
theorem dX11_bestFirst_10 : decode cX11_bestFirst 10 = .ok (.iconst 1, 1) := by decide +kernel
theorem dX11_bestFirst_11 : decode cX11_bestFirst 11 = .ok (.goto 4, 3) := by decide +kernel
theorem dX11_bestFirst_14 : decode cX11_bestFirst 14 = .ok (.iconst 0, 1) := by decide +kernel
theorem dX11_bestFirst_15 : decode cX11_bestFirst 15 = .ok (.putfield 53, 3) := by decide +kernel
theorem dX11_bestFirst_18 : decode cX11_bestFirst 18 = .ok (.aload_n 0, 1) := by decide +kernel
theorem dX11_bestFirst_19 : decode cX11_bestFirst 19 = .ok (.getfield 53, 3) := by decide +kernel
theorem dX11_bestFirst_22 : decode cX11_bestFirst 22 = .ok (.ifCond .eq 5, 3) := by decide +kernel
theorem dX11_bestFirst_25 : decode cX11_bestFirst 25 = .ok (.iconst 0, 1) := by decide +kernel
theorem dX11_bestFirst_26 : decode cX11_bestFirst 26 = .ok (.ireturn, 1) := by decide +kernel
theorem dX11_bestFirst_27 : decode cX11_bestFirst 27 = .ok (.aload_n 0, 1) := by decide +kernel
theorem dX11_bestFirst_28 : decode cX11_bestFirst 28 = .ok (.invokevirtual 195, 3) := by decide +kernel
theorem dX11_bestFirst_31 : decode cX11_bestFirst 31 = .ok (.iconst 1, 1) := by decide +kernel
theorem dX11_bestFirst_32 : decode cX11_bestFirst 32 = .ok (.aload_n 0, 1) := by decide +kernel
theorem dX11_bestFirst_33 : decode cX11_bestFirst 33 = .ok (.getfield 16, 3) := by decide +kernel
theorem dX11_bestFirst_36 : decode cX11_bestFirst 36 = .ok (.iconst 4, 1) := by decide +kernel
theorem dX11_bestFirst_37 : decode cX11_bestFirst 37 = .ok (.iaload, 1) := by decide +kernel
theorem dX11_bestFirst_38 : decode cX11_bestFirst 38 = .ok (.ishl, 1) := by decide +kernel
theorem dX11_bestFirst_39 : decode cX11_bestFirst 39 = .ok (.iconst 1, 1) := by decide +kernel
theorem dX11_bestFirst_40 : decode cX11_bestFirst 40 = .ok (.isub, 1) := by decide +kernel
theorem dX11_bestFirst_41 : decode cX11_bestFirst 41 = .ok (.istore_n 1, 1) := by decide +kernel
theorem dX11_bestFirst_42 : decode cX11_bestFirst 42 = .ok (.iconst 0, 1) := by decide +kernel
theorem dX11_bestFirst_43 : decode cX11_bestFirst 43 = .ok (.istore_n 2, 1) := by decide +kernel
theorem dX11_bestFirst_44 : decode cX11_bestFirst 44 = .ok (.aload_n 0, 1) := by decide +kernel
theorem dX11_bestFirst_45 : decode cX11_bestFirst 45 = .ok (.iload_n 2, 1) := by decide +kernel
theorem dX11_bestFirst_46 : decode cX11_bestFirst 46 = .ok (.invokevirtual 192, 3) := by decide +kernel
theorem dX11_bestFirst_49 : decode cX11_bestFirst 49 = .ok (.aload_n 0, 1) := by decide +kernel
theorem dX11_bestFirst_50 : decode cX11_bestFirst 50 = .ok (.getfield 32, 3) := by decide +kernel
theorem dX11_bestFirst_53 : decode cX11_bestFirst 53 = .ok (.iload_n 1, 1) := by decide +kernel
theorem dX11_bestFirst_54 : decode cX11_bestFirst 54 = .ok (.iconst 1, 1) := by decide +kernel
theorem dX11_bestFirst_55 : decode cX11_bestFirst 55 = .ok (.iload_n 2, 1) := by decide +kernel
theorem dX11_bestFirst_56 : decode cX11_bestFirst 56 = .ok (.ishl, 1) := by decide +kernel
theorem dX11_bestFirst_57 : decode cX11_bestFirst 57 = .ok (.iconst (-1), 1) := by decide +kernel
theorem dX11_bestFirst_58 : decode cX11_bestFirst 58 = .ok (.ixor, 1) := by decide +kernel
theorem dX11_bestFirst_59 : decode cX11_bestFirst 59 = .ok (.iand, 1) := by decide +kernel
theorem dX11_bestFirst_60 : decode cX11_bestFirst 60 = .ok (.iaload, 1) := by decide +kernel
theorem dX11_bestFirst_61 : decode cX11_bestFirst 61 = .ok (.iadd, 1) := by decide +kernel
theorem dX11_bestFirst_62 : decode cX11_bestFirst 62 = .ok (.aload_n 0, 1) := by decide +kernel
theorem dX11_bestFirst_63 : decode cX11_bestFirst 63 = .ok (.getfield 32, 3) := by decide +kernel
theorem dX11_bestFirst_66 : decode cX11_bestFirst 66 = .ok (.iload_n 1, 1) := by decide +kernel
theorem dX11_bestFirst_67 : decode cX11_bestFirst 67 = .ok (.iaload, 1) := by decide +kernel
theorem dX11_bestFirst_68 : decode cX11_bestFirst 68 = .ok (.if_icmp .eq 9, 3) := by decide +kernel
theorem dX11_bestFirst_71 : decode cX11_bestFirst 71 = .ok (.iinc 2 1, 3) := by decide +kernel
theorem dX11_bestFirst_74 : decode cX11_bestFirst 74 = .ok (.goto (-30), 3) := by decide +kernel
theorem dX11_bestFirst_77 : decode cX11_bestFirst 77 = .ok (.aload_n 0, 1) := by decide +kernel
theorem dX11_bestFirst_78 : decode cX11_bestFirst 78 = .ok (.getfield 16, 3) := by decide +kernel
theorem dX11_bestFirst_81 : decode cX11_bestFirst 81 = .ok (.iload_n 2, 1) := by decide +kernel
theorem dX11_bestFirst_82 : decode cX11_bestFirst 82 = .ok (.iconst 0, 1) := by decide +kernel
theorem dX11_bestFirst_83 : decode cX11_bestFirst 83 = .ok (.invokestatic 71, 3) := by decide +kernel
theorem dX11_bestFirst_86 : decode cX11_bestFirst 86 = .ok (.iaload, 1) := by decide +kernel
theorem dX11_bestFirst_87 : decode cX11_bestFirst 87 = .ok (.ireturn, 1) := by decide +kernel
theorem dX11_latenessByIds_0 : decode cX11_latenessByIds 0 = .ok (.aload_n 0, 1) := by decide +kernel
theorem dX11_latenessByIds_1 : decode cX11_latenessByIds 1 = .ok (.iconst 0, 1) := by decide +kernel
theorem dX11_latenessByIds_2 : decode cX11_latenessByIds 2 = .ok (.putfield 53, 3) := by decide +kernel
theorem dX11_latenessByIds_5 : decode cX11_latenessByIds 5 = .ok (.aload_n 0, 1) := by decide +kernel
theorem dX11_latenessByIds_6 : decode cX11_latenessByIds 6 = .ok (.getfield 16, 3) := by decide +kernel
theorem dX11_latenessByIds_9 : decode cX11_latenessByIds 9 = .ok (.iconst 2, 1) := by decide +kernel
theorem dX11_latenessByIds_10 : decode cX11_latenessByIds 10 = .ok (.iaload, 1) := by decide +kernel
theorem dX11_latenessByIds_11 : decode cX11_latenessByIds 11 = .ok (.istore_n 1, 1) := by decide +kernel
theorem dX11_latenessByIds_12 : decode cX11_latenessByIds 12 = .ok (.iconst 0, 1) := by decide +kernel
theorem dX11_latenessByIds_13 : decode cX11_latenessByIds 13 = .ok (.istore_n 2, 1) := by decide +kernel
theorem dX11_latenessByIds_14 : decode cX11_latenessByIds 14 = .ok (.iconst 0, 1) := by decide +kernel
theorem dX11_latenessByIds_15 : decode cX11_latenessByIds 15 = .ok (.istore_n 3, 1) := by decide +kernel
theorem dX11_latenessByIds_16 : decode cX11_latenessByIds 16 = .ok (.iload_n 3, 1) := by decide +kernel
theorem dX11_latenessByIds_17 : decode cX11_latenessByIds 17 = .ok (.aload_n 0, 1) := by decide +kernel
theorem dX11_latenessByIds_18 : decode cX11_latenessByIds 18 = .ok (.getfield 16, 3) := by decide +kernel
theorem dX11_latenessByIds_21 : decode cX11_latenessByIds 21 = .ok (.iconst 4, 1) := by decide +kernel
theorem dX11_latenessByIds_22 : decode cX11_latenessByIds 22 = .ok (.iaload, 1) := by decide +kernel
theorem dX11_latenessByIds_23 : decode cX11_latenessByIds 23 = .ok (.if_icmp .ge 31, 3) := by decide +kernel
theorem dX11_latenessByIds_26 : decode cX11_latenessByIds 26 = .ok (.iload_n 1, 1) := by decide +kernel
theorem dX11_latenessByIds_27 : decode cX11_latenessByIds 27 = .ok (.aload_n 0, 1) := by decide +kernel
theorem dX11_latenessByIds_28 : decode cX11_latenessByIds 28 = .ok (.getfield 16, 3) := by decide +kernel
theorem dX11_latenessByIds_31 : decode cX11_latenessByIds 31 = .ok (.iload_n 3, 1) := by decide +kernel
theorem dX11_latenessByIds_32 : decode cX11_latenessByIds 32 = .ok (.iconst 1, 1) := by decide +kernel
theorem dX11_latenessByIds_33 : decode cX11_latenessByIds 33 = .ok (.invokestatic 71, 3) := by decide +kernel
theorem dX11_latenessByIds_36 : decode cX11_latenessByIds 36 = .ok (.iaload, 1) := by decide +kernel
theorem dX11_latenessByIds_37 : decode cX11_latenessByIds 37 = .ok (.iadd, 1) := by decide +kernel
theorem dX11_latenessByIds_38 : decode cX11_latenessByIds 38 = .ok (.istore_n 1, 1) := by decide +kernel
theorem dX11_latenessByIds_39 : decode cX11_latenessByIds 39 = .ok (.iload_n 2, 1) := by decide +kernel
theorem dX11_latenessByIds_40 : decode cX11_latenessByIds 40 = .ok (.aload_n 0, 1) := by decide +kernel
theorem dX11_latenessByIds_41 : decode cX11_latenessByIds 41 = .ok (.iload_n 3, 1) := by decide +kernel
theorem dX11_latenessByIds_42 : decode cX11_latenessByIds 42 = .ok (.iload_n 1, 1) := by decide +kernel
theorem dX11_latenessByIds_43 : decode cX11_latenessByIds 43 = .ok (.invokevirtual 182, 3) := by decide +kernel
theorem dX11_latenessByIds_46 : decode cX11_latenessByIds 46 = .ok (.iadd, 1) := by decide +kernel
theorem dX11_latenessByIds_47 : decode cX11_latenessByIds 47 = .ok (.istore_n 2, 1) := by decide +kernel
theorem dX11_latenessByIds_48 : decode cX11_latenessByIds 48 = .ok (.iinc 3 1, 3) := by decide +kernel
theorem dX11_latenessByIds_51 : decode cX11_latenessByIds 51 = .ok (.goto (-35), 3) := by decide +kernel
theorem dX11_latenessByIds_54 : decode cX11_latenessByIds 54 = .ok (.iload_n 2, 1) := by decide +kernel
theorem dX11_latenessByIds_55 : decode cX11_latenessByIds 55 = .ok (.ireturn, 1) := by decide +kernel
theorem dX11_bakedCount_0 : decode cX11_bakedCount 0 = .ok (.aload_n 0, 1) := by decide +kernel
theorem dX11_bakedCount_1 : decode cX11_bakedCount 1 = .ok (.iconst 5, 1) := by decide +kernel
theorem dX11_bakedCount_2 : decode cX11_bakedCount 2 = .ok (.invokevirtual 123, 3) := by decide +kernel
theorem dX11_bakedCount_5 : decode cX11_bakedCount 5 = .ok (.ireturn, 1) := by decide +kernel
theorem dX11_latenessTotal_0 : decode cX11_latenessTotal 0 = .ok (.aload_n 0, 1) := by decide +kernel
theorem dX11_latenessTotal_1 : decode cX11_latenessTotal 1 = .ok (.iconst 0, 1) := by decide +kernel
theorem dX11_latenessTotal_2 : decode cX11_latenessTotal 2 = .ok (.putfield 53, 3) := by decide +kernel
theorem dX11_latenessTotal_5 : decode cX11_latenessTotal 5 = .ok (.aload_n 0, 1) := by decide +kernel
theorem dX11_latenessTotal_6 : decode cX11_latenessTotal 6 = .ok (.getfield 16, 3) := by decide +kernel
theorem dX11_latenessTotal_9 : decode cX11_latenessTotal 9 = .ok (.bipush 8, 2) := by decide +kernel
theorem dX11_latenessTotal_11 : decode cX11_latenessTotal 11 = .ok (.iaload, 1) := by decide +kernel
theorem dX11_latenessTotal_12 : decode cX11_latenessTotal 12 = .ok (.i2l, 1) := by decide +kernel
theorem dX11_latenessTotal_13 : decode cX11_latenessTotal 13 = .ok (.ldc2_w 201, 3) := by decide +kernel
theorem dX11_latenessTotal_16 : decode cX11_latenessTotal 16 = .ok (.lmul, 1) := by decide +kernel
theorem dX11_latenessTotal_17 : decode cX11_latenessTotal 17 = .ok (.aload_n 0, 1) := by decide +kernel
theorem dX11_latenessTotal_18 : decode cX11_latenessTotal 18 = .ok (.getfield 16, 3) := by decide +kernel
theorem dX11_latenessTotal_21 : decode cX11_latenessTotal 21 = .ok (.bipush 7, 2) := by decide +kernel
theorem dX11_latenessTotal_23 : decode cX11_latenessTotal 23 = .ok (.iaload, 1) := by decide +kernel
theorem dX11_latenessTotal_24 : decode cX11_latenessTotal 24 = .ok (.i2l, 1) := by decide +kernel
theorem dX11_latenessTotal_25 : decode cX11_latenessTotal 25 = .ok (.ladd, 1) := by decide +kernel
theorem dX11_latenessTotal_26 : decode cX11_latenessTotal 26 = .ok (.lreturn, 1) := by decide +kernel
theorem dX11_bakingShare_0 : decode cX11_bakingShare 0 = .ok (.aload_n 0, 1) := by decide +kernel
theorem dX11_bakingShare_1 : decode cX11_bakingShare 1 = .ok (.aload_n 0, 1) := by decide +kernel
theorem dX11_bakingShare_2 : decode cX11_bakingShare 2 = .ok (.getfield 16, 3) := by decide +kernel
theorem dX11_bakingShare_5 : decode cX11_bakingShare 5 = .ok (.iconst 2, 1) := by decide +kernel
theorem dX11_bakingShare_6 : decode cX11_bakingShare 6 = .ok (.iaload, 1) := by decide +kernel
theorem dX11_bakingShare_7 : decode cX11_bakingShare 7 = .ok (.ifCond .ne 7, 3) := by decide +kernel
theorem dX11_bakingShare_10 : decode cX11_bakingShare 10 = .ok (.iconst 1, 1) := by decide +kernel
theorem dX11_bakingShare_11 : decode cX11_bakingShare 11 = .ok (.goto 4, 3) := by decide +kernel
theorem dX11_bakingShare_14 : decode cX11_bakingShare 14 = .ok (.iconst 0, 1) := by decide +kernel
theorem dX11_bakingShare_15 : decode cX11_bakingShare 15 = .ok (.putfield 53, 3) := by decide +kernel
theorem dX11_bakingShare_18 : decode cX11_bakingShare 18 = .ok (.aload_n 0, 1) := by decide +kernel
theorem dX11_bakingShare_19 : decode cX11_bakingShare 19 = .ok (.getfield 53, 3) := by decide +kernel
theorem dX11_bakingShare_22 : decode cX11_bakingShare 22 = .ok (.ifCond .ne 22, 3) := by decide +kernel
theorem dX11_bakingShare_25 : decode cX11_bakingShare 25 = .ok (.aload_n 0, 1) := by decide +kernel
theorem dX11_bakingShare_26 : decode cX11_bakingShare 26 = .ok (.getfield 16, 3) := by decide +kernel
theorem dX11_bakingShare_29 : decode cX11_bakingShare 29 = .ok (.bipush 6, 2) := by decide +kernel
theorem dX11_bakingShare_31 : decode cX11_bakingShare 31 = .ok (.iaload, 1) := by decide +kernel
theorem dX11_bakingShare_32 : decode cX11_bakingShare 32 = .ok (.i2f, 1) := by decide +kernel
theorem dX11_bakingShare_33 : decode cX11_bakingShare 33 = .ok (.aload_n 0, 1) := by decide +kernel
theorem dX11_bakingShare_34 : decode cX11_bakingShare 34 = .ok (.getfield 16, 3) := by decide +kernel
theorem dX11_bakingShare_37 : decode cX11_bakingShare 37 = .ok (.iconst 2, 1) := by decide +kernel
theorem dX11_bakingShare_38 : decode cX11_bakingShare 38 = .ok (.iaload, 1) := by decide +kernel
theorem dX11_bakingShare_39 : decode cX11_bakingShare 39 = .ok (.i2f, 1) := by decide +kernel
theorem dX11_bakingShare_40 : decode cX11_bakingShare 40 = .ok (.fdiv, 1) := by decide +kernel
theorem dX11_bakingShare_41 : decode cX11_bakingShare 41 = .ok (.goto 4, 3) := by decide +kernel
theorem dX11_bakingShare_44 : decode cX11_bakingShare 44 = .ok (.fconst 0, 1) := by decide +kernel
theorem dX11_bakingShare_45 : decode cX11_bakingShare 45 = .ok (.freturn, 1) := by decide +kernel
theorem dX11_writes_0 : decode cX11_writes 0 = .ok (.aload_n 0, 1) := by decide +kernel
theorem dX11_writes_1 : decode cX11_writes 1 = .ok (.getfield 41, 3) := by decide +kernel
theorem dX11_writes_4 : decode cX11_writes 4 = .ok (.aload_n 0, 1) := by decide +kernel
theorem dX11_writes_5 : decode cX11_writes 5 = .ok (.getfield 203, 3) := by decide +kernel
theorem dX11_writes_8 : decode cX11_writes 8 = .ok (.iload_n 1, 1) := by decide +kernel
theorem dX11_writes_9 : decode cX11_writes 9 = .ok (.iastore, 1) := by decide +kernel
theorem dX11_writes_10 : decode cX11_writes 10 = .ok (.aload_n 0, 1) := by decide +kernel
theorem dX11_writes_11 : decode cX11_writes 11 = .ok (.dup, 1) := by decide +kernel
theorem dX11_writes_12 : decode cX11_writes 12 = .ok (.getfield 203, 3) := by decide +kernel
theorem dX11_writes_15 : decode cX11_writes 15 = .ok (.iconst 1, 1) := by decide +kernel
theorem dX11_writes_16 : decode cX11_writes 16 = .ok (.iadd, 1) := by decide +kernel
theorem dX11_writes_17 : decode cX11_writes 17 = .ok (.putfield 203, 3) := by decide +kernel
theorem dX11_writes_20 : decode cX11_writes 20 = .ok (.return_, 1) := by decide +kernel
theorem dX11_writesNumber_0 : decode cX11_writesNumber 0 = .ok (.iload_n 1, 1) := by decide +kernel
theorem dX11_writesNumber_1 : decode cX11_writesNumber 1 = .ok (.ifCond .ge 9, 3) := by decide +kernel
theorem dX11_writesNumber_4 : decode cX11_writesNumber 4 = .ok (.aload_n 0, 1) := by decide +kernel
theorem dX11_writesNumber_5 : decode cX11_writesNumber 5 = .ok (.bipush 45, 2) := by decide +kernel
theorem dX11_writesNumber_7 : decode cX11_writesNumber 7 = .ok (.invokevirtual 206, 3) := by decide +kernel
theorem dX11_writesNumber_10 : decode cX11_writesNumber 10 = .ok (.iload_n 1, 1) := by decide +kernel
theorem dX11_writesNumber_11 : decode cX11_writesNumber 11 = .ok (.ifCond .ge 8, 3) := by decide +kernel
theorem dX11_writesNumber_14 : decode cX11_writesNumber 14 = .ok (.iload_n 1, 1) := by decide +kernel
theorem dX11_writesNumber_15 : decode cX11_writesNumber 15 = .ok (.ineg, 1) := by decide +kernel
theorem dX11_writesNumber_16 : decode cX11_writesNumber 16 = .ok (.goto 4, 3) := by decide +kernel
theorem dX11_writesNumber_19 : decode cX11_writesNumber 19 = .ok (.iload_n 1, 1) := by decide +kernel
theorem dX11_writesNumber_20 : decode cX11_writesNumber 20 = .ok (.istore_n 2, 1) := by decide +kernel
theorem dX11_writesNumber_21 : decode cX11_writesNumber 21 = .ok (.iload_n 2, 1) := by decide +kernel
theorem dX11_writesNumber_22 : decode cX11_writesNumber 22 = .ok (.bipush 10, 2) := by decide +kernel
theorem dX11_writesNumber_24 : decode cX11_writesNumber 24 = .ok (.if_icmp .lt 14, 3) := by decide +kernel
theorem dX11_writesNumber_27 : decode cX11_writesNumber 27 = .ok (.aload_n 0, 1) := by decide +kernel
theorem dX11_writesNumber_28 : decode cX11_writesNumber 28 = .ok (.bipush 48, 2) := by decide +kernel
theorem dX11_writesNumber_30 : decode cX11_writesNumber 30 = .ok (.iload_n 2, 1) := by decide +kernel
theorem dX11_writesNumber_31 : decode cX11_writesNumber 31 = .ok (.bipush 10, 2) := by decide +kernel
theorem dX11_writesNumber_33 : decode cX11_writesNumber 33 = .ok (.idiv, 1) := by decide +kernel
theorem dX11_writesNumber_34 : decode cX11_writesNumber 34 = .ok (.iadd, 1) := by decide +kernel
theorem dX11_writesNumber_35 : decode cX11_writesNumber 35 = .ok (.invokevirtual 206, 3) := by decide +kernel
theorem dX11_writesNumber_38 : decode cX11_writesNumber 38 = .ok (.aload_n 0, 1) := by decide +kernel
theorem dX11_writesNumber_39 : decode cX11_writesNumber 39 = .ok (.bipush 48, 2) := by decide +kernel
theorem dX11_writesNumber_41 : decode cX11_writesNumber 41 = .ok (.iload_n 2, 1) := by decide +kernel
theorem dX11_writesNumber_42 : decode cX11_writesNumber 42 = .ok (.bipush 10, 2) := by decide +kernel
theorem dX11_writesNumber_44 : decode cX11_writesNumber 44 = .ok (.irem, 1) := by decide +kernel
theorem dX11_writesNumber_45 : decode cX11_writesNumber 45 = .ok (.iadd, 1) := by decide +kernel
theorem dX11_writesNumber_46 : decode cX11_writesNumber 46 = .ok (.invokevirtual 206, 3) := by decide +kernel
theorem dX11_writesNumber_49 : decode cX11_writesNumber 49 = .ok (.return_, 1) := by decide +kernel
theorem dX11_writeLabel_0 : decode cX11_writeLabel 0 = .ok (.aload_n 0, 1) := by decide +kernel
theorem dX11_writeLabel_1 : decode cX11_writeLabel 1 = .ok (.aload_n 0, 1) := by decide +kernel
theorem dX11_writeLabel_2 : decode cX11_writeLabel 2 = .ok (.iload_n 1, 1) := by decide +kernel
theorem dX11_writeLabel_3 : decode cX11_writeLabel 3 = .ok (.invokevirtual 87, 3) := by decide +kernel
theorem dX11_writeLabel_6 : decode cX11_writeLabel 6 = .ok (.ifCond .eq 7, 3) := by decide +kernel
theorem dX11_writeLabel_9 : decode cX11_writeLabel 9 = .ok (.iconst 0, 1) := by decide +kernel
theorem dX11_writeLabel_10 : decode cX11_writeLabel 10 = .ok (.goto 4, 3) := by decide +kernel
theorem dX11_writeLabel_13 : decode cX11_writeLabel 13 = .ok (.iconst 1, 1) := by decide +kernel
theorem dX11_writeLabel_14 : decode cX11_writeLabel 14 = .ok (.putfield 53, 3) := by decide +kernel
theorem dX11_writeLabel_17 : decode cX11_writeLabel 17 = .ok (.aload_n 0, 1) := by decide +kernel
theorem dX11_writeLabel_18 : decode cX11_writeLabel 18 = .ok (.getfield 53, 3) := by decide +kernel
theorem dX11_writeLabel_21 : decode cX11_writeLabel 21 = .ok (.ifCond .eq 5, 3) := by decide +kernel
theorem dX11_writeLabel_24 : decode cX11_writeLabel 24 = .ok (.iconst 0, 1) := by decide +kernel
theorem dX11_writeLabel_25 : decode cX11_writeLabel 25 = .ok (.ireturn, 1) := by decide +kernel
theorem dX11_writeLabel_26 : decode cX11_writeLabel 26 = .ok (.aload_n 0, 1) := by decide +kernel
theorem dX11_writeLabel_27 : decode cX11_writeLabel 27 = .ok (.iconst 0, 1) := by decide +kernel
theorem dX11_writeLabel_28 : decode cX11_writeLabel 28 = .ok (.putfield 203, 3) := by decide +kernel
theorem dX11_writeLabel_31 : decode cX11_writeLabel 31 = .ok (.aload_n 0, 1) := by decide +kernel
theorem dX11_writeLabel_32 : decode cX11_writeLabel 32 = .ok (.iload_n 1, 1) := by decide +kernel
theorem dX11_writeLabel_33 : decode cX11_writeLabel 33 = .ok (.invokevirtual 210, 3) := by decide +kernel
theorem dX11_writeLabel_36 : decode cX11_writeLabel 36 = .ok (.aload_n 0, 1) := by decide +kernel
theorem dX11_writeLabel_37 : decode cX11_writeLabel 37 = .ok (.bipush 58, 2) := by decide +kernel
theorem dX11_writeLabel_39 : decode cX11_writeLabel 39 = .ok (.invokevirtual 206, 3) := by decide +kernel
theorem dX11_writeLabel_42 : decode cX11_writeLabel 42 = .ok (.aload_n 0, 1) := by decide +kernel
theorem dX11_writeLabel_43 : decode cX11_writeLabel 43 = .ok (.aload_n 0, 1) := by decide +kernel
theorem dX11_writeLabel_44 : decode cX11_writeLabel 44 = .ok (.getfield 16, 3) := by decide +kernel
theorem dX11_writeLabel_47 : decode cX11_writeLabel 47 = .ok (.iload_n 1, 1) := by decide +kernel
theorem dX11_writeLabel_48 : decode cX11_writeLabel 48 = .ok (.iconst 0, 1) := by decide +kernel
theorem dX11_writeLabel_49 : decode cX11_writeLabel 49 = .ok (.invokestatic 67, 3) := by decide +kernel
theorem dX11_writeLabel_52 : decode cX11_writeLabel 52 = .ok (.iaload, 1) := by decide +kernel
theorem dX11_writeLabel_53 : decode cX11_writeLabel 53 = .ok (.invokevirtual 210, 3) := by decide +kernel
theorem dX11_writeLabel_56 : decode cX11_writeLabel 56 = .ok (.iconst 0, 1) := by decide +kernel
theorem dX11_writeLabel_57 : decode cX11_writeLabel 57 = .ok (.istore_n 2, 1) := by decide +kernel
theorem dX11_writeLabel_58 : decode cX11_writeLabel 58 = .ok (.iload_n 2, 1) := by decide +kernel
theorem dX11_writeLabel_59 : decode cX11_writeLabel 59 = .ok (.bipush 8, 2) := by decide +kernel
theorem dX11_writeLabel_61 : decode cX11_writeLabel 61 = .ok (.if_icmp .ge 25, 3) := by decide +kernel
theorem dX11_writeLabel_64 : decode cX11_writeLabel 64 = .ok (.aload_n 0, 1) := by decide +kernel
theorem dX11_writeLabel_65 : decode cX11_writeLabel 65 = .ok (.bipush 32, 2) := by decide +kernel
theorem dX11_writeLabel_67 : decode cX11_writeLabel 67 = .ok (.invokevirtual 206, 3) := by decide +kernel
theorem dX11_writeLabel_70 : decode cX11_writeLabel 70 = .ok (.aload_n 0, 1) := by decide +kernel
theorem dX11_writeLabel_71 : decode cX11_writeLabel 71 = .ok (.aload_n 0, 1) := by decide +kernel
theorem dX11_writeLabel_72 : decode cX11_writeLabel 72 = .ok (.iload_n 1, 1) := by decide +kernel
theorem dX11_writeLabel_73 : decode cX11_writeLabel 73 = .ok (.iload_n 2, 1) := by decide +kernel
theorem dX11_writeLabel_74 : decode cX11_writeLabel 74 = .ok (.invokevirtual 91, 3) := by decide +kernel
theorem dX11_writeLabel_77 : decode cX11_writeLabel 77 = .ok (.invokevirtual 210, 3) := by decide +kernel
theorem dX11_writeLabel_80 : decode cX11_writeLabel 80 = .ok (.iinc 2 1, 3) := by decide +kernel
theorem dX11_writeLabel_83 : decode cX11_writeLabel 83 = .ok (.goto (-25), 3) := by decide +kernel
theorem dX11_writeLabel_86 : decode cX11_writeLabel 86 = .ok (.aload_n 0, 1) := by decide +kernel
theorem dX11_writeLabel_87 : decode cX11_writeLabel 87 = .ok (.getfield 16, 3) := by decide +kernel
theorem dX11_writeLabel_90 : decode cX11_writeLabel 90 = .ok (.iload_n 1, 1) := by decide +kernel
theorem dX11_writeLabel_91 : decode cX11_writeLabel 91 = .ok (.iconst 1, 1) := by decide +kernel
theorem dX11_writeLabel_92 : decode cX11_writeLabel 92 = .ok (.invokestatic 67, 3) := by decide +kernel
theorem dX11_writeLabel_95 : decode cX11_writeLabel 95 = .ok (.iaload, 1) := by decide +kernel
theorem dX11_writeLabel_96 : decode cX11_writeLabel 96 = .ok (.iconst 1, 1) := by decide +kernel
theorem dX11_writeLabel_97 : decode cX11_writeLabel 97 = .ok (.if_icmp .ne 7, 3) := by decide +kernel
theorem dX11_writeLabel_100 : decode cX11_writeLabel 100 = .ok (.iconst 1, 1) := by decide +kernel
theorem dX11_writeLabel_101 : decode cX11_writeLabel 101 = .ok (.goto 4, 3) := by decide +kernel
theorem dX11_writeLabel_104 : decode cX11_writeLabel 104 = .ok (.iconst 0, 1) := by decide +kernel
theorem dX11_writeLabel_105 : decode cX11_writeLabel 105 = .ok (.istore_n 2, 1) := by decide +kernel
theorem dX11_writeLabel_106 : decode cX11_writeLabel 106 = .ok (.iload_n 2, 1) := by decide +kernel
theorem dX11_writeLabel_107 : decode cX11_writeLabel 107 = .ok (.ifCond .ne 11, 3) := by decide +kernel
theorem dX11_writeLabel_110 : decode cX11_writeLabel 110 = .ok (.aload_n 0, 1) := by decide +kernel
theorem dX11_writeLabel_111 : decode cX11_writeLabel 111 = .ok (.iload_n 1, 1) := by decide +kernel
theorem dX11_writeLabel_112 : decode cX11_writeLabel 112 = .ok (.invokevirtual 117, 3) := by decide +kernel
theorem dX11_writeLabel_115 : decode cX11_writeLabel 115 = .ok (.ifCond .eq 24, 3) := by decide +kernel
theorem dX11_writeLabel_118 : decode cX11_writeLabel 118 = .ok (.aload_n 0, 1) := by decide +kernel
theorem dX11_writeLabel_119 : decode cX11_writeLabel 119 = .ok (.bipush 32, 2) := by decide +kernel
theorem dX11_writeLabel_121 : decode cX11_writeLabel 121 = .ok (.invokevirtual 206, 3) := by decide +kernel
theorem dX11_writeLabel_124 : decode cX11_writeLabel 124 = .ok (.aload_n 0, 1) := by decide +kernel
theorem dX11_writeLabel_125 : decode cX11_writeLabel 125 = .ok (.iload_n 2, 1) := by decide +kernel
theorem dX11_writeLabel_126 : decode cX11_writeLabel 126 = .ok (.ifCond .eq 8, 3) := by decide +kernel
theorem dX11_writeLabel_129 : decode cX11_writeLabel 129 = .ok (.bipush 120, 2) := by decide +kernel
theorem dX11_writeLabel_131 : decode cX11_writeLabel 131 = .ok (.goto 5, 3) := by decide +kernel
theorem dX11_writeLabel_134 : decode cX11_writeLabel 134 = .ok (.bipush 63, 2) := by decide +kernel
theorem dX11_writeLabel_136 : decode cX11_writeLabel 136 = .ok (.invokevirtual 206, 3) := by decide +kernel
theorem dX11_writeLabel_139 : decode cX11_writeLabel 139 = .ok (.aload_n 0, 1) := by decide +kernel
theorem dX11_writeLabel_140 : decode cX11_writeLabel 140 = .ok (.getfield 203, 3) := by decide +kernel
theorem dX11_writeLabel_143 : decode cX11_writeLabel 143 = .ok (.ireturn, 1) := by decide +kernel
theorem dX11_labelAt_0 : decode cX11_labelAt 0 = .ok (.aload_n 0, 1) := by decide +kernel
theorem dX11_labelAt_1 : decode cX11_labelAt 1 = .ok (.iload_n 1, 1) := by decide +kernel
theorem dX11_labelAt_2 : decode cX11_labelAt 2 = .ok (.iconst 0, 1) := by decide +kernel
theorem dX11_labelAt_3 : decode cX11_labelAt 3 = .ok (.aload_n 0, 1) := by decide +kernel
theorem dX11_labelAt_4 : decode cX11_labelAt 4 = .ok (.getfield 203, 3) := by decide +kernel
theorem dX11_labelAt_7 : decode cX11_labelAt 7 = .ok (.iconst 1, 1) := by decide +kernel
theorem dX11_labelAt_8 : decode cX11_labelAt 8 = .ok (.isub, 1) := by decide +kernel
theorem dX11_labelAt_9 : decode cX11_labelAt 9 = .ok (.invokestatic 63, 3) := by decide +kernel
theorem dX11_labelAt_12 : decode cX11_labelAt 12 = .ok (.ifCond .eq 7, 3) := by decide +kernel
theorem dX11_labelAt_15 : decode cX11_labelAt 15 = .ok (.iconst 0, 1) := by decide +kernel
theorem dX11_labelAt_16 : decode cX11_labelAt 16 = .ok (.goto 4, 3) := by decide +kernel
theorem dX11_labelAt_19 : decode cX11_labelAt 19 = .ok (.iconst 1, 1) := by decide +kernel
theorem dX11_labelAt_20 : decode cX11_labelAt 20 = .ok (.putfield 53, 3) := by decide +kernel
theorem dX11_labelAt_23 : decode cX11_labelAt 23 = .ok (.aload_n 0, 1) := by decide +kernel
theorem dX11_labelAt_24 : decode cX11_labelAt 24 = .ok (.getfield 53, 3) := by decide +kernel
theorem dX11_labelAt_27 : decode cX11_labelAt 27 = .ok (.ifCond .ne 13, 3) := by decide +kernel
theorem dX11_labelAt_30 : decode cX11_labelAt 30 = .ok (.aload_n 0, 1) := by decide +kernel
theorem dX11_labelAt_31 : decode cX11_labelAt 31 = .ok (.getfield 41, 3) := by decide +kernel
theorem dX11_labelAt_34 : decode cX11_labelAt 34 = .ok (.iload_n 1, 1) := by decide +kernel
theorem dX11_labelAt_35 : decode cX11_labelAt 35 = .ok (.iaload, 1) := by decide +kernel
theorem dX11_labelAt_36 : decode cX11_labelAt 36 = .ok (.i2c, 1) := by decide +kernel
theorem dX11_labelAt_37 : decode cX11_labelAt 37 = .ok (.goto 5, 3) := by decide +kernel
theorem dX11_labelAt_40 : decode cX11_labelAt 40 = .ok (.bipush 97, 2) := by decide +kernel
theorem dX11_labelAt_42 : decode cX11_labelAt 42 = .ok (.ireturn, 1) := by decide +kernel
theorem dX11_type_0 : decode cX11_type 0 = .ok (.aload_n 0, 1) := by decide +kernel
theorem dX11_type_1 : decode cX11_type 1 = .ok (.iload_n 1, 1) := by decide +kernel
theorem dX11_type_2 : decode cX11_type 2 = .ok (.bipush 32, 2) := by decide +kernel
theorem dX11_type_4 : decode cX11_type 4 = .ok (.bipush 126, 2) := by decide +kernel
theorem dX11_type_6 : decode cX11_type 6 = .ok (.invokestatic 63, 3) := by decide +kernel
theorem dX11_type_9 : decode cX11_type 9 = .ok (.ifCond .ne 7, 3) := by decide +kernel
theorem dX11_type_12 : decode cX11_type 12 = .ok (.iconst 1, 1) := by decide +kernel
theorem dX11_type_13 : decode cX11_type 13 = .ok (.goto 17, 3) := by decide +kernel
theorem dX11_type_16 : decode cX11_type 16 = .ok (.aload_n 0, 1) := by decide +kernel
theorem dX11_type_17 : decode cX11_type 17 = .ok (.getfield 213, 3) := by decide +kernel
theorem dX11_type_20 : decode cX11_type 20 = .ok (.bipush 60, 2) := by decide +kernel
theorem dX11_type_22 : decode cX11_type 22 = .ok (.if_icmp .ne 7, 3) := by decide +kernel
theorem dX11_type_25 : decode cX11_type 25 = .ok (.iconst 2, 1) := by decide +kernel
theorem dX11_type_26 : decode cX11_type 26 = .ok (.goto 4, 3) := by decide +kernel
theorem dX11_type_29 : decode cX11_type 29 = .ok (.iconst 0, 1) := by decide +kernel
theorem dX11_type_30 : decode cX11_type 30 = .ok (.putfield 53, 3) := by decide +kernel
theorem dX11_type_33 : decode cX11_type 33 = .ok (.aload_n 0, 1) := by decide +kernel
theorem dX11_type_34 : decode cX11_type 34 = .ok (.getfield 53, 3) := by decide +kernel
theorem dX11_type_37 : decode cX11_type 37 = .ok (.ifCond .eq 5, 3) := by decide +kernel
theorem dX11_type_40 : decode cX11_type 40 = .ok (.iconst 0, 1) := by decide +kernel
theorem dX11_type_41 : decode cX11_type 41 = .ok (.ireturn, 1) := by decide +kernel
theorem dX11_type_42 : decode cX11_type 42 = .ok (.aload_n 0, 1) := by decide +kernel
theorem dX11_type_43 : decode cX11_type 43 = .ok (.getfield 38, 3) := by decide +kernel
theorem dX11_type_46 : decode cX11_type 46 = .ok (.aload_n 0, 1) := by decide +kernel
theorem dX11_type_47 : decode cX11_type 47 = .ok (.getfield 213, 3) := by decide +kernel
theorem dX11_type_50 : decode cX11_type 50 = .ok (.iload_n 1, 1) := by decide +kernel
theorem dX11_type_51 : decode cX11_type 51 = .ok (.iastore, 1) := by decide +kernel
theorem dX11_type_52 : decode cX11_type 52 = .ok (.aload_n 0, 1) := by decide +kernel
theorem dX11_type_53 : decode cX11_type 53 = .ok (.dup, 1) := by decide +kernel
theorem dX11_type_54 : decode cX11_type 54 = .ok (.getfield 213, 3) := by decide +kernel
theorem dX11_type_57 : decode cX11_type 57 = .ok (.iconst 1, 1) := by decide +kernel
theorem dX11_type_58 : decode cX11_type 58 = .ok (.iadd, 1) := by decide +kernel
theorem dX11_type_59 : decode cX11_type 59 = .ok (.putfield 213, 3) := by decide +kernel
theorem dX11_type_62 : decode cX11_type 62 = .ok (.aload_n 0, 1) := by decide +kernel
theorem dX11_type_63 : decode cX11_type 63 = .ok (.getfield 213, 3) := by decide +kernel
theorem dX11_type_66 : decode cX11_type 66 = .ok (.ireturn, 1) := by decide +kernel
theorem dX11_sign_0 : decode cX11_sign 0 = .ok (.aload_n 0, 1) := by decide +kernel
theorem dX11_sign_1 : decode cX11_sign 1 = .ok (.getfield 216, 3) := by decide +kernel
theorem dX11_sign_4 : decode cX11_sign 4 = .ok (.aload_n 0, 1) := by decide +kernel
theorem dX11_sign_5 : decode cX11_sign 5 = .ok (.getfield 219, 3) := by decide +kernel
theorem dX11_sign_8 : decode cX11_sign 8 = .ok (.if_icmp .ge 15, 3) := by decide +kernel
theorem dX11_sign_11 : decode cX11_sign 11 = .ok (.aload_n 0, 1) := by decide +kernel
theorem dX11_sign_12 : decode cX11_sign 12 = .ok (.getfield 38, 3) := by decide +kernel
theorem dX11_sign_15 : decode cX11_sign 15 = .ok (.aload_n 0, 1) := by decide +kernel
theorem dX11_sign_16 : decode cX11_sign 16 = .ok (.getfield 216, 3) := by decide +kernel
theorem dX11_sign_19 : decode cX11_sign 19 = .ok (.iaload, 1) := by decide +kernel
theorem dX11_sign_20 : decode cX11_sign 20 = .ok (.goto 4, 3) := by decide +kernel
theorem dX11_sign_23 : decode cX11_sign 23 = .ok (.iconst (-1), 1) := by decide +kernel
theorem dX11_sign_24 : decode cX11_sign 24 = .ok (.ireturn, 1) := by decide +kernel
theorem dX11_mark_0 : decode cX11_mark 0 = .ok (.aload_n 0, 1) := by decide +kernel
theorem dX11_mark_1 : decode cX11_mark 1 = .ok (.getfield 222, 3) := by decide +kernel
theorem dX11_mark_4 : decode cX11_mark 4 = .ok (.ifCond .eq 4, 3) := by decide +kernel
theorem dX11_mark_7 : decode cX11_mark 7 = .ok (.return_, 1) := by decide +kernel
theorem dX11_mark_8 : decode cX11_mark 8 = .ok (.aload_n 0, 1) := by decide +kernel
theorem dX11_mark_9 : decode cX11_mark 9 = .ok (.aload_n 0, 1) := by decide +kernel
theorem dX11_mark_10 : decode cX11_mark 10 = .ok (.invokevirtual 226, 3) := by decide +kernel
theorem dX11_mark_13 : decode cX11_mark 13 = .ok (.iload_n 1, 1) := by decide +kernel
theorem dX11_mark_14 : decode cX11_mark 14 = .ok (.if_icmp .eq 7, 3) := by decide +kernel
theorem dX11_mark_17 : decode cX11_mark 17 = .ok (.iconst 1, 1) := by decide +kernel
theorem dX11_mark_18 : decode cX11_mark 18 = .ok (.goto 4, 3) := by decide +kernel
theorem dX11_mark_21 : decode cX11_mark 21 = .ok (.iconst 0, 1) := by decide +kernel
theorem dX11_mark_22 : decode cX11_mark 22 = .ok (.putfield 222, 3) := by decide +kernel
theorem dX11_mark_25 : decode cX11_mark 25 = .ok (.aload_n 0, 1) := by decide +kernel
theorem dX11_mark_26 : decode cX11_mark 26 = .ok (.dup, 1) := by decide +kernel
theorem dX11_mark_27 : decode cX11_mark 27 = .ok (.getfield 216, 3) := by decide +kernel
theorem dX11_mark_30 : decode cX11_mark 30 = .ok (.aload_n 0, 1) := by decide +kernel
theorem dX11_mark_31 : decode cX11_mark 31 = .ok (.getfield 222, 3) := by decide +kernel
theorem dX11_mark_34 : decode cX11_mark 34 = .ok (.ifCond .eq 7, 3) := by decide +kernel
theorem dX11_mark_37 : decode cX11_mark 37 = .ok (.iconst 0, 1) := by decide +kernel
theorem dX11_mark_38 : decode cX11_mark 38 = .ok (.goto 4, 3) := by decide +kernel
theorem dX11_mark_41 : decode cX11_mark 41 = .ok (.iconst 1, 1) := by decide +kernel
theorem dX11_mark_42 : decode cX11_mark 42 = .ok (.iadd, 1) := by decide +kernel
theorem dX11_mark_43 : decode cX11_mark 43 = .ok (.putfield 216, 3) := by decide +kernel
theorem dX11_mark_46 : decode cX11_mark 46 = .ok (.return_, 1) := by decide +kernel
theorem dX11_digits_0 : decode cX11_digits 0 = .ok (.iconst 0, 1) := by decide +kernel
theorem dX11_digits_1 : decode cX11_digits 1 = .ok (.istore_n 2, 1) := by decide +kernel
theorem dX11_digits_2 : decode cX11_digits 2 = .ok (.iconst 0, 1) := by decide +kernel
theorem dX11_digits_3 : decode cX11_digits 3 = .ok (.istore_n 3, 1) := by decide +kernel
theorem dX11_digits_4 : decode cX11_digits 4 = .ok (.aload_n 0, 1) := by decide +kernel
theorem dX11_digits_5 : decode cX11_digits 5 = .ok (.getfield 222, 3) := by decide +kernel
theorem dX11_digits_8 : decode cX11_digits 8 = .ok (.ifCond .ne 51, 3) := by decide +kernel
theorem dX11_digits_11 : decode cX11_digits 11 = .ok (.iload_n 3, 1) := by decide +kernel
theorem dX11_digits_12 : decode cX11_digits 12 = .ok (.iload_n 1, 1) := by decide +kernel
theorem dX11_digits_13 : decode cX11_digits 13 = .ok (.if_icmp .ge 46, 3) := by decide +kernel
theorem dX11_digits_16 : decode cX11_digits 16 = .ok (.aload_n 0, 1) := by decide +kernel
theorem dX11_digits_17 : decode cX11_digits 17 = .ok (.invokevirtual 226, 3) := by decide +kernel
theorem dX11_digits_20 : decode cX11_digits 20 = .ok (.bipush 48, 2) := by decide +kernel
theorem dX11_digits_22 : decode cX11_digits 22 = .ok (.bipush 57, 2) := by decide +kernel
theorem dX11_digits_24 : decode cX11_digits 24 = .ok (.invokestatic 63, 3) := by decide +kernel
theorem dX11_digits_27 : decode cX11_digits 27 = .ok (.ifCond .eq 32, 3) := by decide +kernel
theorem dX11_digits_30 : decode cX11_digits 30 = .ok (.bipush 10, 2) := by decide +kernel
theorem dX11_digits_32 : decode cX11_digits 32 = .ok (.iload_n 2, 1) := by decide +kernel
theorem dX11_digits_33 : decode cX11_digits 33 = .ok (.imul, 1) := by decide +kernel
theorem dX11_digits_34 : decode cX11_digits 34 = .ok (.aload_n 0, 1) := by decide +kernel
theorem dX11_digits_35 : decode cX11_digits 35 = .ok (.invokevirtual 226, 3) := by decide +kernel
theorem dX11_digits_38 : decode cX11_digits 38 = .ok (.iadd, 1) := by decide +kernel
theorem dX11_digits_39 : decode cX11_digits 39 = .ok (.bipush 48, 2) := by decide +kernel
theorem dX11_digits_41 : decode cX11_digits 41 = .ok (.isub, 1) := by decide +kernel
theorem dX11_digits_42 : decode cX11_digits 42 = .ok (.istore_n 2, 1) := by decide +kernel
theorem dX11_digits_43 : decode cX11_digits 43 = .ok (.aload_n 0, 1) := by decide +kernel
theorem dX11_digits_44 : decode cX11_digits 44 = .ok (.dup, 1) := by decide +kernel
theorem dX11_digits_45 : decode cX11_digits 45 = .ok (.getfield 216, 3) := by decide +kernel
theorem dX11_digits_48 : decode cX11_digits 48 = .ok (.iconst 1, 1) := by decide +kernel
theorem dX11_digits_49 : decode cX11_digits 49 = .ok (.iadd, 1) := by decide +kernel
theorem dX11_digits_50 : decode cX11_digits 50 = .ok (.putfield 216, 3) := by decide +kernel
theorem dX11_digits_53 : decode cX11_digits 53 = .ok (.iinc 3 1, 3) := by decide +kernel
theorem dX11_digits_56 : decode cX11_digits 56 = .ok (.goto (-52), 3) := by decide +kernel
theorem dX11_digits_59 : decode cX11_digits 59 = .ok (.aload_n 0, 1) := by decide +kernel
theorem dX11_digits_60 : decode cX11_digits 60 = .ok (.dup, 1) := by decide +kernel
theorem dX11_digits_61 : decode cX11_digits 61 = .ok (.getfield 222, 3) := by decide +kernel
theorem dX11_digits_64 : decode cX11_digits 64 = .ok (.iload_n 3, 1) := by decide +kernel
theorem dX11_digits_65 : decode cX11_digits 65 = .ok (.ifCond .ne 7, 3) := by decide +kernel
theorem dX11_digits_68 : decode cX11_digits 68 = .ok (.iconst 1, 1) := by decide +kernel
theorem dX11_digits_69 : decode cX11_digits 69 = .ok (.goto 4, 3) := by decide +kernel
theorem dX11_digits_72 : decode cX11_digits 72 = .ok (.iconst 0, 1) := by decide +kernel
theorem dX11_digits_73 : decode cX11_digits 73 = .ok (.ior, 1) := by decide +kernel
theorem dX11_digits_74 : decode cX11_digits 74 = .ok (.putfield 222, 3) := by decide +kernel
theorem dX11_digits_77 : decode cX11_digits 77 = .ok (.iload_n 2, 1) := by decide +kernel
theorem dX11_digits_78 : decode cX11_digits 78 = .ok (.ireturn, 1) := by decide +kernel
theorem dX11_behind_0 : decode cX11_behind 0 = .ok (.aload_n 0, 1) := by decide +kernel
theorem dX11_behind_1 : decode cX11_behind 1 = .ok (.iload_n 1, 1) := by decide +kernel
theorem dX11_behind_2 : decode cX11_behind 2 = .ok (.invokevirtual 229, 3) := by decide +kernel
theorem dX11_behind_5 : decode cX11_behind 5 = .ok (.aload_n 0, 1) := by decide +kernel
theorem dX11_behind_6 : decode cX11_behind 6 = .ok (.getfield 222, 3) := by decide +kernel
theorem dX11_behind_9 : decode cX11_behind 9 = .ok (.ifCond .eq 7, 3) := by decide +kernel
theorem dX11_behind_12 : decode cX11_behind 12 = .ok (.iconst 0, 1) := by decide +kernel
theorem dX11_behind_13 : decode cX11_behind 13 = .ok (.goto 8, 3) := by decide +kernel
theorem dX11_behind_16 : decode cX11_behind 16 = .ok (.aload_n 0, 1) := by decide +kernel
theorem dX11_behind_17 : decode cX11_behind 17 = .ok (.iload_n 2, 1) := by decide +kernel
theorem dX11_behind_18 : decode cX11_behind 18 = .ok (.invokevirtual 232, 3) := by decide +kernel
theorem dX11_behind_21 : decode cX11_behind 21 = .ok (.ireturn, 1) := by decide +kernel
theorem dX11_degrees_0 : decode cX11_degrees 0 = .ok (.aload_n 0, 1) := by decide +kernel
theorem dX11_degrees_1 : decode cX11_degrees 1 = .ok (.bipush 32, 2) := by decide +kernel
theorem dX11_degrees_3 : decode cX11_degrees 3 = .ok (.invokevirtual 229, 3) := by decide +kernel
theorem dX11_degrees_6 : decode cX11_degrees 6 = .ok (.aload_n 0, 1) := by decide +kernel
theorem dX11_degrees_7 : decode cX11_degrees 7 = .ok (.getfield 222, 3) := by decide +kernel
theorem dX11_degrees_10 : decode cX11_degrees 10 = .ok (.ifCond .ne 16, 3) := by decide +kernel
theorem dX11_degrees_13 : decode cX11_degrees 13 = .ok (.aload_n 0, 1) := by decide +kernel
theorem dX11_degrees_14 : decode cX11_degrees 14 = .ok (.invokevirtual 226, 3) := by decide +kernel
theorem dX11_degrees_17 : decode cX11_degrees 17 = .ok (.bipush 45, 2) := by decide +kernel
theorem dX11_degrees_19 : decode cX11_degrees 19 = .ok (.if_icmp .ne 7, 3) := by decide +kernel
theorem dX11_degrees_22 : decode cX11_degrees 22 = .ok (.iconst 1, 1) := by decide +kernel
theorem dX11_degrees_23 : decode cX11_degrees 23 = .ok (.goto 4, 3) := by decide +kernel
theorem dX11_degrees_26 : decode cX11_degrees 26 = .ok (.iconst 0, 1) := by decide +kernel
theorem dX11_degrees_27 : decode cX11_degrees 27 = .ok (.istore_n 1, 1) := by decide +kernel
theorem dX11_degrees_28 : decode cX11_degrees 28 = .ok (.aload_n 0, 1) := by decide +kernel
theorem dX11_degrees_29 : decode cX11_degrees 29 = .ok (.dup, 1) := by decide +kernel
theorem dX11_degrees_30 : decode cX11_degrees 30 = .ok (.getfield 216, 3) := by decide +kernel
theorem dX11_degrees_33 : decode cX11_degrees 33 = .ok (.iload_n 1, 1) := by decide +kernel
theorem dX11_degrees_34 : decode cX11_degrees 34 = .ok (.ifCond .eq 7, 3) := by decide +kernel
theorem dX11_degrees_37 : decode cX11_degrees 37 = .ok (.iconst 1, 1) := by decide +kernel
theorem dX11_degrees_38 : decode cX11_degrees 38 = .ok (.goto 4, 3) := by decide +kernel
theorem dX11_degrees_41 : decode cX11_degrees 41 = .ok (.iconst 0, 1) := by decide +kernel
theorem dX11_degrees_42 : decode cX11_degrees 42 = .ok (.iadd, 1) := by decide +kernel
theorem dX11_degrees_43 : decode cX11_degrees 43 = .ok (.putfield 216, 3) := by decide +kernel
theorem dX11_degrees_46 : decode cX11_degrees 46 = .ok (.aload_n 0, 1) := by decide +kernel
theorem dX11_degrees_47 : decode cX11_degrees 47 = .ok (.getfield 222, 3) := by decide +kernel
theorem dX11_degrees_50 : decode cX11_degrees 50 = .ok (.ifCond .eq 7, 3) := by decide +kernel
theorem dX11_degrees_53 : decode cX11_degrees 53 = .ok (.iconst 0, 1) := by decide +kernel
theorem dX11_degrees_54 : decode cX11_degrees 54 = .ok (.goto 8, 3) := by decide +kernel
theorem dX11_degrees_57 : decode cX11_degrees 57 = .ok (.aload_n 0, 1) := by decide +kernel
theorem dX11_degrees_58 : decode cX11_degrees 58 = .ok (.iconst 3, 1) := by decide +kernel
theorem dX11_degrees_59 : decode cX11_degrees 59 = .ok (.invokevirtual 232, 3) := by decide +kernel
theorem dX11_degrees_62 : decode cX11_degrees 62 = .ok (.istore_n 2, 1) := by decide +kernel
theorem dX11_degrees_63 : decode cX11_degrees 63 = .ok (.iload_n 1, 1) := by decide +kernel
theorem dX11_degrees_64 : decode cX11_degrees 64 = .ok (.ifCond .eq 8, 3) := by decide +kernel
theorem dX11_degrees_67 : decode cX11_degrees 67 = .ok (.iload_n 2, 1) := by decide +kernel
theorem dX11_degrees_68 : decode cX11_degrees 68 = .ok (.ineg, 1) := by decide +kernel
theorem dX11_degrees_69 : decode cX11_degrees 69 = .ok (.goto 4, 3) := by decide +kernel
theorem dX11_degrees_72 : decode cX11_degrees 72 = .ok (.iload_n 2, 1) := by decide +kernel
theorem dX11_degrees_73 : decode cX11_degrees 73 = .ok (.ireturn, 1) := by decide +kernel
theorem dX11_word_0 : decode cX11_word 0 = .ok (.iconst 0, 1) := by decide +kernel
theorem dX11_word_1 : decode cX11_word 1 = .ok (.istore_n 1, 1) := by decide +kernel
theorem dX11_word_2 : decode cX11_word 2 = .ok (.iload_n 1, 1) := by decide +kernel
theorem dX11_word_3 : decode cX11_word 3 = .ok (.bipush 10, 2) := by decide +kernel
theorem dX11_word_5 : decode cX11_word 5 = .ok (.if_icmp .ge 16, 3) := by decide +kernel
theorem dX11_word_8 : decode cX11_word 8 = .ok (.aload_n 0, 1) := by decide +kernel
theorem dX11_word_9 : decode cX11_word 9 = .ok (.getfield 44, 3) := by decide +kernel
theorem dX11_word_12 : decode cX11_word 12 = .ok (.iload_n 1, 1) := by decide +kernel
theorem dX11_word_13 : decode cX11_word 13 = .ok (.iconst 1, 1) := by decide +kernel
theorem dX11_word_14 : decode cX11_word 14 = .ok (.iastore, 1) := by decide +kernel
theorem dX11_word_15 : decode cX11_word 15 = .ok (.iinc 1 1, 3) := by decide +kernel
theorem dX11_word_18 : decode cX11_word 18 = .ok (.goto (-16), 3) := by decide +kernel
theorem dX11_word_21 : decode cX11_word 21 = .ok (.iconst 0, 1) := by decide +kernel
theorem dX11_word_22 : decode cX11_word 22 = .ok (.istore_n 1, 1) := by decide +kernel
theorem dX11_word_23 : decode cX11_word 23 = .ok (.iconst (-1), 1) := by decide +kernel
theorem dX11_word_24 : decode cX11_word 24 = .ok (.istore_n 2, 1) := by decide +kernel
theorem dX11_word_25 : decode cX11_word 25 = .ok (.iload_n 2, 1) := by decide +kernel
theorem dX11_word_26 : decode cX11_word 26 = .ok (.ifCond .ge 196, 3) := by decide +kernel
theorem dX11_word_29 : decode cX11_word 29 = .ok (.aload_n 0, 1) := by decide +kernel
theorem dX11_word_30 : decode cX11_word 30 = .ok (.getfield 222, 3) := by decide +kernel
theorem dX11_word_33 : decode cX11_word 33 = .ok (.ifCond .ne 189, 3) := by decide +kernel
theorem dX11_word_36 : decode cX11_word 36 = .ok (.iconst 0, 1) := by decide +kernel
theorem dX11_word_37 : decode cX11_word 37 = .ok (.istore_n 3, 1) := by decide +kernel
theorem dX11_word_38 : decode cX11_word 38 = .ok (.iconst 0, 1) := by decide +kernel
theorem dX11_word_39 : decode cX11_word 39 = .ok (.istore 4, 2) := by decide +kernel
theorem dX11_word_41 : decode cX11_word 41 = .ok (.iload 4, 2) := by decide +kernel
theorem dX11_word_43 : decode cX11_word 43 = .ok (.bipush 10, 2) := by decide +kernel
theorem dX11_word_45 : decode cX11_word 45 = .ok (.if_icmp .ge 85, 3) := by decide +kernel
theorem dX11_word_48 : decode cX11_word 48 = .ok (.aload_n 0, 1) := by decide +kernel
theorem dX11_word_49 : decode cX11_word 49 = .ok (.getfield 44, 3) := by decide +kernel
theorem dX11_word_52 : decode cX11_word 52 = .ok (.iload 4, 2) := by decide +kernel
theorem dX11_word_54 : decode cX11_word 54 = .ok (.dup2, 1) := by decide +kernel
theorem dX11_word_55 : decode cX11_word 55 = .ok (.iaload, 1) := by decide +kernel
theorem dX11_word_56 : decode cX11_word 56 = .ok (.aload_n 0, 1) := by decide +kernel
theorem dX11_word_57 : decode cX11_word 57 = .ok (.getfield 50, 3) := by decide +kernel
theorem dX11_word_60 : decode cX11_word 60 = .ok (.iload 4, 2) := by decide +kernel
theorem dX11_word_62 : decode cX11_word 62 = .ok (.iaload, 1) := by decide +kernel
theorem dX11_word_63 : decode cX11_word 63 = .ok (.iload_n 1, 1) := by decide +kernel
theorem dX11_word_64 : decode cX11_word 64 = .ok (.iadd, 1) := by decide +kernel
theorem dX11_word_65 : decode cX11_word 65 = .ok (.aload_n 0, 1) := by decide +kernel
theorem dX11_word_66 : decode cX11_word 66 = .ok (.getfield 50, 3) := by decide +kernel
theorem dX11_word_69 : decode cX11_word 69 = .ok (.iload 4, 2) := by decide +kernel
theorem dX11_word_71 : decode cX11_word 71 = .ok (.iconst 1, 1) := by decide +kernel
theorem dX11_word_72 : decode cX11_word 72 = .ok (.iadd, 1) := by decide +kernel
theorem dX11_word_73 : decode cX11_word 73 = .ok (.iaload, 1) := by decide +kernel
theorem dX11_word_74 : decode cX11_word 74 = .ok (.if_icmp .ge 28, 3) := by decide +kernel
theorem dX11_word_77 : decode cX11_word 77 = .ok (.aload_n 0, 1) := by decide +kernel
theorem dX11_word_78 : decode cX11_word 78 = .ok (.getfield 47, 3) := by decide +kernel
theorem dX11_word_81 : decode cX11_word 81 = .ok (.aload_n 0, 1) := by decide +kernel
theorem dX11_word_82 : decode cX11_word 82 = .ok (.getfield 50, 3) := by decide +kernel
theorem dX11_word_85 : decode cX11_word 85 = .ok (.iload 4, 2) := by decide +kernel
theorem dX11_word_87 : decode cX11_word 87 = .ok (.iaload, 1) := by decide +kernel
theorem dX11_word_88 : decode cX11_word 88 = .ok (.iload_n 1, 1) := by decide +kernel
theorem dX11_word_89 : decode cX11_word 89 = .ok (.iadd, 1) := by decide +kernel
theorem dX11_word_90 : decode cX11_word 90 = .ok (.iaload, 1) := by decide +kernel
theorem dX11_word_91 : decode cX11_word 91 = .ok (.aload_n 0, 1) := by decide +kernel
theorem dX11_word_92 : decode cX11_word 92 = .ok (.invokevirtual 226, 3) := by decide +kernel
theorem dX11_word_95 : decode cX11_word 95 = .ok (.if_icmp .ne 7, 3) := by decide +kernel
theorem dX11_word_98 : decode cX11_word 98 = .ok (.iconst 1, 1) := by decide +kernel
theorem dX11_word_99 : decode cX11_word 99 = .ok (.goto 4, 3) := by decide +kernel
theorem dX11_word_102 : decode cX11_word 102 = .ok (.iconst 0, 1) := by decide +kernel
theorem dX11_word_103 : decode cX11_word 103 = .ok (.iand, 1) := by decide +kernel
theorem dX11_word_104 : decode cX11_word 104 = .ok (.iastore, 1) := by decide +kernel
theorem dX11_word_105 : decode cX11_word 105 = .ok (.iload_n 3, 1) := by decide +kernel
theorem dX11_word_106 : decode cX11_word 106 = .ok (.aload_n 0, 1) := by decide +kernel
theorem dX11_word_107 : decode cX11_word 107 = .ok (.getfield 44, 3) := by decide +kernel
theorem dX11_word_110 : decode cX11_word 110 = .ok (.iload 4, 2) := by decide +kernel
theorem dX11_word_112 : decode cX11_word 112 = .ok (.iaload, 1) := by decide +kernel
theorem dX11_word_113 : decode cX11_word 113 = .ok (.iconst 1, 1) := by decide +kernel
theorem dX11_word_114 : decode cX11_word 114 = .ok (.if_icmp .ne 7, 3) := by decide +kernel
theorem dX11_word_117 : decode cX11_word 117 = .ok (.iconst 1, 1) := by decide +kernel
theorem dX11_word_118 : decode cX11_word 118 = .ok (.goto 4, 3) := by decide +kernel
theorem dX11_word_121 : decode cX11_word 121 = .ok (.iconst 0, 1) := by decide +kernel
theorem dX11_word_122 : decode cX11_word 122 = .ok (.ior, 1) := by decide +kernel
theorem dX11_word_123 : decode cX11_word 123 = .ok (.istore_n 3, 1) := by decide +kernel
theorem dX11_word_124 : decode cX11_word 124 = .ok (.iinc 4 1, 3) := by decide +kernel
theorem dX11_word_127 : decode cX11_word 127 = .ok (.goto (-86), 3) := by decide +kernel
theorem dX11_word_130 : decode cX11_word 130 = .ok (.aload_n 0, 1) := by decide +kernel
theorem dX11_word_131 : decode cX11_word 131 = .ok (.iload_n 3, 1) := by decide +kernel
theorem dX11_word_132 : decode cX11_word 132 = .ok (.ifCond .ne 7, 3) := by decide +kernel
theorem dX11_word_135 : decode cX11_word 135 = .ok (.iconst 1, 1) := by decide +kernel
theorem dX11_word_136 : decode cX11_word 136 = .ok (.goto 4, 3) := by decide +kernel
theorem dX11_word_139 : decode cX11_word 139 = .ok (.iconst 0, 1) := by decide +kernel
theorem dX11_word_140 : decode cX11_word 140 = .ok (.putfield 222, 3) := by decide +kernel
theorem dX11_word_143 : decode cX11_word 143 = .ok (.aload_n 0, 1) := by decide +kernel
theorem dX11_word_144 : decode cX11_word 144 = .ok (.dup, 1) := by decide +kernel
theorem dX11_word_145 : decode cX11_word 145 = .ok (.getfield 216, 3) := by decide +kernel
theorem dX11_word_148 : decode cX11_word 148 = .ok (.iload_n 3, 1) := by decide +kernel
theorem dX11_word_149 : decode cX11_word 149 = .ok (.ifCond .eq 7, 3) := by decide +kernel
theorem dX11_word_152 : decode cX11_word 152 = .ok (.iconst 1, 1) := by decide +kernel
theorem dX11_word_153 : decode cX11_word 153 = .ok (.goto 4, 3) := by decide +kernel
theorem dX11_word_156 : decode cX11_word 156 = .ok (.iconst 0, 1) := by decide +kernel
theorem dX11_word_157 : decode cX11_word 157 = .ok (.iadd, 1) := by decide +kernel
theorem dX11_word_158 : decode cX11_word 158 = .ok (.putfield 216, 3) := by decide +kernel
theorem dX11_word_161 : decode cX11_word 161 = .ok (.iinc 1 1, 3) := by decide +kernel
theorem dX11_word_164 : decode cX11_word 164 = .ok (.iconst 0, 1) := by decide +kernel
theorem dX11_word_165 : decode cX11_word 165 = .ok (.istore 4, 2) := by decide +kernel
theorem dX11_word_167 : decode cX11_word 167 = .ok (.iload 4, 2) := by decide +kernel
theorem dX11_word_169 : decode cX11_word 169 = .ok (.bipush 10, 2) := by decide +kernel
theorem dX11_word_171 : decode cX11_word 171 = .ok (.if_icmp .ge 48, 3) := by decide +kernel
theorem dX11_word_174 : decode cX11_word 174 = .ok (.aload_n 0, 1) := by decide +kernel
theorem dX11_word_175 : decode cX11_word 175 = .ok (.getfield 44, 3) := by decide +kernel
theorem dX11_word_178 : decode cX11_word 178 = .ok (.iload 4, 2) := by decide +kernel
theorem dX11_word_180 : decode cX11_word 180 = .ok (.iaload, 1) := by decide +kernel
theorem dX11_word_181 : decode cX11_word 181 = .ok (.iconst 1, 1) := by decide +kernel
theorem dX11_word_182 : decode cX11_word 182 = .ok (.if_icmp .ne 29, 3) := by decide +kernel
theorem dX11_word_185 : decode cX11_word 185 = .ok (.aload_n 0, 1) := by decide +kernel
theorem dX11_word_186 : decode cX11_word 186 = .ok (.getfield 50, 3) := by decide +kernel
theorem dX11_word_189 : decode cX11_word 189 = .ok (.iload 4, 2) := by decide +kernel
theorem dX11_word_191 : decode cX11_word 191 = .ok (.iaload, 1) := by decide +kernel
theorem dX11_word_192 : decode cX11_word 192 = .ok (.iload_n 1, 1) := by decide +kernel
theorem dX11_word_193 : decode cX11_word 193 = .ok (.iadd, 1) := by decide +kernel
theorem dX11_word_194 : decode cX11_word 194 = .ok (.aload_n 0, 1) := by decide +kernel
theorem dX11_word_195 : decode cX11_word 195 = .ok (.getfield 50, 3) := by decide +kernel
theorem dX11_word_198 : decode cX11_word 198 = .ok (.iload 4, 2) := by decide +kernel
theorem dX11_word_200 : decode cX11_word 200 = .ok (.iconst 1, 1) := by decide +kernel
theorem dX11_word_201 : decode cX11_word 201 = .ok (.iadd, 1) := by decide +kernel
theorem dX11_word_202 : decode cX11_word 202 = .ok (.iaload, 1) := by decide +kernel
theorem dX11_word_203 : decode cX11_word 203 = .ok (.if_icmp .ne 8, 3) := by decide +kernel
theorem dX11_word_206 : decode cX11_word 206 = .ok (.iload 4, 2) := by decide +kernel
theorem dX11_word_208 : decode cX11_word 208 = .ok (.goto 4, 3) := by decide +kernel
theorem dX11_word_211 : decode cX11_word 211 = .ok (.iload_n 2, 1) := by decide +kernel
theorem dX11_word_212 : decode cX11_word 212 = .ok (.istore_n 2, 1) := by decide +kernel
theorem dX11_word_213 : decode cX11_word 213 = .ok (.iinc 4 1, 3) := by decide +kernel
theorem dX11_word_216 : decode cX11_word 216 = .ok (.goto (-49), 3) := by decide +kernel
theorem dX11_word_219 : decode cX11_word 219 = .ok (.goto (-194), 3) := by decide +kernel
theorem dX11_word_222 : decode cX11_word 222 = .ok (.iload_n 2, 1) := by decide +kernel
theorem dX11_word_223 : decode cX11_word 223 = .ok (.ireturn, 1) := by decide +kernel
theorem dX11_does_0 : decode cX11_does 0 = .ok (.iload_n 1, 1) := by decide +kernel
theorem dX11_does_1 : decode cX11_does 1 = .ok (.tableswitch 120 0 8 #[51, 57, 66, 73, 79, 85, 91, 100, 110], 51) := by decide +kernel
theorem dX11_does_52 : decode cX11_does 52 = .ok (.aload_n 0, 1) := by decide +kernel
theorem dX11_does_53 : decode cX11_does 53 = .ok (.iload_n 2, 1) := by decide +kernel
theorem dX11_does_54 : decode cX11_does 54 = .ok (.invokevirtual 81, 3) := by decide +kernel
theorem dX11_does_57 : decode cX11_does 57 = .ok (.ireturn, 1) := by decide +kernel
theorem dX11_does_58 : decode cX11_does 58 = .ok (.aload_n 0, 1) := by decide +kernel
theorem dX11_does_59 : decode cX11_does 59 = .ok (.iload_n 2, 1) := by decide +kernel
theorem dX11_does_60 : decode cX11_does 60 = .ok (.iload_n 3, 1) := by decide +kernel
theorem dX11_does_61 : decode cX11_does 61 = .ok (.iload 4, 2) := by decide +kernel
theorem dX11_does_63 : decode cX11_does 63 = .ok (.invokevirtual 94, 3) := by decide +kernel
theorem dX11_does_66 : decode cX11_does 66 = .ok (.ireturn, 1) := by decide +kernel
theorem dX11_does_67 : decode cX11_does 67 = .ok (.aload_n 0, 1) := by decide +kernel
theorem dX11_does_68 : decode cX11_does 68 = .ok (.iload_n 2, 1) := by decide +kernel
theorem dX11_does_69 : decode cX11_does 69 = .ok (.iload_n 3, 1) := by decide +kernel
theorem dX11_does_70 : decode cX11_does 70 = .ok (.invokevirtual 105, 3) := by decide +kernel
theorem dX11_does_73 : decode cX11_does 73 = .ok (.ireturn, 1) := by decide +kernel
theorem dX11_does_74 : decode cX11_does 74 = .ok (.aload_n 0, 1) := by decide +kernel
theorem dX11_does_75 : decode cX11_does 75 = .ok (.iload_n 2, 1) := by decide +kernel
theorem dX11_does_76 : decode cX11_does 76 = .ok (.invokevirtual 111, 3) := by decide +kernel
theorem dX11_does_79 : decode cX11_does 79 = .ok (.ireturn, 1) := by decide +kernel
theorem dX11_does_80 : decode cX11_does 80 = .ok (.aload_n 0, 1) := by decide +kernel
theorem dX11_does_81 : decode cX11_does 81 = .ok (.iload_n 2, 1) := by decide +kernel
theorem dX11_does_82 : decode cX11_does 82 = .ok (.invokevirtual 114, 3) := by decide +kernel
theorem dX11_does_85 : decode cX11_does 85 = .ok (.ireturn, 1) := by decide +kernel
theorem dX11_does_86 : decode cX11_does 86 = .ok (.aload_n 0, 1) := by decide +kernel
theorem dX11_does_87 : decode cX11_does 87 = .ok (.iload_n 2, 1) := by decide +kernel
theorem dX11_does_88 : decode cX11_does 88 = .ok (.invokevirtual 120, 3) := by decide +kernel
theorem dX11_does_91 : decode cX11_does 91 = .ok (.ireturn, 1) := by decide +kernel
theorem dX11_does_92 : decode cX11_does 92 = .ok (.aload_n 0, 1) := by decide +kernel
theorem dX11_does_93 : decode cX11_does 93 = .ok (.iload_n 2, 1) := by decide +kernel
theorem dX11_does_94 : decode cX11_does 94 = .ok (.iload_n 3, 1) := by decide +kernel
theorem dX11_does_95 : decode cX11_does 95 = .ok (.iload 4, 2) := by decide +kernel
theorem dX11_does_97 : decode cX11_does 97 = .ok (.invokevirtual 173, 3) := by decide +kernel
theorem dX11_does_100 : decode cX11_does 100 = .ok (.ireturn, 1) := by decide +kernel
theorem dX11_does_101 : decode cX11_does 101 = .ok (.aload_n 0, 1) := by decide +kernel
theorem dX11_does_102 : decode cX11_does 102 = .ok (.aload_n 0, 1) := by decide +kernel
theorem dX11_does_103 : decode cX11_does 103 = .ok (.iload_n 2, 1) := by decide +kernel
theorem dX11_does_104 : decode cX11_does 104 = .ok (.invokevirtual 176, 3) := by decide +kernel
theorem dX11_does_107 : decode cX11_does 107 = .ok (.invokevirtual 179, 3) := by decide +kernel
theorem dX11_does_110 : decode cX11_does 110 = .ok (.ireturn, 1) := by decide +kernel
theorem dX11_does_111 : decode cX11_does 111 = .ok (.aload_n 0, 1) := by decide +kernel
theorem dX11_does_112 : decode cX11_does 112 = .ok (.aload_n 0, 1) := by decide +kernel
theorem dX11_does_113 : decode cX11_does 113 = .ok (.iload_n 2, 1) := by decide +kernel
theorem dX11_does_114 : decode cX11_does 114 = .ok (.invokevirtual 176, 3) := by decide +kernel
theorem dX11_does_117 : decode cX11_does 117 = .ok (.invokevirtual 186, 3) := by decide +kernel
theorem dX11_does_120 : decode cX11_does 120 = .ok (.ireturn, 1) := by decide +kernel
theorem dX11_does_121 : decode cX11_does 121 = .ok (.aload_n 0, 1) := by decide +kernel
theorem dX11_does_122 : decode cX11_does 122 = .ok (.iload_n 2, 1) := by decide +kernel
theorem dX11_does_123 : decode cX11_does 123 = .ok (.invokevirtual 189, 3) := by decide +kernel
theorem dX11_does_126 : decode cX11_does 126 = .ok (.ireturn, 1) := by decide +kernel
theorem dX11_command_0 : decode cX11_command 0 = .ok (.aload_n 0, 1) := by decide +kernel
theorem dX11_command_1 : decode cX11_command 1 = .ok (.invokevirtual 235, 3) := by decide +kernel
theorem dX11_command_4 : decode cX11_command 4 = .ok (.istore_n 1, 1) := by decide +kernel
theorem dX11_command_5 : decode cX11_command 5 = .ok (.iconst 0, 1) := by decide +kernel
theorem dX11_command_6 : decode cX11_command 6 = .ok (.istore_n 2, 1) := by decide +kernel
theorem dX11_command_7 : decode cX11_command 7 = .ok (.iconst 0, 1) := by decide +kernel
theorem dX11_command_8 : decode cX11_command 8 = .ok (.istore_n 3, 1) := by decide +kernel
theorem dX11_command_9 : decode cX11_command 9 = .ok (.aload_n 0, 1) := by decide +kernel
theorem dX11_command_10 : decode cX11_command 10 = .ok (.getfield 222, 3) := by decide +kernel
theorem dX11_command_13 : decode cX11_command 13 = .ok (.ifCond .eq 4, 3) := by decide +kernel
theorem dX11_command_16 : decode cX11_command 16 = .ok (.return_, 1) := by decide +kernel
theorem dX11_command_17 : decode cX11_command 17 = .ok (.aload_n 0, 1) := by decide +kernel
theorem dX11_command_18 : decode cX11_command 18 = .ok (.iload_n 1, 1) := by decide +kernel
theorem dX11_command_19 : decode cX11_command 19 = .ok (.iconst 1, 1) := by decide +kernel
theorem dX11_command_20 : decode cX11_command 20 = .ok (.iconst 4, 1) := by decide +kernel
theorem dX11_command_21 : decode cX11_command 21 = .ok (.invokestatic 63, 3) := by decide +kernel
theorem dX11_command_24 : decode cX11_command 24 = .ok (.ifCond .eq 7, 3) := by decide +kernel
theorem dX11_command_27 : decode cX11_command 27 = .ok (.iconst 1, 1) := by decide +kernel
theorem dX11_command_28 : decode cX11_command 28 = .ok (.goto 4, 3) := by decide +kernel
theorem dX11_command_31 : decode cX11_command 31 = .ok (.iconst 3, 1) := by decide +kernel
theorem dX11_command_32 : decode cX11_command 32 = .ok (.invokevirtual 232, 3) := by decide +kernel
theorem dX11_command_35 : decode cX11_command 35 = .ok (.istore 4, 2) := by decide +kernel
theorem dX11_command_37 : decode cX11_command 37 = .ok (.iload_n 1, 1) := by decide +kernel
theorem dX11_command_38 : decode cX11_command 38 = .ok (.iconst 1, 1) := by decide +kernel
theorem dX11_command_39 : decode cX11_command 39 = .ok (.if_icmp .ne 18, 3) := by decide +kernel
theorem dX11_command_42 : decode cX11_command 42 = .ok (.aload_n 0, 1) := by decide +kernel
theorem dX11_command_43 : decode cX11_command 43 = .ok (.getfield 222, 3) := by decide +kernel
theorem dX11_command_46 : decode cX11_command 46 = .ok (.ifCond .ne 11, 3) := by decide +kernel
theorem dX11_command_49 : decode cX11_command 49 = .ok (.aload_n 0, 1) := by decide +kernel
theorem dX11_command_50 : decode cX11_command 50 = .ok (.bipush 32, 2) := by decide +kernel
theorem dX11_command_52 : decode cX11_command 52 = .ok (.iconst 1, 1) := by decide +kernel
theorem dX11_command_53 : decode cX11_command 53 = .ok (.invokevirtual 238, 3) := by decide +kernel
theorem dX11_command_56 : decode cX11_command 56 = .ok (.istore_n 2, 1) := by decide +kernel
theorem dX11_command_57 : decode cX11_command 57 = .ok (.iload_n 1, 1) := by decide +kernel
theorem dX11_command_58 : decode cX11_command 58 = .ok (.iconst 2, 1) := by decide +kernel
theorem dX11_command_59 : decode cX11_command 59 = .ok (.if_icmp .ne 15, 3) := by decide +kernel
theorem dX11_command_62 : decode cX11_command 62 = .ok (.aload_n 0, 1) := by decide +kernel
theorem dX11_command_63 : decode cX11_command 63 = .ok (.getfield 222, 3) := by decide +kernel
theorem dX11_command_66 : decode cX11_command 66 = .ok (.ifCond .ne 8, 3) := by decide +kernel
theorem dX11_command_69 : decode cX11_command 69 = .ok (.aload_n 0, 1) := by decide +kernel
theorem dX11_command_70 : decode cX11_command 70 = .ok (.invokevirtual 241, 3) := by decide +kernel
theorem dX11_command_73 : decode cX11_command 73 = .ok (.istore_n 2, 1) := by decide +kernel
theorem dX11_command_74 : decode cX11_command 74 = .ok (.iload_n 1, 1) := by decide +kernel
theorem dX11_command_75 : decode cX11_command 75 = .ok (.bipush 6, 2) := by decide +kernel
theorem dX11_command_77 : decode cX11_command 77 = .ok (.if_icmp .ne 18, 3) := by decide +kernel
theorem dX11_command_80 : decode cX11_command 80 = .ok (.aload_n 0, 1) := by decide +kernel
theorem dX11_command_81 : decode cX11_command 81 = .ok (.getfield 222, 3) := by decide +kernel
theorem dX11_command_84 : decode cX11_command 84 = .ok (.ifCond .ne 11, 3) := by decide +kernel
theorem dX11_command_87 : decode cX11_command 87 = .ok (.aload_n 0, 1) := by decide +kernel
theorem dX11_command_88 : decode cX11_command 88 = .ok (.bipush 47, 2) := by decide +kernel
theorem dX11_command_90 : decode cX11_command 90 = .ok (.iconst 3, 1) := by decide +kernel
theorem dX11_command_91 : decode cX11_command 91 = .ok (.invokevirtual 238, 3) := by decide +kernel
theorem dX11_command_94 : decode cX11_command 94 = .ok (.istore_n 2, 1) := by decide +kernel
theorem dX11_command_95 : decode cX11_command 95 = .ok (.iload_n 1, 1) := by decide +kernel
theorem dX11_command_96 : decode cX11_command 96 = .ok (.iconst 1, 1) := by decide +kernel
theorem dX11_command_97 : decode cX11_command 97 = .ok (.if_icmp .ne 15, 3) := by decide +kernel
theorem dX11_command_100 : decode cX11_command 100 = .ok (.aload_n 0, 1) := by decide +kernel
theorem dX11_command_101 : decode cX11_command 101 = .ok (.getfield 222, 3) := by decide +kernel
theorem dX11_command_104 : decode cX11_command 104 = .ok (.ifCond .ne 8, 3) := by decide +kernel
theorem dX11_command_107 : decode cX11_command 107 = .ok (.aload_n 0, 1) := by decide +kernel
theorem dX11_command_108 : decode cX11_command 108 = .ok (.invokevirtual 241, 3) := by decide +kernel
theorem dX11_command_111 : decode cX11_command 111 = .ok (.istore_n 3, 1) := by decide +kernel
theorem dX11_command_112 : decode cX11_command 112 = .ok (.iload_n 1, 1) := by decide +kernel
theorem dX11_command_113 : decode cX11_command 113 = .ok (.bipush 6, 2) := by decide +kernel
theorem dX11_command_115 : decode cX11_command 115 = .ok (.if_icmp .ne 18, 3) := by decide +kernel
theorem dX11_command_118 : decode cX11_command 118 = .ok (.aload_n 0, 1) := by decide +kernel
theorem dX11_command_119 : decode cX11_command 119 = .ok (.getfield 222, 3) := by decide +kernel
theorem dX11_command_122 : decode cX11_command 122 = .ok (.ifCond .ne 11, 3) := by decide +kernel
theorem dX11_command_125 : decode cX11_command 125 = .ok (.aload_n 0, 1) := by decide +kernel
theorem dX11_command_126 : decode cX11_command 126 = .ok (.bipush 32, 2) := by decide +kernel
theorem dX11_command_128 : decode cX11_command 128 = .ok (.iconst 1, 1) := by decide +kernel
theorem dX11_command_129 : decode cX11_command 129 = .ok (.invokevirtual 238, 3) := by decide +kernel
theorem dX11_command_132 : decode cX11_command 132 = .ok (.istore_n 3, 1) := by decide +kernel
theorem dX11_command_133 : decode cX11_command 133 = .ok (.aload_n 0, 1) := by decide +kernel
theorem dX11_command_134 : decode cX11_command 134 = .ok (.getfield 222, 3) := by decide +kernel
theorem dX11_command_137 : decode cX11_command 137 = .ok (.ifCond .ne 10, 3) := by decide +kernel
theorem dX11_command_140 : decode cX11_command 140 = .ok (.aload_n 0, 1) := by decide +kernel
theorem dX11_command_141 : decode cX11_command 141 = .ok (.getfield 244, 3) := by decide +kernel
theorem dX11_command_144 : decode cX11_command 144 = .ok (.ifCond .ne 4, 3) := by decide +kernel
theorem dX11_command_147 : decode cX11_command 147 = .ok (.return_, 1) := by decide +kernel
theorem dX11_command_148 : decode cX11_command 148 = .ok (.aload_n 0, 1) := by decide +kernel
theorem dX11_command_149 : decode cX11_command 149 = .ok (.iload_n 1, 1) := by decide +kernel
theorem dX11_command_150 : decode cX11_command 150 = .ok (.iload 4, 2) := by decide +kernel
theorem dX11_command_152 : decode cX11_command 152 = .ok (.iload_n 2, 1) := by decide +kernel
theorem dX11_command_153 : decode cX11_command 153 = .ok (.iload_n 3, 1) := by decide +kernel
theorem dX11_command_154 : decode cX11_command 154 = .ok (.invokevirtual 247, 3) := by decide +kernel
theorem dX11_command_157 : decode cX11_command 157 = .ok (.istore 5, 2) := by decide +kernel
theorem dX11_command_159 : decode cX11_command 159 = .ok (.return_, 1) := by decide +kernel
theorem dX11_commands_0 : decode cX11_commands 0 = .ok (.aload_n 0, 1) := by decide +kernel
theorem dX11_commands_1 : decode cX11_commands 1 = .ok (.iconst 0, 1) := by decide +kernel
theorem dX11_commands_2 : decode cX11_commands 2 = .ok (.putfield 216, 3) := by decide +kernel
theorem dX11_commands_5 : decode cX11_commands 5 = .ok (.aload_n 0, 1) := by decide +kernel
theorem dX11_commands_6 : decode cX11_commands 6 = .ok (.iconst 0, 1) := by decide +kernel
theorem dX11_commands_7 : decode cX11_commands 7 = .ok (.putfield 222, 3) := by decide +kernel
theorem dX11_commands_10 : decode cX11_commands 10 = .ok (.iconst 1, 1) := by decide +kernel
theorem dX11_commands_11 : decode cX11_commands 11 = .ok (.istore_n 1, 1) := by decide +kernel
theorem dX11_commands_12 : decode cX11_commands 12 = .ok (.aload_n 0, 1) := by decide +kernel
theorem dX11_commands_13 : decode cX11_commands 13 = .ok (.invokevirtual 251, 3) := by decide +kernel
theorem dX11_commands_16 : decode cX11_commands 16 = .ok (.aload_n 0, 1) := by decide +kernel
theorem dX11_commands_17 : decode cX11_commands 17 = .ok (.getfield 222, 3) := by decide +kernel
theorem dX11_commands_20 : decode cX11_commands 20 = .ok (.ifCond .ne 44, 3) := by decide +kernel
theorem dX11_commands_23 : decode cX11_commands 23 = .ok (.aload_n 0, 1) := by decide +kernel
theorem dX11_commands_24 : decode cX11_commands 24 = .ok (.getfield 53, 3) := by decide +kernel
theorem dX11_commands_27 : decode cX11_commands 27 = .ok (.ifCond .ne 37, 3) := by decide +kernel
theorem dX11_commands_30 : decode cX11_commands 30 = .ok (.aload_n 0, 1) := by decide +kernel
theorem dX11_commands_31 : decode cX11_commands 31 = .ok (.getfield 216, 3) := by decide +kernel
theorem dX11_commands_34 : decode cX11_commands 34 = .ok (.aload_n 0, 1) := by decide +kernel
theorem dX11_commands_35 : decode cX11_commands 35 = .ok (.getfield 219, 3) := by decide +kernel
theorem dX11_commands_38 : decode cX11_commands 38 = .ok (.if_icmp .ge 26, 3) := by decide +kernel
theorem dX11_commands_41 : decode cX11_commands 41 = .ok (.aload_n 0, 1) := by decide +kernel
theorem dX11_commands_42 : decode cX11_commands 42 = .ok (.bipush 59, 2) := by decide +kernel
theorem dX11_commands_44 : decode cX11_commands 44 = .ok (.invokevirtual 229, 3) := by decide +kernel
theorem dX11_commands_47 : decode cX11_commands 47 = .ok (.aload_n 0, 1) := by decide +kernel
theorem dX11_commands_48 : decode cX11_commands 48 = .ok (.getfield 222, 3) := by decide +kernel
theorem dX11_commands_51 : decode cX11_commands 51 = .ok (.ifCond .ne 7, 3) := by decide +kernel
theorem dX11_commands_54 : decode cX11_commands 54 = .ok (.aload_n 0, 1) := by decide +kernel
theorem dX11_commands_55 : decode cX11_commands 55 = .ok (.invokevirtual 251, 3) := by decide +kernel
theorem dX11_commands_58 : decode cX11_commands 58 = .ok (.iinc 1 1, 3) := by decide +kernel
theorem dX11_commands_61 : decode cX11_commands 61 = .ok (.goto (-45), 3) := by decide +kernel
theorem dX11_commands_64 : decode cX11_commands 64 = .ok (.iload_n 1, 1) := by decide +kernel
theorem dX11_commands_65 : decode cX11_commands 65 = .ok (.ireturn, 1) := by decide +kernel
theorem dX11_execute_0 : decode cX11_execute 0 = .ok (.aload_n 0, 1) := by decide +kernel
theorem dX11_execute_1 : decode cX11_execute 1 = .ok (.invokevirtual 78, 3) := by decide +kernel
theorem dX11_execute_4 : decode cX11_execute 4 = .ok (.aload_n 0, 1) := by decide +kernel
theorem dX11_execute_5 : decode cX11_execute 5 = .ok (.aload_n 0, 1) := by decide +kernel
theorem dX11_execute_6 : decode cX11_execute 6 = .ok (.getfield 213, 3) := by decide +kernel
theorem dX11_execute_9 : decode cX11_execute 9 = .ok (.putfield 219, 3) := by decide +kernel
theorem dX11_execute_12 : decode cX11_execute 12 = .ok (.aload_n 0, 1) := by decide +kernel
theorem dX11_execute_13 : decode cX11_execute 13 = .ok (.iconst 0, 1) := by decide +kernel
theorem dX11_execute_14 : decode cX11_execute 14 = .ok (.putfield 213, 3) := by decide +kernel
theorem dX11_execute_17 : decode cX11_execute 17 = .ok (.aload_n 0, 1) := by decide +kernel
theorem dX11_execute_18 : decode cX11_execute 18 = .ok (.iconst 0, 1) := by decide +kernel
theorem dX11_execute_19 : decode cX11_execute 19 = .ok (.putfield 244, 3) := by decide +kernel
theorem dX11_execute_22 : decode cX11_execute 22 = .ok (.aload_n 0, 1) := by decide +kernel
theorem dX11_execute_23 : decode cX11_execute 23 = .ok (.invokevirtual 254, 3) := by decide +kernel
theorem dX11_execute_26 : decode cX11_execute 26 = .ok (.istore_n 1, 1) := by decide +kernel
theorem dX11_execute_27 : decode cX11_execute 27 = .ok (.aload_n 0, 1) := by decide +kernel
theorem dX11_execute_28 : decode cX11_execute 28 = .ok (.getfield 222, 3) := by decide +kernel
theorem dX11_execute_31 : decode cX11_execute 31 = .ok (.ifCond .eq 17, 3) := by decide +kernel
theorem dX11_execute_34 : decode cX11_execute 34 = .ok (.aload_n 0, 1) := by decide +kernel
theorem dX11_execute_35 : decode cX11_execute 35 = .ok (.aload_n 0, 1) := by decide +kernel
theorem dX11_execute_36 : decode cX11_execute 36 = .ok (.getfield 216, 3) := by decide +kernel
theorem dX11_execute_39 : decode cX11_execute 39 = .ok (.putfield 7, 3) := by decide +kernel
theorem dX11_execute_42 : decode cX11_execute 42 = .ok (.aload_n 0, 1) := by decide +kernel
theorem dX11_execute_43 : decode cX11_execute 43 = .ok (.iconst 1, 1) := by decide +kernel
theorem dX11_execute_44 : decode cX11_execute 44 = .ok (.invokevirtual 74, 3) := by decide +kernel
theorem dX11_execute_47 : decode cX11_execute 47 = .ok (.ireturn, 1) := by decide +kernel
theorem dX11_execute_48 : decode cX11_execute 48 = .ok (.aload_n 0, 1) := by decide +kernel
theorem dX11_execute_49 : decode cX11_execute 49 = .ok (.iconst 1, 1) := by decide +kernel
theorem dX11_execute_50 : decode cX11_execute 50 = .ok (.putfield 244, 3) := by decide +kernel
theorem dX11_execute_53 : decode cX11_execute 53 = .ok (.aload_n 0, 1) := by decide +kernel
theorem dX11_execute_54 : decode cX11_execute 54 = .ok (.invokevirtual 254, 3) := by decide +kernel
theorem dX11_execute_57 : decode cX11_execute 57 = .ok (.istore_n 1, 1) := by decide +kernel
theorem dX11_execute_58 : decode cX11_execute 58 = .ok (.aload_n 0, 1) := by decide +kernel
theorem dX11_execute_59 : decode cX11_execute 59 = .ok (.getfield 53, 3) := by decide +kernel
theorem dX11_execute_62 : decode cX11_execute 62 = .ok (.ifCond .eq 15, 3) := by decide +kernel
theorem dX11_execute_65 : decode cX11_execute 65 = .ok (.aload_n 0, 1) := by decide +kernel
theorem dX11_execute_66 : decode cX11_execute 66 = .ok (.iload_n 1, 1) := by decide +kernel
theorem dX11_execute_67 : decode cX11_execute 67 = .ok (.iconst 1, 1) := by decide +kernel
theorem dX11_execute_68 : decode cX11_execute 68 = .ok (.isub, 1) := by decide +kernel
theorem dX11_execute_69 : decode cX11_execute 69 = .ok (.putfield 13, 3) := by decide +kernel
theorem dX11_execute_72 : decode cX11_execute 72 = .ok (.aload_n 0, 1) := by decide +kernel
theorem dX11_execute_73 : decode cX11_execute 73 = .ok (.iconst 2, 1) := by decide +kernel
theorem dX11_execute_74 : decode cX11_execute 74 = .ok (.putfield 53, 3) := by decide +kernel
theorem dX11_execute_77 : decode cX11_execute 77 = .ok (.aload_n 0, 1) := by decide +kernel
theorem dX11_execute_78 : decode cX11_execute 78 = .ok (.iload_n 1, 1) := by decide +kernel
theorem dX11_execute_79 : decode cX11_execute 79 = .ok (.invokevirtual 84, 3) := by decide +kernel
theorem dX11_execute_82 : decode cX11_execute 82 = .ok (.ireturn, 1) := by decide +kernel
theorem dX11_errorPosition_0 : decode cX11_errorPosition 0 = .ok (.aload_n 0, 1) := by decide +kernel
theorem dX11_errorPosition_1 : decode cX11_errorPosition 1 = .ok (.aload_n 0, 1) := by decide +kernel
theorem dX11_errorPosition_2 : decode cX11_errorPosition 2 = .ok (.getfield 7, 3) := by decide +kernel
theorem dX11_errorPosition_5 : decode cX11_errorPosition 5 = .ok (.ifCond .ge 7, 3) := by decide +kernel
theorem dX11_errorPosition_8 : decode cX11_errorPosition 8 = .ok (.iconst 1, 1) := by decide +kernel
theorem dX11_errorPosition_9 : decode cX11_errorPosition 9 = .ok (.goto 4, 3) := by decide +kernel
theorem dX11_errorPosition_12 : decode cX11_errorPosition 12 = .ok (.iconst 0, 1) := by decide +kernel
theorem dX11_errorPosition_13 : decode cX11_errorPosition 13 = .ok (.putfield 53, 3) := by decide +kernel
theorem dX11_errorPosition_16 : decode cX11_errorPosition 16 = .ok (.aload_n 0, 1) := by decide +kernel
theorem dX11_errorPosition_17 : decode cX11_errorPosition 17 = .ok (.getfield 53, 3) := by decide +kernel
theorem dX11_errorPosition_20 : decode cX11_errorPosition 20 = .ok (.ifCond .ne 10, 3) := by decide +kernel
theorem dX11_errorPosition_23 : decode cX11_errorPosition 23 = .ok (.aload_n 0, 1) := by decide +kernel
theorem dX11_errorPosition_24 : decode cX11_errorPosition 24 = .ok (.getfield 7, 3) := by decide +kernel
theorem dX11_errorPosition_27 : decode cX11_errorPosition 27 = .ok (.goto 4, 3) := by decide +kernel
theorem dX11_errorPosition_30 : decode cX11_errorPosition 30 = .ok (.iconst 0, 1) := by decide +kernel
theorem dX11_errorPosition_31 : decode cX11_errorPosition 31 = .ok (.ireturn, 1) := by decide +kernel
theorem dX11_failedCommand_0 : decode cX11_failedCommand 0 = .ok (.aload_n 0, 1) := by decide +kernel
theorem dX11_failedCommand_1 : decode cX11_failedCommand 1 = .ok (.aload_n 0, 1) := by decide +kernel
theorem dX11_failedCommand_2 : decode cX11_failedCommand 2 = .ok (.getfield 13, 3) := by decide +kernel
theorem dX11_failedCommand_5 : decode cX11_failedCommand 5 = .ok (.ifCond .ge 7, 3) := by decide +kernel
theorem dX11_failedCommand_8 : decode cX11_failedCommand 8 = .ok (.iconst 1, 1) := by decide +kernel
theorem dX11_failedCommand_9 : decode cX11_failedCommand 9 = .ok (.goto 4, 3) := by decide +kernel
theorem dX11_failedCommand_12 : decode cX11_failedCommand 12 = .ok (.iconst 0, 1) := by decide +kernel
theorem dX11_failedCommand_13 : decode cX11_failedCommand 13 = .ok (.putfield 53, 3) := by decide +kernel
theorem dX11_failedCommand_16 : decode cX11_failedCommand 16 = .ok (.aload_n 0, 1) := by decide +kernel
theorem dX11_failedCommand_17 : decode cX11_failedCommand 17 = .ok (.getfield 53, 3) := by decide +kernel
theorem dX11_failedCommand_20 : decode cX11_failedCommand 20 = .ok (.ifCond .ne 10, 3) := by decide +kernel
theorem dX11_failedCommand_23 : decode cX11_failedCommand 23 = .ok (.aload_n 0, 1) := by decide +kernel
theorem dX11_failedCommand_24 : decode cX11_failedCommand 24 = .ok (.getfield 13, 3) := by decide +kernel
theorem dX11_failedCommand_27 : decode cX11_failedCommand 27 = .ok (.goto 4, 3) := by decide +kernel
theorem dX11_failedCommand_30 : decode cX11_failedCommand 30 = .ok (.iconst 0, 1) := by decide +kernel
theorem dX11_failedCommand_31 : decode cX11_failedCommand 31 = .ok (.ireturn, 1) := by decide +kernel
theorem dX11_undo_0 : decode cX11_undo 0 = .ok (.aload_n 0, 1) := by decide +kernel
theorem dX11_undo_1 : decode cX11_undo 1 = .ok (.aload_n 0, 1) := by decide +kernel
theorem dX11_undo_2 : decode cX11_undo 2 = .ok (.getfield 60, 3) := by decide +kernel
theorem dX11_undo_5 : decode cX11_undo 5 = .ok (.ifCond .ne 7, 3) := by decide +kernel
theorem dX11_undo_8 : decode cX11_undo 8 = .ok (.iconst 1, 1) := by decide +kernel
theorem dX11_undo_9 : decode cX11_undo 9 = .ok (.goto 4, 3) := by decide +kernel
theorem dX11_undo_12 : decode cX11_undo 12 = .ok (.iconst 0, 1) := by decide +kernel
theorem dX11_undo_13 : decode cX11_undo 13 = .ok (.putfield 53, 3) := by decide +kernel
theorem dX11_undo_16 : decode cX11_undo 16 = .ok (.aload_n 0, 1) := by decide +kernel
theorem dX11_undo_17 : decode cX11_undo 17 = .ok (.getfield 53, 3) := by decide +kernel
theorem dX11_undo_20 : decode cX11_undo 20 = .ok (.ifCond .eq 5, 3) := by decide +kernel
theorem dX11_undo_23 : decode cX11_undo 23 = .ok (.iconst 0, 1) := by decide +kernel
theorem dX11_undo_24 : decode cX11_undo 24 = .ok (.ireturn, 1) := by decide +kernel
theorem dX11_undo_25 : decode cX11_undo 25 = .ok (.aload_n 0, 1) := by decide +kernel
theorem dX11_undo_26 : decode cX11_undo 26 = .ok (.dup, 1) := by decide +kernel
theorem dX11_undo_27 : decode cX11_undo 27 = .ok (.getfield 60, 3) := by decide +kernel
theorem dX11_undo_30 : decode cX11_undo 30 = .ok (.iconst 1, 1) := by decide +kernel
theorem dX11_undo_31 : decode cX11_undo 31 = .ok (.isub, 1) := by decide +kernel
theorem dX11_undo_32 : decode cX11_undo 32 = .ok (.putfield 60, 3) := by decide +kernel
theorem dX11_undo_35 : decode cX11_undo 35 = .ok (.iconst 0, 1) := by decide +kernel
theorem dX11_undo_36 : decode cX11_undo 36 = .ok (.istore_n 1, 1) := by decide +kernel
theorem dX11_undo_37 : decode cX11_undo 37 = .ok (.iload_n 1, 1) := by decide +kernel
theorem dX11_undo_38 : decode cX11_undo 38 = .ok (.bipush 118, 2) := by decide +kernel
theorem dX11_undo_40 : decode cX11_undo 40 = .ok (.if_icmp .ge 29, 3) := by decide +kernel
theorem dX11_undo_43 : decode cX11_undo 43 = .ok (.aload_n 0, 1) := by decide +kernel
theorem dX11_undo_44 : decode cX11_undo 44 = .ok (.getfield 16, 3) := by decide +kernel
theorem dX11_undo_47 : decode cX11_undo 47 = .ok (.iload_n 1, 1) := by decide +kernel
theorem dX11_undo_48 : decode cX11_undo 48 = .ok (.aload_n 0, 1) := by decide +kernel
theorem dX11_undo_49 : decode cX11_undo 49 = .ok (.getfield 26, 3) := by decide +kernel
theorem dX11_undo_52 : decode cX11_undo 52 = .ok (.aload_n 0, 1) := by decide +kernel
theorem dX11_undo_53 : decode cX11_undo 53 = .ok (.getfield 60, 3) := by decide +kernel
theorem dX11_undo_56 : decode cX11_undo 56 = .ok (.bipush 118, 2) := by decide +kernel
theorem dX11_undo_58 : decode cX11_undo 58 = .ok (.imul, 1) := by decide +kernel
theorem dX11_undo_59 : decode cX11_undo 59 = .ok (.iload_n 1, 1) := by decide +kernel
theorem dX11_undo_60 : decode cX11_undo 60 = .ok (.iadd, 1) := by decide +kernel
theorem dX11_undo_61 : decode cX11_undo 61 = .ok (.iaload, 1) := by decide +kernel
theorem dX11_undo_62 : decode cX11_undo 62 = .ok (.iastore, 1) := by decide +kernel
theorem dX11_undo_63 : decode cX11_undo 63 = .ok (.iinc 1 1, 3) := by decide +kernel
theorem dX11_undo_66 : decode cX11_undo 66 = .ok (.goto (-29), 3) := by decide +kernel
theorem dX11_undo_69 : decode cX11_undo 69 = .ok (.aload_n 0, 1) := by decide +kernel
theorem dX11_undo_70 : decode cX11_undo 70 = .ok (.getfield 60, 3) := by decide +kernel
theorem dX11_undo_73 : decode cX11_undo 73 = .ok (.ireturn, 1) := by decide +kernel
theorem dX11_save_0 : decode cX11_save 0 = .ok (.aload_n 0, 1) := by decide +kernel
theorem dX11_save_1 : decode cX11_save 1 = .ok (.iconst 0, 1) := by decide +kernel
theorem dX11_save_2 : decode cX11_save 2 = .ok (.putfield 53, 3) := by decide +kernel
theorem dX11_save_5 : decode cX11_save 5 = .ok (.aload_n 0, 1) := by decide +kernel
theorem dX11_save_6 : decode cX11_save 6 = .ok (.getfield 23, 3) := by decide +kernel
theorem dX11_save_9 : decode cX11_save 9 = .ok (.aload_n 0, 1) := by decide +kernel
theorem dX11_save_10 : decode cX11_save 10 = .ok (.getfield 16, 3) := by decide +kernel
theorem dX11_save_13 : decode cX11_save 13 = .ok (.invokestatic 56, 3) := by decide +kernel
theorem dX11_save_16 : decode cX11_save 16 = .ok (.aload_n 0, 1) := by decide +kernel
theorem dX11_save_17 : decode cX11_save 17 = .ok (.iconst 1, 1) := by decide +kernel
theorem dX11_save_18 : decode cX11_save 18 = .ok (.putfield 257, 3) := by decide +kernel
theorem dX11_save_21 : decode cX11_save 21 = .ok (.aload_n 0, 1) := by decide +kernel
theorem dX11_save_22 : decode cX11_save 22 = .ok (.getfield 16, 3) := by decide +kernel
theorem dX11_save_25 : decode cX11_save 25 = .ok (.iconst 2, 1) := by decide +kernel
theorem dX11_save_26 : decode cX11_save 26 = .ok (.iaload, 1) := by decide +kernel
theorem dX11_save_27 : decode cX11_save 27 = .ok (.ireturn, 1) := by decide +kernel
theorem dX11_restore_0 : decode cX11_restore 0 = .ok (.aload_n 0, 1) := by decide +kernel
theorem dX11_restore_1 : decode cX11_restore 1 = .ok (.aload_n 0, 1) := by decide +kernel
theorem dX11_restore_2 : decode cX11_restore 2 = .ok (.getfield 257, 3) := by decide +kernel
theorem dX11_restore_5 : decode cX11_restore 5 = .ok (.ifCond .eq 7, 3) := by decide +kernel
theorem dX11_restore_8 : decode cX11_restore 8 = .ok (.iconst 0, 1) := by decide +kernel
theorem dX11_restore_9 : decode cX11_restore 9 = .ok (.goto 4, 3) := by decide +kernel
theorem dX11_restore_12 : decode cX11_restore 12 = .ok (.iconst 1, 1) := by decide +kernel
theorem dX11_restore_13 : decode cX11_restore 13 = .ok (.putfield 53, 3) := by decide +kernel
theorem dX11_restore_16 : decode cX11_restore 16 = .ok (.aload_n 0, 1) := by decide +kernel
theorem dX11_restore_17 : decode cX11_restore 17 = .ok (.getfield 53, 3) := by decide +kernel
theorem dX11_restore_20 : decode cX11_restore 20 = .ok (.ifCond .eq 5, 3) := by decide +kernel
theorem dX11_restore_23 : decode cX11_restore 23 = .ok (.iconst 0, 1) := by decide +kernel
theorem dX11_restore_24 : decode cX11_restore 24 = .ok (.ireturn, 1) := by decide +kernel
theorem dX11_restore_25 : decode cX11_restore 25 = .ok (.aload_n 0, 1) := by decide +kernel
theorem dX11_restore_26 : decode cX11_restore 26 = .ok (.getfield 16, 3) := by decide +kernel
theorem dX11_restore_29 : decode cX11_restore 29 = .ok (.aload_n 0, 1) := by decide +kernel
theorem dX11_restore_30 : decode cX11_restore 30 = .ok (.getfield 23, 3) := by decide +kernel
theorem dX11_restore_33 : decode cX11_restore 33 = .ok (.invokestatic 56, 3) := by decide +kernel
theorem dX11_restore_36 : decode cX11_restore 36 = .ok (.aload_n 0, 1) := by decide +kernel
theorem dX11_restore_37 : decode cX11_restore 37 = .ok (.iconst 0, 1) := by decide +kernel
theorem dX11_restore_38 : decode cX11_restore 38 = .ok (.putfield 60, 3) := by decide +kernel
theorem dX11_restore_41 : decode cX11_restore 41 = .ok (.aload_n 0, 1) := by decide +kernel
theorem dX11_restore_42 : decode cX11_restore 42 = .ok (.getfield 16, 3) := by decide +kernel
theorem dX11_restore_45 : decode cX11_restore 45 = .ok (.iconst 2, 1) := by decide +kernel
theorem dX11_restore_46 : decode cX11_restore 46 = .ok (.iaload, 1) := by decide +kernel
theorem dX11_restore_47 : decode cX11_restore 47 = .ok (.ireturn, 1) := by decide +kernel
