def zWk (f : Nat → Nat) (j : Nat) : Nat → Int := fun k => if k < j then (f k : Int) else 0
theorem zWk_0 (f : Nat → Nat) : zWk f 0 = fun _ => 0 := by funext k; unfold zWk; rw [if_neg (by omega)]
theorem zWk_s (f : Nat → Nat) (j : Nat) {c : Int} (h : (f j : Int) = c) : zU (zWk f j) j c = zWk f (j + 1) := by
  funext k
  unfold zU zWk
  by_cases e : k = j
  · rw [if_pos e, if_pos (by omega), e, h]
  · rw [if_neg e]
    by_cases g : k < j
    · rw [if_pos g, if_pos (by omega)]
    · rw [if_neg g, if_neg (by omega)]
theorem wk_e {h : gm_H} {k n : Nat} (f : Nat → Nat) (j : Nat) {c : Int} (e : (f j : Int) = c) : ((h.1.set k (gA n (zWk f (j + 1))), h.2) : gm_H) = ((h.1.set k (gA n (zWk f j)), h.2).1.set k (gA n (zU (zWk f j) j c)), (h.1.set k (gA n (zWk f j)), h.2).2) := by
  rw [zWk_s f j e]
  show (h.1.set k (gA n (zWk f (j + 1))), h.2) = ((h.1.set k (gA n (zWk f j))).set k (gA n (zWk f (j + 1))), h.2)
  rw [List.set_set]
theorem wk_e0 {h : gm_H} {k n : Nat} (f : Nat → Nat) {c : Int} (e : (f 0 : Int) = c) : ((h.1.set k (gA n (zWk f 1)), h.2) : gm_H) = (h.1.set k (gA n (zU (zWk f 0) 0 c)), h.2) := by
  rw [zWk_s f 0 e]
def zMK0 : Nat → Int := fun k => if k = 2 ∨ k = 3 then -1 else 0
set_option maxRecDepth 4000 in
theorem wk_words {d k : Nat} {ls : List (Option Value)} {st : List Value} {h : gm_H} (hk : h.1[k]? = some (gA 60 (zWk zWon 0))) : gm_go mX11_init d (103, ls, .ref k :: st, h) (457, ls, .ref k :: st, (h.1.set k (gA 60 zWo), h.2)) := by
  refine gm_go_tr (gm_dup dX11_init_103 rfl) ?_
  refine gm_go_tr (gi_const dX11_init_104) ?_
  refine gm_go_tr (gi_bipush dX11_init_105 (by decide +kernel)) ?_
  refine gm_go_tr (gi_astN (k := k) (n := 60) (a := 0) (F := zWk zWon 0) dX11_init_107 hk (by decide) (by decide)) ?_
  refine gm_hq (wk_e0 zWon (c := 110) rfl) ?_
  refine gm_go_tr (gm_dup dX11_init_108 rfl) ?_
  refine gm_go_tr (gi_const dX11_init_109) ?_
  refine gm_go_tr (gi_bipush dX11_init_110 (by decide +kernel)) ?_
  refine gm_go_tr (gi_astN (k := k) (n := 60) (a := 1) (F := zWk zWon 1) dX11_init_112 (gs_s hk) (by decide) (by decide)) ?_
  refine gm_hq (wk_e zWon 1 (c := 101) rfl) ?_
  refine gm_go_tr (gm_dup dX11_init_113 rfl) ?_
  refine gm_go_tr (gi_const dX11_init_114) ?_
  refine gm_go_tr (gi_bipush dX11_init_115 (by decide +kernel)) ?_
  refine gm_go_tr (gi_astN (k := k) (n := 60) (a := 2) (F := zWk zWon 2) dX11_init_117 (gs_s hk) (by decide) (by decide)) ?_
  refine gm_hq (wk_e zWon 2 (c := 101) rfl) ?_
  refine gm_go_tr (gm_dup dX11_init_118 rfl) ?_
  refine gm_go_tr (gi_const dX11_init_119) ?_
  refine gm_go_tr (gi_bipush dX11_init_120 (by decide +kernel)) ?_
  refine gm_go_tr (gi_astN (k := k) (n := 60) (a := 3) (F := zWk zWon 3) dX11_init_122 (gs_s hk) (by decide) (by decide)) ?_
  refine gm_hq (wk_e zWon 3 (c := 100) rfl) ?_
  refine gm_go_tr (gm_dup dX11_init_123 rfl) ?_
  refine gm_go_tr (gi_const dX11_init_124) ?_
  refine gm_go_tr (gi_bipush dX11_init_125 (by decide +kernel)) ?_
  refine gm_go_tr (gi_astN (k := k) (n := 60) (a := 4) (F := zWk zWon 4) dX11_init_127 (gs_s hk) (by decide) (by decide)) ?_
  refine gm_hq (wk_e zWon 4 (c := 108) rfl) ?_
  refine gm_go_tr (gm_dup dX11_init_128 rfl) ?_
  refine gm_go_tr (gi_const dX11_init_129) ?_
  refine gm_go_tr (gi_bipush dX11_init_130 (by decide +kernel)) ?_
  refine gm_go_tr (gi_astN (k := k) (n := 60) (a := 5) (F := zWk zWon 5) dX11_init_132 (gs_s hk) (by decide) (by decide)) ?_
  refine gm_hq (wk_e zWon 5 (c := 101) rfl) ?_
  refine gm_go_tr (gm_dup dX11_init_133 rfl) ?_
  refine gm_go_tr (gi_bipush dX11_init_134 (by decide +kernel)) ?_
  refine gm_go_tr (gi_bipush dX11_init_136 (by decide +kernel)) ?_
  refine gm_go_tr (gi_astN (k := k) (n := 60) (a := 6) (F := zWk zWon 6) dX11_init_138 (gs_s hk) (by decide) (by decide)) ?_
  refine gm_hq (wk_e zWon 6 (c := 32) rfl) ?_
  refine gm_go_tr (gm_dup dX11_init_139 rfl) ?_
  refine gm_go_tr (gi_bipush dX11_init_140 (by decide +kernel)) ?_
  refine gm_go_tr (gi_bipush dX11_init_142 (by decide +kernel)) ?_
  refine gm_go_tr (gi_astN (k := k) (n := 60) (a := 7) (F := zWk zWon 7) dX11_init_144 (gs_s hk) (by decide) (by decide)) ?_
  refine gm_hq (wk_e zWon 7 (c := 115) rfl) ?_
  refine gm_go_tr (gm_dup dX11_init_145 rfl) ?_
  refine gm_go_tr (gi_bipush dX11_init_146 (by decide +kernel)) ?_
  refine gm_go_tr (gi_bipush dX11_init_148 (by decide +kernel)) ?_
  refine gm_go_tr (gi_astN (k := k) (n := 60) (a := 8) (F := zWk zWon 8) dX11_init_150 (gs_s hk) (by decide) (by decide)) ?_
  refine gm_hq (wk_e zWon 8 (c := 101) rfl) ?_
  refine gm_go_tr (gm_dup dX11_init_151 rfl) ?_
  refine gm_go_tr (gi_bipush dX11_init_152 (by decide +kernel)) ?_
  refine gm_go_tr (gi_bipush dX11_init_154 (by decide +kernel)) ?_
  refine gm_go_tr (gi_astN (k := k) (n := 60) (a := 9) (F := zWk zWon 9) dX11_init_156 (gs_s hk) (by decide) (by decide)) ?_
  refine gm_hq (wk_e zWon 9 (c := 116) rfl) ?_
  refine gm_go_tr (gm_dup dX11_init_157 rfl) ?_
  refine gm_go_tr (gi_bipush dX11_init_158 (by decide +kernel)) ?_
  refine gm_go_tr (gi_bipush dX11_init_160 (by decide +kernel)) ?_
  refine gm_go_tr (gi_astN (k := k) (n := 60) (a := 10) (F := zWk zWon 10) dX11_init_162 (gs_s hk) (by decide) (by decide)) ?_
  refine gm_hq (wk_e zWon 10 (c := 32) rfl) ?_
  refine gm_go_tr (gm_dup dX11_init_163 rfl) ?_
  refine gm_go_tr (gi_bipush dX11_init_164 (by decide +kernel)) ?_
  refine gm_go_tr (gi_bipush dX11_init_166 (by decide +kernel)) ?_
  refine gm_go_tr (gi_astN (k := k) (n := 60) (a := 11) (F := zWk zWon 11) dX11_init_168 (gs_s hk) (by decide) (by decide)) ?_
  refine gm_hq (wk_e zWon 11 (c := 115) rfl) ?_
  refine gm_go_tr (gm_dup dX11_init_169 rfl) ?_
  refine gm_go_tr (gi_bipush dX11_init_170 (by decide +kernel)) ?_
  refine gm_go_tr (gi_bipush dX11_init_172 (by decide +kernel)) ?_
  refine gm_go_tr (gi_astN (k := k) (n := 60) (a := 12) (F := zWk zWon 12) dX11_init_174 (gs_s hk) (by decide) (by decide)) ?_
  refine gm_hq (wk_e zWon 12 (c := 104) rfl) ?_
  refine gm_go_tr (gm_dup dX11_init_175 rfl) ?_
  refine gm_go_tr (gi_bipush dX11_init_176 (by decide +kernel)) ?_
  refine gm_go_tr (gi_bipush dX11_init_178 (by decide +kernel)) ?_
  refine gm_go_tr (gi_astN (k := k) (n := 60) (a := 13) (F := zWk zWon 13) dX11_init_180 (gs_s hk) (by decide) (by decide)) ?_
  refine gm_hq (wk_e zWon 13 (c := 105) rfl) ?_
  refine gm_go_tr (gm_dup dX11_init_181 rfl) ?_
  refine gm_go_tr (gi_bipush dX11_init_182 (by decide +kernel)) ?_
  refine gm_go_tr (gi_bipush dX11_init_184 (by decide +kernel)) ?_
  refine gm_go_tr (gi_astN (k := k) (n := 60) (a := 14) (F := zWk zWon 14) dX11_init_186 (gs_s hk) (by decide) (by decide)) ?_
  refine gm_hq (wk_e zWon 14 (c := 102) rfl) ?_
  refine gm_go_tr (gm_dup dX11_init_187 rfl) ?_
  refine gm_go_tr (gi_bipush dX11_init_188 (by decide +kernel)) ?_
  refine gm_go_tr (gi_bipush dX11_init_190 (by decide +kernel)) ?_
  refine gm_go_tr (gi_astN (k := k) (n := 60) (a := 15) (F := zWk zWon 15) dX11_init_192 (gs_s hk) (by decide) (by decide)) ?_
  refine gm_hq (wk_e zWon 15 (c := 116) rfl) ?_
  refine gm_go_tr (gm_dup dX11_init_193 rfl) ?_
  refine gm_go_tr (gi_bipush dX11_init_194 (by decide +kernel)) ?_
  refine gm_go_tr (gi_bipush dX11_init_196 (by decide +kernel)) ?_
  refine gm_go_tr (gi_astN (k := k) (n := 60) (a := 16) (F := zWk zWon 16) dX11_init_198 (gs_s hk) (by decide) (by decide)) ?_
  refine gm_hq (wk_e zWon 16 (c := 32) rfl) ?_
  refine gm_go_tr (gm_dup dX11_init_199 rfl) ?_
  refine gm_go_tr (gi_bipush dX11_init_200 (by decide +kernel)) ?_
  refine gm_go_tr (gi_bipush dX11_init_202 (by decide +kernel)) ?_
  refine gm_go_tr (gi_astN (k := k) (n := 60) (a := 17) (F := zWk zWon 17) dX11_init_204 (gs_s hk) (by decide) (by decide)) ?_
  refine gm_hq (wk_e zWon 17 (c := 99) rfl) ?_
  refine gm_go_tr (gm_dup dX11_init_205 rfl) ?_
  refine gm_go_tr (gi_bipush dX11_init_206 (by decide +kernel)) ?_
  refine gm_go_tr (gi_bipush dX11_init_208 (by decide +kernel)) ?_
  refine gm_go_tr (gi_astN (k := k) (n := 60) (a := 18) (F := zWk zWon 18) dX11_init_210 (gs_s hk) (by decide) (by decide)) ?_
  refine gm_hq (wk_e zWon 18 (c := 111) rfl) ?_
  refine gm_go_tr (gm_dup dX11_init_211 rfl) ?_
  refine gm_go_tr (gi_bipush dX11_init_212 (by decide +kernel)) ?_
  refine gm_go_tr (gi_bipush dX11_init_214 (by decide +kernel)) ?_
  refine gm_go_tr (gi_astN (k := k) (n := 60) (a := 19) (F := zWk zWon 19) dX11_init_216 (gs_s hk) (by decide) (by decide)) ?_
  refine gm_hq (wk_e zWon 19 (c := 114) rfl) ?_
  refine gm_go_tr (gm_dup dX11_init_217 rfl) ?_
  refine gm_go_tr (gi_bipush dX11_init_218 (by decide +kernel)) ?_
  refine gm_go_tr (gi_bipush dX11_init_220 (by decide +kernel)) ?_
  refine gm_go_tr (gi_astN (k := k) (n := 60) (a := 20) (F := zWk zWon 20) dX11_init_222 (gs_s hk) (by decide) (by decide)) ?_
  refine gm_hq (wk_e zWon 20 (c := 114) rfl) ?_
  refine gm_go_tr (gm_dup dX11_init_223 rfl) ?_
  refine gm_go_tr (gi_bipush dX11_init_224 (by decide +kernel)) ?_
  refine gm_go_tr (gi_bipush dX11_init_226 (by decide +kernel)) ?_
  refine gm_go_tr (gi_astN (k := k) (n := 60) (a := 21) (F := zWk zWon 21) dX11_init_228 (gs_s hk) (by decide) (by decide)) ?_
  refine gm_hq (wk_e zWon 21 (c := 101) rfl) ?_
  refine gm_go_tr (gm_dup dX11_init_229 rfl) ?_
  refine gm_go_tr (gi_bipush dX11_init_230 (by decide +kernel)) ?_
  refine gm_go_tr (gi_bipush dX11_init_232 (by decide +kernel)) ?_
  refine gm_go_tr (gi_astN (k := k) (n := 60) (a := 22) (F := zWk zWon 22) dX11_init_234 (gs_s hk) (by decide) (by decide)) ?_
  refine gm_hq (wk_e zWon 22 (c := 99) rfl) ?_
  refine gm_go_tr (gm_dup dX11_init_235 rfl) ?_
  refine gm_go_tr (gi_bipush dX11_init_236 (by decide +kernel)) ?_
  refine gm_go_tr (gi_bipush dX11_init_238 (by decide +kernel)) ?_
  refine gm_go_tr (gi_astN (k := k) (n := 60) (a := 23) (F := zWk zWon 23) dX11_init_240 (gs_s hk) (by decide) (by decide)) ?_
  refine gm_hq (wk_e zWon 23 (c := 116) rfl) ?_
  refine gm_go_tr (gm_dup dX11_init_241 rfl) ?_
  refine gm_go_tr (gi_bipush dX11_init_242 (by decide +kernel)) ?_
  refine gm_go_tr (gi_bipush dX11_init_244 (by decide +kernel)) ?_
  refine gm_go_tr (gi_astN (k := k) (n := 60) (a := 24) (F := zWk zWon 24) dX11_init_246 (gs_s hk) (by decide) (by decide)) ?_
  refine gm_hq (wk_e zWon 24 (c := 32) rfl) ?_
  refine gm_go_tr (gm_dup dX11_init_247 rfl) ?_
  refine gm_go_tr (gi_bipush dX11_init_248 (by decide +kernel)) ?_
  refine gm_go_tr (gi_bipush dX11_init_250 (by decide +kernel)) ?_
  refine gm_go_tr (gi_astN (k := k) (n := 60) (a := 25) (F := zWk zWon 25) dX11_init_252 (gs_s hk) (by decide) (by decide)) ?_
  refine gm_hq (wk_e zWon 25 (c := 100) rfl) ?_
  refine gm_go_tr (gm_dup dX11_init_253 rfl) ?_
  refine gm_go_tr (gi_bipush dX11_init_254 (by decide +kernel)) ?_
  refine gm_go_tr (gi_bipush dX11_init_256 (by decide +kernel)) ?_
  refine gm_go_tr (gi_astN (k := k) (n := 60) (a := 26) (F := zWk zWon 26) dX11_init_258 (gs_s hk) (by decide) (by decide)) ?_
  refine gm_hq (wk_e zWon 26 (c := 105) rfl) ?_
  refine gm_go_tr (gm_dup dX11_init_259 rfl) ?_
  refine gm_go_tr (gi_bipush dX11_init_260 (by decide +kernel)) ?_
  refine gm_go_tr (gi_bipush dX11_init_262 (by decide +kernel)) ?_
  refine gm_go_tr (gi_astN (k := k) (n := 60) (a := 27) (F := zWk zWon 27) dX11_init_264 (gs_s hk) (by decide) (by decide)) ?_
  refine gm_hq (wk_e zWon 27 (c := 115) rfl) ?_
  refine gm_go_tr (gm_dup dX11_init_265 rfl) ?_
  refine gm_go_tr (gi_bipush dX11_init_266 (by decide +kernel)) ?_
  refine gm_go_tr (gi_bipush dX11_init_268 (by decide +kernel)) ?_
  refine gm_go_tr (gi_astN (k := k) (n := 60) (a := 28) (F := zWk zWon 28) dX11_init_270 (gs_s hk) (by decide) (by decide)) ?_
  refine gm_hq (wk_e zWon 28 (c := 99) rfl) ?_
  refine gm_go_tr (gm_dup dX11_init_271 rfl) ?_
  refine gm_go_tr (gi_bipush dX11_init_272 (by decide +kernel)) ?_
  refine gm_go_tr (gi_bipush dX11_init_274 (by decide +kernel)) ?_
  refine gm_go_tr (gi_astN (k := k) (n := 60) (a := 29) (F := zWk zWon 29) dX11_init_276 (gs_s hk) (by decide) (by decide)) ?_
  refine gm_hq (wk_e zWon 29 (c := 97) rfl) ?_
  refine gm_go_tr (gm_dup dX11_init_277 rfl) ?_
  refine gm_go_tr (gi_bipush dX11_init_278 (by decide +kernel)) ?_
  refine gm_go_tr (gi_bipush dX11_init_280 (by decide +kernel)) ?_
  refine gm_go_tr (gi_astN (k := k) (n := 60) (a := 30) (F := zWk zWon 30) dX11_init_282 (gs_s hk) (by decide) (by decide)) ?_
  refine gm_hq (wk_e zWon 30 (c := 114) rfl) ?_
  refine gm_go_tr (gm_dup dX11_init_283 rfl) ?_
  refine gm_go_tr (gi_bipush dX11_init_284 (by decide +kernel)) ?_
  refine gm_go_tr (gi_bipush dX11_init_286 (by decide +kernel)) ?_
  refine gm_go_tr (gi_astN (k := k) (n := 60) (a := 31) (F := zWk zWon 31) dX11_init_288 (gs_s hk) (by decide) (by decide)) ?_
  refine gm_hq (wk_e zWon 31 (c := 100) rfl) ?_
  refine gm_go_tr (gm_dup dX11_init_289 rfl) ?_
  refine gm_go_tr (gi_bipush dX11_init_290 (by decide +kernel)) ?_
  refine gm_go_tr (gi_bipush dX11_init_292 (by decide +kernel)) ?_
  refine gm_go_tr (gi_astN (k := k) (n := 60) (a := 32) (F := zWk zWon 32) dX11_init_294 (gs_s hk) (by decide) (by decide)) ?_
  refine gm_hq (wk_e zWon 32 (c := 32) rfl) ?_
  refine gm_go_tr (gm_dup dX11_init_295 rfl) ?_
  refine gm_go_tr (gi_bipush dX11_init_296 (by decide +kernel)) ?_
  refine gm_go_tr (gi_bipush dX11_init_298 (by decide +kernel)) ?_
  refine gm_go_tr (gi_astN (k := k) (n := 60) (a := 33) (F := zWk zWon 33) dX11_init_300 (gs_s hk) (by decide) (by decide)) ?_
  refine gm_hq (wk_e zWon 33 (c := 108) rfl) ?_
  refine gm_go_tr (gm_dup dX11_init_301 rfl) ?_
  refine gm_go_tr (gi_bipush dX11_init_302 (by decide +kernel)) ?_
  refine gm_go_tr (gi_bipush dX11_init_304 (by decide +kernel)) ?_
  refine gm_go_tr (gi_astN (k := k) (n := 60) (a := 34) (F := zWk zWon 34) dX11_init_306 (gs_s hk) (by decide) (by decide)) ?_
  refine gm_hq (wk_e zWon 34 (c := 105) rfl) ?_
  refine gm_go_tr (gm_dup dX11_init_307 rfl) ?_
  refine gm_go_tr (gi_bipush dX11_init_308 (by decide +kernel)) ?_
  refine gm_go_tr (gi_bipush dX11_init_310 (by decide +kernel)) ?_
  refine gm_go_tr (gi_astN (k := k) (n := 60) (a := 35) (F := zWk zWon 35) dX11_init_312 (gs_s hk) (by decide) (by decide)) ?_
  refine gm_hq (wk_e zWon 35 (c := 109) rfl) ?_
  refine gm_go_tr (gm_dup dX11_init_313 rfl) ?_
  refine gm_go_tr (gi_bipush dX11_init_314 (by decide +kernel)) ?_
  refine gm_go_tr (gi_bipush dX11_init_316 (by decide +kernel)) ?_
  refine gm_go_tr (gi_astN (k := k) (n := 60) (a := 36) (F := zWk zWon 36) dX11_init_318 (gs_s hk) (by decide) (by decide)) ?_
  refine gm_hq (wk_e zWon 36 (c := 105) rfl) ?_
  refine gm_go_tr (gm_dup dX11_init_319 rfl) ?_
  refine gm_go_tr (gi_bipush dX11_init_320 (by decide +kernel)) ?_
  refine gm_go_tr (gi_bipush dX11_init_322 (by decide +kernel)) ?_
  refine gm_go_tr (gi_astN (k := k) (n := 60) (a := 37) (F := zWk zWon 37) dX11_init_324 (gs_s hk) (by decide) (by decide)) ?_
  refine gm_hq (wk_e zWon 37 (c := 116) rfl) ?_
  refine gm_go_tr (gm_dup dX11_init_325 rfl) ?_
  refine gm_go_tr (gi_bipush dX11_init_326 (by decide +kernel)) ?_
  refine gm_go_tr (gi_bipush dX11_init_328 (by decide +kernel)) ?_
  refine gm_go_tr (gi_astN (k := k) (n := 60) (a := 38) (F := zWk zWon 38) dX11_init_330 (gs_s hk) (by decide) (by decide)) ?_
  refine gm_hq (wk_e zWon 38 (c := 32) rfl) ?_
  refine gm_go_tr (gm_dup dX11_init_331 rfl) ?_
  refine gm_go_tr (gi_bipush dX11_init_332 (by decide +kernel)) ?_
  refine gm_go_tr (gi_bipush dX11_init_334 (by decide +kernel)) ?_
  refine gm_go_tr (gi_astN (k := k) (n := 60) (a := 39) (F := zWk zWon 39) dX11_init_336 (gs_s hk) (by decide) (by decide)) ?_
  refine gm_hq (wk_e zWon 39 (c := 98) rfl) ?_
  refine gm_go_tr (gm_dup dX11_init_337 rfl) ?_
  refine gm_go_tr (gi_bipush dX11_init_338 (by decide +kernel)) ?_
  refine gm_go_tr (gi_bipush dX11_init_340 (by decide +kernel)) ?_
  refine gm_go_tr (gi_astN (k := k) (n := 60) (a := 40) (F := zWk zWon 40) dX11_init_342 (gs_s hk) (by decide) (by decide)) ?_
  refine gm_hq (wk_e zWon 40 (c := 97) rfl) ?_
  refine gm_go_tr (gm_dup dX11_init_343 rfl) ?_
  refine gm_go_tr (gi_bipush dX11_init_344 (by decide +kernel)) ?_
  refine gm_go_tr (gi_bipush dX11_init_346 (by decide +kernel)) ?_
  refine gm_go_tr (gi_astN (k := k) (n := 60) (a := 41) (F := zWk zWon 41) dX11_init_348 (gs_s hk) (by decide) (by decide)) ?_
  refine gm_hq (wk_e zWon 41 (c := 116) rfl) ?_
  refine gm_go_tr (gm_dup dX11_init_349 rfl) ?_
  refine gm_go_tr (gi_bipush dX11_init_350 (by decide +kernel)) ?_
  refine gm_go_tr (gi_bipush dX11_init_352 (by decide +kernel)) ?_
  refine gm_go_tr (gi_astN (k := k) (n := 60) (a := 42) (F := zWk zWon 42) dX11_init_354 (gs_s hk) (by decide) (by decide)) ?_
  refine gm_hq (wk_e zWon 42 (c := 99) rfl) ?_
  refine gm_go_tr (gm_dup dX11_init_355 rfl) ?_
  refine gm_go_tr (gi_bipush dX11_init_356 (by decide +kernel)) ?_
  refine gm_go_tr (gi_bipush dX11_init_358 (by decide +kernel)) ?_
  refine gm_go_tr (gi_astN (k := k) (n := 60) (a := 43) (F := zWk zWon 43) dX11_init_360 (gs_s hk) (by decide) (by decide)) ?_
  refine gm_hq (wk_e zWon 43 (c := 104) rfl) ?_
  refine gm_go_tr (gm_dup dX11_init_361 rfl) ?_
  refine gm_go_tr (gi_bipush dX11_init_362 (by decide +kernel)) ?_
  refine gm_go_tr (gi_bipush dX11_init_364 (by decide +kernel)) ?_
  refine gm_go_tr (gi_astN (k := k) (n := 60) (a := 44) (F := zWk zWon 44) dX11_init_366 (gs_s hk) (by decide) (by decide)) ?_
  refine gm_hq (wk_e zWon 44 (c := 32) rfl) ?_
  refine gm_go_tr (gm_dup dX11_init_367 rfl) ?_
  refine gm_go_tr (gi_bipush dX11_init_368 (by decide +kernel)) ?_
  refine gm_go_tr (gi_bipush dX11_init_370 (by decide +kernel)) ?_
  refine gm_go_tr (gi_astN (k := k) (n := 60) (a := 45) (F := zWk zWon 45) dX11_init_372 (gs_s hk) (by decide) (by decide)) ?_
  refine gm_hq (wk_e zWon 45 (c := 100) rfl) ?_
  refine gm_go_tr (gm_dup dX11_init_373 rfl) ?_
  refine gm_go_tr (gi_bipush dX11_init_374 (by decide +kernel)) ?_
  refine gm_go_tr (gi_bipush dX11_init_376 (by decide +kernel)) ?_
  refine gm_go_tr (gi_astN (k := k) (n := 60) (a := 46) (F := zWk zWon 46) dX11_init_378 (gs_s hk) (by decide) (by decide)) ?_
  refine gm_hq (wk_e zWon 46 (c := 114) rfl) ?_
  refine gm_go_tr (gm_dup dX11_init_379 rfl) ?_
  refine gm_go_tr (gi_bipush dX11_init_380 (by decide +kernel)) ?_
  refine gm_go_tr (gi_bipush dX11_init_382 (by decide +kernel)) ?_
  refine gm_go_tr (gi_astN (k := k) (n := 60) (a := 47) (F := zWk zWon 47) dX11_init_384 (gs_s hk) (by decide) (by decide)) ?_
  refine gm_hq (wk_e zWon 47 (c := 111) rfl) ?_
  refine gm_go_tr (gm_dup dX11_init_385 rfl) ?_
  refine gm_go_tr (gi_bipush dX11_init_386 (by decide +kernel)) ?_
  refine gm_go_tr (gi_bipush dX11_init_388 (by decide +kernel)) ?_
  refine gm_go_tr (gi_astN (k := k) (n := 60) (a := 48) (F := zWk zWon 48) dX11_init_390 (gs_s hk) (by decide) (by decide)) ?_
  refine gm_hq (wk_e zWon 48 (c := 112) rfl) ?_
  refine gm_go_tr (gm_dup dX11_init_391 rfl) ?_
  refine gm_go_tr (gi_bipush dX11_init_392 (by decide +kernel)) ?_
  refine gm_go_tr (gi_bipush dX11_init_394 (by decide +kernel)) ?_
  refine gm_go_tr (gi_astN (k := k) (n := 60) (a := 49) (F := zWk zWon 49) dX11_init_396 (gs_s hk) (by decide) (by decide)) ?_
  refine gm_hq (wk_e zWon 49 (c := 32) rfl) ?_
  refine gm_go_tr (gm_dup dX11_init_397 rfl) ?_
  refine gm_go_tr (gi_bipush dX11_init_398 (by decide +kernel)) ?_
  refine gm_go_tr (gi_bipush dX11_init_400 (by decide +kernel)) ?_
  refine gm_go_tr (gi_astN (k := k) (n := 60) (a := 50) (F := zWk zWon 50) dX11_init_402 (gs_s hk) (by decide) (by decide)) ?_
  refine gm_hq (wk_e zWon 50 (c := 98) rfl) ?_
  refine gm_go_tr (gm_dup dX11_init_403 rfl) ?_
  refine gm_go_tr (gi_bipush dX11_init_404 (by decide +kernel)) ?_
  refine gm_go_tr (gi_bipush dX11_init_406 (by decide +kernel)) ?_
  refine gm_go_tr (gi_astN (k := k) (n := 60) (a := 51) (F := zWk zWon 51) dX11_init_408 (gs_s hk) (by decide) (by decide)) ?_
  refine gm_hq (wk_e zWon 51 (c := 97) rfl) ?_
  refine gm_go_tr (gm_dup dX11_init_409 rfl) ?_
  refine gm_go_tr (gi_bipush dX11_init_410 (by decide +kernel)) ?_
  refine gm_go_tr (gi_bipush dX11_init_412 (by decide +kernel)) ?_
  refine gm_go_tr (gi_astN (k := k) (n := 60) (a := 52) (F := zWk zWon 52) dX11_init_414 (gs_s hk) (by decide) (by decide)) ?_
  refine gm_hq (wk_e zWon 52 (c := 107) rfl) ?_
  refine gm_go_tr (gm_dup dX11_init_415 rfl) ?_
  refine gm_go_tr (gi_bipush dX11_init_416 (by decide +kernel)) ?_
  refine gm_go_tr (gi_bipush dX11_init_418 (by decide +kernel)) ?_
  refine gm_go_tr (gi_astN (k := k) (n := 60) (a := 53) (F := zWk zWon 53) dX11_init_420 (gs_s hk) (by decide) (by decide)) ?_
  refine gm_hq (wk_e zWon 53 (c := 101) rfl) ?_
  refine gm_go_tr (gm_dup dX11_init_421 rfl) ?_
  refine gm_go_tr (gi_bipush dX11_init_422 (by decide +kernel)) ?_
  refine gm_go_tr (gi_bipush dX11_init_424 (by decide +kernel)) ?_
  refine gm_go_tr (gi_astN (k := k) (n := 60) (a := 54) (F := zWk zWon 54) dX11_init_426 (gs_s hk) (by decide) (by decide)) ?_
  refine gm_hq (wk_e zWon 54 (c := 32) rfl) ?_
  refine gm_go_tr (gm_dup dX11_init_427 rfl) ?_
  refine gm_go_tr (gi_bipush dX11_init_428 (by decide +kernel)) ?_
  refine gm_go_tr (gi_bipush dX11_init_430 (by decide +kernel)) ?_
  refine gm_go_tr (gi_astN (k := k) (n := 60) (a := 55) (F := zWk zWon 55) dX11_init_432 (gs_s hk) (by decide) (by decide)) ?_
  refine gm_hq (wk_e zWon 55 (c := 114) rfl) ?_
  refine gm_go_tr (gm_dup dX11_init_433 rfl) ?_
  refine gm_go_tr (gi_bipush dX11_init_434 (by decide +kernel)) ?_
  refine gm_go_tr (gi_bipush dX11_init_436 (by decide +kernel)) ?_
  refine gm_go_tr (gi_astN (k := k) (n := 60) (a := 56) (F := zWk zWon 56) dX11_init_438 (gs_s hk) (by decide) (by decide)) ?_
  refine gm_hq (wk_e zWon 56 (c := 101) rfl) ?_
  refine gm_go_tr (gm_dup dX11_init_439 rfl) ?_
  refine gm_go_tr (gi_bipush dX11_init_440 (by decide +kernel)) ?_
  refine gm_go_tr (gi_bipush dX11_init_442 (by decide +kernel)) ?_
  refine gm_go_tr (gi_astN (k := k) (n := 60) (a := 57) (F := zWk zWon 57) dX11_init_444 (gs_s hk) (by decide) (by decide)) ?_
  refine gm_hq (wk_e zWon 57 (c := 115) rfl) ?_
  refine gm_go_tr (gm_dup dX11_init_445 rfl) ?_
  refine gm_go_tr (gi_bipush dX11_init_446 (by decide +kernel)) ?_
  refine gm_go_tr (gi_bipush dX11_init_448 (by decide +kernel)) ?_
  refine gm_go_tr (gi_astN (k := k) (n := 60) (a := 58) (F := zWk zWon 58) dX11_init_450 (gs_s hk) (by decide) (by decide)) ?_
  refine gm_hq (wk_e zWon 58 (c := 116) rfl) ?_
  refine gm_go_tr (gm_dup dX11_init_451 rfl) ?_
  refine gm_go_tr (gi_bipush dX11_init_452 (by decide +kernel)) ?_
  refine gm_go_tr (gi_bipush dX11_init_454 (by decide +kernel)) ?_
  refine gm_go_tr (gi_astN (k := k) (n := 60) (a := 59) (F := zWk zWon 59) dX11_init_456 (gs_s hk) (by decide) (by decide)) ?_
  refine gm_hq (wk_e zWon 59 (c := 32) rfl) ?_
  have e := gm_re (M := mX11_init) (d := d) (pc := 457) (ls := ls) (st := .ref k :: st) (h := (h.1.set k (gA 60 (zWk zWon 60)), h.2)) (G := zWo) (gs_s hk) (fun j hj => if_pos hj)
  dsimp only at e
  rw [List.set_set] at e
  exact e
set_option maxRecDepth 4000 in
theorem wk_at {d k : Nat} {ls : List (Option Value)} {st : List Value} {h : gm_H} (hk : h.1[k]? = some (gA 11 (zWk zWan 0))) : gm_go mX11_init d (465, ls, .ref k :: st, h) (524, ls, .ref k :: st, (h.1.set k (gA 11 zWa), h.2)) := by
  refine gm_go_tr (gm_dup dX11_init_465 rfl) ?_
  refine gm_go_tr (gi_const dX11_init_466) ?_
  refine gm_go_tr (gi_const dX11_init_467) ?_
  refine gm_go_tr (gi_astN (k := k) (n := 11) (a := 0) (F := zWk zWan 0) dX11_init_468 hk (by decide) (by decide)) ?_
  refine gm_hq (wk_e0 zWan (c := 0) rfl) ?_
  refine gm_go_tr (gm_dup dX11_init_469 rfl) ?_
  refine gm_go_tr (gi_const dX11_init_470) ?_
  refine gm_go_tr (gi_bipush dX11_init_471 (by decide +kernel)) ?_
  refine gm_go_tr (gi_astN (k := k) (n := 11) (a := 1) (F := zWk zWan 1) dX11_init_473 (gs_s hk) (by decide) (by decide)) ?_
  refine gm_hq (wk_e zWan 1 (c := 7) rfl) ?_
  refine gm_go_tr (gm_dup dX11_init_474 rfl) ?_
  refine gm_go_tr (gi_const dX11_init_475) ?_
  refine gm_go_tr (gi_bipush dX11_init_476 (by decide +kernel)) ?_
  refine gm_go_tr (gi_astN (k := k) (n := 11) (a := 2) (F := zWk zWan 2) dX11_init_478 (gs_s hk) (by decide) (by decide)) ?_
  refine gm_hq (wk_e zWan 2 (c := 11) rfl) ?_
  refine gm_go_tr (gm_dup dX11_init_479 rfl) ?_
  refine gm_go_tr (gi_const dX11_init_480) ?_
  refine gm_go_tr (gi_bipush dX11_init_481 (by decide +kernel)) ?_
  refine gm_go_tr (gi_astN (k := k) (n := 11) (a := 3) (F := zWk zWan 3) dX11_init_483 (gs_s hk) (by decide) (by decide)) ?_
  refine gm_hq (wk_e zWan 3 (c := 17) rfl) ?_
  refine gm_go_tr (gm_dup dX11_init_484 rfl) ?_
  refine gm_go_tr (gi_const dX11_init_485) ?_
  refine gm_go_tr (gi_bipush dX11_init_486 (by decide +kernel)) ?_
  refine gm_go_tr (gi_astN (k := k) (n := 11) (a := 4) (F := zWk zWan 4) dX11_init_488 (gs_s hk) (by decide) (by decide)) ?_
  refine gm_hq (wk_e zWan 4 (c := 25) rfl) ?_
  refine gm_go_tr (gm_dup dX11_init_489 rfl) ?_
  refine gm_go_tr (gi_const dX11_init_490) ?_
  refine gm_go_tr (gi_bipush dX11_init_491 (by decide +kernel)) ?_
  refine gm_go_tr (gi_astN (k := k) (n := 11) (a := 5) (F := zWk zWan 5) dX11_init_493 (gs_s hk) (by decide) (by decide)) ?_
  refine gm_hq (wk_e zWan 5 (c := 33) rfl) ?_
  refine gm_go_tr (gm_dup dX11_init_494 rfl) ?_
  refine gm_go_tr (gi_bipush dX11_init_495 (by decide +kernel)) ?_
  refine gm_go_tr (gi_bipush dX11_init_497 (by decide +kernel)) ?_
  refine gm_go_tr (gi_astN (k := k) (n := 11) (a := 6) (F := zWk zWan 6) dX11_init_499 (gs_s hk) (by decide) (by decide)) ?_
  refine gm_hq (wk_e zWan 6 (c := 39) rfl) ?_
  refine gm_go_tr (gm_dup dX11_init_500 rfl) ?_
  refine gm_go_tr (gi_bipush dX11_init_501 (by decide +kernel)) ?_
  refine gm_go_tr (gi_bipush dX11_init_503 (by decide +kernel)) ?_
  refine gm_go_tr (gi_astN (k := k) (n := 11) (a := 7) (F := zWk zWan 7) dX11_init_505 (gs_s hk) (by decide) (by decide)) ?_
  refine gm_hq (wk_e zWan 7 (c := 45) rfl) ?_
  refine gm_go_tr (gm_dup dX11_init_506 rfl) ?_
  refine gm_go_tr (gi_bipush dX11_init_507 (by decide +kernel)) ?_
  refine gm_go_tr (gi_bipush dX11_init_509 (by decide +kernel)) ?_
  refine gm_go_tr (gi_astN (k := k) (n := 11) (a := 8) (F := zWk zWan 8) dX11_init_511 (gs_s hk) (by decide) (by decide)) ?_
  refine gm_hq (wk_e zWan 8 (c := 50) rfl) ?_
  refine gm_go_tr (gm_dup dX11_init_512 rfl) ?_
  refine gm_go_tr (gi_bipush dX11_init_513 (by decide +kernel)) ?_
  refine gm_go_tr (gi_bipush dX11_init_515 (by decide +kernel)) ?_
  refine gm_go_tr (gi_astN (k := k) (n := 11) (a := 9) (F := zWk zWan 9) dX11_init_517 (gs_s hk) (by decide) (by decide)) ?_
  refine gm_hq (wk_e zWan 9 (c := 55) rfl) ?_
  refine gm_go_tr (gm_dup dX11_init_518 rfl) ?_
  refine gm_go_tr (gi_bipush dX11_init_519 (by decide +kernel)) ?_
  refine gm_go_tr (gi_bipush dX11_init_521 (by decide +kernel)) ?_
  refine gm_go_tr (gi_astN (k := k) (n := 11) (a := 10) (F := zWk zWan 10) dX11_init_523 (gs_s hk) (by decide) (by decide)) ?_
  refine gm_hq (wk_e zWan 10 (c := 60) rfl) ?_
  have e := gm_re (M := mX11_init) (d := d) (pc := 524) (ls := ls) (st := .ref k :: st) (h := (h.1.set k (gA 11 (zWk zWan 11)), h.2)) (G := zWa) (gs_s hk) (fun j hj => if_pos hj)
  dsimp only at e
  rw [List.set_set] at e
  exact e
set_option maxRecDepth 4000 in
theorem ct_mdInit {h : gm_H} {m : Nat} (hl : h.1.length = m + 1) (h0 : h.1[m]? = some (.inr (12, [.int 0, .int 0, .int 0, .int 0, .int 0, .null, .null, .null, .null, .null, .null, .null, .null, .null, .null, .null, .null, .int 0, .int 0, .int 0, .int 0, .int 0, .int 0]))) : ∃ h', gm_co mX11_init 4 [.ref m] h (.inl none) h' ∧ h'.1.length = m + 13 ∧ h'.1[m]? = some (md_c m zMK0) ∧ h'.1[m + 1]? = some (gA 118 zV0) ∧ h'.1[m + 2]? = some (gA 118 (fun _ => 0)) ∧ h'.1[m + 3]? = some (gA 118 (fun _ => 0)) ∧ h'.1[m + 4]? = some (gA 944 (fun _ => 0)) ∧ h'.1[m + 5]? = some (gA 256 (fun _ => 0)) ∧ h'.1[m + 6]? = some (gA 128 (fun _ => 0)) ∧ h'.1[m + 7]? = some (gA 360 (fun _ => 0)) ∧ h'.1[m + 8]? = some (gA 60 (fun _ => 0)) ∧ h'.1[m + 9]? = some (gA 60 (fun _ => 0)) ∧ mt_at h' m (fun _ => 0) ∧ gh_al h h' m 12 2243 := by
  have hn1 : m < m + 1 := by omega
  have hn2 : m < m + 2 := by omega
  have hn3 : m < m + 3 := by omega
  have hn4 : m < m + 4 := by omega
  have hn5 : m < m + 5 := by omega
  have hn6 : m < m + 6 := by omega
  have hn7 : m < m + 7 := by omega
  have hn8 : m < m + 8 := by omega
  have hn9 : m < m + 9 := by omega
  have hn10 : m < m + 10 := by omega
  have hn11 : m < m + 11 := by omega
  have hn12 : m < m + 12 := by omega
  have hn13 : m < m + 13 := by omega
  have hu1 : m + 1 ≤ m + 2 := by omega
  have hu2 : m + 2 ≤ m + 3 := by omega
  have hu3 : m + 3 ≤ m + 4 := by omega
  have hu4 : m + 4 ≤ m + 5 := by omega
  have hu5 : m + 5 ≤ m + 6 := by omega
  have hu6 : m + 6 ≤ m + 7 := by omega
  have hu7 : m + 7 ≤ m + 8 := by omega
  have hu8 : m + 8 ≤ m + 9 := by omega
  have hu9 : m + 9 ≤ m + 10 := by omega
  have hu10 : m + 10 ≤ m + 11 := by omega
  have hu11 : m + 11 ≤ m + 12 := by omega
  have hu12 : m + 12 ≤ m + 13 := by omega
  have t00 : gh_al h h m 0 0 := al_rf
  obtain ⟨p1, hp1, q1, l01, u01, t01⟩ := al_fld (.inr (12, [.int 0, .int 0, .int (zI (-1)), .int 0, .int 0, .null, .null, .null, .null, .null, .null, .null, .null, .null, .null, .null, .null, .int 0, .int 0, .int 0, .int 0, .int 0, .int 0])) hl h0 t00
  obtain ⟨b0, hb0, c0, l0, u0, t0⟩ := al_fld (.inr (12, [.int 0, .int 0, .int (zI (-1)), .int (zI (-1)), .int 0, .null, .null, .null, .null, .null, .null, .null, .null, .null, .null, .null, .null, .int 0, .int 0, .int 0, .int 0, .int 0, .int 0])) l01 q1 t01
  clear t00 t01 l01 u01 u0 hl
  obtain ⟨a1, ha1, la1, na1, ea1, ta1⟩ := al_new (gA 118 (fun _ => 0)) 118 l0 (Nat.le_of_lt hn1) t0
  obtain ⟨cd1, b1, hb1, c1, l1, u1, s1, t1⟩ := al_put (.inr (12, [.int 0, .int 0, .int (zI (-1)), .int (zI (-1)), .int 0, .ref (m + 1), .null, .null, .null, .null, .null, .null, .null, .null, .null, .null, .null, .int 0, .int 0, .int 0, .int 0, .int 0, .int 0])) ea1 ta1 (al_rf (h := a1) (n := m + 1)) (show a1.1.length = m + 2 from la1) c0 hn1
  have x1 := (u1 (m + 1) hn1).trans na1
  clear ta1 ea1 la1 t0
  obtain ⟨a2, ha2, la2, na2, ea2, ta2⟩ := al_new (gA 118 (fun _ => 0)) 118 l1 (Nat.le_of_lt hn2) t1
  obtain ⟨cd2, b2, hb2, c2, l2, u2, s2, t2⟩ := al_put (.inr (12, [.int 0, .int 0, .int (zI (-1)), .int (zI (-1)), .int 0, .ref (m + 1), .ref (m + 2), .null, .null, .null, .null, .null, .null, .null, .null, .null, .null, .int 0, .int 0, .int 0, .int 0, .int 0, .int 0])) ea2 ta2 (al_rf (h := a2) (n := m + 2)) (show a2.1.length = m + 3 from la2) c1 hn2
  have x2 := (u2 (m + 2) hn2).trans na2
  clear ta2 ea2 la2 t1
  obtain ⟨a3, ha3, la3, na3, ea3, ta3⟩ := al_new (gA 118 (fun _ => 0)) 118 l2 (Nat.le_of_lt hn3) t2
  obtain ⟨cd3, b3, hb3, c3, l3, u3, s3, t3⟩ := al_put (.inr (12, [.int 0, .int 0, .int (zI (-1)), .int (zI (-1)), .int 0, .ref (m + 1), .ref (m + 2), .ref (m + 3), .null, .null, .null, .null, .null, .null, .null, .null, .null, .int 0, .int 0, .int 0, .int 0, .int 0, .int 0])) ea3 ta3 (al_rf (h := a3) (n := m + 3)) (show a3.1.length = m + 4 from la3) c2 hn3
  have x3 := (u3 (m + 3) hn3).trans na3
  clear ta3 ea3 la3 t2
  obtain ⟨a4, ha4, la4, na4, ea4, ta4⟩ := al_new (gA 944 (fun _ => 0)) 944 l3 (Nat.le_of_lt hn4) t3
  obtain ⟨cd4, b4, hb4, c4, l4, u4, s4, t4⟩ := al_put (.inr (12, [.int 0, .int 0, .int (zI (-1)), .int (zI (-1)), .int 0, .ref (m + 1), .ref (m + 2), .ref (m + 3), .ref (m + 4), .null, .null, .null, .null, .null, .null, .null, .null, .int 0, .int 0, .int 0, .int 0, .int 0, .int 0])) ea4 ta4 (al_rf (h := a4) (n := m + 4)) (show a4.1.length = m + 5 from la4) c3 hn4
  have x4 := (u4 (m + 4) hn4).trans na4
  clear ta4 ea4 la4 t3
  obtain ⟨a5, ha5, la5, na5, ea5, ta5⟩ := al_new (gA 256 (fun _ => 0)) 256 l4 (Nat.le_of_lt hn5) t4
  obtain ⟨cd5, b5, hb5, c5, l5, u5, s5, t5⟩ := al_put (.inr (12, [.int 0, .int 0, .int (zI (-1)), .int (zI (-1)), .int 0, .ref (m + 1), .ref (m + 2), .ref (m + 3), .ref (m + 4), .ref (m + 5), .null, .null, .null, .null, .null, .null, .null, .int 0, .int 0, .int 0, .int 0, .int 0, .int 0])) ea5 ta5 (al_rf (h := a5) (n := m + 5)) (show a5.1.length = m + 6 from la5) c4 hn5
  have x5 := (u5 (m + 5) hn5).trans na5
  clear ta5 ea5 la5 t4
  obtain ⟨a6, ha6, la6, na6, ea6, ta6⟩ := al_new (gA 128 (fun _ => 0)) 128 l5 (Nat.le_of_lt hn6) t5
  obtain ⟨cd6, b6, hb6, c6, l6, u6, s6, t6⟩ := al_put (.inr (12, [.int 0, .int 0, .int (zI (-1)), .int (zI (-1)), .int 0, .ref (m + 1), .ref (m + 2), .ref (m + 3), .ref (m + 4), .ref (m + 5), .ref (m + 6), .null, .null, .null, .null, .null, .null, .int 0, .int 0, .int 0, .int 0, .int 0, .int 0])) ea6 ta6 (al_rf (h := a6) (n := m + 6)) (show a6.1.length = m + 7 from la6) c5 hn6
  have x6 := (u6 (m + 6) hn6).trans na6
  clear ta6 ea6 la6 t5
  obtain ⟨a7, ha7, la7, na7, ea7, ta7⟩ := al_new (gA 360 (fun _ => 0)) 360 l6 (Nat.le_of_lt hn7) t6
  obtain ⟨cd7, b7, hb7, c7, l7, u7, s7, t7⟩ := al_put (.inr (12, [.int 0, .int 0, .int (zI (-1)), .int (zI (-1)), .int 0, .ref (m + 1), .ref (m + 2), .ref (m + 3), .ref (m + 4), .ref (m + 5), .ref (m + 6), .ref (m + 7), .null, .null, .null, .null, .null, .int 0, .int 0, .int 0, .int 0, .int 0, .int 0])) ea7 ta7 (al_rf (h := a7) (n := m + 7)) (show a7.1.length = m + 8 from la7) c6 hn7
  have x7 := (u7 (m + 7) hn7).trans na7
  clear ta7 ea7 la7 t6
  obtain ⟨a8, ha8, la8, na8, ea8, ta8⟩ := al_new (gA 60 (fun _ => 0)) 60 l7 (Nat.le_of_lt hn8) t7
  obtain ⟨cd8, b8, hb8, c8, l8, u8, s8, t8⟩ := al_put (.inr (12, [.int 0, .int 0, .int (zI (-1)), .int (zI (-1)), .int 0, .ref (m + 1), .ref (m + 2), .ref (m + 3), .ref (m + 4), .ref (m + 5), .ref (m + 6), .ref (m + 7), .ref (m + 8), .null, .null, .null, .null, .int 0, .int 0, .int 0, .int 0, .int 0, .int 0])) ea8 ta8 (al_rf (h := a8) (n := m + 8)) (show a8.1.length = m + 9 from la8) c7 hn8
  have x8 := (u8 (m + 8) hn8).trans na8
  clear ta8 ea8 la8 t7
  obtain ⟨a9, ha9, la9, na9, ea9, ta9⟩ := al_new (gA 60 (fun _ => 0)) 60 l8 (Nat.le_of_lt hn9) t8
  obtain ⟨cd9, b9, hb9, c9, l9, u9, s9, t9⟩ := al_put (.inr (12, [.int 0, .int 0, .int (zI (-1)), .int (zI (-1)), .int 0, .ref (m + 1), .ref (m + 2), .ref (m + 3), .ref (m + 4), .ref (m + 5), .ref (m + 6), .ref (m + 7), .ref (m + 8), .ref (m + 9), .null, .null, .null, .int 0, .int 0, .int 0, .int 0, .int 0, .int 0])) ea9 ta9 (al_rf (h := a9) (n := m + 9)) (show a9.1.length = m + 10 from la9) c8 hn9
  have x9 := (u9 (m + 9) hn9).trans na9
  clear ta9 ea9 la9 t8
  obtain ⟨a10, ha10, la10, na10, ea10, ta10⟩ := al_new (gA 10 (fun _ => 0)) 10 l9 (Nat.le_of_lt hn10) t9
  obtain ⟨cd10, b10, hb10, c10, l10, u10, s10, t10⟩ := al_put (.inr (12, [.int 0, .int 0, .int (zI (-1)), .int (zI (-1)), .int 0, .ref (m + 1), .ref (m + 2), .ref (m + 3), .ref (m + 4), .ref (m + 5), .ref (m + 6), .ref (m + 7), .ref (m + 8), .ref (m + 9), .ref (m + 10), .null, .null, .int 0, .int 0, .int 0, .int 0, .int 0, .int 0])) ea10 ta10 (al_rf (h := a10) (n := m + 10)) (show a10.1.length = m + 11 from la10) c9 hn10
  have x10 := (u10 (m + 10) hn10).trans na10
  clear ta10 ea10 la10 t9
  obtain ⟨a11, ha11, la11, na11, ea11, ta11⟩ := al_new (gA 60 (fun _ => 0)) 60 l10 (Nat.le_of_lt hn11) t10
  obtain ⟨d11, hd11⟩ : ∃ x : gm_H, x = (a11.1.set (m + 11) (gA 60 zWo), a11.2) := ⟨_, rfl⟩
  have nd11 : d11.1[m + 11]? = some (gA 60 zWo) := by rw [hd11]; exact gs_s na11
  have ld11 : d11.1.length = m + 11 + 1 := by rw [hd11]; exact gl_s la11
  have g11 : gh_al a11 d11 (m + 11) 0 0 := by rw [hd11]; exact al_s al_rf (Nat.le_refl _)
  obtain ⟨cd11, b11, hb11, c11, l11, u11, s11, t11⟩ := al_put (.inr (12, [.int 0, .int 0, .int (zI (-1)), .int (zI (-1)), .int 0, .ref (m + 1), .ref (m + 2), .ref (m + 3), .ref (m + 4), .ref (m + 5), .ref (m + 6), .ref (m + 7), .ref (m + 8), .ref (m + 9), .ref (m + 10), .ref (m + 11), .null, .int 0, .int 0, .int 0, .int 0, .int 0, .int 0])) ea11 ta11 g11 (show d11.1.length = m + 12 from ld11) c10 hn11
  have x11 := (u11 (m + 11) hn11).trans nd11
  clear ta11 ea11 la11 t10 g11 ld11
  obtain ⟨a12, ha12, la12, na12, ea12, ta12⟩ := al_new (gA 11 (fun _ => 0)) 11 l11 (Nat.le_of_lt hn12) t11
  obtain ⟨d12, hd12⟩ : ∃ x : gm_H, x = (a12.1.set (m + 12) (gA 11 zWa), a12.2) := ⟨_, rfl⟩
  have nd12 : d12.1[m + 12]? = some (gA 11 zWa) := by rw [hd12]; exact gs_s na12
  have ld12 : d12.1.length = m + 12 + 1 := by rw [hd12]; exact gl_s la12
  have g12 : gh_al a12 d12 (m + 12) 0 0 := by rw [hd12]; exact al_s al_rf (Nat.le_refl _)
  obtain ⟨cd12, b12, hb12, c12, l12, u12, s12, t12⟩ := al_put (.inr (12, [.int 0, .int 0, .int (zI (-1)), .int (zI (-1)), .int 0, .ref (m + 1), .ref (m + 2), .ref (m + 3), .ref (m + 4), .ref (m + 5), .ref (m + 6), .ref (m + 7), .ref (m + 8), .ref (m + 9), .ref (m + 10), .ref (m + 11), .ref (m + 12), .int 0, .int 0, .int 0, .int 0, .int 0, .int 0])) ea12 ta12 g12 (show d12.1.length = m + 13 from ld12) c11 hn12
  have x12 := (u12 (m + 12) hn12).trans nd12
  clear ta12 ea12 la12 t11 g12 ld12
  have E11 : ∀ k, m < k → k < m + 12 → b12.1[k]? = b11.1[k]? := fun k a b => s12 k a b
  have E10 : ∀ k, m < k → k < m + 11 → b12.1[k]? = b10.1[k]? := fun k a b => (E11 k a (Nat.lt_of_lt_of_le b hu11)).trans (s11 k a b)
  have E9 : ∀ k, m < k → k < m + 10 → b12.1[k]? = b9.1[k]? := fun k a b => (E10 k a (Nat.lt_of_lt_of_le b hu10)).trans (s10 k a b)
  have E8 : ∀ k, m < k → k < m + 9 → b12.1[k]? = b8.1[k]? := fun k a b => (E9 k a (Nat.lt_of_lt_of_le b hu9)).trans (s9 k a b)
  have E7 : ∀ k, m < k → k < m + 8 → b12.1[k]? = b7.1[k]? := fun k a b => (E8 k a (Nat.lt_of_lt_of_le b hu8)).trans (s8 k a b)
  have E6 : ∀ k, m < k → k < m + 7 → b12.1[k]? = b6.1[k]? := fun k a b => (E7 k a (Nat.lt_of_lt_of_le b hu7)).trans (s7 k a b)
  have E5 : ∀ k, m < k → k < m + 6 → b12.1[k]? = b5.1[k]? := fun k a b => (E6 k a (Nat.lt_of_lt_of_le b hu6)).trans (s6 k a b)
  have E4 : ∀ k, m < k → k < m + 5 → b12.1[k]? = b4.1[k]? := fun k a b => (E5 k a (Nat.lt_of_lt_of_le b hu5)).trans (s5 k a b)
  have E3 : ∀ k, m < k → k < m + 4 → b12.1[k]? = b3.1[k]? := fun k a b => (E4 k a (Nat.lt_of_lt_of_le b hu4)).trans (s4 k a b)
  have E2 : ∀ k, m < k → k < m + 3 → b12.1[k]? = b2.1[k]? := fun k a b => (E3 k a (Nat.lt_of_lt_of_le b hu3)).trans (s3 k a b)
  have E1 : ∀ k, m < k → k < m + 2 → b12.1[k]? = b1.1[k]? := fun k a b => (E2 k a (Nat.lt_of_lt_of_le b hu2)).trans (s2 k a b)
  have y1 := (E1 (m + 1) hn1 (by omega)).trans x1
  have y2 := (E2 (m + 2) hn2 (by omega)).trans x2
  have y3 := (E3 (m + 3) hn3 (by omega)).trans x3
  have y4 := (E4 (m + 4) hn4 (by omega)).trans x4
  have y5 := (E5 (m + 5) hn5 (by omega)).trans x5
  have y6 := (E6 (m + 6) hn6 (by omega)).trans x6
  have y7 := (E7 (m + 7) hn7 (by omega)).trans x7
  have y8 := (E8 (m + 8) hn8 (by omega)).trans x8
  have y9 := (E9 (m + 9) hn9 (by omega)).trans x9
  have y10 := (E10 (m + 10) hn10 (by omega)).trans x10
  have y11 := (E11 (m + 11) hn11 (by omega)).trans x11
  have y12 := x12
  clear E1 E2 E3 E4 E5 E6 E7 E8 E9 E10 E11 s1 u1 x1 s2 u2 x2 s3 u3 x3 s4 u4 x4 s5 u5 x5 s6 u6 x6 s7 u7 x7 s8 u8 x8 s9 u9 x9 s10 u10 x10 s11 u11 x11 s12 u12 x12
  obtain ⟨z1, hz1⟩ : ∃ x : gm_H, x = (b12.1.set (m + 1) (gA 118 zV0), b12.2) := ⟨_, rfl⟩
  have g1 : gh_fr b12 z1 (fun k => k = m + 1) := by rw [hz1]; exact gh_set (K := fun k => k = m + 1) gh_rf rfl _
  have v1 : z1.1[m + 1]? = some (gA 118 zV0) := by rw [hz1]; exact gs_s y1
  have t13 := al_s (k := m + 1) (c := gA 118 zV0) t12 (Nat.le_of_lt hn1); rw [← hz1] at t13
  have w2 := gh_at g1 y2 (by omega)
  have w3 := gh_at g1 y3 (by omega)
  have w4 := gh_at g1 y4 (by omega)
  have w5 := gh_at g1 y5 (by omega)
  have w6 := gh_at g1 y6 (by omega)
  have w7 := gh_at g1 y7 (by omega)
  have w8 := gh_at g1 y8 (by omega)
  have w9 := gh_at g1 y9 (by omega)
  have w10 := gh_at g1 y10 (by omega)
  have w11 := gh_at g1 y11 (by omega)
  have w12 := gh_at g1 y12 (by omega)
  have cM : z1.1[m]? = some (md_c m zMK0) := gh_at g1 c12 (by omega)
  have l13 : z1.1.length = m + 13 := by rw [g1.2.1]; exact l12
  refine ⟨z1, ?_, l13, cM, v1, w2, w3, w4, w5, w6, w7, w8, w9, ⟨w8, ⟨_, w10⟩, w11, w12⟩, t13⟩
  clear w2 w3 w4 w5 w6 w7 w8 w9 w10 w11 w12 cM l13 t13 v1 g1 t12
  refine gm_co_of _ (by decide +kernel) rfl (Nat.le_of_ble_eq_true rfl) rfl ?_
  refine gm_go.ru (gm_aload_n dX11_init_0 rfl (by first | exact Or.inl ⟨_, rfl⟩ | exact Or.inr ⟨_, rfl⟩)) ?_
  refine gm_go.ru (gm_objInit dX11_init_1 rfl (ol_X11_1 rfl) oi_i oi_c (Nat.le_of_ble_eq_true rfl) (by decide)) ?_
  refine gm_go.ru (gm_aload_n dX11_init_4 rfl (by first | exact Or.inl ⟨_, rfl⟩ | exact Or.inr ⟨_, rfl⟩)) ?_
  refine gm_go.ru (gi_const dX11_init_5) ?_
  refine gm_go.ru (gm_put dX11_init_6 (fp_X11_7 rfl) h0 (Nat.le_of_ble_eq_true rfl) (by first | exact ⟨rfl, rfl⟩ | exact trivial)) ?_
  refine gm_hp hp1 ?_
  refine gm_go.ru (gm_aload_n dX11_init_9 rfl (by first | exact Or.inl ⟨_, rfl⟩ | exact Or.inr ⟨_, rfl⟩)) ?_
  refine gm_go.ru (gi_const dX11_init_10) ?_
  refine gm_go.ru (gm_put dX11_init_11 (fp_X11_13 rfl) q1 (Nat.le_of_ble_eq_true rfl) (by first | exact ⟨rfl, rfl⟩ | exact trivial)) ?_
  refine gm_hp hb0 ?_
  refine gm_go.ru (gm_aload_n dX11_init_14 rfl (by first | exact Or.inl ⟨_, rfl⟩ | exact Or.inr ⟨_, rfl⟩)) ?_
  refine gm_go.ru (gi_bipush dX11_init_15 (by decide +kernel)) ?_
  refine gm_go.ru (gm_newa_int dX11_init_17 ac_int (by decide) rfl (by decide)) ?_
  rw [l0]; refine gm_hp ha1 ?_
  refine gm_go.ru (gm_put dX11_init_19 (fp_X11_16 rfl rfl) cd1 (Nat.le_of_ble_eq_true rfl) (by first | exact ⟨rfl, rfl⟩ | exact trivial)) ?_
  refine gm_hp hb1 ?_
  refine gm_go.ru (gm_aload_n dX11_init_22 rfl (by first | exact Or.inl ⟨_, rfl⟩ | exact Or.inr ⟨_, rfl⟩)) ?_
  refine gm_go.ru (gi_bipush dX11_init_23 (by decide +kernel)) ?_
  refine gm_go.ru (gm_newa_int dX11_init_25 ac_int (by decide) rfl (by decide)) ?_
  rw [l1]; refine gm_hp ha2 ?_
  refine gm_go.ru (gm_put dX11_init_27 (fp_X11_20 rfl rfl) cd2 (Nat.le_of_ble_eq_true rfl) (by first | exact ⟨rfl, rfl⟩ | exact trivial)) ?_
  refine gm_hp hb2 ?_
  refine gm_go.ru (gm_aload_n dX11_init_30 rfl (by first | exact Or.inl ⟨_, rfl⟩ | exact Or.inr ⟨_, rfl⟩)) ?_
  refine gm_go.ru (gi_bipush dX11_init_31 (by decide +kernel)) ?_
  refine gm_go.ru (gm_newa_int dX11_init_33 ac_int (by decide) rfl (by decide)) ?_
  rw [l2]; refine gm_hp ha3 ?_
  refine gm_go.ru (gm_put dX11_init_35 (fp_X11_23 rfl rfl) cd3 (Nat.le_of_ble_eq_true rfl) (by first | exact ⟨rfl, rfl⟩ | exact trivial)) ?_
  refine gm_hp hb3 ?_
  refine gm_go.ru (gm_aload_n dX11_init_38 rfl (by first | exact Or.inl ⟨_, rfl⟩ | exact Or.inr ⟨_, rfl⟩)) ?_
  refine gm_go.ru (gi_sipush dX11_init_39 (by decide +kernel)) ?_
  refine gm_go.ru (gm_newa_int dX11_init_42 ac_int (by decide) rfl (by decide)) ?_
  rw [l3]; refine gm_hp ha4 ?_
  refine gm_go.ru (gm_put dX11_init_44 (fp_X11_26 rfl rfl) cd4 (Nat.le_of_ble_eq_true rfl) (by first | exact ⟨rfl, rfl⟩ | exact trivial)) ?_
  refine gm_hp hb4 ?_
  refine gm_go.ru (gm_aload_n dX11_init_47 rfl (by first | exact Or.inl ⟨_, rfl⟩ | exact Or.inr ⟨_, rfl⟩)) ?_
  refine gm_go.ru (gi_sipush dX11_init_48 (by decide +kernel)) ?_
  refine gm_go.ru (gm_newa_int dX11_init_51 ac_int (by decide) rfl (by decide)) ?_
  rw [l4]; refine gm_hp ha5 ?_
  refine gm_go.ru (gm_put dX11_init_53 (fp_X11_29 rfl rfl) cd5 (Nat.le_of_ble_eq_true rfl) (by first | exact ⟨rfl, rfl⟩ | exact trivial)) ?_
  refine gm_hp hb5 ?_
  refine gm_go.ru (gm_aload_n dX11_init_56 rfl (by first | exact Or.inl ⟨_, rfl⟩ | exact Or.inr ⟨_, rfl⟩)) ?_
  refine gm_go.ru (gi_sipush dX11_init_57 (by decide +kernel)) ?_
  refine gm_go.ru (gm_newa_int dX11_init_60 ac_int (by decide) rfl (by decide)) ?_
  rw [l5]; refine gm_hp ha6 ?_
  refine gm_go.ru (gm_put dX11_init_62 (fp_X11_32 rfl rfl) cd6 (Nat.le_of_ble_eq_true rfl) (by first | exact ⟨rfl, rfl⟩ | exact trivial)) ?_
  refine gm_hp hb6 ?_
  refine gm_go.ru (gm_aload_n dX11_init_65 rfl (by first | exact Or.inl ⟨_, rfl⟩ | exact Or.inr ⟨_, rfl⟩)) ?_
  refine gm_go.ru (gi_sipush dX11_init_66 (by decide +kernel)) ?_
  refine gm_go.ru (gm_newa_int dX11_init_69 ac_int (by decide) rfl (by decide)) ?_
  rw [l6]; refine gm_hp ha7 ?_
  refine gm_go.ru (gm_put dX11_init_71 (fp_X11_35 rfl rfl) cd7 (Nat.le_of_ble_eq_true rfl) (by first | exact ⟨rfl, rfl⟩ | exact trivial)) ?_
  refine gm_hp hb7 ?_
  refine gm_go.ru (gm_aload_n dX11_init_74 rfl (by first | exact Or.inl ⟨_, rfl⟩ | exact Or.inr ⟨_, rfl⟩)) ?_
  refine gm_go.ru (gi_bipush dX11_init_75 (by decide +kernel)) ?_
  refine gm_go.ru (gm_newa_int dX11_init_77 ac_int (by decide) rfl (by decide)) ?_
  rw [l7]; refine gm_hp ha8 ?_
  refine gm_go.ru (gm_put dX11_init_79 (fp_X11_38 rfl rfl) cd8 (Nat.le_of_ble_eq_true rfl) (by first | exact ⟨rfl, rfl⟩ | exact trivial)) ?_
  refine gm_hp hb8 ?_
  refine gm_go.ru (gm_aload_n dX11_init_82 rfl (by first | exact Or.inl ⟨_, rfl⟩ | exact Or.inr ⟨_, rfl⟩)) ?_
  refine gm_go.ru (gi_bipush dX11_init_83 (by decide +kernel)) ?_
  refine gm_go.ru (gm_newa_int dX11_init_85 ac_int (by decide) rfl (by decide)) ?_
  rw [l8]; refine gm_hp ha9 ?_
  refine gm_go.ru (gm_put dX11_init_87 (fp_X11_41 rfl rfl) cd9 (Nat.le_of_ble_eq_true rfl) (by first | exact ⟨rfl, rfl⟩ | exact trivial)) ?_
  refine gm_hp hb9 ?_
  refine gm_go.ru (gm_aload_n dX11_init_90 rfl (by first | exact Or.inl ⟨_, rfl⟩ | exact Or.inr ⟨_, rfl⟩)) ?_
  refine gm_go.ru (gi_bipush dX11_init_91 (by decide +kernel)) ?_
  refine gm_go.ru (gm_newa_int dX11_init_93 ac_int (by decide) rfl (by decide)) ?_
  rw [l9]; refine gm_hp ha10 ?_
  refine gm_go.ru (gm_put dX11_init_95 (fp_X11_44 rfl rfl) cd10 (Nat.le_of_ble_eq_true rfl) (by first | exact ⟨rfl, rfl⟩ | exact trivial)) ?_
  refine gm_hp hb10 ?_
  refine gm_go.ru (gm_aload_n dX11_init_98 rfl (by first | exact Or.inl ⟨_, rfl⟩ | exact Or.inr ⟨_, rfl⟩)) ?_
  refine gm_go.ru (gi_bipush dX11_init_99 (by decide +kernel)) ?_
  refine gm_go.ru (gm_newa_int dX11_init_101 ac_int (by decide) rfl (by decide)) ?_
  rw [l10]; refine gm_hp ha11 ?_
  refine gm_go.ru (wk_words (by rw [zWk_0]; exact na11)) ?_
  refine gm_hp hd11 ?_
  refine gm_go.ru (gm_put dX11_init_457 (fp_X11_47 rfl rfl) cd11 (Nat.le_of_ble_eq_true rfl) (by first | exact ⟨rfl, rfl⟩ | exact trivial)) ?_
  refine gm_hp hb11 ?_
  refine gm_go.ru (gm_aload_n dX11_init_460 rfl (by first | exact Or.inl ⟨_, rfl⟩ | exact Or.inr ⟨_, rfl⟩)) ?_
  refine gm_go.ru (gi_bipush dX11_init_461 (by decide +kernel)) ?_
  refine gm_go.ru (gm_newa_int dX11_init_463 ac_int (by decide) rfl (by decide)) ?_
  rw [l11]; refine gm_hp ha12 ?_
  refine gm_go.ru (wk_at (by rw [zWk_0]; exact na12)) ?_
  refine gm_hp hd12 ?_
  refine gm_go.ru (gm_put dX11_init_524 (fp_X11_50 rfl rfl) cd12 (Nat.le_of_ble_eq_true rfl) (by first | exact ⟨rfl, rfl⟩ | exact trivial)) ?_
  refine gm_hp hb12 ?_
  refine gm_go.ru (gm_aload_n dX11_init_527 rfl (by first | exact Or.inl ⟨_, rfl⟩ | exact Or.inr ⟨_, rfl⟩)) ?_
  refine gm_go.ru (gm_get dX11_init_528 (fl_X11_16 rfl) c12 rfl) ?_
  refine gm_go.ru (gi_const dX11_init_531) ?_
  refine gm_go.ru (gi_bipush dX11_init_532 (by decide +kernel)) ?_
  refine gm_go.ru (gi_astN (a := 1) (z := 10) (F := fun _ => 0) dX11_init_534 y1 (by decide) (by decide)) ?_
  refine gm_hp hz1 ?_
  exact gm_vret dX11_init_535 rfl
