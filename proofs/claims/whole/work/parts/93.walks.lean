abbrev lM (x : MethodName) (r : Option FieldType × List (Nat × Nat × Nat × Nat)) : gm_M := (x, (cL_law, (9, r)))
def gx (G : gm_G) (i : Int) : Int := (gm_X G i.toNat).toInt
def gc (a : Int) : Int := ((zI a).toUInt32 % 65536).toInt32.toInt
theorem gx_r (x : Int32) : zR x.toInt := by
  have h1 := x.le_toInt
  have h2 := x.toInt_lt
  unfold zR
  constructor <;> omega
theorem zI_of (x : Int32) : zI x.toInt = x := Int32.ofInt_toInt x
theorem gm_gat {G : gm_G} {M : gm_M} {d : Nat} {f g k : gm_fr} (a : gm_go M d f g) (b : gm_goG G M d g k) : gm_goG G M d f k := gm_goG_tr (a.at G) b
theorem gi_sld {G : gm_G} {M : gm_M} {d pc : Nat} {ls : List (Option Value)} {st : List Value} {h : gm_H} {i : Int} (hd : decode M.2.1 pc = .ok (.iaload, 1)) (h0 : 0 ≤ i) (h1 : i < gm_L G) (hL : gm_L G ≤ 2048) : gm_goG G M d (pc, ls, .int (zI i) :: .retAddr 999 :: st, h) (pc + 1, ls, .int (zI (gx G i)) :: st, h) := by
  have e := gm_siald (G := G) (M := M) (d := d) (ls := ls) (st := st) (h := h) (i := zI i) hd (zI_in h0 h1 (by omega))
  rw [zI_cl ⟨by omega, by omega⟩] at e
  unfold gx
  rw [zI_of]
  exact e
theorem gi_toc {M : gm_M} {d pc : Nat} {ls : List (Option Value)} {st : List Value} {h : gm_H} {a : Int} (hd : decode M.2.1 pc = .ok (.i2c, 1)) : gm_go M d (pc, ls, .int (zI a) :: st, h) (pc + 1, ls, .int (zI (gc a)) :: st, h) := by
  unfold gc
  rw [zI_of]
  exact gm_i2c hd
theorem lg_self (x : Int64) : lg_cmp x x = 0 := by
  unfold lg_cmp
  rw [if_neg (show ¬ x > x from Int64.lt_irrefl), if_pos rfl]
theorem gm_cX {M Y : gm_M} {d d' pc index n : Nat} {ls : List (Option Value)} {st rest As : List Value} {h h' : gm_H} {v : Value} (hd : decode M.2.1 pc = .ok (.invokestatic index, 3)) (hc : gm_co Y d' As h (.inl (some v)) h') (hst : st = As.reverse ++ rest) (hY : gm_mx Y n) (hV : Cond.static Y.1 ∈ gm_big) (hl : Cond.methodLink M.1.cls index Y.1 ∈ gm_big) (hn : As.length = n) (hrest : (rest.map fun v => v.category).sum ≤ 8) (hdd : d' < d) : gm_go M d (pc, ls, st, h) (pc + 3, ls, v :: rest, h') := by
  subst hst
  exact gm_call (gm_runX hd hc hY hV hl hn hrest hdd)
theorem ll_L_142 {M : gm_M} (h : M.1.cls = RL) : Cond.methodLink M.1.cls 142 mL_addNeedle.1 ∈ gm_big := by rw [h]; exact gm_in (i := 552) (by decide +kernel) (by decide +kernel)
theorem ll_L_151 {M : gm_M} (h : M.1.cls = RL) : Cond.methodLink M.1.cls 151 mL_setDeviation.1 ∈ gm_big := by rw [h]; exact gm_in (i := 842) (by decide +kernel) (by decide +kernel)
theorem ll_L_155 {M : gm_M} (h : M.1.cls = RL) : Cond.methodLink M.1.cls 155 mL_shift.1 ∈ gm_big := by rw [h]; exact gm_in (i := 872) (by decide +kernel) (by decide +kernel)
theorem ll_L_159 {M : gm_M} (h : M.1.cls = RL) : Cond.methodLink M.1.cls 159 mL_correct.1 ∈ gm_big := by rw [h]; exact gm_in (i := 882) (by decide +kernel) (by decide +kernel)
theorem ll_L_162 {M : gm_M} (h : M.1.cls = RL) : Cond.methodLink M.1.cls 162 mL_discard.1 ∈ gm_big := by rw [h]; exact gm_in (i := 891) (by decide +kernel) (by decide +kernel)
theorem ll_L_165 {M : gm_M} (h : M.1.cls = RL) : Cond.methodLink M.1.cls 165 mL_setTolerance.1 ∈ gm_big := by rw [h]; exact gm_in (i := 900) (by decide +kernel) (by decide +kernel)
theorem ll_L_172 {M : gm_M} (h : M.1.cls = RL) : Cond.methodLink M.1.cls 172 mL_strengthOf.1 ∈ gm_big := by rw [h]; exact gm_in (i := 909) (by decide +kernel) (by decide +kernel)
theorem ll_L_175 {M : gm_M} (h : M.1.cls = RL) : Cond.methodLink M.1.cls 175 mL_isDiscarded.1 ∈ gm_big := by rw [h]; exact gm_in (i := 922) (by decide +kernel) (by decide +kernel)
theorem ll_L_178 {M : gm_M} (h : M.1.cls = RL) : Cond.methodLink M.1.cls 178 mL_isReject.1 ∈ gm_big := by rw [h]; exact gm_in (i := 930) (by decide +kernel) (by decide +kernel)
theorem ll_L_185 {M : gm_M} (h : M.1.cls = RL) : Cond.methodLink M.1.cls 185 mL_deviationAt.1 ∈ gm_big := by rw [h]; exact gm_in (i := 938) (by decide +kernel) (by decide +kernel)
theorem ll_L_188 {M : gm_M} (h : M.1.cls = RL) : Cond.methodLink M.1.cls 188 mL_trueCourse.1 ∈ gm_big := by rw [h]; exact gm_in (i := 957) (by decide +kernel) (by decide +kernel)
theorem ll_L_191 {M : gm_M} (h : M.1.cls = RL) : Cond.methodLink M.1.cls 191 mL_courseFor.1 ∈ gm_big := by rw [h]; exact gm_in (i := 972) (by decide +kernel) (by decide +kernel)
theorem ll_L_194 {M : gm_M} (h : M.1.cls = RL) : Cond.methodLink M.1.cls 194 mL_courseForNearby.1 ∈ gm_big := by rw [h]; exact gm_in (i := 989) (by decide +kernel) (by decide +kernel)
theorem ll_L_197 {M : gm_M} (h : M.1.cls = RL) : Cond.methodLink M.1.cls 197 mL_missedCourses.1 ∈ gm_big := by rw [h]; exact gm_in (i := 1000) (by decide +kernel) (by decide +kernel)
theorem ll_L_200 {M : gm_M} (h : M.1.cls = RL) : Cond.methodLink M.1.cls 200 mL_errorOf.1 ∈ gm_big := by rw [h]; exact gm_in (i := 1010) (by decide +kernel) (by decide +kernel)
theorem ll_L_203 {M : gm_M} (h : M.1.cls = RL) : Cond.methodLink M.1.cls 203 mL_bestShift.1 ∈ gm_big := by rw [h]; exact gm_in (i := 1018) (by decide +kernel) (by decide +kernel)
theorem ll_L_206 {M : gm_M} (h : M.1.cls = RL) : Cond.methodLink M.1.cls 206 mL_bestShiftBySum.1 ∈ gm_big := by rw [h]; exact gm_in (i := 1030) (by decide +kernel) (by decide +kernel)
theorem ll_L_209 {M : gm_M} (h : M.1.cls = RL) : Cond.methodLink M.1.cls 209 mL_needleAtRank.1 ∈ gm_big := by rw [h]; exact gm_in (i := 1038) (by decide +kernel) (by decide +kernel)
theorem ll_L_212 {M : gm_M} (h : M.1.cls = RL) : Cond.methodLink M.1.cls 212 mL_meanError.1 ∈ gm_big := by rw [h]; exact gm_in (i := 1054) (by decide +kernel) (by decide +kernel)
theorem ll_L_228 {M : gm_M} (h : M.1.cls = RL) : Cond.methodLink M.1.cls 228 mL_partnerOf.1 ∈ gm_big := by rw [h]; exact gm_in (i := 1079) (by decide +kernel) (by decide +kernel)
theorem ll_L_231 {M : gm_M} (h : M.1.cls = RL) : Cond.methodLink M.1.cls 231 mL_addBatch.1 ∈ gm_big := by rw [h]; exact gm_in (i := 1092) (by decide +kernel) (by decide +kernel)
theorem ll_L_234 {M : gm_M} (h : M.1.cls = RL) : Cond.methodLink M.1.cls 234 mL_dropBatch.1 ∈ gm_big := by rw [h]; exact gm_in (i := 1101) (by decide +kernel) (by decide +kernel)
theorem ll_L_237 {M : gm_M} (h : M.1.cls = RL) : Cond.methodLink M.1.cls 237 mL_bake.1 ∈ gm_big := by rw [h]; exact gm_in (i := 1110) (by decide +kernel) (by decide +kernel)
theorem ll_L_240 {M : gm_M} (h : M.1.cls = RL) : Cond.methodLink M.1.cls 240 mL_rest.1 ∈ gm_big := by rw [h]; exact gm_in (i := 1119) (by decide +kernel) (by decide +kernel)
theorem ll_L_251 {M : gm_M} (h : M.1.cls = RL) : Cond.methodLink M.1.cls 251 mL_batchAt.1 ∈ gm_big := by rw [h]; exact gm_in (i := 1128) (by decide +kernel) (by decide +kernel)
theorem ll_L_254 {M : gm_M} (h : M.1.cls = RL) : Cond.methodLink M.1.cls 254 mL_latenessNow.1 ∈ gm_big := by rw [h]; exact gm_in (i := 1136) (by decide +kernel) (by decide +kernel)
theorem ll_L_265 {M : gm_M} (h : M.1.cls = RL) : Cond.methodLink M.1.cls 265 mL_bestFirst.1 ∈ gm_big := by rw [h]; exact gm_in (i := 1145) (by decide +kernel) (by decide +kernel)
theorem ll_L_282 {M : gm_M} (h : M.1.cls = RL) : Cond.methodLink M.1.cls 282 mL_bakingShare.1 ∈ gm_big := by rw [h]; exact gm_in (i := 1158) (by decide +kernel) (by decide +kernel)
theorem ll_L_285 {M : gm_M} (h : M.1.cls = RL) : Cond.methodLink M.1.cls 285 mL_writeLabel.1 ∈ gm_big := by rw [h]; exact gm_in (i := 1166) (by decide +kernel) (by decide +kernel)
theorem ll_L_288 {M : gm_M} (h : M.1.cls = RL) : Cond.methodLink M.1.cls 288 mL_labelAt.1 ∈ gm_big := by rw [h]; exact gm_in (i := 1454) (by decide +kernel) (by decide +kernel)
theorem ll_L_291 {M : gm_M} (h : M.1.cls = RL) : Cond.methodLink M.1.cls 291 mL_type.1 ∈ gm_big := by rw [h]; exact gm_in (i := 1472) (by decide +kernel) (by decide +kernel)
theorem ll_L_295 {M : gm_M} (h : M.1.cls = RL) : Cond.methodLink M.1.cls 295 mL_execute.1 ∈ gm_big := by rw [h]; exact gm_in (i := 1485) (by decide +kernel) (by decide +kernel)
theorem ll_L_298 {M : gm_M} (h : M.1.cls = RL) : Cond.methodLink M.1.cls 298 mL_errorPosition.1 ∈ gm_big := by rw [h]; exact gm_in (i := 1556) (by decide +kernel) (by decide +kernel)
theorem ll_L_301 {M : gm_M} (h : M.1.cls = RL) : Cond.methodLink M.1.cls 301 mL_failedCommand.1 ∈ gm_big := by rw [h]; exact gm_in (i := 1564) (by decide +kernel) (by decide +kernel)
theorem ll_L_304 {M : gm_M} (h : M.1.cls = RL) : Cond.methodLink M.1.cls 304 mL_undo.1 ∈ gm_big := by rw [h]; exact gm_in (i := 1572) (by decide +kernel) (by decide +kernel)
theorem ll_L_311 {M : gm_M} (h : M.1.cls = RL) : Cond.methodLink M.1.cls 311 mL_restore.1 ∈ gm_big := by rw [h]; exact gm_in (i := 1585) (by decide +kernel) (by decide +kernel)
/-- the law's helper and the Model's method, one after the other -/
def LH (h h2 : gm_H) (n : Nat) (Mc : gm_M) (ac : List Value) (Mm : gm_M) (am : List Value) (k : Int) (v : Value) : Prop := ∃ h1 K1 K2 D D', D < 14 ∧ D' < 14 ∧ gm_co Mc D' ac h (.inl (some (.int (zI k)))) h1 ∧ h1.1[n + 113]? = some (md_c (n + 113) K1) ∧ gm_co Mm D am h1 (.inl (some v)) h2 ∧ h2.1[n + 113]? = some (md_c (n + 113) K2) ∧ K2 0 = k ∧ zR k
def LQ (h h2 : gm_H) (n : Nat) (Mc Mm : gm_M) (v : Value) : Prop := ∃ h1 s e f K1 D1 D2, D1 < 14 ∧ D2 < 14 ∧ h.1[n]? = some (by_c n s e f) ∧ gm_co Mc D1 [.ref n] h (.inl (some v)) h1 ∧ h1.1[n + 113]? = some (md_c (n + 113) K1) ∧ gm_co Mm D2 [.ref (n + 113)] h1 (.inl (some v)) h2
set_option maxRecDepth 4000 in
theorem lw_addNeedle {G : gm_G} {x : MethodName} {r : Option FieldType × List (Nat × Nat × Nat × Nat)} (hx : x.cls = RL) {n : Nat} {i : Int} {x6 x7 x8 : Option Value} {h h2 : gm_H} {b : Int} (hb : zR b) {k : Int} (hi : 0 ≤ i) (hi4 : i + 4 ≤ gm_L G) (hL : gm_L G ≤ 2048) (H : LH h h2 n mL_addNeedle [.ref n, .int (zI (gx G (i + 1))), .ref (n + 126)] mX11_addNeedle [.ref (n + 113), .int (zI (gx G (i + 1)))] k (.int (zI b))) (ho : k = 0 → ∃ g, h2.1[n + 126]? = some (gLo g) ∧ g 0 = zL b) : gm_goG G (lM x r) 14 (256, [some (.retAddr 999), some (.ref n), some (.ref (n + 113)), some (.ref (n + 126)), some (.ref (n + 127)), some (.int (zI i)), x6, x7, x8], [], h) (2513, [some (.retAddr 999), some (.ref n), some (.ref (n + 113)), some (.ref (n + 126)), some (.ref (n + 127)), some (.int (zI i)), (some (.int (zI k))), (some (.int (zI b))), x8], [], h2) := by
  obtain ⟨h1, K1, K2, D, D0, hD, hD0, c1, hM1, c2, hM2, rfl, hk⟩ := H
  refine gm_gat (gm_aload_n dL_law_256 rfl (by first | exact Or.inl ⟨_, rfl⟩ | exact Or.inr ⟨_, rfl⟩)) ?_
  refine gm_gat (gm_aload_n dL_law_257 rfl (by first | exact Or.inl ⟨_, rfl⟩ | exact Or.inr ⟨_, rfl⟩)) ?_
  refine gm_gat (gm_iload dL_law_258 rfl) ?_
  refine gm_gat (gi_const dL_law_260) ?_
  refine gm_gat (gi_add dL_law_261) ?_
  refine gm_goG_tr (gi_sld dL_law_262 (by omega) (by omega) hL) ?_
  refine gm_gat (gm_aload_n dL_law_263 rfl (by first | exact Or.inl ⟨_, rfl⟩ | exact Or.inr ⟨_, rfl⟩)) ?_
  refine gm_gat (gm_cX dL_law_264 (c1) rfl mx_L_addNeedle ms_L_addNeedle (ll_L_142 hx) rfl (Nat.le_of_ble_eq_true rfl) hD0) ?_
  refine gm_gat (gm_istore (ls' := [_, _, _, _, _, _, _, _, _]) dL_law_267 (Nat.le_of_ble_eq_true rfl) rfl) ?_
  refine gm_gat (gm_aload_n dL_law_269 rfl (by first | exact Or.inl ⟨_, rfl⟩ | exact Or.inr ⟨_, rfl⟩)) ?_
  refine gm_gat (gm_aload_n dL_law_270 rfl (by first | exact Or.inl ⟨_, rfl⟩ | exact Or.inr ⟨_, rfl⟩)) ?_
  refine gm_gat (gm_iload dL_law_271 rfl) ?_
  refine gm_gat (gi_const dL_law_273) ?_
  refine gm_gat (gi_add dL_law_274) ?_
  refine gm_goG_tr (gi_sld dL_law_275 (by omega) (by omega) hL) ?_
  refine gm_gat (gm_cV dL_law_276 (c2) rfl mt_X11_addNeedle mv_X11_addNeedle (lk_L_147 hx) (Or.inl ⟨_, 12, _, _, _, rfl, hM1, rfl⟩) rfl (Nat.le_of_ble_eq_true rfl) hD) ?_
  refine gm_gat (gm_istore (ls' := [_, _, _, _, _, _, _, _, _]) dL_law_279 (Nat.le_of_ble_eq_true rfl) rfl) ?_
  refine gm_gat (gm_aload_n dL_law_281 rfl (by first | exact Or.inl ⟨_, rfl⟩ | exact Or.inr ⟨_, rfl⟩)) ?_
  refine gm_gat (gm_cV dL_law_282 ((ct_mThrown hM2)) rfl mt_X11_thrown mv_X11_thrown (lk_L_148 hx) (Or.inl ⟨_, 12, _, _, _, rfl, hM2, rfl⟩) rfl (Nat.le_of_ble_eq_true rfl) (by decide)) ?_
  refine gm_gat (gm_iload dL_law_285 rfl) ?_
  refine gm_gat (gi_icmp_eq_t (tgt := 292) dL_law_287 (by decide) hk hk rfl) ?_
  refine gm_gat (gm_iload dL_law_292 rfl) ?_
  by_cases h0 : K2 0 = 0
  ·
    obtain ⟨g, o1, o2⟩ := ho h0
    refine gm_gat (gi_if_ne_f 309 dL_law_294 (by decide) hk h0) ?_
    refine gm_gat (gm_aload_n dL_law_297 rfl (by first | exact Or.inl ⟨_, rfl⟩ | exact Or.inr ⟨_, rfl⟩)) ?_
    refine gm_gat (gi_const dL_law_298) ?_
    refine gm_gat (gm_lald dL_law_299 o1 z_0in) ?_
    rw [z_0cl, o2]
    refine gm_gat (gm_iload dL_law_300 rfl) ?_
    refine gm_gat (gi_i2l dL_law_302 hb) ?_
    refine gm_gat (gm_lcmp dL_law_303) ?_
    refine gm_gat (gm_if_eq_t (tgt := 309) dL_law_304 (by decide) (lg_self _)) ?_
    refine gm_gat (gm_goto (tgt := 2513) dL_law_309 (by decide)) ?_
    exact gm_goG_rf
  ·
    refine gm_gat (gi_if_ne_t (tgt := 309) dL_law_294 (by decide) hk h0) ?_
    refine gm_gat (gm_goto (tgt := 2513) dL_law_309 (by decide)) ?_
    exact gm_goG_rf
set_option maxRecDepth 4000 in
theorem lw_setDeviation {G : gm_G} {x : MethodName} {r : Option FieldType × List (Nat × Nat × Nat × Nat)} (hx : x.cls = RL) {n : Nat} {i : Int} {x6 x7 x8 : Option Value} {h h2 : gm_H} {b : Int} (hb : zR b) {k : Int} (hi : 0 ≤ i) (hi4 : i + 4 ≤ gm_L G) (hL : gm_L G ≤ 2048) (H : LH h h2 n mL_setDeviation [.ref n, .int (zI (gx G (i + 1))), .int (zI (gx G (i + 2))), .int (zI (gx G (i + 3))), .ref (n + 126)] mX11_setDeviation [.ref (n + 113), .int (zI (gx G (i + 1))), .int (zI (gx G (i + 2))), .int (zI (gx G (i + 3)))] k (.int (zI b))) (ho : k = 0 → ∃ g, h2.1[n + 126]? = some (gLo g) ∧ g 0 = zL b) : gm_goG G (lM x r) 14 (312, [some (.retAddr 999), some (.ref n), some (.ref (n + 113)), some (.ref (n + 126)), some (.ref (n + 127)), some (.int (zI i)), x6, x7, x8], [], h) (2513, [some (.retAddr 999), some (.ref n), some (.ref (n + 113)), some (.ref (n + 126)), some (.ref (n + 127)), some (.int (zI i)), (some (.int (zI k))), (some (.int (zI b))), x8], [], h2) := by
  obtain ⟨h1, K1, K2, D, D0, hD, hD0, c1, hM1, c2, hM2, rfl, hk⟩ := H
  refine gm_gat (gm_aload_n dL_law_312 rfl (by first | exact Or.inl ⟨_, rfl⟩ | exact Or.inr ⟨_, rfl⟩)) ?_
  refine gm_gat (gm_aload_n dL_law_313 rfl (by first | exact Or.inl ⟨_, rfl⟩ | exact Or.inr ⟨_, rfl⟩)) ?_
  refine gm_gat (gm_iload dL_law_314 rfl) ?_
  refine gm_gat (gi_const dL_law_316) ?_
  refine gm_gat (gi_add dL_law_317) ?_
  refine gm_goG_tr (gi_sld dL_law_318 (by omega) (by omega) hL) ?_
  refine gm_gat (gm_aload_n dL_law_319 rfl (by first | exact Or.inl ⟨_, rfl⟩ | exact Or.inr ⟨_, rfl⟩)) ?_
  refine gm_gat (gm_iload dL_law_320 rfl) ?_
  refine gm_gat (gi_const dL_law_322) ?_
  refine gm_gat (gi_add dL_law_323) ?_
  refine gm_goG_tr (gi_sld dL_law_324 (by omega) (by omega) hL) ?_
  refine gm_gat (gm_aload_n dL_law_325 rfl (by first | exact Or.inl ⟨_, rfl⟩ | exact Or.inr ⟨_, rfl⟩)) ?_
  refine gm_gat (gm_iload dL_law_326 rfl) ?_
  refine gm_gat (gi_const dL_law_328) ?_
  refine gm_gat (gi_add dL_law_329) ?_
  refine gm_goG_tr (gi_sld dL_law_330 (by omega) (by omega) hL) ?_
  refine gm_gat (gm_aload_n dL_law_331 rfl (by first | exact Or.inl ⟨_, rfl⟩ | exact Or.inr ⟨_, rfl⟩)) ?_
  refine gm_gat (gm_cX dL_law_332 (c1) rfl mx_L_setDeviation ms_L_setDeviation (ll_L_151 hx) rfl (Nat.le_of_ble_eq_true rfl) hD0) ?_
  refine gm_gat (gm_istore (ls' := [_, _, _, _, _, _, _, _, _]) dL_law_335 (Nat.le_of_ble_eq_true rfl) rfl) ?_
  refine gm_gat (gm_aload_n dL_law_337 rfl (by first | exact Or.inl ⟨_, rfl⟩ | exact Or.inr ⟨_, rfl⟩)) ?_
  refine gm_gat (gm_aload_n dL_law_338 rfl (by first | exact Or.inl ⟨_, rfl⟩ | exact Or.inr ⟨_, rfl⟩)) ?_
  refine gm_gat (gm_iload dL_law_339 rfl) ?_
  refine gm_gat (gi_const dL_law_341) ?_
  refine gm_gat (gi_add dL_law_342) ?_
  refine gm_goG_tr (gi_sld dL_law_343 (by omega) (by omega) hL) ?_
  refine gm_gat (gm_aload_n dL_law_344 rfl (by first | exact Or.inl ⟨_, rfl⟩ | exact Or.inr ⟨_, rfl⟩)) ?_
  refine gm_gat (gm_iload dL_law_345 rfl) ?_
  refine gm_gat (gi_const dL_law_347) ?_
  refine gm_gat (gi_add dL_law_348) ?_
  refine gm_goG_tr (gi_sld dL_law_349 (by omega) (by omega) hL) ?_
  refine gm_gat (gm_aload_n dL_law_350 rfl (by first | exact Or.inl ⟨_, rfl⟩ | exact Or.inr ⟨_, rfl⟩)) ?_
  refine gm_gat (gm_iload dL_law_351 rfl) ?_
  refine gm_gat (gi_const dL_law_353) ?_
  refine gm_gat (gi_add dL_law_354) ?_
  refine gm_goG_tr (gi_sld dL_law_355 (by omega) (by omega) hL) ?_
  refine gm_gat (gm_cV dL_law_356 (c2) rfl mt_X11_setDeviation mv_X11_setDeviation (lk_L_154 hx) (Or.inl ⟨_, 12, _, _, _, rfl, hM1, rfl⟩) rfl (Nat.le_of_ble_eq_true rfl) hD) ?_
  refine gm_gat (gm_istore (ls' := [_, _, _, _, _, _, _, _, _]) dL_law_359 (Nat.le_of_ble_eq_true rfl) rfl) ?_
  refine gm_gat (gm_aload_n dL_law_361 rfl (by first | exact Or.inl ⟨_, rfl⟩ | exact Or.inr ⟨_, rfl⟩)) ?_
  refine gm_gat (gm_cV dL_law_362 ((ct_mThrown hM2)) rfl mt_X11_thrown mv_X11_thrown (lk_L_148 hx) (Or.inl ⟨_, 12, _, _, _, rfl, hM2, rfl⟩) rfl (Nat.le_of_ble_eq_true rfl) (by decide)) ?_
  refine gm_gat (gm_iload dL_law_365 rfl) ?_
  refine gm_gat (gi_icmp_eq_t (tgt := 372) dL_law_367 (by decide) hk hk rfl) ?_
  refine gm_gat (gm_iload dL_law_372 rfl) ?_
  by_cases h0 : K2 0 = 0
  ·
    obtain ⟨g, o1, o2⟩ := ho h0
    refine gm_gat (gi_if_ne_f 389 dL_law_374 (by decide) hk h0) ?_
    refine gm_gat (gm_aload_n dL_law_377 rfl (by first | exact Or.inl ⟨_, rfl⟩ | exact Or.inr ⟨_, rfl⟩)) ?_
    refine gm_gat (gi_const dL_law_378) ?_
    refine gm_gat (gm_lald dL_law_379 o1 z_0in) ?_
    rw [z_0cl, o2]
    refine gm_gat (gm_iload dL_law_380 rfl) ?_
    refine gm_gat (gi_i2l dL_law_382 hb) ?_
    refine gm_gat (gm_lcmp dL_law_383) ?_
    refine gm_gat (gm_if_eq_t (tgt := 389) dL_law_384 (by decide) (lg_self _)) ?_
    refine gm_gat (gm_goto (tgt := 2513) dL_law_389 (by decide)) ?_
    exact gm_goG_rf
  ·
    refine gm_gat (gi_if_ne_t (tgt := 389) dL_law_374 (by decide) hk h0) ?_
    refine gm_gat (gm_goto (tgt := 2513) dL_law_389 (by decide)) ?_
    exact gm_goG_rf
set_option maxRecDepth 4000 in
theorem lw_shift {G : gm_G} {x : MethodName} {r : Option FieldType × List (Nat × Nat × Nat × Nat)} (hx : x.cls = RL) {n : Nat} {i : Int} {x6 x7 x8 : Option Value} {h h2 : gm_H} {b : Int} (hb : zR b) {k : Int} (hi : 0 ≤ i) (hi4 : i + 4 ≤ gm_L G) (hL : gm_L G ≤ 2048) (H : LH h h2 n mL_shift [.ref n, .int (zI (gx G (i + 1))), .int (zI (gx G (i + 2))), .ref (n + 126)] mX11_shift [.ref (n + 113), .int (zI (gx G (i + 1))), .int (zI (gx G (i + 2)))] k (.int (zI b))) (ho : k = 0 → ∃ g, h2.1[n + 126]? = some (gLo g) ∧ g 0 = zL b) : gm_goG G (lM x r) 14 (392, [some (.retAddr 999), some (.ref n), some (.ref (n + 113)), some (.ref (n + 126)), some (.ref (n + 127)), some (.int (zI i)), x6, x7, x8], [], h) (2513, [some (.retAddr 999), some (.ref n), some (.ref (n + 113)), some (.ref (n + 126)), some (.ref (n + 127)), some (.int (zI i)), (some (.int (zI k))), (some (.int (zI b))), x8], [], h2) := by
  obtain ⟨h1, K1, K2, D, D0, hD, hD0, c1, hM1, c2, hM2, rfl, hk⟩ := H
  refine gm_gat (gm_aload_n dL_law_392 rfl (by first | exact Or.inl ⟨_, rfl⟩ | exact Or.inr ⟨_, rfl⟩)) ?_
  refine gm_gat (gm_aload_n dL_law_393 rfl (by first | exact Or.inl ⟨_, rfl⟩ | exact Or.inr ⟨_, rfl⟩)) ?_
  refine gm_gat (gm_iload dL_law_394 rfl) ?_
  refine gm_gat (gi_const dL_law_396) ?_
  refine gm_gat (gi_add dL_law_397) ?_
  refine gm_goG_tr (gi_sld dL_law_398 (by omega) (by omega) hL) ?_
  refine gm_gat (gm_aload_n dL_law_399 rfl (by first | exact Or.inl ⟨_, rfl⟩ | exact Or.inr ⟨_, rfl⟩)) ?_
  refine gm_gat (gm_iload dL_law_400 rfl) ?_
  refine gm_gat (gi_const dL_law_402) ?_
  refine gm_gat (gi_add dL_law_403) ?_
  refine gm_goG_tr (gi_sld dL_law_404 (by omega) (by omega) hL) ?_
  refine gm_gat (gm_aload_n dL_law_405 rfl (by first | exact Or.inl ⟨_, rfl⟩ | exact Or.inr ⟨_, rfl⟩)) ?_
  refine gm_gat (gm_cX dL_law_406 (c1) rfl mx_L_shift ms_L_shift (ll_L_155 hx) rfl (Nat.le_of_ble_eq_true rfl) hD0) ?_
  refine gm_gat (gm_istore (ls' := [_, _, _, _, _, _, _, _, _]) dL_law_409 (Nat.le_of_ble_eq_true rfl) rfl) ?_
  refine gm_gat (gm_aload_n dL_law_411 rfl (by first | exact Or.inl ⟨_, rfl⟩ | exact Or.inr ⟨_, rfl⟩)) ?_
  refine gm_gat (gm_aload_n dL_law_412 rfl (by first | exact Or.inl ⟨_, rfl⟩ | exact Or.inr ⟨_, rfl⟩)) ?_
  refine gm_gat (gm_iload dL_law_413 rfl) ?_
  refine gm_gat (gi_const dL_law_415) ?_
  refine gm_gat (gi_add dL_law_416) ?_
  refine gm_goG_tr (gi_sld dL_law_417 (by omega) (by omega) hL) ?_
  refine gm_gat (gm_aload_n dL_law_418 rfl (by first | exact Or.inl ⟨_, rfl⟩ | exact Or.inr ⟨_, rfl⟩)) ?_
  refine gm_gat (gm_iload dL_law_419 rfl) ?_
  refine gm_gat (gi_const dL_law_421) ?_
  refine gm_gat (gi_add dL_law_422) ?_
  refine gm_goG_tr (gi_sld dL_law_423 (by omega) (by omega) hL) ?_
  refine gm_gat (gm_cV dL_law_424 (c2) rfl mt_X11_shift mv_X11_shift (lk_L_158 hx) (Or.inl ⟨_, 12, _, _, _, rfl, hM1, rfl⟩) rfl (Nat.le_of_ble_eq_true rfl) hD) ?_
  refine gm_gat (gm_istore (ls' := [_, _, _, _, _, _, _, _, _]) dL_law_427 (Nat.le_of_ble_eq_true rfl) rfl) ?_
  refine gm_gat (gm_aload_n dL_law_429 rfl (by first | exact Or.inl ⟨_, rfl⟩ | exact Or.inr ⟨_, rfl⟩)) ?_
  refine gm_gat (gm_cV dL_law_430 ((ct_mThrown hM2)) rfl mt_X11_thrown mv_X11_thrown (lk_L_148 hx) (Or.inl ⟨_, 12, _, _, _, rfl, hM2, rfl⟩) rfl (Nat.le_of_ble_eq_true rfl) (by decide)) ?_
  refine gm_gat (gm_iload dL_law_433 rfl) ?_
  refine gm_gat (gi_icmp_eq_t (tgt := 440) dL_law_435 (by decide) hk hk rfl) ?_
  refine gm_gat (gm_iload dL_law_440 rfl) ?_
  by_cases h0 : K2 0 = 0
  ·
    obtain ⟨g, o1, o2⟩ := ho h0
    refine gm_gat (gi_if_ne_f 457 dL_law_442 (by decide) hk h0) ?_
    refine gm_gat (gm_aload_n dL_law_445 rfl (by first | exact Or.inl ⟨_, rfl⟩ | exact Or.inr ⟨_, rfl⟩)) ?_
    refine gm_gat (gi_const dL_law_446) ?_
    refine gm_gat (gm_lald dL_law_447 o1 z_0in) ?_
    rw [z_0cl, o2]
    refine gm_gat (gm_iload dL_law_448 rfl) ?_
    refine gm_gat (gi_i2l dL_law_450 hb) ?_
    refine gm_gat (gm_lcmp dL_law_451) ?_
    refine gm_gat (gm_if_eq_t (tgt := 457) dL_law_452 (by decide) (lg_self _)) ?_
    refine gm_gat (gm_goto (tgt := 2513) dL_law_457 (by decide)) ?_
    exact gm_goG_rf
  ·
    refine gm_gat (gi_if_ne_t (tgt := 457) dL_law_442 (by decide) hk h0) ?_
    refine gm_gat (gm_goto (tgt := 2513) dL_law_457 (by decide)) ?_
    exact gm_goG_rf
set_option maxRecDepth 4000 in
theorem lw_correct {G : gm_G} {x : MethodName} {r : Option FieldType × List (Nat × Nat × Nat × Nat)} (hx : x.cls = RL) {n : Nat} {i : Int} {x6 x7 x8 : Option Value} {h h2 : gm_H} {b : Int} (hb : zR b) {k : Int} (hi : 0 ≤ i) (hi4 : i + 4 ≤ gm_L G) (hL : gm_L G ≤ 2048) (H : LH h h2 n mL_correct [.ref n, .int (zI (gx G (i + 1))), .ref (n + 126)] mX11_correct [.ref (n + 113), .int (zI (gx G (i + 1)))] k (.int (zI b))) (ho : k = 0 → ∃ g, h2.1[n + 126]? = some (gLo g) ∧ g 0 = zL b) : gm_goG G (lM x r) 14 (460, [some (.retAddr 999), some (.ref n), some (.ref (n + 113)), some (.ref (n + 126)), some (.ref (n + 127)), some (.int (zI i)), x6, x7, x8], [], h) (2513, [some (.retAddr 999), some (.ref n), some (.ref (n + 113)), some (.ref (n + 126)), some (.ref (n + 127)), some (.int (zI i)), (some (.int (zI k))), (some (.int (zI b))), x8], [], h2) := by
  obtain ⟨h1, K1, K2, D, D0, hD, hD0, c1, hM1, c2, hM2, rfl, hk⟩ := H
  refine gm_gat (gm_aload_n dL_law_460 rfl (by first | exact Or.inl ⟨_, rfl⟩ | exact Or.inr ⟨_, rfl⟩)) ?_
  refine gm_gat (gm_aload_n dL_law_461 rfl (by first | exact Or.inl ⟨_, rfl⟩ | exact Or.inr ⟨_, rfl⟩)) ?_
  refine gm_gat (gm_iload dL_law_462 rfl) ?_
  refine gm_gat (gi_const dL_law_464) ?_
  refine gm_gat (gi_add dL_law_465) ?_
  refine gm_goG_tr (gi_sld dL_law_466 (by omega) (by omega) hL) ?_
  refine gm_gat (gm_aload_n dL_law_467 rfl (by first | exact Or.inl ⟨_, rfl⟩ | exact Or.inr ⟨_, rfl⟩)) ?_
  refine gm_gat (gm_cX dL_law_468 (c1) rfl mx_L_correct ms_L_correct (ll_L_159 hx) rfl (Nat.le_of_ble_eq_true rfl) hD0) ?_
  refine gm_gat (gm_istore (ls' := [_, _, _, _, _, _, _, _, _]) dL_law_471 (Nat.le_of_ble_eq_true rfl) rfl) ?_
  refine gm_gat (gm_aload_n dL_law_473 rfl (by first | exact Or.inl ⟨_, rfl⟩ | exact Or.inr ⟨_, rfl⟩)) ?_
  refine gm_gat (gm_aload_n dL_law_474 rfl (by first | exact Or.inl ⟨_, rfl⟩ | exact Or.inr ⟨_, rfl⟩)) ?_
  refine gm_gat (gm_iload dL_law_475 rfl) ?_
  refine gm_gat (gi_const dL_law_477) ?_
  refine gm_gat (gi_add dL_law_478) ?_
  refine gm_goG_tr (gi_sld dL_law_479 (by omega) (by omega) hL) ?_
  refine gm_gat (gm_cV dL_law_480 (c2) rfl mt_X11_correct mv_X11_correct (lk_L_161 hx) (Or.inl ⟨_, 12, _, _, _, rfl, hM1, rfl⟩) rfl (Nat.le_of_ble_eq_true rfl) hD) ?_
  refine gm_gat (gm_istore (ls' := [_, _, _, _, _, _, _, _, _]) dL_law_483 (Nat.le_of_ble_eq_true rfl) rfl) ?_
  refine gm_gat (gm_aload_n dL_law_485 rfl (by first | exact Or.inl ⟨_, rfl⟩ | exact Or.inr ⟨_, rfl⟩)) ?_
  refine gm_gat (gm_cV dL_law_486 ((ct_mThrown hM2)) rfl mt_X11_thrown mv_X11_thrown (lk_L_148 hx) (Or.inl ⟨_, 12, _, _, _, rfl, hM2, rfl⟩) rfl (Nat.le_of_ble_eq_true rfl) (by decide)) ?_
  refine gm_gat (gm_iload dL_law_489 rfl) ?_
  refine gm_gat (gi_icmp_eq_t (tgt := 496) dL_law_491 (by decide) hk hk rfl) ?_
  refine gm_gat (gm_iload dL_law_496 rfl) ?_
  by_cases h0 : K2 0 = 0
  ·
    obtain ⟨g, o1, o2⟩ := ho h0
    refine gm_gat (gi_if_ne_f 513 dL_law_498 (by decide) hk h0) ?_
    refine gm_gat (gm_aload_n dL_law_501 rfl (by first | exact Or.inl ⟨_, rfl⟩ | exact Or.inr ⟨_, rfl⟩)) ?_
    refine gm_gat (gi_const dL_law_502) ?_
    refine gm_gat (gm_lald dL_law_503 o1 z_0in) ?_
    rw [z_0cl, o2]
    refine gm_gat (gm_iload dL_law_504 rfl) ?_
    refine gm_gat (gi_i2l dL_law_506 hb) ?_
    refine gm_gat (gm_lcmp dL_law_507) ?_
    refine gm_gat (gm_if_eq_t (tgt := 513) dL_law_508 (by decide) (lg_self _)) ?_
    refine gm_gat (gm_goto (tgt := 2513) dL_law_513 (by decide)) ?_
    exact gm_goG_rf
  ·
    refine gm_gat (gi_if_ne_t (tgt := 513) dL_law_498 (by decide) hk h0) ?_
    refine gm_gat (gm_goto (tgt := 2513) dL_law_513 (by decide)) ?_
    exact gm_goG_rf
set_option maxRecDepth 4000 in
theorem lw_discard {G : gm_G} {x : MethodName} {r : Option FieldType × List (Nat × Nat × Nat × Nat)} (hx : x.cls = RL) {n : Nat} {i : Int} {x6 x7 x8 : Option Value} {h h2 : gm_H} {b : Int} (hb : zR b) {k : Int} (hi : 0 ≤ i) (hi4 : i + 4 ≤ gm_L G) (hL : gm_L G ≤ 2048) (H : LH h h2 n mL_discard [.ref n, .int (zI (gx G (i + 1))), .ref (n + 126)] mX11_discard [.ref (n + 113), .int (zI (gx G (i + 1)))] k (.int (zI b))) (ho : k = 0 → ∃ g, h2.1[n + 126]? = some (gLo g) ∧ g 0 = zL b) : gm_goG G (lM x r) 14 (516, [some (.retAddr 999), some (.ref n), some (.ref (n + 113)), some (.ref (n + 126)), some (.ref (n + 127)), some (.int (zI i)), x6, x7, x8], [], h) (2513, [some (.retAddr 999), some (.ref n), some (.ref (n + 113)), some (.ref (n + 126)), some (.ref (n + 127)), some (.int (zI i)), (some (.int (zI k))), (some (.int (zI b))), x8], [], h2) := by
  obtain ⟨h1, K1, K2, D, D0, hD, hD0, c1, hM1, c2, hM2, rfl, hk⟩ := H
  refine gm_gat (gm_aload_n dL_law_516 rfl (by first | exact Or.inl ⟨_, rfl⟩ | exact Or.inr ⟨_, rfl⟩)) ?_
  refine gm_gat (gm_aload_n dL_law_517 rfl (by first | exact Or.inl ⟨_, rfl⟩ | exact Or.inr ⟨_, rfl⟩)) ?_
  refine gm_gat (gm_iload dL_law_518 rfl) ?_
  refine gm_gat (gi_const dL_law_520) ?_
  refine gm_gat (gi_add dL_law_521) ?_
  refine gm_goG_tr (gi_sld dL_law_522 (by omega) (by omega) hL) ?_
  refine gm_gat (gm_aload_n dL_law_523 rfl (by first | exact Or.inl ⟨_, rfl⟩ | exact Or.inr ⟨_, rfl⟩)) ?_
  refine gm_gat (gm_cX dL_law_524 (c1) rfl mx_L_discard ms_L_discard (ll_L_162 hx) rfl (Nat.le_of_ble_eq_true rfl) hD0) ?_
  refine gm_gat (gm_istore (ls' := [_, _, _, _, _, _, _, _, _]) dL_law_527 (Nat.le_of_ble_eq_true rfl) rfl) ?_
  refine gm_gat (gm_aload_n dL_law_529 rfl (by first | exact Or.inl ⟨_, rfl⟩ | exact Or.inr ⟨_, rfl⟩)) ?_
  refine gm_gat (gm_aload_n dL_law_530 rfl (by first | exact Or.inl ⟨_, rfl⟩ | exact Or.inr ⟨_, rfl⟩)) ?_
  refine gm_gat (gm_iload dL_law_531 rfl) ?_
  refine gm_gat (gi_const dL_law_533) ?_
  refine gm_gat (gi_add dL_law_534) ?_
  refine gm_goG_tr (gi_sld dL_law_535 (by omega) (by omega) hL) ?_
  refine gm_gat (gm_cV dL_law_536 (c2) rfl mt_X11_discard mv_X11_discard (lk_L_164 hx) (Or.inl ⟨_, 12, _, _, _, rfl, hM1, rfl⟩) rfl (Nat.le_of_ble_eq_true rfl) hD) ?_
  refine gm_gat (gm_istore (ls' := [_, _, _, _, _, _, _, _, _]) dL_law_539 (Nat.le_of_ble_eq_true rfl) rfl) ?_
  refine gm_gat (gm_aload_n dL_law_541 rfl (by first | exact Or.inl ⟨_, rfl⟩ | exact Or.inr ⟨_, rfl⟩)) ?_
  refine gm_gat (gm_cV dL_law_542 ((ct_mThrown hM2)) rfl mt_X11_thrown mv_X11_thrown (lk_L_148 hx) (Or.inl ⟨_, 12, _, _, _, rfl, hM2, rfl⟩) rfl (Nat.le_of_ble_eq_true rfl) (by decide)) ?_
  refine gm_gat (gm_iload dL_law_545 rfl) ?_
  refine gm_gat (gi_icmp_eq_t (tgt := 552) dL_law_547 (by decide) hk hk rfl) ?_
  refine gm_gat (gm_iload dL_law_552 rfl) ?_
  by_cases h0 : K2 0 = 0
  ·
    obtain ⟨g, o1, o2⟩ := ho h0
    refine gm_gat (gi_if_ne_f 569 dL_law_554 (by decide) hk h0) ?_
    refine gm_gat (gm_aload_n dL_law_557 rfl (by first | exact Or.inl ⟨_, rfl⟩ | exact Or.inr ⟨_, rfl⟩)) ?_
    refine gm_gat (gi_const dL_law_558) ?_
    refine gm_gat (gm_lald dL_law_559 o1 z_0in) ?_
    rw [z_0cl, o2]
    refine gm_gat (gm_iload dL_law_560 rfl) ?_
    refine gm_gat (gi_i2l dL_law_562 hb) ?_
    refine gm_gat (gm_lcmp dL_law_563) ?_
    refine gm_gat (gm_if_eq_t (tgt := 569) dL_law_564 (by decide) (lg_self _)) ?_
    refine gm_gat (gm_goto (tgt := 2513) dL_law_569 (by decide)) ?_
    exact gm_goG_rf
  ·
    refine gm_gat (gi_if_ne_t (tgt := 569) dL_law_554 (by decide) hk h0) ?_
    refine gm_gat (gm_goto (tgt := 2513) dL_law_569 (by decide)) ?_
    exact gm_goG_rf
set_option maxRecDepth 4000 in
theorem lw_setTolerance {G : gm_G} {x : MethodName} {r : Option FieldType × List (Nat × Nat × Nat × Nat)} (hx : x.cls = RL) {n : Nat} {i : Int} {x6 x7 x8 : Option Value} {h h2 : gm_H} {b : Int} (hb : zR b) {k : Int} (hi : 0 ≤ i) (hi4 : i + 4 ≤ gm_L G) (hL : gm_L G ≤ 2048) (H : LH h h2 n mL_setTolerance [.ref n, .int (zI (gx G (i + 1))), .ref (n + 126)] mX11_setTolerance [.ref (n + 113), .int (zI (gx G (i + 1)))] k (.int (zI b))) (ho : k = 0 → ∃ g, h2.1[n + 126]? = some (gLo g) ∧ g 0 = zL b) : gm_goG G (lM x r) 14 (572, [some (.retAddr 999), some (.ref n), some (.ref (n + 113)), some (.ref (n + 126)), some (.ref (n + 127)), some (.int (zI i)), x6, x7, x8], [], h) (2513, [some (.retAddr 999), some (.ref n), some (.ref (n + 113)), some (.ref (n + 126)), some (.ref (n + 127)), some (.int (zI i)), (some (.int (zI k))), (some (.int (zI b))), x8], [], h2) := by
  obtain ⟨h1, K1, K2, D, D0, hD, hD0, c1, hM1, c2, hM2, rfl, hk⟩ := H
  refine gm_gat (gm_aload_n dL_law_572 rfl (by first | exact Or.inl ⟨_, rfl⟩ | exact Or.inr ⟨_, rfl⟩)) ?_
  refine gm_gat (gm_aload_n dL_law_573 rfl (by first | exact Or.inl ⟨_, rfl⟩ | exact Or.inr ⟨_, rfl⟩)) ?_
  refine gm_gat (gm_iload dL_law_574 rfl) ?_
  refine gm_gat (gi_const dL_law_576) ?_
  refine gm_gat (gi_add dL_law_577) ?_
  refine gm_goG_tr (gi_sld dL_law_578 (by omega) (by omega) hL) ?_
  refine gm_gat (gm_aload_n dL_law_579 rfl (by first | exact Or.inl ⟨_, rfl⟩ | exact Or.inr ⟨_, rfl⟩)) ?_
  refine gm_gat (gm_cX dL_law_580 (c1) rfl mx_L_setTolerance ms_L_setTolerance (ll_L_165 hx) rfl (Nat.le_of_ble_eq_true rfl) hD0) ?_
  refine gm_gat (gm_istore (ls' := [_, _, _, _, _, _, _, _, _]) dL_law_583 (Nat.le_of_ble_eq_true rfl) rfl) ?_
  refine gm_gat (gm_aload_n dL_law_585 rfl (by first | exact Or.inl ⟨_, rfl⟩ | exact Or.inr ⟨_, rfl⟩)) ?_
  refine gm_gat (gm_aload_n dL_law_586 rfl (by first | exact Or.inl ⟨_, rfl⟩ | exact Or.inr ⟨_, rfl⟩)) ?_
  refine gm_gat (gm_iload dL_law_587 rfl) ?_
  refine gm_gat (gi_const dL_law_589) ?_
  refine gm_gat (gi_add dL_law_590) ?_
  refine gm_goG_tr (gi_sld dL_law_591 (by omega) (by omega) hL) ?_
  refine gm_gat (gm_cV dL_law_592 (c2) rfl mt_X11_setTolerance mv_X11_setTolerance (lk_L_167 hx) (Or.inl ⟨_, 12, _, _, _, rfl, hM1, rfl⟩) rfl (Nat.le_of_ble_eq_true rfl) hD) ?_
  refine gm_gat (gm_istore (ls' := [_, _, _, _, _, _, _, _, _]) dL_law_595 (Nat.le_of_ble_eq_true rfl) rfl) ?_
  refine gm_gat (gm_aload_n dL_law_597 rfl (by first | exact Or.inl ⟨_, rfl⟩ | exact Or.inr ⟨_, rfl⟩)) ?_
  refine gm_gat (gm_cV dL_law_598 ((ct_mThrown hM2)) rfl mt_X11_thrown mv_X11_thrown (lk_L_148 hx) (Or.inl ⟨_, 12, _, _, _, rfl, hM2, rfl⟩) rfl (Nat.le_of_ble_eq_true rfl) (by decide)) ?_
  refine gm_gat (gm_iload dL_law_601 rfl) ?_
  refine gm_gat (gi_icmp_eq_t (tgt := 608) dL_law_603 (by decide) hk hk rfl) ?_
  refine gm_gat (gm_iload dL_law_608 rfl) ?_
  by_cases h0 : K2 0 = 0
  ·
    obtain ⟨g, o1, o2⟩ := ho h0
    refine gm_gat (gi_if_ne_f 625 dL_law_610 (by decide) hk h0) ?_
    refine gm_gat (gm_aload_n dL_law_613 rfl (by first | exact Or.inl ⟨_, rfl⟩ | exact Or.inr ⟨_, rfl⟩)) ?_
    refine gm_gat (gi_const dL_law_614) ?_
    refine gm_gat (gm_lald dL_law_615 o1 z_0in) ?_
    rw [z_0cl, o2]
    refine gm_gat (gm_iload dL_law_616 rfl) ?_
    refine gm_gat (gi_i2l dL_law_618 hb) ?_
    refine gm_gat (gm_lcmp dL_law_619) ?_
    refine gm_gat (gm_if_eq_t (tgt := 625) dL_law_620 (by decide) (lg_self _)) ?_
    refine gm_gat (gm_goto (tgt := 2513) dL_law_625 (by decide)) ?_
    exact gm_goG_rf
  ·
    refine gm_gat (gi_if_ne_t (tgt := 625) dL_law_610 (by decide) hk h0) ?_
    refine gm_gat (gm_goto (tgt := 2513) dL_law_625 (by decide)) ?_
    exact gm_goG_rf
set_option maxRecDepth 4000 in
theorem lw_needleCount {G : gm_G} {x : MethodName} {r : Option FieldType × List (Nat × Nat × Nat × Nat)} (hx : x.cls = RL) {n : Nat} {i : Int} {x6 x7 x8 : Option Value} {h h2 : gm_H} {b : Int} (hb : zR b) (H : LQ h h2 n mX10_needleCount mX11_needleCount (.int (zI b))) : gm_goG G (lM x r) 14 (628, [some (.retAddr 999), some (.ref n), some (.ref (n + 113)), some (.ref (n + 126)), some (.ref (n + 127)), some (.int (zI i)), x6, x7, x8], [], h) (2513, [some (.retAddr 999), some (.ref n), some (.ref (n + 113)), some (.ref (n + 126)), some (.ref (n + 127)), some (.int (zI i)), x6, x7, x8], [], h2) := by
  obtain ⟨h1, s, e, f, K1, D1, D2, hD1, hD2, hB, c1, hM1, c2⟩ := H
  refine gm_gat (gm_aload_n dL_law_628 rfl (by first | exact Or.inl ⟨_, rfl⟩ | exact Or.inr ⟨_, rfl⟩)) ?_
  refine gm_gat (gm_cV dL_law_629 (c1) rfl mt_X10_needleCount mv_X10_needleCount (lk_L_168 hx) (Or.inl ⟨_, 11, _, _, _, rfl, hB, rfl⟩) rfl (Nat.le_of_ble_eq_true rfl) hD1) ?_
  refine gm_gat (gm_aload_n dL_law_632 rfl (by first | exact Or.inl ⟨_, rfl⟩ | exact Or.inr ⟨_, rfl⟩)) ?_
  refine gm_gat (gm_cV dL_law_633 (c2) rfl mt_X11_needleCount mv_X11_needleCount (lk_L_171 hx) (Or.inl ⟨_, 12, _, _, _, rfl, hM1, rfl⟩) rfl (Nat.le_of_ble_eq_true rfl) hD2) ?_
  refine gm_gat (gi_icmp_eq_t (tgt := 2513) dL_law_636 (by decide) hb hb rfl) ?_
  exact gm_goG_rf
set_option maxRecDepth 4000 in
theorem lw_strengthOf {G : gm_G} {x : MethodName} {r : Option FieldType × List (Nat × Nat × Nat × Nat)} (hx : x.cls = RL) {n : Nat} {i : Int} {x6 x7 x8 : Option Value} {h h2 : gm_H} {b : Int} (hb : zR b) {k : Int} (hi : 0 ≤ i) (hi4 : i + 4 ≤ gm_L G) (hL : gm_L G ≤ 2048) (H : LH h h2 n mL_strengthOf [.ref n, .int (zI (gx G (i + 1))), .ref (n + 126)] mX11_strengthOf [.ref (n + 113), .int (zI (gx G (i + 1)))] k (.int (zI b))) (ho : k = 0 → ∃ g, h2.1[n + 126]? = some (gLo g) ∧ g 0 = zL b) : gm_goG G (lM x r) 14 (641, [some (.retAddr 999), some (.ref n), some (.ref (n + 113)), some (.ref (n + 126)), some (.ref (n + 127)), some (.int (zI i)), x6, x7, x8], [], h) (2513, [some (.retAddr 999), some (.ref n), some (.ref (n + 113)), some (.ref (n + 126)), some (.ref (n + 127)), some (.int (zI i)), (some (.int (zI k))), (some (.int (zI b))), x8], [], h2) := by
  obtain ⟨h1, K1, K2, D, D0, hD, hD0, c1, hM1, c2, hM2, rfl, hk⟩ := H
  refine gm_gat (gm_aload_n dL_law_641 rfl (by first | exact Or.inl ⟨_, rfl⟩ | exact Or.inr ⟨_, rfl⟩)) ?_
  refine gm_gat (gm_aload_n dL_law_642 rfl (by first | exact Or.inl ⟨_, rfl⟩ | exact Or.inr ⟨_, rfl⟩)) ?_
  refine gm_gat (gm_iload dL_law_643 rfl) ?_
  refine gm_gat (gi_const dL_law_645) ?_
  refine gm_gat (gi_add dL_law_646) ?_
  refine gm_goG_tr (gi_sld dL_law_647 (by omega) (by omega) hL) ?_
  refine gm_gat (gm_aload_n dL_law_648 rfl (by first | exact Or.inl ⟨_, rfl⟩ | exact Or.inr ⟨_, rfl⟩)) ?_
  refine gm_gat (gm_cX dL_law_649 (c1) rfl mx_L_strengthOf ms_L_strengthOf (ll_L_172 hx) rfl (Nat.le_of_ble_eq_true rfl) hD0) ?_
  refine gm_gat (gm_istore (ls' := [_, _, _, _, _, _, _, _, _]) dL_law_652 (Nat.le_of_ble_eq_true rfl) rfl) ?_
  refine gm_gat (gm_aload_n dL_law_654 rfl (by first | exact Or.inl ⟨_, rfl⟩ | exact Or.inr ⟨_, rfl⟩)) ?_
  refine gm_gat (gm_aload_n dL_law_655 rfl (by first | exact Or.inl ⟨_, rfl⟩ | exact Or.inr ⟨_, rfl⟩)) ?_
  refine gm_gat (gm_iload dL_law_656 rfl) ?_
  refine gm_gat (gi_const dL_law_658) ?_
  refine gm_gat (gi_add dL_law_659) ?_
  refine gm_goG_tr (gi_sld dL_law_660 (by omega) (by omega) hL) ?_
  refine gm_gat (gm_cV dL_law_661 (c2) rfl mt_X11_strengthOf mv_X11_strengthOf (lk_L_174 hx) (Or.inl ⟨_, 12, _, _, _, rfl, hM1, rfl⟩) rfl (Nat.le_of_ble_eq_true rfl) hD) ?_
  refine gm_gat (gm_istore (ls' := [_, _, _, _, _, _, _, _, _]) dL_law_664 (Nat.le_of_ble_eq_true rfl) rfl) ?_
  refine gm_gat (gm_aload_n dL_law_666 rfl (by first | exact Or.inl ⟨_, rfl⟩ | exact Or.inr ⟨_, rfl⟩)) ?_
  refine gm_gat (gm_cV dL_law_667 ((ct_mThrown hM2)) rfl mt_X11_thrown mv_X11_thrown (lk_L_148 hx) (Or.inl ⟨_, 12, _, _, _, rfl, hM2, rfl⟩) rfl (Nat.le_of_ble_eq_true rfl) (by decide)) ?_
  refine gm_gat (gm_iload dL_law_670 rfl) ?_
  refine gm_gat (gi_icmp_eq_t (tgt := 677) dL_law_672 (by decide) hk hk rfl) ?_
  refine gm_gat (gm_iload dL_law_677 rfl) ?_
  by_cases h0 : K2 0 = 0
  ·
    obtain ⟨g, o1, o2⟩ := ho h0
    refine gm_gat (gi_if_ne_f 694 dL_law_679 (by decide) hk h0) ?_
    refine gm_gat (gm_aload_n dL_law_682 rfl (by first | exact Or.inl ⟨_, rfl⟩ | exact Or.inr ⟨_, rfl⟩)) ?_
    refine gm_gat (gi_const dL_law_683) ?_
    refine gm_gat (gm_lald dL_law_684 o1 z_0in) ?_
    rw [z_0cl, o2]
    refine gm_gat (gm_iload dL_law_685 rfl) ?_
    refine gm_gat (gi_i2l dL_law_687 hb) ?_
    refine gm_gat (gm_lcmp dL_law_688) ?_
    refine gm_gat (gm_if_eq_t (tgt := 694) dL_law_689 (by decide) (lg_self _)) ?_
    refine gm_gat (gm_goto (tgt := 2513) dL_law_694 (by decide)) ?_
    exact gm_goG_rf
  ·
    refine gm_gat (gi_if_ne_t (tgt := 694) dL_law_679 (by decide) hk h0) ?_
    refine gm_gat (gm_goto (tgt := 2513) dL_law_694 (by decide)) ?_
    exact gm_goG_rf
set_option maxRecDepth 4000 in
theorem lw_isDiscarded {G : gm_G} {x : MethodName} {r : Option FieldType × List (Nat × Nat × Nat × Nat)} (hx : x.cls = RL) {n : Nat} {i : Int} {x6 x7 x8 : Option Value} {h h2 : gm_H} {b : Bool} {k : Int} (hi : 0 ≤ i) (hi4 : i + 4 ≤ gm_L G) (hL : gm_L G ≤ 2048) (H : LH h h2 n mL_isDiscarded [.ref n, .int (zI (gx G (i + 1))), .ref (n + 126)] mX11_isDiscarded [.ref (n + 113), .int (zI (gx G (i + 1)))] k (.int (zI (zB b)))) (ho : k = 0 → ∃ g, h2.1[n + 126]? = some (gLo g) ∧ g 0 = zL (zB b)) : gm_goG G (lM x r) 14 (697, [some (.retAddr 999), some (.ref n), some (.ref (n + 113)), some (.ref (n + 126)), some (.ref (n + 127)), some (.int (zI i)), x6, x7, x8], [], h) (2513, [some (.retAddr 999), some (.ref n), some (.ref (n + 113)), some (.ref (n + 126)), some (.ref (n + 127)), some (.int (zI i)), (some (.int (zI k))), (some (.int (zI (zB b)))), x8], [], h2) := by
  obtain ⟨h1, K1, K2, D, D0, hD, hD0, c1, hM1, c2, hM2, rfl, hk⟩ := H
  refine gm_gat (gm_aload_n dL_law_697 rfl (by first | exact Or.inl ⟨_, rfl⟩ | exact Or.inr ⟨_, rfl⟩)) ?_
  refine gm_gat (gm_aload_n dL_law_698 rfl (by first | exact Or.inl ⟨_, rfl⟩ | exact Or.inr ⟨_, rfl⟩)) ?_
  refine gm_gat (gm_iload dL_law_699 rfl) ?_
  refine gm_gat (gi_const dL_law_701) ?_
  refine gm_gat (gi_add dL_law_702) ?_
  refine gm_goG_tr (gi_sld dL_law_703 (by omega) (by omega) hL) ?_
  refine gm_gat (gm_aload_n dL_law_704 rfl (by first | exact Or.inl ⟨_, rfl⟩ | exact Or.inr ⟨_, rfl⟩)) ?_
  refine gm_gat (gm_cX dL_law_705 (c1) rfl mx_L_isDiscarded ms_L_isDiscarded (ll_L_175 hx) rfl (Nat.le_of_ble_eq_true rfl) hD0) ?_
  refine gm_gat (gm_istore (ls' := [_, _, _, _, _, _, _, _, _]) dL_law_708 (Nat.le_of_ble_eq_true rfl) rfl) ?_
  refine gm_gat (gm_aload_n dL_law_710 rfl (by first | exact Or.inl ⟨_, rfl⟩ | exact Or.inr ⟨_, rfl⟩)) ?_
  refine gm_gat (gm_aload_n dL_law_711 rfl (by first | exact Or.inl ⟨_, rfl⟩ | exact Or.inr ⟨_, rfl⟩)) ?_
  refine gm_gat (gm_iload dL_law_712 rfl) ?_
  refine gm_gat (gi_const dL_law_714) ?_
  refine gm_gat (gi_add dL_law_715) ?_
  refine gm_goG_tr (gi_sld dL_law_716 (by omega) (by omega) hL) ?_
  refine gm_gat (gm_cV dL_law_717 (c2) rfl mt_X11_isDiscarded mv_X11_isDiscarded (lk_L_177 hx) (Or.inl ⟨_, 12, _, _, _, rfl, hM1, rfl⟩) rfl (Nat.le_of_ble_eq_true rfl) hD) ?_
  refine gm_gat (gm_istore (ls' := [_, _, _, _, _, _, _, _, _]) dL_law_720 (Nat.le_of_ble_eq_true rfl) rfl) ?_
  refine gm_gat (gm_aload_n dL_law_722 rfl (by first | exact Or.inl ⟨_, rfl⟩ | exact Or.inr ⟨_, rfl⟩)) ?_
  refine gm_gat (gm_cV dL_law_723 ((ct_mThrown hM2)) rfl mt_X11_thrown mv_X11_thrown (lk_L_148 hx) (Or.inl ⟨_, 12, _, _, _, rfl, hM2, rfl⟩) rfl (Nat.le_of_ble_eq_true rfl) (by decide)) ?_
  refine gm_gat (gm_iload dL_law_726 rfl) ?_
  refine gm_gat (gi_icmp_eq_t (tgt := 733) dL_law_728 (by decide) hk hk rfl) ?_
  refine gm_gat (gm_iload dL_law_733 rfl) ?_
  by_cases h0 : K2 0 = 0
  ·
    obtain ⟨g, o1, o2⟩ := ho h0
    refine gm_gat (gi_if_ne_f 757 dL_law_735 (by decide) hk h0) ?_
    refine gm_gat (gm_aload_n dL_law_738 rfl (by first | exact Or.inl ⟨_, rfl⟩ | exact Or.inr ⟨_, rfl⟩)) ?_
    refine gm_gat (gi_const dL_law_739) ?_
    refine gm_gat (gm_lald dL_law_740 o1 z_0in) ?_
    rw [z_0cl, o2]
    cases b
    ·
      refine gm_gat (gm_iload dL_law_741 rfl) ?_
      refine gm_gat (gi_if_eq_t (tgt := 750) dL_law_743 (by decide) (by decide) (by decide)) ?_
      refine gm_gat (gm_lconst (v := zL 0) (by decide) dL_law_750) ?_
      refine gm_gat (gm_lcmp dL_law_751) ?_
      refine gm_gat (gm_if_eq_t (tgt := 757) dL_law_752 (by decide) (lg_self _)) ?_
      refine gm_gat (gm_goto (tgt := 2513) dL_law_757 (by decide)) ?_
      exact gm_goG_rf
    ·
      refine gm_gat (gm_iload dL_law_741 rfl) ?_
      refine gm_gat (gi_if_eq_f 750 dL_law_743 (by decide) (by decide) (by decide)) ?_
      refine gm_gat (gm_lconst (v := zL 1) (by decide) dL_law_746) ?_
      refine gm_gat (gm_goto (tgt := 751) dL_law_747 (by decide)) ?_
      refine gm_gat (gm_lcmp dL_law_751) ?_
      refine gm_gat (gm_if_eq_t (tgt := 757) dL_law_752 (by decide) (lg_self _)) ?_
      refine gm_gat (gm_goto (tgt := 2513) dL_law_757 (by decide)) ?_
      exact gm_goG_rf
  ·
    refine gm_gat (gi_if_ne_t (tgt := 757) dL_law_735 (by decide) hk h0) ?_
    refine gm_gat (gm_goto (tgt := 2513) dL_law_757 (by decide)) ?_
    exact gm_goG_rf
set_option maxRecDepth 4000 in
theorem lw_isReject {G : gm_G} {x : MethodName} {r : Option FieldType × List (Nat × Nat × Nat × Nat)} (hx : x.cls = RL) {n : Nat} {i : Int} {x6 x7 x8 : Option Value} {h h2 : gm_H} {b : Bool} {k : Int} (hi : 0 ≤ i) (hi4 : i + 4 ≤ gm_L G) (hL : gm_L G ≤ 2048) (H : LH h h2 n mL_isReject [.ref n, .int (zI (gx G (i + 1))), .ref (n + 126)] mX11_isReject [.ref (n + 113), .int (zI (gx G (i + 1)))] k (.int (zI (zB b)))) (ho : k = 0 → ∃ g, h2.1[n + 126]? = some (gLo g) ∧ g 0 = zL (zB b)) : gm_goG G (lM x r) 14 (760, [some (.retAddr 999), some (.ref n), some (.ref (n + 113)), some (.ref (n + 126)), some (.ref (n + 127)), some (.int (zI i)), x6, x7, x8], [], h) (2513, [some (.retAddr 999), some (.ref n), some (.ref (n + 113)), some (.ref (n + 126)), some (.ref (n + 127)), some (.int (zI i)), (some (.int (zI k))), (some (.int (zI (zB b)))), x8], [], h2) := by
  obtain ⟨h1, K1, K2, D, D0, hD, hD0, c1, hM1, c2, hM2, rfl, hk⟩ := H
  refine gm_gat (gm_aload_n dL_law_760 rfl (by first | exact Or.inl ⟨_, rfl⟩ | exact Or.inr ⟨_, rfl⟩)) ?_
  refine gm_gat (gm_aload_n dL_law_761 rfl (by first | exact Or.inl ⟨_, rfl⟩ | exact Or.inr ⟨_, rfl⟩)) ?_
  refine gm_gat (gm_iload dL_law_762 rfl) ?_
  refine gm_gat (gi_const dL_law_764) ?_
  refine gm_gat (gi_add dL_law_765) ?_
  refine gm_goG_tr (gi_sld dL_law_766 (by omega) (by omega) hL) ?_
  refine gm_gat (gm_aload_n dL_law_767 rfl (by first | exact Or.inl ⟨_, rfl⟩ | exact Or.inr ⟨_, rfl⟩)) ?_
  refine gm_gat (gm_cX dL_law_768 (c1) rfl mx_L_isReject ms_L_isReject (ll_L_178 hx) rfl (Nat.le_of_ble_eq_true rfl) hD0) ?_
  refine gm_gat (gm_istore (ls' := [_, _, _, _, _, _, _, _, _]) dL_law_771 (Nat.le_of_ble_eq_true rfl) rfl) ?_
  refine gm_gat (gm_aload_n dL_law_773 rfl (by first | exact Or.inl ⟨_, rfl⟩ | exact Or.inr ⟨_, rfl⟩)) ?_
  refine gm_gat (gm_aload_n dL_law_774 rfl (by first | exact Or.inl ⟨_, rfl⟩ | exact Or.inr ⟨_, rfl⟩)) ?_
  refine gm_gat (gm_iload dL_law_775 rfl) ?_
  refine gm_gat (gi_const dL_law_777) ?_
  refine gm_gat (gi_add dL_law_778) ?_
  refine gm_goG_tr (gi_sld dL_law_779 (by omega) (by omega) hL) ?_
  refine gm_gat (gm_cV dL_law_780 (c2) rfl mt_X11_isReject mv_X11_isReject (lk_L_180 hx) (Or.inl ⟨_, 12, _, _, _, rfl, hM1, rfl⟩) rfl (Nat.le_of_ble_eq_true rfl) hD) ?_
  refine gm_gat (gm_istore (ls' := [_, _, _, _, _, _, _, _, _]) dL_law_783 (Nat.le_of_ble_eq_true rfl) rfl) ?_
  refine gm_gat (gm_aload_n dL_law_785 rfl (by first | exact Or.inl ⟨_, rfl⟩ | exact Or.inr ⟨_, rfl⟩)) ?_
  refine gm_gat (gm_cV dL_law_786 ((ct_mThrown hM2)) rfl mt_X11_thrown mv_X11_thrown (lk_L_148 hx) (Or.inl ⟨_, 12, _, _, _, rfl, hM2, rfl⟩) rfl (Nat.le_of_ble_eq_true rfl) (by decide)) ?_
  refine gm_gat (gm_iload dL_law_789 rfl) ?_
  refine gm_gat (gi_icmp_eq_t (tgt := 796) dL_law_791 (by decide) hk hk rfl) ?_
  refine gm_gat (gm_iload dL_law_796 rfl) ?_
  by_cases h0 : K2 0 = 0
  ·
    obtain ⟨g, o1, o2⟩ := ho h0
    refine gm_gat (gi_if_ne_f 820 dL_law_798 (by decide) hk h0) ?_
    refine gm_gat (gm_aload_n dL_law_801 rfl (by first | exact Or.inl ⟨_, rfl⟩ | exact Or.inr ⟨_, rfl⟩)) ?_
    refine gm_gat (gi_const dL_law_802) ?_
    refine gm_gat (gm_lald dL_law_803 o1 z_0in) ?_
    rw [z_0cl, o2]
    cases b
    ·
      refine gm_gat (gm_iload dL_law_804 rfl) ?_
      refine gm_gat (gi_if_eq_t (tgt := 813) dL_law_806 (by decide) (by decide) (by decide)) ?_
      refine gm_gat (gm_lconst (v := zL 0) (by decide) dL_law_813) ?_
      refine gm_gat (gm_lcmp dL_law_814) ?_
      refine gm_gat (gm_if_eq_t (tgt := 820) dL_law_815 (by decide) (lg_self _)) ?_
      refine gm_gat (gm_goto (tgt := 2513) dL_law_820 (by decide)) ?_
      exact gm_goG_rf
    ·
      refine gm_gat (gm_iload dL_law_804 rfl) ?_
      refine gm_gat (gi_if_eq_f 813 dL_law_806 (by decide) (by decide) (by decide)) ?_
      refine gm_gat (gm_lconst (v := zL 1) (by decide) dL_law_809) ?_
      refine gm_gat (gm_goto (tgt := 814) dL_law_810 (by decide)) ?_
      refine gm_gat (gm_lcmp dL_law_814) ?_
      refine gm_gat (gm_if_eq_t (tgt := 820) dL_law_815 (by decide) (lg_self _)) ?_
      refine gm_gat (gm_goto (tgt := 2513) dL_law_820 (by decide)) ?_
      exact gm_goG_rf
  ·
    refine gm_gat (gi_if_ne_t (tgt := 820) dL_law_798 (by decide) hk h0) ?_
    refine gm_gat (gm_goto (tgt := 2513) dL_law_820 (by decide)) ?_
    exact gm_goG_rf
set_option maxRecDepth 4000 in
theorem lw_tolerance {G : gm_G} {x : MethodName} {r : Option FieldType × List (Nat × Nat × Nat × Nat)} (hx : x.cls = RL) {n : Nat} {i : Int} {x6 x7 x8 : Option Value} {h h2 : gm_H} {b : Int} (hb : zR b) (H : LQ h h2 n mX10_tolerance mX11_tolerance (.int (zI b))) : gm_goG G (lM x r) 14 (823, [some (.retAddr 999), some (.ref n), some (.ref (n + 113)), some (.ref (n + 126)), some (.ref (n + 127)), some (.int (zI i)), x6, x7, x8], [], h) (2513, [some (.retAddr 999), some (.ref n), some (.ref (n + 113)), some (.ref (n + 126)), some (.ref (n + 127)), some (.int (zI i)), x6, x7, x8], [], h2) := by
  obtain ⟨h1, s, e, f, K1, D1, D2, hD1, hD2, hB, c1, hM1, c2⟩ := H
  refine gm_gat (gm_aload_n dL_law_823 rfl (by first | exact Or.inl ⟨_, rfl⟩ | exact Or.inr ⟨_, rfl⟩)) ?_
  refine gm_gat (gm_cV dL_law_824 (c1) rfl mt_X10_tolerance mv_X10_tolerance (lk_L_181 hx) (Or.inl ⟨_, 11, _, _, _, rfl, hB, rfl⟩) rfl (Nat.le_of_ble_eq_true rfl) hD1) ?_
  refine gm_gat (gm_aload_n dL_law_827 rfl (by first | exact Or.inl ⟨_, rfl⟩ | exact Or.inr ⟨_, rfl⟩)) ?_
  refine gm_gat (gm_cV dL_law_828 (c2) rfl mt_X11_tolerance mv_X11_tolerance (lk_L_184 hx) (Or.inl ⟨_, 12, _, _, _, rfl, hM1, rfl⟩) rfl (Nat.le_of_ble_eq_true rfl) hD2) ?_
  refine gm_gat (gi_icmp_eq_t (tgt := 2513) dL_law_831 (by decide) hb hb rfl) ?_
  exact gm_goG_rf
set_option maxRecDepth 4000 in
theorem lw_deviationAt {G : gm_G} {x : MethodName} {r : Option FieldType × List (Nat × Nat × Nat × Nat)} (hx : x.cls = RL) {n : Nat} {i : Int} {x6 x7 x8 : Option Value} {h h2 : gm_H} {b : Int} (hb : zR b) {k : Int} (hi : 0 ≤ i) (hi4 : i + 4 ≤ gm_L G) (hL : gm_L G ≤ 2048) (H : LH h h2 n mL_deviationAt [.ref n, .int (zI (gx G (i + 1))), .int (zI (gx G (i + 2))), .ref (n + 126)] mX11_deviationAt [.ref (n + 113), .int (zI (gx G (i + 1))), .int (zI (gx G (i + 2)))] k (.int (zI b))) (ho : k = 0 → ∃ g, h2.1[n + 126]? = some (gLo g) ∧ g 0 = zL b) : gm_goG G (lM x r) 14 (836, [some (.retAddr 999), some (.ref n), some (.ref (n + 113)), some (.ref (n + 126)), some (.ref (n + 127)), some (.int (zI i)), x6, x7, x8], [], h) (2513, [some (.retAddr 999), some (.ref n), some (.ref (n + 113)), some (.ref (n + 126)), some (.ref (n + 127)), some (.int (zI i)), (some (.int (zI k))), (some (.int (zI b))), x8], [], h2) := by
  obtain ⟨h1, K1, K2, D, D0, hD, hD0, c1, hM1, c2, hM2, rfl, hk⟩ := H
  refine gm_gat (gm_aload_n dL_law_836 rfl (by first | exact Or.inl ⟨_, rfl⟩ | exact Or.inr ⟨_, rfl⟩)) ?_
  refine gm_gat (gm_aload_n dL_law_837 rfl (by first | exact Or.inl ⟨_, rfl⟩ | exact Or.inr ⟨_, rfl⟩)) ?_
  refine gm_gat (gm_iload dL_law_838 rfl) ?_
  refine gm_gat (gi_const dL_law_840) ?_
  refine gm_gat (gi_add dL_law_841) ?_
  refine gm_goG_tr (gi_sld dL_law_842 (by omega) (by omega) hL) ?_
  refine gm_gat (gm_aload_n dL_law_843 rfl (by first | exact Or.inl ⟨_, rfl⟩ | exact Or.inr ⟨_, rfl⟩)) ?_
  refine gm_gat (gm_iload dL_law_844 rfl) ?_
  refine gm_gat (gi_const dL_law_846) ?_
  refine gm_gat (gi_add dL_law_847) ?_
  refine gm_goG_tr (gi_sld dL_law_848 (by omega) (by omega) hL) ?_
  refine gm_gat (gm_aload_n dL_law_849 rfl (by first | exact Or.inl ⟨_, rfl⟩ | exact Or.inr ⟨_, rfl⟩)) ?_
  refine gm_gat (gm_cX dL_law_850 (c1) rfl mx_L_deviationAt ms_L_deviationAt (ll_L_185 hx) rfl (Nat.le_of_ble_eq_true rfl) hD0) ?_
  refine gm_gat (gm_istore (ls' := [_, _, _, _, _, _, _, _, _]) dL_law_853 (Nat.le_of_ble_eq_true rfl) rfl) ?_
  refine gm_gat (gm_aload_n dL_law_855 rfl (by first | exact Or.inl ⟨_, rfl⟩ | exact Or.inr ⟨_, rfl⟩)) ?_
  refine gm_gat (gm_aload_n dL_law_856 rfl (by first | exact Or.inl ⟨_, rfl⟩ | exact Or.inr ⟨_, rfl⟩)) ?_
  refine gm_gat (gm_iload dL_law_857 rfl) ?_
  refine gm_gat (gi_const dL_law_859) ?_
  refine gm_gat (gi_add dL_law_860) ?_
  refine gm_goG_tr (gi_sld dL_law_861 (by omega) (by omega) hL) ?_
  refine gm_gat (gm_aload_n dL_law_862 rfl (by first | exact Or.inl ⟨_, rfl⟩ | exact Or.inr ⟨_, rfl⟩)) ?_
  refine gm_gat (gm_iload dL_law_863 rfl) ?_
  refine gm_gat (gi_const dL_law_865) ?_
  refine gm_gat (gi_add dL_law_866) ?_
  refine gm_goG_tr (gi_sld dL_law_867 (by omega) (by omega) hL) ?_
  refine gm_gat (gm_cV dL_law_868 (c2) rfl mt_X11_deviationAt mv_X11_deviationAt (lk_L_187 hx) (Or.inl ⟨_, 12, _, _, _, rfl, hM1, rfl⟩) rfl (Nat.le_of_ble_eq_true rfl) hD) ?_
  refine gm_gat (gm_istore (ls' := [_, _, _, _, _, _, _, _, _]) dL_law_871 (Nat.le_of_ble_eq_true rfl) rfl) ?_
  refine gm_gat (gm_aload_n dL_law_873 rfl (by first | exact Or.inl ⟨_, rfl⟩ | exact Or.inr ⟨_, rfl⟩)) ?_
  refine gm_gat (gm_cV dL_law_874 ((ct_mThrown hM2)) rfl mt_X11_thrown mv_X11_thrown (lk_L_148 hx) (Or.inl ⟨_, 12, _, _, _, rfl, hM2, rfl⟩) rfl (Nat.le_of_ble_eq_true rfl) (by decide)) ?_
  refine gm_gat (gm_iload dL_law_877 rfl) ?_
  refine gm_gat (gi_icmp_eq_t (tgt := 884) dL_law_879 (by decide) hk hk rfl) ?_
  refine gm_gat (gm_iload dL_law_884 rfl) ?_
  by_cases h0 : K2 0 = 0
  ·
    obtain ⟨g, o1, o2⟩ := ho h0
    refine gm_gat (gi_if_ne_f 901 dL_law_886 (by decide) hk h0) ?_
    refine gm_gat (gm_aload_n dL_law_889 rfl (by first | exact Or.inl ⟨_, rfl⟩ | exact Or.inr ⟨_, rfl⟩)) ?_
    refine gm_gat (gi_const dL_law_890) ?_
    refine gm_gat (gm_lald dL_law_891 o1 z_0in) ?_
    rw [z_0cl, o2]
    refine gm_gat (gm_iload dL_law_892 rfl) ?_
    refine gm_gat (gi_i2l dL_law_894 hb) ?_
    refine gm_gat (gm_lcmp dL_law_895) ?_
    refine gm_gat (gm_if_eq_t (tgt := 901) dL_law_896 (by decide) (lg_self _)) ?_
    refine gm_gat (gm_goto (tgt := 2513) dL_law_901 (by decide)) ?_
    exact gm_goG_rf
  ·
    refine gm_gat (gi_if_ne_t (tgt := 901) dL_law_886 (by decide) hk h0) ?_
    refine gm_gat (gm_goto (tgt := 2513) dL_law_901 (by decide)) ?_
    exact gm_goG_rf
set_option maxRecDepth 4000 in
theorem lw_trueCourse {G : gm_G} {x : MethodName} {r : Option FieldType × List (Nat × Nat × Nat × Nat)} (hx : x.cls = RL) {n : Nat} {i : Int} {x6 x7 x8 : Option Value} {h h2 : gm_H} {b : Int} (hb : zR b) {k : Int} (hi : 0 ≤ i) (hi4 : i + 4 ≤ gm_L G) (hL : gm_L G ≤ 2048) (H : LH h h2 n mL_trueCourse [.ref n, .int (zI (gx G (i + 1))), .int (zI (gx G (i + 2))), .ref (n + 126)] mX11_trueCourse [.ref (n + 113), .int (zI (gx G (i + 1))), .int (zI (gx G (i + 2)))] k (.int (zI b))) (ho : k = 0 → ∃ g, h2.1[n + 126]? = some (gLo g) ∧ g 0 = zL b) : gm_goG G (lM x r) 14 (904, [some (.retAddr 999), some (.ref n), some (.ref (n + 113)), some (.ref (n + 126)), some (.ref (n + 127)), some (.int (zI i)), x6, x7, x8], [], h) (2513, [some (.retAddr 999), some (.ref n), some (.ref (n + 113)), some (.ref (n + 126)), some (.ref (n + 127)), some (.int (zI i)), (some (.int (zI k))), (some (.int (zI b))), x8], [], h2) := by
  obtain ⟨h1, K1, K2, D, D0, hD, hD0, c1, hM1, c2, hM2, rfl, hk⟩ := H
  refine gm_gat (gm_aload_n dL_law_904 rfl (by first | exact Or.inl ⟨_, rfl⟩ | exact Or.inr ⟨_, rfl⟩)) ?_
  refine gm_gat (gm_aload_n dL_law_905 rfl (by first | exact Or.inl ⟨_, rfl⟩ | exact Or.inr ⟨_, rfl⟩)) ?_
  refine gm_gat (gm_iload dL_law_906 rfl) ?_
  refine gm_gat (gi_const dL_law_908) ?_
  refine gm_gat (gi_add dL_law_909) ?_
  refine gm_goG_tr (gi_sld dL_law_910 (by omega) (by omega) hL) ?_
  refine gm_gat (gm_aload_n dL_law_911 rfl (by first | exact Or.inl ⟨_, rfl⟩ | exact Or.inr ⟨_, rfl⟩)) ?_
  refine gm_gat (gm_iload dL_law_912 rfl) ?_
  refine gm_gat (gi_const dL_law_914) ?_
  refine gm_gat (gi_add dL_law_915) ?_
  refine gm_goG_tr (gi_sld dL_law_916 (by omega) (by omega) hL) ?_
  refine gm_gat (gm_aload_n dL_law_917 rfl (by first | exact Or.inl ⟨_, rfl⟩ | exact Or.inr ⟨_, rfl⟩)) ?_
  refine gm_gat (gm_cX dL_law_918 (c1) rfl mx_L_trueCourse ms_L_trueCourse (ll_L_188 hx) rfl (Nat.le_of_ble_eq_true rfl) hD0) ?_
  refine gm_gat (gm_istore (ls' := [_, _, _, _, _, _, _, _, _]) dL_law_921 (Nat.le_of_ble_eq_true rfl) rfl) ?_
  refine gm_gat (gm_aload_n dL_law_923 rfl (by first | exact Or.inl ⟨_, rfl⟩ | exact Or.inr ⟨_, rfl⟩)) ?_
  refine gm_gat (gm_aload_n dL_law_924 rfl (by first | exact Or.inl ⟨_, rfl⟩ | exact Or.inr ⟨_, rfl⟩)) ?_
  refine gm_gat (gm_iload dL_law_925 rfl) ?_
  refine gm_gat (gi_const dL_law_927) ?_
  refine gm_gat (gi_add dL_law_928) ?_
  refine gm_goG_tr (gi_sld dL_law_929 (by omega) (by omega) hL) ?_
  refine gm_gat (gm_aload_n dL_law_930 rfl (by first | exact Or.inl ⟨_, rfl⟩ | exact Or.inr ⟨_, rfl⟩)) ?_
  refine gm_gat (gm_iload dL_law_931 rfl) ?_
  refine gm_gat (gi_const dL_law_933) ?_
  refine gm_gat (gi_add dL_law_934) ?_
  refine gm_goG_tr (gi_sld dL_law_935 (by omega) (by omega) hL) ?_
  refine gm_gat (gm_cV dL_law_936 (c2) rfl mt_X11_trueCourse mv_X11_trueCourse (lk_L_190 hx) (Or.inl ⟨_, 12, _, _, _, rfl, hM1, rfl⟩) rfl (Nat.le_of_ble_eq_true rfl) hD) ?_
  refine gm_gat (gm_istore (ls' := [_, _, _, _, _, _, _, _, _]) dL_law_939 (Nat.le_of_ble_eq_true rfl) rfl) ?_
  refine gm_gat (gm_aload_n dL_law_941 rfl (by first | exact Or.inl ⟨_, rfl⟩ | exact Or.inr ⟨_, rfl⟩)) ?_
  refine gm_gat (gm_cV dL_law_942 ((ct_mThrown hM2)) rfl mt_X11_thrown mv_X11_thrown (lk_L_148 hx) (Or.inl ⟨_, 12, _, _, _, rfl, hM2, rfl⟩) rfl (Nat.le_of_ble_eq_true rfl) (by decide)) ?_
  refine gm_gat (gm_iload dL_law_945 rfl) ?_
  refine gm_gat (gi_icmp_eq_t (tgt := 952) dL_law_947 (by decide) hk hk rfl) ?_
  refine gm_gat (gm_iload dL_law_952 rfl) ?_
  by_cases h0 : K2 0 = 0
  ·
    obtain ⟨g, o1, o2⟩ := ho h0
    refine gm_gat (gi_if_ne_f 969 dL_law_954 (by decide) hk h0) ?_
    refine gm_gat (gm_aload_n dL_law_957 rfl (by first | exact Or.inl ⟨_, rfl⟩ | exact Or.inr ⟨_, rfl⟩)) ?_
    refine gm_gat (gi_const dL_law_958) ?_
    refine gm_gat (gm_lald dL_law_959 o1 z_0in) ?_
    rw [z_0cl, o2]
    refine gm_gat (gm_iload dL_law_960 rfl) ?_
    refine gm_gat (gi_i2l dL_law_962 hb) ?_
    refine gm_gat (gm_lcmp dL_law_963) ?_
    refine gm_gat (gm_if_eq_t (tgt := 969) dL_law_964 (by decide) (lg_self _)) ?_
    refine gm_gat (gm_goto (tgt := 2513) dL_law_969 (by decide)) ?_
    exact gm_goG_rf
  ·
    refine gm_gat (gi_if_ne_t (tgt := 969) dL_law_954 (by decide) hk h0) ?_
    refine gm_gat (gm_goto (tgt := 2513) dL_law_969 (by decide)) ?_
    exact gm_goG_rf
set_option maxRecDepth 4000 in
theorem lw_courseFor {G : gm_G} {x : MethodName} {r : Option FieldType × List (Nat × Nat × Nat × Nat)} (hx : x.cls = RL) {n : Nat} {i : Int} {x6 x7 x8 : Option Value} {h h2 : gm_H} {b : Int} (hb : zR b) {k : Int} (hi : 0 ≤ i) (hi4 : i + 4 ≤ gm_L G) (hL : gm_L G ≤ 2048) (H : LH h h2 n mL_courseFor [.ref n, .int (zI (gx G (i + 1))), .int (zI (gx G (i + 2))), .ref (n + 126)] mX11_courseFor [.ref (n + 113), .int (zI (gx G (i + 1))), .int (zI (gx G (i + 2)))] k (.int (zI b))) (ho : k = 0 → ∃ g, h2.1[n + 126]? = some (gLo g) ∧ g 0 = zL b) : gm_goG G (lM x r) 14 (972, [some (.retAddr 999), some (.ref n), some (.ref (n + 113)), some (.ref (n + 126)), some (.ref (n + 127)), some (.int (zI i)), x6, x7, x8], [], h) (2513, [some (.retAddr 999), some (.ref n), some (.ref (n + 113)), some (.ref (n + 126)), some (.ref (n + 127)), some (.int (zI i)), (some (.int (zI k))), (some (.int (zI b))), x8], [], h2) := by
  obtain ⟨h1, K1, K2, D, D0, hD, hD0, c1, hM1, c2, hM2, rfl, hk⟩ := H
  refine gm_gat (gm_aload_n dL_law_972 rfl (by first | exact Or.inl ⟨_, rfl⟩ | exact Or.inr ⟨_, rfl⟩)) ?_
  refine gm_gat (gm_aload_n dL_law_973 rfl (by first | exact Or.inl ⟨_, rfl⟩ | exact Or.inr ⟨_, rfl⟩)) ?_
  refine gm_gat (gm_iload dL_law_974 rfl) ?_
  refine gm_gat (gi_const dL_law_976) ?_
  refine gm_gat (gi_add dL_law_977) ?_
  refine gm_goG_tr (gi_sld dL_law_978 (by omega) (by omega) hL) ?_
  refine gm_gat (gm_aload_n dL_law_979 rfl (by first | exact Or.inl ⟨_, rfl⟩ | exact Or.inr ⟨_, rfl⟩)) ?_
  refine gm_gat (gm_iload dL_law_980 rfl) ?_
  refine gm_gat (gi_const dL_law_982) ?_
  refine gm_gat (gi_add dL_law_983) ?_
  refine gm_goG_tr (gi_sld dL_law_984 (by omega) (by omega) hL) ?_
  refine gm_gat (gm_aload_n dL_law_985 rfl (by first | exact Or.inl ⟨_, rfl⟩ | exact Or.inr ⟨_, rfl⟩)) ?_
  refine gm_gat (gm_cX dL_law_986 (c1) rfl mx_L_courseFor ms_L_courseFor (ll_L_191 hx) rfl (Nat.le_of_ble_eq_true rfl) hD0) ?_
  refine gm_gat (gm_istore (ls' := [_, _, _, _, _, _, _, _, _]) dL_law_989 (Nat.le_of_ble_eq_true rfl) rfl) ?_
  refine gm_gat (gm_aload_n dL_law_991 rfl (by first | exact Or.inl ⟨_, rfl⟩ | exact Or.inr ⟨_, rfl⟩)) ?_
  refine gm_gat (gm_aload_n dL_law_992 rfl (by first | exact Or.inl ⟨_, rfl⟩ | exact Or.inr ⟨_, rfl⟩)) ?_
  refine gm_gat (gm_iload dL_law_993 rfl) ?_
  refine gm_gat (gi_const dL_law_995) ?_
  refine gm_gat (gi_add dL_law_996) ?_
  refine gm_goG_tr (gi_sld dL_law_997 (by omega) (by omega) hL) ?_
  refine gm_gat (gm_aload_n dL_law_998 rfl (by first | exact Or.inl ⟨_, rfl⟩ | exact Or.inr ⟨_, rfl⟩)) ?_
  refine gm_gat (gm_iload dL_law_999 rfl) ?_
  refine gm_gat (gi_const dL_law_1001) ?_
  refine gm_gat (gi_add dL_law_1002) ?_
  refine gm_goG_tr (gi_sld dL_law_1003 (by omega) (by omega) hL) ?_
  refine gm_gat (gm_cV dL_law_1004 (c2) rfl mt_X11_courseFor mv_X11_courseFor (lk_L_193 hx) (Or.inl ⟨_, 12, _, _, _, rfl, hM1, rfl⟩) rfl (Nat.le_of_ble_eq_true rfl) hD) ?_
  refine gm_gat (gm_istore (ls' := [_, _, _, _, _, _, _, _, _]) dL_law_1007 (Nat.le_of_ble_eq_true rfl) rfl) ?_
  refine gm_gat (gm_aload_n dL_law_1009 rfl (by first | exact Or.inl ⟨_, rfl⟩ | exact Or.inr ⟨_, rfl⟩)) ?_
  refine gm_gat (gm_cV dL_law_1010 ((ct_mThrown hM2)) rfl mt_X11_thrown mv_X11_thrown (lk_L_148 hx) (Or.inl ⟨_, 12, _, _, _, rfl, hM2, rfl⟩) rfl (Nat.le_of_ble_eq_true rfl) (by decide)) ?_
  refine gm_gat (gm_iload dL_law_1013 rfl) ?_
  refine gm_gat (gi_icmp_eq_t (tgt := 1020) dL_law_1015 (by decide) hk hk rfl) ?_
  refine gm_gat (gm_iload dL_law_1020 rfl) ?_
  by_cases h0 : K2 0 = 0
  ·
    obtain ⟨g, o1, o2⟩ := ho h0
    refine gm_gat (gi_if_ne_f 1037 dL_law_1022 (by decide) hk h0) ?_
    refine gm_gat (gm_aload_n dL_law_1025 rfl (by first | exact Or.inl ⟨_, rfl⟩ | exact Or.inr ⟨_, rfl⟩)) ?_
    refine gm_gat (gi_const dL_law_1026) ?_
    refine gm_gat (gm_lald dL_law_1027 o1 z_0in) ?_
    rw [z_0cl, o2]
    refine gm_gat (gm_iload dL_law_1028 rfl) ?_
    refine gm_gat (gi_i2l dL_law_1030 hb) ?_
    refine gm_gat (gm_lcmp dL_law_1031) ?_
    refine gm_gat (gm_if_eq_t (tgt := 1037) dL_law_1032 (by decide) (lg_self _)) ?_
    refine gm_gat (gm_goto (tgt := 2513) dL_law_1037 (by decide)) ?_
    exact gm_goG_rf
  ·
    refine gm_gat (gi_if_ne_t (tgt := 1037) dL_law_1022 (by decide) hk h0) ?_
    refine gm_gat (gm_goto (tgt := 2513) dL_law_1037 (by decide)) ?_
    exact gm_goG_rf
set_option maxRecDepth 4000 in
theorem lw_courseForNearby {G : gm_G} {x : MethodName} {r : Option FieldType × List (Nat × Nat × Nat × Nat)} (hx : x.cls = RL) {n : Nat} {i : Int} {x6 x7 x8 : Option Value} {h h2 : gm_H} {b : Int} (hb : zR b) {k : Int} (hi : 0 ≤ i) (hi4 : i + 4 ≤ gm_L G) (hL : gm_L G ≤ 2048) (H : LH h h2 n mL_courseForNearby [.ref n, .int (zI (gx G (i + 1))), .int (zI (gx G (i + 2))), .ref (n + 126)] mX11_courseForNearby [.ref (n + 113), .int (zI (gx G (i + 1))), .int (zI (gx G (i + 2)))] k (.int (zI b))) (ho : k = 0 → ∃ g, h2.1[n + 126]? = some (gLo g) ∧ g 0 = zL b) : gm_goG G (lM x r) 14 (1040, [some (.retAddr 999), some (.ref n), some (.ref (n + 113)), some (.ref (n + 126)), some (.ref (n + 127)), some (.int (zI i)), x6, x7, x8], [], h) (2513, [some (.retAddr 999), some (.ref n), some (.ref (n + 113)), some (.ref (n + 126)), some (.ref (n + 127)), some (.int (zI i)), (some (.int (zI k))), (some (.int (zI b))), x8], [], h2) := by
  obtain ⟨h1, K1, K2, D, D0, hD, hD0, c1, hM1, c2, hM2, rfl, hk⟩ := H
  refine gm_gat (gm_aload_n dL_law_1040 rfl (by first | exact Or.inl ⟨_, rfl⟩ | exact Or.inr ⟨_, rfl⟩)) ?_
  refine gm_gat (gm_aload_n dL_law_1041 rfl (by first | exact Or.inl ⟨_, rfl⟩ | exact Or.inr ⟨_, rfl⟩)) ?_
  refine gm_gat (gm_iload dL_law_1042 rfl) ?_
  refine gm_gat (gi_const dL_law_1044) ?_
  refine gm_gat (gi_add dL_law_1045) ?_
  refine gm_goG_tr (gi_sld dL_law_1046 (by omega) (by omega) hL) ?_
  refine gm_gat (gm_aload_n dL_law_1047 rfl (by first | exact Or.inl ⟨_, rfl⟩ | exact Or.inr ⟨_, rfl⟩)) ?_
  refine gm_gat (gm_iload dL_law_1048 rfl) ?_
  refine gm_gat (gi_const dL_law_1050) ?_
  refine gm_gat (gi_add dL_law_1051) ?_
  refine gm_goG_tr (gi_sld dL_law_1052 (by omega) (by omega) hL) ?_
  refine gm_gat (gm_aload_n dL_law_1053 rfl (by first | exact Or.inl ⟨_, rfl⟩ | exact Or.inr ⟨_, rfl⟩)) ?_
  refine gm_gat (gm_cX dL_law_1054 (c1) rfl mx_L_courseForNearby ms_L_courseForNearby (ll_L_194 hx) rfl (Nat.le_of_ble_eq_true rfl) hD0) ?_
  refine gm_gat (gm_istore (ls' := [_, _, _, _, _, _, _, _, _]) dL_law_1057 (Nat.le_of_ble_eq_true rfl) rfl) ?_
  refine gm_gat (gm_aload_n dL_law_1059 rfl (by first | exact Or.inl ⟨_, rfl⟩ | exact Or.inr ⟨_, rfl⟩)) ?_
  refine gm_gat (gm_aload_n dL_law_1060 rfl (by first | exact Or.inl ⟨_, rfl⟩ | exact Or.inr ⟨_, rfl⟩)) ?_
  refine gm_gat (gm_iload dL_law_1061 rfl) ?_
  refine gm_gat (gi_const dL_law_1063) ?_
  refine gm_gat (gi_add dL_law_1064) ?_
  refine gm_goG_tr (gi_sld dL_law_1065 (by omega) (by omega) hL) ?_
  refine gm_gat (gm_aload_n dL_law_1066 rfl (by first | exact Or.inl ⟨_, rfl⟩ | exact Or.inr ⟨_, rfl⟩)) ?_
  refine gm_gat (gm_iload dL_law_1067 rfl) ?_
  refine gm_gat (gi_const dL_law_1069) ?_
  refine gm_gat (gi_add dL_law_1070) ?_
  refine gm_goG_tr (gi_sld dL_law_1071 (by omega) (by omega) hL) ?_
  refine gm_gat (gm_cV dL_law_1072 (c2) rfl mt_X11_courseForNearby mv_X11_courseForNearby (lk_L_196 hx) (Or.inl ⟨_, 12, _, _, _, rfl, hM1, rfl⟩) rfl (Nat.le_of_ble_eq_true rfl) hD) ?_
  refine gm_gat (gm_istore (ls' := [_, _, _, _, _, _, _, _, _]) dL_law_1075 (Nat.le_of_ble_eq_true rfl) rfl) ?_
  refine gm_gat (gm_aload_n dL_law_1077 rfl (by first | exact Or.inl ⟨_, rfl⟩ | exact Or.inr ⟨_, rfl⟩)) ?_
  refine gm_gat (gm_cV dL_law_1078 ((ct_mThrown hM2)) rfl mt_X11_thrown mv_X11_thrown (lk_L_148 hx) (Or.inl ⟨_, 12, _, _, _, rfl, hM2, rfl⟩) rfl (Nat.le_of_ble_eq_true rfl) (by decide)) ?_
  refine gm_gat (gm_iload dL_law_1081 rfl) ?_
  refine gm_gat (gi_icmp_eq_t (tgt := 1088) dL_law_1083 (by decide) hk hk rfl) ?_
  refine gm_gat (gm_iload dL_law_1088 rfl) ?_
  by_cases h0 : K2 0 = 0
  ·
    obtain ⟨g, o1, o2⟩ := ho h0
    refine gm_gat (gi_if_ne_f 1105 dL_law_1090 (by decide) hk h0) ?_
    refine gm_gat (gm_aload_n dL_law_1093 rfl (by first | exact Or.inl ⟨_, rfl⟩ | exact Or.inr ⟨_, rfl⟩)) ?_
    refine gm_gat (gi_const dL_law_1094) ?_
    refine gm_gat (gm_lald dL_law_1095 o1 z_0in) ?_
    rw [z_0cl, o2]
    refine gm_gat (gm_iload dL_law_1096 rfl) ?_
    refine gm_gat (gi_i2l dL_law_1098 hb) ?_
    refine gm_gat (gm_lcmp dL_law_1099) ?_
    refine gm_gat (gm_if_eq_t (tgt := 1105) dL_law_1100 (by decide) (lg_self _)) ?_
    refine gm_gat (gm_goto (tgt := 2513) dL_law_1105 (by decide)) ?_
    exact gm_goG_rf
  ·
    refine gm_gat (gi_if_ne_t (tgt := 1105) dL_law_1090 (by decide) hk h0) ?_
    refine gm_gat (gm_goto (tgt := 2513) dL_law_1105 (by decide)) ?_
    exact gm_goG_rf
set_option maxRecDepth 4000 in
theorem lw_missedCourses {G : gm_G} {x : MethodName} {r : Option FieldType × List (Nat × Nat × Nat × Nat)} (hx : x.cls = RL) {n : Nat} {i : Int} {x6 x7 x8 : Option Value} {h h2 : gm_H} {b : Int} (hb : zR b) {k : Int} (hi : 0 ≤ i) (hi4 : i + 4 ≤ gm_L G) (hL : gm_L G ≤ 2048) (H : LH h h2 n mL_missedCourses [.ref n, .int (zI (gx G (i + 1))), .ref (n + 126)] mX11_missedCourses [.ref (n + 113), .int (zI (gx G (i + 1)))] k (.int (zI b))) (ho : k = 0 → ∃ g, h2.1[n + 126]? = some (gLo g) ∧ g 0 = zL b) : gm_goG G (lM x r) 14 (1108, [some (.retAddr 999), some (.ref n), some (.ref (n + 113)), some (.ref (n + 126)), some (.ref (n + 127)), some (.int (zI i)), x6, x7, x8], [], h) (2513, [some (.retAddr 999), some (.ref n), some (.ref (n + 113)), some (.ref (n + 126)), some (.ref (n + 127)), some (.int (zI i)), (some (.int (zI k))), (some (.int (zI b))), x8], [], h2) := by
  obtain ⟨h1, K1, K2, D, D0, hD, hD0, c1, hM1, c2, hM2, rfl, hk⟩ := H
  refine gm_gat (gm_aload_n dL_law_1108 rfl (by first | exact Or.inl ⟨_, rfl⟩ | exact Or.inr ⟨_, rfl⟩)) ?_
  refine gm_gat (gm_aload_n dL_law_1109 rfl (by first | exact Or.inl ⟨_, rfl⟩ | exact Or.inr ⟨_, rfl⟩)) ?_
  refine gm_gat (gm_iload dL_law_1110 rfl) ?_
  refine gm_gat (gi_const dL_law_1112) ?_
  refine gm_gat (gi_add dL_law_1113) ?_
  refine gm_goG_tr (gi_sld dL_law_1114 (by omega) (by omega) hL) ?_
  refine gm_gat (gm_aload_n dL_law_1115 rfl (by first | exact Or.inl ⟨_, rfl⟩ | exact Or.inr ⟨_, rfl⟩)) ?_
  refine gm_gat (gm_cX dL_law_1116 (c1) rfl mx_L_missedCourses ms_L_missedCourses (ll_L_197 hx) rfl (Nat.le_of_ble_eq_true rfl) hD0) ?_
  refine gm_gat (gm_istore (ls' := [_, _, _, _, _, _, _, _, _]) dL_law_1119 (Nat.le_of_ble_eq_true rfl) rfl) ?_
  refine gm_gat (gm_aload_n dL_law_1121 rfl (by first | exact Or.inl ⟨_, rfl⟩ | exact Or.inr ⟨_, rfl⟩)) ?_
  refine gm_gat (gm_aload_n dL_law_1122 rfl (by first | exact Or.inl ⟨_, rfl⟩ | exact Or.inr ⟨_, rfl⟩)) ?_
  refine gm_gat (gm_iload dL_law_1123 rfl) ?_
  refine gm_gat (gi_const dL_law_1125) ?_
  refine gm_gat (gi_add dL_law_1126) ?_
  refine gm_goG_tr (gi_sld dL_law_1127 (by omega) (by omega) hL) ?_
  refine gm_gat (gm_cV dL_law_1128 (c2) rfl mt_X11_missedCourses mv_X11_missedCourses (lk_L_199 hx) (Or.inl ⟨_, 12, _, _, _, rfl, hM1, rfl⟩) rfl (Nat.le_of_ble_eq_true rfl) hD) ?_
  refine gm_gat (gm_istore (ls' := [_, _, _, _, _, _, _, _, _]) dL_law_1131 (Nat.le_of_ble_eq_true rfl) rfl) ?_
  refine gm_gat (gm_aload_n dL_law_1133 rfl (by first | exact Or.inl ⟨_, rfl⟩ | exact Or.inr ⟨_, rfl⟩)) ?_
  refine gm_gat (gm_cV dL_law_1134 ((ct_mThrown hM2)) rfl mt_X11_thrown mv_X11_thrown (lk_L_148 hx) (Or.inl ⟨_, 12, _, _, _, rfl, hM2, rfl⟩) rfl (Nat.le_of_ble_eq_true rfl) (by decide)) ?_
  refine gm_gat (gm_iload dL_law_1137 rfl) ?_
  refine gm_gat (gi_icmp_eq_t (tgt := 1144) dL_law_1139 (by decide) hk hk rfl) ?_
  refine gm_gat (gm_iload dL_law_1144 rfl) ?_
  by_cases h0 : K2 0 = 0
  ·
    obtain ⟨g, o1, o2⟩ := ho h0
    refine gm_gat (gi_if_ne_f 1161 dL_law_1146 (by decide) hk h0) ?_
    refine gm_gat (gm_aload_n dL_law_1149 rfl (by first | exact Or.inl ⟨_, rfl⟩ | exact Or.inr ⟨_, rfl⟩)) ?_
    refine gm_gat (gi_const dL_law_1150) ?_
    refine gm_gat (gm_lald dL_law_1151 o1 z_0in) ?_
    rw [z_0cl, o2]
    refine gm_gat (gm_iload dL_law_1152 rfl) ?_
    refine gm_gat (gi_i2l dL_law_1154 hb) ?_
    refine gm_gat (gm_lcmp dL_law_1155) ?_
    refine gm_gat (gm_if_eq_t (tgt := 1161) dL_law_1156 (by decide) (lg_self _)) ?_
    refine gm_gat (gm_goto (tgt := 2513) dL_law_1161 (by decide)) ?_
    exact gm_goG_rf
  ·
    refine gm_gat (gi_if_ne_t (tgt := 1161) dL_law_1146 (by decide) hk h0) ?_
    refine gm_gat (gm_goto (tgt := 2513) dL_law_1161 (by decide)) ?_
    exact gm_goG_rf
set_option maxRecDepth 4000 in
theorem lw_errorOf {G : gm_G} {x : MethodName} {r : Option FieldType × List (Nat × Nat × Nat × Nat)} (hx : x.cls = RL) {n : Nat} {i : Int} {x6 x7 x8 : Option Value} {h h2 : gm_H} {b : Int} (hb : zR b) {k : Int} (hi : 0 ≤ i) (hi4 : i + 4 ≤ gm_L G) (hL : gm_L G ≤ 2048) (H : LH h h2 n mL_errorOf [.ref n, .int (zI (gx G (i + 1))), .ref (n + 126)] mX11_errorOf [.ref (n + 113), .int (zI (gx G (i + 1)))] k (.int (zI b))) (ho : k = 0 → ∃ g, h2.1[n + 126]? = some (gLo g) ∧ g 0 = zL b) : gm_goG G (lM x r) 14 (1164, [some (.retAddr 999), some (.ref n), some (.ref (n + 113)), some (.ref (n + 126)), some (.ref (n + 127)), some (.int (zI i)), x6, x7, x8], [], h) (2513, [some (.retAddr 999), some (.ref n), some (.ref (n + 113)), some (.ref (n + 126)), some (.ref (n + 127)), some (.int (zI i)), (some (.int (zI k))), (some (.int (zI b))), x8], [], h2) := by
  obtain ⟨h1, K1, K2, D, D0, hD, hD0, c1, hM1, c2, hM2, rfl, hk⟩ := H
  refine gm_gat (gm_aload_n dL_law_1164 rfl (by first | exact Or.inl ⟨_, rfl⟩ | exact Or.inr ⟨_, rfl⟩)) ?_
  refine gm_gat (gm_aload_n dL_law_1165 rfl (by first | exact Or.inl ⟨_, rfl⟩ | exact Or.inr ⟨_, rfl⟩)) ?_
  refine gm_gat (gm_iload dL_law_1166 rfl) ?_
  refine gm_gat (gi_const dL_law_1168) ?_
  refine gm_gat (gi_add dL_law_1169) ?_
  refine gm_goG_tr (gi_sld dL_law_1170 (by omega) (by omega) hL) ?_
  refine gm_gat (gm_aload_n dL_law_1171 rfl (by first | exact Or.inl ⟨_, rfl⟩ | exact Or.inr ⟨_, rfl⟩)) ?_
  refine gm_gat (gm_cX dL_law_1172 (c1) rfl mx_L_errorOf ms_L_errorOf (ll_L_200 hx) rfl (Nat.le_of_ble_eq_true rfl) hD0) ?_
  refine gm_gat (gm_istore (ls' := [_, _, _, _, _, _, _, _, _]) dL_law_1175 (Nat.le_of_ble_eq_true rfl) rfl) ?_
  refine gm_gat (gm_aload_n dL_law_1177 rfl (by first | exact Or.inl ⟨_, rfl⟩ | exact Or.inr ⟨_, rfl⟩)) ?_
  refine gm_gat (gm_aload_n dL_law_1178 rfl (by first | exact Or.inl ⟨_, rfl⟩ | exact Or.inr ⟨_, rfl⟩)) ?_
  refine gm_gat (gm_iload dL_law_1179 rfl) ?_
  refine gm_gat (gi_const dL_law_1181) ?_
  refine gm_gat (gi_add dL_law_1182) ?_
  refine gm_goG_tr (gi_sld dL_law_1183 (by omega) (by omega) hL) ?_
  refine gm_gat (gm_cV dL_law_1184 (c2) rfl mt_X11_errorOf mv_X11_errorOf (lk_L_202 hx) (Or.inl ⟨_, 12, _, _, _, rfl, hM1, rfl⟩) rfl (Nat.le_of_ble_eq_true rfl) hD) ?_
  refine gm_gat (gm_istore (ls' := [_, _, _, _, _, _, _, _, _]) dL_law_1187 (Nat.le_of_ble_eq_true rfl) rfl) ?_
  refine gm_gat (gm_aload_n dL_law_1189 rfl (by first | exact Or.inl ⟨_, rfl⟩ | exact Or.inr ⟨_, rfl⟩)) ?_
  refine gm_gat (gm_cV dL_law_1190 ((ct_mThrown hM2)) rfl mt_X11_thrown mv_X11_thrown (lk_L_148 hx) (Or.inl ⟨_, 12, _, _, _, rfl, hM2, rfl⟩) rfl (Nat.le_of_ble_eq_true rfl) (by decide)) ?_
  refine gm_gat (gm_iload dL_law_1193 rfl) ?_
  refine gm_gat (gi_icmp_eq_t (tgt := 1200) dL_law_1195 (by decide) hk hk rfl) ?_
  refine gm_gat (gm_iload dL_law_1200 rfl) ?_
  by_cases h0 : K2 0 = 0
  ·
    obtain ⟨g, o1, o2⟩ := ho h0
    refine gm_gat (gi_if_ne_f 1217 dL_law_1202 (by decide) hk h0) ?_
    refine gm_gat (gm_aload_n dL_law_1205 rfl (by first | exact Or.inl ⟨_, rfl⟩ | exact Or.inr ⟨_, rfl⟩)) ?_
    refine gm_gat (gi_const dL_law_1206) ?_
    refine gm_gat (gm_lald dL_law_1207 o1 z_0in) ?_
    rw [z_0cl, o2]
    refine gm_gat (gm_iload dL_law_1208 rfl) ?_
    refine gm_gat (gi_i2l dL_law_1210 hb) ?_
    refine gm_gat (gm_lcmp dL_law_1211) ?_
    refine gm_gat (gm_if_eq_t (tgt := 1217) dL_law_1212 (by decide) (lg_self _)) ?_
    refine gm_gat (gm_goto (tgt := 2513) dL_law_1217 (by decide)) ?_
    exact gm_goG_rf
  ·
    refine gm_gat (gi_if_ne_t (tgt := 1217) dL_law_1202 (by decide) hk h0) ?_
    refine gm_gat (gm_goto (tgt := 2513) dL_law_1217 (by decide)) ?_
    exact gm_goG_rf
set_option maxRecDepth 4000 in
theorem lw_bestShift {G : gm_G} {x : MethodName} {r : Option FieldType × List (Nat × Nat × Nat × Nat)} (hx : x.cls = RL) {n : Nat} {i : Int} {x6 x7 x8 : Option Value} {h h2 : gm_H} {b : Int} (hb : zR b) {k : Int} (hi : 0 ≤ i) (hi4 : i + 4 ≤ gm_L G) (hL : gm_L G ≤ 2048) (H : LH h h2 n mL_bestShift [.ref n, .int (zI (gx G (i + 1))), .ref (n + 126)] mX11_bestShift [.ref (n + 113), .int (zI (gx G (i + 1)))] k (.int (zI b))) (ho : k = 0 → ∃ g, h2.1[n + 126]? = some (gLo g) ∧ g 0 = zL b) : gm_goG G (lM x r) 14 (1220, [some (.retAddr 999), some (.ref n), some (.ref (n + 113)), some (.ref (n + 126)), some (.ref (n + 127)), some (.int (zI i)), x6, x7, x8], [], h) (2513, [some (.retAddr 999), some (.ref n), some (.ref (n + 113)), some (.ref (n + 126)), some (.ref (n + 127)), some (.int (zI i)), (some (.int (zI k))), (some (.int (zI b))), x8], [], h2) := by
  obtain ⟨h1, K1, K2, D, D0, hD, hD0, c1, hM1, c2, hM2, rfl, hk⟩ := H
  refine gm_gat (gm_aload_n dL_law_1220 rfl (by first | exact Or.inl ⟨_, rfl⟩ | exact Or.inr ⟨_, rfl⟩)) ?_
  refine gm_gat (gm_aload_n dL_law_1221 rfl (by first | exact Or.inl ⟨_, rfl⟩ | exact Or.inr ⟨_, rfl⟩)) ?_
  refine gm_gat (gm_iload dL_law_1222 rfl) ?_
  refine gm_gat (gi_const dL_law_1224) ?_
  refine gm_gat (gi_add dL_law_1225) ?_
  refine gm_goG_tr (gi_sld dL_law_1226 (by omega) (by omega) hL) ?_
  refine gm_gat (gm_aload_n dL_law_1227 rfl (by first | exact Or.inl ⟨_, rfl⟩ | exact Or.inr ⟨_, rfl⟩)) ?_
  refine gm_gat (gm_cX dL_law_1228 (c1) rfl mx_L_bestShift ms_L_bestShift (ll_L_203 hx) rfl (Nat.le_of_ble_eq_true rfl) hD0) ?_
  refine gm_gat (gm_istore (ls' := [_, _, _, _, _, _, _, _, _]) dL_law_1231 (Nat.le_of_ble_eq_true rfl) rfl) ?_
  refine gm_gat (gm_aload_n dL_law_1233 rfl (by first | exact Or.inl ⟨_, rfl⟩ | exact Or.inr ⟨_, rfl⟩)) ?_
  refine gm_gat (gm_aload_n dL_law_1234 rfl (by first | exact Or.inl ⟨_, rfl⟩ | exact Or.inr ⟨_, rfl⟩)) ?_
  refine gm_gat (gm_iload dL_law_1235 rfl) ?_
  refine gm_gat (gi_const dL_law_1237) ?_
  refine gm_gat (gi_add dL_law_1238) ?_
  refine gm_goG_tr (gi_sld dL_law_1239 (by omega) (by omega) hL) ?_
  refine gm_gat (gm_cV dL_law_1240 (c2) rfl mt_X11_bestShift mv_X11_bestShift (lk_L_205 hx) (Or.inl ⟨_, 12, _, _, _, rfl, hM1, rfl⟩) rfl (Nat.le_of_ble_eq_true rfl) hD) ?_
  refine gm_gat (gm_istore (ls' := [_, _, _, _, _, _, _, _, _]) dL_law_1243 (Nat.le_of_ble_eq_true rfl) rfl) ?_
  refine gm_gat (gm_aload_n dL_law_1245 rfl (by first | exact Or.inl ⟨_, rfl⟩ | exact Or.inr ⟨_, rfl⟩)) ?_
  refine gm_gat (gm_cV dL_law_1246 ((ct_mThrown hM2)) rfl mt_X11_thrown mv_X11_thrown (lk_L_148 hx) (Or.inl ⟨_, 12, _, _, _, rfl, hM2, rfl⟩) rfl (Nat.le_of_ble_eq_true rfl) (by decide)) ?_
  refine gm_gat (gm_iload dL_law_1249 rfl) ?_
  refine gm_gat (gi_icmp_eq_t (tgt := 1256) dL_law_1251 (by decide) hk hk rfl) ?_
  refine gm_gat (gm_iload dL_law_1256 rfl) ?_
  by_cases h0 : K2 0 = 0
  ·
    obtain ⟨g, o1, o2⟩ := ho h0
    refine gm_gat (gi_if_ne_f 1273 dL_law_1258 (by decide) hk h0) ?_
    refine gm_gat (gm_aload_n dL_law_1261 rfl (by first | exact Or.inl ⟨_, rfl⟩ | exact Or.inr ⟨_, rfl⟩)) ?_
    refine gm_gat (gi_const dL_law_1262) ?_
    refine gm_gat (gm_lald dL_law_1263 o1 z_0in) ?_
    rw [z_0cl, o2]
    refine gm_gat (gm_iload dL_law_1264 rfl) ?_
    refine gm_gat (gi_i2l dL_law_1266 hb) ?_
    refine gm_gat (gm_lcmp dL_law_1267) ?_
    refine gm_gat (gm_if_eq_t (tgt := 1273) dL_law_1268 (by decide) (lg_self _)) ?_
    refine gm_gat (gm_goto (tgt := 2513) dL_law_1273 (by decide)) ?_
    exact gm_goG_rf
  ·
    refine gm_gat (gi_if_ne_t (tgt := 1273) dL_law_1258 (by decide) hk h0) ?_
    refine gm_gat (gm_goto (tgt := 2513) dL_law_1273 (by decide)) ?_
    exact gm_goG_rf
set_option maxRecDepth 4000 in
theorem lw_bestShiftBySum {G : gm_G} {x : MethodName} {r : Option FieldType × List (Nat × Nat × Nat × Nat)} (hx : x.cls = RL) {n : Nat} {i : Int} {x6 x7 x8 : Option Value} {h h2 : gm_H} {b : Int} (hb : zR b) {k : Int} (hi : 0 ≤ i) (hi4 : i + 4 ≤ gm_L G) (hL : gm_L G ≤ 2048) (H : LH h h2 n mL_bestShiftBySum [.ref n, .int (zI (gx G (i + 1))), .ref (n + 126)] mX11_bestShiftBySum [.ref (n + 113), .int (zI (gx G (i + 1)))] k (.int (zI b))) (ho : k = 0 → ∃ g, h2.1[n + 126]? = some (gLo g) ∧ g 0 = zL b) : gm_goG G (lM x r) 14 (1276, [some (.retAddr 999), some (.ref n), some (.ref (n + 113)), some (.ref (n + 126)), some (.ref (n + 127)), some (.int (zI i)), x6, x7, x8], [], h) (2513, [some (.retAddr 999), some (.ref n), some (.ref (n + 113)), some (.ref (n + 126)), some (.ref (n + 127)), some (.int (zI i)), (some (.int (zI k))), (some (.int (zI b))), x8], [], h2) := by
  obtain ⟨h1, K1, K2, D, D0, hD, hD0, c1, hM1, c2, hM2, rfl, hk⟩ := H
  refine gm_gat (gm_aload_n dL_law_1276 rfl (by first | exact Or.inl ⟨_, rfl⟩ | exact Or.inr ⟨_, rfl⟩)) ?_
  refine gm_gat (gm_aload_n dL_law_1277 rfl (by first | exact Or.inl ⟨_, rfl⟩ | exact Or.inr ⟨_, rfl⟩)) ?_
  refine gm_gat (gm_iload dL_law_1278 rfl) ?_
  refine gm_gat (gi_const dL_law_1280) ?_
  refine gm_gat (gi_add dL_law_1281) ?_
  refine gm_goG_tr (gi_sld dL_law_1282 (by omega) (by omega) hL) ?_
  refine gm_gat (gm_aload_n dL_law_1283 rfl (by first | exact Or.inl ⟨_, rfl⟩ | exact Or.inr ⟨_, rfl⟩)) ?_
  refine gm_gat (gm_cX dL_law_1284 (c1) rfl mx_L_bestShiftBySum ms_L_bestShiftBySum (ll_L_206 hx) rfl (Nat.le_of_ble_eq_true rfl) hD0) ?_
  refine gm_gat (gm_istore (ls' := [_, _, _, _, _, _, _, _, _]) dL_law_1287 (Nat.le_of_ble_eq_true rfl) rfl) ?_
  refine gm_gat (gm_aload_n dL_law_1289 rfl (by first | exact Or.inl ⟨_, rfl⟩ | exact Or.inr ⟨_, rfl⟩)) ?_
  refine gm_gat (gm_aload_n dL_law_1290 rfl (by first | exact Or.inl ⟨_, rfl⟩ | exact Or.inr ⟨_, rfl⟩)) ?_
  refine gm_gat (gm_iload dL_law_1291 rfl) ?_
  refine gm_gat (gi_const dL_law_1293) ?_
  refine gm_gat (gi_add dL_law_1294) ?_
  refine gm_goG_tr (gi_sld dL_law_1295 (by omega) (by omega) hL) ?_
  refine gm_gat (gm_cV dL_law_1296 (c2) rfl mt_X11_bestShiftBySum mv_X11_bestShiftBySum (lk_L_208 hx) (Or.inl ⟨_, 12, _, _, _, rfl, hM1, rfl⟩) rfl (Nat.le_of_ble_eq_true rfl) hD) ?_
  refine gm_gat (gm_istore (ls' := [_, _, _, _, _, _, _, _, _]) dL_law_1299 (Nat.le_of_ble_eq_true rfl) rfl) ?_
  refine gm_gat (gm_aload_n dL_law_1301 rfl (by first | exact Or.inl ⟨_, rfl⟩ | exact Or.inr ⟨_, rfl⟩)) ?_
  refine gm_gat (gm_cV dL_law_1302 ((ct_mThrown hM2)) rfl mt_X11_thrown mv_X11_thrown (lk_L_148 hx) (Or.inl ⟨_, 12, _, _, _, rfl, hM2, rfl⟩) rfl (Nat.le_of_ble_eq_true rfl) (by decide)) ?_
  refine gm_gat (gm_iload dL_law_1305 rfl) ?_
  refine gm_gat (gi_icmp_eq_t (tgt := 1312) dL_law_1307 (by decide) hk hk rfl) ?_
  refine gm_gat (gm_iload dL_law_1312 rfl) ?_
  by_cases h0 : K2 0 = 0
  ·
    obtain ⟨g, o1, o2⟩ := ho h0
    refine gm_gat (gi_if_ne_f 1329 dL_law_1314 (by decide) hk h0) ?_
    refine gm_gat (gm_aload_n dL_law_1317 rfl (by first | exact Or.inl ⟨_, rfl⟩ | exact Or.inr ⟨_, rfl⟩)) ?_
    refine gm_gat (gi_const dL_law_1318) ?_
    refine gm_gat (gm_lald dL_law_1319 o1 z_0in) ?_
    rw [z_0cl, o2]
    refine gm_gat (gm_iload dL_law_1320 rfl) ?_
    refine gm_gat (gi_i2l dL_law_1322 hb) ?_
    refine gm_gat (gm_lcmp dL_law_1323) ?_
    refine gm_gat (gm_if_eq_t (tgt := 1329) dL_law_1324 (by decide) (lg_self _)) ?_
    refine gm_gat (gm_goto (tgt := 2513) dL_law_1329 (by decide)) ?_
    exact gm_goG_rf
  ·
    refine gm_gat (gi_if_ne_t (tgt := 1329) dL_law_1314 (by decide) hk h0) ?_
    refine gm_gat (gm_goto (tgt := 2513) dL_law_1329 (by decide)) ?_
    exact gm_goG_rf
set_option maxRecDepth 4000 in
theorem lw_needleAtRank {G : gm_G} {x : MethodName} {r : Option FieldType × List (Nat × Nat × Nat × Nat)} (hx : x.cls = RL) {n : Nat} {i : Int} {x6 x7 x8 : Option Value} {h h2 : gm_H} {b : Int} (hb : zR b) {k : Int} (hi : 0 ≤ i) (hi4 : i + 4 ≤ gm_L G) (hL : gm_L G ≤ 2048) (H : LH h h2 n mL_needleAtRank [.ref n, .int (zI (gx G (i + 1))), .ref (n + 126)] mX11_needleAtRank [.ref (n + 113), .int (zI (gx G (i + 1)))] k (.int (zI b))) (ho : k = 0 → ∃ g, h2.1[n + 126]? = some (gLo g) ∧ g 0 = zL b) : gm_goG G (lM x r) 14 (1332, [some (.retAddr 999), some (.ref n), some (.ref (n + 113)), some (.ref (n + 126)), some (.ref (n + 127)), some (.int (zI i)), x6, x7, x8], [], h) (2513, [some (.retAddr 999), some (.ref n), some (.ref (n + 113)), some (.ref (n + 126)), some (.ref (n + 127)), some (.int (zI i)), (some (.int (zI k))), (some (.int (zI b))), x8], [], h2) := by
  obtain ⟨h1, K1, K2, D, D0, hD, hD0, c1, hM1, c2, hM2, rfl, hk⟩ := H
  refine gm_gat (gm_aload_n dL_law_1332 rfl (by first | exact Or.inl ⟨_, rfl⟩ | exact Or.inr ⟨_, rfl⟩)) ?_
  refine gm_gat (gm_aload_n dL_law_1333 rfl (by first | exact Or.inl ⟨_, rfl⟩ | exact Or.inr ⟨_, rfl⟩)) ?_
  refine gm_gat (gm_iload dL_law_1334 rfl) ?_
  refine gm_gat (gi_const dL_law_1336) ?_
  refine gm_gat (gi_add dL_law_1337) ?_
  refine gm_goG_tr (gi_sld dL_law_1338 (by omega) (by omega) hL) ?_
  refine gm_gat (gm_aload_n dL_law_1339 rfl (by first | exact Or.inl ⟨_, rfl⟩ | exact Or.inr ⟨_, rfl⟩)) ?_
  refine gm_gat (gm_cX dL_law_1340 (c1) rfl mx_L_needleAtRank ms_L_needleAtRank (ll_L_209 hx) rfl (Nat.le_of_ble_eq_true rfl) hD0) ?_
  refine gm_gat (gm_istore (ls' := [_, _, _, _, _, _, _, _, _]) dL_law_1343 (Nat.le_of_ble_eq_true rfl) rfl) ?_
  refine gm_gat (gm_aload_n dL_law_1345 rfl (by first | exact Or.inl ⟨_, rfl⟩ | exact Or.inr ⟨_, rfl⟩)) ?_
  refine gm_gat (gm_aload_n dL_law_1346 rfl (by first | exact Or.inl ⟨_, rfl⟩ | exact Or.inr ⟨_, rfl⟩)) ?_
  refine gm_gat (gm_iload dL_law_1347 rfl) ?_
  refine gm_gat (gi_const dL_law_1349) ?_
  refine gm_gat (gi_add dL_law_1350) ?_
  refine gm_goG_tr (gi_sld dL_law_1351 (by omega) (by omega) hL) ?_
  refine gm_gat (gm_cV dL_law_1352 (c2) rfl mt_X11_needleAtRank mv_X11_needleAtRank (lk_L_211 hx) (Or.inl ⟨_, 12, _, _, _, rfl, hM1, rfl⟩) rfl (Nat.le_of_ble_eq_true rfl) hD) ?_
  refine gm_gat (gm_istore (ls' := [_, _, _, _, _, _, _, _, _]) dL_law_1355 (Nat.le_of_ble_eq_true rfl) rfl) ?_
  refine gm_gat (gm_aload_n dL_law_1357 rfl (by first | exact Or.inl ⟨_, rfl⟩ | exact Or.inr ⟨_, rfl⟩)) ?_
  refine gm_gat (gm_cV dL_law_1358 ((ct_mThrown hM2)) rfl mt_X11_thrown mv_X11_thrown (lk_L_148 hx) (Or.inl ⟨_, 12, _, _, _, rfl, hM2, rfl⟩) rfl (Nat.le_of_ble_eq_true rfl) (by decide)) ?_
  refine gm_gat (gm_iload dL_law_1361 rfl) ?_
  refine gm_gat (gi_icmp_eq_t (tgt := 1368) dL_law_1363 (by decide) hk hk rfl) ?_
  refine gm_gat (gm_iload dL_law_1368 rfl) ?_
  by_cases h0 : K2 0 = 0
  ·
    obtain ⟨g, o1, o2⟩ := ho h0
    refine gm_gat (gi_if_ne_f 1385 dL_law_1370 (by decide) hk h0) ?_
    refine gm_gat (gm_aload_n dL_law_1373 rfl (by first | exact Or.inl ⟨_, rfl⟩ | exact Or.inr ⟨_, rfl⟩)) ?_
    refine gm_gat (gi_const dL_law_1374) ?_
    refine gm_gat (gm_lald dL_law_1375 o1 z_0in) ?_
    rw [z_0cl, o2]
    refine gm_gat (gm_iload dL_law_1376 rfl) ?_
    refine gm_gat (gi_i2l dL_law_1378 hb) ?_
    refine gm_gat (gm_lcmp dL_law_1379) ?_
    refine gm_gat (gm_if_eq_t (tgt := 1385) dL_law_1380 (by decide) (lg_self _)) ?_
    refine gm_gat (gm_goto (tgt := 2513) dL_law_1385 (by decide)) ?_
    exact gm_goG_rf
  ·
    refine gm_gat (gi_if_ne_t (tgt := 1385) dL_law_1370 (by decide) hk h0) ?_
    refine gm_gat (gm_goto (tgt := 2513) dL_law_1385 (by decide)) ?_
    exact gm_goG_rf
set_option maxRecDepth 4000 in
theorem lw_meanError {G : gm_G} {x : MethodName} {r : Option FieldType × List (Nat × Nat × Nat × Nat)} (hx : x.cls = RL) {n : Nat} {i : Int} {x6 x7 x8 : Option Value} {h h2 : gm_H} {b : UInt64} {k : Int} (hi : 0 ≤ i) (hi4 : i + 4 ≤ gm_L G) (hL : gm_L G ≤ 2048) (H : LH h h2 n mL_meanError [.ref n, .ref (n + 127)] mX11_meanError [.ref (n + 113)] k (.double b)) (ho : k = 0 → ∃ g, h2.1[n + 127]? = some (gDo g) ∧ g 0 = b) (hc : k = 0 → FP.dcmp b b = some .eq) : gm_goG G (lM x r) 14 (1388, [some (.retAddr 999), some (.ref n), some (.ref (n + 113)), some (.ref (n + 126)), some (.ref (n + 127)), some (.int (zI i)), x6, x7, x8], [], h) (2513, [some (.retAddr 999), some (.ref n), some (.ref (n + 113)), some (.ref (n + 126)), some (.ref (n + 127)), some (.int (zI i)), (some (.int (zI k))), (some (.double b)), none], [], h2) := by
  obtain ⟨h1, K1, K2, D, D0, hD, hD0, c1, hM1, c2, hM2, rfl, hk⟩ := H
  refine gm_gat (gm_aload_n dL_law_1388 rfl (by first | exact Or.inl ⟨_, rfl⟩ | exact Or.inr ⟨_, rfl⟩)) ?_
  refine gm_gat (gm_aload dL_law_1389 rfl (by first | exact Or.inl ⟨_, rfl⟩ | exact Or.inr ⟨_, rfl⟩)) ?_
  refine gm_gat (gm_cX dL_law_1391 (c1) rfl mx_L_meanError ms_L_meanError (ll_L_212 hx) rfl (Nat.le_of_ble_eq_true rfl) hD0) ?_
  refine gm_gat (gm_istore (ls' := [_, _, _, _, _, _, _, _, _]) dL_law_1394 (Nat.le_of_ble_eq_true rfl) rfl) ?_
  refine gm_gat (gm_aload_n dL_law_1396 rfl (by first | exact Or.inl ⟨_, rfl⟩ | exact Or.inr ⟨_, rfl⟩)) ?_
  refine gm_gat (gm_cV dL_law_1397 (c2) rfl mt_X11_meanError mv_X11_meanError (lk_L_215 hx) (Or.inl ⟨_, 12, _, _, _, rfl, hM1, rfl⟩) rfl (Nat.le_of_ble_eq_true rfl) hD) ?_
  refine gm_gat (gm_dstore (ls' := [_, _, _, _, _, _, _, _, _]) dL_law_1400 (Nat.le_of_ble_eq_true rfl) rfl) ?_
  refine gm_gat (gm_aload_n dL_law_1402 rfl (by first | exact Or.inl ⟨_, rfl⟩ | exact Or.inr ⟨_, rfl⟩)) ?_
  refine gm_gat (gm_cV dL_law_1403 ((ct_mThrown hM2)) rfl mt_X11_thrown mv_X11_thrown (lk_L_148 hx) (Or.inl ⟨_, 12, _, _, _, rfl, hM2, rfl⟩) rfl (Nat.le_of_ble_eq_true rfl) (by decide)) ?_
  refine gm_gat (gm_iload dL_law_1406 rfl) ?_
  refine gm_gat (gi_icmp_eq_t (tgt := 1413) dL_law_1408 (by decide) hk hk rfl) ?_
  refine gm_gat (gm_iload dL_law_1413 rfl) ?_
  by_cases h0 : K2 0 = 0
  ·
    obtain ⟨g, o1, o2⟩ := ho h0
    refine gm_gat (gi_if_ne_f 1450 dL_law_1415 (by decide) hk h0) ?_
    refine gm_gat (gm_aload dL_law_1418 rfl (by first | exact Or.inl ⟨_, rfl⟩ | exact Or.inr ⟨_, rfl⟩)) ?_
    refine gm_gat (gi_const dL_law_1420) ?_
    refine gm_gat (gm_dald dL_law_1421 o1 z_0in) ?_
    rw [z_0cl, o2]
    refine gm_gat (gm_dload dL_law_1422 rfl) ?_
    refine gm_gat (gm_dcmp dL_law_1424) ?_
    rw [(hc h0)]
    refine gm_gat (gm_if_eq_t (tgt := 1450) dL_law_1425 (by decide) rfl) ?_
    refine gm_gat (gm_goto (tgt := 2513) dL_law_1450 (by decide)) ?_
    exact gm_goG_rf
  ·
    refine gm_gat (gi_if_ne_t (tgt := 1450) dL_law_1415 (by decide) hk h0) ?_
    refine gm_gat (gm_goto (tgt := 2513) dL_law_1450 (by decide)) ?_
    exact gm_goG_rf
set_option maxRecDepth 4000 in
theorem lw_goodCount {G : gm_G} {x : MethodName} {r : Option FieldType × List (Nat × Nat × Nat × Nat)} (hx : x.cls = RL) {n : Nat} {i : Int} {x6 x7 x8 : Option Value} {h h2 : gm_H} {b : Int} (hb : zR b) (H : LQ h h2 n mX10_goodCount mX11_goodCount (.int (zI b))) : gm_goG G (lM x r) 14 (1453, [some (.retAddr 999), some (.ref n), some (.ref (n + 113)), some (.ref (n + 126)), some (.ref (n + 127)), some (.int (zI i)), x6, x7, x8], [], h) (2513, [some (.retAddr 999), some (.ref n), some (.ref (n + 113)), some (.ref (n + 126)), some (.ref (n + 127)), some (.int (zI i)), x6, x7, x8], [], h2) := by
  obtain ⟨h1, s, e, f, K1, D1, D2, hD1, hD2, hB, c1, hM1, c2⟩ := H
  refine gm_gat (gm_aload_n dL_law_1453 rfl (by first | exact Or.inl ⟨_, rfl⟩ | exact Or.inr ⟨_, rfl⟩)) ?_
  refine gm_gat (gm_cV dL_law_1454 (c1) rfl mt_X10_goodCount mv_X10_goodCount (lk_L_216 hx) (Or.inl ⟨_, 11, _, _, _, rfl, hB, rfl⟩) rfl (Nat.le_of_ble_eq_true rfl) hD1) ?_
  refine gm_gat (gm_aload_n dL_law_1457 rfl (by first | exact Or.inl ⟨_, rfl⟩ | exact Or.inr ⟨_, rfl⟩)) ?_
  refine gm_gat (gm_cV dL_law_1458 (c2) rfl mt_X11_goodCount mv_X11_goodCount (lk_L_219 hx) (Or.inl ⟨_, 12, _, _, _, rfl, hM1, rfl⟩) rfl (Nat.le_of_ble_eq_true rfl) hD2) ?_
  refine gm_gat (gi_icmp_eq_t (tgt := 2513) dL_law_1461 (by decide) hb hb rfl) ?_
  exact gm_goG_rf
set_option maxRecDepth 4000 in
theorem lw_leastDifference {G : gm_G} {x : MethodName} {r : Option FieldType × List (Nat × Nat × Nat × Nat)} (hx : x.cls = RL) {n : Nat} {i : Int} {x6 x7 x8 : Option Value} {h h2 : gm_H} {b : Int} (hb : zR b) (H : LQ h h2 n mX10_leastDifference mX11_leastDifference (.int (zI b))) : gm_goG G (lM x r) 14 (1466, [some (.retAddr 999), some (.ref n), some (.ref (n + 113)), some (.ref (n + 126)), some (.ref (n + 127)), some (.int (zI i)), x6, x7, x8], [], h) (2513, [some (.retAddr 999), some (.ref n), some (.ref (n + 113)), some (.ref (n + 126)), some (.ref (n + 127)), some (.int (zI i)), x6, x7, x8], [], h2) := by
  obtain ⟨h1, s, e, f, K1, D1, D2, hD1, hD2, hB, c1, hM1, c2⟩ := H
  refine gm_gat (gm_aload_n dL_law_1466 rfl (by first | exact Or.inl ⟨_, rfl⟩ | exact Or.inr ⟨_, rfl⟩)) ?_
  refine gm_gat (gm_cV dL_law_1467 (c1) rfl mt_X10_leastDifference mv_X10_leastDifference (lk_L_220 hx) (Or.inl ⟨_, 11, _, _, _, rfl, hB, rfl⟩) rfl (Nat.le_of_ble_eq_true rfl) hD1) ?_
  refine gm_gat (gm_aload_n dL_law_1470 rfl (by first | exact Or.inl ⟨_, rfl⟩ | exact Or.inr ⟨_, rfl⟩)) ?_
  refine gm_gat (gm_cV dL_law_1471 (c2) rfl mt_X11_leastDifference mv_X11_leastDifference (lk_L_223 hx) (Or.inl ⟨_, 12, _, _, _, rfl, hM1, rfl⟩) rfl (Nat.le_of_ble_eq_true rfl) hD2) ?_
  refine gm_gat (gi_icmp_eq_t (tgt := 2513) dL_law_1474 (by decide) hb hb rfl) ?_
  exact gm_goG_rf
set_option maxRecDepth 4000 in
theorem lw_leastDifferenceByOrder {G : gm_G} {x : MethodName} {r : Option FieldType × List (Nat × Nat × Nat × Nat)} (hx : x.cls = RL) {n : Nat} {i : Int} {x6 x7 x8 : Option Value} {h h2 : gm_H} {b : Int} (hb : zR b) (H : LQ h h2 n mX10_leastDifferenceByOrder mX11_leastDifferenceByOrder (.int (zI b))) : gm_goG G (lM x r) 14 (1479, [some (.retAddr 999), some (.ref n), some (.ref (n + 113)), some (.ref (n + 126)), some (.ref (n + 127)), some (.int (zI i)), x6, x7, x8], [], h) (2513, [some (.retAddr 999), some (.ref n), some (.ref (n + 113)), some (.ref (n + 126)), some (.ref (n + 127)), some (.int (zI i)), x6, x7, x8], [], h2) := by
  obtain ⟨h1, s, e, f, K1, D1, D2, hD1, hD2, hB, c1, hM1, c2⟩ := H
  refine gm_gat (gm_aload_n dL_law_1479 rfl (by first | exact Or.inl ⟨_, rfl⟩ | exact Or.inr ⟨_, rfl⟩)) ?_
  refine gm_gat (gm_cV dL_law_1480 (c1) rfl mt_X10_leastDifferenceByOrder mv_X10_leastDifferenceByOrder (lk_L_224 hx) (Or.inl ⟨_, 11, _, _, _, rfl, hB, rfl⟩) rfl (Nat.le_of_ble_eq_true rfl) hD1) ?_
  refine gm_gat (gm_aload_n dL_law_1483 rfl (by first | exact Or.inl ⟨_, rfl⟩ | exact Or.inr ⟨_, rfl⟩)) ?_
  refine gm_gat (gm_cV dL_law_1484 (c2) rfl mt_X11_leastDifferenceByOrder mv_X11_leastDifferenceByOrder (lk_L_227 hx) (Or.inl ⟨_, 12, _, _, _, rfl, hM1, rfl⟩) rfl (Nat.le_of_ble_eq_true rfl) hD2) ?_
  refine gm_gat (gi_icmp_eq_t (tgt := 2513) dL_law_1487 (by decide) hb hb rfl) ?_
  exact gm_goG_rf
set_option maxRecDepth 4000 in
theorem lw_partnerOf {G : gm_G} {x : MethodName} {r : Option FieldType × List (Nat × Nat × Nat × Nat)} (hx : x.cls = RL) {n : Nat} {i : Int} {x6 x7 x8 : Option Value} {h h2 : gm_H} {b : Int} (hb : zR b) {k : Int} (hi : 0 ≤ i) (hi4 : i + 4 ≤ gm_L G) (hL : gm_L G ≤ 2048) (H : LH h h2 n mL_partnerOf [.ref n, .int (zI (gx G (i + 1))), .ref (n + 126)] mX11_partnerOf [.ref (n + 113), .int (zI (gx G (i + 1)))] k (.int (zI b))) (ho : k = 0 → ∃ g, h2.1[n + 126]? = some (gLo g) ∧ g 0 = zL b) : gm_goG G (lM x r) 14 (1492, [some (.retAddr 999), some (.ref n), some (.ref (n + 113)), some (.ref (n + 126)), some (.ref (n + 127)), some (.int (zI i)), x6, x7, x8], [], h) (2513, [some (.retAddr 999), some (.ref n), some (.ref (n + 113)), some (.ref (n + 126)), some (.ref (n + 127)), some (.int (zI i)), (some (.int (zI k))), (some (.int (zI b))), x8], [], h2) := by
  obtain ⟨h1, K1, K2, D, D0, hD, hD0, c1, hM1, c2, hM2, rfl, hk⟩ := H
  refine gm_gat (gm_aload_n dL_law_1492 rfl (by first | exact Or.inl ⟨_, rfl⟩ | exact Or.inr ⟨_, rfl⟩)) ?_
  refine gm_gat (gm_aload_n dL_law_1493 rfl (by first | exact Or.inl ⟨_, rfl⟩ | exact Or.inr ⟨_, rfl⟩)) ?_
  refine gm_gat (gm_iload dL_law_1494 rfl) ?_
  refine gm_gat (gi_const dL_law_1496) ?_
  refine gm_gat (gi_add dL_law_1497) ?_
  refine gm_goG_tr (gi_sld dL_law_1498 (by omega) (by omega) hL) ?_
  refine gm_gat (gm_aload_n dL_law_1499 rfl (by first | exact Or.inl ⟨_, rfl⟩ | exact Or.inr ⟨_, rfl⟩)) ?_
  refine gm_gat (gm_cX dL_law_1500 (c1) rfl mx_L_partnerOf ms_L_partnerOf (ll_L_228 hx) rfl (Nat.le_of_ble_eq_true rfl) hD0) ?_
  refine gm_gat (gm_istore (ls' := [_, _, _, _, _, _, _, _, _]) dL_law_1503 (Nat.le_of_ble_eq_true rfl) rfl) ?_
  refine gm_gat (gm_aload_n dL_law_1505 rfl (by first | exact Or.inl ⟨_, rfl⟩ | exact Or.inr ⟨_, rfl⟩)) ?_
  refine gm_gat (gm_aload_n dL_law_1506 rfl (by first | exact Or.inl ⟨_, rfl⟩ | exact Or.inr ⟨_, rfl⟩)) ?_
  refine gm_gat (gm_iload dL_law_1507 rfl) ?_
  refine gm_gat (gi_const dL_law_1509) ?_
  refine gm_gat (gi_add dL_law_1510) ?_
  refine gm_goG_tr (gi_sld dL_law_1511 (by omega) (by omega) hL) ?_
  refine gm_gat (gm_cV dL_law_1512 (c2) rfl mt_X11_partnerOf mv_X11_partnerOf (lk_L_230 hx) (Or.inl ⟨_, 12, _, _, _, rfl, hM1, rfl⟩) rfl (Nat.le_of_ble_eq_true rfl) hD) ?_
  refine gm_gat (gm_istore (ls' := [_, _, _, _, _, _, _, _, _]) dL_law_1515 (Nat.le_of_ble_eq_true rfl) rfl) ?_
  refine gm_gat (gm_aload_n dL_law_1517 rfl (by first | exact Or.inl ⟨_, rfl⟩ | exact Or.inr ⟨_, rfl⟩)) ?_
  refine gm_gat (gm_cV dL_law_1518 ((ct_mThrown hM2)) rfl mt_X11_thrown mv_X11_thrown (lk_L_148 hx) (Or.inl ⟨_, 12, _, _, _, rfl, hM2, rfl⟩) rfl (Nat.le_of_ble_eq_true rfl) (by decide)) ?_
  refine gm_gat (gm_iload dL_law_1521 rfl) ?_
  refine gm_gat (gi_icmp_eq_t (tgt := 1528) dL_law_1523 (by decide) hk hk rfl) ?_
  refine gm_gat (gm_iload dL_law_1528 rfl) ?_
  by_cases h0 : K2 0 = 0
  ·
    obtain ⟨g, o1, o2⟩ := ho h0
    refine gm_gat (gi_if_ne_f 1545 dL_law_1530 (by decide) hk h0) ?_
    refine gm_gat (gm_aload_n dL_law_1533 rfl (by first | exact Or.inl ⟨_, rfl⟩ | exact Or.inr ⟨_, rfl⟩)) ?_
    refine gm_gat (gi_const dL_law_1534) ?_
    refine gm_gat (gm_lald dL_law_1535 o1 z_0in) ?_
    rw [z_0cl, o2]
    refine gm_gat (gm_iload dL_law_1536 rfl) ?_
    refine gm_gat (gi_i2l dL_law_1538 hb) ?_
    refine gm_gat (gm_lcmp dL_law_1539) ?_
    refine gm_gat (gm_if_eq_t (tgt := 1545) dL_law_1540 (by decide) (lg_self _)) ?_
    refine gm_gat (gm_goto (tgt := 2513) dL_law_1545 (by decide)) ?_
    exact gm_goG_rf
  ·
    refine gm_gat (gi_if_ne_t (tgt := 1545) dL_law_1530 (by decide) hk h0) ?_
    refine gm_gat (gm_goto (tgt := 2513) dL_law_1545 (by decide)) ?_
    exact gm_goG_rf
set_option maxRecDepth 4000 in
theorem lw_addBatch {G : gm_G} {x : MethodName} {r : Option FieldType × List (Nat × Nat × Nat × Nat)} (hx : x.cls = RL) {n : Nat} {i : Int} {x6 x7 x8 : Option Value} {h h2 : gm_H} {b : Int} (hb : zR b) {k : Int} (hi : 0 ≤ i) (hi4 : i + 4 ≤ gm_L G) (hL : gm_L G ≤ 2048) (H : LH h h2 n mL_addBatch [.ref n, .int (zI (gx G (i + 1))), .int (zI (gx G (i + 2))), .int (zI (gx G (i + 3))), .ref (n + 126)] mX11_addBatch [.ref (n + 113), .int (zI (gx G (i + 1))), .int (zI (gx G (i + 2))), .int (zI (gx G (i + 3)))] k (.int (zI b))) (ho : k = 0 → ∃ g, h2.1[n + 126]? = some (gLo g) ∧ g 0 = zL b) : gm_goG G (lM x r) 14 (1548, [some (.retAddr 999), some (.ref n), some (.ref (n + 113)), some (.ref (n + 126)), some (.ref (n + 127)), some (.int (zI i)), x6, x7, x8], [], h) (2513, [some (.retAddr 999), some (.ref n), some (.ref (n + 113)), some (.ref (n + 126)), some (.ref (n + 127)), some (.int (zI i)), (some (.int (zI k))), (some (.int (zI b))), x8], [], h2) := by
  obtain ⟨h1, K1, K2, D, D0, hD, hD0, c1, hM1, c2, hM2, rfl, hk⟩ := H
  refine gm_gat (gm_aload_n dL_law_1548 rfl (by first | exact Or.inl ⟨_, rfl⟩ | exact Or.inr ⟨_, rfl⟩)) ?_
  refine gm_gat (gm_aload_n dL_law_1549 rfl (by first | exact Or.inl ⟨_, rfl⟩ | exact Or.inr ⟨_, rfl⟩)) ?_
  refine gm_gat (gm_iload dL_law_1550 rfl) ?_
  refine gm_gat (gi_const dL_law_1552) ?_
  refine gm_gat (gi_add dL_law_1553) ?_
  refine gm_goG_tr (gi_sld dL_law_1554 (by omega) (by omega) hL) ?_
  refine gm_gat (gm_aload_n dL_law_1555 rfl (by first | exact Or.inl ⟨_, rfl⟩ | exact Or.inr ⟨_, rfl⟩)) ?_
  refine gm_gat (gm_iload dL_law_1556 rfl) ?_
  refine gm_gat (gi_const dL_law_1558) ?_
  refine gm_gat (gi_add dL_law_1559) ?_
  refine gm_goG_tr (gi_sld dL_law_1560 (by omega) (by omega) hL) ?_
  refine gm_gat (gm_aload_n dL_law_1561 rfl (by first | exact Or.inl ⟨_, rfl⟩ | exact Or.inr ⟨_, rfl⟩)) ?_
  refine gm_gat (gm_iload dL_law_1562 rfl) ?_
  refine gm_gat (gi_const dL_law_1564) ?_
  refine gm_gat (gi_add dL_law_1565) ?_
  refine gm_goG_tr (gi_sld dL_law_1566 (by omega) (by omega) hL) ?_
  refine gm_gat (gm_aload_n dL_law_1567 rfl (by first | exact Or.inl ⟨_, rfl⟩ | exact Or.inr ⟨_, rfl⟩)) ?_
  refine gm_gat (gm_cX dL_law_1568 (c1) rfl mx_L_addBatch ms_L_addBatch (ll_L_231 hx) rfl (Nat.le_of_ble_eq_true rfl) hD0) ?_
  refine gm_gat (gm_istore (ls' := [_, _, _, _, _, _, _, _, _]) dL_law_1571 (Nat.le_of_ble_eq_true rfl) rfl) ?_
  refine gm_gat (gm_aload_n dL_law_1573 rfl (by first | exact Or.inl ⟨_, rfl⟩ | exact Or.inr ⟨_, rfl⟩)) ?_
  refine gm_gat (gm_aload_n dL_law_1574 rfl (by first | exact Or.inl ⟨_, rfl⟩ | exact Or.inr ⟨_, rfl⟩)) ?_
  refine gm_gat (gm_iload dL_law_1575 rfl) ?_
  refine gm_gat (gi_const dL_law_1577) ?_
  refine gm_gat (gi_add dL_law_1578) ?_
  refine gm_goG_tr (gi_sld dL_law_1579 (by omega) (by omega) hL) ?_
  refine gm_gat (gm_aload_n dL_law_1580 rfl (by first | exact Or.inl ⟨_, rfl⟩ | exact Or.inr ⟨_, rfl⟩)) ?_
  refine gm_gat (gm_iload dL_law_1581 rfl) ?_
  refine gm_gat (gi_const dL_law_1583) ?_
  refine gm_gat (gi_add dL_law_1584) ?_
  refine gm_goG_tr (gi_sld dL_law_1585 (by omega) (by omega) hL) ?_
  refine gm_gat (gm_aload_n dL_law_1586 rfl (by first | exact Or.inl ⟨_, rfl⟩ | exact Or.inr ⟨_, rfl⟩)) ?_
  refine gm_gat (gm_iload dL_law_1587 rfl) ?_
  refine gm_gat (gi_const dL_law_1589) ?_
  refine gm_gat (gi_add dL_law_1590) ?_
  refine gm_goG_tr (gi_sld dL_law_1591 (by omega) (by omega) hL) ?_
  refine gm_gat (gm_cV dL_law_1592 (c2) rfl mt_X11_addBatch mv_X11_addBatch (lk_L_233 hx) (Or.inl ⟨_, 12, _, _, _, rfl, hM1, rfl⟩) rfl (Nat.le_of_ble_eq_true rfl) hD) ?_
  refine gm_gat (gm_istore (ls' := [_, _, _, _, _, _, _, _, _]) dL_law_1595 (Nat.le_of_ble_eq_true rfl) rfl) ?_
  refine gm_gat (gm_aload_n dL_law_1597 rfl (by first | exact Or.inl ⟨_, rfl⟩ | exact Or.inr ⟨_, rfl⟩)) ?_
  refine gm_gat (gm_cV dL_law_1598 ((ct_mThrown hM2)) rfl mt_X11_thrown mv_X11_thrown (lk_L_148 hx) (Or.inl ⟨_, 12, _, _, _, rfl, hM2, rfl⟩) rfl (Nat.le_of_ble_eq_true rfl) (by decide)) ?_
  refine gm_gat (gm_iload dL_law_1601 rfl) ?_
  refine gm_gat (gi_icmp_eq_t (tgt := 1608) dL_law_1603 (by decide) hk hk rfl) ?_
  refine gm_gat (gm_iload dL_law_1608 rfl) ?_
  by_cases h0 : K2 0 = 0
  ·
    obtain ⟨g, o1, o2⟩ := ho h0
    refine gm_gat (gi_if_ne_f 1625 dL_law_1610 (by decide) hk h0) ?_
    refine gm_gat (gm_aload_n dL_law_1613 rfl (by first | exact Or.inl ⟨_, rfl⟩ | exact Or.inr ⟨_, rfl⟩)) ?_
    refine gm_gat (gi_const dL_law_1614) ?_
    refine gm_gat (gm_lald dL_law_1615 o1 z_0in) ?_
    rw [z_0cl, o2]
    refine gm_gat (gm_iload dL_law_1616 rfl) ?_
    refine gm_gat (gi_i2l dL_law_1618 hb) ?_
    refine gm_gat (gm_lcmp dL_law_1619) ?_
    refine gm_gat (gm_if_eq_t (tgt := 1625) dL_law_1620 (by decide) (lg_self _)) ?_
    refine gm_gat (gm_goto (tgt := 2513) dL_law_1625 (by decide)) ?_
    exact gm_goG_rf
  ·
    refine gm_gat (gi_if_ne_t (tgt := 1625) dL_law_1610 (by decide) hk h0) ?_
    refine gm_gat (gm_goto (tgt := 2513) dL_law_1625 (by decide)) ?_
    exact gm_goG_rf
set_option maxRecDepth 4000 in
theorem lw_dropBatch {G : gm_G} {x : MethodName} {r : Option FieldType × List (Nat × Nat × Nat × Nat)} (hx : x.cls = RL) {n : Nat} {i : Int} {x6 x7 x8 : Option Value} {h h2 : gm_H} {b : Int} (hb : zR b) {k : Int} (hi : 0 ≤ i) (hi4 : i + 4 ≤ gm_L G) (hL : gm_L G ≤ 2048) (H : LH h h2 n mL_dropBatch [.ref n, .int (zI (gx G (i + 1))), .ref (n + 126)] mX11_dropBatch [.ref (n + 113), .int (zI (gx G (i + 1)))] k (.int (zI b))) (ho : k = 0 → ∃ g, h2.1[n + 126]? = some (gLo g) ∧ g 0 = zL b) : gm_goG G (lM x r) 14 (1628, [some (.retAddr 999), some (.ref n), some (.ref (n + 113)), some (.ref (n + 126)), some (.ref (n + 127)), some (.int (zI i)), x6, x7, x8], [], h) (2513, [some (.retAddr 999), some (.ref n), some (.ref (n + 113)), some (.ref (n + 126)), some (.ref (n + 127)), some (.int (zI i)), (some (.int (zI k))), (some (.int (zI b))), x8], [], h2) := by
  obtain ⟨h1, K1, K2, D, D0, hD, hD0, c1, hM1, c2, hM2, rfl, hk⟩ := H
  refine gm_gat (gm_aload_n dL_law_1628 rfl (by first | exact Or.inl ⟨_, rfl⟩ | exact Or.inr ⟨_, rfl⟩)) ?_
  refine gm_gat (gm_aload_n dL_law_1629 rfl (by first | exact Or.inl ⟨_, rfl⟩ | exact Or.inr ⟨_, rfl⟩)) ?_
  refine gm_gat (gm_iload dL_law_1630 rfl) ?_
  refine gm_gat (gi_const dL_law_1632) ?_
  refine gm_gat (gi_add dL_law_1633) ?_
  refine gm_goG_tr (gi_sld dL_law_1634 (by omega) (by omega) hL) ?_
  refine gm_gat (gm_aload_n dL_law_1635 rfl (by first | exact Or.inl ⟨_, rfl⟩ | exact Or.inr ⟨_, rfl⟩)) ?_
  refine gm_gat (gm_cX dL_law_1636 (c1) rfl mx_L_dropBatch ms_L_dropBatch (ll_L_234 hx) rfl (Nat.le_of_ble_eq_true rfl) hD0) ?_
  refine gm_gat (gm_istore (ls' := [_, _, _, _, _, _, _, _, _]) dL_law_1639 (Nat.le_of_ble_eq_true rfl) rfl) ?_
  refine gm_gat (gm_aload_n dL_law_1641 rfl (by first | exact Or.inl ⟨_, rfl⟩ | exact Or.inr ⟨_, rfl⟩)) ?_
  refine gm_gat (gm_aload_n dL_law_1642 rfl (by first | exact Or.inl ⟨_, rfl⟩ | exact Or.inr ⟨_, rfl⟩)) ?_
  refine gm_gat (gm_iload dL_law_1643 rfl) ?_
  refine gm_gat (gi_const dL_law_1645) ?_
  refine gm_gat (gi_add dL_law_1646) ?_
  refine gm_goG_tr (gi_sld dL_law_1647 (by omega) (by omega) hL) ?_
  refine gm_gat (gm_cV dL_law_1648 (c2) rfl mt_X11_dropBatch mv_X11_dropBatch (lk_L_236 hx) (Or.inl ⟨_, 12, _, _, _, rfl, hM1, rfl⟩) rfl (Nat.le_of_ble_eq_true rfl) hD) ?_
  refine gm_gat (gm_istore (ls' := [_, _, _, _, _, _, _, _, _]) dL_law_1651 (Nat.le_of_ble_eq_true rfl) rfl) ?_
  refine gm_gat (gm_aload_n dL_law_1653 rfl (by first | exact Or.inl ⟨_, rfl⟩ | exact Or.inr ⟨_, rfl⟩)) ?_
  refine gm_gat (gm_cV dL_law_1654 ((ct_mThrown hM2)) rfl mt_X11_thrown mv_X11_thrown (lk_L_148 hx) (Or.inl ⟨_, 12, _, _, _, rfl, hM2, rfl⟩) rfl (Nat.le_of_ble_eq_true rfl) (by decide)) ?_
  refine gm_gat (gm_iload dL_law_1657 rfl) ?_
  refine gm_gat (gi_icmp_eq_t (tgt := 1664) dL_law_1659 (by decide) hk hk rfl) ?_
  refine gm_gat (gm_iload dL_law_1664 rfl) ?_
  by_cases h0 : K2 0 = 0
  ·
    obtain ⟨g, o1, o2⟩ := ho h0
    refine gm_gat (gi_if_ne_f 1681 dL_law_1666 (by decide) hk h0) ?_
    refine gm_gat (gm_aload_n dL_law_1669 rfl (by first | exact Or.inl ⟨_, rfl⟩ | exact Or.inr ⟨_, rfl⟩)) ?_
    refine gm_gat (gi_const dL_law_1670) ?_
    refine gm_gat (gm_lald dL_law_1671 o1 z_0in) ?_
    rw [z_0cl, o2]
    refine gm_gat (gm_iload dL_law_1672 rfl) ?_
    refine gm_gat (gi_i2l dL_law_1674 hb) ?_
    refine gm_gat (gm_lcmp dL_law_1675) ?_
    refine gm_gat (gm_if_eq_t (tgt := 1681) dL_law_1676 (by decide) (lg_self _)) ?_
    refine gm_gat (gm_goto (tgt := 2513) dL_law_1681 (by decide)) ?_
    exact gm_goG_rf
  ·
    refine gm_gat (gi_if_ne_t (tgt := 1681) dL_law_1666 (by decide) hk h0) ?_
    refine gm_gat (gm_goto (tgt := 2513) dL_law_1681 (by decide)) ?_
    exact gm_goG_rf
set_option maxRecDepth 4000 in
theorem lw_bake {G : gm_G} {x : MethodName} {r : Option FieldType × List (Nat × Nat × Nat × Nat)} (hx : x.cls = RL) {n : Nat} {i : Int} {x6 x7 x8 : Option Value} {h h2 : gm_H} {b : Int} (hb : zR b) {k : Int} (hi : 0 ≤ i) (hi4 : i + 4 ≤ gm_L G) (hL : gm_L G ≤ 2048) (H : LH h h2 n mL_bake [.ref n, .int (zI (gx G (i + 1))), .ref (n + 126)] mX11_bake [.ref (n + 113), .int (zI (gx G (i + 1)))] k (.int (zI b))) (ho : k = 0 → ∃ g, h2.1[n + 126]? = some (gLo g) ∧ g 0 = zL b) : gm_goG G (lM x r) 14 (1684, [some (.retAddr 999), some (.ref n), some (.ref (n + 113)), some (.ref (n + 126)), some (.ref (n + 127)), some (.int (zI i)), x6, x7, x8], [], h) (2513, [some (.retAddr 999), some (.ref n), some (.ref (n + 113)), some (.ref (n + 126)), some (.ref (n + 127)), some (.int (zI i)), (some (.int (zI k))), (some (.int (zI b))), x8], [], h2) := by
  obtain ⟨h1, K1, K2, D, D0, hD, hD0, c1, hM1, c2, hM2, rfl, hk⟩ := H
  refine gm_gat (gm_aload_n dL_law_1684 rfl (by first | exact Or.inl ⟨_, rfl⟩ | exact Or.inr ⟨_, rfl⟩)) ?_
  refine gm_gat (gm_aload_n dL_law_1685 rfl (by first | exact Or.inl ⟨_, rfl⟩ | exact Or.inr ⟨_, rfl⟩)) ?_
  refine gm_gat (gm_iload dL_law_1686 rfl) ?_
  refine gm_gat (gi_const dL_law_1688) ?_
  refine gm_gat (gi_add dL_law_1689) ?_
  refine gm_goG_tr (gi_sld dL_law_1690 (by omega) (by omega) hL) ?_
  refine gm_gat (gm_aload_n dL_law_1691 rfl (by first | exact Or.inl ⟨_, rfl⟩ | exact Or.inr ⟨_, rfl⟩)) ?_
  refine gm_gat (gm_cX dL_law_1692 (c1) rfl mx_L_bake ms_L_bake (ll_L_237 hx) rfl (Nat.le_of_ble_eq_true rfl) hD0) ?_
  refine gm_gat (gm_istore (ls' := [_, _, _, _, _, _, _, _, _]) dL_law_1695 (Nat.le_of_ble_eq_true rfl) rfl) ?_
  refine gm_gat (gm_aload_n dL_law_1697 rfl (by first | exact Or.inl ⟨_, rfl⟩ | exact Or.inr ⟨_, rfl⟩)) ?_
  refine gm_gat (gm_aload_n dL_law_1698 rfl (by first | exact Or.inl ⟨_, rfl⟩ | exact Or.inr ⟨_, rfl⟩)) ?_
  refine gm_gat (gm_iload dL_law_1699 rfl) ?_
  refine gm_gat (gi_const dL_law_1701) ?_
  refine gm_gat (gi_add dL_law_1702) ?_
  refine gm_goG_tr (gi_sld dL_law_1703 (by omega) (by omega) hL) ?_
  refine gm_gat (gm_cV dL_law_1704 (c2) rfl mt_X11_bake mv_X11_bake (lk_L_239 hx) (Or.inl ⟨_, 12, _, _, _, rfl, hM1, rfl⟩) rfl (Nat.le_of_ble_eq_true rfl) hD) ?_
  refine gm_gat (gm_istore (ls' := [_, _, _, _, _, _, _, _, _]) dL_law_1707 (Nat.le_of_ble_eq_true rfl) rfl) ?_
  refine gm_gat (gm_aload_n dL_law_1709 rfl (by first | exact Or.inl ⟨_, rfl⟩ | exact Or.inr ⟨_, rfl⟩)) ?_
  refine gm_gat (gm_cV dL_law_1710 ((ct_mThrown hM2)) rfl mt_X11_thrown mv_X11_thrown (lk_L_148 hx) (Or.inl ⟨_, 12, _, _, _, rfl, hM2, rfl⟩) rfl (Nat.le_of_ble_eq_true rfl) (by decide)) ?_
  refine gm_gat (gm_iload dL_law_1713 rfl) ?_
  refine gm_gat (gi_icmp_eq_t (tgt := 1720) dL_law_1715 (by decide) hk hk rfl) ?_
  refine gm_gat (gm_iload dL_law_1720 rfl) ?_
  by_cases h0 : K2 0 = 0
  ·
    obtain ⟨g, o1, o2⟩ := ho h0
    refine gm_gat (gi_if_ne_f 1737 dL_law_1722 (by decide) hk h0) ?_
    refine gm_gat (gm_aload_n dL_law_1725 rfl (by first | exact Or.inl ⟨_, rfl⟩ | exact Or.inr ⟨_, rfl⟩)) ?_
    refine gm_gat (gi_const dL_law_1726) ?_
    refine gm_gat (gm_lald dL_law_1727 o1 z_0in) ?_
    rw [z_0cl, o2]
    refine gm_gat (gm_iload dL_law_1728 rfl) ?_
    refine gm_gat (gi_i2l dL_law_1730 hb) ?_
    refine gm_gat (gm_lcmp dL_law_1731) ?_
    refine gm_gat (gm_if_eq_t (tgt := 1737) dL_law_1732 (by decide) (lg_self _)) ?_
    refine gm_gat (gm_goto (tgt := 2513) dL_law_1737 (by decide)) ?_
    exact gm_goG_rf
  ·
    refine gm_gat (gi_if_ne_t (tgt := 1737) dL_law_1722 (by decide) hk h0) ?_
    refine gm_gat (gm_goto (tgt := 2513) dL_law_1737 (by decide)) ?_
    exact gm_goG_rf
set_option maxRecDepth 4000 in
theorem lw_rest {G : gm_G} {x : MethodName} {r : Option FieldType × List (Nat × Nat × Nat × Nat)} (hx : x.cls = RL) {n : Nat} {i : Int} {x6 x7 x8 : Option Value} {h h2 : gm_H} {b : Int} (hb : zR b) {k : Int} (hi : 0 ≤ i) (hi4 : i + 4 ≤ gm_L G) (hL : gm_L G ≤ 2048) (H : LH h h2 n mL_rest [.ref n, .int (zI (gx G (i + 1))), .ref (n + 126)] mX11_rest [.ref (n + 113), .int (zI (gx G (i + 1)))] k (.int (zI b))) (ho : k = 0 → ∃ g, h2.1[n + 126]? = some (gLo g) ∧ g 0 = zL b) : gm_goG G (lM x r) 14 (1740, [some (.retAddr 999), some (.ref n), some (.ref (n + 113)), some (.ref (n + 126)), some (.ref (n + 127)), some (.int (zI i)), x6, x7, x8], [], h) (2513, [some (.retAddr 999), some (.ref n), some (.ref (n + 113)), some (.ref (n + 126)), some (.ref (n + 127)), some (.int (zI i)), (some (.int (zI k))), (some (.int (zI b))), x8], [], h2) := by
  obtain ⟨h1, K1, K2, D, D0, hD, hD0, c1, hM1, c2, hM2, rfl, hk⟩ := H
  refine gm_gat (gm_aload_n dL_law_1740 rfl (by first | exact Or.inl ⟨_, rfl⟩ | exact Or.inr ⟨_, rfl⟩)) ?_
  refine gm_gat (gm_aload_n dL_law_1741 rfl (by first | exact Or.inl ⟨_, rfl⟩ | exact Or.inr ⟨_, rfl⟩)) ?_
  refine gm_gat (gm_iload dL_law_1742 rfl) ?_
  refine gm_gat (gi_const dL_law_1744) ?_
  refine gm_gat (gi_add dL_law_1745) ?_
  refine gm_goG_tr (gi_sld dL_law_1746 (by omega) (by omega) hL) ?_
  refine gm_gat (gm_aload_n dL_law_1747 rfl (by first | exact Or.inl ⟨_, rfl⟩ | exact Or.inr ⟨_, rfl⟩)) ?_
  refine gm_gat (gm_cX dL_law_1748 (c1) rfl mx_L_rest ms_L_rest (ll_L_240 hx) rfl (Nat.le_of_ble_eq_true rfl) hD0) ?_
  refine gm_gat (gm_istore (ls' := [_, _, _, _, _, _, _, _, _]) dL_law_1751 (Nat.le_of_ble_eq_true rfl) rfl) ?_
  refine gm_gat (gm_aload_n dL_law_1753 rfl (by first | exact Or.inl ⟨_, rfl⟩ | exact Or.inr ⟨_, rfl⟩)) ?_
  refine gm_gat (gm_aload_n dL_law_1754 rfl (by first | exact Or.inl ⟨_, rfl⟩ | exact Or.inr ⟨_, rfl⟩)) ?_
  refine gm_gat (gm_iload dL_law_1755 rfl) ?_
  refine gm_gat (gi_const dL_law_1757) ?_
  refine gm_gat (gi_add dL_law_1758) ?_
  refine gm_goG_tr (gi_sld dL_law_1759 (by omega) (by omega) hL) ?_
  refine gm_gat (gm_cV dL_law_1760 (c2) rfl mt_X11_rest mv_X11_rest (lk_L_242 hx) (Or.inl ⟨_, 12, _, _, _, rfl, hM1, rfl⟩) rfl (Nat.le_of_ble_eq_true rfl) hD) ?_
  refine gm_gat (gm_istore (ls' := [_, _, _, _, _, _, _, _, _]) dL_law_1763 (Nat.le_of_ble_eq_true rfl) rfl) ?_
  refine gm_gat (gm_aload_n dL_law_1765 rfl (by first | exact Or.inl ⟨_, rfl⟩ | exact Or.inr ⟨_, rfl⟩)) ?_
  refine gm_gat (gm_cV dL_law_1766 ((ct_mThrown hM2)) rfl mt_X11_thrown mv_X11_thrown (lk_L_148 hx) (Or.inl ⟨_, 12, _, _, _, rfl, hM2, rfl⟩) rfl (Nat.le_of_ble_eq_true rfl) (by decide)) ?_
  refine gm_gat (gm_iload dL_law_1769 rfl) ?_
  refine gm_gat (gi_icmp_eq_t (tgt := 1776) dL_law_1771 (by decide) hk hk rfl) ?_
  refine gm_gat (gm_iload dL_law_1776 rfl) ?_
  by_cases h0 : K2 0 = 0
  ·
    obtain ⟨g, o1, o2⟩ := ho h0
    refine gm_gat (gi_if_ne_f 1793 dL_law_1778 (by decide) hk h0) ?_
    refine gm_gat (gm_aload_n dL_law_1781 rfl (by first | exact Or.inl ⟨_, rfl⟩ | exact Or.inr ⟨_, rfl⟩)) ?_
    refine gm_gat (gi_const dL_law_1782) ?_
    refine gm_gat (gm_lald dL_law_1783 o1 z_0in) ?_
    rw [z_0cl, o2]
    refine gm_gat (gm_iload dL_law_1784 rfl) ?_
    refine gm_gat (gi_i2l dL_law_1786 hb) ?_
    refine gm_gat (gm_lcmp dL_law_1787) ?_
    refine gm_gat (gm_if_eq_t (tgt := 1793) dL_law_1788 (by decide) (lg_self _)) ?_
    refine gm_gat (gm_goto (tgt := 2513) dL_law_1793 (by decide)) ?_
    exact gm_goG_rf
  ·
    refine gm_gat (gi_if_ne_t (tgt := 1793) dL_law_1778 (by decide) hk h0) ?_
    refine gm_gat (gm_goto (tgt := 2513) dL_law_1793 (by decide)) ?_
    exact gm_goG_rf
set_option maxRecDepth 4000 in
theorem lw_clock {G : gm_G} {x : MethodName} {r : Option FieldType × List (Nat × Nat × Nat × Nat)} (hx : x.cls = RL) {n : Nat} {i : Int} {x6 x7 x8 : Option Value} {h h2 : gm_H} {b : Int} (hb : zR b) (H : LQ h h2 n mX10_clock mX11_clock (.int (zI b))) : gm_goG G (lM x r) 14 (1796, [some (.retAddr 999), some (.ref n), some (.ref (n + 113)), some (.ref (n + 126)), some (.ref (n + 127)), some (.int (zI i)), x6, x7, x8], [], h) (2513, [some (.retAddr 999), some (.ref n), some (.ref (n + 113)), some (.ref (n + 126)), some (.ref (n + 127)), some (.int (zI i)), x6, x7, x8], [], h2) := by
  obtain ⟨h1, s, e, f, K1, D1, D2, hD1, hD2, hB, c1, hM1, c2⟩ := H
  refine gm_gat (gm_aload_n dL_law_1796 rfl (by first | exact Or.inl ⟨_, rfl⟩ | exact Or.inr ⟨_, rfl⟩)) ?_
  refine gm_gat (gm_cV dL_law_1797 (c1) rfl mt_X10_clock mv_X10_clock (lk_L_243 hx) (Or.inl ⟨_, 11, _, _, _, rfl, hB, rfl⟩) rfl (Nat.le_of_ble_eq_true rfl) hD1) ?_
  refine gm_gat (gm_aload_n dL_law_1800 rfl (by first | exact Or.inl ⟨_, rfl⟩ | exact Or.inr ⟨_, rfl⟩)) ?_
  refine gm_gat (gm_cV dL_law_1801 (c2) rfl mt_X11_clock mv_X11_clock (lk_L_246 hx) (Or.inl ⟨_, 12, _, _, _, rfl, hM1, rfl⟩) rfl (Nat.le_of_ble_eq_true rfl) hD2) ?_
  refine gm_gat (gi_icmp_eq_t (tgt := 2513) dL_law_1804 (by decide) hb hb rfl) ?_
  exact gm_goG_rf
set_option maxRecDepth 4000 in
theorem lw_batchCount {G : gm_G} {x : MethodName} {r : Option FieldType × List (Nat × Nat × Nat × Nat)} (hx : x.cls = RL) {n : Nat} {i : Int} {x6 x7 x8 : Option Value} {h h2 : gm_H} {b : Int} (hb : zR b) (H : LQ h h2 n mX10_batchCount mX11_batchCount (.int (zI b))) : gm_goG G (lM x r) 14 (1809, [some (.retAddr 999), some (.ref n), some (.ref (n + 113)), some (.ref (n + 126)), some (.ref (n + 127)), some (.int (zI i)), x6, x7, x8], [], h) (2513, [some (.retAddr 999), some (.ref n), some (.ref (n + 113)), some (.ref (n + 126)), some (.ref (n + 127)), some (.int (zI i)), x6, x7, x8], [], h2) := by
  obtain ⟨h1, s, e, f, K1, D1, D2, hD1, hD2, hB, c1, hM1, c2⟩ := H
  refine gm_gat (gm_aload_n dL_law_1809 rfl (by first | exact Or.inl ⟨_, rfl⟩ | exact Or.inr ⟨_, rfl⟩)) ?_
  refine gm_gat (gm_cV dL_law_1810 (c1) rfl mt_X10_batchCount mv_X10_batchCount (lk_L_247 hx) (Or.inl ⟨_, 11, _, _, _, rfl, hB, rfl⟩) rfl (Nat.le_of_ble_eq_true rfl) hD1) ?_
  refine gm_gat (gm_aload_n dL_law_1813 rfl (by first | exact Or.inl ⟨_, rfl⟩ | exact Or.inr ⟨_, rfl⟩)) ?_
  refine gm_gat (gm_cV dL_law_1814 (c2) rfl mt_X11_batchCount mv_X11_batchCount (lk_L_250 hx) (Or.inl ⟨_, 12, _, _, _, rfl, hM1, rfl⟩) rfl (Nat.le_of_ble_eq_true rfl) hD2) ?_
  refine gm_gat (gi_icmp_eq_t (tgt := 2513) dL_law_1817 (by decide) hb hb rfl) ?_
  exact gm_goG_rf
set_option maxRecDepth 4000 in
theorem lw_batchAt {G : gm_G} {x : MethodName} {r : Option FieldType × List (Nat × Nat × Nat × Nat)} (hx : x.cls = RL) {n : Nat} {i : Int} {x6 x7 x8 : Option Value} {h h2 : gm_H} {b : Int} (hb : zR b) {k : Int} (hi : 0 ≤ i) (hi4 : i + 4 ≤ gm_L G) (hL : gm_L G ≤ 2048) (H : LH h h2 n mL_batchAt [.ref n, .int (zI (gx G (i + 1))), .ref (n + 126)] mX11_batchAt [.ref (n + 113), .int (zI (gx G (i + 1)))] k (.int (zI b))) (ho : k = 0 → ∃ g, h2.1[n + 126]? = some (gLo g) ∧ g 0 = zL b) : gm_goG G (lM x r) 14 (1822, [some (.retAddr 999), some (.ref n), some (.ref (n + 113)), some (.ref (n + 126)), some (.ref (n + 127)), some (.int (zI i)), x6, x7, x8], [], h) (2513, [some (.retAddr 999), some (.ref n), some (.ref (n + 113)), some (.ref (n + 126)), some (.ref (n + 127)), some (.int (zI i)), (some (.int (zI k))), (some (.int (zI b))), x8], [], h2) := by
  obtain ⟨h1, K1, K2, D, D0, hD, hD0, c1, hM1, c2, hM2, rfl, hk⟩ := H
  refine gm_gat (gm_aload_n dL_law_1822 rfl (by first | exact Or.inl ⟨_, rfl⟩ | exact Or.inr ⟨_, rfl⟩)) ?_
  refine gm_gat (gm_aload_n dL_law_1823 rfl (by first | exact Or.inl ⟨_, rfl⟩ | exact Or.inr ⟨_, rfl⟩)) ?_
  refine gm_gat (gm_iload dL_law_1824 rfl) ?_
  refine gm_gat (gi_const dL_law_1826) ?_
  refine gm_gat (gi_add dL_law_1827) ?_
  refine gm_goG_tr (gi_sld dL_law_1828 (by omega) (by omega) hL) ?_
  refine gm_gat (gm_aload_n dL_law_1829 rfl (by first | exact Or.inl ⟨_, rfl⟩ | exact Or.inr ⟨_, rfl⟩)) ?_
  refine gm_gat (gm_cX dL_law_1830 (c1) rfl mx_L_batchAt ms_L_batchAt (ll_L_251 hx) rfl (Nat.le_of_ble_eq_true rfl) hD0) ?_
  refine gm_gat (gm_istore (ls' := [_, _, _, _, _, _, _, _, _]) dL_law_1833 (Nat.le_of_ble_eq_true rfl) rfl) ?_
  refine gm_gat (gm_aload_n dL_law_1835 rfl (by first | exact Or.inl ⟨_, rfl⟩ | exact Or.inr ⟨_, rfl⟩)) ?_
  refine gm_gat (gm_aload_n dL_law_1836 rfl (by first | exact Or.inl ⟨_, rfl⟩ | exact Or.inr ⟨_, rfl⟩)) ?_
  refine gm_gat (gm_iload dL_law_1837 rfl) ?_
  refine gm_gat (gi_const dL_law_1839) ?_
  refine gm_gat (gi_add dL_law_1840) ?_
  refine gm_goG_tr (gi_sld dL_law_1841 (by omega) (by omega) hL) ?_
  refine gm_gat (gm_cV dL_law_1842 (c2) rfl mt_X11_batchAt mv_X11_batchAt (lk_L_253 hx) (Or.inl ⟨_, 12, _, _, _, rfl, hM1, rfl⟩) rfl (Nat.le_of_ble_eq_true rfl) hD) ?_
  refine gm_gat (gm_istore (ls' := [_, _, _, _, _, _, _, _, _]) dL_law_1845 (Nat.le_of_ble_eq_true rfl) rfl) ?_
  refine gm_gat (gm_aload_n dL_law_1847 rfl (by first | exact Or.inl ⟨_, rfl⟩ | exact Or.inr ⟨_, rfl⟩)) ?_
  refine gm_gat (gm_cV dL_law_1848 ((ct_mThrown hM2)) rfl mt_X11_thrown mv_X11_thrown (lk_L_148 hx) (Or.inl ⟨_, 12, _, _, _, rfl, hM2, rfl⟩) rfl (Nat.le_of_ble_eq_true rfl) (by decide)) ?_
  refine gm_gat (gm_iload dL_law_1851 rfl) ?_
  refine gm_gat (gi_icmp_eq_t (tgt := 1858) dL_law_1853 (by decide) hk hk rfl) ?_
  refine gm_gat (gm_iload dL_law_1858 rfl) ?_
  by_cases h0 : K2 0 = 0
  ·
    obtain ⟨g, o1, o2⟩ := ho h0
    refine gm_gat (gi_if_ne_f 1875 dL_law_1860 (by decide) hk h0) ?_
    refine gm_gat (gm_aload_n dL_law_1863 rfl (by first | exact Or.inl ⟨_, rfl⟩ | exact Or.inr ⟨_, rfl⟩)) ?_
    refine gm_gat (gi_const dL_law_1864) ?_
    refine gm_gat (gm_lald dL_law_1865 o1 z_0in) ?_
    rw [z_0cl, o2]
    refine gm_gat (gm_iload dL_law_1866 rfl) ?_
    refine gm_gat (gi_i2l dL_law_1868 hb) ?_
    refine gm_gat (gm_lcmp dL_law_1869) ?_
    refine gm_gat (gm_if_eq_t (tgt := 1875) dL_law_1870 (by decide) (lg_self _)) ?_
    refine gm_gat (gm_goto (tgt := 2513) dL_law_1875 (by decide)) ?_
    exact gm_goG_rf
  ·
    refine gm_gat (gi_if_ne_t (tgt := 1875) dL_law_1860 (by decide) hk h0) ?_
    refine gm_gat (gm_goto (tgt := 2513) dL_law_1875 (by decide)) ?_
    exact gm_goG_rf
set_option maxRecDepth 4000 in
theorem lw_latenessNow {G : gm_G} {x : MethodName} {r : Option FieldType × List (Nat × Nat × Nat × Nat)} (hx : x.cls = RL) {n : Nat} {i : Int} {x6 x7 x8 : Option Value} {h h2 : gm_H} {b : Int} (hb : zR b) {k : Int} (hi : 0 ≤ i) (hi4 : i + 4 ≤ gm_L G) (hL : gm_L G ≤ 2048) (H : LH h h2 n mL_latenessNow [.ref n, .int (zI (gx G (i + 1))), .ref (n + 126)] mX11_latenessNow [.ref (n + 113), .int (zI (gx G (i + 1)))] k (.int (zI b))) (ho : k = 0 → ∃ g, h2.1[n + 126]? = some (gLo g) ∧ g 0 = zL b) : gm_goG G (lM x r) 14 (1878, [some (.retAddr 999), some (.ref n), some (.ref (n + 113)), some (.ref (n + 126)), some (.ref (n + 127)), some (.int (zI i)), x6, x7, x8], [], h) (2513, [some (.retAddr 999), some (.ref n), some (.ref (n + 113)), some (.ref (n + 126)), some (.ref (n + 127)), some (.int (zI i)), (some (.int (zI k))), (some (.int (zI b))), x8], [], h2) := by
  obtain ⟨h1, K1, K2, D, D0, hD, hD0, c1, hM1, c2, hM2, rfl, hk⟩ := H
  refine gm_gat (gm_aload_n dL_law_1878 rfl (by first | exact Or.inl ⟨_, rfl⟩ | exact Or.inr ⟨_, rfl⟩)) ?_
  refine gm_gat (gm_aload_n dL_law_1879 rfl (by first | exact Or.inl ⟨_, rfl⟩ | exact Or.inr ⟨_, rfl⟩)) ?_
  refine gm_gat (gm_iload dL_law_1880 rfl) ?_
  refine gm_gat (gi_const dL_law_1882) ?_
  refine gm_gat (gi_add dL_law_1883) ?_
  refine gm_goG_tr (gi_sld dL_law_1884 (by omega) (by omega) hL) ?_
  refine gm_gat (gm_aload_n dL_law_1885 rfl (by first | exact Or.inl ⟨_, rfl⟩ | exact Or.inr ⟨_, rfl⟩)) ?_
  refine gm_gat (gm_cX dL_law_1886 (c1) rfl mx_L_latenessNow ms_L_latenessNow (ll_L_254 hx) rfl (Nat.le_of_ble_eq_true rfl) hD0) ?_
  refine gm_gat (gm_istore (ls' := [_, _, _, _, _, _, _, _, _]) dL_law_1889 (Nat.le_of_ble_eq_true rfl) rfl) ?_
  refine gm_gat (gm_aload_n dL_law_1891 rfl (by first | exact Or.inl ⟨_, rfl⟩ | exact Or.inr ⟨_, rfl⟩)) ?_
  refine gm_gat (gm_aload_n dL_law_1892 rfl (by first | exact Or.inl ⟨_, rfl⟩ | exact Or.inr ⟨_, rfl⟩)) ?_
  refine gm_gat (gm_iload dL_law_1893 rfl) ?_
  refine gm_gat (gi_const dL_law_1895) ?_
  refine gm_gat (gi_add dL_law_1896) ?_
  refine gm_goG_tr (gi_sld dL_law_1897 (by omega) (by omega) hL) ?_
  refine gm_gat (gm_cV dL_law_1898 (c2) rfl mt_X11_latenessNow mv_X11_latenessNow (lk_L_256 hx) (Or.inl ⟨_, 12, _, _, _, rfl, hM1, rfl⟩) rfl (Nat.le_of_ble_eq_true rfl) hD) ?_
  refine gm_gat (gm_istore (ls' := [_, _, _, _, _, _, _, _, _]) dL_law_1901 (Nat.le_of_ble_eq_true rfl) rfl) ?_
  refine gm_gat (gm_aload_n dL_law_1903 rfl (by first | exact Or.inl ⟨_, rfl⟩ | exact Or.inr ⟨_, rfl⟩)) ?_
  refine gm_gat (gm_cV dL_law_1904 ((ct_mThrown hM2)) rfl mt_X11_thrown mv_X11_thrown (lk_L_148 hx) (Or.inl ⟨_, 12, _, _, _, rfl, hM2, rfl⟩) rfl (Nat.le_of_ble_eq_true rfl) (by decide)) ?_
  refine gm_gat (gm_iload dL_law_1907 rfl) ?_
  refine gm_gat (gi_icmp_eq_t (tgt := 1914) dL_law_1909 (by decide) hk hk rfl) ?_
  refine gm_gat (gm_iload dL_law_1914 rfl) ?_
  by_cases h0 : K2 0 = 0
  ·
    obtain ⟨g, o1, o2⟩ := ho h0
    refine gm_gat (gi_if_ne_f 1931 dL_law_1916 (by decide) hk h0) ?_
    refine gm_gat (gm_aload_n dL_law_1919 rfl (by first | exact Or.inl ⟨_, rfl⟩ | exact Or.inr ⟨_, rfl⟩)) ?_
    refine gm_gat (gi_const dL_law_1920) ?_
    refine gm_gat (gm_lald dL_law_1921 o1 z_0in) ?_
    rw [z_0cl, o2]
    refine gm_gat (gm_iload dL_law_1922 rfl) ?_
    refine gm_gat (gi_i2l dL_law_1924 hb) ?_
    refine gm_gat (gm_lcmp dL_law_1925) ?_
    refine gm_gat (gm_if_eq_t (tgt := 1931) dL_law_1926 (by decide) (lg_self _)) ?_
    refine gm_gat (gm_goto (tgt := 2513) dL_law_1931 (by decide)) ?_
    exact gm_goG_rf
  ·
    refine gm_gat (gi_if_ne_t (tgt := 1931) dL_law_1916 (by decide) hk h0) ?_
    refine gm_gat (gm_goto (tgt := 2513) dL_law_1931 (by decide)) ?_
    exact gm_goG_rf
set_option maxRecDepth 4000 in
theorem lw_leastLateness {G : gm_G} {x : MethodName} {r : Option FieldType × List (Nat × Nat × Nat × Nat)} (hx : x.cls = RL) {n : Nat} {i : Int} {x6 x7 x8 : Option Value} {h h2 : gm_H} {b : Int} (hb : zR b) (H : LQ h h2 n mX10_leastLateness mX11_leastLateness (.int (zI b))) : gm_goG G (lM x r) 14 (1934, [some (.retAddr 999), some (.ref n), some (.ref (n + 113)), some (.ref (n + 126)), some (.ref (n + 127)), some (.int (zI i)), x6, x7, x8], [], h) (2513, [some (.retAddr 999), some (.ref n), some (.ref (n + 113)), some (.ref (n + 126)), some (.ref (n + 127)), some (.int (zI i)), x6, x7, x8], [], h2) := by
  obtain ⟨h1, s, e, f, K1, D1, D2, hD1, hD2, hB, c1, hM1, c2⟩ := H
  refine gm_gat (gm_aload_n dL_law_1934 rfl (by first | exact Or.inl ⟨_, rfl⟩ | exact Or.inr ⟨_, rfl⟩)) ?_
  refine gm_gat (gm_cV dL_law_1935 (c1) rfl mt_X10_leastLateness mv_X10_leastLateness (lk_L_257 hx) (Or.inl ⟨_, 11, _, _, _, rfl, hB, rfl⟩) rfl (Nat.le_of_ble_eq_true rfl) hD1) ?_
  refine gm_gat (gm_aload_n dL_law_1938 rfl (by first | exact Or.inl ⟨_, rfl⟩ | exact Or.inr ⟨_, rfl⟩)) ?_
  refine gm_gat (gm_cV dL_law_1939 (c2) rfl mt_X11_leastLateness mv_X11_leastLateness (lk_L_260 hx) (Or.inl ⟨_, 12, _, _, _, rfl, hM1, rfl⟩) rfl (Nat.le_of_ble_eq_true rfl) hD2) ?_
  refine gm_gat (gi_icmp_eq_t (tgt := 2513) dL_law_1942 (by decide) hb hb rfl) ?_
  exact gm_goG_rf
set_option maxRecDepth 4000 in
theorem lw_leastLatenessByOrders {G : gm_G} {x : MethodName} {r : Option FieldType × List (Nat × Nat × Nat × Nat)} (hx : x.cls = RL) {n : Nat} {i : Int} {x6 x7 x8 : Option Value} {h h2 : gm_H} {b : Int} (hb : zR b) (H : LQ h h2 n mX10_leastLatenessByOrders mX11_leastLatenessByOrders (.int (zI b))) : gm_goG G (lM x r) 14 (1947, [some (.retAddr 999), some (.ref n), some (.ref (n + 113)), some (.ref (n + 126)), some (.ref (n + 127)), some (.int (zI i)), x6, x7, x8], [], h) (2513, [some (.retAddr 999), some (.ref n), some (.ref (n + 113)), some (.ref (n + 126)), some (.ref (n + 127)), some (.int (zI i)), x6, x7, x8], [], h2) := by
  obtain ⟨h1, s, e, f, K1, D1, D2, hD1, hD2, hB, c1, hM1, c2⟩ := H
  refine gm_gat (gm_aload_n dL_law_1947 rfl (by first | exact Or.inl ⟨_, rfl⟩ | exact Or.inr ⟨_, rfl⟩)) ?_
  refine gm_gat (gm_cV dL_law_1948 (c1) rfl mt_X10_leastLatenessByOrders mv_X10_leastLatenessByOrders (lk_L_261 hx) (Or.inl ⟨_, 11, _, _, _, rfl, hB, rfl⟩) rfl (Nat.le_of_ble_eq_true rfl) hD1) ?_
  refine gm_gat (gm_aload_n dL_law_1951 rfl (by first | exact Or.inl ⟨_, rfl⟩ | exact Or.inr ⟨_, rfl⟩)) ?_
  refine gm_gat (gm_cV dL_law_1952 (c2) rfl mt_X11_leastLatenessByOrders mv_X11_leastLatenessByOrders (lk_L_264 hx) (Or.inl ⟨_, 12, _, _, _, rfl, hM1, rfl⟩) rfl (Nat.le_of_ble_eq_true rfl) hD2) ?_
  refine gm_gat (gi_icmp_eq_t (tgt := 2513) dL_law_1955 (by decide) hb hb rfl) ?_
  exact gm_goG_rf
set_option maxRecDepth 4000 in
theorem lw_bestFirst {G : gm_G} {x : MethodName} {r : Option FieldType × List (Nat × Nat × Nat × Nat)} (hx : x.cls = RL) {n : Nat} {i : Int} {x6 x7 x8 : Option Value} {h h2 : gm_H} {b : Int} (hb : zR b) {k : Int} (hi : 0 ≤ i) (hi4 : i + 4 ≤ gm_L G) (hL : gm_L G ≤ 2048) (H : LH h h2 n mL_bestFirst [.ref n, .ref (n + 126)] mX11_bestFirst [.ref (n + 113)] k (.int (zI b))) (ho : k = 0 → ∃ g, h2.1[n + 126]? = some (gLo g) ∧ g 0 = zL b) : gm_goG G (lM x r) 14 (1960, [some (.retAddr 999), some (.ref n), some (.ref (n + 113)), some (.ref (n + 126)), some (.ref (n + 127)), some (.int (zI i)), x6, x7, x8], [], h) (2513, [some (.retAddr 999), some (.ref n), some (.ref (n + 113)), some (.ref (n + 126)), some (.ref (n + 127)), some (.int (zI i)), (some (.int (zI k))), (some (.int (zI b))), x8], [], h2) := by
  obtain ⟨h1, K1, K2, D, D0, hD, hD0, c1, hM1, c2, hM2, rfl, hk⟩ := H
  refine gm_gat (gm_aload_n dL_law_1960 rfl (by first | exact Or.inl ⟨_, rfl⟩ | exact Or.inr ⟨_, rfl⟩)) ?_
  refine gm_gat (gm_aload_n dL_law_1961 rfl (by first | exact Or.inl ⟨_, rfl⟩ | exact Or.inr ⟨_, rfl⟩)) ?_
  refine gm_gat (gm_cX dL_law_1962 (c1) rfl mx_L_bestFirst ms_L_bestFirst (ll_L_265 hx) rfl (Nat.le_of_ble_eq_true rfl) hD0) ?_
  refine gm_gat (gm_istore (ls' := [_, _, _, _, _, _, _, _, _]) dL_law_1965 (Nat.le_of_ble_eq_true rfl) rfl) ?_
  refine gm_gat (gm_aload_n dL_law_1967 rfl (by first | exact Or.inl ⟨_, rfl⟩ | exact Or.inr ⟨_, rfl⟩)) ?_
  refine gm_gat (gm_cV dL_law_1968 (c2) rfl mt_X11_bestFirst mv_X11_bestFirst (lk_L_268 hx) (Or.inl ⟨_, 12, _, _, _, rfl, hM1, rfl⟩) rfl (Nat.le_of_ble_eq_true rfl) hD) ?_
  refine gm_gat (gm_istore (ls' := [_, _, _, _, _, _, _, _, _]) dL_law_1971 (Nat.le_of_ble_eq_true rfl) rfl) ?_
  refine gm_gat (gm_aload_n dL_law_1973 rfl (by first | exact Or.inl ⟨_, rfl⟩ | exact Or.inr ⟨_, rfl⟩)) ?_
  refine gm_gat (gm_cV dL_law_1974 ((ct_mThrown hM2)) rfl mt_X11_thrown mv_X11_thrown (lk_L_148 hx) (Or.inl ⟨_, 12, _, _, _, rfl, hM2, rfl⟩) rfl (Nat.le_of_ble_eq_true rfl) (by decide)) ?_
  refine gm_gat (gm_iload dL_law_1977 rfl) ?_
  refine gm_gat (gi_icmp_eq_t (tgt := 1984) dL_law_1979 (by decide) hk hk rfl) ?_
  refine gm_gat (gm_iload dL_law_1984 rfl) ?_
  by_cases h0 : K2 0 = 0
  ·
    obtain ⟨g, o1, o2⟩ := ho h0
    refine gm_gat (gi_if_ne_f 2001 dL_law_1986 (by decide) hk h0) ?_
    refine gm_gat (gm_aload_n dL_law_1989 rfl (by first | exact Or.inl ⟨_, rfl⟩ | exact Or.inr ⟨_, rfl⟩)) ?_
    refine gm_gat (gi_const dL_law_1990) ?_
    refine gm_gat (gm_lald dL_law_1991 o1 z_0in) ?_
    rw [z_0cl, o2]
    refine gm_gat (gm_iload dL_law_1992 rfl) ?_
    refine gm_gat (gi_i2l dL_law_1994 hb) ?_
    refine gm_gat (gm_lcmp dL_law_1995) ?_
    refine gm_gat (gm_if_eq_t (tgt := 2001) dL_law_1996 (by decide) (lg_self _)) ?_
    refine gm_gat (gm_goto (tgt := 2513) dL_law_2001 (by decide)) ?_
    exact gm_goG_rf
  ·
    refine gm_gat (gi_if_ne_t (tgt := 2001) dL_law_1986 (by decide) hk h0) ?_
    refine gm_gat (gm_goto (tgt := 2513) dL_law_2001 (by decide)) ?_
    exact gm_goG_rf
set_option maxRecDepth 4000 in
theorem lw_latenessByIds {G : gm_G} {x : MethodName} {r : Option FieldType × List (Nat × Nat × Nat × Nat)} (hx : x.cls = RL) {n : Nat} {i : Int} {x6 x7 x8 : Option Value} {h h2 : gm_H} {b : Int} (hb : zR b) (H : LQ h h2 n mX10_latenessByIds mX11_latenessByIds (.int (zI b))) : gm_goG G (lM x r) 14 (2004, [some (.retAddr 999), some (.ref n), some (.ref (n + 113)), some (.ref (n + 126)), some (.ref (n + 127)), some (.int (zI i)), x6, x7, x8], [], h) (2513, [some (.retAddr 999), some (.ref n), some (.ref (n + 113)), some (.ref (n + 126)), some (.ref (n + 127)), some (.int (zI i)), x6, x7, x8], [], h2) := by
  obtain ⟨h1, s, e, f, K1, D1, D2, hD1, hD2, hB, c1, hM1, c2⟩ := H
  refine gm_gat (gm_aload_n dL_law_2004 rfl (by first | exact Or.inl ⟨_, rfl⟩ | exact Or.inr ⟨_, rfl⟩)) ?_
  refine gm_gat (gm_cV dL_law_2005 (c1) rfl mt_X10_latenessByIds mv_X10_latenessByIds (lk_L_269 hx) (Or.inl ⟨_, 11, _, _, _, rfl, hB, rfl⟩) rfl (Nat.le_of_ble_eq_true rfl) hD1) ?_
  refine gm_gat (gm_aload_n dL_law_2008 rfl (by first | exact Or.inl ⟨_, rfl⟩ | exact Or.inr ⟨_, rfl⟩)) ?_
  refine gm_gat (gm_cV dL_law_2009 (c2) rfl mt_X11_latenessByIds mv_X11_latenessByIds (lk_L_272 hx) (Or.inl ⟨_, 12, _, _, _, rfl, hM1, rfl⟩) rfl (Nat.le_of_ble_eq_true rfl) hD2) ?_
  refine gm_gat (gi_icmp_eq_t (tgt := 2513) dL_law_2012 (by decide) hb hb rfl) ?_
  exact gm_goG_rf
set_option maxRecDepth 4000 in
theorem lw_bakedCount {G : gm_G} {x : MethodName} {r : Option FieldType × List (Nat × Nat × Nat × Nat)} (hx : x.cls = RL) {n : Nat} {i : Int} {x6 x7 x8 : Option Value} {h h2 : gm_H} {b : Int} (hb : zR b) (H : LQ h h2 n mX10_bakedCount mX11_bakedCount (.int (zI b))) : gm_goG G (lM x r) 14 (2017, [some (.retAddr 999), some (.ref n), some (.ref (n + 113)), some (.ref (n + 126)), some (.ref (n + 127)), some (.int (zI i)), x6, x7, x8], [], h) (2513, [some (.retAddr 999), some (.ref n), some (.ref (n + 113)), some (.ref (n + 126)), some (.ref (n + 127)), some (.int (zI i)), x6, x7, x8], [], h2) := by
  obtain ⟨h1, s, e, f, K1, D1, D2, hD1, hD2, hB, c1, hM1, c2⟩ := H
  refine gm_gat (gm_aload_n dL_law_2017 rfl (by first | exact Or.inl ⟨_, rfl⟩ | exact Or.inr ⟨_, rfl⟩)) ?_
  refine gm_gat (gm_cV dL_law_2018 (c1) rfl mt_X10_bakedCount mv_X10_bakedCount (lk_L_273 hx) (Or.inl ⟨_, 11, _, _, _, rfl, hB, rfl⟩) rfl (Nat.le_of_ble_eq_true rfl) hD1) ?_
  refine gm_gat (gm_aload_n dL_law_2021 rfl (by first | exact Or.inl ⟨_, rfl⟩ | exact Or.inr ⟨_, rfl⟩)) ?_
  refine gm_gat (gm_cV dL_law_2022 (c2) rfl mt_X11_bakedCount mv_X11_bakedCount (lk_L_276 hx) (Or.inl ⟨_, 12, _, _, _, rfl, hM1, rfl⟩) rfl (Nat.le_of_ble_eq_true rfl) hD2) ?_
  refine gm_gat (gi_icmp_eq_t (tgt := 2513) dL_law_2025 (by decide) hb hb rfl) ?_
  exact gm_goG_rf
set_option maxRecDepth 4000 in
theorem lw_latenessTotal {G : gm_G} {x : MethodName} {r : Option FieldType × List (Nat × Nat × Nat × Nat)} (hx : x.cls = RL) {n : Nat} {i : Int} {x6 x7 x8 : Option Value} {h h2 : gm_H} {b : Int} (H : LQ h h2 n mX10_latenessTotal mX11_latenessTotal (.long (zL b))) : gm_goG G (lM x r) 14 (2030, [some (.retAddr 999), some (.ref n), some (.ref (n + 113)), some (.ref (n + 126)), some (.ref (n + 127)), some (.int (zI i)), x6, x7, x8], [], h) (2513, [some (.retAddr 999), some (.ref n), some (.ref (n + 113)), some (.ref (n + 126)), some (.ref (n + 127)), some (.int (zI i)), x6, x7, x8], [], h2) := by
  obtain ⟨h1, s, e, f, K1, D1, D2, hD1, hD2, hB, c1, hM1, c2⟩ := H
  refine gm_gat (gm_aload_n dL_law_2030 rfl (by first | exact Or.inl ⟨_, rfl⟩ | exact Or.inr ⟨_, rfl⟩)) ?_
  refine gm_gat (gm_cV dL_law_2031 (c1) rfl mt_X10_latenessTotal mv_X10_latenessTotal (lk_L_277 hx) (Or.inl ⟨_, 11, _, _, _, rfl, hB, rfl⟩) rfl (Nat.le_of_ble_eq_true rfl) hD1) ?_
  refine gm_gat (gm_aload_n dL_law_2034 rfl (by first | exact Or.inl ⟨_, rfl⟩ | exact Or.inr ⟨_, rfl⟩)) ?_
  refine gm_gat (gm_cV dL_law_2035 (c2) rfl mt_X11_latenessTotal mv_X11_latenessTotal (lk_L_281 hx) (Or.inl ⟨_, 12, _, _, _, rfl, hM1, rfl⟩) rfl (Nat.le_of_ble_eq_true rfl) hD2) ?_
  refine gm_gat (gm_lcmp dL_law_2038) ?_
  refine gm_gat (gm_if_eq_t (tgt := 2513) dL_law_2039 (by decide) (lg_self _)) ?_
  exact gm_goG_rf
set_option maxRecDepth 4000 in
theorem lw_bakingShare {G : gm_G} {x : MethodName} {r : Option FieldType × List (Nat × Nat × Nat × Nat)} (hx : x.cls = RL) {n : Nat} {i : Int} {x6 x7 x8 : Option Value} {h h2 : gm_H} {b : UInt32} {k : Int} (hi : 0 ≤ i) (hi4 : i + 4 ≤ gm_L G) (hL : gm_L G ≤ 2048) (H : LH h h2 n mL_bakingShare [.ref n, .ref (n + 127)] mX11_bakingShare [.ref (n + 113)] k (.float b)) (ho : k = 0 → ∃ g, h2.1[n + 127]? = some (gDo g) ∧ g 0 = FP.f2d b) (hc : k = 0 → vf_n64 (FP.f2d b) ∧ FP.dcmp (FP.f2d b) (FP.f2d b) = some .eq) : gm_goG G (lM x r) 14 (2044, [some (.retAddr 999), some (.ref n), some (.ref (n + 113)), some (.ref (n + 126)), some (.ref (n + 127)), some (.int (zI i)), x6, x7, x8], [], h) (2513, [some (.retAddr 999), some (.ref n), some (.ref (n + 113)), some (.ref (n + 126)), some (.ref (n + 127)), some (.int (zI i)), (some (.int (zI k))), (some (.float b)), x8], [], h2) := by
  obtain ⟨h1, K1, K2, D, D0, hD, hD0, c1, hM1, c2, hM2, rfl, hk⟩ := H
  refine gm_gat (gm_aload_n dL_law_2044 rfl (by first | exact Or.inl ⟨_, rfl⟩ | exact Or.inr ⟨_, rfl⟩)) ?_
  refine gm_gat (gm_aload dL_law_2045 rfl (by first | exact Or.inl ⟨_, rfl⟩ | exact Or.inr ⟨_, rfl⟩)) ?_
  refine gm_gat (gm_cX dL_law_2047 (c1) rfl mx_L_bakingShare ms_L_bakingShare (ll_L_282 hx) rfl (Nat.le_of_ble_eq_true rfl) hD0) ?_
  refine gm_gat (gm_istore (ls' := [_, _, _, _, _, _, _, _, _]) dL_law_2050 (Nat.le_of_ble_eq_true rfl) rfl) ?_
  refine gm_gat (gm_aload_n dL_law_2052 rfl (by first | exact Or.inl ⟨_, rfl⟩ | exact Or.inr ⟨_, rfl⟩)) ?_
  refine gm_gat (gm_cV dL_law_2053 (c2) rfl mt_X11_bakingShare mv_X11_bakingShare (lk_L_284 hx) (Or.inl ⟨_, 12, _, _, _, rfl, hM1, rfl⟩) rfl (Nat.le_of_ble_eq_true rfl) hD) ?_
  refine gm_gat (gm_fstore (ls' := [_, _, _, _, _, _, _, _, _]) dL_law_2056 (Nat.le_of_ble_eq_true rfl) rfl) ?_
  refine gm_gat (gm_aload_n dL_law_2058 rfl (by first | exact Or.inl ⟨_, rfl⟩ | exact Or.inr ⟨_, rfl⟩)) ?_
  refine gm_gat (gm_cV dL_law_2059 ((ct_mThrown hM2)) rfl mt_X11_thrown mv_X11_thrown (lk_L_148 hx) (Or.inl ⟨_, 12, _, _, _, rfl, hM2, rfl⟩) rfl (Nat.le_of_ble_eq_true rfl) (by decide)) ?_
  refine gm_gat (gm_iload dL_law_2062 rfl) ?_
  refine gm_gat (gi_icmp_eq_t (tgt := 2069) dL_law_2064 (by decide) hk hk rfl) ?_
  refine gm_gat (gm_iload dL_law_2069 rfl) ?_
  by_cases h0 : K2 0 = 0
  ·
    obtain ⟨g, o1, o2⟩ := ho h0
    refine gm_gat (gi_if_ne_f 2107 dL_law_2071 (by decide) hk h0) ?_
    refine gm_gat (gm_aload dL_law_2074 rfl (by first | exact Or.inl ⟨_, rfl⟩ | exact Or.inr ⟨_, rfl⟩)) ?_
    refine gm_gat (gi_const dL_law_2076) ?_
    refine gm_gat (gm_dald dL_law_2077 o1 z_0in) ?_
    rw [z_0cl, o2]
    refine gm_gat (gm_fload dL_law_2078 rfl) ?_
    refine gm_gat (gm_f2d (hc h0).1 dL_law_2080) ?_
    refine gm_gat (gm_dcmp dL_law_2081) ?_
    rw [(hc h0).2]
    refine gm_gat (gm_if_eq_t (tgt := 2107) dL_law_2082 (by decide) rfl) ?_
    refine gm_gat (gm_goto (tgt := 2513) dL_law_2107 (by decide)) ?_
    exact gm_goG_rf
  ·
    refine gm_gat (gi_if_ne_t (tgt := 2107) dL_law_2071 (by decide) hk h0) ?_
    refine gm_gat (gm_goto (tgt := 2513) dL_law_2107 (by decide)) ?_
    exact gm_goG_rf
set_option maxRecDepth 4000 in
theorem lw_writeLabel {G : gm_G} {x : MethodName} {r : Option FieldType × List (Nat × Nat × Nat × Nat)} (hx : x.cls = RL) {n : Nat} {i : Int} {x6 x7 x8 : Option Value} {h h2 : gm_H} {b : Int} (hb : zR b) {k : Int} (hi : 0 ≤ i) (hi4 : i + 4 ≤ gm_L G) (hL : gm_L G ≤ 2048) (H : LH h h2 n mL_writeLabel [.ref n, .int (zI (gx G (i + 1))), .ref (n + 126)] mX11_writeLabel [.ref (n + 113), .int (zI (gx G (i + 1)))] k (.int (zI b))) (ho : k = 0 → ∃ g, h2.1[n + 126]? = some (gLo g) ∧ g 0 = zL b) : gm_goG G (lM x r) 14 (2110, [some (.retAddr 999), some (.ref n), some (.ref (n + 113)), some (.ref (n + 126)), some (.ref (n + 127)), some (.int (zI i)), x6, x7, x8], [], h) (2513, [some (.retAddr 999), some (.ref n), some (.ref (n + 113)), some (.ref (n + 126)), some (.ref (n + 127)), some (.int (zI i)), (some (.int (zI k))), (some (.int (zI b))), x8], [], h2) := by
  obtain ⟨h1, K1, K2, D, D0, hD, hD0, c1, hM1, c2, hM2, rfl, hk⟩ := H
  refine gm_gat (gm_aload_n dL_law_2110 rfl (by first | exact Or.inl ⟨_, rfl⟩ | exact Or.inr ⟨_, rfl⟩)) ?_
  refine gm_gat (gm_aload_n dL_law_2111 rfl (by first | exact Or.inl ⟨_, rfl⟩ | exact Or.inr ⟨_, rfl⟩)) ?_
  refine gm_gat (gm_iload dL_law_2112 rfl) ?_
  refine gm_gat (gi_const dL_law_2114) ?_
  refine gm_gat (gi_add dL_law_2115) ?_
  refine gm_goG_tr (gi_sld dL_law_2116 (by omega) (by omega) hL) ?_
  refine gm_gat (gm_aload_n dL_law_2117 rfl (by first | exact Or.inl ⟨_, rfl⟩ | exact Or.inr ⟨_, rfl⟩)) ?_
  refine gm_gat (gm_cX dL_law_2118 (c1) rfl mx_L_writeLabel ms_L_writeLabel (ll_L_285 hx) rfl (Nat.le_of_ble_eq_true rfl) hD0) ?_
  refine gm_gat (gm_istore (ls' := [_, _, _, _, _, _, _, _, _]) dL_law_2121 (Nat.le_of_ble_eq_true rfl) rfl) ?_
  refine gm_gat (gm_aload_n dL_law_2123 rfl (by first | exact Or.inl ⟨_, rfl⟩ | exact Or.inr ⟨_, rfl⟩)) ?_
  refine gm_gat (gm_aload_n dL_law_2124 rfl (by first | exact Or.inl ⟨_, rfl⟩ | exact Or.inr ⟨_, rfl⟩)) ?_
  refine gm_gat (gm_iload dL_law_2125 rfl) ?_
  refine gm_gat (gi_const dL_law_2127) ?_
  refine gm_gat (gi_add dL_law_2128) ?_
  refine gm_goG_tr (gi_sld dL_law_2129 (by omega) (by omega) hL) ?_
  refine gm_gat (gm_cV dL_law_2130 (c2) rfl mt_X11_writeLabel mv_X11_writeLabel (lk_L_287 hx) (Or.inl ⟨_, 12, _, _, _, rfl, hM1, rfl⟩) rfl (Nat.le_of_ble_eq_true rfl) hD) ?_
  refine gm_gat (gm_istore (ls' := [_, _, _, _, _, _, _, _, _]) dL_law_2133 (Nat.le_of_ble_eq_true rfl) rfl) ?_
  refine gm_gat (gm_aload_n dL_law_2135 rfl (by first | exact Or.inl ⟨_, rfl⟩ | exact Or.inr ⟨_, rfl⟩)) ?_
  refine gm_gat (gm_cV dL_law_2136 ((ct_mThrown hM2)) rfl mt_X11_thrown mv_X11_thrown (lk_L_148 hx) (Or.inl ⟨_, 12, _, _, _, rfl, hM2, rfl⟩) rfl (Nat.le_of_ble_eq_true rfl) (by decide)) ?_
  refine gm_gat (gm_iload dL_law_2139 rfl) ?_
  refine gm_gat (gi_icmp_eq_t (tgt := 2146) dL_law_2141 (by decide) hk hk rfl) ?_
  refine gm_gat (gm_iload dL_law_2146 rfl) ?_
  by_cases h0 : K2 0 = 0
  ·
    obtain ⟨g, o1, o2⟩ := ho h0
    refine gm_gat (gi_if_ne_f 2163 dL_law_2148 (by decide) hk h0) ?_
    refine gm_gat (gm_aload_n dL_law_2151 rfl (by first | exact Or.inl ⟨_, rfl⟩ | exact Or.inr ⟨_, rfl⟩)) ?_
    refine gm_gat (gi_const dL_law_2152) ?_
    refine gm_gat (gm_lald dL_law_2153 o1 z_0in) ?_
    rw [z_0cl, o2]
    refine gm_gat (gm_iload dL_law_2154 rfl) ?_
    refine gm_gat (gi_i2l dL_law_2156 hb) ?_
    refine gm_gat (gm_lcmp dL_law_2157) ?_
    refine gm_gat (gm_if_eq_t (tgt := 2163) dL_law_2158 (by decide) (lg_self _)) ?_
    refine gm_gat (gm_goto (tgt := 2513) dL_law_2163 (by decide)) ?_
    exact gm_goG_rf
  ·
    refine gm_gat (gi_if_ne_t (tgt := 2163) dL_law_2148 (by decide) hk h0) ?_
    refine gm_gat (gm_goto (tgt := 2513) dL_law_2163 (by decide)) ?_
    exact gm_goG_rf
set_option maxRecDepth 4000 in
theorem lw_labelAt {G : gm_G} {x : MethodName} {r : Option FieldType × List (Nat × Nat × Nat × Nat)} (hx : x.cls = RL) {n : Nat} {i : Int} {x6 x7 x8 : Option Value} {h h2 : gm_H} {b : Int} (hb : zR b) {k : Int} (hi : 0 ≤ i) (hi4 : i + 4 ≤ gm_L G) (hL : gm_L G ≤ 2048) (H : LH h h2 n mL_labelAt [.ref n, .int (zI (gx G (i + 1))), .ref (n + 126)] mX11_labelAt [.ref (n + 113), .int (zI (gx G (i + 1)))] k (.int (zI b))) (ho : k = 0 → ∃ g, h2.1[n + 126]? = some (gLo g) ∧ g 0 = zL b) : gm_goG G (lM x r) 14 (2166, [some (.retAddr 999), some (.ref n), some (.ref (n + 113)), some (.ref (n + 126)), some (.ref (n + 127)), some (.int (zI i)), x6, x7, x8], [], h) (2513, [some (.retAddr 999), some (.ref n), some (.ref (n + 113)), some (.ref (n + 126)), some (.ref (n + 127)), some (.int (zI i)), (some (.int (zI k))), (some (.int (zI b))), x8], [], h2) := by
  obtain ⟨h1, K1, K2, D, D0, hD, hD0, c1, hM1, c2, hM2, rfl, hk⟩ := H
  refine gm_gat (gm_aload_n dL_law_2166 rfl (by first | exact Or.inl ⟨_, rfl⟩ | exact Or.inr ⟨_, rfl⟩)) ?_
  refine gm_gat (gm_aload_n dL_law_2167 rfl (by first | exact Or.inl ⟨_, rfl⟩ | exact Or.inr ⟨_, rfl⟩)) ?_
  refine gm_gat (gm_iload dL_law_2168 rfl) ?_
  refine gm_gat (gi_const dL_law_2170) ?_
  refine gm_gat (gi_add dL_law_2171) ?_
  refine gm_goG_tr (gi_sld dL_law_2172 (by omega) (by omega) hL) ?_
  refine gm_gat (gm_aload_n dL_law_2173 rfl (by first | exact Or.inl ⟨_, rfl⟩ | exact Or.inr ⟨_, rfl⟩)) ?_
  refine gm_gat (gm_cX dL_law_2174 (c1) rfl mx_L_labelAt ms_L_labelAt (ll_L_288 hx) rfl (Nat.le_of_ble_eq_true rfl) hD0) ?_
  refine gm_gat (gm_istore (ls' := [_, _, _, _, _, _, _, _, _]) dL_law_2177 (Nat.le_of_ble_eq_true rfl) rfl) ?_
  refine gm_gat (gm_aload_n dL_law_2179 rfl (by first | exact Or.inl ⟨_, rfl⟩ | exact Or.inr ⟨_, rfl⟩)) ?_
  refine gm_gat (gm_aload_n dL_law_2180 rfl (by first | exact Or.inl ⟨_, rfl⟩ | exact Or.inr ⟨_, rfl⟩)) ?_
  refine gm_gat (gm_iload dL_law_2181 rfl) ?_
  refine gm_gat (gi_const dL_law_2183) ?_
  refine gm_gat (gi_add dL_law_2184) ?_
  refine gm_goG_tr (gi_sld dL_law_2185 (by omega) (by omega) hL) ?_
  refine gm_gat (gm_cV dL_law_2186 (c2) rfl mt_X11_labelAt mv_X11_labelAt (lk_L_290 hx) (Or.inl ⟨_, 12, _, _, _, rfl, hM1, rfl⟩) rfl (Nat.le_of_ble_eq_true rfl) hD) ?_
  refine gm_gat (gm_istore (ls' := [_, _, _, _, _, _, _, _, _]) dL_law_2189 (Nat.le_of_ble_eq_true rfl) rfl) ?_
  refine gm_gat (gm_aload_n dL_law_2191 rfl (by first | exact Or.inl ⟨_, rfl⟩ | exact Or.inr ⟨_, rfl⟩)) ?_
  refine gm_gat (gm_cV dL_law_2192 ((ct_mThrown hM2)) rfl mt_X11_thrown mv_X11_thrown (lk_L_148 hx) (Or.inl ⟨_, 12, _, _, _, rfl, hM2, rfl⟩) rfl (Nat.le_of_ble_eq_true rfl) (by decide)) ?_
  refine gm_gat (gm_iload dL_law_2195 rfl) ?_
  refine gm_gat (gi_icmp_eq_t (tgt := 2202) dL_law_2197 (by decide) hk hk rfl) ?_
  refine gm_gat (gm_iload dL_law_2202 rfl) ?_
  by_cases h0 : K2 0 = 0
  ·
    obtain ⟨g, o1, o2⟩ := ho h0
    refine gm_gat (gi_if_ne_f 2219 dL_law_2204 (by decide) hk h0) ?_
    refine gm_gat (gm_aload_n dL_law_2207 rfl (by first | exact Or.inl ⟨_, rfl⟩ | exact Or.inr ⟨_, rfl⟩)) ?_
    refine gm_gat (gi_const dL_law_2208) ?_
    refine gm_gat (gm_lald dL_law_2209 o1 z_0in) ?_
    rw [z_0cl, o2]
    refine gm_gat (gm_iload dL_law_2210 rfl) ?_
    refine gm_gat (gi_i2l dL_law_2212 hb) ?_
    refine gm_gat (gm_lcmp dL_law_2213) ?_
    refine gm_gat (gm_if_eq_t (tgt := 2219) dL_law_2214 (by decide) (lg_self _)) ?_
    refine gm_gat (gm_goto (tgt := 2513) dL_law_2219 (by decide)) ?_
    exact gm_goG_rf
  ·
    refine gm_gat (gi_if_ne_t (tgt := 2219) dL_law_2204 (by decide) hk h0) ?_
    refine gm_gat (gm_goto (tgt := 2513) dL_law_2219 (by decide)) ?_
    exact gm_goG_rf
set_option maxRecDepth 4000 in
theorem lw_type {G : gm_G} {x : MethodName} {r : Option FieldType × List (Nat × Nat × Nat × Nat)} (hx : x.cls = RL) {n : Nat} {i : Int} {x6 x7 x8 : Option Value} {h h2 : gm_H} {b : Int} (hb : zR b) {k : Int} (hi : 0 ≤ i) (hi4 : i + 4 ≤ gm_L G) (hL : gm_L G ≤ 2048) (H : LH h h2 n mL_type [.ref n, .int (zI (gc (gx G (i + 1)))), .ref (n + 126)] mX11_type [.ref (n + 113), .int (zI (gc (gx G (i + 1))))] k (.int (zI b))) (ho : k = 0 → ∃ g, h2.1[n + 126]? = some (gLo g) ∧ g 0 = zL b) : gm_goG G (lM x r) 14 (2222, [some (.retAddr 999), some (.ref n), some (.ref (n + 113)), some (.ref (n + 126)), some (.ref (n + 127)), some (.int (zI i)), x6, x7, x8], [], h) (2513, [some (.retAddr 999), some (.ref n), some (.ref (n + 113)), some (.ref (n + 126)), some (.ref (n + 127)), some (.int (zI i)), (some (.int (zI k))), (some (.int (zI b))), x8], [], h2) := by
  obtain ⟨h1, K1, K2, D, D0, hD, hD0, c1, hM1, c2, hM2, rfl, hk⟩ := H
  refine gm_gat (gm_aload_n dL_law_2222 rfl (by first | exact Or.inl ⟨_, rfl⟩ | exact Or.inr ⟨_, rfl⟩)) ?_
  refine gm_gat (gm_aload_n dL_law_2223 rfl (by first | exact Or.inl ⟨_, rfl⟩ | exact Or.inr ⟨_, rfl⟩)) ?_
  refine gm_gat (gm_iload dL_law_2224 rfl) ?_
  refine gm_gat (gi_const dL_law_2226) ?_
  refine gm_gat (gi_add dL_law_2227) ?_
  refine gm_goG_tr (gi_sld dL_law_2228 (by omega) (by omega) hL) ?_
  refine gm_gat (gi_toc dL_law_2229) ?_
  refine gm_gat (gm_aload_n dL_law_2230 rfl (by first | exact Or.inl ⟨_, rfl⟩ | exact Or.inr ⟨_, rfl⟩)) ?_
  refine gm_gat (gm_cX dL_law_2231 (c1) rfl mx_L_type ms_L_type (ll_L_291 hx) rfl (Nat.le_of_ble_eq_true rfl) hD0) ?_
  refine gm_gat (gm_istore (ls' := [_, _, _, _, _, _, _, _, _]) dL_law_2234 (Nat.le_of_ble_eq_true rfl) rfl) ?_
  refine gm_gat (gm_aload_n dL_law_2236 rfl (by first | exact Or.inl ⟨_, rfl⟩ | exact Or.inr ⟨_, rfl⟩)) ?_
  refine gm_gat (gm_aload_n dL_law_2237 rfl (by first | exact Or.inl ⟨_, rfl⟩ | exact Or.inr ⟨_, rfl⟩)) ?_
  refine gm_gat (gm_iload dL_law_2238 rfl) ?_
  refine gm_gat (gi_const dL_law_2240) ?_
  refine gm_gat (gi_add dL_law_2241) ?_
  refine gm_goG_tr (gi_sld dL_law_2242 (by omega) (by omega) hL) ?_
  refine gm_gat (gi_toc dL_law_2243) ?_
  refine gm_gat (gm_cV dL_law_2244 (c2) rfl mt_X11_type mv_X11_type (lk_L_294 hx) (Or.inl ⟨_, 12, _, _, _, rfl, hM1, rfl⟩) rfl (Nat.le_of_ble_eq_true rfl) hD) ?_
  refine gm_gat (gm_istore (ls' := [_, _, _, _, _, _, _, _, _]) dL_law_2247 (Nat.le_of_ble_eq_true rfl) rfl) ?_
  refine gm_gat (gm_aload_n dL_law_2249 rfl (by first | exact Or.inl ⟨_, rfl⟩ | exact Or.inr ⟨_, rfl⟩)) ?_
  refine gm_gat (gm_cV dL_law_2250 ((ct_mThrown hM2)) rfl mt_X11_thrown mv_X11_thrown (lk_L_148 hx) (Or.inl ⟨_, 12, _, _, _, rfl, hM2, rfl⟩) rfl (Nat.le_of_ble_eq_true rfl) (by decide)) ?_
  refine gm_gat (gm_iload dL_law_2253 rfl) ?_
  refine gm_gat (gi_icmp_eq_t (tgt := 2260) dL_law_2255 (by decide) hk hk rfl) ?_
  refine gm_gat (gm_iload dL_law_2260 rfl) ?_
  by_cases h0 : K2 0 = 0
  ·
    obtain ⟨g, o1, o2⟩ := ho h0
    refine gm_gat (gi_if_ne_f 2277 dL_law_2262 (by decide) hk h0) ?_
    refine gm_gat (gm_aload_n dL_law_2265 rfl (by first | exact Or.inl ⟨_, rfl⟩ | exact Or.inr ⟨_, rfl⟩)) ?_
    refine gm_gat (gi_const dL_law_2266) ?_
    refine gm_gat (gm_lald dL_law_2267 o1 z_0in) ?_
    rw [z_0cl, o2]
    refine gm_gat (gm_iload dL_law_2268 rfl) ?_
    refine gm_gat (gi_i2l dL_law_2270 hb) ?_
    refine gm_gat (gm_lcmp dL_law_2271) ?_
    refine gm_gat (gm_if_eq_t (tgt := 2277) dL_law_2272 (by decide) (lg_self _)) ?_
    refine gm_gat (gm_goto (tgt := 2513) dL_law_2277 (by decide)) ?_
    exact gm_goG_rf
  ·
    refine gm_gat (gi_if_ne_t (tgt := 2277) dL_law_2262 (by decide) hk h0) ?_
    refine gm_gat (gm_goto (tgt := 2513) dL_law_2277 (by decide)) ?_
    exact gm_goG_rf
set_option maxRecDepth 4000 in
theorem lw_execute {G : gm_G} {x : MethodName} {r : Option FieldType × List (Nat × Nat × Nat × Nat)} (hx : x.cls = RL) {n : Nat} {i : Int} {x6 x7 x8 : Option Value} {h h2 : gm_H} {b : Int} (hb : zR b) {k : Int} (hi : 0 ≤ i) (hi4 : i + 4 ≤ gm_L G) (hL : gm_L G ≤ 2048) (H : LH h h2 n mL_execute [.ref n, .ref (n + 126)] mX11_execute [.ref (n + 113)] k (.int (zI b))) (ho : k = 0 → ∃ g, h2.1[n + 126]? = some (gLo g) ∧ g 0 = zL b) : gm_goG G (lM x r) 14 (2280, [some (.retAddr 999), some (.ref n), some (.ref (n + 113)), some (.ref (n + 126)), some (.ref (n + 127)), some (.int (zI i)), x6, x7, x8], [], h) (2513, [some (.retAddr 999), some (.ref n), some (.ref (n + 113)), some (.ref (n + 126)), some (.ref (n + 127)), some (.int (zI i)), (some (.int (zI k))), (some (.int (zI b))), x8], [], h2) := by
  obtain ⟨h1, K1, K2, D, D0, hD, hD0, c1, hM1, c2, hM2, rfl, hk⟩ := H
  refine gm_gat (gm_aload_n dL_law_2280 rfl (by first | exact Or.inl ⟨_, rfl⟩ | exact Or.inr ⟨_, rfl⟩)) ?_
  refine gm_gat (gm_aload_n dL_law_2281 rfl (by first | exact Or.inl ⟨_, rfl⟩ | exact Or.inr ⟨_, rfl⟩)) ?_
  refine gm_gat (gm_cX dL_law_2282 (c1) rfl mx_L_execute ms_L_execute (ll_L_295 hx) rfl (Nat.le_of_ble_eq_true rfl) hD0) ?_
  refine gm_gat (gm_istore (ls' := [_, _, _, _, _, _, _, _, _]) dL_law_2285 (Nat.le_of_ble_eq_true rfl) rfl) ?_
  refine gm_gat (gm_aload_n dL_law_2287 rfl (by first | exact Or.inl ⟨_, rfl⟩ | exact Or.inr ⟨_, rfl⟩)) ?_
  refine gm_gat (gm_cV dL_law_2288 (c2) rfl mt_X11_execute mv_X11_execute (lk_L_297 hx) (Or.inl ⟨_, 12, _, _, _, rfl, hM1, rfl⟩) rfl (Nat.le_of_ble_eq_true rfl) hD) ?_
  refine gm_gat (gm_istore (ls' := [_, _, _, _, _, _, _, _, _]) dL_law_2291 (Nat.le_of_ble_eq_true rfl) rfl) ?_
  refine gm_gat (gm_aload_n dL_law_2293 rfl (by first | exact Or.inl ⟨_, rfl⟩ | exact Or.inr ⟨_, rfl⟩)) ?_
  refine gm_gat (gm_cV dL_law_2294 ((ct_mThrown hM2)) rfl mt_X11_thrown mv_X11_thrown (lk_L_148 hx) (Or.inl ⟨_, 12, _, _, _, rfl, hM2, rfl⟩) rfl (Nat.le_of_ble_eq_true rfl) (by decide)) ?_
  refine gm_gat (gm_iload dL_law_2297 rfl) ?_
  refine gm_gat (gi_icmp_eq_t (tgt := 2304) dL_law_2299 (by decide) hk hk rfl) ?_
  refine gm_gat (gm_iload dL_law_2304 rfl) ?_
  by_cases h0 : K2 0 = 0
  ·
    obtain ⟨g, o1, o2⟩ := ho h0
    refine gm_gat (gi_if_ne_f 2321 dL_law_2306 (by decide) hk h0) ?_
    refine gm_gat (gm_aload_n dL_law_2309 rfl (by first | exact Or.inl ⟨_, rfl⟩ | exact Or.inr ⟨_, rfl⟩)) ?_
    refine gm_gat (gi_const dL_law_2310) ?_
    refine gm_gat (gm_lald dL_law_2311 o1 z_0in) ?_
    rw [z_0cl, o2]
    refine gm_gat (gm_iload dL_law_2312 rfl) ?_
    refine gm_gat (gi_i2l dL_law_2314 hb) ?_
    refine gm_gat (gm_lcmp dL_law_2315) ?_
    refine gm_gat (gm_if_eq_t (tgt := 2321) dL_law_2316 (by decide) (lg_self _)) ?_
    refine gm_gat (gm_goto (tgt := 2513) dL_law_2321 (by decide)) ?_
    exact gm_goG_rf
  ·
    refine gm_gat (gi_if_ne_t (tgt := 2321) dL_law_2306 (by decide) hk h0) ?_
    refine gm_gat (gm_goto (tgt := 2513) dL_law_2321 (by decide)) ?_
    exact gm_goG_rf
set_option maxRecDepth 4000 in
theorem lw_errorPosition {G : gm_G} {x : MethodName} {r : Option FieldType × List (Nat × Nat × Nat × Nat)} (hx : x.cls = RL) {n : Nat} {i : Int} {x6 x7 x8 : Option Value} {h h2 : gm_H} {b : Int} (hb : zR b) {k : Int} (hi : 0 ≤ i) (hi4 : i + 4 ≤ gm_L G) (hL : gm_L G ≤ 2048) (H : LH h h2 n mL_errorPosition [.ref n, .ref (n + 126)] mX11_errorPosition [.ref (n + 113)] k (.int (zI b))) (ho : k = 0 → ∃ g, h2.1[n + 126]? = some (gLo g) ∧ g 0 = zL b) : gm_goG G (lM x r) 14 (2324, [some (.retAddr 999), some (.ref n), some (.ref (n + 113)), some (.ref (n + 126)), some (.ref (n + 127)), some (.int (zI i)), x6, x7, x8], [], h) (2513, [some (.retAddr 999), some (.ref n), some (.ref (n + 113)), some (.ref (n + 126)), some (.ref (n + 127)), some (.int (zI i)), (some (.int (zI k))), (some (.int (zI b))), x8], [], h2) := by
  obtain ⟨h1, K1, K2, D, D0, hD, hD0, c1, hM1, c2, hM2, rfl, hk⟩ := H
  refine gm_gat (gm_aload_n dL_law_2324 rfl (by first | exact Or.inl ⟨_, rfl⟩ | exact Or.inr ⟨_, rfl⟩)) ?_
  refine gm_gat (gm_aload_n dL_law_2325 rfl (by first | exact Or.inl ⟨_, rfl⟩ | exact Or.inr ⟨_, rfl⟩)) ?_
  refine gm_gat (gm_cX dL_law_2326 (c1) rfl mx_L_errorPosition ms_L_errorPosition (ll_L_298 hx) rfl (Nat.le_of_ble_eq_true rfl) hD0) ?_
  refine gm_gat (gm_istore (ls' := [_, _, _, _, _, _, _, _, _]) dL_law_2329 (Nat.le_of_ble_eq_true rfl) rfl) ?_
  refine gm_gat (gm_aload_n dL_law_2331 rfl (by first | exact Or.inl ⟨_, rfl⟩ | exact Or.inr ⟨_, rfl⟩)) ?_
  refine gm_gat (gm_cV dL_law_2332 (c2) rfl mt_X11_errorPosition mv_X11_errorPosition (lk_L_300 hx) (Or.inl ⟨_, 12, _, _, _, rfl, hM1, rfl⟩) rfl (Nat.le_of_ble_eq_true rfl) hD) ?_
  refine gm_gat (gm_istore (ls' := [_, _, _, _, _, _, _, _, _]) dL_law_2335 (Nat.le_of_ble_eq_true rfl) rfl) ?_
  refine gm_gat (gm_aload_n dL_law_2337 rfl (by first | exact Or.inl ⟨_, rfl⟩ | exact Or.inr ⟨_, rfl⟩)) ?_
  refine gm_gat (gm_cV dL_law_2338 ((ct_mThrown hM2)) rfl mt_X11_thrown mv_X11_thrown (lk_L_148 hx) (Or.inl ⟨_, 12, _, _, _, rfl, hM2, rfl⟩) rfl (Nat.le_of_ble_eq_true rfl) (by decide)) ?_
  refine gm_gat (gm_iload dL_law_2341 rfl) ?_
  refine gm_gat (gi_icmp_eq_t (tgt := 2348) dL_law_2343 (by decide) hk hk rfl) ?_
  refine gm_gat (gm_iload dL_law_2348 rfl) ?_
  by_cases h0 : K2 0 = 0
  ·
    obtain ⟨g, o1, o2⟩ := ho h0
    refine gm_gat (gi_if_ne_f 2365 dL_law_2350 (by decide) hk h0) ?_
    refine gm_gat (gm_aload_n dL_law_2353 rfl (by first | exact Or.inl ⟨_, rfl⟩ | exact Or.inr ⟨_, rfl⟩)) ?_
    refine gm_gat (gi_const dL_law_2354) ?_
    refine gm_gat (gm_lald dL_law_2355 o1 z_0in) ?_
    rw [z_0cl, o2]
    refine gm_gat (gm_iload dL_law_2356 rfl) ?_
    refine gm_gat (gi_i2l dL_law_2358 hb) ?_
    refine gm_gat (gm_lcmp dL_law_2359) ?_
    refine gm_gat (gm_if_eq_t (tgt := 2365) dL_law_2360 (by decide) (lg_self _)) ?_
    refine gm_gat (gm_goto (tgt := 2513) dL_law_2365 (by decide)) ?_
    exact gm_goG_rf
  ·
    refine gm_gat (gi_if_ne_t (tgt := 2365) dL_law_2350 (by decide) hk h0) ?_
    refine gm_gat (gm_goto (tgt := 2513) dL_law_2365 (by decide)) ?_
    exact gm_goG_rf
set_option maxRecDepth 4000 in
theorem lw_failedCommand {G : gm_G} {x : MethodName} {r : Option FieldType × List (Nat × Nat × Nat × Nat)} (hx : x.cls = RL) {n : Nat} {i : Int} {x6 x7 x8 : Option Value} {h h2 : gm_H} {b : Int} (hb : zR b) {k : Int} (hi : 0 ≤ i) (hi4 : i + 4 ≤ gm_L G) (hL : gm_L G ≤ 2048) (H : LH h h2 n mL_failedCommand [.ref n, .ref (n + 126)] mX11_failedCommand [.ref (n + 113)] k (.int (zI b))) (ho : k = 0 → ∃ g, h2.1[n + 126]? = some (gLo g) ∧ g 0 = zL b) : gm_goG G (lM x r) 14 (2368, [some (.retAddr 999), some (.ref n), some (.ref (n + 113)), some (.ref (n + 126)), some (.ref (n + 127)), some (.int (zI i)), x6, x7, x8], [], h) (2513, [some (.retAddr 999), some (.ref n), some (.ref (n + 113)), some (.ref (n + 126)), some (.ref (n + 127)), some (.int (zI i)), (some (.int (zI k))), (some (.int (zI b))), x8], [], h2) := by
  obtain ⟨h1, K1, K2, D, D0, hD, hD0, c1, hM1, c2, hM2, rfl, hk⟩ := H
  refine gm_gat (gm_aload_n dL_law_2368 rfl (by first | exact Or.inl ⟨_, rfl⟩ | exact Or.inr ⟨_, rfl⟩)) ?_
  refine gm_gat (gm_aload_n dL_law_2369 rfl (by first | exact Or.inl ⟨_, rfl⟩ | exact Or.inr ⟨_, rfl⟩)) ?_
  refine gm_gat (gm_cX dL_law_2370 (c1) rfl mx_L_failedCommand ms_L_failedCommand (ll_L_301 hx) rfl (Nat.le_of_ble_eq_true rfl) hD0) ?_
  refine gm_gat (gm_istore (ls' := [_, _, _, _, _, _, _, _, _]) dL_law_2373 (Nat.le_of_ble_eq_true rfl) rfl) ?_
  refine gm_gat (gm_aload_n dL_law_2375 rfl (by first | exact Or.inl ⟨_, rfl⟩ | exact Or.inr ⟨_, rfl⟩)) ?_
  refine gm_gat (gm_cV dL_law_2376 (c2) rfl mt_X11_failedCommand mv_X11_failedCommand (lk_L_303 hx) (Or.inl ⟨_, 12, _, _, _, rfl, hM1, rfl⟩) rfl (Nat.le_of_ble_eq_true rfl) hD) ?_
  refine gm_gat (gm_istore (ls' := [_, _, _, _, _, _, _, _, _]) dL_law_2379 (Nat.le_of_ble_eq_true rfl) rfl) ?_
  refine gm_gat (gm_aload_n dL_law_2381 rfl (by first | exact Or.inl ⟨_, rfl⟩ | exact Or.inr ⟨_, rfl⟩)) ?_
  refine gm_gat (gm_cV dL_law_2382 ((ct_mThrown hM2)) rfl mt_X11_thrown mv_X11_thrown (lk_L_148 hx) (Or.inl ⟨_, 12, _, _, _, rfl, hM2, rfl⟩) rfl (Nat.le_of_ble_eq_true rfl) (by decide)) ?_
  refine gm_gat (gm_iload dL_law_2385 rfl) ?_
  refine gm_gat (gi_icmp_eq_t (tgt := 2392) dL_law_2387 (by decide) hk hk rfl) ?_
  refine gm_gat (gm_iload dL_law_2392 rfl) ?_
  by_cases h0 : K2 0 = 0
  ·
    obtain ⟨g, o1, o2⟩ := ho h0
    refine gm_gat (gi_if_ne_f 2409 dL_law_2394 (by decide) hk h0) ?_
    refine gm_gat (gm_aload_n dL_law_2397 rfl (by first | exact Or.inl ⟨_, rfl⟩ | exact Or.inr ⟨_, rfl⟩)) ?_
    refine gm_gat (gi_const dL_law_2398) ?_
    refine gm_gat (gm_lald dL_law_2399 o1 z_0in) ?_
    rw [z_0cl, o2]
    refine gm_gat (gm_iload dL_law_2400 rfl) ?_
    refine gm_gat (gi_i2l dL_law_2402 hb) ?_
    refine gm_gat (gm_lcmp dL_law_2403) ?_
    refine gm_gat (gm_if_eq_t (tgt := 2409) dL_law_2404 (by decide) (lg_self _)) ?_
    refine gm_gat (gm_goto (tgt := 2513) dL_law_2409 (by decide)) ?_
    exact gm_goG_rf
  ·
    refine gm_gat (gi_if_ne_t (tgt := 2409) dL_law_2394 (by decide) hk h0) ?_
    refine gm_gat (gm_goto (tgt := 2513) dL_law_2409 (by decide)) ?_
    exact gm_goG_rf
set_option maxRecDepth 4000 in
theorem lw_undo {G : gm_G} {x : MethodName} {r : Option FieldType × List (Nat × Nat × Nat × Nat)} (hx : x.cls = RL) {n : Nat} {i : Int} {x6 x7 x8 : Option Value} {h h2 : gm_H} {b : Int} (hb : zR b) {k : Int} (hi : 0 ≤ i) (hi4 : i + 4 ≤ gm_L G) (hL : gm_L G ≤ 2048) (H : LH h h2 n mL_undo [.ref n, .ref (n + 126)] mX11_undo [.ref (n + 113)] k (.int (zI b))) (ho : k = 0 → ∃ g, h2.1[n + 126]? = some (gLo g) ∧ g 0 = zL b) : gm_goG G (lM x r) 14 (2412, [some (.retAddr 999), some (.ref n), some (.ref (n + 113)), some (.ref (n + 126)), some (.ref (n + 127)), some (.int (zI i)), x6, x7, x8], [], h) (2513, [some (.retAddr 999), some (.ref n), some (.ref (n + 113)), some (.ref (n + 126)), some (.ref (n + 127)), some (.int (zI i)), (some (.int (zI k))), (some (.int (zI b))), x8], [], h2) := by
  obtain ⟨h1, K1, K2, D, D0, hD, hD0, c1, hM1, c2, hM2, rfl, hk⟩ := H
  refine gm_gat (gm_aload_n dL_law_2412 rfl (by first | exact Or.inl ⟨_, rfl⟩ | exact Or.inr ⟨_, rfl⟩)) ?_
  refine gm_gat (gm_aload_n dL_law_2413 rfl (by first | exact Or.inl ⟨_, rfl⟩ | exact Or.inr ⟨_, rfl⟩)) ?_
  refine gm_gat (gm_cX dL_law_2414 (c1) rfl mx_L_undo ms_L_undo (ll_L_304 hx) rfl (Nat.le_of_ble_eq_true rfl) hD0) ?_
  refine gm_gat (gm_istore (ls' := [_, _, _, _, _, _, _, _, _]) dL_law_2417 (Nat.le_of_ble_eq_true rfl) rfl) ?_
  refine gm_gat (gm_aload_n dL_law_2419 rfl (by first | exact Or.inl ⟨_, rfl⟩ | exact Or.inr ⟨_, rfl⟩)) ?_
  refine gm_gat (gm_cV dL_law_2420 (c2) rfl mt_X11_undo mv_X11_undo (lk_L_306 hx) (Or.inl ⟨_, 12, _, _, _, rfl, hM1, rfl⟩) rfl (Nat.le_of_ble_eq_true rfl) hD) ?_
  refine gm_gat (gm_istore (ls' := [_, _, _, _, _, _, _, _, _]) dL_law_2423 (Nat.le_of_ble_eq_true rfl) rfl) ?_
  refine gm_gat (gm_aload_n dL_law_2425 rfl (by first | exact Or.inl ⟨_, rfl⟩ | exact Or.inr ⟨_, rfl⟩)) ?_
  refine gm_gat (gm_cV dL_law_2426 ((ct_mThrown hM2)) rfl mt_X11_thrown mv_X11_thrown (lk_L_148 hx) (Or.inl ⟨_, 12, _, _, _, rfl, hM2, rfl⟩) rfl (Nat.le_of_ble_eq_true rfl) (by decide)) ?_
  refine gm_gat (gm_iload dL_law_2429 rfl) ?_
  refine gm_gat (gi_icmp_eq_t (tgt := 2436) dL_law_2431 (by decide) hk hk rfl) ?_
  refine gm_gat (gm_iload dL_law_2436 rfl) ?_
  by_cases h0 : K2 0 = 0
  ·
    obtain ⟨g, o1, o2⟩ := ho h0
    refine gm_gat (gi_if_ne_f 2453 dL_law_2438 (by decide) hk h0) ?_
    refine gm_gat (gm_aload_n dL_law_2441 rfl (by first | exact Or.inl ⟨_, rfl⟩ | exact Or.inr ⟨_, rfl⟩)) ?_
    refine gm_gat (gi_const dL_law_2442) ?_
    refine gm_gat (gm_lald dL_law_2443 o1 z_0in) ?_
    rw [z_0cl, o2]
    refine gm_gat (gm_iload dL_law_2444 rfl) ?_
    refine gm_gat (gi_i2l dL_law_2446 hb) ?_
    refine gm_gat (gm_lcmp dL_law_2447) ?_
    refine gm_gat (gm_if_eq_t (tgt := 2453) dL_law_2448 (by decide) (lg_self _)) ?_
    refine gm_gat (gm_goto (tgt := 2513) dL_law_2453 (by decide)) ?_
    exact gm_goG_rf
  ·
    refine gm_gat (gi_if_ne_t (tgt := 2453) dL_law_2438 (by decide) hk h0) ?_
    refine gm_gat (gm_goto (tgt := 2513) dL_law_2453 (by decide)) ?_
    exact gm_goG_rf
set_option maxRecDepth 4000 in
theorem lw_save {G : gm_G} {x : MethodName} {r : Option FieldType × List (Nat × Nat × Nat × Nat)} (hx : x.cls = RL) {n : Nat} {i : Int} {x6 x7 x8 : Option Value} {h h2 : gm_H} {b : Int} (hb : zR b) (H : LQ h h2 n mX10_save mX11_save (.int (zI b))) : gm_goG G (lM x r) 14 (2456, [some (.retAddr 999), some (.ref n), some (.ref (n + 113)), some (.ref (n + 126)), some (.ref (n + 127)), some (.int (zI i)), x6, x7, x8], [], h) (2513, [some (.retAddr 999), some (.ref n), some (.ref (n + 113)), some (.ref (n + 126)), some (.ref (n + 127)), some (.int (zI i)), x6, x7, x8], [], h2) := by
  obtain ⟨h1, s, e, f, K1, D1, D2, hD1, hD2, hB, c1, hM1, c2⟩ := H
  refine gm_gat (gm_aload_n dL_law_2456 rfl (by first | exact Or.inl ⟨_, rfl⟩ | exact Or.inr ⟨_, rfl⟩)) ?_
  refine gm_gat (gm_cV dL_law_2457 (c1) rfl mt_X10_save mv_X10_save (lk_L_307 hx) (Or.inl ⟨_, 11, _, _, _, rfl, hB, rfl⟩) rfl (Nat.le_of_ble_eq_true rfl) hD1) ?_
  refine gm_gat (gm_aload_n dL_law_2460 rfl (by first | exact Or.inl ⟨_, rfl⟩ | exact Or.inr ⟨_, rfl⟩)) ?_
  refine gm_gat (gm_cV dL_law_2461 (c2) rfl mt_X11_save mv_X11_save (lk_L_310 hx) (Or.inl ⟨_, 12, _, _, _, rfl, hM1, rfl⟩) rfl (Nat.le_of_ble_eq_true rfl) hD2) ?_
  refine gm_gat (gi_icmp_eq_t (tgt := 2513) dL_law_2464 (by decide) hb hb rfl) ?_
  exact gm_goG_rf
set_option maxRecDepth 4000 in
theorem lw_restore {G : gm_G} {x : MethodName} {r : Option FieldType × List (Nat × Nat × Nat × Nat)} (hx : x.cls = RL) {n : Nat} {i : Int} {x6 x7 x8 : Option Value} {h h2 : gm_H} {b : Int} (hb : zR b) {k : Int} (hi : 0 ≤ i) (hi4 : i + 4 ≤ gm_L G) (hL : gm_L G ≤ 2048) (H : LH h h2 n mL_restore [.ref n, .ref (n + 126)] mX11_restore [.ref (n + 113)] k (.int (zI b))) (ho : k = 0 → ∃ g, h2.1[n + 126]? = some (gLo g) ∧ g 0 = zL b) : gm_goG G (lM x r) 14 (2469, [some (.retAddr 999), some (.ref n), some (.ref (n + 113)), some (.ref (n + 126)), some (.ref (n + 127)), some (.int (zI i)), x6, x7, x8], [], h) (2513, [some (.retAddr 999), some (.ref n), some (.ref (n + 113)), some (.ref (n + 126)), some (.ref (n + 127)), some (.int (zI i)), (some (.int (zI k))), (some (.int (zI b))), x8], [], h2) := by
  obtain ⟨h1, K1, K2, D, D0, hD, hD0, c1, hM1, c2, hM2, rfl, hk⟩ := H
  refine gm_gat (gm_aload_n dL_law_2469 rfl (by first | exact Or.inl ⟨_, rfl⟩ | exact Or.inr ⟨_, rfl⟩)) ?_
  refine gm_gat (gm_aload_n dL_law_2470 rfl (by first | exact Or.inl ⟨_, rfl⟩ | exact Or.inr ⟨_, rfl⟩)) ?_
  refine gm_gat (gm_cX dL_law_2471 (c1) rfl mx_L_restore ms_L_restore (ll_L_311 hx) rfl (Nat.le_of_ble_eq_true rfl) hD0) ?_
  refine gm_gat (gm_istore (ls' := [_, _, _, _, _, _, _, _, _]) dL_law_2474 (Nat.le_of_ble_eq_true rfl) rfl) ?_
  refine gm_gat (gm_aload_n dL_law_2476 rfl (by first | exact Or.inl ⟨_, rfl⟩ | exact Or.inr ⟨_, rfl⟩)) ?_
  refine gm_gat (gm_cV dL_law_2477 (c2) rfl mt_X11_restore mv_X11_restore (lk_L_313 hx) (Or.inl ⟨_, 12, _, _, _, rfl, hM1, rfl⟩) rfl (Nat.le_of_ble_eq_true rfl) hD) ?_
  refine gm_gat (gm_istore (ls' := [_, _, _, _, _, _, _, _, _]) dL_law_2480 (Nat.le_of_ble_eq_true rfl) rfl) ?_
  refine gm_gat (gm_aload_n dL_law_2482 rfl (by first | exact Or.inl ⟨_, rfl⟩ | exact Or.inr ⟨_, rfl⟩)) ?_
  refine gm_gat (gm_cV dL_law_2483 ((ct_mThrown hM2)) rfl mt_X11_thrown mv_X11_thrown (lk_L_148 hx) (Or.inl ⟨_, 12, _, _, _, rfl, hM2, rfl⟩) rfl (Nat.le_of_ble_eq_true rfl) (by decide)) ?_
  refine gm_gat (gm_iload dL_law_2486 rfl) ?_
  refine gm_gat (gi_icmp_eq_t (tgt := 2493) dL_law_2488 (by decide) hk hk rfl) ?_
  refine gm_gat (gm_iload dL_law_2493 rfl) ?_
  by_cases h0 : K2 0 = 0
  ·
    obtain ⟨g, o1, o2⟩ := ho h0
    refine gm_gat (gi_if_ne_f 2510 dL_law_2495 (by decide) hk h0) ?_
    refine gm_gat (gm_aload_n dL_law_2498 rfl (by first | exact Or.inl ⟨_, rfl⟩ | exact Or.inr ⟨_, rfl⟩)) ?_
    refine gm_gat (gi_const dL_law_2499) ?_
    refine gm_gat (gm_lald dL_law_2500 o1 z_0in) ?_
    rw [z_0cl, o2]
    refine gm_gat (gm_iload dL_law_2501 rfl) ?_
    refine gm_gat (gi_i2l dL_law_2503 hb) ?_
    refine gm_gat (gm_lcmp dL_law_2504) ?_
    refine gm_gat (gm_if_eq_t (tgt := 2510) dL_law_2505 (by decide) (lg_self _)) ?_
    refine gm_gat (gm_goto (tgt := 2513) dL_law_2510 (by decide)) ?_
    exact gm_goG_rf
  ·
    refine gm_gat (gi_if_ne_t (tgt := 2510) dL_law_2495 (by decide) hk h0) ?_
    refine gm_gat (gm_goto (tgt := 2513) dL_law_2510 (by decide)) ?_
    exact gm_goG_rf
