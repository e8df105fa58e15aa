theorem and63 (x : Int32) : 0 ≤ (x &&& zI 63).toInt ∧ (x &&& zI 63).toInt ≤ 63 := by
  have h1 : (x &&& zI 63).toBitVec = x.toBitVec &&& (zI 63).toBitVec := Int32.toBitVec_and x (zI 63)
  have h2 : (x &&& zI 63).toBitVec.toNat ≤ 63 := by
    rw [h1, BitVec.toNat_and]
    exact Nat.and_le_right
  have h3 : (x &&& zI 63).toInt = (x &&& zI 63).toBitVec.toInt := rfl
  rw [h3, BitVec.toInt_eq_toNat_of_lt (by omega)]
  omega
theorem gm_hG {G : gm_G} {M : gm_M} {d pc : Nat} {ls : List (Option Value)} {st : List Value} {h h' : gm_H} {g : gm_fr} (e : h' = h) (k : gm_goG G M d (pc, ls, st, h') g) : gm_goG G M d (pc, ls, st, h) g := e ▸ k
theorem zV0_iv : st_iv 0 zV0 := by
  have e : ∀ k, k ≠ 1 → zV0 k = 0 := fun k hk => if_neg hk
  have e1 : zV0 1 = 10 := if_pos rfl
  refine ⟨⟨by rw [e 0 (by omega)]; omega, by rw [e1]; omega, fun i hi => by rw [e _ (by omega)]; omega, fun i hi => Or.inl (e _ (by omega)), fun i hi j hj => by rw [e _ (by omega)]; omega, fun i hi hi8 j hj => e _ (by omega)⟩, ?_⟩
  refine ⟨by rw [e 2 (by omega)]; omega, by rw [e 3 (by omega)]; omega, by rw [e 4 (by omega)]; omega, by rw [e 5 (by omega)]; omega, by rw [e 6 (by omega)]; omega, by rw [e 7 (by omega)]; omega, by rw [e 8 (by omega)]; omega, by omega, fun k hk => ?_⟩
  rw [e 4 (by omega)] at hk
  omega
theorem li_up {h : gm_H} {n J R : Nat} (I : LI h n J R) : LI h n (J + 1) (R + 1) := by
  obtain ⟨K, F, S, P, X, Ln, c, L, g, T, hM, hB, hO, hN, hT⟩ := I
  exact ⟨K, F, S, P, X, Ln, c, L, g, T, hM, lb_up hB, hO, hN, by omega⟩
set_option maxRecDepth 4000 in
theorem lw_pro {G : gm_G} {x : MethodName} {r : Option FieldType × List (Nat × Nat × Nat × Nat)} (hx : x.cls = RL) {n : Nat} {h : gm_H} (hl : h.1.length = n) (h2 : h.2 = (0, 0)) : ∃ h', gm_goG G (lM x r) 14 (0, [some (.retAddr 999), none, none, none, none, none, none, none, none], [], h) (28, [some (.retAddr 999), some (.ref n), some (.ref (n + 113)), some (.ref (n + 126)), some (.ref (n + 127)), some (.int (zI 0)), none, none, none], [], h') ∧ LI h' n 0 0 := by
  obtain ⟨a1, ha1, la1, na1, ea1, ta1⟩ := al_new (h := h) (b := h) (n := n) (.inr (11, [.null, .null, .int 0, .null, .null, .null, .null, .null, .null, .int 0, .int 0])) 11 hl (Nat.le_refl n) al_rf
  obtain ⟨d1, i1, ld1, q1, q2, q3, q4, q5, q6, q7, q8, q9, g1⟩ := ct_byInit la1 na1
  have t1 := al_tr ta1 g1 (Nat.le_refl n)
  obtain ⟨a2, ha2, la2, na2, ea2, ta2⟩ := al_new (.inr (12, [.int 0, .int 0, .int 0, .int 0, .int 0, .null, .null, .null, .null, .null, .null, .null, .null, .null, .null, .null, .null, .int 0, .int 0, .int 0, .int 0, .int 0, .int 0])) 23 ld1 (show n ≤ n + 113 by omega) t1
  obtain ⟨d2, i2, ld2, r0, r1, r2, r3, r4, r5, r6, r7, r8, r9, r10, g2⟩ := ct_mdInit la2 na2
  have t2 := al_tr ta2 g2 (show n ≤ n + 113 by omega)
  have ld2 : d2.1.length = n + 126 := ld2
  obtain ⟨a3, ha3, la3, na3, ea3, ta3⟩ := al_new (gLo (fun _ => 0)) 1 ld2 (show n ≤ n + 126 by omega) t2
  obtain ⟨a4, ha4, la4, na4, ea4, ta4⟩ := al_new (gDo (fun _ => 0)) 1 la3 (show n ≤ n + 126 + 1 by omega) ta3
  have x2 : ∀ k, k < n + 126 → a4.1[k]? = d2.1[k]? := fun k hk => (ea4 k (by omega)).trans (ea3 k hk)
  have x1 : ∀ k, k < n + 113 → a4.1[k]? = d1.1[k]? := fun k hk => (x2 k (by omega)).trans ((g2.2 k hk).trans (ea2 k hk))
  have hr := ta4.1
  rw [h2] at hr
  have M4 : LM a4 (n + 113) zMK0 zV0 (fun _ => 0) (fun _ => 0) (fun _ => 0) (fun _ => 0) := lm_mv (fun k p q => x2 k (by omega)) ⟨r0, r1, ⟨_, r2⟩, r3, r4, ⟨_, r5⟩, ⟨_, r6⟩, ⟨_, r7⟩, r9, r10⟩
  have B4 : LB a4 n 0 (-1) (-1) zV0 (fun _ => 0) (zSt8 (fun _ => 0)) (fun _ => 0) (fun _ => 0) 0 0 0 0 := ⟨(x1 n (by omega)).trans q1, st_mv (fun k p q => x1 k (by omega)) q2, ⟨zV0, st_mv (fun k p q => x1 k (by omega)) q3, fun z => absurd z (by decide)⟩, hi_cg (hi_mv (fun k p q => x1 k (by omega)) q4) (fun i hi => absurd hi (by omega)), ⟨_, _, pr_mv (fun k p q => x1 k (by omega)) q5⟩, ⟨_, or_mv (fun k p q => x1 k (by omega)) q6⟩, ⟨_, (x1 _ (by omega)).trans q7⟩, ⟨_, _, _, _, pg_mv (fun k p q => x1 k (by omega)) q9⟩, _, sbr_mv (x1 _ (by omega)) (x1 (n + 108 + 1) (by omega)) q8, Or.inl rfl, by rw [hr]; exact (by decide : 0 + (0 + 1 + 112 + 1 + 12 + 1 + 1) + zq1 16 ≤ 200 + 0), by rw [hr]; exact (by decide : 0 + (0 + 11 + 2143 + 23 + 2243 + 1 + 1) + zq2 16 ≤ 6000 + 6 * 0)⟩
  have O4 : LO a4 n := ⟨⟨_, (ea4 _ (by omega)).trans na3⟩, ⟨_, na4⟩, by rw [la4]; omega⟩
  refine ⟨a4, ?_, zMK0, zV0, _, _, _, _, 0, 0, 0, 0, M4, B4, O4, ⟨rfl, by omega, Or.inl rfl, (by decide), (by decide), rfl, ⟨by omega, fun i hi => absurd hi (by omega)⟩, rfl, by omega, zV0_iv, fun z => absurd z (by decide), fun i hi => absurd hi (by omega)⟩, by omega⟩
  clear M4 B4 O4 x1 x2 hr t1 t2 ta2 ta3 ta4 ea1 ea2 ea3 ea4
  refine gm_gat (gm_new dL_law_0 (nc_L_8 hx)) ?_
  rw [hl]; refine gm_hG ha1 ?_
  refine gm_gat (gm_dup dL_law_3 rfl) ?_
  refine gm_gat (gm_cI dL_law_4 (i1) rfl mt_X10_init mi_X10_init (lk_L_138 hx) (Or.inl ⟨_, 11, _, _, _, rfl, na1, rfl⟩) rfl (Nat.le_of_ble_eq_true rfl) (by decide)) ?_
  refine gm_gat (gm_astore_n (ls' := [_, _, _, _, _, _, _, _, _]) dL_law_7 (by first | exact Or.inl ⟨_, rfl⟩ | exact Or.inr ⟨_, rfl⟩) (Nat.le_of_ble_eq_true rfl) rfl) ?_
  refine gm_gat (gm_new dL_law_8 (nc_L_139 hx)) ?_
  rw [ld1]; refine gm_hG ha2 ?_
  refine gm_gat (gm_dup dL_law_11 rfl) ?_
  refine gm_gat (gm_cI dL_law_12 (i2) rfl mt_X11_init mi_X11_init (lk_L_141 hx) (Or.inl ⟨_, 12, _, _, _, rfl, na2, rfl⟩) rfl (Nat.le_of_ble_eq_true rfl) (by decide)) ?_
  refine gm_gat (gm_astore_n (ls' := [_, _, _, _, _, _, _, _, _]) dL_law_15 (by first | exact Or.inl ⟨_, rfl⟩ | exact Or.inr ⟨_, rfl⟩) (Nat.le_of_ble_eq_true rfl) rfl) ?_
  refine gm_gat (gi_const dL_law_16) ?_
  refine gm_gat (gm_newa_long (N := 1) dL_law_17 ac_long (by decide) rfl (by decide)) ?_
  rw [ld2]; refine gm_hG ha3 ?_
  refine gm_gat (gm_astore_n (ls' := [_, _, _, _, _, _, _, _, _]) dL_law_19 (by first | exact Or.inl ⟨_, rfl⟩ | exact Or.inr ⟨_, rfl⟩) (Nat.le_of_ble_eq_true rfl) rfl) ?_
  refine gm_gat (gi_const dL_law_20) ?_
  refine gm_gat (gm_newa_double (N := 1) dL_law_21 ac_double (by decide) rfl (by decide)) ?_
  rw [la3]; refine gm_hG ha4 ?_
  refine gm_gat (gm_astore (ls' := [_, _, _, _, _, _, _, _, _]) dL_law_23 (by first | exact Or.inl ⟨_, rfl⟩ | exact Or.inr ⟨_, rfl⟩) (Nat.le_of_ble_eq_true rfl) rfl) ?_
  refine gm_gat (gi_const dL_law_25) ?_
  refine gm_gat (gm_istore (ls' := [_, _, _, _, _, _, _, _, _]) dL_law_26 (Nat.le_of_ble_eq_true rfl) rfl) ?_
  exact gm_goG_rf
theorem cs_0 {G : gm_G} {x : MethodName} {r : Option FieldType × List (Nat × Nat × Nat × Nat)} (hx : x.cls = RL) {n J R : Nat} {i : Int} {x6 x7 x8 : Option Value} {h : gm_H} {y : Int32} (hi : 0 ≤ i) (hi4 : i + 4 ≤ gm_L G) (hL : gm_L G ≤ 2048) (I : LI h n J R) (hJ : J < 600) (hy : y.toInt = 0) : ∃ a6 a7 a8 h', gm_goG G (lM x r) 14 (44, [some (.retAddr 999), some (.ref n), some (.ref (n + 113)), some (.ref (n + 126)), some (.ref (n + 127)), some (.int (zI i)), x6, x7, x8], [.int y], h) (2513, [some (.retAddr 999), some (.ref n), some (.ref (n + 113)), some (.ref (n + 126)), some (.ref (n + 127)), some (.int (zI i)), a6, a7, a8], [], h') ∧ LI h' n (J + 1) (R + 1) := by
  obtain ⟨h2, k, b, H, hb, ho, I2⟩ := lo_addNeedle (a := gx G (i + 1))  I hJ (gx_r _)
  exact ⟨_, _, _, h2, gm_gat (gm_tabIn dL_law_44 (by rw [hy]; decide) (by rw [hy]; decide) (by rw [hy]; rfl) (show (44 : Int) + 212 = (256 : Nat) by decide)) (lw_addNeedle hx hb hi hi4 hL H ho), I2⟩
theorem cs_1 {G : gm_G} {x : MethodName} {r : Option FieldType × List (Nat × Nat × Nat × Nat)} (hx : x.cls = RL) {n J R : Nat} {i : Int} {x6 x7 x8 : Option Value} {h : gm_H} {y : Int32} (hi : 0 ≤ i) (hi4 : i + 4 ≤ gm_L G) (hL : gm_L G ≤ 2048) (I : LI h n J R) (hJ : J < 600) (hy : y.toInt = 1) : ∃ a6 a7 a8 h', gm_goG G (lM x r) 14 (44, [some (.retAddr 999), some (.ref n), some (.ref (n + 113)), some (.ref (n + 126)), some (.ref (n + 127)), some (.int (zI i)), x6, x7, x8], [.int y], h) (2513, [some (.retAddr 999), some (.ref n), some (.ref (n + 113)), some (.ref (n + 126)), some (.ref (n + 127)), some (.int (zI i)), a6, a7, a8], [], h') ∧ LI h' n (J + 1) (R + 1) := by
  obtain ⟨h2, k, b, H, hb, ho, I2⟩ := lo_setDeviation (a := gx G (i + 1))  (b := gx G (i + 2))  (c := gx G (i + 3))  I hJ (gx_r _) (gx_r _) (gx_r _)
  exact ⟨_, _, _, h2, gm_gat (gm_tabIn dL_law_44 (by rw [hy]; decide) (by rw [hy]; decide) (by rw [hy]; rfl) (show (44 : Int) + 268 = (312 : Nat) by decide)) (lw_setDeviation hx hb hi hi4 hL H ho), I2⟩
theorem cs_2 {G : gm_G} {x : MethodName} {r : Option FieldType × List (Nat × Nat × Nat × Nat)} (hx : x.cls = RL) {n J R : Nat} {i : Int} {x6 x7 x8 : Option Value} {h : gm_H} {y : Int32} (hi : 0 ≤ i) (hi4 : i + 4 ≤ gm_L G) (hL : gm_L G ≤ 2048) (I : LI h n J R) (hJ : J < 600) (hy : y.toInt = 2) : ∃ a6 a7 a8 h', gm_goG G (lM x r) 14 (44, [some (.retAddr 999), some (.ref n), some (.ref (n + 113)), some (.ref (n + 126)), some (.ref (n + 127)), some (.int (zI i)), x6, x7, x8], [.int y], h) (2513, [some (.retAddr 999), some (.ref n), some (.ref (n + 113)), some (.ref (n + 126)), some (.ref (n + 127)), some (.int (zI i)), a6, a7, a8], [], h') ∧ LI h' n (J + 1) (R + 1) := by
  obtain ⟨h2, k, b, H, hb, ho, I2⟩ := lo_shift (a := gx G (i + 1))  (b := gx G (i + 2))  I hJ (gx_r _) (gx_r _)
  exact ⟨_, _, _, h2, gm_gat (gm_tabIn dL_law_44 (by rw [hy]; decide) (by rw [hy]; decide) (by rw [hy]; rfl) (show (44 : Int) + 348 = (392 : Nat) by decide)) (lw_shift hx hb hi hi4 hL H ho), I2⟩
theorem cs_3 {G : gm_G} {x : MethodName} {r : Option FieldType × List (Nat × Nat × Nat × Nat)} (hx : x.cls = RL) {n J R : Nat} {i : Int} {x6 x7 x8 : Option Value} {h : gm_H} {y : Int32} (hi : 0 ≤ i) (hi4 : i + 4 ≤ gm_L G) (hL : gm_L G ≤ 2048) (I : LI h n J R) (hJ : J < 600) (hy : y.toInt = 3) : ∃ a6 a7 a8 h', gm_goG G (lM x r) 14 (44, [some (.retAddr 999), some (.ref n), some (.ref (n + 113)), some (.ref (n + 126)), some (.ref (n + 127)), some (.int (zI i)), x6, x7, x8], [.int y], h) (2513, [some (.retAddr 999), some (.ref n), some (.ref (n + 113)), some (.ref (n + 126)), some (.ref (n + 127)), some (.int (zI i)), a6, a7, a8], [], h') ∧ LI h' n (J + 1) (R + 1) := by
  obtain ⟨h2, k, b, H, hb, ho, I2⟩ := lo_correct (a := gx G (i + 1))  I hJ (gx_r _)
  exact ⟨_, _, _, h2, gm_gat (gm_tabIn dL_law_44 (by rw [hy]; decide) (by rw [hy]; decide) (by rw [hy]; rfl) (show (44 : Int) + 416 = (460 : Nat) by decide)) (lw_correct hx hb hi hi4 hL H ho), I2⟩
theorem cs_4 {G : gm_G} {x : MethodName} {r : Option FieldType × List (Nat × Nat × Nat × Nat)} (hx : x.cls = RL) {n J R : Nat} {i : Int} {x6 x7 x8 : Option Value} {h : gm_H} {y : Int32} (hi : 0 ≤ i) (hi4 : i + 4 ≤ gm_L G) (hL : gm_L G ≤ 2048) (I : LI h n J R) (hJ : J < 600) (hy : y.toInt = 4) : ∃ a6 a7 a8 h', gm_goG G (lM x r) 14 (44, [some (.retAddr 999), some (.ref n), some (.ref (n + 113)), some (.ref (n + 126)), some (.ref (n + 127)), some (.int (zI i)), x6, x7, x8], [.int y], h) (2513, [some (.retAddr 999), some (.ref n), some (.ref (n + 113)), some (.ref (n + 126)), some (.ref (n + 127)), some (.int (zI i)), a6, a7, a8], [], h') ∧ LI h' n (J + 1) (R + 1) := by
  obtain ⟨h2, k, b, H, hb, ho, I2⟩ := lo_discard (a := gx G (i + 1))  I hJ (gx_r _)
  exact ⟨_, _, _, h2, gm_gat (gm_tabIn dL_law_44 (by rw [hy]; decide) (by rw [hy]; decide) (by rw [hy]; rfl) (show (44 : Int) + 472 = (516 : Nat) by decide)) (lw_discard hx hb hi hi4 hL H ho), I2⟩
theorem cs_5 {G : gm_G} {x : MethodName} {r : Option FieldType × List (Nat × Nat × Nat × Nat)} (hx : x.cls = RL) {n J R : Nat} {i : Int} {x6 x7 x8 : Option Value} {h : gm_H} {y : Int32} (hi : 0 ≤ i) (hi4 : i + 4 ≤ gm_L G) (hL : gm_L G ≤ 2048) (I : LI h n J R) (hJ : J < 600) (hy : y.toInt = 5) : ∃ a6 a7 a8 h', gm_goG G (lM x r) 14 (44, [some (.retAddr 999), some (.ref n), some (.ref (n + 113)), some (.ref (n + 126)), some (.ref (n + 127)), some (.int (zI i)), x6, x7, x8], [.int y], h) (2513, [some (.retAddr 999), some (.ref n), some (.ref (n + 113)), some (.ref (n + 126)), some (.ref (n + 127)), some (.int (zI i)), a6, a7, a8], [], h') ∧ LI h' n (J + 1) (R + 1) := by
  obtain ⟨h2, k, b, H, hb, ho, I2⟩ := lo_setTolerance (a := gx G (i + 1))  I hJ (gx_r _)
  exact ⟨_, _, _, h2, gm_gat (gm_tabIn dL_law_44 (by rw [hy]; decide) (by rw [hy]; decide) (by rw [hy]; rfl) (show (44 : Int) + 528 = (572 : Nat) by decide)) (lw_setTolerance hx hb hi hi4 hL H ho), I2⟩
theorem cs_6 {G : gm_G} {x : MethodName} {r : Option FieldType × List (Nat × Nat × Nat × Nat)} (hx : x.cls = RL) {n J R : Nat} {i : Int} {x6 x7 x8 : Option Value} {h : gm_H} {y : Int32} (hi : 0 ≤ i) (hi4 : i + 4 ≤ gm_L G) (hL : gm_L G ≤ 2048) (I : LI h n J R) (hJ : J < 600) (hy : y.toInt = 6) : ∃ a6 a7 a8 h', gm_goG G (lM x r) 14 (44, [some (.retAddr 999), some (.ref n), some (.ref (n + 113)), some (.ref (n + 126)), some (.ref (n + 127)), some (.int (zI i)), x6, x7, x8], [.int y], h) (2513, [some (.retAddr 999), some (.ref n), some (.ref (n + 113)), some (.ref (n + 126)), some (.ref (n + 127)), some (.int (zI i)), a6, a7, a8], [], h') ∧ LI h' n (J + 1) (R + 1) := by
  obtain ⟨h2, b, hb, H, I2⟩ := lo_needleCount I hJ
  exact ⟨_, _, _, h2, gm_gat (gm_tabIn dL_law_44 (by rw [hy]; decide) (by rw [hy]; decide) (by rw [hy]; rfl) (show (44 : Int) + 584 = (628 : Nat) by decide)) (lw_needleCount hx hb H), I2⟩
theorem cs_7 {G : gm_G} {x : MethodName} {r : Option FieldType × List (Nat × Nat × Nat × Nat)} (hx : x.cls = RL) {n J R : Nat} {i : Int} {x6 x7 x8 : Option Value} {h : gm_H} {y : Int32} (hi : 0 ≤ i) (hi4 : i + 4 ≤ gm_L G) (hL : gm_L G ≤ 2048) (I : LI h n J R) (hJ : J < 600) (hy : y.toInt = 7) : ∃ a6 a7 a8 h', gm_goG G (lM x r) 14 (44, [some (.retAddr 999), some (.ref n), some (.ref (n + 113)), some (.ref (n + 126)), some (.ref (n + 127)), some (.int (zI i)), x6, x7, x8], [.int y], h) (2513, [some (.retAddr 999), some (.ref n), some (.ref (n + 113)), some (.ref (n + 126)), some (.ref (n + 127)), some (.int (zI i)), a6, a7, a8], [], h') ∧ LI h' n (J + 1) (R + 1) := by
  obtain ⟨h2, k, b, H, hb, ho, I2⟩ := lo_strengthOf (a := gx G (i + 1))  I hJ (gx_r _)
  exact ⟨_, _, _, h2, gm_gat (gm_tabIn dL_law_44 (by rw [hy]; decide) (by rw [hy]; decide) (by rw [hy]; rfl) (show (44 : Int) + 597 = (641 : Nat) by decide)) (lw_strengthOf hx hb hi hi4 hL H ho), I2⟩
theorem cs_8 {G : gm_G} {x : MethodName} {r : Option FieldType × List (Nat × Nat × Nat × Nat)} (hx : x.cls = RL) {n J R : Nat} {i : Int} {x6 x7 x8 : Option Value} {h : gm_H} {y : Int32} (hi : 0 ≤ i) (hi4 : i + 4 ≤ gm_L G) (hL : gm_L G ≤ 2048) (I : LI h n J R) (hJ : J < 600) (hy : y.toInt = 8) : ∃ a6 a7 a8 h', gm_goG G (lM x r) 14 (44, [some (.retAddr 999), some (.ref n), some (.ref (n + 113)), some (.ref (n + 126)), some (.ref (n + 127)), some (.int (zI i)), x6, x7, x8], [.int y], h) (2513, [some (.retAddr 999), some (.ref n), some (.ref (n + 113)), some (.ref (n + 126)), some (.ref (n + 127)), some (.int (zI i)), a6, a7, a8], [], h') ∧ LI h' n (J + 1) (R + 1) := by
  obtain ⟨h2, k, b, H, ho, I2⟩ := lo_isDiscarded (a := gx G (i + 1))  I hJ (gx_r _)
  exact ⟨_, _, _, h2, gm_gat (gm_tabIn dL_law_44 (by rw [hy]; decide) (by rw [hy]; decide) (by rw [hy]; rfl) (show (44 : Int) + 653 = (697 : Nat) by decide)) (lw_isDiscarded hx hi hi4 hL H ho), I2⟩
theorem cs_9 {G : gm_G} {x : MethodName} {r : Option FieldType × List (Nat × Nat × Nat × Nat)} (hx : x.cls = RL) {n J R : Nat} {i : Int} {x6 x7 x8 : Option Value} {h : gm_H} {y : Int32} (hi : 0 ≤ i) (hi4 : i + 4 ≤ gm_L G) (hL : gm_L G ≤ 2048) (I : LI h n J R) (hJ : J < 600) (hy : y.toInt = 9) : ∃ a6 a7 a8 h', gm_goG G (lM x r) 14 (44, [some (.retAddr 999), some (.ref n), some (.ref (n + 113)), some (.ref (n + 126)), some (.ref (n + 127)), some (.int (zI i)), x6, x7, x8], [.int y], h) (2513, [some (.retAddr 999), some (.ref n), some (.ref (n + 113)), some (.ref (n + 126)), some (.ref (n + 127)), some (.int (zI i)), a6, a7, a8], [], h') ∧ LI h' n (J + 1) (R + 1) := by
  obtain ⟨h2, k, b, H, ho, I2⟩ := lo_isReject (a := gx G (i + 1))  I hJ (gx_r _)
  exact ⟨_, _, _, h2, gm_gat (gm_tabIn dL_law_44 (by rw [hy]; decide) (by rw [hy]; decide) (by rw [hy]; rfl) (show (44 : Int) + 716 = (760 : Nat) by decide)) (lw_isReject hx hi hi4 hL H ho), I2⟩
theorem cs_10 {G : gm_G} {x : MethodName} {r : Option FieldType × List (Nat × Nat × Nat × Nat)} (hx : x.cls = RL) {n J R : Nat} {i : Int} {x6 x7 x8 : Option Value} {h : gm_H} {y : Int32} (hi : 0 ≤ i) (hi4 : i + 4 ≤ gm_L G) (hL : gm_L G ≤ 2048) (I : LI h n J R) (hJ : J < 600) (hy : y.toInt = 10) : ∃ a6 a7 a8 h', gm_goG G (lM x r) 14 (44, [some (.retAddr 999), some (.ref n), some (.ref (n + 113)), some (.ref (n + 126)), some (.ref (n + 127)), some (.int (zI i)), x6, x7, x8], [.int y], h) (2513, [some (.retAddr 999), some (.ref n), some (.ref (n + 113)), some (.ref (n + 126)), some (.ref (n + 127)), some (.int (zI i)), a6, a7, a8], [], h') ∧ LI h' n (J + 1) (R + 1) := by
  obtain ⟨h2, b, hb, H, I2⟩ := lo_tolerance I hJ
  exact ⟨_, _, _, h2, gm_gat (gm_tabIn dL_law_44 (by rw [hy]; decide) (by rw [hy]; decide) (by rw [hy]; rfl) (show (44 : Int) + 779 = (823 : Nat) by decide)) (lw_tolerance hx hb H), I2⟩
theorem cs_11 {G : gm_G} {x : MethodName} {r : Option FieldType × List (Nat × Nat × Nat × Nat)} (hx : x.cls = RL) {n J R : Nat} {i : Int} {x6 x7 x8 : Option Value} {h : gm_H} {y : Int32} (hi : 0 ≤ i) (hi4 : i + 4 ≤ gm_L G) (hL : gm_L G ≤ 2048) (I : LI h n J R) (hJ : J < 600) (hy : y.toInt = 11) : ∃ a6 a7 a8 h', gm_goG G (lM x r) 14 (44, [some (.retAddr 999), some (.ref n), some (.ref (n + 113)), some (.ref (n + 126)), some (.ref (n + 127)), some (.int (zI i)), x6, x7, x8], [.int y], h) (2513, [some (.retAddr 999), some (.ref n), some (.ref (n + 113)), some (.ref (n + 126)), some (.ref (n + 127)), some (.int (zI i)), a6, a7, a8], [], h') ∧ LI h' n (J + 1) (R + 1) := by
  obtain ⟨h2, k, b, H, hb, ho, I2⟩ := lo_deviationAt (a := gx G (i + 1))  (b := gx G (i + 2))  I hJ (gx_r _) (gx_r _)
  exact ⟨_, _, _, h2, gm_gat (gm_tabIn dL_law_44 (by rw [hy]; decide) (by rw [hy]; decide) (by rw [hy]; rfl) (show (44 : Int) + 792 = (836 : Nat) by decide)) (lw_deviationAt hx hb hi hi4 hL H ho), I2⟩
theorem cs_12 {G : gm_G} {x : MethodName} {r : Option FieldType × List (Nat × Nat × Nat × Nat)} (hx : x.cls = RL) {n J R : Nat} {i : Int} {x6 x7 x8 : Option Value} {h : gm_H} {y : Int32} (hi : 0 ≤ i) (hi4 : i + 4 ≤ gm_L G) (hL : gm_L G ≤ 2048) (I : LI h n J R) (hJ : J < 600) (hy : y.toInt = 12) : ∃ a6 a7 a8 h', gm_goG G (lM x r) 14 (44, [some (.retAddr 999), some (.ref n), some (.ref (n + 113)), some (.ref (n + 126)), some (.ref (n + 127)), some (.int (zI i)), x6, x7, x8], [.int y], h) (2513, [some (.retAddr 999), some (.ref n), some (.ref (n + 113)), some (.ref (n + 126)), some (.ref (n + 127)), some (.int (zI i)), a6, a7, a8], [], h') ∧ LI h' n (J + 1) (R + 1) := by
  obtain ⟨h2, k, b, H, hb, ho, I2⟩ := lo_trueCourse (a := gx G (i + 1))  (b := gx G (i + 2))  I hJ (gx_r _) (gx_r _)
  exact ⟨_, _, _, h2, gm_gat (gm_tabIn dL_law_44 (by rw [hy]; decide) (by rw [hy]; decide) (by rw [hy]; rfl) (show (44 : Int) + 860 = (904 : Nat) by decide)) (lw_trueCourse hx hb hi hi4 hL H ho), I2⟩
theorem cs_13 {G : gm_G} {x : MethodName} {r : Option FieldType × List (Nat × Nat × Nat × Nat)} (hx : x.cls = RL) {n J R : Nat} {i : Int} {x6 x7 x8 : Option Value} {h : gm_H} {y : Int32} (hi : 0 ≤ i) (hi4 : i + 4 ≤ gm_L G) (hL : gm_L G ≤ 2048) (I : LI h n J R) (hJ : J < 600) (hy : y.toInt = 13) : ∃ a6 a7 a8 h', gm_goG G (lM x r) 14 (44, [some (.retAddr 999), some (.ref n), some (.ref (n + 113)), some (.ref (n + 126)), some (.ref (n + 127)), some (.int (zI i)), x6, x7, x8], [.int y], h) (2513, [some (.retAddr 999), some (.ref n), some (.ref (n + 113)), some (.ref (n + 126)), some (.ref (n + 127)), some (.int (zI i)), a6, a7, a8], [], h') ∧ LI h' n (J + 1) (R + 1) := by
  obtain ⟨h2, k, b, H, hb, ho, I2⟩ := lo_courseFor (a := gx G (i + 1))  (b := gx G (i + 2))  I hJ (gx_r _) (gx_r _)
  exact ⟨_, _, _, h2, gm_gat (gm_tabIn dL_law_44 (by rw [hy]; decide) (by rw [hy]; decide) (by rw [hy]; rfl) (show (44 : Int) + 928 = (972 : Nat) by decide)) (lw_courseFor hx hb hi hi4 hL H ho), I2⟩
theorem cs_14 {G : gm_G} {x : MethodName} {r : Option FieldType × List (Nat × Nat × Nat × Nat)} (hx : x.cls = RL) {n J R : Nat} {i : Int} {x6 x7 x8 : Option Value} {h : gm_H} {y : Int32} (hi : 0 ≤ i) (hi4 : i + 4 ≤ gm_L G) (hL : gm_L G ≤ 2048) (I : LI h n J R) (hJ : J < 600) (hy : y.toInt = 14) : ∃ a6 a7 a8 h', gm_goG G (lM x r) 14 (44, [some (.retAddr 999), some (.ref n), some (.ref (n + 113)), some (.ref (n + 126)), some (.ref (n + 127)), some (.int (zI i)), x6, x7, x8], [.int y], h) (2513, [some (.retAddr 999), some (.ref n), some (.ref (n + 113)), some (.ref (n + 126)), some (.ref (n + 127)), some (.int (zI i)), a6, a7, a8], [], h') ∧ LI h' n (J + 1) (R + 1) := by
  obtain ⟨h2, k, b, H, hb, ho, I2⟩ := lo_courseForNearby (a := gx G (i + 1))  (b := gx G (i + 2))  I hJ (gx_r _) (gx_r _)
  exact ⟨_, _, _, h2, gm_gat (gm_tabIn dL_law_44 (by rw [hy]; decide) (by rw [hy]; decide) (by rw [hy]; rfl) (show (44 : Int) + 996 = (1040 : Nat) by decide)) (lw_courseForNearby hx hb hi hi4 hL H ho), I2⟩
theorem cs_15 {G : gm_G} {x : MethodName} {r : Option FieldType × List (Nat × Nat × Nat × Nat)} (hx : x.cls = RL) {n J R : Nat} {i : Int} {x6 x7 x8 : Option Value} {h : gm_H} {y : Int32} (hi : 0 ≤ i) (hi4 : i + 4 ≤ gm_L G) (hL : gm_L G ≤ 2048) (I : LI h n J R) (hJ : J < 600) (hy : y.toInt = 15) : ∃ a6 a7 a8 h', gm_goG G (lM x r) 14 (44, [some (.retAddr 999), some (.ref n), some (.ref (n + 113)), some (.ref (n + 126)), some (.ref (n + 127)), some (.int (zI i)), x6, x7, x8], [.int y], h) (2513, [some (.retAddr 999), some (.ref n), some (.ref (n + 113)), some (.ref (n + 126)), some (.ref (n + 127)), some (.int (zI i)), a6, a7, a8], [], h') ∧ LI h' n (J + 1) (R + 1) := by
  obtain ⟨h2, k, b, H, hb, ho, I2⟩ := lo_missedCourses (a := gx G (i + 1))  I hJ (gx_r _)
  exact ⟨_, _, _, h2, gm_gat (gm_tabIn dL_law_44 (by rw [hy]; decide) (by rw [hy]; decide) (by rw [hy]; rfl) (show (44 : Int) + 1064 = (1108 : Nat) by decide)) (lw_missedCourses hx hb hi hi4 hL H ho), I2⟩
theorem cs_16 {G : gm_G} {x : MethodName} {r : Option FieldType × List (Nat × Nat × Nat × Nat)} (hx : x.cls = RL) {n J R : Nat} {i : Int} {x6 x7 x8 : Option Value} {h : gm_H} {y : Int32} (hi : 0 ≤ i) (hi4 : i + 4 ≤ gm_L G) (hL : gm_L G ≤ 2048) (I : LI h n J R) (hJ : J < 600) (hy : y.toInt = 16) : ∃ a6 a7 a8 h', gm_goG G (lM x r) 14 (44, [some (.retAddr 999), some (.ref n), some (.ref (n + 113)), some (.ref (n + 126)), some (.ref (n + 127)), some (.int (zI i)), x6, x7, x8], [.int y], h) (2513, [some (.retAddr 999), some (.ref n), some (.ref (n + 113)), some (.ref (n + 126)), some (.ref (n + 127)), some (.int (zI i)), a6, a7, a8], [], h') ∧ LI h' n (J + 1) (R + 1) := by
  obtain ⟨h2, k, b, H, hb, ho, I2⟩ := lo_errorOf (a := gx G (i + 1))  I hJ (gx_r _)
  exact ⟨_, _, _, h2, gm_gat (gm_tabIn dL_law_44 (by rw [hy]; decide) (by rw [hy]; decide) (by rw [hy]; rfl) (show (44 : Int) + 1120 = (1164 : Nat) by decide)) (lw_errorOf hx hb hi hi4 hL H ho), I2⟩
theorem cs_17 {G : gm_G} {x : MethodName} {r : Option FieldType × List (Nat × Nat × Nat × Nat)} (hx : x.cls = RL) {n J R : Nat} {i : Int} {x6 x7 x8 : Option Value} {h : gm_H} {y : Int32} (hi : 0 ≤ i) (hi4 : i + 4 ≤ gm_L G) (hL : gm_L G ≤ 2048) (I : LI h n J R) (hJ : J < 600) (hy : y.toInt = 17) : ∃ a6 a7 a8 h', gm_goG G (lM x r) 14 (44, [some (.retAddr 999), some (.ref n), some (.ref (n + 113)), some (.ref (n + 126)), some (.ref (n + 127)), some (.int (zI i)), x6, x7, x8], [.int y], h) (2513, [some (.retAddr 999), some (.ref n), some (.ref (n + 113)), some (.ref (n + 126)), some (.ref (n + 127)), some (.int (zI i)), a6, a7, a8], [], h') ∧ LI h' n (J + 1) (R + 1) := by
  obtain ⟨h2, k, b, H, hb, ho, I2⟩ := lo_bestShift (a := gx G (i + 1))  I hJ (gx_r _)
  exact ⟨_, _, _, h2, gm_gat (gm_tabIn dL_law_44 (by rw [hy]; decide) (by rw [hy]; decide) (by rw [hy]; rfl) (show (44 : Int) + 1176 = (1220 : Nat) by decide)) (lw_bestShift hx hb hi hi4 hL H ho), I2⟩
theorem cs_18 {G : gm_G} {x : MethodName} {r : Option FieldType × List (Nat × Nat × Nat × Nat)} (hx : x.cls = RL) {n J R : Nat} {i : Int} {x6 x7 x8 : Option Value} {h : gm_H} {y : Int32} (hi : 0 ≤ i) (hi4 : i + 4 ≤ gm_L G) (hL : gm_L G ≤ 2048) (I : LI h n J R) (hJ : J < 600) (hy : y.toInt = 18) : ∃ a6 a7 a8 h', gm_goG G (lM x r) 14 (44, [some (.retAddr 999), some (.ref n), some (.ref (n + 113)), some (.ref (n + 126)), some (.ref (n + 127)), some (.int (zI i)), x6, x7, x8], [.int y], h) (2513, [some (.retAddr 999), some (.ref n), some (.ref (n + 113)), some (.ref (n + 126)), some (.ref (n + 127)), some (.int (zI i)), a6, a7, a8], [], h') ∧ LI h' n (J + 1) (R + 1) := by
  obtain ⟨h2, k, b, H, hb, ho, I2⟩ := lo_bestShiftBySum (a := gx G (i + 1))  I hJ (gx_r _)
  exact ⟨_, _, _, h2, gm_gat (gm_tabIn dL_law_44 (by rw [hy]; decide) (by rw [hy]; decide) (by rw [hy]; rfl) (show (44 : Int) + 1232 = (1276 : Nat) by decide)) (lw_bestShiftBySum hx hb hi hi4 hL H ho), I2⟩
theorem cs_19 {G : gm_G} {x : MethodName} {r : Option FieldType × List (Nat × Nat × Nat × Nat)} (hx : x.cls = RL) {n J R : Nat} {i : Int} {x6 x7 x8 : Option Value} {h : gm_H} {y : Int32} (hi : 0 ≤ i) (hi4 : i + 4 ≤ gm_L G) (hL : gm_L G ≤ 2048) (I : LI h n J R) (hJ : J < 600) (hy : y.toInt = 19) : ∃ a6 a7 a8 h', gm_goG G (lM x r) 14 (44, [some (.retAddr 999), some (.ref n), some (.ref (n + 113)), some (.ref (n + 126)), some (.ref (n + 127)), some (.int (zI i)), x6, x7, x8], [.int y], h) (2513, [some (.retAddr 999), some (.ref n), some (.ref (n + 113)), some (.ref (n + 126)), some (.ref (n + 127)), some (.int (zI i)), a6, a7, a8], [], h') ∧ LI h' n (J + 1) (R + 1) := by
  obtain ⟨h2, k, b, H, hb, ho, I2⟩ := lo_needleAtRank (a := gx G (i + 1))  I hJ (gx_r _)
  exact ⟨_, _, _, h2, gm_gat (gm_tabIn dL_law_44 (by rw [hy]; decide) (by rw [hy]; decide) (by rw [hy]; rfl) (show (44 : Int) + 1288 = (1332 : Nat) by decide)) (lw_needleAtRank hx hb hi hi4 hL H ho), I2⟩
theorem cs_20 {G : gm_G} {x : MethodName} {r : Option FieldType × List (Nat × Nat × Nat × Nat)} (hx : x.cls = RL) {n J R : Nat} {i : Int} {x6 x7 x8 : Option Value} {h : gm_H} {y : Int32} (hi : 0 ≤ i) (hi4 : i + 4 ≤ gm_L G) (hL : gm_L G ≤ 2048) (I : LI h n J R) (hJ : J < 600) (hy : y.toInt = 20) : ∃ a6 a7 a8 h', gm_goG G (lM x r) 14 (44, [some (.retAddr 999), some (.ref n), some (.ref (n + 113)), some (.ref (n + 126)), some (.ref (n + 127)), some (.int (zI i)), x6, x7, x8], [.int y], h) (2513, [some (.retAddr 999), some (.ref n), some (.ref (n + 113)), some (.ref (n + 126)), some (.ref (n + 127)), some (.int (zI i)), a6, a7, a8], [], h') ∧ LI h' n (J + 1) (R + 1) := by
  obtain ⟨h2, k, b, H, ho, hc, I2⟩ := lo_meanError  I hJ 
  exact ⟨_, _, _, h2, gm_gat (gm_tabIn dL_law_44 (by rw [hy]; decide) (by rw [hy]; decide) (by rw [hy]; rfl) (show (44 : Int) + 1344 = (1388 : Nat) by decide)) (lw_meanError hx hi hi4 hL H ho hc), I2⟩
theorem cs_21 {G : gm_G} {x : MethodName} {r : Option FieldType × List (Nat × Nat × Nat × Nat)} (hx : x.cls = RL) {n J R : Nat} {i : Int} {x6 x7 x8 : Option Value} {h : gm_H} {y : Int32} (hi : 0 ≤ i) (hi4 : i + 4 ≤ gm_L G) (hL : gm_L G ≤ 2048) (I : LI h n J R) (hJ : J < 600) (hy : y.toInt = 21) : ∃ a6 a7 a8 h', gm_goG G (lM x r) 14 (44, [some (.retAddr 999), some (.ref n), some (.ref (n + 113)), some (.ref (n + 126)), some (.ref (n + 127)), some (.int (zI i)), x6, x7, x8], [.int y], h) (2513, [some (.retAddr 999), some (.ref n), some (.ref (n + 113)), some (.ref (n + 126)), some (.ref (n + 127)), some (.int (zI i)), a6, a7, a8], [], h') ∧ LI h' n (J + 1) (R + 1) := by
  obtain ⟨h2, b, hb, H, I2⟩ := lo_goodCount I hJ
  exact ⟨_, _, _, h2, gm_gat (gm_tabIn dL_law_44 (by rw [hy]; decide) (by rw [hy]; decide) (by rw [hy]; rfl) (show (44 : Int) + 1409 = (1453 : Nat) by decide)) (lw_goodCount hx hb H), I2⟩
theorem cs_22 {G : gm_G} {x : MethodName} {r : Option FieldType × List (Nat × Nat × Nat × Nat)} (hx : x.cls = RL) {n J R : Nat} {i : Int} {x6 x7 x8 : Option Value} {h : gm_H} {y : Int32} (hi : 0 ≤ i) (hi4 : i + 4 ≤ gm_L G) (hL : gm_L G ≤ 2048) (I : LI h n J R) (hJ : J < 600) (hy : y.toInt = 22) : ∃ a6 a7 a8 h', gm_goG G (lM x r) 14 (44, [some (.retAddr 999), some (.ref n), some (.ref (n + 113)), some (.ref (n + 126)), some (.ref (n + 127)), some (.int (zI i)), x6, x7, x8], [.int y], h) (2513, [some (.retAddr 999), some (.ref n), some (.ref (n + 113)), some (.ref (n + 126)), some (.ref (n + 127)), some (.int (zI i)), a6, a7, a8], [], h') ∧ LI h' n (J + 1) (R + 1) := by
  obtain ⟨h2, b, hb, H, I2⟩ := lo_leastDifference I hJ
  exact ⟨_, _, _, h2, gm_gat (gm_tabIn dL_law_44 (by rw [hy]; decide) (by rw [hy]; decide) (by rw [hy]; rfl) (show (44 : Int) + 1422 = (1466 : Nat) by decide)) (lw_leastDifference hx hb H), I2⟩
theorem cs_23 {G : gm_G} {x : MethodName} {r : Option FieldType × List (Nat × Nat × Nat × Nat)} (hx : x.cls = RL) {n J R : Nat} {i : Int} {x6 x7 x8 : Option Value} {h : gm_H} {y : Int32} (hi : 0 ≤ i) (hi4 : i + 4 ≤ gm_L G) (hL : gm_L G ≤ 2048) (I : LI h n J R) (hJ : J < 600) (hy : y.toInt = 23) : ∃ a6 a7 a8 h', gm_goG G (lM x r) 14 (44, [some (.retAddr 999), some (.ref n), some (.ref (n + 113)), some (.ref (n + 126)), some (.ref (n + 127)), some (.int (zI i)), x6, x7, x8], [.int y], h) (2513, [some (.retAddr 999), some (.ref n), some (.ref (n + 113)), some (.ref (n + 126)), some (.ref (n + 127)), some (.int (zI i)), a6, a7, a8], [], h') ∧ LI h' n (J + 1) (R + 1) := by
  obtain ⟨h2, b, hb, H, I2⟩ := lo_leastDifferenceByOrder I hJ
  exact ⟨_, _, _, h2, gm_gat (gm_tabIn dL_law_44 (by rw [hy]; decide) (by rw [hy]; decide) (by rw [hy]; rfl) (show (44 : Int) + 1435 = (1479 : Nat) by decide)) (lw_leastDifferenceByOrder hx hb H), I2⟩
theorem cs_24 {G : gm_G} {x : MethodName} {r : Option FieldType × List (Nat × Nat × Nat × Nat)} (hx : x.cls = RL) {n J R : Nat} {i : Int} {x6 x7 x8 : Option Value} {h : gm_H} {y : Int32} (hi : 0 ≤ i) (hi4 : i + 4 ≤ gm_L G) (hL : gm_L G ≤ 2048) (I : LI h n J R) (hJ : J < 600) (hy : y.toInt = 24) : ∃ a6 a7 a8 h', gm_goG G (lM x r) 14 (44, [some (.retAddr 999), some (.ref n), some (.ref (n + 113)), some (.ref (n + 126)), some (.ref (n + 127)), some (.int (zI i)), x6, x7, x8], [.int y], h) (2513, [some (.retAddr 999), some (.ref n), some (.ref (n + 113)), some (.ref (n + 126)), some (.ref (n + 127)), some (.int (zI i)), a6, a7, a8], [], h') ∧ LI h' n (J + 1) (R + 1) := by
  obtain ⟨h2, k, b, H, hb, ho, I2⟩ := lo_partnerOf (a := gx G (i + 1))  I hJ (gx_r _)
  exact ⟨_, _, _, h2, gm_gat (gm_tabIn dL_law_44 (by rw [hy]; decide) (by rw [hy]; decide) (by rw [hy]; rfl) (show (44 : Int) + 1448 = (1492 : Nat) by decide)) (lw_partnerOf hx hb hi hi4 hL H ho), I2⟩
theorem cs_25 {G : gm_G} {x : MethodName} {r : Option FieldType × List (Nat × Nat × Nat × Nat)} (hx : x.cls = RL) {n J R : Nat} {i : Int} {x6 x7 x8 : Option Value} {h : gm_H} {y : Int32} (hi : 0 ≤ i) (hi4 : i + 4 ≤ gm_L G) (hL : gm_L G ≤ 2048) (I : LI h n J R) (hJ : J < 600) (hy : y.toInt = 25) : ∃ a6 a7 a8 h', gm_goG G (lM x r) 14 (44, [some (.retAddr 999), some (.ref n), some (.ref (n + 113)), some (.ref (n + 126)), some (.ref (n + 127)), some (.int (zI i)), x6, x7, x8], [.int y], h) (2513, [some (.retAddr 999), some (.ref n), some (.ref (n + 113)), some (.ref (n + 126)), some (.ref (n + 127)), some (.int (zI i)), a6, a7, a8], [], h') ∧ LI h' n (J + 1) (R + 1) := by
  obtain ⟨h2, k, b, H, hb, ho, I2⟩ := lo_addBatch (a := gx G (i + 1))  (b := gx G (i + 2))  (c := gx G (i + 3))  I hJ (gx_r _) (gx_r _) (gx_r _)
  exact ⟨_, _, _, h2, gm_gat (gm_tabIn dL_law_44 (by rw [hy]; decide) (by rw [hy]; decide) (by rw [hy]; rfl) (show (44 : Int) + 1504 = (1548 : Nat) by decide)) (lw_addBatch hx hb hi hi4 hL H ho), I2⟩
theorem cs_26 {G : gm_G} {x : MethodName} {r : Option FieldType × List (Nat × Nat × Nat × Nat)} (hx : x.cls = RL) {n J R : Nat} {i : Int} {x6 x7 x8 : Option Value} {h : gm_H} {y : Int32} (hi : 0 ≤ i) (hi4 : i + 4 ≤ gm_L G) (hL : gm_L G ≤ 2048) (I : LI h n J R) (hJ : J < 600) (hy : y.toInt = 26) : ∃ a6 a7 a8 h', gm_goG G (lM x r) 14 (44, [some (.retAddr 999), some (.ref n), some (.ref (n + 113)), some (.ref (n + 126)), some (.ref (n + 127)), some (.int (zI i)), x6, x7, x8], [.int y], h) (2513, [some (.retAddr 999), some (.ref n), some (.ref (n + 113)), some (.ref (n + 126)), some (.ref (n + 127)), some (.int (zI i)), a6, a7, a8], [], h') ∧ LI h' n (J + 1) (R + 1) := by
  obtain ⟨h2, k, b, H, hb, ho, I2⟩ := lo_dropBatch (a := gx G (i + 1))  I hJ (gx_r _)
  exact ⟨_, _, _, h2, gm_gat (gm_tabIn dL_law_44 (by rw [hy]; decide) (by rw [hy]; decide) (by rw [hy]; rfl) (show (44 : Int) + 1584 = (1628 : Nat) by decide)) (lw_dropBatch hx hb hi hi4 hL H ho), I2⟩
theorem cs_27 {G : gm_G} {x : MethodName} {r : Option FieldType × List (Nat × Nat × Nat × Nat)} (hx : x.cls = RL) {n J R : Nat} {i : Int} {x6 x7 x8 : Option Value} {h : gm_H} {y : Int32} (hi : 0 ≤ i) (hi4 : i + 4 ≤ gm_L G) (hL : gm_L G ≤ 2048) (I : LI h n J R) (hJ : J < 600) (hy : y.toInt = 27) : ∃ a6 a7 a8 h', gm_goG G (lM x r) 14 (44, [some (.retAddr 999), some (.ref n), some (.ref (n + 113)), some (.ref (n + 126)), some (.ref (n + 127)), some (.int (zI i)), x6, x7, x8], [.int y], h) (2513, [some (.retAddr 999), some (.ref n), some (.ref (n + 113)), some (.ref (n + 126)), some (.ref (n + 127)), some (.int (zI i)), a6, a7, a8], [], h') ∧ LI h' n (J + 1) (R + 1) := by
  obtain ⟨h2, k, b, H, hb, ho, I2⟩ := lo_bake (a := gx G (i + 1))  I hJ (gx_r _)
  exact ⟨_, _, _, h2, gm_gat (gm_tabIn dL_law_44 (by rw [hy]; decide) (by rw [hy]; decide) (by rw [hy]; rfl) (show (44 : Int) + 1640 = (1684 : Nat) by decide)) (lw_bake hx hb hi hi4 hL H ho), I2⟩
theorem cs_28 {G : gm_G} {x : MethodName} {r : Option FieldType × List (Nat × Nat × Nat × Nat)} (hx : x.cls = RL) {n J R : Nat} {i : Int} {x6 x7 x8 : Option Value} {h : gm_H} {y : Int32} (hi : 0 ≤ i) (hi4 : i + 4 ≤ gm_L G) (hL : gm_L G ≤ 2048) (I : LI h n J R) (hJ : J < 600) (hy : y.toInt = 28) : ∃ a6 a7 a8 h', gm_goG G (lM x r) 14 (44, [some (.retAddr 999), some (.ref n), some (.ref (n + 113)), some (.ref (n + 126)), some (.ref (n + 127)), some (.int (zI i)), x6, x7, x8], [.int y], h) (2513, [some (.retAddr 999), some (.ref n), some (.ref (n + 113)), some (.ref (n + 126)), some (.ref (n + 127)), some (.int (zI i)), a6, a7, a8], [], h') ∧ LI h' n (J + 1) (R + 1) := by
  obtain ⟨h2, k, b, H, hb, ho, I2⟩ := lo_rest (a := gx G (i + 1))  I hJ (gx_r _)
  exact ⟨_, _, _, h2, gm_gat (gm_tabIn dL_law_44 (by rw [hy]; decide) (by rw [hy]; decide) (by rw [hy]; rfl) (show (44 : Int) + 1696 = (1740 : Nat) by decide)) (lw_rest hx hb hi hi4 hL H ho), I2⟩
theorem cs_29 {G : gm_G} {x : MethodName} {r : Option FieldType × List (Nat × Nat × Nat × Nat)} (hx : x.cls = RL) {n J R : Nat} {i : Int} {x6 x7 x8 : Option Value} {h : gm_H} {y : Int32} (hi : 0 ≤ i) (hi4 : i + 4 ≤ gm_L G) (hL : gm_L G ≤ 2048) (I : LI h n J R) (hJ : J < 600) (hy : y.toInt = 29) : ∃ a6 a7 a8 h', gm_goG G (lM x r) 14 (44, [some (.retAddr 999), some (.ref n), some (.ref (n + 113)), some (.ref (n + 126)), some (.ref (n + 127)), some (.int (zI i)), x6, x7, x8], [.int y], h) (2513, [some (.retAddr 999), some (.ref n), some (.ref (n + 113)), some (.ref (n + 126)), some (.ref (n + 127)), some (.int (zI i)), a6, a7, a8], [], h') ∧ LI h' n (J + 1) (R + 1) := by
  obtain ⟨h2, b, hb, H, I2⟩ := lo_clock I hJ
  exact ⟨_, _, _, h2, gm_gat (gm_tabIn dL_law_44 (by rw [hy]; decide) (by rw [hy]; decide) (by rw [hy]; rfl) (show (44 : Int) + 1752 = (1796 : Nat) by decide)) (lw_clock hx hb H), I2⟩
theorem cs_30 {G : gm_G} {x : MethodName} {r : Option FieldType × List (Nat × Nat × Nat × Nat)} (hx : x.cls = RL) {n J R : Nat} {i : Int} {x6 x7 x8 : Option Value} {h : gm_H} {y : Int32} (hi : 0 ≤ i) (hi4 : i + 4 ≤ gm_L G) (hL : gm_L G ≤ 2048) (I : LI h n J R) (hJ : J < 600) (hy : y.toInt = 30) : ∃ a6 a7 a8 h', gm_goG G (lM x r) 14 (44, [some (.retAddr 999), some (.ref n), some (.ref (n + 113)), some (.ref (n + 126)), some (.ref (n + 127)), some (.int (zI i)), x6, x7, x8], [.int y], h) (2513, [some (.retAddr 999), some (.ref n), some (.ref (n + 113)), some (.ref (n + 126)), some (.ref (n + 127)), some (.int (zI i)), a6, a7, a8], [], h') ∧ LI h' n (J + 1) (R + 1) := by
  obtain ⟨h2, b, hb, H, I2⟩ := lo_batchCount I hJ
  exact ⟨_, _, _, h2, gm_gat (gm_tabIn dL_law_44 (by rw [hy]; decide) (by rw [hy]; decide) (by rw [hy]; rfl) (show (44 : Int) + 1765 = (1809 : Nat) by decide)) (lw_batchCount hx hb H), I2⟩
theorem cs_31 {G : gm_G} {x : MethodName} {r : Option FieldType × List (Nat × Nat × Nat × Nat)} (hx : x.cls = RL) {n J R : Nat} {i : Int} {x6 x7 x8 : Option Value} {h : gm_H} {y : Int32} (hi : 0 ≤ i) (hi4 : i + 4 ≤ gm_L G) (hL : gm_L G ≤ 2048) (I : LI h n J R) (hJ : J < 600) (hy : y.toInt = 31) : ∃ a6 a7 a8 h', gm_goG G (lM x r) 14 (44, [some (.retAddr 999), some (.ref n), some (.ref (n + 113)), some (.ref (n + 126)), some (.ref (n + 127)), some (.int (zI i)), x6, x7, x8], [.int y], h) (2513, [some (.retAddr 999), some (.ref n), some (.ref (n + 113)), some (.ref (n + 126)), some (.ref (n + 127)), some (.int (zI i)), a6, a7, a8], [], h') ∧ LI h' n (J + 1) (R + 1) := by
  obtain ⟨h2, k, b, H, hb, ho, I2⟩ := lo_batchAt (a := gx G (i + 1))  I hJ (gx_r _)
  exact ⟨_, _, _, h2, gm_gat (gm_tabIn dL_law_44 (by rw [hy]; decide) (by rw [hy]; decide) (by rw [hy]; rfl) (show (44 : Int) + 1778 = (1822 : Nat) by decide)) (lw_batchAt hx hb hi hi4 hL H ho), I2⟩
theorem cs_32 {G : gm_G} {x : MethodName} {r : Option FieldType × List (Nat × Nat × Nat × Nat)} (hx : x.cls = RL) {n J R : Nat} {i : Int} {x6 x7 x8 : Option Value} {h : gm_H} {y : Int32} (hi : 0 ≤ i) (hi4 : i + 4 ≤ gm_L G) (hL : gm_L G ≤ 2048) (I : LI h n J R) (hJ : J < 600) (hy : y.toInt = 32) : ∃ a6 a7 a8 h', gm_goG G (lM x r) 14 (44, [some (.retAddr 999), some (.ref n), some (.ref (n + 113)), some (.ref (n + 126)), some (.ref (n + 127)), some (.int (zI i)), x6, x7, x8], [.int y], h) (2513, [some (.retAddr 999), some (.ref n), some (.ref (n + 113)), some (.ref (n + 126)), some (.ref (n + 127)), some (.int (zI i)), a6, a7, a8], [], h') ∧ LI h' n (J + 1) (R + 1) := by
  obtain ⟨h2, k, b, H, hb, ho, I2⟩ := lo_latenessNow (a := gx G (i + 1))  I hJ (gx_r _)
  exact ⟨_, _, _, h2, gm_gat (gm_tabIn dL_law_44 (by rw [hy]; decide) (by rw [hy]; decide) (by rw [hy]; rfl) (show (44 : Int) + 1834 = (1878 : Nat) by decide)) (lw_latenessNow hx hb hi hi4 hL H ho), I2⟩
theorem cs_33 {G : gm_G} {x : MethodName} {r : Option FieldType × List (Nat × Nat × Nat × Nat)} (hx : x.cls = RL) {n J R : Nat} {i : Int} {x6 x7 x8 : Option Value} {h : gm_H} {y : Int32} (hi : 0 ≤ i) (hi4 : i + 4 ≤ gm_L G) (hL : gm_L G ≤ 2048) (I : LI h n J R) (hJ : J < 600) (hy : y.toInt = 33) : ∃ a6 a7 a8 h', gm_goG G (lM x r) 14 (44, [some (.retAddr 999), some (.ref n), some (.ref (n + 113)), some (.ref (n + 126)), some (.ref (n + 127)), some (.int (zI i)), x6, x7, x8], [.int y], h) (2513, [some (.retAddr 999), some (.ref n), some (.ref (n + 113)), some (.ref (n + 126)), some (.ref (n + 127)), some (.int (zI i)), a6, a7, a8], [], h') ∧ LI h' n (J + 1) (R + 1) := by
  obtain ⟨h2, b, hb, H, I2⟩ := lo_leastLateness I hJ
  exact ⟨_, _, _, h2, gm_gat (gm_tabIn dL_law_44 (by rw [hy]; decide) (by rw [hy]; decide) (by rw [hy]; rfl) (show (44 : Int) + 1890 = (1934 : Nat) by decide)) (lw_leastLateness hx hb H), I2⟩
theorem cs_34 {G : gm_G} {x : MethodName} {r : Option FieldType × List (Nat × Nat × Nat × Nat)} (hx : x.cls = RL) {n J R : Nat} {i : Int} {x6 x7 x8 : Option Value} {h : gm_H} {y : Int32} (hi : 0 ≤ i) (hi4 : i + 4 ≤ gm_L G) (hL : gm_L G ≤ 2048) (I : LI h n J R) (hJ : J < 600) (hy : y.toInt = 34) : ∃ a6 a7 a8 h', gm_goG G (lM x r) 14 (44, [some (.retAddr 999), some (.ref n), some (.ref (n + 113)), some (.ref (n + 126)), some (.ref (n + 127)), some (.int (zI i)), x6, x7, x8], [.int y], h) (2513, [some (.retAddr 999), some (.ref n), some (.ref (n + 113)), some (.ref (n + 126)), some (.ref (n + 127)), some (.int (zI i)), a6, a7, a8], [], h') ∧ LI h' n (J + 1) (R + 1) := by
  obtain ⟨h2, b, hb, H, I2⟩ := lo_leastLatenessByOrders I hJ
  exact ⟨_, _, _, h2, gm_gat (gm_tabIn dL_law_44 (by rw [hy]; decide) (by rw [hy]; decide) (by rw [hy]; rfl) (show (44 : Int) + 1903 = (1947 : Nat) by decide)) (lw_leastLatenessByOrders hx hb H), I2⟩
theorem cs_35 {G : gm_G} {x : MethodName} {r : Option FieldType × List (Nat × Nat × Nat × Nat)} (hx : x.cls = RL) {n J R : Nat} {i : Int} {x6 x7 x8 : Option Value} {h : gm_H} {y : Int32} (hi : 0 ≤ i) (hi4 : i + 4 ≤ gm_L G) (hL : gm_L G ≤ 2048) (I : LI h n J R) (hJ : J < 600) (hy : y.toInt = 35) : ∃ a6 a7 a8 h', gm_goG G (lM x r) 14 (44, [some (.retAddr 999), some (.ref n), some (.ref (n + 113)), some (.ref (n + 126)), some (.ref (n + 127)), some (.int (zI i)), x6, x7, x8], [.int y], h) (2513, [some (.retAddr 999), some (.ref n), some (.ref (n + 113)), some (.ref (n + 126)), some (.ref (n + 127)), some (.int (zI i)), a6, a7, a8], [], h') ∧ LI h' n (J + 1) (R + 1) := by
  obtain ⟨h2, k, b, H, hb, ho, I2⟩ := lo_bestFirst  I hJ 
  exact ⟨_, _, _, h2, gm_gat (gm_tabIn dL_law_44 (by rw [hy]; decide) (by rw [hy]; decide) (by rw [hy]; rfl) (show (44 : Int) + 1916 = (1960 : Nat) by decide)) (lw_bestFirst hx hb hi hi4 hL H ho), I2⟩
theorem cs_36 {G : gm_G} {x : MethodName} {r : Option FieldType × List (Nat × Nat × Nat × Nat)} (hx : x.cls = RL) {n J R : Nat} {i : Int} {x6 x7 x8 : Option Value} {h : gm_H} {y : Int32} (hi : 0 ≤ i) (hi4 : i + 4 ≤ gm_L G) (hL : gm_L G ≤ 2048) (I : LI h n J R) (hJ : J < 600) (hy : y.toInt = 36) : ∃ a6 a7 a8 h', gm_goG G (lM x r) 14 (44, [some (.retAddr 999), some (.ref n), some (.ref (n + 113)), some (.ref (n + 126)), some (.ref (n + 127)), some (.int (zI i)), x6, x7, x8], [.int y], h) (2513, [some (.retAddr 999), some (.ref n), some (.ref (n + 113)), some (.ref (n + 126)), some (.ref (n + 127)), some (.int (zI i)), a6, a7, a8], [], h') ∧ LI h' n (J + 1) (R + 1) := by
  obtain ⟨h2, b, hb, H, I2⟩ := lo_latenessByIds I hJ
  exact ⟨_, _, _, h2, gm_gat (gm_tabIn dL_law_44 (by rw [hy]; decide) (by rw [hy]; decide) (by rw [hy]; rfl) (show (44 : Int) + 1960 = (2004 : Nat) by decide)) (lw_latenessByIds hx hb H), I2⟩
theorem cs_37 {G : gm_G} {x : MethodName} {r : Option FieldType × List (Nat × Nat × Nat × Nat)} (hx : x.cls = RL) {n J R : Nat} {i : Int} {x6 x7 x8 : Option Value} {h : gm_H} {y : Int32} (hi : 0 ≤ i) (hi4 : i + 4 ≤ gm_L G) (hL : gm_L G ≤ 2048) (I : LI h n J R) (hJ : J < 600) (hy : y.toInt = 37) : ∃ a6 a7 a8 h', gm_goG G (lM x r) 14 (44, [some (.retAddr 999), some (.ref n), some (.ref (n + 113)), some (.ref (n + 126)), some (.ref (n + 127)), some (.int (zI i)), x6, x7, x8], [.int y], h) (2513, [some (.retAddr 999), some (.ref n), some (.ref (n + 113)), some (.ref (n + 126)), some (.ref (n + 127)), some (.int (zI i)), a6, a7, a8], [], h') ∧ LI h' n (J + 1) (R + 1) := by
  obtain ⟨h2, b, hb, H, I2⟩ := lo_bakedCount I hJ
  exact ⟨_, _, _, h2, gm_gat (gm_tabIn dL_law_44 (by rw [hy]; decide) (by rw [hy]; decide) (by rw [hy]; rfl) (show (44 : Int) + 1973 = (2017 : Nat) by decide)) (lw_bakedCount hx hb H), I2⟩
theorem cs_38 {G : gm_G} {x : MethodName} {r : Option FieldType × List (Nat × Nat × Nat × Nat)} (hx : x.cls = RL) {n J R : Nat} {i : Int} {x6 x7 x8 : Option Value} {h : gm_H} {y : Int32} (hi : 0 ≤ i) (hi4 : i + 4 ≤ gm_L G) (hL : gm_L G ≤ 2048) (I : LI h n J R) (hJ : J < 600) (hy : y.toInt = 38) : ∃ a6 a7 a8 h', gm_goG G (lM x r) 14 (44, [some (.retAddr 999), some (.ref n), some (.ref (n + 113)), some (.ref (n + 126)), some (.ref (n + 127)), some (.int (zI i)), x6, x7, x8], [.int y], h) (2513, [some (.retAddr 999), some (.ref n), some (.ref (n + 113)), some (.ref (n + 126)), some (.ref (n + 127)), some (.int (zI i)), a6, a7, a8], [], h') ∧ LI h' n (J + 1) (R + 1) := by
  obtain ⟨h2, b, H, I2⟩ := lo_latenessTotal I hJ
  exact ⟨_, _, _, h2, gm_gat (gm_tabIn dL_law_44 (by rw [hy]; decide) (by rw [hy]; decide) (by rw [hy]; rfl) (show (44 : Int) + 1986 = (2030 : Nat) by decide)) (lw_latenessTotal hx H), I2⟩
theorem cs_39 {G : gm_G} {x : MethodName} {r : Option FieldType × List (Nat × Nat × Nat × Nat)} (hx : x.cls = RL) {n J R : Nat} {i : Int} {x6 x7 x8 : Option Value} {h : gm_H} {y : Int32} (hi : 0 ≤ i) (hi4 : i + 4 ≤ gm_L G) (hL : gm_L G ≤ 2048) (I : LI h n J R) (hJ : J < 600) (hy : y.toInt = 39) : ∃ a6 a7 a8 h', gm_goG G (lM x r) 14 (44, [some (.retAddr 999), some (.ref n), some (.ref (n + 113)), some (.ref (n + 126)), some (.ref (n + 127)), some (.int (zI i)), x6, x7, x8], [.int y], h) (2513, [some (.retAddr 999), some (.ref n), some (.ref (n + 113)), some (.ref (n + 126)), some (.ref (n + 127)), some (.int (zI i)), a6, a7, a8], [], h') ∧ LI h' n (J + 1) (R + 1) := by
  obtain ⟨h2, k, b, H, ho, hc, I2⟩ := lo_bakingShare  I hJ 
  exact ⟨_, _, _, h2, gm_gat (gm_tabIn dL_law_44 (by rw [hy]; decide) (by rw [hy]; decide) (by rw [hy]; rfl) (show (44 : Int) + 2000 = (2044 : Nat) by decide)) (lw_bakingShare hx hi hi4 hL H ho hc), I2⟩
theorem cs_40 {G : gm_G} {x : MethodName} {r : Option FieldType × List (Nat × Nat × Nat × Nat)} (hx : x.cls = RL) {n J R : Nat} {i : Int} {x6 x7 x8 : Option Value} {h : gm_H} {y : Int32} (hi : 0 ≤ i) (hi4 : i + 4 ≤ gm_L G) (hL : gm_L G ≤ 2048) (I : LI h n J R) (hJ : J < 600) (hy : y.toInt = 40) : ∃ a6 a7 a8 h', gm_goG G (lM x r) 14 (44, [some (.retAddr 999), some (.ref n), some (.ref (n + 113)), some (.ref (n + 126)), some (.ref (n + 127)), some (.int (zI i)), x6, x7, x8], [.int y], h) (2513, [some (.retAddr 999), some (.ref n), some (.ref (n + 113)), some (.ref (n + 126)), some (.ref (n + 127)), some (.int (zI i)), a6, a7, a8], [], h') ∧ LI h' n (J + 1) (R + 1) := by
  obtain ⟨h2, k, b, H, hb, ho, I2⟩ := lo_writeLabel (a := gx G (i + 1))  I hJ (gx_r _)
  exact ⟨_, _, _, h2, gm_gat (gm_tabIn dL_law_44 (by rw [hy]; decide) (by rw [hy]; decide) (by rw [hy]; rfl) (show (44 : Int) + 2066 = (2110 : Nat) by decide)) (lw_writeLabel hx hb hi hi4 hL H ho), I2⟩
theorem cs_41 {G : gm_G} {x : MethodName} {r : Option FieldType × List (Nat × Nat × Nat × Nat)} (hx : x.cls = RL) {n J R : Nat} {i : Int} {x6 x7 x8 : Option Value} {h : gm_H} {y : Int32} (hi : 0 ≤ i) (hi4 : i + 4 ≤ gm_L G) (hL : gm_L G ≤ 2048) (I : LI h n J R) (hJ : J < 600) (hy : y.toInt = 41) : ∃ a6 a7 a8 h', gm_goG G (lM x r) 14 (44, [some (.retAddr 999), some (.ref n), some (.ref (n + 113)), some (.ref (n + 126)), some (.ref (n + 127)), some (.int (zI i)), x6, x7, x8], [.int y], h) (2513, [some (.retAddr 999), some (.ref n), some (.ref (n + 113)), some (.ref (n + 126)), some (.ref (n + 127)), some (.int (zI i)), a6, a7, a8], [], h') ∧ LI h' n (J + 1) (R + 1) := by
  obtain ⟨h2, k, b, H, hb, ho, I2⟩ := lo_labelAt (a := gx G (i + 1))  I hJ (gx_r _)
  exact ⟨_, _, _, h2, gm_gat (gm_tabIn dL_law_44 (by rw [hy]; decide) (by rw [hy]; decide) (by rw [hy]; rfl) (show (44 : Int) + 2122 = (2166 : Nat) by decide)) (lw_labelAt hx hb hi hi4 hL H ho), I2⟩
theorem cs_42 {G : gm_G} {x : MethodName} {r : Option FieldType × List (Nat × Nat × Nat × Nat)} (hx : x.cls = RL) {n J R : Nat} {i : Int} {x6 x7 x8 : Option Value} {h : gm_H} {y : Int32} (hi : 0 ≤ i) (hi4 : i + 4 ≤ gm_L G) (hL : gm_L G ≤ 2048) (I : LI h n J R) (hJ : J < 600) (hy : y.toInt = 42) : ∃ a6 a7 a8 h', gm_goG G (lM x r) 14 (44, [some (.retAddr 999), some (.ref n), some (.ref (n + 113)), some (.ref (n + 126)), some (.ref (n + 127)), some (.int (zI i)), x6, x7, x8], [.int y], h) (2513, [some (.retAddr 999), some (.ref n), some (.ref (n + 113)), some (.ref (n + 126)), some (.ref (n + 127)), some (.int (zI i)), a6, a7, a8], [], h') ∧ LI h' n (J + 1) (R + 1) := by
  obtain ⟨h2, k, b, H, hb, ho, I2⟩ := lo_type (a := gc (gx G (i + 1)))  I hJ (gx_r _)
  exact ⟨_, _, _, h2, gm_gat (gm_tabIn dL_law_44 (by rw [hy]; decide) (by rw [hy]; decide) (by rw [hy]; rfl) (show (44 : Int) + 2178 = (2222 : Nat) by decide)) (lw_type hx hb hi hi4 hL H ho), I2⟩
theorem cs_43 {G : gm_G} {x : MethodName} {r : Option FieldType × List (Nat × Nat × Nat × Nat)} (hx : x.cls = RL) {n J R : Nat} {i : Int} {x6 x7 x8 : Option Value} {h : gm_H} {y : Int32} (hi : 0 ≤ i) (hi4 : i + 4 ≤ gm_L G) (hL : gm_L G ≤ 2048) (I : LI h n J R) (hJ : J < 600) (hy : y.toInt = 43) : ∃ a6 a7 a8 h', gm_goG G (lM x r) 14 (44, [some (.retAddr 999), some (.ref n), some (.ref (n + 113)), some (.ref (n + 126)), some (.ref (n + 127)), some (.int (zI i)), x6, x7, x8], [.int y], h) (2513, [some (.retAddr 999), some (.ref n), some (.ref (n + 113)), some (.ref (n + 126)), some (.ref (n + 127)), some (.int (zI i)), a6, a7, a8], [], h') ∧ LI h' n (J + 1) (R + 1) := by
  obtain ⟨h2, k, b, H, hb, ho, I2⟩ := lo_execute  I hJ 
  exact ⟨_, _, _, h2, gm_gat (gm_tabIn dL_law_44 (by rw [hy]; decide) (by rw [hy]; decide) (by rw [hy]; rfl) (show (44 : Int) + 2236 = (2280 : Nat) by decide)) (lw_execute hx hb hi hi4 hL H ho), I2⟩
theorem cs_44 {G : gm_G} {x : MethodName} {r : Option FieldType × List (Nat × Nat × Nat × Nat)} (hx : x.cls = RL) {n J R : Nat} {i : Int} {x6 x7 x8 : Option Value} {h : gm_H} {y : Int32} (hi : 0 ≤ i) (hi4 : i + 4 ≤ gm_L G) (hL : gm_L G ≤ 2048) (I : LI h n J R) (hJ : J < 600) (hy : y.toInt = 44) : ∃ a6 a7 a8 h', gm_goG G (lM x r) 14 (44, [some (.retAddr 999), some (.ref n), some (.ref (n + 113)), some (.ref (n + 126)), some (.ref (n + 127)), some (.int (zI i)), x6, x7, x8], [.int y], h) (2513, [some (.retAddr 999), some (.ref n), some (.ref (n + 113)), some (.ref (n + 126)), some (.ref (n + 127)), some (.int (zI i)), a6, a7, a8], [], h') ∧ LI h' n (J + 1) (R + 1) := by
  obtain ⟨h2, k, b, H, hb, ho, I2⟩ := lo_errorPosition  I hJ 
  exact ⟨_, _, _, h2, gm_gat (gm_tabIn dL_law_44 (by rw [hy]; decide) (by rw [hy]; decide) (by rw [hy]; rfl) (show (44 : Int) + 2280 = (2324 : Nat) by decide)) (lw_errorPosition hx hb hi hi4 hL H ho), I2⟩
theorem cs_45 {G : gm_G} {x : MethodName} {r : Option FieldType × List (Nat × Nat × Nat × Nat)} (hx : x.cls = RL) {n J R : Nat} {i : Int} {x6 x7 x8 : Option Value} {h : gm_H} {y : Int32} (hi : 0 ≤ i) (hi4 : i + 4 ≤ gm_L G) (hL : gm_L G ≤ 2048) (I : LI h n J R) (hJ : J < 600) (hy : y.toInt = 45) : ∃ a6 a7 a8 h', gm_goG G (lM x r) 14 (44, [some (.retAddr 999), some (.ref n), some (.ref (n + 113)), some (.ref (n + 126)), some (.ref (n + 127)), some (.int (zI i)), x6, x7, x8], [.int y], h) (2513, [some (.retAddr 999), some (.ref n), some (.ref (n + 113)), some (.ref (n + 126)), some (.ref (n + 127)), some (.int (zI i)), a6, a7, a8], [], h') ∧ LI h' n (J + 1) (R + 1) := by
  obtain ⟨h2, k, b, H, hb, ho, I2⟩ := lo_failedCommand  I hJ 
  exact ⟨_, _, _, h2, gm_gat (gm_tabIn dL_law_44 (by rw [hy]; decide) (by rw [hy]; decide) (by rw [hy]; rfl) (show (44 : Int) + 2324 = (2368 : Nat) by decide)) (lw_failedCommand hx hb hi hi4 hL H ho), I2⟩
theorem cs_46 {G : gm_G} {x : MethodName} {r : Option FieldType × List (Nat × Nat × Nat × Nat)} (hx : x.cls = RL) {n J R : Nat} {i : Int} {x6 x7 x8 : Option Value} {h : gm_H} {y : Int32} (hi : 0 ≤ i) (hi4 : i + 4 ≤ gm_L G) (hL : gm_L G ≤ 2048) (I : LI h n J R) (hJ : J < 600) (hy : y.toInt = 46) : ∃ a6 a7 a8 h', gm_goG G (lM x r) 14 (44, [some (.retAddr 999), some (.ref n), some (.ref (n + 113)), some (.ref (n + 126)), some (.ref (n + 127)), some (.int (zI i)), x6, x7, x8], [.int y], h) (2513, [some (.retAddr 999), some (.ref n), some (.ref (n + 113)), some (.ref (n + 126)), some (.ref (n + 127)), some (.int (zI i)), a6, a7, a8], [], h') ∧ LI h' n (J + 1) (R + 1) := by
  obtain ⟨h2, k, b, H, hb, ho, I2⟩ := lo_undo  I hJ 
  exact ⟨_, _, _, h2, gm_gat (gm_tabIn dL_law_44 (by rw [hy]; decide) (by rw [hy]; decide) (by rw [hy]; rfl) (show (44 : Int) + 2368 = (2412 : Nat) by decide)) (lw_undo hx hb hi hi4 hL H ho), I2⟩
theorem cs_47 {G : gm_G} {x : MethodName} {r : Option FieldType × List (Nat × Nat × Nat × Nat)} (hx : x.cls = RL) {n J R : Nat} {i : Int} {x6 x7 x8 : Option Value} {h : gm_H} {y : Int32} (hi : 0 ≤ i) (hi4 : i + 4 ≤ gm_L G) (hL : gm_L G ≤ 2048) (I : LI h n J R) (hJ : J < 600) (hy : y.toInt = 47) : ∃ a6 a7 a8 h', gm_goG G (lM x r) 14 (44, [some (.retAddr 999), some (.ref n), some (.ref (n + 113)), some (.ref (n + 126)), some (.ref (n + 127)), some (.int (zI i)), x6, x7, x8], [.int y], h) (2513, [some (.retAddr 999), some (.ref n), some (.ref (n + 113)), some (.ref (n + 126)), some (.ref (n + 127)), some (.int (zI i)), a6, a7, a8], [], h') ∧ LI h' n (J + 1) (R + 1) := by
  obtain ⟨h2, b, hb, H, I2⟩ := lo_save I hJ
  exact ⟨_, _, _, h2, gm_gat (gm_tabIn dL_law_44 (by rw [hy]; decide) (by rw [hy]; decide) (by rw [hy]; rfl) (show (44 : Int) + 2412 = (2456 : Nat) by decide)) (lw_save hx hb H), I2⟩
theorem cs_48 {G : gm_G} {x : MethodName} {r : Option FieldType × List (Nat × Nat × Nat × Nat)} (hx : x.cls = RL) {n J R : Nat} {i : Int} {x6 x7 x8 : Option Value} {h : gm_H} {y : Int32} (hi : 0 ≤ i) (hi4 : i + 4 ≤ gm_L G) (hL : gm_L G ≤ 2048) (I : LI h n J R) (hJ : J < 600) (hy : y.toInt = 48) : ∃ a6 a7 a8 h', gm_goG G (lM x r) 14 (44, [some (.retAddr 999), some (.ref n), some (.ref (n + 113)), some (.ref (n + 126)), some (.ref (n + 127)), some (.int (zI i)), x6, x7, x8], [.int y], h) (2513, [some (.retAddr 999), some (.ref n), some (.ref (n + 113)), some (.ref (n + 126)), some (.ref (n + 127)), some (.int (zI i)), a6, a7, a8], [], h') ∧ LI h' n (J + 1) (R + 1) := by
  obtain ⟨h2, k, b, H, hb, ho, I2⟩ := lo_restore  I hJ 
  exact ⟨_, _, _, h2, gm_gat (gm_tabIn dL_law_44 (by rw [hy]; decide) (by rw [hy]; decide) (by rw [hy]; rfl) (show (44 : Int) + 2425 = (2469 : Nat) by decide)) (lw_restore hx hb hi hi4 hL H ho), I2⟩
theorem cs_x {G : gm_G} {x : MethodName} {r : Option FieldType × List (Nat × Nat × Nat × Nat)} (hx : x.cls = RL) {n J R : Nat} {i : Int} {x6 x7 x8 : Option Value} {h : gm_H} {y : Int32} (hi : 0 ≤ i) (hi4 : i + 4 ≤ gm_L G) (hL : gm_L G ≤ 2048) (I : LI h n J R) (hJ : J < 600) (hy : 48 < y.toInt) : ∃ a6 a7 a8 h', gm_goG G (lM x r) 14 (44, [some (.retAddr 999), some (.ref n), some (.ref (n + 113)), some (.ref (n + 126)), some (.ref (n + 127)), some (.int (zI i)), x6, x7, x8], [.int y], h) (2513, [some (.retAddr 999), some (.ref n), some (.ref (n + 113)), some (.ref (n + 126)), some (.ref (n + 127)), some (.int (zI i)), a6, a7, a8], [], h') ∧ LI h' n (J + 1) (R + 1) := ⟨_, _, _, h, gm_gat (gm_tabOut dL_law_44 (Or.inr hy) (show (44 : Int) + 2469 = (2513 : Nat) by decide)) gm_goG_rf, li_up I⟩
theorem cs_all {G : gm_G} {x : MethodName} {r : Option FieldType × List (Nat × Nat × Nat × Nat)} (hx : x.cls = RL) {n J R : Nat} {i : Int} {x6 x7 x8 : Option Value} {h : gm_H} (hi : 0 ≤ i) (hi4 : i + 4 ≤ gm_L G) (hL : gm_L G ≤ 2048) (I : LI h n J R) (hJ : J < 600) : ∃ a6 a7 a8 h', gm_goG G (lM x r) 14 (44, [some (.retAddr 999), some (.ref n), some (.ref (n + 113)), some (.ref (n + 126)), some (.ref (n + 127)), some (.int (zI i)), x6, x7, x8], [.int (zI (gx G i) &&& zI 63)], h) (2513, [some (.retAddr 999), some (.ref n), some (.ref (n + 113)), some (.ref (n + 126)), some (.ref (n + 127)), some (.int (zI i)), a6, a7, a8], [], h') ∧ LI h' n (J + 1) (R + 1) := by
  have h1 := and63 (zI (gx G i))
  obtain ⟨y, hy⟩ : ∃ y : Int32, y = zI (gx G i) &&& zI 63 := ⟨_, rfl⟩
  rw [← hy] at h1 ⊢
  obtain ⟨k, hk⟩ : ∃ k : Nat, y.toInt = (k : Int) := ⟨y.toInt.toNat, by omega⟩
  have hk63 : k < 64 := by omega
  clear hy h1
  by_cases h49 : k < 49
  · match k, h49, hk with
    | 0, _, hk => exact cs_0 hx hi hi4 hL I hJ hk
    | 1, _, hk => exact cs_1 hx hi hi4 hL I hJ hk
    | 2, _, hk => exact cs_2 hx hi hi4 hL I hJ hk
    | 3, _, hk => exact cs_3 hx hi hi4 hL I hJ hk
    | 4, _, hk => exact cs_4 hx hi hi4 hL I hJ hk
    | 5, _, hk => exact cs_5 hx hi hi4 hL I hJ hk
    | 6, _, hk => exact cs_6 hx hi hi4 hL I hJ hk
    | 7, _, hk => exact cs_7 hx hi hi4 hL I hJ hk
    | 8, _, hk => exact cs_8 hx hi hi4 hL I hJ hk
    | 9, _, hk => exact cs_9 hx hi hi4 hL I hJ hk
    | 10, _, hk => exact cs_10 hx hi hi4 hL I hJ hk
    | 11, _, hk => exact cs_11 hx hi hi4 hL I hJ hk
    | 12, _, hk => exact cs_12 hx hi hi4 hL I hJ hk
    | 13, _, hk => exact cs_13 hx hi hi4 hL I hJ hk
    | 14, _, hk => exact cs_14 hx hi hi4 hL I hJ hk
    | 15, _, hk => exact cs_15 hx hi hi4 hL I hJ hk
    | 16, _, hk => exact cs_16 hx hi hi4 hL I hJ hk
    | 17, _, hk => exact cs_17 hx hi hi4 hL I hJ hk
    | 18, _, hk => exact cs_18 hx hi hi4 hL I hJ hk
    | 19, _, hk => exact cs_19 hx hi hi4 hL I hJ hk
    | 20, _, hk => exact cs_20 hx hi hi4 hL I hJ hk
    | 21, _, hk => exact cs_21 hx hi hi4 hL I hJ hk
    | 22, _, hk => exact cs_22 hx hi hi4 hL I hJ hk
    | 23, _, hk => exact cs_23 hx hi hi4 hL I hJ hk
    | 24, _, hk => exact cs_24 hx hi hi4 hL I hJ hk
    | 25, _, hk => exact cs_25 hx hi hi4 hL I hJ hk
    | 26, _, hk => exact cs_26 hx hi hi4 hL I hJ hk
    | 27, _, hk => exact cs_27 hx hi hi4 hL I hJ hk
    | 28, _, hk => exact cs_28 hx hi hi4 hL I hJ hk
    | 29, _, hk => exact cs_29 hx hi hi4 hL I hJ hk
    | 30, _, hk => exact cs_30 hx hi hi4 hL I hJ hk
    | 31, _, hk => exact cs_31 hx hi hi4 hL I hJ hk
    | 32, _, hk => exact cs_32 hx hi hi4 hL I hJ hk
    | 33, _, hk => exact cs_33 hx hi hi4 hL I hJ hk
    | 34, _, hk => exact cs_34 hx hi hi4 hL I hJ hk
    | 35, _, hk => exact cs_35 hx hi hi4 hL I hJ hk
    | 36, _, hk => exact cs_36 hx hi hi4 hL I hJ hk
    | 37, _, hk => exact cs_37 hx hi hi4 hL I hJ hk
    | 38, _, hk => exact cs_38 hx hi hi4 hL I hJ hk
    | 39, _, hk => exact cs_39 hx hi hi4 hL I hJ hk
    | 40, _, hk => exact cs_40 hx hi hi4 hL I hJ hk
    | 41, _, hk => exact cs_41 hx hi hi4 hL I hJ hk
    | 42, _, hk => exact cs_42 hx hi hi4 hL I hJ hk
    | 43, _, hk => exact cs_43 hx hi hi4 hL I hJ hk
    | 44, _, hk => exact cs_44 hx hi hi4 hL I hJ hk
    | 45, _, hk => exact cs_45 hx hi hi4 hL I hJ hk
    | 46, _, hk => exact cs_46 hx hi hi4 hL I hJ hk
    | 47, _, hk => exact cs_47 hx hi hi4 hL I hJ hk
    | 48, _, hk => exact cs_48 hx hi hi4 hL I hJ hk
    | k + 49, h49, _ => exact absurd h49 (by omega)
  · exact cs_x hx hi hi4 hL I hJ (by omega)
set_option maxRecDepth 4000 in
theorem lw_loop {G : gm_G} {x : MethodName} {r : Option FieldType × List (Nat × Nat × Nat × Nat)} (hx : x.cls = RL) (hL : gm_L G ≤ 2048) {n : Nat} : ∀ (z : Nat) (i : Int) (J R : Nat) (h : gm_H) (x6 x7 x8 : Option Value), 0 ≤ i → (gm_L G : Int) ≤ i + 4 * z → i = 4 * (J : Int) → J + z < 600 → LI h n J R → ∃ i' a6 a7 a8 h' J' R', gm_goG G (lM x r) 14 (28, [some (.retAddr 999), some (.ref n), some (.ref (n + 113)), some (.ref (n + 126)), some (.ref (n + 127)), some (.int (zI i)), x6, x7, x8], [], h) (2520, [some (.retAddr 999), some (.ref n), some (.ref (n + 113)), some (.ref (n + 126)), some (.ref (n + 127)), some (.int (zI i')), a6, a7, a8], [.int (zI 1)], h') ∧ LI h' n J' R' ∧ R' ≤ R + z := by
  intro z
  induction z with
  | zero =>
    intro i J R h x6 x7 x8 hi hz hiJ hJ I
    refine ⟨i, x6, x7, x8, h, J, R, ?_, I, by omega⟩
    refine gm_gat (gm_iload dL_law_28 rfl) ?_
    refine gm_gat (gm_aload_n dL_law_30 rfl (by first | exact Or.inl ⟨_, rfl⟩ | exact Or.inr ⟨_, rfl⟩)) ?_
    refine gm_goG_tr (gm_slen dL_law_31) ?_
    rw [show Int32.ofNat (gm_L G) = zI ((gm_L G : Nat) : Int) from (zI_nat _).symm]
    refine gm_gat (gi_const dL_law_32) ?_
    refine gm_gat (gi_sub dL_law_33) ?_
    refine gm_gat (gi_icmp_gt_t (tgt := 2519) dL_law_34 (by decide) (by omega) (by omega) (by omega)) ?_
    refine gm_gat (gi_const dL_law_2519) ?_
    exact gm_goG_rf
  | succ z ih =>
    intro i J R h x6 x7 x8 hi hz hiJ hJ I
    by_cases h4 : i + 4 ≤ gm_L G
    ·
      obtain ⟨a6, a7, a8, h1, c1, I1⟩ := cs_all (x6 := x6) (x7 := x7) (x8 := x8) (r := r) hx hi h4 hL I (by omega)
      obtain ⟨i', b6, b7, b8, h', J', R', c2, I2, hR⟩ := ih (i + 4) (J + 1) (R + 1) h1 a6 a7 a8 (by omega) (by omega) (by omega) (by omega) I1
      refine ⟨i', b6, b7, b8, h', J', R', ?_, I2, by omega⟩
      refine gm_gat (gm_iload dL_law_28 rfl) ?_
      refine gm_gat (gm_aload_n dL_law_30 rfl (by first | exact Or.inl ⟨_, rfl⟩ | exact Or.inr ⟨_, rfl⟩)) ?_
      refine gm_goG_tr (gm_slen dL_law_31) ?_
      rw [show Int32.ofNat (gm_L G) = zI ((gm_L G : Nat) : Int) from (zI_nat _).symm]
      refine gm_gat (gi_const dL_law_32) ?_
      refine gm_gat (gi_sub dL_law_33) ?_
      refine gm_gat (gi_icmp_gt_f 2519 dL_law_34 (by decide) (by omega) (by omega) (by omega)) ?_
      refine gm_gat (gm_aload_n dL_law_37 rfl (by first | exact Or.inl ⟨_, rfl⟩ | exact Or.inr ⟨_, rfl⟩)) ?_
      refine gm_gat (gm_iload dL_law_38 rfl) ?_
      refine gm_goG_tr (gi_sld dL_law_40 hi (by omega) hL) ?_
      refine gm_gat (gi_bipush dL_law_41 (by decide +kernel)) ?_
      refine gm_gat (gm_iand dL_law_43) ?_
      refine gm_goG_tr c1 ?_
      refine gm_gat (gi_iinc (ls' := [_, _, _, _, _, _, _, _, _]) dL_law_2513 rfl (Nat.le_of_ble_eq_true rfl) rfl) ?_
      refine gm_gat (gm_goto (tgt := 28) dL_law_2516 (by decide)) ?_
      exact c2
    ·
      refine ⟨i, x6, x7, x8, h, J, R, ?_, I, by omega⟩
      refine gm_gat (gm_iload dL_law_28 rfl) ?_
      refine gm_gat (gm_aload_n dL_law_30 rfl (by first | exact Or.inl ⟨_, rfl⟩ | exact Or.inr ⟨_, rfl⟩)) ?_
      refine gm_goG_tr (gm_slen dL_law_31) ?_
      rw [show Int32.ofNat (gm_L G) = zI ((gm_L G : Nat) : Int) from (zI_nat _).symm]
      refine gm_gat (gi_const dL_law_32) ?_
      refine gm_gat (gi_sub dL_law_33) ?_
      refine gm_gat (gi_icmp_gt_t (tgt := 2519) dL_law_34 (by decide) (by omega) (by omega) (by omega)) ?_
      refine gm_gat (gi_const dL_law_2519) ?_
      exact gm_goG_rf
theorem lw_whole {G : gm_G} {x : MethodName} {r : Option FieldType × List (Nat × Nat × Nat × Nat)} (hx : x.cls = RL) (hL : gm_L G ≤ 2048) : ∃ ls h', gm_goG G (lM x r) 14 (0, [some (.retAddr 999), none, none, none, none, none, none, none, none], [], ([], (0, 0))) (2520, ls, [.int (zI 1)], h') ∧ h'.2.1 ≤ 603072 ∧ h'.2.2 ≤ 7207018 := by
  obtain ⟨h1, c1, I1⟩ := lw_pro (G := G) (r := r) hx (n := 0) (h := ([], (0, 0))) rfl rfl
  obtain ⟨i', a6, a7, a8, h', J', R', c2, I2, hR⟩ := lw_loop (r := r) hx hL 512 0 0 0 h1 none none none (by omega) (by omega) (by omega) (by omega) I1
  obtain ⟨K, F, S, P, X, Ln, c, L, g, T, -, hB, -⟩ := I2
  obtain ⟨q, -, -, e1, e2⟩ := hB.2.2.2.2.2.2.2.2
  exact ⟨_, h', gm_goG_tr c1 c2, by omega, by omega⟩
