set_option maxRecDepth 4000 in
theorem ct_errorPosition {h : gm_H} {n : Nat} {hs ep fc : Int} (hB : h.1[n]? = some (by_c n hs ep fc)) (hr : zR ep) (hq : ¬ ep = -1) : gm_co mX10_errorPosition 10 [.ref n] h (.inl (some (.int (zI ep)))) h := by
  refine gm_co_of _ (by decide +kernel) rfl (Nat.le_of_ble_eq_true rfl) rfl ?_
  refine gm_go.ru (gm_aload_n dX10_errorPosition_0 rfl (by first | exact Or.inl ⟨_, rfl⟩ | exact Or.inr ⟨_, rfl⟩)) ?_
  refine gm_go.ru (gm_get dX10_errorPosition_1 (fl_X10_58 rfl) hB rfl) ?_
  refine gm_go.ru (gi_const dX10_errorPosition_4) ?_
  refine gm_go.ru (gi_icmp_ne_t (tgt := 19) dX10_errorPosition_5 (by decide) (by omega) (by omega) hq) ?_
  refine gm_go.ru (gm_aload_n dX10_errorPosition_19 rfl (by first | exact Or.inl ⟨_, rfl⟩ | exact Or.inr ⟨_, rfl⟩)) ?_
  refine gm_go.ru (gm_get dX10_errorPosition_20 (fl_X10_58 rfl) hB rfl) ?_
  exact gm_iret dX10_errorPosition_23 rfl
set_option maxRecDepth 4000 in
theorem ct_errorPositionX {h : gm_H} {n : Nat} {hs ep fc : Int} (hB : h.1[n]? = some (by_c n hs ep fc)) (hr : zR ep) (hq : ep = -1) : gm_co mX10_errorPosition 10 [.ref n] h (.inr "java/util/NoSuchElementException") (zTh h) := by
  refine gm_co_of _ (by decide +kernel) rfl (Nat.le_of_ble_eq_true rfl) rfl ?_
  refine gm_go.ru (gm_aload_n dX10_errorPosition_0 rfl (by first | exact Or.inl ⟨_, rfl⟩ | exact Or.inr ⟨_, rfl⟩)) ?_
  refine gm_go.ru (gm_get dX10_errorPosition_1 (fl_X10_58 rfl) hB rfl) ?_
  refine gm_go.ru (gi_const dX10_errorPosition_4) ?_
  refine gm_go.ru (gi_icmp_ne_f 19 dX10_errorPosition_5 (by decide) (by omega) (by omega) hq) ?_
  exact gm_throwXW (tf_X10_154_330 rfl) rfl dX10_errorPosition_8 dX10_errorPosition_11 dX10_errorPosition_12 dX10_errorPosition_15 dX10_errorPosition_18 (Nat.le_of_ble_eq_true rfl) (by decide) (by decide)
set_option maxRecDepth 4000 in
theorem ct_failedCommand {h : gm_H} {n : Nat} {hs ep fc : Int} (hB : h.1[n]? = some (by_c n hs ep fc)) (hr : zR fc) (hq : ¬ fc = -1) : gm_co mX10_failedCommand 10 [.ref n] h (.inl (some (.int (zI fc)))) h := by
  refine gm_co_of _ (by decide +kernel) rfl (Nat.le_of_ble_eq_true rfl) rfl ?_
  refine gm_go.ru (gm_aload_n dX10_failedCommand_0 rfl (by first | exact Or.inl ⟨_, rfl⟩ | exact Or.inr ⟨_, rfl⟩)) ?_
  refine gm_go.ru (gm_get dX10_failedCommand_1 (fl_X10_62 rfl) hB rfl) ?_
  refine gm_go.ru (gi_const dX10_failedCommand_4) ?_
  refine gm_go.ru (gi_icmp_ne_t (tgt := 19) dX10_failedCommand_5 (by decide) (by omega) (by omega) hq) ?_
  refine gm_go.ru (gm_aload_n dX10_failedCommand_19 rfl (by first | exact Or.inl ⟨_, rfl⟩ | exact Or.inr ⟨_, rfl⟩)) ?_
  refine gm_go.ru (gm_get dX10_failedCommand_20 (fl_X10_62 rfl) hB rfl) ?_
  exact gm_iret dX10_failedCommand_23 rfl
set_option maxRecDepth 4000 in
theorem ct_failedCommandX {h : gm_H} {n : Nat} {hs ep fc : Int} (hB : h.1[n]? = some (by_c n hs ep fc)) (hr : zR fc) (hq : fc = -1) : gm_co mX10_failedCommand 10 [.ref n] h (.inr "java/util/NoSuchElementException") (zTh h) := by
  refine gm_co_of _ (by decide +kernel) rfl (Nat.le_of_ble_eq_true rfl) rfl ?_
  refine gm_go.ru (gm_aload_n dX10_failedCommand_0 rfl (by first | exact Or.inl ⟨_, rfl⟩ | exact Or.inr ⟨_, rfl⟩)) ?_
  refine gm_go.ru (gm_get dX10_failedCommand_1 (fl_X10_62 rfl) hB rfl) ?_
  refine gm_go.ru (gi_const dX10_failedCommand_4) ?_
  refine gm_go.ru (gi_icmp_ne_f 19 dX10_failedCommand_5 (by decide) (by omega) (by omega) hq) ?_
  exact gm_throwXW (tf_X10_154_332 rfl) rfl dX10_failedCommand_8 dX10_failedCommand_11 dX10_failedCommand_12 dX10_failedCommand_15 dX10_failedCommand_18 (Nat.le_of_ble_eq_true rfl) (by decide) (by decide)
set_option maxRecDepth 4000 in
theorem ct_undo {h : gm_H} {n : Nat} {v : Nat → Int} {hs ep fc : Int} (hB : h.1[n]? = some (by_c n hs ep fc)) (hS : st_at h (n + 1) v) {P : Nat → Nat → Int} {m : Nat} (hH : hi_at h (n + 19) P (m + 1)) : ∃ h', gm_co mX10_undo 10 [.ref n] h (.inl (some (.int (zI (m : Int))))) h' ∧ hi_at h' (n + 19) P m ∧ st_at h' (n + 1) (P m) ∧ gh_fr h h' (fun k => k = n + 19 ∨ st_K (n + 1) k) := by
  obtain ⟨s0, sN, sO⟩ := id hS
  obtain ⟨h1, S, D, h2, h3, nS, nD⟩ := id sN
  obtain ⟨o1, I, M, U, Y, o2, o3, o4, o5, oD⟩ := id sO
  obtain ⟨f9, R9, ⟨p1, p2, p3, p4, p5⟩, p6⟩ := id hH
  obtain ⟨h', e1, e2, e3, e4⟩ := ct_takeBack hH hS (by omega)
  obtain ⟨f8, R8, ⟨r1, r2, r3, r4, r5⟩, r6⟩ := id e2
  have B2 := gh_at e4 hB (fun z => by have := z; unfold st_K at this; omega)
  refine ⟨h', ?_, e2, e3, e4⟩
  refine gm_co_of _ (by decide +kernel) rfl (Nat.le_of_ble_eq_true rfl) rfl ?_
  refine gm_go.ru (gm_aload_n dX10_undo_0 rfl (by first | exact Or.inl ⟨_, rfl⟩ | exact Or.inr ⟨_, rfl⟩)) ?_
  refine gm_go.ru (gm_get dX10_undo_1 (fl_X10_22 rfl) hB rfl) ?_
  refine gm_go.ru (gm_get dX10_undo_4 (fl_X10_334 rfl) p3 rfl) ?_
  refine gm_go.ru (gi_if_ne_t (tgt := 21) dX10_undo_7 (by decide) (by omega) (by omega)) ?_
  refine gm_go.ru (gm_aload_n dX10_undo_21 rfl (by first | exact Or.inl ⟨_, rfl⟩ | exact Or.inr ⟨_, rfl⟩)) ?_
  refine gm_go.ru (gm_get dX10_undo_22 (fl_X10_22 rfl) hB rfl) ?_
  refine gm_go.ru (gm_aload_n dX10_undo_25 rfl (by first | exact Or.inl ⟨_, rfl⟩ | exact Or.inr ⟨_, rfl⟩)) ?_
  refine gm_go.ru (gm_get dX10_undo_26 (fl_X10_10 rfl) hB rfl) ?_
  refine gm_go.ru (gm_cV0 dX10_undo_29 (e1) rfl mt_X2_takeBack mv_X2_takeBack (lk_X10_337 rfl) (Or.inl ⟨_, 4, _, _, _, rfl, p3, rfl⟩) rfl (Nat.le_of_ble_eq_true rfl) (by decide)) ?_
  refine gm_go.ru (gm_aload_n dX10_undo_32 rfl (by first | exact Or.inl ⟨_, rfl⟩ | exact Or.inr ⟨_, rfl⟩)) ?_
  refine gm_go.ru (gm_get dX10_undo_33 (fl_X10_22 rfl) B2 rfl) ?_
  refine gm_go.ru (gm_get dX10_undo_36 (fl_X10_334 rfl) r3 rfl) ?_
  exact gm_iret dX10_undo_39 rfl
set_option maxRecDepth 4000 in
theorem ct_undoX {h : gm_H} {n : Nat} {hs ep fc : Int} (hB : h.1[n]? = some (by_c n hs ep fc)) {P : Nat → Nat → Int} (hH : hi_at h (n + 19) P 0) : gm_co mX10_undo 10 [.ref n] h (.inr "java/lang/IllegalStateException") (zTh h) := by
  refine gm_co_of _ (by decide +kernel) rfl (Nat.le_of_ble_eq_true rfl) rfl ?_
  obtain ⟨f9, R9, ⟨p1, p2, p3, p4, p5⟩, p6⟩ := id hH
  refine gm_go.ru (gm_aload_n dX10_undo_0 rfl (by first | exact Or.inl ⟨_, rfl⟩ | exact Or.inr ⟨_, rfl⟩)) ?_
  refine gm_go.ru (gm_get dX10_undo_1 (fl_X10_22 rfl) hB rfl) ?_
  refine gm_go.ru (gm_get dX10_undo_4 (fl_X10_334 rfl) p3 rfl) ?_
  refine gm_go.ru (gi_if_ne_f 21 dX10_undo_7 (by decide) (by decide) rfl) ?_
  exact gm_throwW (tf_X10_296_335 rfl) rfl dX10_undo_10 dX10_undo_13 dX10_undo_14 dX10_undo_17 dX10_undo_20 (Nat.le_of_ble_eq_true rfl) (by decide) (by decide)
set_option maxRecDepth 4000 in
theorem ct_save {h : gm_H} {n : Nat} {v : Nat → Int} {hs ep fc : Int} (hB : h.1[n]? = some (by_c n hs ep fc)) (hS : st_at h (n + 1) v) {u : Nat → Int} (hU : st_at h (n + 10) u) (h7 : v 4 ≤ 7) : ∃ h', gm_co mX10_save 4 [.ref n] h (.inl (some (.int (zI (v 2))))) h' ∧ h'.1[n]? = some (by_c n 1 ep fc) ∧ st_at h' (n + 1) v ∧ st_at h' (n + 10) v ∧ gh_fr h h' (fun k => k = n ∨ st_K (n + 10) k) := by
  obtain ⟨s0, sN, sO⟩ := id hS
  obtain ⟨h1, S, D, h2, h3, nS, nD⟩ := id sN
  obtain ⟨o1, I, M, U, Y, o2, o3, o4, o5, oD⟩ := id sO
  obtain ⟨t0, tN, tO⟩ := id hU
  obtain ⟨a1, e1, e2, e3⟩ := ct_stcopy hU hS (by omega) h7
  have B1 := gh_at e3 hB (fun z => by have := z.1; omega)
  have S1 := st_fr e3 (fun k hk z => by have := hk.2; have := z.1; omega) hS
  obtain ⟨a2, ha2⟩ : ∃ x : gm_H, x = (a1.1.set n (by_c n 1 ep fc), a1.2) := ⟨_, rfl⟩
  have f2 : gh_fr a1 a2 (fun k => k = n) := by rw [ha2]; exact gh_set (K := fun k => k = n) gh_rf rfl _
  have S2 := st_fr f2 (fun k hk z => by have := hk.1; omega) S1
  have U2 := st_fr f2 (fun k hk z => by have := hk.1; omega) e2
  have B2 : a2.1[n]? = some (by_c n 1 ep fc) := by rw [ha2]; exact gs_s B1
  obtain ⟨u0, uN, uO⟩ := id S2
  obtain ⟨q1, q2⟩ := id uO
  refine ⟨a2, ?_, B2, S2, U2, gh_tr (gh_mono e3 fun k z => Or.inr z) (gh_mono f2 fun k z => Or.inl z)⟩
  refine gm_co_of _ (by decide +kernel) rfl (Nat.le_of_ble_eq_true rfl) rfl ?_
  refine gm_go.ru (gm_aload_n dX10_save_0 rfl (by first | exact Or.inl ⟨_, rfl⟩ | exact Or.inr ⟨_, rfl⟩)) ?_
  refine gm_go.ru (gm_get dX10_save_1 (fl_X10_16 rfl) hB rfl) ?_
  refine gm_go.ru (gm_aload_n dX10_save_4 rfl (by first | exact Or.inl ⟨_, rfl⟩ | exact Or.inr ⟨_, rfl⟩)) ?_
  refine gm_go.ru (gm_get dX10_save_5 (fl_X10_10 rfl) hB rfl) ?_
  refine gm_go.ru (gm_cV0 dX10_save_8 (e1) rfl mt_X9_copyFrom mv_X9_copyFrom (lk_X10_340 rfl) (Or.inl ⟨_, 10, _, _, _, rfl, t0, rfl⟩) rfl (Nat.le_of_ble_eq_true rfl) (by decide)) ?_
  refine gm_go.ru (gm_aload_n dX10_save_11 rfl (by first | exact Or.inl ⟨_, rfl⟩ | exact Or.inr ⟨_, rfl⟩)) ?_
  refine gm_go.ru (gi_const dX10_save_12) ?_
  refine gm_go.ru (gm_put dX10_save_13 (fp_X10_343 rfl) B1 (Nat.le_of_ble_eq_true rfl) (by first | exact ⟨rfl, rfl⟩ | exact trivial)) ?_
  refine gm_hp ha2 ?_
  refine gm_go.ru (gm_aload_n dX10_save_16 rfl (by first | exact Or.inl ⟨_, rfl⟩ | exact Or.inr ⟨_, rfl⟩)) ?_
  refine gm_go.ru (gm_get dX10_save_17 (fl_X10_10 rfl) B2 rfl) ?_
  refine gm_go.ru (gm_get dX10_save_20 (fl_X10_204 rfl) u0 rfl) ?_
  refine gm_go.ru (gm_get dX10_save_23 (fl_X10_208 rfl) q1 rfl) ?_
  exact gm_iret dX10_save_26 rfl
set_option maxRecDepth 4000 in
theorem ct_restore {h : gm_H} {n : Nat} {v : Nat → Int} {ep fc : Int} (hB : h.1[n]? = some (by_c n 1 ep fc)) (hS : st_at h (n + 1) v) {u : Nat → Int} (hU : st_at h (n + 10) u) (h7 : u 4 ≤ 7) {P : Nat → Nat → Int} {m : Nat} (hH : hi_at h (n + 19) P m) : ∃ h', gm_co mX10_restore 10 [.ref n] h (.inl (some (.int (zI (u 2))))) h' ∧ st_at h' (n + 1) u ∧ hi_at h' (n + 19) P 0 ∧ gh_fr h h' (fun k => st_K (n + 1) k ∨ k = n + 19) := by
  obtain ⟨s0, sN, sO⟩ := id hS
  obtain ⟨h1, S, D, h2, h3, nS, nD⟩ := id sN
  obtain ⟨o1, I, M, U, Y, o2, o3, o4, o5, oD⟩ := id sO
  obtain ⟨t0, tN, tO⟩ := id hU
  obtain ⟨a1, e1, e2, e3⟩ := ct_stcopy hS hU (by omega) h7
  have B1 := gh_at e3 hB (fun z => by have := z.1; omega)
  have H1 := hi_fr e3 (fun k hk z => by have := hk.1; have := z.2; omega) hH
  obtain ⟨f9, R9, ⟨p1, p2, p3, p4, p5⟩, p6⟩ := id H1
  obtain ⟨a2, g1, g2, g3⟩ := ct_forget H1
  have B2 := gh_at g3 B1 (by omega)
  have S2 := st_fr g3 (fun k hk z => by have := hk.2; omega) e2
  obtain ⟨u0, uN, uO⟩ := id S2
  obtain ⟨q1, q2⟩ := id uO
  refine ⟨a2, ?_, S2, g2, gh_tr (gh_mono e3 fun k z => Or.inl z) (gh_mono g3 fun k z => Or.inr z)⟩
  refine gm_co_of _ (by decide +kernel) rfl (Nat.le_of_ble_eq_true rfl) rfl ?_
  refine gm_go.ru (gm_aload_n dX10_restore_0 rfl (by first | exact Or.inl ⟨_, rfl⟩ | exact Or.inr ⟨_, rfl⟩)) ?_
  refine gm_go.ru (gm_get dX10_restore_1 (fl_X10_343 rfl) hB rfl) ?_
  refine gm_go.ru (gi_if_ne_t (tgt := 18) dX10_restore_4 (by decide) (by decide) (by decide)) ?_
  refine gm_go.ru (gm_aload_n dX10_restore_18 rfl (by first | exact Or.inl ⟨_, rfl⟩ | exact Or.inr ⟨_, rfl⟩)) ?_
  refine gm_go.ru (gm_get dX10_restore_19 (fl_X10_10 rfl) hB rfl) ?_
  refine gm_go.ru (gm_aload_n dX10_restore_22 rfl (by first | exact Or.inl ⟨_, rfl⟩ | exact Or.inr ⟨_, rfl⟩)) ?_
  refine gm_go.ru (gm_get dX10_restore_23 (fl_X10_16 rfl) hB rfl) ?_
  refine gm_go.ru (gm_cV0 dX10_restore_26 (e1) rfl mt_X9_copyFrom mv_X9_copyFrom (lk_X10_340 rfl) (Or.inl ⟨_, 10, _, _, _, rfl, s0, rfl⟩) rfl (Nat.le_of_ble_eq_true rfl) (by decide)) ?_
  refine gm_go.ru (gm_aload_n dX10_restore_29 rfl (by first | exact Or.inl ⟨_, rfl⟩ | exact Or.inr ⟨_, rfl⟩)) ?_
  refine gm_go.ru (gm_get dX10_restore_30 (fl_X10_22 rfl) B1 rfl) ?_
  refine gm_go.ru (gm_cV0 dX10_restore_33 (g1) rfl mt_X2_forget mv_X2_forget (lk_X10_349 rfl) (Or.inl ⟨_, 4, _, _, _, rfl, p3, rfl⟩) rfl (Nat.le_of_ble_eq_true rfl) (by decide)) ?_
  refine gm_go.ru (gm_aload_n dX10_restore_36 rfl (by first | exact Or.inl ⟨_, rfl⟩ | exact Or.inr ⟨_, rfl⟩)) ?_
  refine gm_go.ru (gm_get dX10_restore_37 (fl_X10_10 rfl) B2 rfl) ?_
  refine gm_go.ru (gm_get dX10_restore_40 (fl_X10_204 rfl) u0 rfl) ?_
  refine gm_go.ru (gm_get dX10_restore_43 (fl_X10_208 rfl) q1 rfl) ?_
  exact gm_iret dX10_restore_46 rfl
set_option maxRecDepth 4000 in
theorem ct_restoreX {h : gm_H} {n : Nat} {ep fc : Int} (hB : h.1[n]? = some (by_c n 0 ep fc)) : gm_co mX10_restore 10 [.ref n] h (.inr "java/lang/IllegalStateException") (zTh h) := by
  refine gm_co_of _ (by decide +kernel) rfl (Nat.le_of_ble_eq_true rfl) rfl ?_
  refine gm_go.ru (gm_aload_n dX10_restore_0 rfl (by first | exact Or.inl ⟨_, rfl⟩ | exact Or.inr ⟨_, rfl⟩)) ?_
  refine gm_go.ru (gm_get dX10_restore_1 (fl_X10_343 rfl) hB rfl) ?_
  refine gm_go.ru (gi_if_ne_f 18 dX10_restore_4 (by decide) (by decide) rfl) ?_
  exact gm_throwW (tf_X10_296_347 rfl) rfl dX10_restore_7 dX10_restore_10 dX10_restore_11 dX10_restore_14 dX10_restore_17 (Nat.le_of_ble_eq_true rfl) (by decide) (by decide)
set_option maxRecDepth 4000 in
theorem ct_typeX {h : gm_H} {n : Nat} {c : Int} (hc : zR c) (hq : c < 32 ∨ 126 < c) : gm_co mX10_type 10 [.ref n, .int (zI c)] h (.inr "java/lang/IllegalArgumentException") (zTh h) := by
  refine gm_co_of _ (by decide +kernel) rfl (Nat.le_of_ble_eq_true rfl) rfl ?_
  refine gm_go.ru (gm_iload_n dX10_type_0 rfl) ?_
  refine gm_go.ru (gi_bipush dX10_type_1 (by decide +kernel)) ?_
  refine gm_go.ru (gi_bipush dX10_type_3 (by decide +kernel)) ?_
  refine gm_go.ru (gm_cS dX10_type_5 (ct_outside hc (by omega) (by omega)) rfl mt_X10_outside ms_X10_outside (lk_X10_285 rfl) rfl (Nat.le_of_ble_eq_true rfl) (by decide)) ?_
  rw [zB_t hq]
  refine gm_go.ru (gi_if_eq_f 22 dX10_type_8 (by decide) (by decide) (by decide)) ?_
  exact gm_throwW (tf_X10_289_291 rfl) rfl dX10_type_11 dX10_type_14 dX10_type_15 dX10_type_18 dX10_type_21 (Nat.le_of_ble_eq_true rfl) (by decide) (by decide)
set_option maxRecDepth 4000 in
theorem ct_typeY {h : gm_H} {n L p w k : Nat} {X N : Nat → Int} {hs ep fc c : Int} (hB : h.1[n]? = some (by_c n hs ep fc)) (hP : pg_at h (n + 110) X L p w N k) (hc : zR c) (hq : ¬ (c < 32 ∨ 126 < c)) (hl : 60 ≤ L) : gm_co mX10_type 10 [.ref n, .int (zI c)] h (.inr "java/lang/IllegalStateException") (zTh h) := by
  refine gm_co_of _ (by decide +kernel) rfl (Nat.le_of_ble_eq_true rfl) rfl ?_
  obtain ⟨h1, h2, h3, hL, hp9, hX, hk⟩ := id hP
  refine gm_go.ru (gm_iload_n dX10_type_0 rfl) ?_
  refine gm_go.ru (gi_bipush dX10_type_1 (by decide +kernel)) ?_
  refine gm_go.ru (gi_bipush dX10_type_3 (by decide +kernel)) ?_
  refine gm_go.ru (gm_cS dX10_type_5 (ct_outside hc (by omega) (by omega)) rfl mt_X10_outside ms_X10_outside (lk_X10_285 rfl) rfl (Nat.le_of_ble_eq_true rfl) (by decide)) ?_
  rw [zB_f hq]
  refine gm_go.ru (gi_if_eq_t (tgt := 22) dX10_type_8 (by decide) (by decide) rfl) ?_
  refine gm_go.ru (gm_aload_n dX10_type_22 rfl (by first | exact Or.inl ⟨_, rfl⟩ | exact Or.inr ⟨_, rfl⟩)) ?_
  refine gm_go.ru (gm_get dX10_type_23 (fl_X10_54 rfl) hB rfl) ?_
  refine gm_go.ru (gm_get dX10_type_26 (fl_X10_294 rfl) h1 rfl) ?_
  refine gm_go.ru (gi_bipush dX10_type_29 (by decide +kernel)) ?_
  refine gm_go.ru (gi_icmp_lt_f 45 dX10_type_31 (by decide) (by omega) (by omega) (by omega)) ?_
  exact gm_throwW (tf_X10_296_298 rfl) rfl dX10_type_34 dX10_type_37 dX10_type_38 dX10_type_41 dX10_type_44 (Nat.le_of_ble_eq_true rfl) (by decide) (by decide)
set_option maxRecDepth 4000 in
theorem ct_type {h : gm_H} {n L p w k : Nat} {X N : Nat → Int} {hs ep fc c : Int} (hB : h.1[n]? = some (by_c n hs ep fc)) (hP : pg_at h (n + 110) X L p w N k) (hc : zR c) (hq : ¬ (c < 32 ∨ 126 < c)) (hl : L < 60) : ∃ h', gm_co mX10_type 10 [.ref n, .int (zI c)] h (.inl (some (.int (zI (((L + 1 : Nat) : Int)))))) h' ∧ pg_at h' (n + 110) (zU X L c) (L + 1) p w N k ∧ gh_fr h h' (pg_K (n + 110)) := by
  obtain ⟨h1, h2, h3, hL, hp9, hX, hk⟩ := id hP
  obtain ⟨h', e1, e2, e3⟩ := ct_pgAppend hP (c := c) (by omega) hl
  have B2 := gh_at e3 hB (fun z => by have := z.1; omega)
  obtain ⟨g1, g2⟩ := id e2
  refine ⟨h', ?_, e2, e3⟩
  refine gm_co_of _ (by decide +kernel) rfl (Nat.le_of_ble_eq_true rfl) rfl ?_
  refine gm_go.ru (gm_iload_n dX10_type_0 rfl) ?_
  refine gm_go.ru (gi_bipush dX10_type_1 (by decide +kernel)) ?_
  refine gm_go.ru (gi_bipush dX10_type_3 (by decide +kernel)) ?_
  refine gm_go.ru (gm_cS dX10_type_5 (ct_outside hc (by omega) (by omega)) rfl mt_X10_outside ms_X10_outside (lk_X10_285 rfl) rfl (Nat.le_of_ble_eq_true rfl) (by decide)) ?_
  rw [zB_f hq]
  refine gm_go.ru (gi_if_eq_t (tgt := 22) dX10_type_8 (by decide) (by decide) rfl) ?_
  refine gm_go.ru (gm_aload_n dX10_type_22 rfl (by first | exact Or.inl ⟨_, rfl⟩ | exact Or.inr ⟨_, rfl⟩)) ?_
  refine gm_go.ru (gm_get dX10_type_23 (fl_X10_54 rfl) hB rfl) ?_
  refine gm_go.ru (gm_get dX10_type_26 (fl_X10_294 rfl) h1 rfl) ?_
  refine gm_go.ru (gi_bipush dX10_type_29 (by decide +kernel)) ?_
  refine gm_go.ru (gi_icmp_lt_t (tgt := 45) dX10_type_31 (by decide) (by omega) (by omega) (by omega)) ?_
  refine gm_go.ru (gm_aload_n dX10_type_45 rfl (by first | exact Or.inl ⟨_, rfl⟩ | exact Or.inr ⟨_, rfl⟩)) ?_
  refine gm_go.ru (gm_get dX10_type_46 (fl_X10_54 rfl) hB rfl) ?_
  refine gm_go.ru (gm_iload_n dX10_type_49 rfl) ?_
  refine gm_go.ru (gm_cV0 dX10_type_50 (e1) rfl mt_X7_append mv_X7_append (lk_X10_301 rfl) (Or.inl ⟨_, 9, _, _, _, rfl, h1, rfl⟩) rfl (Nat.le_of_ble_eq_true rfl) (by decide)) ?_
  refine gm_go.ru (gm_aload_n dX10_type_53 rfl (by first | exact Or.inl ⟨_, rfl⟩ | exact Or.inr ⟨_, rfl⟩)) ?_
  refine gm_go.ru (gm_get dX10_type_54 (fl_X10_54 rfl) B2 rfl) ?_
  refine gm_go.ru (gm_get dX10_type_57 (fl_X10_294 rfl) g1 rfl) ?_
  exact gm_iret dX10_type_60 rfl
