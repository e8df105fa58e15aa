set_option maxRecDepth 4000 in
theorem ct_needNeedle {h : gm_H} {n : Nat} {v : Nat → Int} {hs ep fc i : Int} (hB : h.1[n]? = some (by_c n hs ep fc)) (hS : st_at h (n + 1) v) (hv : nd_iv v) (hi : zR i) (hq : 0 ≤ i ∧ i < v 0) : gm_co mX10_needNeedle 9 [.ref n, .int (zI i)] h (.inl none) h := by
  refine gm_co_of _ (by decide +kernel) rfl (Nat.le_of_ble_eq_true rfl) rfl ?_
  obtain ⟨s0, sN, sO⟩ := id hS
  obtain ⟨h1, h2⟩ := id sN
  refine gm_go.ru (gm_aload_n dX10_needNeedle_0 rfl (by first | exact Or.inl ⟨_, rfl⟩ | exact Or.inr ⟨_, rfl⟩)) ?_
  refine gm_go.ru (gm_get dX10_needNeedle_1 (fl_X10_10 rfl) hB rfl) ?_
  refine gm_go.ru (gm_get dX10_needNeedle_4 (fl_X10_90 rfl) s0 rfl) ?_
  refine gm_go.ru (gm_iload_n dX10_needNeedle_7 rfl) ?_
  refine gm_go.ru (gm_cV dX10_needNeedle_8 (ct_has sN hv.1 hi) rfl mt_X3_has mv_X3_has (lk_X10_379 rfl) (Or.inl ⟨_, 5, _, _, _, rfl, h1, rfl⟩) rfl (Nat.le_of_ble_eq_true rfl) (by decide)) ?_
  rw [zB_t hq]
  refine gm_go.ru (gi_if_ne_t (tgt := 20) dX10_needNeedle_11 (by decide) (by decide) (by decide)) ?_
  exact gm_vret dX10_needNeedle_20 rfl
set_option maxRecDepth 4000 in
theorem ct_needNeedleX {h : gm_H} {n : Nat} {v : Nat → Int} {hs ep fc i : Int} (hB : h.1[n]? = some (by_c n hs ep fc)) (hS : st_at h (n + 1) v) (hv : nd_iv v) (hi : zR i) (hq : ¬ (0 ≤ i ∧ i < v 0)) : gm_co mX10_needNeedle 9 [.ref n, .int (zI i)] h (.inr "java/lang/IndexOutOfBoundsException") (zTh h) := by
  refine gm_co_of _ (by decide +kernel) rfl (Nat.le_of_ble_eq_true rfl) rfl ?_
  obtain ⟨s0, sN, sO⟩ := id hS
  obtain ⟨h1, h2⟩ := id sN
  refine gm_go.ru (gm_aload_n dX10_needNeedle_0 rfl (by first | exact Or.inl ⟨_, rfl⟩ | exact Or.inr ⟨_, rfl⟩)) ?_
  refine gm_go.ru (gm_get dX10_needNeedle_1 (fl_X10_10 rfl) hB rfl) ?_
  refine gm_go.ru (gm_get dX10_needNeedle_4 (fl_X10_90 rfl) s0 rfl) ?_
  refine gm_go.ru (gm_iload_n dX10_needNeedle_7 rfl) ?_
  refine gm_go.ru (gm_cV dX10_needNeedle_8 (ct_has sN hv.1 hi) rfl mt_X3_has mv_X3_has (lk_X10_379 rfl) (Or.inl ⟨_, 5, _, _, _, rfl, h1, rfl⟩) rfl (Nat.le_of_ble_eq_true rfl) (by decide)) ?_
  rw [zB_f hq]
  refine gm_go.ru (gi_if_ne_f 20 dX10_needNeedle_11 (by decide) (by decide) (by decide)) ?_
  refine gm_go.ru (gm_gets (v := .retAddr 1) dX10_needNeedle_14 (by decide +kernel) (sl_X10_382 rfl) rfl) ?_
  exact gm_pS dX10_needNeedle_17 ct_refuse1 rfl rfl mt_X10_refuse ms_X10_refuse (lk_X10_356 rfl) rfl (Nat.le_of_ble_eq_true rfl) (by decide)
set_option maxRecDepth 4000 in
theorem ct_needCourse {h : gm_H} {i : Int} (hi : zR i) (hq : ¬ (i < 0 ∨ 359 < i)) : gm_co mX10_needCourse 8 [.int (zI i)] h (.inl none) h := by
  refine gm_co_of _ (by decide +kernel) rfl (Nat.le_of_ble_eq_true rfl) rfl ?_
  refine gm_go.ru (gm_iload_n dX10_needCourse_0 rfl) ?_
  refine gm_go.ru (gi_const dX10_needCourse_1) ?_
  refine gm_go.ru (gi_sipush dX10_needCourse_2 (by decide +kernel)) ?_
  refine gm_go.ru (gm_cS dX10_needCourse_5 (ct_outside hi (by omega) (by omega)) rfl mt_X10_outside ms_X10_outside (lk_X10_285 rfl) rfl (Nat.le_of_ble_eq_true rfl) (by decide)) ?_
  rw [zB_f hq]
  refine gm_go.ru (gi_if_eq_t (tgt := 22) dX10_needCourse_8 (by decide) (by decide) rfl) ?_
  exact gm_vret dX10_needCourse_22 rfl
set_option maxRecDepth 4000 in
theorem ct_needCourseX {h : gm_H} {i : Int} (hi : zR i) (hq : i < 0 ∨ 359 < i) : gm_co mX10_needCourse 8 [.int (zI i)] h (.inr "java/lang/IllegalArgumentException") (zTh h) := by
  refine gm_co_of _ (by decide +kernel) rfl (Nat.le_of_ble_eq_true rfl) rfl ?_
  refine gm_go.ru (gm_iload_n dX10_needCourse_0 rfl) ?_
  refine gm_go.ru (gi_const dX10_needCourse_1) ?_
  refine gm_go.ru (gi_sipush dX10_needCourse_2 (by decide +kernel)) ?_
  refine gm_go.ru (gm_cS dX10_needCourse_5 (ct_outside hi (by omega) (by omega)) rfl mt_X10_outside ms_X10_outside (lk_X10_285 rfl) rfl (Nat.le_of_ble_eq_true rfl) (by decide)) ?_
  rw [zB_t hq]
  refine gm_go.ru (gi_if_eq_f 22 dX10_needCourse_8 (by decide) (by decide) (by decide)) ?_
  exact gm_throwW (tf_X10_289_385 rfl) rfl dX10_needCourse_11 dX10_needCourse_14 dX10_needCourse_15 dX10_needCourse_18 dX10_needCourse_21 (Nat.le_of_ble_eq_true rfl) (by decide) (by decide)
set_option maxRecDepth 4000 in
theorem ct_found {h : gm_H} {i : Int} (hi : zR i) (hq : 0 ≤ i) : gm_co mX10_found 8 [.int (zI i)] h (.inl (some (.int (zI i)))) h := by
  refine gm_co_of _ (by decide +kernel) rfl (Nat.le_of_ble_eq_true rfl) rfl ?_
  refine gm_go.ru (gm_iload_n dX10_found_0 rfl) ?_
  refine gm_go.ru (gi_if_ge_t (tgt := 15) dX10_found_1 (by decide) (by omega) hq) ?_
  refine gm_go.ru (gm_iload_n dX10_found_15 rfl) ?_
  exact gm_iret dX10_found_16 rfl
set_option maxRecDepth 4000 in
theorem ct_foundX {h : gm_H} {i : Int} (hi : zR i) (hq : ¬ 0 ≤ i) : gm_co mX10_found 8 [.int (zI i)] h (.inr "java/util/NoSuchElementException") (zTh h) := by
  refine gm_co_of _ (by decide +kernel) rfl (Nat.le_of_ble_eq_true rfl) rfl ?_
  refine gm_go.ru (gm_iload_n dX10_found_0 rfl) ?_
  refine gm_go.ru (gi_if_ge_f 15 dX10_found_1 (by decide) (by omega) hq) ?_
  exact gm_throwXW (tf_X10_154_387 rfl) rfl dX10_found_4 dX10_found_7 dX10_found_8 dX10_found_11 dX10_found_14 (Nat.le_of_ble_eq_true rfl) (by decide) (by decide)
