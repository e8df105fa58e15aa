set_option maxRecDepth 4000 in
theorem ct_deviationAtX {h : gm_H} {n : Nat} {v : Nat → Int} {hs ep fc i j : Int} (hB : h.1[n]? = some (by_c n hs ep fc)) (hS : st_at h (n + 1) v) (hv : nd_iv v) (hi : zR i) (hj : zR j) (hq : ¬ (0 ≤ i ∧ i < v 0)) : gm_co mX10_deviationAt 10 [.ref n, .int (zI i), .int (zI j)] h (.inr "java/lang/IndexOutOfBoundsException") (zTh h) := by
  refine gm_co_of _ (by decide +kernel) rfl (Nat.le_of_ble_eq_true rfl) rfl ?_
  refine gm_go.ru (gm_aload_n dX10_deviationAt_0 rfl (by first | exact Or.inl ⟨_, rfl⟩ | exact Or.inr ⟨_, rfl⟩)) ?_
  refine gm_go.ru (gm_iload_n dX10_deviationAt_1 rfl) ?_
  exact gm_pV dX10_deviationAt_2 (ct_needNeedleX hB hS hv hi hq) rfl rfl mt_X10_needNeedle mv_X10_needNeedle (lk_X10_99 rfl) (Or.inl ⟨_, 11, _, _, _, rfl, hB, rfl⟩) rfl (Nat.le_of_ble_eq_true rfl) (by decide)
set_option maxRecDepth 4000 in
theorem ct_deviationAtY {h : gm_H} {n : Nat} {v : Nat → Int} {hs ep fc i j : Int} (hB : h.1[n]? = some (by_c n hs ep fc)) (hS : st_at h (n + 1) v) (hv : nd_iv v) (hi : zR i) (hj : zR j) (hq : 0 ≤ i ∧ i < v 0) (hc : j < 0 ∨ 359 < j) : gm_co mX10_deviationAt 10 [.ref n, .int (zI i), .int (zI j)] h (.inr "java/lang/IllegalArgumentException") (zTh h) := by
  refine gm_co_of _ (by decide +kernel) rfl (Nat.le_of_ble_eq_true rfl) rfl ?_
  refine gm_go.ru (gm_aload_n dX10_deviationAt_0 rfl (by first | exact Or.inl ⟨_, rfl⟩ | exact Or.inr ⟨_, rfl⟩)) ?_
  refine gm_go.ru (gm_iload_n dX10_deviationAt_1 rfl) ?_
  refine gm_go.ru (gm_cV0 dX10_deviationAt_2 (ct_needNeedle hB hS hv hi hq) rfl mt_X10_needNeedle mv_X10_needNeedle (lk_X10_99 rfl) (Or.inl ⟨_, 11, _, _, _, rfl, hB, rfl⟩) rfl (Nat.le_of_ble_eq_true rfl) (by decide)) ?_
  refine gm_go.ru (gm_iload_n dX10_deviationAt_5 rfl) ?_
  exact gm_pS dX10_deviationAt_6 (ct_needCourseX hj hc) rfl rfl mt_X10_needCourse ms_X10_needCourse (lk_X10_116 rfl) rfl (Nat.le_of_ble_eq_true rfl) (by decide)
set_option maxRecDepth 4000 in
theorem ct_deviationAt {h : gm_H} {n : Nat} {v : Nat → Int} {hs ep fc i j : Int} (hB : h.1[n]? = some (by_c n hs ep fc)) (hS : st_at h (n + 1) v) (hv : nd_iv v) (hi : zR i) (hj : zR j) (hq : 0 ≤ i ∧ i < v 0) (hc : ¬ (j < 0 ∨ 359 < j)) : gm_co mX10_deviationAt 10 [.ref n, .int (zI i), .int (zI j)] h (.inl (some (.int (zI (zIp v i.toNat j.toNat))))) h := by
  refine gm_co_of _ (by decide +kernel) rfl (Nat.le_of_ble_eq_true rfl) rfl ?_
  obtain ⟨s0, sN, sO⟩ := id hS
  obtain ⟨h1, h2⟩ := id sN
  obtain ⟨i, rfl⟩ : ∃ k : Nat, i = (k : Int) := ⟨i.toNat, by omega⟩
  obtain ⟨j, rfl⟩ : ∃ k : Nat, j = (k : Int) := ⟨j.toNat, by omega⟩
  have h8 : i < 8 := by have := hv.1; omega
  refine gm_go.ru (gm_aload_n dX10_deviationAt_0 rfl (by first | exact Or.inl ⟨_, rfl⟩ | exact Or.inr ⟨_, rfl⟩)) ?_
  refine gm_go.ru (gm_iload_n dX10_deviationAt_1 rfl) ?_
  refine gm_go.ru (gm_cV0 dX10_deviationAt_2 (ct_needNeedle hB hS hv hi hq) rfl mt_X10_needNeedle mv_X10_needNeedle (lk_X10_99 rfl) (Or.inl ⟨_, 11, _, _, _, rfl, hB, rfl⟩) rfl (Nat.le_of_ble_eq_true rfl) (by decide)) ?_
  refine gm_go.ru (gm_iload_n dX10_deviationAt_5 rfl) ?_
  refine gm_go.ru (gm_cS0 dX10_deviationAt_6 (ct_needCourse hj hc) rfl mt_X10_needCourse ms_X10_needCourse (lk_X10_116 rfl) rfl (Nat.le_of_ble_eq_true rfl) (by decide)) ?_
  refine gm_go.ru (gm_aload_n dX10_deviationAt_9 rfl (by first | exact Or.inl ⟨_, rfl⟩ | exact Or.inr ⟨_, rfl⟩)) ?_
  refine gm_go.ru (gm_get dX10_deviationAt_10 (fl_X10_10 rfl) hB rfl) ?_
  refine gm_go.ru (gm_get dX10_deviationAt_13 (fl_X10_90 rfl) s0 rfl) ?_
  refine gm_go.ru (gm_iload_n dX10_deviationAt_16 rfl) ?_
  refine gm_go.ru (gm_iload_n dX10_deviationAt_17 rfl) ?_
  refine gm_go.ru (gm_cV dX10_deviationAt_18 (ct_interpolated sN hv h8 (by omega)) rfl mt_X3_interpolated mv_X3_interpolated (lk_X10_119 rfl) (Or.inl ⟨_, 5, _, _, _, rfl, h1, rfl⟩) rfl (Nat.le_of_ble_eq_true rfl) (by decide)) ?_
  exact gm_iret dX10_deviationAt_21 rfl
set_option maxRecDepth 4000 in
theorem ct_trueCourseX {h : gm_H} {n : Nat} {v : Nat → Int} {hs ep fc i j : Int} (hB : h.1[n]? = some (by_c n hs ep fc)) (hS : st_at h (n + 1) v) (hv : nd_iv v) (hi : zR i) (hj : zR j) (hq : ¬ (0 ≤ i ∧ i < v 0)) : gm_co mX10_trueCourse 10 [.ref n, .int (zI i), .int (zI j)] h (.inr "java/lang/IndexOutOfBoundsException") (zTh h) := by
  refine gm_co_of _ (by decide +kernel) rfl (Nat.le_of_ble_eq_true rfl) rfl ?_
  refine gm_go.ru (gm_aload_n dX10_trueCourse_0 rfl (by first | exact Or.inl ⟨_, rfl⟩ | exact Or.inr ⟨_, rfl⟩)) ?_
  refine gm_go.ru (gm_iload_n dX10_trueCourse_1 rfl) ?_
  exact gm_pV dX10_trueCourse_2 (ct_needNeedleX hB hS hv hi hq) rfl rfl mt_X10_needNeedle mv_X10_needNeedle (lk_X10_99 rfl) (Or.inl ⟨_, 11, _, _, _, rfl, hB, rfl⟩) rfl (Nat.le_of_ble_eq_true rfl) (by decide)
set_option maxRecDepth 4000 in
theorem ct_trueCourseY {h : gm_H} {n : Nat} {v : Nat → Int} {hs ep fc i j : Int} (hB : h.1[n]? = some (by_c n hs ep fc)) (hS : st_at h (n + 1) v) (hv : nd_iv v) (hi : zR i) (hj : zR j) (hq : 0 ≤ i ∧ i < v 0) (hc : j < 0 ∨ 359 < j) : gm_co mX10_trueCourse 10 [.ref n, .int (zI i), .int (zI j)] h (.inr "java/lang/IllegalArgumentException") (zTh h) := by
  refine gm_co_of _ (by decide +kernel) rfl (Nat.le_of_ble_eq_true rfl) rfl ?_
  refine gm_go.ru (gm_aload_n dX10_trueCourse_0 rfl (by first | exact Or.inl ⟨_, rfl⟩ | exact Or.inr ⟨_, rfl⟩)) ?_
  refine gm_go.ru (gm_iload_n dX10_trueCourse_1 rfl) ?_
  refine gm_go.ru (gm_cV0 dX10_trueCourse_2 (ct_needNeedle hB hS hv hi hq) rfl mt_X10_needNeedle mv_X10_needNeedle (lk_X10_99 rfl) (Or.inl ⟨_, 11, _, _, _, rfl, hB, rfl⟩) rfl (Nat.le_of_ble_eq_true rfl) (by decide)) ?_
  refine gm_go.ru (gm_iload_n dX10_trueCourse_5 rfl) ?_
  exact gm_pS dX10_trueCourse_6 (ct_needCourseX hj hc) rfl rfl mt_X10_needCourse ms_X10_needCourse (lk_X10_116 rfl) rfl (Nat.le_of_ble_eq_true rfl) (by decide)
set_option maxRecDepth 4000 in
theorem ct_trueCourse {h : gm_H} {n : Nat} {v : Nat → Int} {hs ep fc i j : Int} (hB : h.1[n]? = some (by_c n hs ep fc)) (hS : st_at h (n + 1) v) (hv : nd_iv v) (hi : zR i) (hj : zR j) (hq : 0 ≤ i ∧ i < v 0) (hc : ¬ (j < 0 ∨ 359 < j)) : gm_co mX10_trueCourse 10 [.ref n, .int (zI i), .int (zI j)] h (.inl (some (.int (zI (zTc v i.toNat j.toNat))))) h := by
  refine gm_co_of _ (by decide +kernel) rfl (Nat.le_of_ble_eq_true rfl) rfl ?_
  obtain ⟨s0, sN, sO⟩ := id hS
  obtain ⟨h1, h2⟩ := id sN
  obtain ⟨i, rfl⟩ : ∃ k : Nat, i = (k : Int) := ⟨i.toNat, by omega⟩
  obtain ⟨j, rfl⟩ : ∃ k : Nat, j = (k : Int) := ⟨j.toNat, by omega⟩
  have h8 : i < 8 := by have := hv.1; omega
  refine gm_go.ru (gm_aload_n dX10_trueCourse_0 rfl (by first | exact Or.inl ⟨_, rfl⟩ | exact Or.inr ⟨_, rfl⟩)) ?_
  refine gm_go.ru (gm_iload_n dX10_trueCourse_1 rfl) ?_
  refine gm_go.ru (gm_cV0 dX10_trueCourse_2 (ct_needNeedle hB hS hv hi hq) rfl mt_X10_needNeedle mv_X10_needNeedle (lk_X10_99 rfl) (Or.inl ⟨_, 11, _, _, _, rfl, hB, rfl⟩) rfl (Nat.le_of_ble_eq_true rfl) (by decide)) ?_
  refine gm_go.ru (gm_iload_n dX10_trueCourse_5 rfl) ?_
  refine gm_go.ru (gm_cS0 dX10_trueCourse_6 (ct_needCourse hj hc) rfl mt_X10_needCourse ms_X10_needCourse (lk_X10_116 rfl) rfl (Nat.le_of_ble_eq_true rfl) (by decide)) ?_
  refine gm_go.ru (gm_aload_n dX10_trueCourse_9 rfl (by first | exact Or.inl ⟨_, rfl⟩ | exact Or.inr ⟨_, rfl⟩)) ?_
  refine gm_go.ru (gm_get dX10_trueCourse_10 (fl_X10_10 rfl) hB rfl) ?_
  refine gm_go.ru (gm_get dX10_trueCourse_13 (fl_X10_90 rfl) s0 rfl) ?_
  refine gm_go.ru (gm_iload_n dX10_trueCourse_16 rfl) ?_
  refine gm_go.ru (gm_iload_n dX10_trueCourse_17 rfl) ?_
  refine gm_go.ru (gm_cV dX10_trueCourse_18 (ct_corrected sN hv h8 (by omega)) rfl mt_X3_corrected mv_X3_corrected (lk_X10_123 rfl) (Or.inl ⟨_, 5, _, _, _, rfl, h1, rfl⟩) rfl (Nat.le_of_ble_eq_true rfl) (by decide)) ?_
  exact gm_iret dX10_trueCourse_21 rfl
