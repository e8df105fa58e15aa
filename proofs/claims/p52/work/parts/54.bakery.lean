set_option maxRecDepth 4000 in
theorem ct_errorOfX {h : gm_H} {n : Nat} {v : Nat → Int} {hs ep fc i : Int} (hB : h.1[n]? = some (by_c n hs ep fc)) (hS : st_at h (n + 1) v) (hv : nd_iv v) (hi : zR i) (hq : ¬ (0 ≤ i ∧ i < v 0)) : gm_co mX10_errorOf 10 [.ref n, .int (zI i)] h (.inr "java/lang/IndexOutOfBoundsException") (zTh h) := by
  refine gm_co_of _ (by decide +kernel) rfl (Nat.le_of_ble_eq_true rfl) rfl ?_
  refine gm_go.ru (gm_aload_n dX10_errorOf_0 rfl (by first | exact Or.inl ⟨_, rfl⟩ | exact Or.inr ⟨_, rfl⟩)) ?_
  refine gm_go.ru (gm_iload_n dX10_errorOf_1 rfl) ?_
  exact gm_pV dX10_errorOf_2 (ct_needNeedleX hB hS hv hi hq) rfl rfl mt_X10_needNeedle mv_X10_needNeedle (lk_X10_99 rfl) (Or.inl ⟨_, 11, _, _, _, rfl, hB, rfl⟩) rfl (Nat.le_of_ble_eq_true rfl) (by decide)
set_option maxRecDepth 4000 in
theorem ct_errorOf {h : gm_H} {n : Nat} {v : Nat → Int} {hs ep fc i : Int} (hB : h.1[n]? = some (by_c n hs ep fc)) (hS : st_at h (n + 1) v) (hv : nd_iv v) (hi : zR i) (hq : 0 ≤ i ∧ i < v 0) : gm_co mX10_errorOf 10 [.ref n, .int (zI i)] h (.inl (some (.int (zI (zE v i.toNat 0))))) h := by
  refine gm_co_of _ (by decide +kernel) rfl (Nat.le_of_ble_eq_true rfl) rfl ?_
  obtain ⟨s0, sN, sO⟩ := id hS
  obtain ⟨h1, h2⟩ := id sN
  obtain ⟨i, rfl⟩ : ∃ k : Nat, i = (k : Int) := ⟨i.toNat, by omega⟩
  have h8 : i < 8 := by have := hv.1; omega
  refine gm_go.ru (gm_aload_n dX10_errorOf_0 rfl (by first | exact Or.inl ⟨_, rfl⟩ | exact Or.inr ⟨_, rfl⟩)) ?_
  refine gm_go.ru (gm_iload_n dX10_errorOf_1 rfl) ?_
  refine gm_go.ru (gm_cV0 dX10_errorOf_2 (ct_needNeedle hB hS hv hi hq) rfl mt_X10_needNeedle mv_X10_needNeedle (lk_X10_99 rfl) (Or.inl ⟨_, 11, _, _, _, rfl, hB, rfl⟩) rfl (Nat.le_of_ble_eq_true rfl) (by decide)) ?_
  refine gm_go.ru (gm_aload_n dX10_errorOf_5 rfl (by first | exact Or.inl ⟨_, rfl⟩ | exact Or.inr ⟨_, rfl⟩)) ?_
  refine gm_go.ru (gm_get dX10_errorOf_6 (fl_X10_10 rfl) hB rfl) ?_
  refine gm_go.ru (gm_get dX10_errorOf_9 (fl_X10_90 rfl) s0 rfl) ?_
  refine gm_go.ru (gm_iload_n dX10_errorOf_12 rfl) ?_
  refine gm_go.ru (gi_const dX10_errorOf_13) ?_
  refine gm_go.ru (gm_cV dX10_errorOf_14 (ct_errorShiftedBy sN h8) rfl mt_X3_errorShiftedBy mv_X3_errorShiftedBy (lk_X10_142 rfl) (Or.inl ⟨_, 5, _, _, _, rfl, h1, rfl⟩) rfl (Nat.le_of_ble_eq_true rfl) (by decide)) ?_
  exact gm_iret dX10_errorOf_17 rfl
set_option maxRecDepth 4000 in
theorem ct_bestShiftX {h : gm_H} {n : Nat} {v : Nat → Int} {hs ep fc i : Int} (hB : h.1[n]? = some (by_c n hs ep fc)) (hS : st_at h (n + 1) v) (hv : nd_iv v) (hi : zR i) (hq : ¬ (0 ≤ i ∧ i < v 0)) : gm_co mX10_bestShift 10 [.ref n, .int (zI i)] h (.inr "java/lang/IndexOutOfBoundsException") (zTh h) := by
  refine gm_co_of _ (by decide +kernel) rfl (Nat.le_of_ble_eq_true rfl) rfl ?_
  refine gm_go.ru (gm_aload_n dX10_bestShift_0 rfl (by first | exact Or.inl ⟨_, rfl⟩ | exact Or.inr ⟨_, rfl⟩)) ?_
  refine gm_go.ru (gm_iload_n dX10_bestShift_1 rfl) ?_
  exact gm_pV dX10_bestShift_2 (ct_needNeedleX hB hS hv hi hq) rfl rfl mt_X10_needNeedle mv_X10_needNeedle (lk_X10_99 rfl) (Or.inl ⟨_, 11, _, _, _, rfl, hB, rfl⟩) rfl (Nat.le_of_ble_eq_true rfl) (by decide)
set_option maxRecDepth 4000 in
theorem ct_bestShift {h : gm_H} {n : Nat} {v : Nat → Int} {hs ep fc i : Int} (hB : h.1[n]? = some (by_c n hs ep fc)) (hS : st_at h (n + 1) v) (hv : nd_iv v) (hi : zR i) (hq : 0 ≤ i ∧ i < v 0) : gm_co mX10_bestShift 10 [.ref n, .int (zI i)] h (.inl (some (.int (zI (zSS v i.toNat))))) h := by
  refine gm_co_of _ (by decide +kernel) rfl (Nat.le_of_ble_eq_true rfl) rfl ?_
  obtain ⟨s0, sN, sO⟩ := id hS
  obtain ⟨h1, h2⟩ := id sN
  obtain ⟨i, rfl⟩ : ∃ k : Nat, i = (k : Int) := ⟨i.toNat, by omega⟩
  have h8 : i < 8 := by have := hv.1; omega
  refine gm_go.ru (gm_aload_n dX10_bestShift_0 rfl (by first | exact Or.inl ⟨_, rfl⟩ | exact Or.inr ⟨_, rfl⟩)) ?_
  refine gm_go.ru (gm_iload_n dX10_bestShift_1 rfl) ?_
  refine gm_go.ru (gm_cV0 dX10_bestShift_2 (ct_needNeedle hB hS hv hi hq) rfl mt_X10_needNeedle mv_X10_needNeedle (lk_X10_99 rfl) (Or.inl ⟨_, 11, _, _, _, rfl, hB, rfl⟩) rfl (Nat.le_of_ble_eq_true rfl) (by decide)) ?_
  refine gm_go.ru (gm_aload_n dX10_bestShift_5 rfl (by first | exact Or.inl ⟨_, rfl⟩ | exact Or.inr ⟨_, rfl⟩)) ?_
  refine gm_go.ru (gm_get dX10_bestShift_6 (fl_X10_10 rfl) hB rfl) ?_
  refine gm_go.ru (gm_get dX10_bestShift_9 (fl_X10_90 rfl) s0 rfl) ?_
  refine gm_go.ru (gm_iload_n dX10_bestShift_12 rfl) ?_
  refine gm_go.ru (gm_cV dX10_bestShift_13 (ct_shiftByTrying sN hv h8) rfl mt_X3_shiftByTrying mv_X3_shiftByTrying (lk_X10_145 rfl) (Or.inl ⟨_, 5, _, _, _, rfl, h1, rfl⟩) rfl (Nat.le_of_ble_eq_true rfl) (by decide)) ?_
  exact gm_iret dX10_bestShift_16 rfl
set_option maxRecDepth 4000 in
theorem ct_bestShiftBySumX {h : gm_H} {n : Nat} {v : Nat → Int} {hs ep fc i : Int} (hB : h.1[n]? = some (by_c n hs ep fc)) (hS : st_at h (n + 1) v) (hv : nd_iv v) (hi : zR i) (hq : ¬ (0 ≤ i ∧ i < v 0)) : gm_co mX10_bestShiftBySum 10 [.ref n, .int (zI i)] h (.inr "java/lang/IndexOutOfBoundsException") (zTh h) := by
  refine gm_co_of _ (by decide +kernel) rfl (Nat.le_of_ble_eq_true rfl) rfl ?_
  refine gm_go.ru (gm_aload_n dX10_bestShiftBySum_0 rfl (by first | exact Or.inl ⟨_, rfl⟩ | exact Or.inr ⟨_, rfl⟩)) ?_
  refine gm_go.ru (gm_iload_n dX10_bestShiftBySum_1 rfl) ?_
  exact gm_pV dX10_bestShiftBySum_2 (ct_needNeedleX hB hS hv hi hq) rfl rfl mt_X10_needNeedle mv_X10_needNeedle (lk_X10_99 rfl) (Or.inl ⟨_, 11, _, _, _, rfl, hB, rfl⟩) rfl (Nat.le_of_ble_eq_true rfl) (by decide)
set_option maxRecDepth 4000 in
theorem ct_bestShiftBySum {h : gm_H} {n : Nat} {v : Nat → Int} {hs ep fc i : Int} (hB : h.1[n]? = some (by_c n hs ep fc)) (hS : st_at h (n + 1) v) (hv : nd_iv v) (hi : zR i) (hq : 0 ≤ i ∧ i < v 0) : gm_co mX10_bestShiftBySum 10 [.ref n, .int (zI i)] h (.inl (some (.int (zI (zSS v i.toNat))))) h := by
  refine gm_co_of _ (by decide +kernel) rfl (Nat.le_of_ble_eq_true rfl) rfl ?_
  obtain ⟨s0, sN, sO⟩ := id hS
  obtain ⟨h1, h2⟩ := id sN
  obtain ⟨i, rfl⟩ : ∃ k : Nat, i = (k : Int) := ⟨i.toNat, by omega⟩
  have h8 : i < 8 := by have := hv.1; omega
  refine gm_go.ru (gm_aload_n dX10_bestShiftBySum_0 rfl (by first | exact Or.inl ⟨_, rfl⟩ | exact Or.inr ⟨_, rfl⟩)) ?_
  refine gm_go.ru (gm_iload_n dX10_bestShiftBySum_1 rfl) ?_
  refine gm_go.ru (gm_cV0 dX10_bestShiftBySum_2 (ct_needNeedle hB hS hv hi hq) rfl mt_X10_needNeedle mv_X10_needNeedle (lk_X10_99 rfl) (Or.inl ⟨_, 11, _, _, _, rfl, hB, rfl⟩) rfl (Nat.le_of_ble_eq_true rfl) (by decide)) ?_
  refine gm_go.ru (gm_aload_n dX10_bestShiftBySum_5 rfl (by first | exact Or.inl ⟨_, rfl⟩ | exact Or.inr ⟨_, rfl⟩)) ?_
  refine gm_go.ru (gm_get dX10_bestShiftBySum_6 (fl_X10_10 rfl) hB rfl) ?_
  refine gm_go.ru (gm_get dX10_bestShiftBySum_9 (fl_X10_90 rfl) s0 rfl) ?_
  refine gm_go.ru (gm_iload_n dX10_bestShiftBySum_12 rfl) ?_
  refine gm_go.ru (gm_cV dX10_bestShiftBySum_13 (ct_shiftFromSum sN hv h8) rfl mt_X3_shiftFromSum mv_X3_shiftFromSum (lk_X10_148 rfl) (Or.inl ⟨_, 5, _, _, _, rfl, h1, rfl⟩) rfl (Nat.le_of_ble_eq_true rfl) (by decide)) ?_
  exact gm_iret dX10_bestShiftBySum_16 rfl
set_option maxRecDepth 4000 in
theorem ct_isDiscardedX {h : gm_H} {n : Nat} {v : Nat → Int} {hs ep fc i : Int} (hB : h.1[n]? = some (by_c n hs ep fc)) (hS : st_at h (n + 1) v) (hv : nd_iv v) (hi : zR i) (hq : ¬ (0 ≤ i ∧ i < v 0)) : gm_co mX10_isDiscarded 10 [.ref n, .int (zI i)] h (.inr "java/lang/IndexOutOfBoundsException") (zTh h) := by
  refine gm_co_of _ (by decide +kernel) rfl (Nat.le_of_ble_eq_true rfl) rfl ?_
  refine gm_go.ru (gm_aload_n dX10_isDiscarded_0 rfl (by first | exact Or.inl ⟨_, rfl⟩ | exact Or.inr ⟨_, rfl⟩)) ?_
  refine gm_go.ru (gm_iload_n dX10_isDiscarded_1 rfl) ?_
  exact gm_pV dX10_isDiscarded_2 (ct_needNeedleX hB hS hv hi hq) rfl rfl mt_X10_needNeedle mv_X10_needNeedle (lk_X10_99 rfl) (Or.inl ⟨_, 11, _, _, _, rfl, hB, rfl⟩) rfl (Nat.le_of_ble_eq_true rfl) (by decide)
set_option maxRecDepth 4000 in
theorem ct_isDiscarded {h : gm_H} {n : Nat} {v : Nat → Int} {hs ep fc i : Int} (hB : h.1[n]? = some (by_c n hs ep fc)) (hS : st_at h (n + 1) v) (hv : nd_iv v) (hi : zR i) (hq : 0 ≤ i ∧ i < v 0) : gm_co mX10_isDiscarded 10 [.ref n, .int (zI i)] h (.inl (some (.int (zI (zB (decide (v (11 + 10 * i.toNat) = 1))))))) h := by
  refine gm_co_of _ (by decide +kernel) rfl (Nat.le_of_ble_eq_true rfl) rfl ?_
  obtain ⟨s0, sN, sO⟩ := id hS
  obtain ⟨h1, h2⟩ := id sN
  obtain ⟨i, rfl⟩ : ∃ k : Nat, i = (k : Int) := ⟨i.toNat, by omega⟩
  have h8 : i < 8 := by have := hv.1; omega
  refine gm_go.ru (gm_aload_n dX10_isDiscarded_0 rfl (by first | exact Or.inl ⟨_, rfl⟩ | exact Or.inr ⟨_, rfl⟩)) ?_
  refine gm_go.ru (gm_iload_n dX10_isDiscarded_1 rfl) ?_
  refine gm_go.ru (gm_cV0 dX10_isDiscarded_2 (ct_needNeedle hB hS hv hi hq) rfl mt_X10_needNeedle mv_X10_needNeedle (lk_X10_99 rfl) (Or.inl ⟨_, 11, _, _, _, rfl, hB, rfl⟩) rfl (Nat.le_of_ble_eq_true rfl) (by decide)) ?_
  refine gm_go.ru (gm_aload_n dX10_isDiscarded_5 rfl (by first | exact Or.inl ⟨_, rfl⟩ | exact Or.inr ⟨_, rfl⟩)) ?_
  refine gm_go.ru (gm_get dX10_isDiscarded_6 (fl_X10_10 rfl) hB rfl) ?_
  refine gm_go.ru (gm_get dX10_isDiscarded_9 (fl_X10_90 rfl) s0 rfl) ?_
  refine gm_go.ru (gm_iload_n dX10_isDiscarded_12 rfl) ?_
  refine gm_go.ru (gm_cV dX10_isDiscarded_13 (ct_isOut sN h8) rfl mt_X3_isOut mv_X3_isOut (lk_X10_106 rfl) (Or.inl ⟨_, 5, _, _, _, rfl, h1, rfl⟩) rfl (Nat.le_of_ble_eq_true rfl) (by decide)) ?_
  exact gm_zret' dX10_isDiscarded_16 rfl rfl
set_option maxRecDepth 4000 in
theorem ct_isRejectX {h : gm_H} {n : Nat} {v : Nat → Int} {hs ep fc i : Int} (hB : h.1[n]? = some (by_c n hs ep fc)) (hS : st_at h (n + 1) v) (hv : nd_iv v) (hi : zR i) (hq : ¬ (0 ≤ i ∧ i < v 0)) : gm_co mX10_isReject 10 [.ref n, .int (zI i)] h (.inr "java/lang/IndexOutOfBoundsException") (zTh h) := by
  refine gm_co_of _ (by decide +kernel) rfl (Nat.le_of_ble_eq_true rfl) rfl ?_
  refine gm_go.ru (gm_aload_n dX10_isReject_0 rfl (by first | exact Or.inl ⟨_, rfl⟩ | exact Or.inr ⟨_, rfl⟩)) ?_
  refine gm_go.ru (gm_iload_n dX10_isReject_1 rfl) ?_
  exact gm_pV dX10_isReject_2 (ct_needNeedleX hB hS hv hi hq) rfl rfl mt_X10_needNeedle mv_X10_needNeedle (lk_X10_99 rfl) (Or.inl ⟨_, 11, _, _, _, rfl, hB, rfl⟩) rfl (Nat.le_of_ble_eq_true rfl) (by decide)
set_option maxRecDepth 4000 in
theorem ct_isReject {h : gm_H} {n : Nat} {v : Nat → Int} {hs ep fc i : Int} (hB : h.1[n]? = some (by_c n hs ep fc)) (hS : st_at h (n + 1) v) (hv : nd_iv v) (hi : zR i) (hq : 0 ≤ i ∧ i < v 0) : gm_co mX10_isReject 10 [.ref n, .int (zI i)] h (.inl (some (.int (zI (zB (zW v i.toNat)))))) h := by
  refine gm_co_of _ (by decide +kernel) rfl (Nat.le_of_ble_eq_true rfl) rfl ?_
  obtain ⟨s0, sN, sO⟩ := id hS
  obtain ⟨h1, h2⟩ := id sN
  obtain ⟨i, rfl⟩ : ∃ k : Nat, i = (k : Int) := ⟨i.toNat, by omega⟩
  have h8 : i < 8 := by have := hv.1; omega
  refine gm_go.ru (gm_aload_n dX10_isReject_0 rfl (by first | exact Or.inl ⟨_, rfl⟩ | exact Or.inr ⟨_, rfl⟩)) ?_
  refine gm_go.ru (gm_iload_n dX10_isReject_1 rfl) ?_
  refine gm_go.ru (gm_cV0 dX10_isReject_2 (ct_needNeedle hB hS hv hi hq) rfl mt_X10_needNeedle mv_X10_needNeedle (lk_X10_99 rfl) (Or.inl ⟨_, 11, _, _, _, rfl, hB, rfl⟩) rfl (Nat.le_of_ble_eq_true rfl) (by decide)) ?_
  refine gm_go.ru (gm_aload_n dX10_isReject_5 rfl (by first | exact Or.inl ⟨_, rfl⟩ | exact Or.inr ⟨_, rfl⟩)) ?_
  refine gm_go.ru (gm_get dX10_isReject_6 (fl_X10_10 rfl) hB rfl) ?_
  refine gm_go.ru (gm_get dX10_isReject_9 (fl_X10_90 rfl) s0 rfl) ?_
  refine gm_go.ru (gm_iload_n dX10_isReject_12 rfl) ?_
  refine gm_go.ru (gm_cV dX10_isReject_13 (ct_isTooWide sN hv h8) rfl mt_X3_isTooWide mv_X3_isTooWide (lk_X10_110 rfl) (Or.inl ⟨_, 5, _, _, _, rfl, h1, rfl⟩) rfl (Nat.le_of_ble_eq_true rfl) (by decide)) ?_
  exact gm_zret' dX10_isReject_16 rfl rfl
