theorem zLow_r (v : Nat → Int) (i : Nat) (w : Int) : zR (zLow v i w 360 0) := by
  have := zIsL_r (zLow_is v i w 360 0 rfl)
  omega
set_option maxRecDepth 4000 in
theorem ct_courseForX {h : gm_H} {n : Nat} {v : Nat → Int} {hs ep fc i j : Int} (hB : h.1[n]? = some (by_c n hs ep fc)) (hS : st_at h (n + 1) v) (hv : nd_iv v) (hi : zR i) (hj : zR j) (hq : ¬ (0 ≤ i ∧ i < v 0)) : gm_co mX10_courseFor 10 [.ref n, .int (zI i), .int (zI j)] h (.inr "java/lang/IndexOutOfBoundsException") (zTh h) := by
  refine gm_co_of _ (by decide +kernel) rfl (Nat.le_of_ble_eq_true rfl) rfl ?_
  refine gm_go.ru (gm_aload_n dX10_courseFor_0 rfl (by first | exact Or.inl ⟨_, rfl⟩ | exact Or.inr ⟨_, rfl⟩)) ?_
  refine gm_go.ru (gm_iload_n dX10_courseFor_1 rfl) ?_
  exact gm_pV dX10_courseFor_2 (ct_needNeedleX hB hS hv hi hq) rfl rfl mt_X10_needNeedle mv_X10_needNeedle (lk_X10_99 rfl) (Or.inl ⟨_, 11, _, _, _, rfl, hB, rfl⟩) rfl (Nat.le_of_ble_eq_true rfl) (by decide)
set_option maxRecDepth 4000 in
theorem ct_courseForY {h : gm_H} {n : Nat} {v : Nat → Int} {hs ep fc i j : Int} (hB : h.1[n]? = some (by_c n hs ep fc)) (hS : st_at h (n + 1) v) (hv : nd_iv v) (hi : zR i) (hj : zR j) (hq : 0 ≤ i ∧ i < v 0) (hc : j < 0 ∨ 359 < j) : gm_co mX10_courseFor 10 [.ref n, .int (zI i), .int (zI j)] h (.inr "java/lang/IllegalArgumentException") (zTh h) := by
  refine gm_co_of _ (by decide +kernel) rfl (Nat.le_of_ble_eq_true rfl) rfl ?_
  refine gm_go.ru (gm_aload_n dX10_courseFor_0 rfl (by first | exact Or.inl ⟨_, rfl⟩ | exact Or.inr ⟨_, rfl⟩)) ?_
  refine gm_go.ru (gm_iload_n dX10_courseFor_1 rfl) ?_
  refine gm_go.ru (gm_cV0 dX10_courseFor_2 (ct_needNeedle hB hS hv hi hq) rfl mt_X10_needNeedle mv_X10_needNeedle (lk_X10_99 rfl) (Or.inl ⟨_, 11, _, _, _, rfl, hB, rfl⟩) rfl (Nat.le_of_ble_eq_true rfl) (by decide)) ?_
  refine gm_go.ru (gm_iload_n dX10_courseFor_5 rfl) ?_
  exact gm_pS dX10_courseFor_6 (ct_needCourseX hj hc) rfl rfl mt_X10_needCourse ms_X10_needCourse (lk_X10_116 rfl) rfl (Nat.le_of_ble_eq_true rfl) (by decide)
set_option maxRecDepth 4000 in
theorem ct_courseFor {h : gm_H} {n : Nat} {v : Nat → Int} {hs ep fc i j : Int} (hB : h.1[n]? = some (by_c n hs ep fc)) (hS : st_at h (n + 1) v) (hv : nd_iv v) (hi : zR i) (hj : zR j) (hq : 0 ≤ i ∧ i < v 0) (hc : ¬ (j < 0 ∨ 359 < j)) (hf : 0 ≤ zLow v i.toNat j 360 0) : gm_co mX10_courseFor 10 [.ref n, .int (zI i), .int (zI j)] h (.inl (some (.int (zI (zLow v i.toNat j 360 0))))) h := by
  refine gm_co_of _ (by decide +kernel) rfl (Nat.le_of_ble_eq_true rfl) rfl ?_
  obtain ⟨s0, sN, sO⟩ := id hS
  obtain ⟨h1, h2⟩ := id sN
  obtain ⟨i, rfl⟩ : ∃ k : Nat, i = (k : Int) := ⟨i.toNat, by omega⟩
  have h8 : i < 8 := by have := hv.1; omega
  simp only [Int.toNat_natCast] at *
  refine gm_go.ru (gm_aload_n dX10_courseFor_0 rfl (by first | exact Or.inl ⟨_, rfl⟩ | exact Or.inr ⟨_, rfl⟩)) ?_
  refine gm_go.ru (gm_iload_n dX10_courseFor_1 rfl) ?_
  refine gm_go.ru (gm_cV0 dX10_courseFor_2 (ct_needNeedle hB hS hv hi hq) rfl mt_X10_needNeedle mv_X10_needNeedle (lk_X10_99 rfl) (Or.inl ⟨_, 11, _, _, _, rfl, hB, rfl⟩) rfl (Nat.le_of_ble_eq_true rfl) (by decide)) ?_
  refine gm_go.ru (gm_iload_n dX10_courseFor_5 rfl) ?_
  refine gm_go.ru (gm_cS0 dX10_courseFor_6 (ct_needCourse hj hc) rfl mt_X10_needCourse ms_X10_needCourse (lk_X10_116 rfl) rfl (Nat.le_of_ble_eq_true rfl) (by decide)) ?_
  refine gm_go.ru (gm_aload_n dX10_courseFor_9 rfl (by first | exact Or.inl ⟨_, rfl⟩ | exact Or.inr ⟨_, rfl⟩)) ?_
  refine gm_go.ru (gm_get dX10_courseFor_10 (fl_X10_10 rfl) hB rfl) ?_
  refine gm_go.ru (gm_get dX10_courseFor_13 (fl_X10_90 rfl) s0 rfl) ?_
  refine gm_go.ru (gm_iload_n dX10_courseFor_16 rfl) ?_
  refine gm_go.ru (gm_iload_n dX10_courseFor_17 rfl) ?_
  refine gm_go.ru (gm_cV dX10_courseFor_18 (ct_lowestCourse sN hv h8 (w := j) (by omega)) rfl mt_X3_lowestCourse mv_X3_lowestCourse (lk_X10_126 rfl) (Or.inl ⟨_, 5, _, _, _, rfl, h1, rfl⟩) rfl (Nat.le_of_ble_eq_true rfl) (by decide)) ?_
  refine gm_go.ru (gm_cS dX10_courseFor_21 (ct_found (zLow_r v i j) hf) rfl mt_X10_found ms_X10_found (lk_X10_129 rfl) rfl (Nat.le_of_ble_eq_true rfl) (by decide)) ?_
  exact gm_iret dX10_courseFor_24 rfl
set_option maxRecDepth 4000 in
theorem ct_courseForZ {h : gm_H} {n : Nat} {v : Nat → Int} {hs ep fc i j : Int} (hB : h.1[n]? = some (by_c n hs ep fc)) (hS : st_at h (n + 1) v) (hv : nd_iv v) (hi : zR i) (hj : zR j) (hq : 0 ≤ i ∧ i < v 0) (hc : ¬ (j < 0 ∨ 359 < j)) (hf : ¬ 0 ≤ zLow v i.toNat j 360 0) : gm_co mX10_courseFor 10 [.ref n, .int (zI i), .int (zI j)] h (.inr "java/util/NoSuchElementException") (zTh h) := by
  refine gm_co_of _ (by decide +kernel) rfl (Nat.le_of_ble_eq_true rfl) rfl ?_
  obtain ⟨s0, sN, sO⟩ := id hS
  obtain ⟨h1, h2⟩ := id sN
  obtain ⟨i, rfl⟩ : ∃ k : Nat, i = (k : Int) := ⟨i.toNat, by omega⟩
  have h8 : i < 8 := by have := hv.1; omega
  simp only [Int.toNat_natCast] at *
  refine gm_go.ru (gm_aload_n dX10_courseFor_0 rfl (by first | exact Or.inl ⟨_, rfl⟩ | exact Or.inr ⟨_, rfl⟩)) ?_
  refine gm_go.ru (gm_iload_n dX10_courseFor_1 rfl) ?_
  refine gm_go.ru (gm_cV0 dX10_courseFor_2 (ct_needNeedle hB hS hv hi hq) rfl mt_X10_needNeedle mv_X10_needNeedle (lk_X10_99 rfl) (Or.inl ⟨_, 11, _, _, _, rfl, hB, rfl⟩) rfl (Nat.le_of_ble_eq_true rfl) (by decide)) ?_
  refine gm_go.ru (gm_iload_n dX10_courseFor_5 rfl) ?_
  refine gm_go.ru (gm_cS0 dX10_courseFor_6 (ct_needCourse hj hc) rfl mt_X10_needCourse ms_X10_needCourse (lk_X10_116 rfl) rfl (Nat.le_of_ble_eq_true rfl) (by decide)) ?_
  refine gm_go.ru (gm_aload_n dX10_courseFor_9 rfl (by first | exact Or.inl ⟨_, rfl⟩ | exact Or.inr ⟨_, rfl⟩)) ?_
  refine gm_go.ru (gm_get dX10_courseFor_10 (fl_X10_10 rfl) hB rfl) ?_
  refine gm_go.ru (gm_get dX10_courseFor_13 (fl_X10_90 rfl) s0 rfl) ?_
  refine gm_go.ru (gm_iload_n dX10_courseFor_16 rfl) ?_
  refine gm_go.ru (gm_iload_n dX10_courseFor_17 rfl) ?_
  refine gm_go.ru (gm_cV dX10_courseFor_18 (ct_lowestCourse sN hv h8 (w := j) (by omega)) rfl mt_X3_lowestCourse mv_X3_lowestCourse (lk_X10_126 rfl) (Or.inl ⟨_, 5, _, _, _, rfl, h1, rfl⟩) rfl (Nat.le_of_ble_eq_true rfl) (by decide)) ?_
  exact gm_pS dX10_courseFor_21 (ct_foundX (zLow_r v i j) hf) rfl rfl mt_X10_found ms_X10_found (lk_X10_129 rfl) rfl (Nat.le_of_ble_eq_true rfl) (by decide)
set_option maxRecDepth 4000 in
theorem ct_courseForNearbyX {h : gm_H} {n : Nat} {v : Nat → Int} {hs ep fc i j : Int} (hB : h.1[n]? = some (by_c n hs ep fc)) (hS : st_at h (n + 1) v) (hv : nd_iv v) (hi : zR i) (hj : zR j) (hq : ¬ (0 ≤ i ∧ i < v 0)) : gm_co mX10_courseForNearby 10 [.ref n, .int (zI i), .int (zI j)] h (.inr "java/lang/IndexOutOfBoundsException") (zTh h) := by
  refine gm_co_of _ (by decide +kernel) rfl (Nat.le_of_ble_eq_true rfl) rfl ?_
  refine gm_go.ru (gm_aload_n dX10_courseForNearby_0 rfl (by first | exact Or.inl ⟨_, rfl⟩ | exact Or.inr ⟨_, rfl⟩)) ?_
  refine gm_go.ru (gm_iload_n dX10_courseForNearby_1 rfl) ?_
  exact gm_pV dX10_courseForNearby_2 (ct_needNeedleX hB hS hv hi hq) rfl rfl mt_X10_needNeedle mv_X10_needNeedle (lk_X10_99 rfl) (Or.inl ⟨_, 11, _, _, _, rfl, hB, rfl⟩) rfl (Nat.le_of_ble_eq_true rfl) (by decide)
set_option maxRecDepth 4000 in
theorem ct_courseForNearbyY {h : gm_H} {n : Nat} {v : Nat → Int} {hs ep fc i j : Int} (hB : h.1[n]? = some (by_c n hs ep fc)) (hS : st_at h (n + 1) v) (hv : nd_iv v) (hi : zR i) (hj : zR j) (hq : 0 ≤ i ∧ i < v 0) (hc : j < 0 ∨ 359 < j) : gm_co mX10_courseForNearby 10 [.ref n, .int (zI i), .int (zI j)] h (.inr "java/lang/IllegalArgumentException") (zTh h) := by
  refine gm_co_of _ (by decide +kernel) rfl (Nat.le_of_ble_eq_true rfl) rfl ?_
  refine gm_go.ru (gm_aload_n dX10_courseForNearby_0 rfl (by first | exact Or.inl ⟨_, rfl⟩ | exact Or.inr ⟨_, rfl⟩)) ?_
  refine gm_go.ru (gm_iload_n dX10_courseForNearby_1 rfl) ?_
  refine gm_go.ru (gm_cV0 dX10_courseForNearby_2 (ct_needNeedle hB hS hv hi hq) rfl mt_X10_needNeedle mv_X10_needNeedle (lk_X10_99 rfl) (Or.inl ⟨_, 11, _, _, _, rfl, hB, rfl⟩) rfl (Nat.le_of_ble_eq_true rfl) (by decide)) ?_
  refine gm_go.ru (gm_iload_n dX10_courseForNearby_5 rfl) ?_
  exact gm_pS dX10_courseForNearby_6 (ct_needCourseX hj hc) rfl rfl mt_X10_needCourse ms_X10_needCourse (lk_X10_116 rfl) rfl (Nat.le_of_ble_eq_true rfl) (by decide)
set_option maxRecDepth 4000 in
theorem ct_courseForNearby {h : gm_H} {n : Nat} {v : Nat → Int} {hs ep fc i j : Int} (hB : h.1[n]? = some (by_c n hs ep fc)) (hS : st_at h (n + 1) v) (hv : nd_iv v) (hi : zR i) (hj : zR j) (hq : 0 ≤ i ∧ i < v 0) (hc : ¬ (j < 0 ∨ 359 < j)) (hf : 0 ≤ zLow v i.toNat j 360 0) : gm_co mX10_courseForNearby 10 [.ref n, .int (zI i), .int (zI j)] h (.inl (some (.int (zI (zLow v i.toNat j 360 0))))) h := by
  refine gm_co_of _ (by decide +kernel) rfl (Nat.le_of_ble_eq_true rfl) rfl ?_
  obtain ⟨s0, sN, sO⟩ := id hS
  obtain ⟨h1, h2⟩ := id sN
  obtain ⟨i, rfl⟩ : ∃ k : Nat, i = (k : Int) := ⟨i.toNat, by omega⟩
  have h8 : i < 8 := by have := hv.1; omega
  simp only [Int.toNat_natCast] at *
  refine gm_go.ru (gm_aload_n dX10_courseForNearby_0 rfl (by first | exact Or.inl ⟨_, rfl⟩ | exact Or.inr ⟨_, rfl⟩)) ?_
  refine gm_go.ru (gm_iload_n dX10_courseForNearby_1 rfl) ?_
  refine gm_go.ru (gm_cV0 dX10_courseForNearby_2 (ct_needNeedle hB hS hv hi hq) rfl mt_X10_needNeedle mv_X10_needNeedle (lk_X10_99 rfl) (Or.inl ⟨_, 11, _, _, _, rfl, hB, rfl⟩) rfl (Nat.le_of_ble_eq_true rfl) (by decide)) ?_
  refine gm_go.ru (gm_iload_n dX10_courseForNearby_5 rfl) ?_
  refine gm_go.ru (gm_cS0 dX10_courseForNearby_6 (ct_needCourse hj hc) rfl mt_X10_needCourse ms_X10_needCourse (lk_X10_116 rfl) rfl (Nat.le_of_ble_eq_true rfl) (by decide)) ?_
  refine gm_go.ru (gm_aload_n dX10_courseForNearby_9 rfl (by first | exact Or.inl ⟨_, rfl⟩ | exact Or.inr ⟨_, rfl⟩)) ?_
  refine gm_go.ru (gm_get dX10_courseForNearby_10 (fl_X10_10 rfl) hB rfl) ?_
  refine gm_go.ru (gm_get dX10_courseForNearby_13 (fl_X10_90 rfl) s0 rfl) ?_
  refine gm_go.ru (gm_iload_n dX10_courseForNearby_16 rfl) ?_
  refine gm_go.ru (gm_iload_n dX10_courseForNearby_17 rfl) ?_
  refine gm_go.ru (gm_cV dX10_courseForNearby_18 (ct_lowestNearbyCourse sN hv h8 (w := j) (by omega)) rfl mt_X3_lowestNearbyCourse mv_X3_lowestNearbyCourse (lk_X10_133 rfl) (Or.inl ⟨_, 5, _, _, _, rfl, h1, rfl⟩) rfl (Nat.le_of_ble_eq_true rfl) (by decide)) ?_
  refine gm_go.ru (gm_cS dX10_courseForNearby_21 (ct_found (zLow_r v i j) hf) rfl mt_X10_found ms_X10_found (lk_X10_129 rfl) rfl (Nat.le_of_ble_eq_true rfl) (by decide)) ?_
  exact gm_iret dX10_courseForNearby_24 rfl
set_option maxRecDepth 4000 in
theorem ct_courseForNearbyZ {h : gm_H} {n : Nat} {v : Nat → Int} {hs ep fc i j : Int} (hB : h.1[n]? = some (by_c n hs ep fc)) (hS : st_at h (n + 1) v) (hv : nd_iv v) (hi : zR i) (hj : zR j) (hq : 0 ≤ i ∧ i < v 0) (hc : ¬ (j < 0 ∨ 359 < j)) (hf : ¬ 0 ≤ zLow v i.toNat j 360 0) : gm_co mX10_courseForNearby 10 [.ref n, .int (zI i), .int (zI j)] h (.inr "java/util/NoSuchElementException") (zTh h) := by
  refine gm_co_of _ (by decide +kernel) rfl (Nat.le_of_ble_eq_true rfl) rfl ?_
  obtain ⟨s0, sN, sO⟩ := id hS
  obtain ⟨h1, h2⟩ := id sN
  obtain ⟨i, rfl⟩ : ∃ k : Nat, i = (k : Int) := ⟨i.toNat, by omega⟩
  have h8 : i < 8 := by have := hv.1; omega
  simp only [Int.toNat_natCast] at *
  refine gm_go.ru (gm_aload_n dX10_courseForNearby_0 rfl (by first | exact Or.inl ⟨_, rfl⟩ | exact Or.inr ⟨_, rfl⟩)) ?_
  refine gm_go.ru (gm_iload_n dX10_courseForNearby_1 rfl) ?_
  refine gm_go.ru (gm_cV0 dX10_courseForNearby_2 (ct_needNeedle hB hS hv hi hq) rfl mt_X10_needNeedle mv_X10_needNeedle (lk_X10_99 rfl) (Or.inl ⟨_, 11, _, _, _, rfl, hB, rfl⟩) rfl (Nat.le_of_ble_eq_true rfl) (by decide)) ?_
  refine gm_go.ru (gm_iload_n dX10_courseForNearby_5 rfl) ?_
  refine gm_go.ru (gm_cS0 dX10_courseForNearby_6 (ct_needCourse hj hc) rfl mt_X10_needCourse ms_X10_needCourse (lk_X10_116 rfl) rfl (Nat.le_of_ble_eq_true rfl) (by decide)) ?_
  refine gm_go.ru (gm_aload_n dX10_courseForNearby_9 rfl (by first | exact Or.inl ⟨_, rfl⟩ | exact Or.inr ⟨_, rfl⟩)) ?_
  refine gm_go.ru (gm_get dX10_courseForNearby_10 (fl_X10_10 rfl) hB rfl) ?_
  refine gm_go.ru (gm_get dX10_courseForNearby_13 (fl_X10_90 rfl) s0 rfl) ?_
  refine gm_go.ru (gm_iload_n dX10_courseForNearby_16 rfl) ?_
  refine gm_go.ru (gm_iload_n dX10_courseForNearby_17 rfl) ?_
  refine gm_go.ru (gm_cV dX10_courseForNearby_18 (ct_lowestNearbyCourse sN hv h8 (w := j) (by omega)) rfl mt_X3_lowestNearbyCourse mv_X3_lowestNearbyCourse (lk_X10_133 rfl) (Or.inl ⟨_, 5, _, _, _, rfl, h1, rfl⟩) rfl (Nat.le_of_ble_eq_true rfl) (by decide)) ?_
  exact gm_pS dX10_courseForNearby_21 (ct_foundX (zLow_r v i j) hf) rfl rfl mt_X10_found ms_X10_found (lk_X10_129 rfl) rfl (Nat.le_of_ble_eq_true rfl) (by decide)
