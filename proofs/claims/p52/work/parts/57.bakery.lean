set_option maxRecDepth 4000 in
theorem ct_needleCount {h : gm_H} {n : Nat} {v : Nat → Int} {hs ep fc : Int} (hB : h.1[n]? = some (by_c n hs ep fc)) (hS : st_at h (n + 1) v) : gm_co mX10_needleCount 1 [.ref n] h (.inl (some (.int (zI (v 0))))) h := by
  refine gm_co_of _ (by decide +kernel) rfl (Nat.le_of_ble_eq_true rfl) rfl ?_
  obtain ⟨s0, sN, sO⟩ := id hS
  obtain ⟨h1, h2⟩ := id sN
  obtain ⟨o1, o2⟩ := id sO
  refine gm_go.ru (gm_aload_n dX10_needleCount_0 rfl (by first | exact Or.inl ⟨_, rfl⟩ | exact Or.inr ⟨_, rfl⟩)) ?_
  refine gm_go.ru (gm_get dX10_needleCount_1 (fl_X10_10 rfl) hB rfl) ?_
  refine gm_go.ru (gm_get dX10_needleCount_4 (fl_X10_90 rfl) s0 rfl) ?_
  refine gm_go.ru (gm_get dX10_needleCount_7 (fl_X10_94 rfl) h1 rfl) ?_
  exact gm_iret dX10_needleCount_10 rfl
set_option maxRecDepth 4000 in
theorem ct_tolerance {h : gm_H} {n : Nat} {v : Nat → Int} {hs ep fc : Int} (hB : h.1[n]? = some (by_c n hs ep fc)) (hS : st_at h (n + 1) v) : gm_co mX10_tolerance 1 [.ref n] h (.inl (some (.int (zI (v 1))))) h := by
  refine gm_co_of _ (by decide +kernel) rfl (Nat.le_of_ble_eq_true rfl) rfl ?_
  obtain ⟨s0, sN, sO⟩ := id hS
  obtain ⟨h1, h2⟩ := id sN
  obtain ⟨o1, o2⟩ := id sO
  refine gm_go.ru (gm_aload_n dX10_tolerance_0 rfl (by first | exact Or.inl ⟨_, rfl⟩ | exact Or.inr ⟨_, rfl⟩)) ?_
  refine gm_go.ru (gm_get dX10_tolerance_1 (fl_X10_10 rfl) hB rfl) ?_
  refine gm_go.ru (gm_get dX10_tolerance_4 (fl_X10_90 rfl) s0 rfl) ?_
  refine gm_go.ru (gm_get dX10_tolerance_7 (fl_X10_113 rfl) h1 rfl) ?_
  exact gm_iret dX10_tolerance_10 rfl
set_option maxRecDepth 4000 in
theorem ct_clock {h : gm_H} {n : Nat} {v : Nat → Int} {hs ep fc : Int} (hB : h.1[n]? = some (by_c n hs ep fc)) (hS : st_at h (n + 1) v) : gm_co mX10_clock 1 [.ref n] h (.inl (some (.int (zI (v 2))))) h := by
  refine gm_co_of _ (by decide +kernel) rfl (Nat.le_of_ble_eq_true rfl) rfl ?_
  obtain ⟨s0, sN, sO⟩ := id hS
  obtain ⟨h1, h2⟩ := id sN
  obtain ⟨o1, o2⟩ := id sO
  refine gm_go.ru (gm_aload_n dX10_clock_0 rfl (by first | exact Or.inl ⟨_, rfl⟩ | exact Or.inr ⟨_, rfl⟩)) ?_
  refine gm_go.ru (gm_get dX10_clock_1 (fl_X10_10 rfl) hB rfl) ?_
  refine gm_go.ru (gm_get dX10_clock_4 (fl_X10_204 rfl) s0 rfl) ?_
  refine gm_go.ru (gm_get dX10_clock_7 (fl_X10_208 rfl) o1 rfl) ?_
  exact gm_iret dX10_clock_10 rfl
set_option maxRecDepth 4000 in
theorem ct_batchCount {h : gm_H} {n : Nat} {v : Nat → Int} {hs ep fc : Int} (hB : h.1[n]? = some (by_c n hs ep fc)) (hS : st_at h (n + 1) v) : gm_co mX10_batchCount 1 [.ref n] h (.inl (some (.int (zI (v 4))))) h := by
  refine gm_co_of _ (by decide +kernel) rfl (Nat.le_of_ble_eq_true rfl) rfl ?_
  obtain ⟨s0, sN, sO⟩ := id hS
  obtain ⟨h1, h2⟩ := id sN
  obtain ⟨o1, o2⟩ := id sO
  refine gm_go.ru (gm_aload_n dX10_batchCount_0 rfl (by first | exact Or.inl ⟨_, rfl⟩ | exact Or.inr ⟨_, rfl⟩)) ?_
  refine gm_go.ru (gm_get dX10_batchCount_1 (fl_X10_10 rfl) hB rfl) ?_
  refine gm_go.ru (gm_get dX10_batchCount_4 (fl_X10_204 rfl) s0 rfl) ?_
  refine gm_go.ru (gm_get dX10_batchCount_7 (fl_X10_213 rfl) o1 rfl) ?_
  exact gm_iret dX10_batchCount_10 rfl
set_option maxRecDepth 4000 in
theorem ct_bakedCount {h : gm_H} {n : Nat} {v : Nat → Int} {hs ep fc : Int} (hB : h.1[n]? = some (by_c n hs ep fc)) (hS : st_at h (n + 1) v) : gm_co mX10_bakedCount 1 [.ref n] h (.inl (some (.int (zI (v 5))))) h := by
  refine gm_co_of _ (by decide +kernel) rfl (Nat.le_of_ble_eq_true rfl) rfl ?_
  obtain ⟨s0, sN, sO⟩ := id hS
  obtain ⟨h1, h2⟩ := id sN
  obtain ⟨o1, o2⟩ := id sO
  refine gm_go.ru (gm_aload_n dX10_bakedCount_0 rfl (by first | exact Or.inl ⟨_, rfl⟩ | exact Or.inr ⟨_, rfl⟩)) ?_
  refine gm_go.ru (gm_get dX10_bakedCount_1 (fl_X10_10 rfl) hB rfl) ?_
  refine gm_go.ru (gm_get dX10_bakedCount_4 (fl_X10_204 rfl) s0 rfl) ?_
  refine gm_go.ru (gm_get dX10_bakedCount_7 (fl_X10_244 rfl) o1 rfl) ?_
  exact gm_iret dX10_bakedCount_10 rfl
