set_option maxRecDepth 4000 in
theorem ct_addNeedleX {h : gm_H} {n T : Nat} {v : Nat → Int} {hs ep fc a : Int} (hB : h.1[n]? = some (by_c n hs ep fc)) (hS : st_at h (n + 1) v) (hv : st_iv T v) (ha : zR a) (hq : zqWhy v 0 a 0 0 ≠ 0) : gm_co mX10_addNeedle 10 [.ref n, .int (zI a)] h (.inr (zXc (zqWhy v 0 a 0 0))) (zTh h) := by
  refine gm_co_of _ (by decide +kernel) rfl (Nat.le_of_ble_eq_true rfl) rfl ?_
  refine gm_go.ru (gm_aload_n dX10_addNeedle_0 rfl (by first | exact Or.inl ⟨_, rfl⟩ | exact Or.inr ⟨_, rfl⟩)) ?_
  refine gm_go.ru (gm_gets (v := .retAddr 7) dX10_addNeedle_1 (by decide +kernel) (sl_X10_65 rfl) rfl) ?_
  refine gm_go.ru (gm_iload_n dX10_addNeedle_4 rfl) ?_
  refine gm_go.ru (gi_const dX10_addNeedle_5) ?_
  refine gm_go.ru (gi_const dX10_addNeedle_6) ?_
  exact gm_pV dX10_addNeedle_7 (ct_modifyX (w := 0) hB hS hv ha zR_0 zR_0 (by decide) hq) rfl rfl mt_X10_modify mv_X10_modify (lk_X10_71 rfl) (Or.inl ⟨_, 11, _, _, _, rfl, hB, rfl⟩) rfl (Nat.le_of_ble_eq_true rfl) (by decide)
set_option maxRecDepth 4000 in
theorem ct_addNeedle {h : gm_H} {n T : Nat} {v : Nat → Int} {hs ep fc a : Int} (hB : h.1[n]? = some (by_c n hs ep fc)) (hS : st_at h (n + 1) v) (hv : st_iv T v) (ha : zR a) {P : Nat → Nat → Int} {m : Nat} (hH : hi_at h (n + 19) P m) (hT : T < 1000) (hq : zqWhy v 0 a 0 0 = 0) : ∃ h', gm_co mX10_addNeedle 10 [.ref n, .int (zI a)] h (.inl (some (.int (zI (zAn v 0 a 0 0))))) h' ∧ st_at h' (n + 1) (zDo v 0 a 0 0) ∧ st_iv (T + 1) (zDo v 0 a 0 0) ∧ hi_at h' (n + 19) (zPush P m v) (min (m + 1) 8) ∧ gh_fr h h' (fun k => st_K (n + 1) k ∨ hi_K (n + 19) k) := by
  obtain ⟨h', e1, e2⟩ := ct_modify (w := 0) hB hS hv ha zR_0 zR_0 (by decide) hH hT hq
  refine ⟨h', ?_, e2⟩
  refine gm_co_of _ (by decide +kernel) rfl (Nat.le_of_ble_eq_true rfl) rfl ?_
  refine gm_go.ru (gm_aload_n dX10_addNeedle_0 rfl (by first | exact Or.inl ⟨_, rfl⟩ | exact Or.inr ⟨_, rfl⟩)) ?_
  refine gm_go.ru (gm_gets (v := .retAddr 7) dX10_addNeedle_1 (by decide +kernel) (sl_X10_65 rfl) rfl) ?_
  refine gm_go.ru (gm_iload_n dX10_addNeedle_4 rfl) ?_
  refine gm_go.ru (gi_const dX10_addNeedle_5) ?_
  refine gm_go.ru (gi_const dX10_addNeedle_6) ?_
  refine gm_go.ru (gm_cV dX10_addNeedle_7 (e1) rfl mt_X10_modify mv_X10_modify (lk_X10_71 rfl) (Or.inl ⟨_, 11, _, _, _, rfl, hB, rfl⟩) rfl (Nat.le_of_ble_eq_true rfl) (by decide)) ?_
  exact gm_iret dX10_addNeedle_10 rfl
set_option maxRecDepth 4000 in
theorem ct_setDeviationX {h : gm_H} {n T : Nat} {v : Nat → Int} {hs ep fc a b c : Int} (hB : h.1[n]? = some (by_c n hs ep fc)) (hS : st_at h (n + 1) v) (hv : st_iv T v) (ha : zR a) (hb : zR b) (hc : zR c) (hq : zqWhy v 1 a b c ≠ 0) : gm_co mX10_setDeviation 10 [.ref n, .int (zI a), .int (zI b), .int (zI c)] h (.inr (zXc (zqWhy v 1 a b c))) (zTh h) := by
  refine gm_co_of _ (by decide +kernel) rfl (Nat.le_of_ble_eq_true rfl) rfl ?_
  refine gm_go.ru (gm_aload_n dX10_setDeviation_0 rfl (by first | exact Or.inl ⟨_, rfl⟩ | exact Or.inr ⟨_, rfl⟩)) ?_
  refine gm_go.ru (gm_gets (v := .retAddr 8) dX10_setDeviation_1 (by decide +kernel) (sl_X10_75 rfl) rfl) ?_
  refine gm_go.ru (gm_iload_n dX10_setDeviation_4 rfl) ?_
  refine gm_go.ru (gm_iload_n dX10_setDeviation_5 rfl) ?_
  refine gm_go.ru (gm_iload_n dX10_setDeviation_6 rfl) ?_
  exact gm_pV dX10_setDeviation_7 (ct_modifyX (w := 1) hB hS hv ha hb hc (by decide) hq) rfl rfl mt_X10_modify mv_X10_modify (lk_X10_71 rfl) (Or.inl ⟨_, 11, _, _, _, rfl, hB, rfl⟩) rfl (Nat.le_of_ble_eq_true rfl) (by decide)
set_option maxRecDepth 4000 in
theorem ct_setDeviation {h : gm_H} {n T : Nat} {v : Nat → Int} {hs ep fc a b c : Int} (hB : h.1[n]? = some (by_c n hs ep fc)) (hS : st_at h (n + 1) v) (hv : st_iv T v) (ha : zR a) (hb : zR b) (hc : zR c) {P : Nat → Nat → Int} {m : Nat} (hH : hi_at h (n + 19) P m) (hT : T < 1000) (hq : zqWhy v 1 a b c = 0) : ∃ h', gm_co mX10_setDeviation 10 [.ref n, .int (zI a), .int (zI b), .int (zI c)] h (.inl (some (.int (zI (zAn v 1 a b c))))) h' ∧ st_at h' (n + 1) (zDo v 1 a b c) ∧ st_iv (T + 1) (zDo v 1 a b c) ∧ hi_at h' (n + 19) (zPush P m v) (min (m + 1) 8) ∧ gh_fr h h' (fun k => st_K (n + 1) k ∨ hi_K (n + 19) k) := by
  obtain ⟨h', e1, e2⟩ := ct_modify (w := 1) hB hS hv ha hb hc (by decide) hH hT hq
  refine ⟨h', ?_, e2⟩
  refine gm_co_of _ (by decide +kernel) rfl (Nat.le_of_ble_eq_true rfl) rfl ?_
  refine gm_go.ru (gm_aload_n dX10_setDeviation_0 rfl (by first | exact Or.inl ⟨_, rfl⟩ | exact Or.inr ⟨_, rfl⟩)) ?_
  refine gm_go.ru (gm_gets (v := .retAddr 8) dX10_setDeviation_1 (by decide +kernel) (sl_X10_75 rfl) rfl) ?_
  refine gm_go.ru (gm_iload_n dX10_setDeviation_4 rfl) ?_
  refine gm_go.ru (gm_iload_n dX10_setDeviation_5 rfl) ?_
  refine gm_go.ru (gm_iload_n dX10_setDeviation_6 rfl) ?_
  refine gm_go.ru (gm_cV dX10_setDeviation_7 (e1) rfl mt_X10_modify mv_X10_modify (lk_X10_71 rfl) (Or.inl ⟨_, 11, _, _, _, rfl, hB, rfl⟩) rfl (Nat.le_of_ble_eq_true rfl) (by decide)) ?_
  exact gm_iret dX10_setDeviation_10 rfl
set_option maxRecDepth 4000 in
theorem ct_shiftX {h : gm_H} {n T : Nat} {v : Nat → Int} {hs ep fc a b : Int} (hB : h.1[n]? = some (by_c n hs ep fc)) (hS : st_at h (n + 1) v) (hv : st_iv T v) (ha : zR a) (hb : zR b) (hq : zqWhy v 2 a b 0 ≠ 0) : gm_co mX10_shift 10 [.ref n, .int (zI a), .int (zI b)] h (.inr (zXc (zqWhy v 2 a b 0))) (zTh h) := by
  refine gm_co_of _ (by decide +kernel) rfl (Nat.le_of_ble_eq_true rfl) rfl ?_
  refine gm_go.ru (gm_aload_n dX10_shift_0 rfl (by first | exact Or.inl ⟨_, rfl⟩ | exact Or.inr ⟨_, rfl⟩)) ?_
  refine gm_go.ru (gm_gets (v := .retAddr 9) dX10_shift_1 (by decide +kernel) (sl_X10_78 rfl) rfl) ?_
  refine gm_go.ru (gm_iload_n dX10_shift_4 rfl) ?_
  refine gm_go.ru (gm_iload_n dX10_shift_5 rfl) ?_
  refine gm_go.ru (gi_const dX10_shift_6) ?_
  exact gm_pV dX10_shift_7 (ct_modifyX (w := 2) hB hS hv ha hb zR_0 (by decide) hq) rfl rfl mt_X10_modify mv_X10_modify (lk_X10_71 rfl) (Or.inl ⟨_, 11, _, _, _, rfl, hB, rfl⟩) rfl (Nat.le_of_ble_eq_true rfl) (by decide)
set_option maxRecDepth 4000 in
theorem ct_shift {h : gm_H} {n T : Nat} {v : Nat → Int} {hs ep fc a b : Int} (hB : h.1[n]? = some (by_c n hs ep fc)) (hS : st_at h (n + 1) v) (hv : st_iv T v) (ha : zR a) (hb : zR b) {P : Nat → Nat → Int} {m : Nat} (hH : hi_at h (n + 19) P m) (hT : T < 1000) (hq : zqWhy v 2 a b 0 = 0) : ∃ h', gm_co mX10_shift 10 [.ref n, .int (zI a), .int (zI b)] h (.inl (some (.int (zI (zAn v 2 a b 0))))) h' ∧ st_at h' (n + 1) (zDo v 2 a b 0) ∧ st_iv (T + 1) (zDo v 2 a b 0) ∧ hi_at h' (n + 19) (zPush P m v) (min (m + 1) 8) ∧ gh_fr h h' (fun k => st_K (n + 1) k ∨ hi_K (n + 19) k) := by
  obtain ⟨h', e1, e2⟩ := ct_modify (w := 2) hB hS hv ha hb zR_0 (by decide) hH hT hq
  refine ⟨h', ?_, e2⟩
  refine gm_co_of _ (by decide +kernel) rfl (Nat.le_of_ble_eq_true rfl) rfl ?_
  refine gm_go.ru (gm_aload_n dX10_shift_0 rfl (by first | exact Or.inl ⟨_, rfl⟩ | exact Or.inr ⟨_, rfl⟩)) ?_
  refine gm_go.ru (gm_gets (v := .retAddr 9) dX10_shift_1 (by decide +kernel) (sl_X10_78 rfl) rfl) ?_
  refine gm_go.ru (gm_iload_n dX10_shift_4 rfl) ?_
  refine gm_go.ru (gm_iload_n dX10_shift_5 rfl) ?_
  refine gm_go.ru (gi_const dX10_shift_6) ?_
  refine gm_go.ru (gm_cV dX10_shift_7 (e1) rfl mt_X10_modify mv_X10_modify (lk_X10_71 rfl) (Or.inl ⟨_, 11, _, _, _, rfl, hB, rfl⟩) rfl (Nat.le_of_ble_eq_true rfl) (by decide)) ?_
  exact gm_iret dX10_shift_10 rfl
set_option maxRecDepth 4000 in
theorem ct_correctX {h : gm_H} {n T : Nat} {v : Nat → Int} {hs ep fc a : Int} (hB : h.1[n]? = some (by_c n hs ep fc)) (hS : st_at h (n + 1) v) (hv : st_iv T v) (ha : zR a) (hq : zqWhy v 3 a 0 0 ≠ 0) : gm_co mX10_correct 10 [.ref n, .int (zI a)] h (.inr (zXc (zqWhy v 3 a 0 0))) (zTh h) := by
  refine gm_co_of _ (by decide +kernel) rfl (Nat.le_of_ble_eq_true rfl) rfl ?_
  refine gm_go.ru (gm_aload_n dX10_correct_0 rfl (by first | exact Or.inl ⟨_, rfl⟩ | exact Or.inr ⟨_, rfl⟩)) ?_
  refine gm_go.ru (gm_gets (v := .retAddr 10) dX10_correct_1 (by decide +kernel) (sl_X10_81 rfl) rfl) ?_
  refine gm_go.ru (gm_iload_n dX10_correct_4 rfl) ?_
  refine gm_go.ru (gi_const dX10_correct_5) ?_
  refine gm_go.ru (gi_const dX10_correct_6) ?_
  exact gm_pV dX10_correct_7 (ct_modifyX (w := 3) hB hS hv ha zR_0 zR_0 (by decide) hq) rfl rfl mt_X10_modify mv_X10_modify (lk_X10_71 rfl) (Or.inl ⟨_, 11, _, _, _, rfl, hB, rfl⟩) rfl (Nat.le_of_ble_eq_true rfl) (by decide)
set_option maxRecDepth 4000 in
theorem ct_correct {h : gm_H} {n T : Nat} {v : Nat → Int} {hs ep fc a : Int} (hB : h.1[n]? = some (by_c n hs ep fc)) (hS : st_at h (n + 1) v) (hv : st_iv T v) (ha : zR a) {P : Nat → Nat → Int} {m : Nat} (hH : hi_at h (n + 19) P m) (hT : T < 1000) (hq : zqWhy v 3 a 0 0 = 0) : ∃ h', gm_co mX10_correct 10 [.ref n, .int (zI a)] h (.inl (some (.int (zI (zAn v 3 a 0 0))))) h' ∧ st_at h' (n + 1) (zDo v 3 a 0 0) ∧ st_iv (T + 1) (zDo v 3 a 0 0) ∧ hi_at h' (n + 19) (zPush P m v) (min (m + 1) 8) ∧ gh_fr h h' (fun k => st_K (n + 1) k ∨ hi_K (n + 19) k) := by
  obtain ⟨h', e1, e2⟩ := ct_modify (w := 3) hB hS hv ha zR_0 zR_0 (by decide) hH hT hq
  refine ⟨h', ?_, e2⟩
  refine gm_co_of _ (by decide +kernel) rfl (Nat.le_of_ble_eq_true rfl) rfl ?_
  refine gm_go.ru (gm_aload_n dX10_correct_0 rfl (by first | exact Or.inl ⟨_, rfl⟩ | exact Or.inr ⟨_, rfl⟩)) ?_
  refine gm_go.ru (gm_gets (v := .retAddr 10) dX10_correct_1 (by decide +kernel) (sl_X10_81 rfl) rfl) ?_
  refine gm_go.ru (gm_iload_n dX10_correct_4 rfl) ?_
  refine gm_go.ru (gi_const dX10_correct_5) ?_
  refine gm_go.ru (gi_const dX10_correct_6) ?_
  refine gm_go.ru (gm_cV dX10_correct_7 (e1) rfl mt_X10_modify mv_X10_modify (lk_X10_71 rfl) (Or.inl ⟨_, 11, _, _, _, rfl, hB, rfl⟩) rfl (Nat.le_of_ble_eq_true rfl) (by decide)) ?_
  exact gm_iret dX10_correct_10 rfl
set_option maxRecDepth 4000 in
theorem ct_discardX {h : gm_H} {n T : Nat} {v : Nat → Int} {hs ep fc a : Int} (hB : h.1[n]? = some (by_c n hs ep fc)) (hS : st_at h (n + 1) v) (hv : st_iv T v) (ha : zR a) (hq : zqWhy v 4 a 0 0 ≠ 0) : gm_co mX10_discard 10 [.ref n, .int (zI a)] h (.inr (zXc (zqWhy v 4 a 0 0))) (zTh h) := by
  refine gm_co_of _ (by decide +kernel) rfl (Nat.le_of_ble_eq_true rfl) rfl ?_
  refine gm_go.ru (gm_aload_n dX10_discard_0 rfl (by first | exact Or.inl ⟨_, rfl⟩ | exact Or.inr ⟨_, rfl⟩)) ?_
  refine gm_go.ru (gm_gets (v := .retAddr 11) dX10_discard_1 (by decide +kernel) (sl_X10_84 rfl) rfl) ?_
  refine gm_go.ru (gm_iload_n dX10_discard_4 rfl) ?_
  refine gm_go.ru (gi_const dX10_discard_5) ?_
  refine gm_go.ru (gi_const dX10_discard_6) ?_
  exact gm_pV dX10_discard_7 (ct_modifyX (w := 4) hB hS hv ha zR_0 zR_0 (by decide) hq) rfl rfl mt_X10_modify mv_X10_modify (lk_X10_71 rfl) (Or.inl ⟨_, 11, _, _, _, rfl, hB, rfl⟩) rfl (Nat.le_of_ble_eq_true rfl) (by decide)
set_option maxRecDepth 4000 in
theorem ct_discard {h : gm_H} {n T : Nat} {v : Nat → Int} {hs ep fc a : Int} (hB : h.1[n]? = some (by_c n hs ep fc)) (hS : st_at h (n + 1) v) (hv : st_iv T v) (ha : zR a) {P : Nat → Nat → Int} {m : Nat} (hH : hi_at h (n + 19) P m) (hT : T < 1000) (hq : zqWhy v 4 a 0 0 = 0) : ∃ h', gm_co mX10_discard 10 [.ref n, .int (zI a)] h (.inl (some (.int (zI (zAn v 4 a 0 0))))) h' ∧ st_at h' (n + 1) (zDo v 4 a 0 0) ∧ st_iv (T + 1) (zDo v 4 a 0 0) ∧ hi_at h' (n + 19) (zPush P m v) (min (m + 1) 8) ∧ gh_fr h h' (fun k => st_K (n + 1) k ∨ hi_K (n + 19) k) := by
  obtain ⟨h', e1, e2⟩ := ct_modify (w := 4) hB hS hv ha zR_0 zR_0 (by decide) hH hT hq
  refine ⟨h', ?_, e2⟩
  refine gm_co_of _ (by decide +kernel) rfl (Nat.le_of_ble_eq_true rfl) rfl ?_
  refine gm_go.ru (gm_aload_n dX10_discard_0 rfl (by first | exact Or.inl ⟨_, rfl⟩ | exact Or.inr ⟨_, rfl⟩)) ?_
  refine gm_go.ru (gm_gets (v := .retAddr 11) dX10_discard_1 (by decide +kernel) (sl_X10_84 rfl) rfl) ?_
  refine gm_go.ru (gm_iload_n dX10_discard_4 rfl) ?_
  refine gm_go.ru (gi_const dX10_discard_5) ?_
  refine gm_go.ru (gi_const dX10_discard_6) ?_
  refine gm_go.ru (gm_cV dX10_discard_7 (e1) rfl mt_X10_modify mv_X10_modify (lk_X10_71 rfl) (Or.inl ⟨_, 11, _, _, _, rfl, hB, rfl⟩) rfl (Nat.le_of_ble_eq_true rfl) (by decide)) ?_
  exact gm_iret dX10_discard_10 rfl
set_option maxRecDepth 4000 in
theorem ct_setToleranceX {h : gm_H} {n T : Nat} {v : Nat → Int} {hs ep fc a : Int} (hB : h.1[n]? = some (by_c n hs ep fc)) (hS : st_at h (n + 1) v) (hv : st_iv T v) (ha : zR a) (hq : zqWhy v 5 a 0 0 ≠ 0) : gm_co mX10_setTolerance 10 [.ref n, .int (zI a)] h (.inr (zXc (zqWhy v 5 a 0 0))) (zTh h) := by
  refine gm_co_of _ (by decide +kernel) rfl (Nat.le_of_ble_eq_true rfl) rfl ?_
  refine gm_go.ru (gm_aload_n dX10_setTolerance_0 rfl (by first | exact Or.inl ⟨_, rfl⟩ | exact Or.inr ⟨_, rfl⟩)) ?_
  refine gm_go.ru (gm_gets (v := .retAddr 12) dX10_setTolerance_1 (by decide +kernel) (sl_X10_87 rfl) rfl) ?_
  refine gm_go.ru (gm_iload_n dX10_setTolerance_4 rfl) ?_
  refine gm_go.ru (gi_const dX10_setTolerance_5) ?_
  refine gm_go.ru (gi_const dX10_setTolerance_6) ?_
  exact gm_pV dX10_setTolerance_7 (ct_modifyX (w := 5) hB hS hv ha zR_0 zR_0 (by decide) hq) rfl rfl mt_X10_modify mv_X10_modify (lk_X10_71 rfl) (Or.inl ⟨_, 11, _, _, _, rfl, hB, rfl⟩) rfl (Nat.le_of_ble_eq_true rfl) (by decide)
set_option maxRecDepth 4000 in
theorem ct_setTolerance {h : gm_H} {n T : Nat} {v : Nat → Int} {hs ep fc a : Int} (hB : h.1[n]? = some (by_c n hs ep fc)) (hS : st_at h (n + 1) v) (hv : st_iv T v) (ha : zR a) {P : Nat → Nat → Int} {m : Nat} (hH : hi_at h (n + 19) P m) (hT : T < 1000) (hq : zqWhy v 5 a 0 0 = 0) : ∃ h', gm_co mX10_setTolerance 10 [.ref n, .int (zI a)] h (.inl (some (.int (zI (zAn v 5 a 0 0))))) h' ∧ st_at h' (n + 1) (zDo v 5 a 0 0) ∧ st_iv (T + 1) (zDo v 5 a 0 0) ∧ hi_at h' (n + 19) (zPush P m v) (min (m + 1) 8) ∧ gh_fr h h' (fun k => st_K (n + 1) k ∨ hi_K (n + 19) k) := by
  obtain ⟨h', e1, e2⟩ := ct_modify (w := 5) hB hS hv ha zR_0 zR_0 (by decide) hH hT hq
  refine ⟨h', ?_, e2⟩
  refine gm_co_of _ (by decide +kernel) rfl (Nat.le_of_ble_eq_true rfl) rfl ?_
  refine gm_go.ru (gm_aload_n dX10_setTolerance_0 rfl (by first | exact Or.inl ⟨_, rfl⟩ | exact Or.inr ⟨_, rfl⟩)) ?_
  refine gm_go.ru (gm_gets (v := .retAddr 12) dX10_setTolerance_1 (by decide +kernel) (sl_X10_87 rfl) rfl) ?_
  refine gm_go.ru (gm_iload_n dX10_setTolerance_4 rfl) ?_
  refine gm_go.ru (gi_const dX10_setTolerance_5) ?_
  refine gm_go.ru (gi_const dX10_setTolerance_6) ?_
  refine gm_go.ru (gm_cV dX10_setTolerance_7 (e1) rfl mt_X10_modify mv_X10_modify (lk_X10_71 rfl) (Or.inl ⟨_, 11, _, _, _, rfl, hB, rfl⟩) rfl (Nat.le_of_ble_eq_true rfl) (by decide)) ?_
  exact gm_iret dX10_setTolerance_10 rfl
set_option maxRecDepth 4000 in
theorem ct_addBatchX {h : gm_H} {n T : Nat} {v : Nat → Int} {hs ep fc a b c : Int} (hB : h.1[n]? = some (by_c n hs ep fc)) (hS : st_at h (n + 1) v) (hv : st_iv T v) (ha : zR a) (hb : zR b) (hc : zR c) (hq : zqWhy v 6 a b c ≠ 0) : gm_co mX10_addBatch 10 [.ref n, .int (zI a), .int (zI b), .int (zI c)] h (.inr (zXc (zqWhy v 6 a b c))) (zTh h) := by
  refine gm_co_of _ (by decide +kernel) rfl (Nat.le_of_ble_eq_true rfl) rfl ?_
  refine gm_go.ru (gm_aload_n dX10_addBatch_0 rfl (by first | exact Or.inl ⟨_, rfl⟩ | exact Or.inr ⟨_, rfl⟩)) ?_
  refine gm_go.ru (gm_gets (v := .retAddr 13) dX10_addBatch_1 (by decide +kernel) (sl_X10_192 rfl) rfl) ?_
  refine gm_go.ru (gm_iload_n dX10_addBatch_4 rfl) ?_
  refine gm_go.ru (gm_iload_n dX10_addBatch_5 rfl) ?_
  refine gm_go.ru (gm_iload_n dX10_addBatch_6 rfl) ?_
  exact gm_pV dX10_addBatch_7 (ct_modifyX (w := 6) hB hS hv ha hb hc (by decide) hq) rfl rfl mt_X10_modify mv_X10_modify (lk_X10_71 rfl) (Or.inl ⟨_, 11, _, _, _, rfl, hB, rfl⟩) rfl (Nat.le_of_ble_eq_true rfl) (by decide)
set_option maxRecDepth 4000 in
theorem ct_addBatch {h : gm_H} {n T : Nat} {v : Nat → Int} {hs ep fc a b c : Int} (hB : h.1[n]? = some (by_c n hs ep fc)) (hS : st_at h (n + 1) v) (hv : st_iv T v) (ha : zR a) (hb : zR b) (hc : zR c) {P : Nat → Nat → Int} {m : Nat} (hH : hi_at h (n + 19) P m) (hT : T < 1000) (hq : zqWhy v 6 a b c = 0) : ∃ h', gm_co mX10_addBatch 10 [.ref n, .int (zI a), .int (zI b), .int (zI c)] h (.inl (some (.int (zI (zAn v 6 a b c))))) h' ∧ st_at h' (n + 1) (zDo v 6 a b c) ∧ st_iv (T + 1) (zDo v 6 a b c) ∧ hi_at h' (n + 19) (zPush P m v) (min (m + 1) 8) ∧ gh_fr h h' (fun k => st_K (n + 1) k ∨ hi_K (n + 19) k) := by
  obtain ⟨h', e1, e2⟩ := ct_modify (w := 6) hB hS hv ha hb hc (by decide) hH hT hq
  refine ⟨h', ?_, e2⟩
  refine gm_co_of _ (by decide +kernel) rfl (Nat.le_of_ble_eq_true rfl) rfl ?_
  refine gm_go.ru (gm_aload_n dX10_addBatch_0 rfl (by first | exact Or.inl ⟨_, rfl⟩ | exact Or.inr ⟨_, rfl⟩)) ?_
  refine gm_go.ru (gm_gets (v := .retAddr 13) dX10_addBatch_1 (by decide +kernel) (sl_X10_192 rfl) rfl) ?_
  refine gm_go.ru (gm_iload_n dX10_addBatch_4 rfl) ?_
  refine gm_go.ru (gm_iload_n dX10_addBatch_5 rfl) ?_
  refine gm_go.ru (gm_iload_n dX10_addBatch_6 rfl) ?_
  refine gm_go.ru (gm_cV dX10_addBatch_7 (e1) rfl mt_X10_modify mv_X10_modify (lk_X10_71 rfl) (Or.inl ⟨_, 11, _, _, _, rfl, hB, rfl⟩) rfl (Nat.le_of_ble_eq_true rfl) (by decide)) ?_
  exact gm_iret dX10_addBatch_10 rfl
set_option maxRecDepth 4000 in
theorem ct_dropBatchX {h : gm_H} {n T : Nat} {v : Nat → Int} {hs ep fc a : Int} (hB : h.1[n]? = some (by_c n hs ep fc)) (hS : st_at h (n + 1) v) (hv : st_iv T v) (ha : zR a) (hq : zqWhy v 7 a 0 0 ≠ 0) : gm_co mX10_dropBatch 10 [.ref n, .int (zI a)] h (.inr (zXc (zqWhy v 7 a 0 0))) (zTh h) := by
  refine gm_co_of _ (by decide +kernel) rfl (Nat.le_of_ble_eq_true rfl) rfl ?_
  refine gm_go.ru (gm_aload_n dX10_dropBatch_0 rfl (by first | exact Or.inl ⟨_, rfl⟩ | exact Or.inr ⟨_, rfl⟩)) ?_
  refine gm_go.ru (gm_gets (v := .retAddr 14) dX10_dropBatch_1 (by decide +kernel) (sl_X10_195 rfl) rfl) ?_
  refine gm_go.ru (gm_iload_n dX10_dropBatch_4 rfl) ?_
  refine gm_go.ru (gi_const dX10_dropBatch_5) ?_
  refine gm_go.ru (gi_const dX10_dropBatch_6) ?_
  exact gm_pV dX10_dropBatch_7 (ct_modifyX (w := 7) hB hS hv ha zR_0 zR_0 (by decide) hq) rfl rfl mt_X10_modify mv_X10_modify (lk_X10_71 rfl) (Or.inl ⟨_, 11, _, _, _, rfl, hB, rfl⟩) rfl (Nat.le_of_ble_eq_true rfl) (by decide)
set_option maxRecDepth 4000 in
theorem ct_dropBatch {h : gm_H} {n T : Nat} {v : Nat → Int} {hs ep fc a : Int} (hB : h.1[n]? = some (by_c n hs ep fc)) (hS : st_at h (n + 1) v) (hv : st_iv T v) (ha : zR a) {P : Nat → Nat → Int} {m : Nat} (hH : hi_at h (n + 19) P m) (hT : T < 1000) (hq : zqWhy v 7 a 0 0 = 0) : ∃ h', gm_co mX10_dropBatch 10 [.ref n, .int (zI a)] h (.inl (some (.int (zI (zAn v 7 a 0 0))))) h' ∧ st_at h' (n + 1) (zDo v 7 a 0 0) ∧ st_iv (T + 1) (zDo v 7 a 0 0) ∧ hi_at h' (n + 19) (zPush P m v) (min (m + 1) 8) ∧ gh_fr h h' (fun k => st_K (n + 1) k ∨ hi_K (n + 19) k) := by
  obtain ⟨h', e1, e2⟩ := ct_modify (w := 7) hB hS hv ha zR_0 zR_0 (by decide) hH hT hq
  refine ⟨h', ?_, e2⟩
  refine gm_co_of _ (by decide +kernel) rfl (Nat.le_of_ble_eq_true rfl) rfl ?_
  refine gm_go.ru (gm_aload_n dX10_dropBatch_0 rfl (by first | exact Or.inl ⟨_, rfl⟩ | exact Or.inr ⟨_, rfl⟩)) ?_
  refine gm_go.ru (gm_gets (v := .retAddr 14) dX10_dropBatch_1 (by decide +kernel) (sl_X10_195 rfl) rfl) ?_
  refine gm_go.ru (gm_iload_n dX10_dropBatch_4 rfl) ?_
  refine gm_go.ru (gi_const dX10_dropBatch_5) ?_
  refine gm_go.ru (gi_const dX10_dropBatch_6) ?_
  refine gm_go.ru (gm_cV dX10_dropBatch_7 (e1) rfl mt_X10_modify mv_X10_modify (lk_X10_71 rfl) (Or.inl ⟨_, 11, _, _, _, rfl, hB, rfl⟩) rfl (Nat.le_of_ble_eq_true rfl) (by decide)) ?_
  exact gm_iret dX10_dropBatch_10 rfl
set_option maxRecDepth 4000 in
theorem ct_bakeX {h : gm_H} {n T : Nat} {v : Nat → Int} {hs ep fc a : Int} (hB : h.1[n]? = some (by_c n hs ep fc)) (hS : st_at h (n + 1) v) (hv : st_iv T v) (ha : zR a) (hq : zqWhy v 8 a 0 0 ≠ 0) : gm_co mX10_bake 10 [.ref n, .int (zI a)] h (.inr (zXc (zqWhy v 8 a 0 0))) (zTh h) := by
  refine gm_co_of _ (by decide +kernel) rfl (Nat.le_of_ble_eq_true rfl) rfl ?_
  refine gm_go.ru (gm_aload_n dX10_bake_0 rfl (by first | exact Or.inl ⟨_, rfl⟩ | exact Or.inr ⟨_, rfl⟩)) ?_
  refine gm_go.ru (gm_gets (v := .retAddr 15) dX10_bake_1 (by decide +kernel) (sl_X10_198 rfl) rfl) ?_
  refine gm_go.ru (gm_iload_n dX10_bake_4 rfl) ?_
  refine gm_go.ru (gi_const dX10_bake_5) ?_
  refine gm_go.ru (gi_const dX10_bake_6) ?_
  exact gm_pV dX10_bake_7 (ct_modifyX (w := 8) hB hS hv ha zR_0 zR_0 (by decide) hq) rfl rfl mt_X10_modify mv_X10_modify (lk_X10_71 rfl) (Or.inl ⟨_, 11, _, _, _, rfl, hB, rfl⟩) rfl (Nat.le_of_ble_eq_true rfl) (by decide)
set_option maxRecDepth 4000 in
theorem ct_bake {h : gm_H} {n T : Nat} {v : Nat → Int} {hs ep fc a : Int} (hB : h.1[n]? = some (by_c n hs ep fc)) (hS : st_at h (n + 1) v) (hv : st_iv T v) (ha : zR a) {P : Nat → Nat → Int} {m : Nat} (hH : hi_at h (n + 19) P m) (hT : T < 1000) (hq : zqWhy v 8 a 0 0 = 0) : ∃ h', gm_co mX10_bake 10 [.ref n, .int (zI a)] h (.inl (some (.int (zI (zAn v 8 a 0 0))))) h' ∧ st_at h' (n + 1) (zDo v 8 a 0 0) ∧ st_iv (T + 1) (zDo v 8 a 0 0) ∧ hi_at h' (n + 19) (zPush P m v) (min (m + 1) 8) ∧ gh_fr h h' (fun k => st_K (n + 1) k ∨ hi_K (n + 19) k) := by
  obtain ⟨h', e1, e2⟩ := ct_modify (w := 8) hB hS hv ha zR_0 zR_0 (by decide) hH hT hq
  refine ⟨h', ?_, e2⟩
  refine gm_co_of _ (by decide +kernel) rfl (Nat.le_of_ble_eq_true rfl) rfl ?_
  refine gm_go.ru (gm_aload_n dX10_bake_0 rfl (by first | exact Or.inl ⟨_, rfl⟩ | exact Or.inr ⟨_, rfl⟩)) ?_
  refine gm_go.ru (gm_gets (v := .retAddr 15) dX10_bake_1 (by decide +kernel) (sl_X10_198 rfl) rfl) ?_
  refine gm_go.ru (gm_iload_n dX10_bake_4 rfl) ?_
  refine gm_go.ru (gi_const dX10_bake_5) ?_
  refine gm_go.ru (gi_const dX10_bake_6) ?_
  refine gm_go.ru (gm_cV dX10_bake_7 (e1) rfl mt_X10_modify mv_X10_modify (lk_X10_71 rfl) (Or.inl ⟨_, 11, _, _, _, rfl, hB, rfl⟩) rfl (Nat.le_of_ble_eq_true rfl) (by decide)) ?_
  exact gm_iret dX10_bake_10 rfl
set_option maxRecDepth 4000 in
theorem ct_restX {h : gm_H} {n T : Nat} {v : Nat → Int} {hs ep fc a : Int} (hB : h.1[n]? = some (by_c n hs ep fc)) (hS : st_at h (n + 1) v) (hv : st_iv T v) (ha : zR a) (hq : zqWhy v 9 a 0 0 ≠ 0) : gm_co mX10_rest 10 [.ref n, .int (zI a)] h (.inr (zXc (zqWhy v 9 a 0 0))) (zTh h) := by
  refine gm_co_of _ (by decide +kernel) rfl (Nat.le_of_ble_eq_true rfl) rfl ?_
  refine gm_go.ru (gm_aload_n dX10_rest_0 rfl (by first | exact Or.inl ⟨_, rfl⟩ | exact Or.inr ⟨_, rfl⟩)) ?_
  refine gm_go.ru (gm_gets (v := .retAddr 16) dX10_rest_1 (by decide +kernel) (sl_X10_201 rfl) rfl) ?_
  refine gm_go.ru (gm_iload_n dX10_rest_4 rfl) ?_
  refine gm_go.ru (gi_const dX10_rest_5) ?_
  refine gm_go.ru (gi_const dX10_rest_6) ?_
  exact gm_pV dX10_rest_7 (ct_modifyX (w := 9) hB hS hv ha zR_0 zR_0 (by decide) hq) rfl rfl mt_X10_modify mv_X10_modify (lk_X10_71 rfl) (Or.inl ⟨_, 11, _, _, _, rfl, hB, rfl⟩) rfl (Nat.le_of_ble_eq_true rfl) (by decide)
set_option maxRecDepth 4000 in
theorem ct_rest {h : gm_H} {n T : Nat} {v : Nat → Int} {hs ep fc a : Int} (hB : h.1[n]? = some (by_c n hs ep fc)) (hS : st_at h (n + 1) v) (hv : st_iv T v) (ha : zR a) {P : Nat → Nat → Int} {m : Nat} (hH : hi_at h (n + 19) P m) (hT : T < 1000) (hq : zqWhy v 9 a 0 0 = 0) : ∃ h', gm_co mX10_rest 10 [.ref n, .int (zI a)] h (.inl (some (.int (zI (zAn v 9 a 0 0))))) h' ∧ st_at h' (n + 1) (zDo v 9 a 0 0) ∧ st_iv (T + 1) (zDo v 9 a 0 0) ∧ hi_at h' (n + 19) (zPush P m v) (min (m + 1) 8) ∧ gh_fr h h' (fun k => st_K (n + 1) k ∨ hi_K (n + 19) k) := by
  obtain ⟨h', e1, e2⟩ := ct_modify (w := 9) hB hS hv ha zR_0 zR_0 (by decide) hH hT hq
  refine ⟨h', ?_, e2⟩
  refine gm_co_of _ (by decide +kernel) rfl (Nat.le_of_ble_eq_true rfl) rfl ?_
  refine gm_go.ru (gm_aload_n dX10_rest_0 rfl (by first | exact Or.inl ⟨_, rfl⟩ | exact Or.inr ⟨_, rfl⟩)) ?_
  refine gm_go.ru (gm_gets (v := .retAddr 16) dX10_rest_1 (by decide +kernel) (sl_X10_201 rfl) rfl) ?_
  refine gm_go.ru (gm_iload_n dX10_rest_4 rfl) ?_
  refine gm_go.ru (gi_const dX10_rest_5) ?_
  refine gm_go.ru (gi_const dX10_rest_6) ?_
  refine gm_go.ru (gm_cV dX10_rest_7 (e1) rfl mt_X10_modify mv_X10_modify (lk_X10_71 rfl) (Or.inl ⟨_, 11, _, _, _, rfl, hB, rfl⟩) rfl (Nat.le_of_ble_eq_true rfl) (by decide)) ?_
  exact gm_iret dX10_rest_10 rfl
