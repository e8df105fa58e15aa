set_option maxRecDepth 4000 in
theorem ct_m_needleCount {h : gm_H} {m : Nat} {K F : Nat → Int} (hM : h.1[m]? = some (md_c m K)) (hV : h.1[m + 1]? = some (gA 118 F)) : ∃ h', gm_co mX11_needleCount 2 [.ref m] h (.inl (some (.int (zI (F 0))))) h' ∧ h'.1[m]? = some (md_c m (zU K 0 0)) ∧ gh_fr h h' (fun k => k = m) := by
  obtain ⟨a1, ha1⟩ : ∃ y : gm_H, y = (h.1.set m (md_c m (zU K 0 0)), h.2) := ⟨_, rfl⟩
  have M_a1 : a1.1[m]? = some (md_c m (zU K 0 0)) := by rw [ha1]; exact gs_s hM
  have V_a1 : a1.1[m + 1]? = some (gA 118 F) := by rw [ha1]; exact gs_n hV (by omega)
  have f_a1 : gh_fr h a1 (fun k => k = m) := by rw [ha1]; exact gh_set (K := fun k => k = m) gh_rf rfl _
  refine ⟨a1, ?_, M_a1, f_a1⟩
  rw [ha1]
  refine gm_co_of _ (by decide +kernel) rfl (Nat.le_of_ble_eq_true rfl) rfl ?_
  refine gm_go.ru (gm_aload_n dX11_needleCount_0 rfl (by first | exact Or.inl ⟨_, rfl⟩ | exact Or.inr ⟨_, rfl⟩)) ?_
  refine gm_go.ru (gi_const dX11_needleCount_1) ?_
  refine gm_go.ru (gm_cV dX11_needleCount_2 (ct_mTells hM hV (a := 0) (by decide)) rfl mt_X11_tells mv_X11_tells (lk_X11_123 rfl) (Or.inl ⟨_, 12, _, _, _, rfl, hM, rfl⟩) rfl (Nat.le_of_ble_eq_true rfl) (by decide)) ?_
  exact gm_iret dX11_needleCount_5 rfl
set_option maxRecDepth 4000 in
theorem ct_m_tolerance {h : gm_H} {m : Nat} {K F : Nat → Int} (hM : h.1[m]? = some (md_c m K)) (hV : h.1[m + 1]? = some (gA 118 F)) : ∃ h', gm_co mX11_tolerance 2 [.ref m] h (.inl (some (.int (zI (F 1))))) h' ∧ h'.1[m]? = some (md_c m (zU K 0 0)) ∧ gh_fr h h' (fun k => k = m) := by
  obtain ⟨a1, ha1⟩ : ∃ y : gm_H, y = (h.1.set m (md_c m (zU K 0 0)), h.2) := ⟨_, rfl⟩
  have M_a1 : a1.1[m]? = some (md_c m (zU K 0 0)) := by rw [ha1]; exact gs_s hM
  have V_a1 : a1.1[m + 1]? = some (gA 118 F) := by rw [ha1]; exact gs_n hV (by omega)
  have f_a1 : gh_fr h a1 (fun k => k = m) := by rw [ha1]; exact gh_set (K := fun k => k = m) gh_rf rfl _
  refine ⟨a1, ?_, M_a1, f_a1⟩
  rw [ha1]
  refine gm_co_of _ (by decide +kernel) rfl (Nat.le_of_ble_eq_true rfl) rfl ?_
  refine gm_go.ru (gm_aload_n dX11_tolerance_0 rfl (by first | exact Or.inl ⟨_, rfl⟩ | exact Or.inr ⟨_, rfl⟩)) ?_
  refine gm_go.ru (gi_const dX11_tolerance_1) ?_
  refine gm_go.ru (gm_cV dX11_tolerance_2 (ct_mTells hM hV (a := 1) (by decide)) rfl mt_X11_tells mv_X11_tells (lk_X11_123 rfl) (Or.inl ⟨_, 12, _, _, _, rfl, hM, rfl⟩) rfl (Nat.le_of_ble_eq_true rfl) (by decide)) ?_
  exact gm_iret dX11_tolerance_5 rfl
set_option maxRecDepth 4000 in
theorem ct_m_clock {h : gm_H} {m : Nat} {K F : Nat → Int} (hM : h.1[m]? = some (md_c m K)) (hV : h.1[m + 1]? = some (gA 118 F)) : ∃ h', gm_co mX11_clock 2 [.ref m] h (.inl (some (.int (zI (F 2))))) h' ∧ h'.1[m]? = some (md_c m (zU K 0 0)) ∧ gh_fr h h' (fun k => k = m) := by
  obtain ⟨a1, ha1⟩ : ∃ y : gm_H, y = (h.1.set m (md_c m (zU K 0 0)), h.2) := ⟨_, rfl⟩
  have M_a1 : a1.1[m]? = some (md_c m (zU K 0 0)) := by rw [ha1]; exact gs_s hM
  have V_a1 : a1.1[m + 1]? = some (gA 118 F) := by rw [ha1]; exact gs_n hV (by omega)
  have f_a1 : gh_fr h a1 (fun k => k = m) := by rw [ha1]; exact gh_set (K := fun k => k = m) gh_rf rfl _
  refine ⟨a1, ?_, M_a1, f_a1⟩
  rw [ha1]
  refine gm_co_of _ (by decide +kernel) rfl (Nat.le_of_ble_eq_true rfl) rfl ?_
  refine gm_go.ru (gm_aload_n dX11_clock_0 rfl (by first | exact Or.inl ⟨_, rfl⟩ | exact Or.inr ⟨_, rfl⟩)) ?_
  refine gm_go.ru (gi_const dX11_clock_1) ?_
  refine gm_go.ru (gm_cV dX11_clock_2 (ct_mTells hM hV (a := 2) (by decide)) rfl mt_X11_tells mv_X11_tells (lk_X11_123 rfl) (Or.inl ⟨_, 12, _, _, _, rfl, hM, rfl⟩) rfl (Nat.le_of_ble_eq_true rfl) (by decide)) ?_
  exact gm_iret dX11_clock_5 rfl
set_option maxRecDepth 4000 in
theorem ct_m_batchCount {h : gm_H} {m : Nat} {K F : Nat → Int} (hM : h.1[m]? = some (md_c m K)) (hV : h.1[m + 1]? = some (gA 118 F)) : ∃ h', gm_co mX11_batchCount 2 [.ref m] h (.inl (some (.int (zI (F 4))))) h' ∧ h'.1[m]? = some (md_c m (zU K 0 0)) ∧ gh_fr h h' (fun k => k = m) := by
  obtain ⟨a1, ha1⟩ : ∃ y : gm_H, y = (h.1.set m (md_c m (zU K 0 0)), h.2) := ⟨_, rfl⟩
  have M_a1 : a1.1[m]? = some (md_c m (zU K 0 0)) := by rw [ha1]; exact gs_s hM
  have V_a1 : a1.1[m + 1]? = some (gA 118 F) := by rw [ha1]; exact gs_n hV (by omega)
  have f_a1 : gh_fr h a1 (fun k => k = m) := by rw [ha1]; exact gh_set (K := fun k => k = m) gh_rf rfl _
  refine ⟨a1, ?_, M_a1, f_a1⟩
  rw [ha1]
  refine gm_co_of _ (by decide +kernel) rfl (Nat.le_of_ble_eq_true rfl) rfl ?_
  refine gm_go.ru (gm_aload_n dX11_batchCount_0 rfl (by first | exact Or.inl ⟨_, rfl⟩ | exact Or.inr ⟨_, rfl⟩)) ?_
  refine gm_go.ru (gi_const dX11_batchCount_1) ?_
  refine gm_go.ru (gm_cV dX11_batchCount_2 (ct_mTells hM hV (a := 4) (by decide)) rfl mt_X11_tells mv_X11_tells (lk_X11_123 rfl) (Or.inl ⟨_, 12, _, _, _, rfl, hM, rfl⟩) rfl (Nat.le_of_ble_eq_true rfl) (by decide)) ?_
  exact gm_iret dX11_batchCount_5 rfl
set_option maxRecDepth 4000 in
theorem ct_m_bakedCount {h : gm_H} {m : Nat} {K F : Nat → Int} (hM : h.1[m]? = some (md_c m K)) (hV : h.1[m + 1]? = some (gA 118 F)) : ∃ h', gm_co mX11_bakedCount 2 [.ref m] h (.inl (some (.int (zI (F 5))))) h' ∧ h'.1[m]? = some (md_c m (zU K 0 0)) ∧ gh_fr h h' (fun k => k = m) := by
  obtain ⟨a1, ha1⟩ : ∃ y : gm_H, y = (h.1.set m (md_c m (zU K 0 0)), h.2) := ⟨_, rfl⟩
  have M_a1 : a1.1[m]? = some (md_c m (zU K 0 0)) := by rw [ha1]; exact gs_s hM
  have V_a1 : a1.1[m + 1]? = some (gA 118 F) := by rw [ha1]; exact gs_n hV (by omega)
  have f_a1 : gh_fr h a1 (fun k => k = m) := by rw [ha1]; exact gh_set (K := fun k => k = m) gh_rf rfl _
  refine ⟨a1, ?_, M_a1, f_a1⟩
  rw [ha1]
  refine gm_co_of _ (by decide +kernel) rfl (Nat.le_of_ble_eq_true rfl) rfl ?_
  refine gm_go.ru (gm_aload_n dX11_bakedCount_0 rfl (by first | exact Or.inl ⟨_, rfl⟩ | exact Or.inr ⟨_, rfl⟩)) ?_
  refine gm_go.ru (gi_const dX11_bakedCount_1) ?_
  refine gm_go.ru (gm_cV dX11_bakedCount_2 (ct_mTells hM hV (a := 5) (by decide)) rfl mt_X11_tells mv_X11_tells (lk_X11_123 rfl) (Or.inl ⟨_, 12, _, _, _, rfl, hM, rfl⟩) rfl (Nat.le_of_ble_eq_true rfl) (by decide)) ?_
  exact gm_iret dX11_bakedCount_5 rfl
set_option maxRecDepth 4000 in
theorem ct_m_strengthOfX {h : gm_H} {m : Nat} {K F : Nat → Int} (hM : h.1[m]? = some (md_c m K)) (hV : h.1[m + 1]? = some (gA 118 F)) {i : Int} (hv : nd_iv F) (hi : zR i) (hq : ¬ (0 ≤ i ∧ i < F 0)) : ∃ h', gm_co mX11_strengthOf 3 [.ref m, .int (zI i)] h (.inl (some (.int (zI (0))))) h' ∧ h'.1[m]? = some (md_c m (zU K 0 1)) ∧ gh_fr h h' (fun k => k = m) := by
  obtain ⟨a1, ha1⟩ : ∃ y : gm_H, y = (h.1.set m (md_c m (zU K 0 1)), h.2) := ⟨_, rfl⟩
  have M_a1 : a1.1[m]? = some (md_c m (zU K 0 1)) := by rw [ha1]; exact gs_s hM
  have V_a1 : a1.1[m + 1]? = some (gA 118 F) := by rw [ha1]; exact gs_n hV (by omega)
  have f_a1 : gh_fr h a1 (fun k => k = m) := by rw [ha1]; exact gh_set (K := fun k => k = m) gh_rf rfl _
  refine ⟨a1, ?_, M_a1, f_a1⟩
  refine gm_co_of _ (by decide +kernel) rfl (Nat.le_of_ble_eq_true rfl) rfl ?_
  refine gm_go.ru (gm_aload_n dX11_strengthOf_0 rfl (by first | exact Or.inl ⟨_, rfl⟩ | exact Or.inr ⟨_, rfl⟩)) ?_
  refine gm_go.ru (gm_aload_n dX11_strengthOf_1 rfl (by first | exact Or.inl ⟨_, rfl⟩ | exact Or.inr ⟨_, rfl⟩)) ?_
  refine gm_go.ru (gm_iload_n dX11_strengthOf_2 rfl) ?_
  refine gm_go.ru (gm_cV dX11_strengthOf_3 (ct_mIsN hM hV hv hi) rfl mt_X11_isNeedle mv_X11_isNeedle (lk_X11_87 rfl) (Or.inl ⟨_, 12, _, _, _, rfl, hM, rfl⟩) rfl (Nat.le_of_ble_eq_true rfl) (by decide)) ?_
  rw [zB_f hq]
  refine gm_go.ru (gi_if_eq_t (tgt := 13) dX11_strengthOf_6 (by decide) (by decide) rfl) ?_
  refine gm_go.ru (gi_const dX11_strengthOf_13) ?_
  refine gm_go.ru (gm_put dX11_strengthOf_14 (fp_X11_53 rfl) hM (Nat.le_of_ble_eq_true rfl) (by first | exact ⟨rfl, rfl⟩ | exact trivial)) ?_
  refine gm_hp ha1 ?_
  refine gm_go.ru (gm_aload_n dX11_strengthOf_17 rfl (by first | exact Or.inl ⟨_, rfl⟩ | exact Or.inr ⟨_, rfl⟩)) ?_
  refine gm_go.ru (gm_get dX11_strengthOf_18 (fl_X11_53 rfl) M_a1 rfl) ?_
  refine gm_go.ru (gi_if_ne_t (tgt := 37) dX11_strengthOf_21 (by decide) (by rw [zU_s]; decide) (by rw [zU_s]; decide)) ?_
  refine gm_go.ru (gi_const dX11_strengthOf_37) ?_
  exact gm_iret dX11_strengthOf_38 rfl
set_option maxRecDepth 4000 in
theorem ct_m_strengthOf {h : gm_H} {m : Nat} {K F : Nat → Int} (hM : h.1[m]? = some (md_c m K)) (hV : h.1[m + 1]? = some (gA 118 F)) {i : Int} (hv : nd_iv F) (hi : zR i) (hq : 0 ≤ i ∧ i < F 0) : ∃ h', gm_co mX11_strengthOf 3 [.ref m, .int (zI i)] h (.inl (some (.int (zI (F (10 + 10 * i.toNat)))))) h' ∧ h'.1[m]? = some (md_c m (zU K 0 0)) ∧ gh_fr h h' (fun k => k = m) := by
  obtain ⟨i, rfl⟩ : ∃ k : Nat, i = (k : Int) := ⟨i.toNat, by omega⟩
  have h8 : i < 8 := by have := hv.1; omega
  simp only [Int.toNat_natCast] at *
  obtain ⟨a1, ha1⟩ : ∃ y : gm_H, y = (h.1.set m (md_c m (zU K 0 0)), h.2) := ⟨_, rfl⟩
  have M_a1 : a1.1[m]? = some (md_c m (zU K 0 0)) := by rw [ha1]; exact gs_s hM
  have V_a1 : a1.1[m + 1]? = some (gA 118 F) := by rw [ha1]; exact gs_n hV (by omega)
  have f_a1 : gh_fr h a1 (fun k => k = m) := by rw [ha1]; exact gh_set (K := fun k => k = m) gh_rf rfl _
  refine ⟨a1, ?_, M_a1, f_a1⟩
  refine gm_co_of _ (by decide +kernel) rfl (Nat.le_of_ble_eq_true rfl) rfl ?_
  refine gm_go.ru (gm_aload_n dX11_strengthOf_0 rfl (by first | exact Or.inl ⟨_, rfl⟩ | exact Or.inr ⟨_, rfl⟩)) ?_
  refine gm_go.ru (gm_aload_n dX11_strengthOf_1 rfl (by first | exact Or.inl ⟨_, rfl⟩ | exact Or.inr ⟨_, rfl⟩)) ?_
  refine gm_go.ru (gm_iload_n dX11_strengthOf_2 rfl) ?_
  refine gm_go.ru (gm_cV dX11_strengthOf_3 (ct_mIsN hM hV hv hi) rfl mt_X11_isNeedle mv_X11_isNeedle (lk_X11_87 rfl) (Or.inl ⟨_, 12, _, _, _, rfl, hM, rfl⟩) rfl (Nat.le_of_ble_eq_true rfl) (by decide)) ?_
  rw [zB_t hq]
  refine gm_go.ru (gi_if_eq_f 13 dX11_strengthOf_6 (by decide) (by decide) (by decide)) ?_
  refine gm_go.ru (gi_const dX11_strengthOf_9) ?_
  refine gm_go.ru (gm_goto (tgt := 14) dX11_strengthOf_10 (by decide)) ?_
  refine gm_go.ru (gm_put dX11_strengthOf_14 (fp_X11_53 rfl) hM (Nat.le_of_ble_eq_true rfl) (by first | exact ⟨rfl, rfl⟩ | exact trivial)) ?_
  refine gm_hp ha1 ?_
  refine gm_go.ru (gm_aload_n dX11_strengthOf_17 rfl (by first | exact Or.inl ⟨_, rfl⟩ | exact Or.inr ⟨_, rfl⟩)) ?_
  refine gm_go.ru (gm_get dX11_strengthOf_18 (fl_X11_53 rfl) M_a1 rfl) ?_
  refine gm_go.ru (gi_if_ne_f 37 dX11_strengthOf_21 (by decide) (by rw [zU_s]; decide) zU_s) ?_
  refine gm_go.ru (gm_aload_n dX11_strengthOf_24 rfl (by first | exact Or.inl ⟨_, rfl⟩ | exact Or.inr ⟨_, rfl⟩)) ?_
  refine gm_go.ru (gm_get dX11_strengthOf_25 (fl_X11_16 rfl) M_a1 rfl) ?_
  refine gm_go.ru (gm_iload_n dX11_strengthOf_28 rfl) ?_
  refine gm_go.ru (gi_const dX11_strengthOf_29) ?_
  refine gm_go.ru (gm_cS dX11_strengthOf_30 (ct_mOf (i := i) (w := 0)) rfl mt_X11_of ms_X11_of (lk_X11_67 rfl) rfl (Nat.le_of_ble_eq_true rfl) (by decide)) ?_
  rw [show 10 + 10 * i + 0 = 10 + 10 * i by omega]
  refine gm_go.ru (gi_aldN dX11_strengthOf_33 V_a1 (by omega) (by decide)) ?_
  refine gm_go.ru (gm_goto (tgt := 38) dX11_strengthOf_34 (by decide)) ?_
  exact gm_iret dX11_strengthOf_38 rfl
set_option maxRecDepth 4000 in
theorem ct_m_isDiscardedX {h : gm_H} {m : Nat} {K F : Nat → Int} (hM : h.1[m]? = some (md_c m K)) (hV : h.1[m + 1]? = some (gA 118 F)) {i : Int} (hv : nd_iv F) (hi : zR i) (hq : ¬ (0 ≤ i ∧ i < F 0)) : ∃ h', gm_co mX11_isDiscarded 3 [.ref m, .int (zI i)] h (.inl (some (.int (zI (zB false))))) h' ∧ h'.1[m]? = some (md_c m (zU K 0 1)) ∧ gh_fr h h' (fun k => k = m) := by
  obtain ⟨a1, ha1⟩ : ∃ y : gm_H, y = (h.1.set m (md_c m (zU K 0 1)), h.2) := ⟨_, rfl⟩
  have M_a1 : a1.1[m]? = some (md_c m (zU K 0 1)) := by rw [ha1]; exact gs_s hM
  have V_a1 : a1.1[m + 1]? = some (gA 118 F) := by rw [ha1]; exact gs_n hV (by omega)
  have f_a1 : gh_fr h a1 (fun k => k = m) := by rw [ha1]; exact gh_set (K := fun k => k = m) gh_rf rfl _
  refine ⟨a1, ?_, M_a1, f_a1⟩
  refine gm_co_of _ (by decide +kernel) rfl (Nat.le_of_ble_eq_true rfl) rfl ?_
  refine gm_go.ru (gm_aload_n dX11_isDiscarded_0 rfl (by first | exact Or.inl ⟨_, rfl⟩ | exact Or.inr ⟨_, rfl⟩)) ?_
  refine gm_go.ru (gm_aload_n dX11_isDiscarded_1 rfl (by first | exact Or.inl ⟨_, rfl⟩ | exact Or.inr ⟨_, rfl⟩)) ?_
  refine gm_go.ru (gm_iload_n dX11_isDiscarded_2 rfl) ?_
  refine gm_go.ru (gm_cV dX11_isDiscarded_3 (ct_mIsN hM hV hv hi) rfl mt_X11_isNeedle mv_X11_isNeedle (lk_X11_87 rfl) (Or.inl ⟨_, 12, _, _, _, rfl, hM, rfl⟩) rfl (Nat.le_of_ble_eq_true rfl) (by decide)) ?_
  rw [zB_f hq]
  refine gm_go.ru (gi_if_eq_t (tgt := 13) dX11_isDiscarded_6 (by decide) (by decide) rfl) ?_
  refine gm_go.ru (gi_const dX11_isDiscarded_13) ?_
  refine gm_go.ru (gm_put dX11_isDiscarded_14 (fp_X11_53 rfl) hM (Nat.le_of_ble_eq_true rfl) (by first | exact ⟨rfl, rfl⟩ | exact trivial)) ?_
  refine gm_hp ha1 ?_
  refine gm_go.ru (gm_aload_n dX11_isDiscarded_17 rfl (by first | exact Or.inl ⟨_, rfl⟩ | exact Or.inr ⟨_, rfl⟩)) ?_
  refine gm_go.ru (gm_get dX11_isDiscarded_18 (fl_X11_53 rfl) M_a1 rfl) ?_
  refine gm_go.ru (gi_if_ne_t (tgt := 42) dX11_isDiscarded_21 (by decide) (by rw [zU_s]; decide) (by rw [zU_s]; decide)) ?_
  refine gm_go.ru (gi_const dX11_isDiscarded_42) ?_
  exact gm_zret' (b := false) dX11_isDiscarded_43 rfl rfl
set_option maxRecDepth 4000 in
theorem ct_m_isDiscarded {h : gm_H} {m : Nat} {K F : Nat → Int} (hM : h.1[m]? = some (md_c m K)) (hV : h.1[m + 1]? = some (gA 118 F)) {i : Int} (hv : nd_iv F) (hi : zR i) (hq : 0 ≤ i ∧ i < F 0) : ∃ h', gm_co mX11_isDiscarded 3 [.ref m, .int (zI i)] h (.inl (some (.int (zI (zB (decide (F (11 + 10 * i.toNat) = 1))))))) h' ∧ h'.1[m]? = some (md_c m (zU K 0 0)) ∧ gh_fr h h' (fun k => k = m) := by
  obtain ⟨i, rfl⟩ : ∃ k : Nat, i = (k : Int) := ⟨i.toNat, by omega⟩
  have h8 : i < 8 := by have := hv.1; omega
  simp only [Int.toNat_natCast] at *
  obtain ⟨a1, ha1⟩ : ∃ y : gm_H, y = (h.1.set m (md_c m (zU K 0 0)), h.2) := ⟨_, rfl⟩
  have M_a1 : a1.1[m]? = some (md_c m (zU K 0 0)) := by rw [ha1]; exact gs_s hM
  have V_a1 : a1.1[m + 1]? = some (gA 118 F) := by rw [ha1]; exact gs_n hV (by omega)
  have f_a1 : gh_fr h a1 (fun k => k = m) := by rw [ha1]; exact gh_set (K := fun k => k = m) gh_rf rfl _
  refine ⟨a1, ?_, M_a1, f_a1⟩
  refine gm_co_of _ (by decide +kernel) rfl (Nat.le_of_ble_eq_true rfl) rfl ?_
  refine gm_go.ru (gm_aload_n dX11_isDiscarded_0 rfl (by first | exact Or.inl ⟨_, rfl⟩ | exact Or.inr ⟨_, rfl⟩)) ?_
  refine gm_go.ru (gm_aload_n dX11_isDiscarded_1 rfl (by first | exact Or.inl ⟨_, rfl⟩ | exact Or.inr ⟨_, rfl⟩)) ?_
  refine gm_go.ru (gm_iload_n dX11_isDiscarded_2 rfl) ?_
  refine gm_go.ru (gm_cV dX11_isDiscarded_3 (ct_mIsN hM hV hv hi) rfl mt_X11_isNeedle mv_X11_isNeedle (lk_X11_87 rfl) (Or.inl ⟨_, 12, _, _, _, rfl, hM, rfl⟩) rfl (Nat.le_of_ble_eq_true rfl) (by decide)) ?_
  rw [zB_t hq]
  refine gm_go.ru (gi_if_eq_f 13 dX11_isDiscarded_6 (by decide) (by decide) (by decide)) ?_
  refine gm_go.ru (gi_const dX11_isDiscarded_9) ?_
  refine gm_go.ru (gm_goto (tgt := 14) dX11_isDiscarded_10 (by decide)) ?_
  refine gm_go.ru (gm_put dX11_isDiscarded_14 (fp_X11_53 rfl) hM (Nat.le_of_ble_eq_true rfl) (by first | exact ⟨rfl, rfl⟩ | exact trivial)) ?_
  refine gm_hp ha1 ?_
  refine gm_go.ru (gm_aload_n dX11_isDiscarded_17 rfl (by first | exact Or.inl ⟨_, rfl⟩ | exact Or.inr ⟨_, rfl⟩)) ?_
  refine gm_go.ru (gm_get dX11_isDiscarded_18 (fl_X11_53 rfl) M_a1 rfl) ?_
  refine gm_go.ru (gi_if_ne_f 42 dX11_isDiscarded_21 (by decide) (by rw [zU_s]; decide) zU_s) ?_
  have hg := hv.2.2.2.1 i h8
  refine gm_go.ru (gm_aload_n dX11_isDiscarded_24 rfl (by first | exact Or.inl ⟨_, rfl⟩ | exact Or.inr ⟨_, rfl⟩)) ?_
  refine gm_go.ru (gm_get dX11_isDiscarded_25 (fl_X11_16 rfl) M_a1 rfl) ?_
  refine gm_go.ru (gm_iload_n dX11_isDiscarded_28 rfl) ?_
  refine gm_go.ru (gi_const dX11_isDiscarded_29) ?_
  refine gm_go.ru (gm_cS dX11_isDiscarded_30 (ct_mOf (i := i) (w := 1)) rfl mt_X11_of ms_X11_of (lk_X11_67 rfl) rfl (Nat.le_of_ble_eq_true rfl) (by decide)) ?_
  rw [show 10 + 10 * i + 1 = 11 + 10 * i by omega]
  refine gm_go.ru (gi_aldN dX11_isDiscarded_33 V_a1 (by omega) (by decide)) ?_
  by_cases c1 : F (11 + 10 * i) = 1
  ·
    rw [zB_t c1]
    refine gm_go.ru (gi_const dX11_isDiscarded_34) ?_
    refine gm_go.ru (gi_icmp_ne_f 42 dX11_isDiscarded_35 (by decide) (by omega) (by omega) c1) ?_
    refine gm_go.ru (gi_const dX11_isDiscarded_38) ?_
    refine gm_go.ru (gm_goto (tgt := 43) dX11_isDiscarded_39 (by decide)) ?_
    exact gm_zret' (b := true) dX11_isDiscarded_43 rfl rfl
  ·
    rw [zB_f c1]
    refine gm_go.ru (gi_const dX11_isDiscarded_34) ?_
    refine gm_go.ru (gi_icmp_ne_t (tgt := 42) dX11_isDiscarded_35 (by decide) (by omega) (by omega) c1) ?_
    refine gm_go.ru (gi_const dX11_isDiscarded_42) ?_
    exact gm_zret' (b := false) dX11_isDiscarded_43 rfl rfl
set_option maxRecDepth 4000 in
theorem ct_m_isRejectX {h : gm_H} {m : Nat} {K F : Nat → Int} (hM : h.1[m]? = some (md_c m K)) (hV : h.1[m + 1]? = some (gA 118 F)) {i : Int} (hv : nd_iv F) (hi : zR i) (hq : ¬ (0 ≤ i ∧ i < F 0)) : ∃ h', gm_co mX11_isReject 4 [.ref m, .int (zI i)] h (.inl (some (.int (zI (zB false))))) h' ∧ h'.1[m]? = some (md_c m (zU K 0 1)) ∧ gh_fr h h' (fun k => k = m) := by
  obtain ⟨a1, ha1⟩ : ∃ y : gm_H, y = (h.1.set m (md_c m (zU K 0 1)), h.2) := ⟨_, rfl⟩
  have M_a1 : a1.1[m]? = some (md_c m (zU K 0 1)) := by rw [ha1]; exact gs_s hM
  have V_a1 : a1.1[m + 1]? = some (gA 118 F) := by rw [ha1]; exact gs_n hV (by omega)
  have f_a1 : gh_fr h a1 (fun k => k = m) := by rw [ha1]; exact gh_set (K := fun k => k = m) gh_rf rfl _
  refine ⟨a1, ?_, M_a1, f_a1⟩
  refine gm_co_of _ (by decide +kernel) rfl (Nat.le_of_ble_eq_true rfl) rfl ?_
  refine gm_go.ru (gm_aload_n dX11_isReject_0 rfl (by first | exact Or.inl ⟨_, rfl⟩ | exact Or.inr ⟨_, rfl⟩)) ?_
  refine gm_go.ru (gm_aload_n dX11_isReject_1 rfl (by first | exact Or.inl ⟨_, rfl⟩ | exact Or.inr ⟨_, rfl⟩)) ?_
  refine gm_go.ru (gm_iload_n dX11_isReject_2 rfl) ?_
  refine gm_go.ru (gm_cV dX11_isReject_3 (ct_mIsN hM hV hv hi) rfl mt_X11_isNeedle mv_X11_isNeedle (lk_X11_87 rfl) (Or.inl ⟨_, 12, _, _, _, rfl, hM, rfl⟩) rfl (Nat.le_of_ble_eq_true rfl) (by decide)) ?_
  rw [zB_f hq]
  refine gm_go.ru (gi_if_eq_t (tgt := 13) dX11_isReject_6 (by decide) (by decide) rfl) ?_
  refine gm_go.ru (gi_const dX11_isReject_13) ?_
  refine gm_go.ru (gm_put dX11_isReject_14 (fp_X11_53 rfl) hM (Nat.le_of_ble_eq_true rfl) (by first | exact ⟨rfl, rfl⟩ | exact trivial)) ?_
  refine gm_hp ha1 ?_
  refine gm_go.ru (gm_aload_n dX11_isReject_17 rfl (by first | exact Or.inl ⟨_, rfl⟩ | exact Or.inr ⟨_, rfl⟩)) ?_
  refine gm_go.ru (gm_get dX11_isReject_18 (fl_X11_53 rfl) M_a1 rfl) ?_
  refine gm_go.ru (gi_if_ne_t (tgt := 36) dX11_isReject_21 (by decide) (by rw [zU_s]; decide) (by rw [zU_s]; decide)) ?_
  refine gm_go.ru (gi_const dX11_isReject_36) ?_
  exact gm_zret' (b := false) dX11_isReject_37 rfl rfl
set_option maxRecDepth 4000 in
theorem ct_m_isReject {h : gm_H} {m : Nat} {K F : Nat → Int} (hM : h.1[m]? = some (md_c m K)) (hV : h.1[m + 1]? = some (gA 118 F)) {i : Int} (hv : nd_iv F) (hi : zR i) (hq : 0 ≤ i ∧ i < F 0) : ∃ h', gm_co mX11_isReject 4 [.ref m, .int (zI i)] h (.inl (some (.int (zI (zB (zW F i.toNat)))))) h' ∧ h'.1[m]? = some (md_c m (zU K 0 0)) ∧ gh_fr h h' (fun k => k = m) := by
  obtain ⟨i, rfl⟩ : ∃ k : Nat, i = (k : Int) := ⟨i.toNat, by omega⟩
  have h8 : i < 8 := by have := hv.1; omega
  simp only [Int.toNat_natCast] at *
  obtain ⟨a1, ha1⟩ : ∃ y : gm_H, y = (h.1.set m (md_c m (zU K 0 0)), h.2) := ⟨_, rfl⟩
  have M_a1 : a1.1[m]? = some (md_c m (zU K 0 0)) := by rw [ha1]; exact gs_s hM
  have V_a1 : a1.1[m + 1]? = some (gA 118 F) := by rw [ha1]; exact gs_n hV (by omega)
  have f_a1 : gh_fr h a1 (fun k => k = m) := by rw [ha1]; exact gh_set (K := fun k => k = m) gh_rf rfl _
  refine ⟨a1, ?_, M_a1, f_a1⟩
  refine gm_co_of _ (by decide +kernel) rfl (Nat.le_of_ble_eq_true rfl) rfl ?_
  refine gm_go.ru (gm_aload_n dX11_isReject_0 rfl (by first | exact Or.inl ⟨_, rfl⟩ | exact Or.inr ⟨_, rfl⟩)) ?_
  refine gm_go.ru (gm_aload_n dX11_isReject_1 rfl (by first | exact Or.inl ⟨_, rfl⟩ | exact Or.inr ⟨_, rfl⟩)) ?_
  refine gm_go.ru (gm_iload_n dX11_isReject_2 rfl) ?_
  refine gm_go.ru (gm_cV dX11_isReject_3 (ct_mIsN hM hV hv hi) rfl mt_X11_isNeedle mv_X11_isNeedle (lk_X11_87 rfl) (Or.inl ⟨_, 12, _, _, _, rfl, hM, rfl⟩) rfl (Nat.le_of_ble_eq_true rfl) (by decide)) ?_
  rw [zB_t hq]
  refine gm_go.ru (gi_if_eq_f 13 dX11_isReject_6 (by decide) (by decide) (by decide)) ?_
  refine gm_go.ru (gi_const dX11_isReject_9) ?_
  refine gm_go.ru (gm_goto (tgt := 14) dX11_isReject_10 (by decide)) ?_
  refine gm_go.ru (gm_put dX11_isReject_14 (fp_X11_53 rfl) hM (Nat.le_of_ble_eq_true rfl) (by first | exact ⟨rfl, rfl⟩ | exact trivial)) ?_
  refine gm_hp ha1 ?_
  refine gm_go.ru (gm_aload_n dX11_isReject_17 rfl (by first | exact Or.inl ⟨_, rfl⟩ | exact Or.inr ⟨_, rfl⟩)) ?_
  refine gm_go.ru (gm_get dX11_isReject_18 (fl_X11_53 rfl) M_a1 rfl) ?_
  refine gm_go.ru (gi_if_ne_f 36 dX11_isReject_21 (by decide) (by rw [zU_s]; decide) zU_s) ?_
  refine gm_go.ru (gm_aload_n dX11_isReject_24 rfl (by first | exact Or.inl ⟨_, rfl⟩ | exact Or.inr ⟨_, rfl⟩)) ?_
  refine gm_go.ru (gm_iload_n dX11_isReject_25 rfl) ?_
  refine gm_go.ru (gm_cV dX11_isReject_26 (ct_mIsBad M_a1 V_a1 hv h8) rfl mt_X11_isBad mv_X11_isBad (lk_X11_117 rfl) (Or.inl ⟨_, 12, _, _, _, rfl, M_a1, rfl⟩) rfl (Nat.le_of_ble_eq_true rfl) (by decide)) ?_
  cases hb : zW F i
  ·
    refine gm_go.ru (gi_if_eq_t (tgt := 36) dX11_isReject_29 (by decide) (by decide) rfl) ?_
    refine gm_go.ru (gi_const dX11_isReject_36) ?_
    exact gm_zret' (b := false) dX11_isReject_37 rfl rfl
  ·
    refine gm_go.ru (gi_if_eq_f 36 dX11_isReject_29 (by decide) (by decide) (by decide)) ?_
    refine gm_go.ru (gi_const dX11_isReject_32) ?_
    refine gm_go.ru (gm_goto (tgt := 37) dX11_isReject_33 (by decide)) ?_
    exact gm_zret' (b := true) dX11_isReject_37 rfl rfl
set_option maxRecDepth 4000 in
theorem ct_m_errorOfX {h : gm_H} {m : Nat} {K F : Nat → Int} (hM : h.1[m]? = some (md_c m K)) (hV : h.1[m + 1]? = some (gA 118 F)) {i : Int} (hv : nd_iv F) (hi : zR i) (hq : ¬ (0 ≤ i ∧ i < F 0)) : ∃ h', gm_co mX11_errorOf 4 [.ref m, .int (zI i)] h (.inl (some (.int (zI (0))))) h' ∧ h'.1[m]? = some (md_c m (zU K 0 1)) ∧ gh_fr h h' (fun k => k = m) := by
  obtain ⟨a1, ha1⟩ : ∃ y : gm_H, y = (h.1.set m (md_c m (zU K 0 1)), h.2) := ⟨_, rfl⟩
  have M_a1 : a1.1[m]? = some (md_c m (zU K 0 1)) := by rw [ha1]; exact gs_s hM
  have V_a1 : a1.1[m + 1]? = some (gA 118 F) := by rw [ha1]; exact gs_n hV (by omega)
  have f_a1 : gh_fr h a1 (fun k => k = m) := by rw [ha1]; exact gh_set (K := fun k => k = m) gh_rf rfl _
  refine ⟨a1, ?_, M_a1, f_a1⟩
  refine gm_co_of _ (by decide +kernel) rfl (Nat.le_of_ble_eq_true rfl) rfl ?_
  refine gm_go.ru (gm_aload_n dX11_errorOf_0 rfl (by first | exact Or.inl ⟨_, rfl⟩ | exact Or.inr ⟨_, rfl⟩)) ?_
  refine gm_go.ru (gm_aload_n dX11_errorOf_1 rfl (by first | exact Or.inl ⟨_, rfl⟩ | exact Or.inr ⟨_, rfl⟩)) ?_
  refine gm_go.ru (gm_iload_n dX11_errorOf_2 rfl) ?_
  refine gm_go.ru (gm_cV dX11_errorOf_3 (ct_mIsN hM hV hv hi) rfl mt_X11_isNeedle mv_X11_isNeedle (lk_X11_87 rfl) (Or.inl ⟨_, 12, _, _, _, rfl, hM, rfl⟩) rfl (Nat.le_of_ble_eq_true rfl) (by decide)) ?_
  rw [zB_f hq]
  refine gm_go.ru (gi_if_eq_t (tgt := 13) dX11_errorOf_6 (by decide) (by decide) rfl) ?_
  refine gm_go.ru (gi_const dX11_errorOf_13) ?_
  refine gm_go.ru (gm_put dX11_errorOf_14 (fp_X11_53 rfl) hM (Nat.le_of_ble_eq_true rfl) (by first | exact ⟨rfl, rfl⟩ | exact trivial)) ?_
  refine gm_hp ha1 ?_
  refine gm_go.ru (gm_aload_n dX11_errorOf_17 rfl (by first | exact Or.inl ⟨_, rfl⟩ | exact Or.inr ⟨_, rfl⟩)) ?_
  refine gm_go.ru (gm_get dX11_errorOf_18 (fl_X11_53 rfl) M_a1 rfl) ?_
  refine gm_go.ru (gi_if_ne_t (tgt := 33) dX11_errorOf_21 (by decide) (by rw [zU_s]; decide) (by rw [zU_s]; decide)) ?_
  refine gm_go.ru (gi_const dX11_errorOf_33) ?_
  exact gm_iret dX11_errorOf_34 rfl
set_option maxRecDepth 4000 in
theorem ct_m_errorOf {h : gm_H} {m : Nat} {K F : Nat → Int} (hM : h.1[m]? = some (md_c m K)) (hV : h.1[m + 1]? = some (gA 118 F)) {i : Int} (hv : nd_iv F) (hi : zR i) (hq : 0 ≤ i ∧ i < F 0) : ∃ h', gm_co mX11_errorOf 4 [.ref m, .int (zI i)] h (.inl (some (.int (zI (zE F i.toNat 0))))) h' ∧ h'.1[m]? = some (md_c m (zU K 0 0)) ∧ gh_fr h h' (fun k => k = m) := by
  obtain ⟨i, rfl⟩ : ∃ k : Nat, i = (k : Int) := ⟨i.toNat, by omega⟩
  have h8 : i < 8 := by have := hv.1; omega
  simp only [Int.toNat_natCast] at *
  obtain ⟨a1, ha1⟩ : ∃ y : gm_H, y = (h.1.set m (md_c m (zU K 0 0)), h.2) := ⟨_, rfl⟩
  have M_a1 : a1.1[m]? = some (md_c m (zU K 0 0)) := by rw [ha1]; exact gs_s hM
  have V_a1 : a1.1[m + 1]? = some (gA 118 F) := by rw [ha1]; exact gs_n hV (by omega)
  have f_a1 : gh_fr h a1 (fun k => k = m) := by rw [ha1]; exact gh_set (K := fun k => k = m) gh_rf rfl _
  refine ⟨a1, ?_, M_a1, f_a1⟩
  refine gm_co_of _ (by decide +kernel) rfl (Nat.le_of_ble_eq_true rfl) rfl ?_
  refine gm_go.ru (gm_aload_n dX11_errorOf_0 rfl (by first | exact Or.inl ⟨_, rfl⟩ | exact Or.inr ⟨_, rfl⟩)) ?_
  refine gm_go.ru (gm_aload_n dX11_errorOf_1 rfl (by first | exact Or.inl ⟨_, rfl⟩ | exact Or.inr ⟨_, rfl⟩)) ?_
  refine gm_go.ru (gm_iload_n dX11_errorOf_2 rfl) ?_
  refine gm_go.ru (gm_cV dX11_errorOf_3 (ct_mIsN hM hV hv hi) rfl mt_X11_isNeedle mv_X11_isNeedle (lk_X11_87 rfl) (Or.inl ⟨_, 12, _, _, _, rfl, hM, rfl⟩) rfl (Nat.le_of_ble_eq_true rfl) (by decide)) ?_
  rw [zB_t hq]
  refine gm_go.ru (gi_if_eq_f 13 dX11_errorOf_6 (by decide) (by decide) (by decide)) ?_
  refine gm_go.ru (gi_const dX11_errorOf_9) ?_
  refine gm_go.ru (gm_goto (tgt := 14) dX11_errorOf_10 (by decide)) ?_
  refine gm_go.ru (gm_put dX11_errorOf_14 (fp_X11_53 rfl) hM (Nat.le_of_ble_eq_true rfl) (by first | exact ⟨rfl, rfl⟩ | exact trivial)) ?_
  refine gm_hp ha1 ?_
  refine gm_go.ru (gm_aload_n dX11_errorOf_17 rfl (by first | exact Or.inl ⟨_, rfl⟩ | exact Or.inr ⟨_, rfl⟩)) ?_
  refine gm_go.ru (gm_get dX11_errorOf_18 (fl_X11_53 rfl) M_a1 rfl) ?_
  refine gm_go.ru (gi_if_ne_f 33 dX11_errorOf_21 (by decide) (by rw [zU_s]; decide) zU_s) ?_
  refine gm_go.ru (gm_aload_n dX11_errorOf_24 rfl (by first | exact Or.inl ⟨_, rfl⟩ | exact Or.inr ⟨_, rfl⟩)) ?_
  refine gm_go.ru (gm_iload_n dX11_errorOf_25 rfl) ?_
  refine gm_go.ru (gi_const dX11_errorOf_26) ?_
  refine gm_go.ru (gm_cV dX11_errorOf_27 (ct_mError M_a1 V_a1 h8) rfl mt_X11_error mv_X11_error (lk_X11_102 rfl) (Or.inl ⟨_, 12, _, _, _, rfl, M_a1, rfl⟩) rfl (Nat.le_of_ble_eq_true rfl) (by decide)) ?_
  refine gm_go.ru (gm_goto (tgt := 34) dX11_errorOf_30 (by decide)) ?_
  exact gm_iret dX11_errorOf_34 rfl
set_option maxRecDepth 4000 in
theorem ct_m_bestShiftX {h : gm_H} {m : Nat} {K F : Nat → Int} (hM : h.1[m]? = some (md_c m K)) (hV : h.1[m + 1]? = some (gA 118 F)) {i : Int} (hv : nd_iv F) (hi : zR i) (hq : ¬ (0 ≤ i ∧ i < F 0)) : ∃ h', gm_co mX11_bestShift 5 [.ref m, .int (zI i)] h (.inl (some (.int (zI (0))))) h' ∧ h'.1[m]? = some (md_c m (zU K 0 1)) ∧ gh_fr h h' (fun k => k = m) := by
  obtain ⟨a1, ha1⟩ : ∃ y : gm_H, y = (h.1.set m (md_c m (zU K 0 1)), h.2) := ⟨_, rfl⟩
  have M_a1 : a1.1[m]? = some (md_c m (zU K 0 1)) := by rw [ha1]; exact gs_s hM
  have V_a1 : a1.1[m + 1]? = some (gA 118 F) := by rw [ha1]; exact gs_n hV (by omega)
  have f_a1 : gh_fr h a1 (fun k => k = m) := by rw [ha1]; exact gh_set (K := fun k => k = m) gh_rf rfl _
  refine ⟨a1, ?_, M_a1, f_a1⟩
  refine gm_co_of _ (by decide +kernel) rfl (Nat.le_of_ble_eq_true rfl) rfl ?_
  refine gm_go.ru (gm_aload_n dX11_bestShift_0 rfl (by first | exact Or.inl ⟨_, rfl⟩ | exact Or.inr ⟨_, rfl⟩)) ?_
  refine gm_go.ru (gm_aload_n dX11_bestShift_1 rfl (by first | exact Or.inl ⟨_, rfl⟩ | exact Or.inr ⟨_, rfl⟩)) ?_
  refine gm_go.ru (gm_iload_n dX11_bestShift_2 rfl) ?_
  refine gm_go.ru (gm_cV dX11_bestShift_3 (ct_mIsN hM hV hv hi) rfl mt_X11_isNeedle mv_X11_isNeedle (lk_X11_87 rfl) (Or.inl ⟨_, 12, _, _, _, rfl, hM, rfl⟩) rfl (Nat.le_of_ble_eq_true rfl) (by decide)) ?_
  rw [zB_f hq]
  refine gm_go.ru (gi_if_eq_t (tgt := 13) dX11_bestShift_6 (by decide) (by decide) rfl) ?_
  refine gm_go.ru (gi_const dX11_bestShift_13) ?_
  refine gm_go.ru (gm_put dX11_bestShift_14 (fp_X11_53 rfl) hM (Nat.le_of_ble_eq_true rfl) (by first | exact ⟨rfl, rfl⟩ | exact trivial)) ?_
  refine gm_hp ha1 ?_
  refine gm_go.ru (gm_aload_n dX11_bestShift_17 rfl (by first | exact Or.inl ⟨_, rfl⟩ | exact Or.inr ⟨_, rfl⟩)) ?_
  refine gm_go.ru (gm_get dX11_bestShift_18 (fl_X11_53 rfl) M_a1 rfl) ?_
  refine gm_go.ru (gi_if_ne_t (tgt := 32) dX11_bestShift_21 (by decide) (by rw [zU_s]; decide) (by rw [zU_s]; decide)) ?_
  refine gm_go.ru (gi_const dX11_bestShift_32) ?_
  exact gm_iret dX11_bestShift_33 rfl
set_option maxRecDepth 4000 in
theorem ct_m_bestShift {h : gm_H} {m : Nat} {K F : Nat → Int} (hM : h.1[m]? = some (md_c m K)) (hV : h.1[m + 1]? = some (gA 118 F)) {i : Int} (hv : nd_iv F) (hi : zR i) (hq : 0 ≤ i ∧ i < F 0) : ∃ h', gm_co mX11_bestShift 5 [.ref m, .int (zI i)] h (.inl (some (.int (zI (zSS F i.toNat))))) h' ∧ h'.1[m]? = some (md_c m (zU K 0 0)) ∧ gh_fr h h' (fun k => k = m) := by
  obtain ⟨i, rfl⟩ : ∃ k : Nat, i = (k : Int) := ⟨i.toNat, by omega⟩
  have h8 : i < 8 := by have := hv.1; omega
  simp only [Int.toNat_natCast] at *
  obtain ⟨a1, ha1⟩ : ∃ y : gm_H, y = (h.1.set m (md_c m (zU K 0 0)), h.2) := ⟨_, rfl⟩
  have M_a1 : a1.1[m]? = some (md_c m (zU K 0 0)) := by rw [ha1]; exact gs_s hM
  have V_a1 : a1.1[m + 1]? = some (gA 118 F) := by rw [ha1]; exact gs_n hV (by omega)
  have f_a1 : gh_fr h a1 (fun k => k = m) := by rw [ha1]; exact gh_set (K := fun k => k = m) gh_rf rfl _
  refine ⟨a1, ?_, M_a1, f_a1⟩
  refine gm_co_of _ (by decide +kernel) rfl (Nat.le_of_ble_eq_true rfl) rfl ?_
  refine gm_go.ru (gm_aload_n dX11_bestShift_0 rfl (by first | exact Or.inl ⟨_, rfl⟩ | exact Or.inr ⟨_, rfl⟩)) ?_
  refine gm_go.ru (gm_aload_n dX11_bestShift_1 rfl (by first | exact Or.inl ⟨_, rfl⟩ | exact Or.inr ⟨_, rfl⟩)) ?_
  refine gm_go.ru (gm_iload_n dX11_bestShift_2 rfl) ?_
  refine gm_go.ru (gm_cV dX11_bestShift_3 (ct_mIsN hM hV hv hi) rfl mt_X11_isNeedle mv_X11_isNeedle (lk_X11_87 rfl) (Or.inl ⟨_, 12, _, _, _, rfl, hM, rfl⟩) rfl (Nat.le_of_ble_eq_true rfl) (by decide)) ?_
  rw [zB_t hq]
  refine gm_go.ru (gi_if_eq_f 13 dX11_bestShift_6 (by decide) (by decide) (by decide)) ?_
  refine gm_go.ru (gi_const dX11_bestShift_9) ?_
  refine gm_go.ru (gm_goto (tgt := 14) dX11_bestShift_10 (by decide)) ?_
  refine gm_go.ru (gm_put dX11_bestShift_14 (fp_X11_53 rfl) hM (Nat.le_of_ble_eq_true rfl) (by first | exact ⟨rfl, rfl⟩ | exact trivial)) ?_
  refine gm_hp ha1 ?_
  refine gm_go.ru (gm_aload_n dX11_bestShift_17 rfl (by first | exact Or.inl ⟨_, rfl⟩ | exact Or.inr ⟨_, rfl⟩)) ?_
  refine gm_go.ru (gm_get dX11_bestShift_18 (fl_X11_53 rfl) M_a1 rfl) ?_
  refine gm_go.ru (gi_if_ne_f 32 dX11_bestShift_21 (by decide) (by rw [zU_s]; decide) zU_s) ?_
  refine gm_go.ru (gm_aload_n dX11_bestShift_24 rfl (by first | exact Or.inl ⟨_, rfl⟩ | exact Or.inr ⟨_, rfl⟩)) ?_
  refine gm_go.ru (gm_iload_n dX11_bestShift_25 rfl) ?_
  refine gm_go.ru (gm_cV dX11_bestShift_26 (ct_mBest M_a1 V_a1 hv h8) rfl mt_X11_bestFor mv_X11_bestFor (lk_X11_108 rfl) (Or.inl ⟨_, 12, _, _, _, rfl, M_a1, rfl⟩) rfl (Nat.le_of_ble_eq_true rfl) (by decide)) ?_
  refine gm_go.ru (gm_goto (tgt := 33) dX11_bestShift_29 (by decide)) ?_
  exact gm_iret dX11_bestShift_33 rfl
set_option maxRecDepth 4000 in
theorem ct_m_bestShiftBySum {h : gm_H} {m : Nat} {K F : Nat → Int} (hM : h.1[m]? = some (md_c m K)) (hV : h.1[m + 1]? = some (gA 118 F)) {i : Int} (hv : nd_iv F) (hi : zR i) (hq : 0 ≤ i ∧ i < F 0) : ∃ h', gm_co mX11_bestShiftBySum 6 [.ref m, .int (zI i)] h (.inl (some (.int (zI (zSS F i.toNat))))) h' ∧ h'.1[m]? = some (md_c m (zU K 0 0)) ∧ gh_fr h h' (fun k => k = m) := by
  obtain ⟨h', e1, e2, e3⟩ := ct_m_bestShift hM hV hv hi hq
  refine ⟨h', ?_, e2, e3⟩
  refine gm_co_of _ (by decide +kernel) rfl (Nat.le_of_ble_eq_true rfl) rfl ?_
  refine gm_go.ru (gm_aload_n dX11_bestShiftBySum_0 rfl (by first | exact Or.inl ⟨_, rfl⟩ | exact Or.inr ⟨_, rfl⟩)) ?_
  refine gm_go.ru (gm_iload_n dX11_bestShiftBySum_1 rfl) ?_
  refine gm_go.ru (gm_cV dX11_bestShiftBySum_2 (e1) rfl mt_X11_bestShift mv_X11_bestShift (lk_X11_144 rfl) (Or.inl ⟨_, 12, _, _, _, rfl, hM, rfl⟩) rfl (Nat.le_of_ble_eq_true rfl) (by decide)) ?_
  exact gm_iret dX11_bestShiftBySum_5 rfl
set_option maxRecDepth 4000 in
theorem ct_m_bestShiftBySumX {h : gm_H} {m : Nat} {K F : Nat → Int} (hM : h.1[m]? = some (md_c m K)) (hV : h.1[m + 1]? = some (gA 118 F)) {i : Int} (hv : nd_iv F) (hi : zR i) (hq : ¬ (0 ≤ i ∧ i < F 0)) : ∃ h', gm_co mX11_bestShiftBySum 6 [.ref m, .int (zI i)] h (.inl (some (.int (zI (0))))) h' ∧ h'.1[m]? = some (md_c m (zU K 0 1)) ∧ gh_fr h h' (fun k => k = m) := by
  obtain ⟨h', e1, e2, e3⟩ := ct_m_bestShiftX hM hV hv hi hq
  refine ⟨h', ?_, e2, e3⟩
  refine gm_co_of _ (by decide +kernel) rfl (Nat.le_of_ble_eq_true rfl) rfl ?_
  refine gm_go.ru (gm_aload_n dX11_bestShiftBySum_0 rfl (by first | exact Or.inl ⟨_, rfl⟩ | exact Or.inr ⟨_, rfl⟩)) ?_
  refine gm_go.ru (gm_iload_n dX11_bestShiftBySum_1 rfl) ?_
  refine gm_go.ru (gm_cV dX11_bestShiftBySum_2 (e1) rfl mt_X11_bestShift mv_X11_bestShift (lk_X11_144 rfl) (Or.inl ⟨_, 12, _, _, _, rfl, hM, rfl⟩) rfl (Nat.le_of_ble_eq_true rfl) (by decide)) ?_
  exact gm_iret dX11_bestShiftBySum_5 rfl
set_option maxRecDepth 4000 in
theorem ct_mDown {h : gm_H} {x : Int} (hx : -100000 ≤ x ∧ x ≤ 100000) : gm_co mX11_down 1 [.int (zI x), .int (zI 45)] h (.inl (some (.int (zI (x / 45))))) h := by
  refine gm_co_of _ (by decide +kernel) rfl (Nat.le_of_ble_eq_true rfl) rfl ?_
  by_cases c1 : x < 0
  ·
    refine gm_go.ru (gm_iload_n dX11_down_0 rfl) ?_
    refine gm_go.ru (gi_if_lt_t (tgt := 10) dX11_down_1 (by decide) (by omega) c1) ?_
    refine gm_go.ru (gm_iload_n dX11_down_10 rfl) ?_
    refine gm_go.ru (gi_const dX11_down_11) ?_
    refine gm_go.ru (gi_sub dX11_down_12) ?_
    refine gm_go.ru (gm_iload_n dX11_down_13 rfl) ?_
    refine gm_go.ru (gi_sub dX11_down_14) ?_
    refine gm_go.ru (gm_iload_n dX11_down_15 rfl) ?_
    refine gm_go.ru (gi_div dX11_down_16 (by omega) (by omega) (by omega)) ?_
    refine gm_go.ru (gi_neg dX11_down_17) ?_
    exact gm_iret' dX11_down_18 rfl (congrArg zI (by rw [Int.tdiv_eq_ediv_of_nonneg (by omega)]; omega)) rfl
  ·
    refine gm_go.ru (gm_iload_n dX11_down_0 rfl) ?_
    refine gm_go.ru (gi_if_lt_f 10 dX11_down_1 (by decide) (by omega) c1) ?_
    refine gm_go.ru (gm_iload_n dX11_down_4 rfl) ?_
    refine gm_go.ru (gm_iload_n dX11_down_5 rfl) ?_
    refine gm_go.ru (gi_div dX11_down_6 (by omega) (by omega) (by omega)) ?_
    refine gm_go.ru (gm_goto (tgt := 18) dX11_down_7 (by decide)) ?_
    exact gm_iret' dX11_down_18 rfl (congrArg zI (Int.tdiv_eq_ediv_of_nonneg (by omega))) rfl
set_option maxRecDepth 4000 in
theorem ct_mBetw {h : gm_H} {m : Nat} {K F : Nat → Int} (hM : h.1[m]? = some (md_c m K)) (hV : h.1[m + 1]? = some (gA 118 F)) {i c : Nat} (hv : nd_iv F) (hi : i < 8) (hc : c < 360) : gm_co mX11_between 3 [.ref m, .int (zI (i : Int)), .int (zI (c : Int))] h (.inl (some (.int (zI (zIp F i c))))) h := by
  refine gm_co_of _ (by decide +kernel) rfl (Nat.le_of_ble_eq_true rfl) rfl ?_
  have hb := zIp_b hv hi hc
  refine gm_go.ru (gm_iload_n dX11_between_0 rfl) ?_
  refine gm_go.ru (gi_bipush dX11_between_1 (by decide +kernel)) ?_
  refine gm_go.ru (gi_div dX11_between_3 (by omega) (by omega) (by omega)) ?_
  rw [show ((c : Int)).tdiv 45 = ((c / 45 : Nat) : Int) by rw [Int.tdiv_eq_ediv_of_nonneg (by omega)]; omega]
  refine gm_go.ru (gm_istore_n (ls' := [_, _, _, _, _]) dX11_between_4 (by decide) rfl) ?_
  refine gm_go.ru (gm_iload_n dX11_between_5 rfl) ?_
  refine gm_go.ru (gi_bipush dX11_between_6 (by decide +kernel)) ?_
  refine gm_go.ru (gi_rem dX11_between_8 (by omega) (by omega) (by omega)) ?_
  rw [show ((c : Int)).tmod 45 = ((c % 45 : Nat) : Int) by rw [Int.tmod_eq_emod_of_nonneg (by omega)]; omega]
  refine gm_go.ru (gm_istore (ls' := [_, _, _, _, _]) dX11_between_9 (by decide) rfl) ?_
  refine gm_go.ru (gm_aload_n dX11_between_11 rfl (by first | exact Or.inl ⟨_, rfl⟩ | exact Or.inr ⟨_, rfl⟩)) ?_
  refine gm_go.ru (gm_iload_n dX11_between_12 rfl) ?_
  refine gm_go.ru (gm_iload_n dX11_between_13 rfl) ?_
  refine gm_go.ru (gm_cV dX11_between_14 (ct_mFar hM hV hi (j := c / 45) (by omega)) rfl mt_X11_far mv_X11_far (lk_X11_91 rfl) (Or.inl ⟨_, 12, _, _, _, rfl, hM, rfl⟩) rfl (Nat.le_of_ble_eq_true rfl) (by decide)) ?_
  refine gm_go.ru (gi_bipush dX11_between_17 (by decide +kernel)) ?_
  refine gm_go.ru (gm_iload dX11_between_19 rfl) ?_
  refine gm_go.ru (gi_sub dX11_between_21) ?_
  refine gm_go.ru (gi_mul dX11_between_22) ?_
  refine gm_go.ru (gm_aload_n dX11_between_23 rfl (by first | exact Or.inl ⟨_, rfl⟩ | exact Or.inr ⟨_, rfl⟩)) ?_
  refine gm_go.ru (gm_iload_n dX11_between_24 rfl) ?_
  refine gm_go.ru (gm_iload_n dX11_between_25 rfl) ?_
  refine gm_go.ru (gi_const dX11_between_26) ?_
  refine gm_go.ru (gi_add dX11_between_27) ?_
  refine gm_go.ru (gi_bipush dX11_between_28 (by decide +kernel)) ?_
  refine gm_go.ru (gi_rem dX11_between_30 (by omega) (by omega) (by omega)) ?_
  rw [show (((c / 45 : Nat) : Int) + 1).tmod 8 = (((c / 45 + 1) % 8 : Nat) : Int) by rw [Int.tmod_eq_emod_of_nonneg (by omega)]; omega]
  refine gm_go.ru (gm_cV dX11_between_31 (ct_mFar hM hV hi (j := (c / 45 + 1) % 8) (by omega)) rfl mt_X11_far mv_X11_far (lk_X11_91 rfl) (Or.inl ⟨_, 12, _, _, _, rfl, hM, rfl⟩) rfl (Nat.le_of_ble_eq_true rfl) (by decide)) ?_
  refine gm_go.ru (gm_iload dX11_between_34 rfl) ?_
  refine gm_go.ru (gi_mul dX11_between_36) ?_
  refine gm_go.ru (gi_add dX11_between_37) ?_
  refine gm_go.ru (gi_bipush dX11_between_38 (by decide +kernel)) ?_
  refine gm_go.ru (gm_cS dX11_between_40 (ct_mDown (by omega)) rfl mt_X11_down ms_X11_down (lk_X11_126 rfl) rfl (Nat.le_of_ble_eq_true rfl) (by decide)) ?_
  exact gm_iret dX11_between_43 rfl
set_option maxRecDepth 4000 in
theorem ct_mTurn {h : gm_H} {m : Nat} {K F : Nat → Int} (hM : h.1[m]? = some (md_c m K)) (hV : h.1[m + 1]? = some (gA 118 F)) {i c : Nat} (hv : nd_iv F) (hi : i < 8) (hc : c < 360) : gm_co mX11_turned 4 [.ref m, .int (zI (i : Int)), .int (zI (c : Int))] h (.inl (some (.int (zI (zTc F i c))))) h := by
  refine gm_co_of _ (by decide +kernel) rfl (Nat.le_of_ble_eq_true rfl) rfl ?_
  have hb := zIp_r hv hi hc
  refine gm_go.ru (gm_iload_n dX11_turned_0 rfl) ?_
  refine gm_go.ru (gm_aload_n dX11_turned_1 rfl (by first | exact Or.inl ⟨_, rfl⟩ | exact Or.inr ⟨_, rfl⟩)) ?_
  refine gm_go.ru (gm_iload_n dX11_turned_2 rfl) ?_
  refine gm_go.ru (gm_iload_n dX11_turned_3 rfl) ?_
  refine gm_go.ru (gm_cV dX11_turned_4 (ct_mBetw hM hV hv hi hc) rfl mt_X11_between mv_X11_between (lk_X11_129 rfl) (Or.inl ⟨_, 12, _, _, _, rfl, hM, rfl⟩) rfl (Nat.le_of_ble_eq_true rfl) (by decide)) ?_
  refine gm_go.ru (gi_add dX11_turned_7) ?_
  refine gm_go.ru (gi_sipush dX11_turned_8 (by decide +kernel)) ?_
  refine gm_go.ru (gi_add dX11_turned_11) ?_
  refine gm_go.ru (gi_sipush dX11_turned_12 (by decide +kernel)) ?_
  refine gm_go.ru (gi_rem dX11_turned_15 (by omega) (by omega) (by omega)) ?_
  exact gm_iret' dX11_turned_16 rfl (congrArg zI (by unfold zTc; rw [Int.tmod_eq_emod_of_nonneg (by omega)]; omega)) rfl
set_option maxRecDepth 4000 in
theorem ct_mLooksX {h : gm_H} {m : Nat} {K F : Nat → Int} (hM : h.1[m]? = some (md_c m K)) (hV : h.1[m + 1]? = some (gA 118 F)) {i j : Int} (hv : nd_iv F) (hi : zR i) (hj : zR j) (hq : ¬ (0 ≤ i ∧ i < F 0)) : ∃ h', gm_co mX11_looks 3 [.ref m, .int (zI i), .int (zI j)] h (.inl (some (.int (zI (1))))) h' ∧ h'.1[m]? = some (md_c m (zU K 0 1)) ∧ gh_fr h h' (fun k => k = m) := by
  obtain ⟨a1, ha1⟩ : ∃ y : gm_H, y = (h.1.set m (md_c m (zU K 0 1)), h.2) := ⟨_, rfl⟩
  have M_a1 : a1.1[m]? = some (md_c m (zU K 0 1)) := by rw [ha1]; exact gs_s hM
  have V_a1 : a1.1[m + 1]? = some (gA 118 F) := by rw [ha1]; exact gs_n hV (by omega)
  have f_a1 : gh_fr h a1 (fun k => k = m) := by rw [ha1]; exact gh_set (K := fun k => k = m) gh_rf rfl _
  refine ⟨a1, ?_, M_a1, f_a1⟩
  refine gm_co_of _ (by decide +kernel) rfl (Nat.le_of_ble_eq_true rfl) rfl ?_
  refine gm_go.ru (gm_aload_n dX11_looks_0 rfl (by first | exact Or.inl ⟨_, rfl⟩ | exact Or.inr ⟨_, rfl⟩)) ?_
  refine gm_go.ru (gm_aload_n dX11_looks_1 rfl (by first | exact Or.inl ⟨_, rfl⟩ | exact Or.inr ⟨_, rfl⟩)) ?_
  refine gm_go.ru (gm_iload_n dX11_looks_2 rfl) ?_
  refine gm_go.ru (gm_cV dX11_looks_3 (ct_mIsN hM hV hv hi) rfl mt_X11_isNeedle mv_X11_isNeedle (lk_X11_87 rfl) (Or.inl ⟨_, 12, _, _, _, rfl, hM, rfl⟩) rfl (Nat.le_of_ble_eq_true rfl) (by decide)) ?_
  rw [zB_f hq]
  refine gm_go.ru (gi_if_ne_f 13 dX11_looks_6 (by decide) (by decide) rfl) ?_
  refine gm_go.ru (gi_const dX11_looks_9) ?_
  refine gm_go.ru (gm_goto (tgt := 29) dX11_looks_10 (by decide)) ?_
  refine gm_go.ru (gm_put dX11_looks_29 (fp_X11_53 rfl) hM (Nat.le_of_ble_eq_true rfl) (by first | exact ⟨rfl, rfl⟩ | exact trivial)) ?_
  refine gm_hp ha1 ?_
  refine gm_go.ru (gm_aload_n dX11_looks_32 rfl (by first | exact Or.inl ⟨_, rfl⟩ | exact Or.inr ⟨_, rfl⟩)) ?_
  refine gm_go.ru (gm_get dX11_looks_33 (fl_X11_53 rfl) M_a1 rfl) ?_
  rw [zU_s]
  exact gm_iret dX11_looks_36 rfl
set_option maxRecDepth 4000 in
theorem ct_mLooksY {h : gm_H} {m : Nat} {K F : Nat → Int} (hM : h.1[m]? = some (md_c m K)) (hV : h.1[m + 1]? = some (gA 118 F)) {i j : Int} (hv : nd_iv F) (hi : zR i) (hj : zR j) (hq : 0 ≤ i ∧ i < F 0) (hc : j < 0 ∨ 359 < j) : ∃ h', gm_co mX11_looks 3 [.ref m, .int (zI i), .int (zI j)] h (.inl (some (.int (zI (2))))) h' ∧ h'.1[m]? = some (md_c m (zU K 0 2)) ∧ gh_fr h h' (fun k => k = m) := by
  obtain ⟨a1, ha1⟩ : ∃ y : gm_H, y = (h.1.set m (md_c m (zU K 0 2)), h.2) := ⟨_, rfl⟩
  have M_a1 : a1.1[m]? = some (md_c m (zU K 0 2)) := by rw [ha1]; exact gs_s hM
  have V_a1 : a1.1[m + 1]? = some (gA 118 F) := by rw [ha1]; exact gs_n hV (by omega)
  have f_a1 : gh_fr h a1 (fun k => k = m) := by rw [ha1]; exact gh_set (K := fun k => k = m) gh_rf rfl _
  refine ⟨a1, ?_, M_a1, f_a1⟩
  refine gm_co_of _ (by decide +kernel) rfl (Nat.le_of_ble_eq_true rfl) rfl ?_
  refine gm_go.ru (gm_aload_n dX11_looks_0 rfl (by first | exact Or.inl ⟨_, rfl⟩ | exact Or.inr ⟨_, rfl⟩)) ?_
  refine gm_go.ru (gm_aload_n dX11_looks_1 rfl (by first | exact Or.inl ⟨_, rfl⟩ | exact Or.inr ⟨_, rfl⟩)) ?_
  refine gm_go.ru (gm_iload_n dX11_looks_2 rfl) ?_
  refine gm_go.ru (gm_cV dX11_looks_3 (ct_mIsN hM hV hv hi) rfl mt_X11_isNeedle mv_X11_isNeedle (lk_X11_87 rfl) (Or.inl ⟨_, 12, _, _, _, rfl, hM, rfl⟩) rfl (Nat.le_of_ble_eq_true rfl) (by decide)) ?_
  rw [zB_t hq]
  refine gm_go.ru (gi_if_ne_t (tgt := 13) dX11_looks_6 (by decide) (by decide) (by decide)) ?_
  refine gm_go.ru (gm_iload_n dX11_looks_13 rfl) ?_
  refine gm_go.ru (gi_const dX11_looks_14) ?_
  refine gm_go.ru (gi_sipush dX11_looks_15 (by decide +kernel)) ?_
  refine gm_go.ru (gm_cS dX11_looks_18 (ct_mIsIn hj (by decide) (by decide)) rfl mt_X11_isIn ms_X11_isIn (lk_X11_63 rfl) rfl (Nat.le_of_ble_eq_true rfl) (by decide)) ?_
  rw [zB_f (show ¬ (0 ≤ j ∧ j ≤ 359) by omega)]
  refine gm_go.ru (gi_if_eq_t (tgt := 28) dX11_looks_21 (by decide) (by decide) rfl) ?_
  refine gm_go.ru (gi_const dX11_looks_28) ?_
  refine gm_go.ru (gm_put dX11_looks_29 (fp_X11_53 rfl) hM (Nat.le_of_ble_eq_true rfl) (by first | exact ⟨rfl, rfl⟩ | exact trivial)) ?_
  refine gm_hp ha1 ?_
  refine gm_go.ru (gm_aload_n dX11_looks_32 rfl (by first | exact Or.inl ⟨_, rfl⟩ | exact Or.inr ⟨_, rfl⟩)) ?_
  refine gm_go.ru (gm_get dX11_looks_33 (fl_X11_53 rfl) M_a1 rfl) ?_
  rw [zU_s]
  exact gm_iret dX11_looks_36 rfl
set_option maxRecDepth 4000 in
theorem ct_mLooks {h : gm_H} {m : Nat} {K F : Nat → Int} (hM : h.1[m]? = some (md_c m K)) (hV : h.1[m + 1]? = some (gA 118 F)) {i j : Int} (hv : nd_iv F) (hi : zR i) (hj : zR j) (hq : 0 ≤ i ∧ i < F 0) (hc : ¬ (j < 0 ∨ 359 < j)) : ∃ h', gm_co mX11_looks 3 [.ref m, .int (zI i), .int (zI j)] h (.inl (some (.int (zI (0))))) h' ∧ h'.1[m]? = some (md_c m (zU K 0 0)) ∧ gh_fr h h' (fun k => k = m) := by
  obtain ⟨a1, ha1⟩ : ∃ y : gm_H, y = (h.1.set m (md_c m (zU K 0 0)), h.2) := ⟨_, rfl⟩
  have M_a1 : a1.1[m]? = some (md_c m (zU K 0 0)) := by rw [ha1]; exact gs_s hM
  have V_a1 : a1.1[m + 1]? = some (gA 118 F) := by rw [ha1]; exact gs_n hV (by omega)
  have f_a1 : gh_fr h a1 (fun k => k = m) := by rw [ha1]; exact gh_set (K := fun k => k = m) gh_rf rfl _
  refine ⟨a1, ?_, M_a1, f_a1⟩
  refine gm_co_of _ (by decide +kernel) rfl (Nat.le_of_ble_eq_true rfl) rfl ?_
  refine gm_go.ru (gm_aload_n dX11_looks_0 rfl (by first | exact Or.inl ⟨_, rfl⟩ | exact Or.inr ⟨_, rfl⟩)) ?_
  refine gm_go.ru (gm_aload_n dX11_looks_1 rfl (by first | exact Or.inl ⟨_, rfl⟩ | exact Or.inr ⟨_, rfl⟩)) ?_
  refine gm_go.ru (gm_iload_n dX11_looks_2 rfl) ?_
  refine gm_go.ru (gm_cV dX11_looks_3 (ct_mIsN hM hV hv hi) rfl mt_X11_isNeedle mv_X11_isNeedle (lk_X11_87 rfl) (Or.inl ⟨_, 12, _, _, _, rfl, hM, rfl⟩) rfl (Nat.le_of_ble_eq_true rfl) (by decide)) ?_
  rw [zB_t hq]
  refine gm_go.ru (gi_if_ne_t (tgt := 13) dX11_looks_6 (by decide) (by decide) (by decide)) ?_
  refine gm_go.ru (gm_iload_n dX11_looks_13 rfl) ?_
  refine gm_go.ru (gi_const dX11_looks_14) ?_
  refine gm_go.ru (gi_sipush dX11_looks_15 (by decide +kernel)) ?_
  refine gm_go.ru (gm_cS dX11_looks_18 (ct_mIsIn hj (by decide) (by decide)) rfl mt_X11_isIn ms_X11_isIn (lk_X11_63 rfl) rfl (Nat.le_of_ble_eq_true rfl) (by decide)) ?_
  rw [zB_t (show 0 ≤ j ∧ j ≤ 359 by omega)]
  refine gm_go.ru (gi_if_eq_f 28 dX11_looks_21 (by decide) (by decide) (by decide)) ?_
  refine gm_go.ru (gi_const dX11_looks_24) ?_
  refine gm_go.ru (gm_goto (tgt := 29) dX11_looks_25 (by decide)) ?_
  refine gm_go.ru (gm_put dX11_looks_29 (fp_X11_53 rfl) hM (Nat.le_of_ble_eq_true rfl) (by first | exact ⟨rfl, rfl⟩ | exact trivial)) ?_
  refine gm_hp ha1 ?_
  refine gm_go.ru (gm_aload_n dX11_looks_32 rfl (by first | exact Or.inl ⟨_, rfl⟩ | exact Or.inr ⟨_, rfl⟩)) ?_
  refine gm_go.ru (gm_get dX11_looks_33 (fl_X11_53 rfl) M_a1 rfl) ?_
  rw [zU_s]
  exact gm_iret dX11_looks_36 rfl
set_option maxRecDepth 4000 in
theorem ct_m_deviationAtX {h : gm_H} {m : Nat} {K F : Nat → Int} (hM : h.1[m]? = some (md_c m K)) (hV : h.1[m + 1]? = some (gA 118 F)) {i j : Int} (hv : nd_iv F) (hi : zR i) (hj : zR j) (hq : ¬ (0 ≤ i ∧ i < F 0)) : ∃ h', gm_co mX11_deviationAt 5 [.ref m, .int (zI i), .int (zI j)] h (.inl (some (.int (zI (0))))) h' ∧ h'.1[m]? = some (md_c m (zU K 0 1)) ∧ gh_fr h h' (fun k => k = m) := by
  obtain ⟨a1, e1, M_a1, f_a1⟩ := ct_mLooksX hM hV hv hi hj hq
  have V_a1 := gh_at f_a1 hV (by omega)
  refine ⟨a1, ?_, M_a1, f_a1⟩
  refine gm_co_of _ (by decide +kernel) rfl (Nat.le_of_ble_eq_true rfl) rfl ?_
  refine gm_go.ru (gm_aload_n dX11_deviationAt_0 rfl (by first | exact Or.inl ⟨_, rfl⟩ | exact Or.inr ⟨_, rfl⟩)) ?_
  refine gm_go.ru (gm_iload_n dX11_deviationAt_1 rfl) ?_
  refine gm_go.ru (gm_iload_n dX11_deviationAt_2 rfl) ?_
  refine gm_go.ru (gm_cV dX11_deviationAt_3 (e1) rfl mt_X11_looks mv_X11_looks (lk_X11_132 rfl) (Or.inl ⟨_, 12, _, _, _, rfl, hM, rfl⟩) rfl (Nat.le_of_ble_eq_true rfl) (by decide)) ?_
  refine gm_go.ru (gi_if_ne_t (tgt := 18) dX11_deviationAt_6 (by decide) (by decide) (by decide)) ?_
  refine gm_go.ru (gi_const dX11_deviationAt_18) ?_
  exact gm_iret dX11_deviationAt_19 rfl
set_option maxRecDepth 4000 in
theorem ct_m_deviationAtY {h : gm_H} {m : Nat} {K F : Nat → Int} (hM : h.1[m]? = some (md_c m K)) (hV : h.1[m + 1]? = some (gA 118 F)) {i j : Int} (hv : nd_iv F) (hi : zR i) (hj : zR j) (hq : 0 ≤ i ∧ i < F 0) (hc : j < 0 ∨ 359 < j) : ∃ h', gm_co mX11_deviationAt 5 [.ref m, .int (zI i), .int (zI j)] h (.inl (some (.int (zI (0))))) h' ∧ h'.1[m]? = some (md_c m (zU K 0 2)) ∧ gh_fr h h' (fun k => k = m) := by
  obtain ⟨a1, e1, M_a1, f_a1⟩ := ct_mLooksY hM hV hv hi hj hq hc
  have V_a1 := gh_at f_a1 hV (by omega)
  refine ⟨a1, ?_, M_a1, f_a1⟩
  refine gm_co_of _ (by decide +kernel) rfl (Nat.le_of_ble_eq_true rfl) rfl ?_
  refine gm_go.ru (gm_aload_n dX11_deviationAt_0 rfl (by first | exact Or.inl ⟨_, rfl⟩ | exact Or.inr ⟨_, rfl⟩)) ?_
  refine gm_go.ru (gm_iload_n dX11_deviationAt_1 rfl) ?_
  refine gm_go.ru (gm_iload_n dX11_deviationAt_2 rfl) ?_
  refine gm_go.ru (gm_cV dX11_deviationAt_3 (e1) rfl mt_X11_looks mv_X11_looks (lk_X11_132 rfl) (Or.inl ⟨_, 12, _, _, _, rfl, hM, rfl⟩) rfl (Nat.le_of_ble_eq_true rfl) (by decide)) ?_
  refine gm_go.ru (gi_if_ne_t (tgt := 18) dX11_deviationAt_6 (by decide) (by decide) (by decide)) ?_
  refine gm_go.ru (gi_const dX11_deviationAt_18) ?_
  exact gm_iret dX11_deviationAt_19 rfl
set_option maxRecDepth 4000 in
theorem ct_m_deviationAt {h : gm_H} {m : Nat} {K F : Nat → Int} (hM : h.1[m]? = some (md_c m K)) (hV : h.1[m + 1]? = some (gA 118 F)) {i j : Int} (hv : nd_iv F) (hi : zR i) (hj : zR j) (hq : 0 ≤ i ∧ i < F 0) (hc : ¬ (j < 0 ∨ 359 < j)) : ∃ h', gm_co mX11_deviationAt 5 [.ref m, .int (zI i), .int (zI j)] h (.inl (some (.int (zI (zIp F i.toNat j.toNat))))) h' ∧ h'.1[m]? = some (md_c m (zU K 0 0)) ∧ gh_fr h h' (fun k => k = m) := by
  obtain ⟨a1, e1, M_a1, f_a1⟩ := ct_mLooks hM hV hv hi hj hq hc
  have V_a1 := gh_at f_a1 hV (by omega)
  obtain ⟨i, rfl⟩ : ∃ k : Nat, i = (k : Int) := ⟨i.toNat, by omega⟩
  have h8 : i < 8 := by have := hv.1; omega
  simp only [Int.toNat_natCast] at *
  obtain ⟨j, rfl⟩ : ∃ k : Nat, j = (k : Int) := ⟨j.toNat, by omega⟩
  simp only [Int.toNat_natCast] at *
  refine ⟨a1, ?_, M_a1, f_a1⟩
  refine gm_co_of _ (by decide +kernel) rfl (Nat.le_of_ble_eq_true rfl) rfl ?_
  refine gm_go.ru (gm_aload_n dX11_deviationAt_0 rfl (by first | exact Or.inl ⟨_, rfl⟩ | exact Or.inr ⟨_, rfl⟩)) ?_
  refine gm_go.ru (gm_iload_n dX11_deviationAt_1 rfl) ?_
  refine gm_go.ru (gm_iload_n dX11_deviationAt_2 rfl) ?_
  refine gm_go.ru (gm_cV dX11_deviationAt_3 (e1) rfl mt_X11_looks mv_X11_looks (lk_X11_132 rfl) (Or.inl ⟨_, 12, _, _, _, rfl, hM, rfl⟩) rfl (Nat.le_of_ble_eq_true rfl) (by decide)) ?_
  refine gm_go.ru (gi_if_ne_f 18 dX11_deviationAt_6 (by decide) (by decide) rfl) ?_
  refine gm_go.ru (gm_aload_n dX11_deviationAt_9 rfl (by first | exact Or.inl ⟨_, rfl⟩ | exact Or.inr ⟨_, rfl⟩)) ?_
  refine gm_go.ru (gm_iload_n dX11_deviationAt_10 rfl) ?_
  refine gm_go.ru (gm_iload_n dX11_deviationAt_11 rfl) ?_
  refine gm_go.ru (gm_cV dX11_deviationAt_12 (ct_mBetw M_a1 V_a1 hv h8 (c := j) (by omega)) rfl mt_X11_between mv_X11_between (lk_X11_129 rfl) (Or.inl ⟨_, 12, _, _, _, rfl, M_a1, rfl⟩) rfl (Nat.le_of_ble_eq_true rfl) (by decide)) ?_
  refine gm_go.ru (gm_goto (tgt := 19) dX11_deviationAt_15 (by decide)) ?_
  exact gm_iret dX11_deviationAt_19 rfl
set_option maxRecDepth 4000 in
theorem ct_m_trueCourseX {h : gm_H} {m : Nat} {K F : Nat → Int} (hM : h.1[m]? = some (md_c m K)) (hV : h.1[m + 1]? = some (gA 118 F)) {i j : Int} (hv : nd_iv F) (hi : zR i) (hj : zR j) (hq : ¬ (0 ≤ i ∧ i < F 0)) : ∃ h', gm_co mX11_trueCourse 5 [.ref m, .int (zI i), .int (zI j)] h (.inl (some (.int (zI (0))))) h' ∧ h'.1[m]? = some (md_c m (zU K 0 1)) ∧ gh_fr h h' (fun k => k = m) := by
  obtain ⟨a1, e1, M_a1, f_a1⟩ := ct_mLooksX hM hV hv hi hj hq
  have V_a1 := gh_at f_a1 hV (by omega)
  refine ⟨a1, ?_, M_a1, f_a1⟩
  refine gm_co_of _ (by decide +kernel) rfl (Nat.le_of_ble_eq_true rfl) rfl ?_
  refine gm_go.ru (gm_aload_n dX11_trueCourse_0 rfl (by first | exact Or.inl ⟨_, rfl⟩ | exact Or.inr ⟨_, rfl⟩)) ?_
  refine gm_go.ru (gm_iload_n dX11_trueCourse_1 rfl) ?_
  refine gm_go.ru (gm_iload_n dX11_trueCourse_2 rfl) ?_
  refine gm_go.ru (gm_cV dX11_trueCourse_3 (e1) rfl mt_X11_looks mv_X11_looks (lk_X11_132 rfl) (Or.inl ⟨_, 12, _, _, _, rfl, hM, rfl⟩) rfl (Nat.le_of_ble_eq_true rfl) (by decide)) ?_
  refine gm_go.ru (gi_if_ne_t (tgt := 18) dX11_trueCourse_6 (by decide) (by decide) (by decide)) ?_
  refine gm_go.ru (gi_const dX11_trueCourse_18) ?_
  exact gm_iret dX11_trueCourse_19 rfl
set_option maxRecDepth 4000 in
theorem ct_m_trueCourseY {h : gm_H} {m : Nat} {K F : Nat → Int} (hM : h.1[m]? = some (md_c m K)) (hV : h.1[m + 1]? = some (gA 118 F)) {i j : Int} (hv : nd_iv F) (hi : zR i) (hj : zR j) (hq : 0 ≤ i ∧ i < F 0) (hc : j < 0 ∨ 359 < j) : ∃ h', gm_co mX11_trueCourse 5 [.ref m, .int (zI i), .int (zI j)] h (.inl (some (.int (zI (0))))) h' ∧ h'.1[m]? = some (md_c m (zU K 0 2)) ∧ gh_fr h h' (fun k => k = m) := by
  obtain ⟨a1, e1, M_a1, f_a1⟩ := ct_mLooksY hM hV hv hi hj hq hc
  have V_a1 := gh_at f_a1 hV (by omega)
  refine ⟨a1, ?_, M_a1, f_a1⟩
  refine gm_co_of _ (by decide +kernel) rfl (Nat.le_of_ble_eq_true rfl) rfl ?_
  refine gm_go.ru (gm_aload_n dX11_trueCourse_0 rfl (by first | exact Or.inl ⟨_, rfl⟩ | exact Or.inr ⟨_, rfl⟩)) ?_
  refine gm_go.ru (gm_iload_n dX11_trueCourse_1 rfl) ?_
  refine gm_go.ru (gm_iload_n dX11_trueCourse_2 rfl) ?_
  refine gm_go.ru (gm_cV dX11_trueCourse_3 (e1) rfl mt_X11_looks mv_X11_looks (lk_X11_132 rfl) (Or.inl ⟨_, 12, _, _, _, rfl, hM, rfl⟩) rfl (Nat.le_of_ble_eq_true rfl) (by decide)) ?_
  refine gm_go.ru (gi_if_ne_t (tgt := 18) dX11_trueCourse_6 (by decide) (by decide) (by decide)) ?_
  refine gm_go.ru (gi_const dX11_trueCourse_18) ?_
  exact gm_iret dX11_trueCourse_19 rfl
set_option maxRecDepth 4000 in
theorem ct_m_trueCourse {h : gm_H} {m : Nat} {K F : Nat → Int} (hM : h.1[m]? = some (md_c m K)) (hV : h.1[m + 1]? = some (gA 118 F)) {i j : Int} (hv : nd_iv F) (hi : zR i) (hj : zR j) (hq : 0 ≤ i ∧ i < F 0) (hc : ¬ (j < 0 ∨ 359 < j)) : ∃ h', gm_co mX11_trueCourse 5 [.ref m, .int (zI i), .int (zI j)] h (.inl (some (.int (zI (zTc F i.toNat j.toNat))))) h' ∧ h'.1[m]? = some (md_c m (zU K 0 0)) ∧ gh_fr h h' (fun k => k = m) := by
  obtain ⟨a1, e1, M_a1, f_a1⟩ := ct_mLooks hM hV hv hi hj hq hc
  have V_a1 := gh_at f_a1 hV (by omega)
  obtain ⟨i, rfl⟩ : ∃ k : Nat, i = (k : Int) := ⟨i.toNat, by omega⟩
  have h8 : i < 8 := by have := hv.1; omega
  simp only [Int.toNat_natCast] at *
  obtain ⟨j, rfl⟩ : ∃ k : Nat, j = (k : Int) := ⟨j.toNat, by omega⟩
  simp only [Int.toNat_natCast] at *
  refine ⟨a1, ?_, M_a1, f_a1⟩
  refine gm_co_of _ (by decide +kernel) rfl (Nat.le_of_ble_eq_true rfl) rfl ?_
  refine gm_go.ru (gm_aload_n dX11_trueCourse_0 rfl (by first | exact Or.inl ⟨_, rfl⟩ | exact Or.inr ⟨_, rfl⟩)) ?_
  refine gm_go.ru (gm_iload_n dX11_trueCourse_1 rfl) ?_
  refine gm_go.ru (gm_iload_n dX11_trueCourse_2 rfl) ?_
  refine gm_go.ru (gm_cV dX11_trueCourse_3 (e1) rfl mt_X11_looks mv_X11_looks (lk_X11_132 rfl) (Or.inl ⟨_, 12, _, _, _, rfl, hM, rfl⟩) rfl (Nat.le_of_ble_eq_true rfl) (by decide)) ?_
  refine gm_go.ru (gi_if_ne_f 18 dX11_trueCourse_6 (by decide) (by decide) rfl) ?_
  refine gm_go.ru (gm_aload_n dX11_trueCourse_9 rfl (by first | exact Or.inl ⟨_, rfl⟩ | exact Or.inr ⟨_, rfl⟩)) ?_
  refine gm_go.ru (gm_iload_n dX11_trueCourse_10 rfl) ?_
  refine gm_go.ru (gm_iload_n dX11_trueCourse_11 rfl) ?_
  refine gm_go.ru (gm_cV dX11_trueCourse_12 (ct_mTurn M_a1 V_a1 hv h8 (c := j) (by omega)) rfl mt_X11_turned mv_X11_turned (lk_X11_135 rfl) (Or.inl ⟨_, 12, _, _, _, rfl, M_a1, rfl⟩) rfl (Nat.le_of_ble_eq_true rfl) (by decide)) ?_
  refine gm_go.ru (gm_goto (tgt := 19) dX11_trueCourse_15 (by decide)) ?_
  exact gm_iret dX11_trueCourse_19 rfl
set_option maxRecDepth 4000 in
theorem ct_mLow {h : gm_H} {m : Nat} {K F : Nat → Int} (hM : h.1[m]? = some (md_c m K)) (hV : h.1[m + 1]? = some (gA 118 F)) {i : Nat} {w : Int} (hv : nd_iv F) (hi : i < 8) (hw : zR w) : gm_co mX11_lowest 5 [.ref m, .int (zI (i : Int)), .int (zI w)] h (.inl (some (.int (zI (zLow F i w 360 0))))) h := by
  refine gm_co_of _ (by decide +kernel) rfl (Nat.le_of_ble_eq_true rfl) rfl ?_
  have key : ∀ (z j : Nat), j + z = 360 → gm_ru mX11_lowest 5 (2, [some (.ref m), some (.int (zI (i : Int))), some (.int (zI w)), some (.int (zI (j : Int)))], [], h) (.inl (some (.int (zI (zLow F i w z j))))) h := by
    intro z
    induction z with
    | zero =>
      intro j hj
      refine gm_go.ru (gm_iload_n dX11_lowest_2 rfl) ?_
      refine gm_go.ru (gi_sipush dX11_lowest_3 (by decide +kernel)) ?_
      refine gm_go.ru (gi_icmp_ge_t (tgt := 27) dX11_lowest_6 (by decide) (by omega) (by omega) (by omega)) ?_
      refine gm_go.ru (gi_const dX11_lowest_27) ?_
      exact gm_iret dX11_lowest_28 rfl
    | succ z ih =>
      intro j hj
      have t9 := zTc_r F i j
      rw [zLow]
      by_cases c : zTc F i j = w
      ·
        rw [if_pos c]
        refine gm_go.ru (gm_iload_n dX11_lowest_2 rfl) ?_
        refine gm_go.ru (gi_sipush dX11_lowest_3 (by decide +kernel)) ?_
        refine gm_go.ru (gi_icmp_ge_f 27 dX11_lowest_6 (by decide) (by omega) (by omega) (by omega)) ?_
        refine gm_go.ru (gm_aload_n dX11_lowest_9 rfl (by first | exact Or.inl ⟨_, rfl⟩ | exact Or.inr ⟨_, rfl⟩)) ?_
        refine gm_go.ru (gm_iload_n dX11_lowest_10 rfl) ?_
        refine gm_go.ru (gm_iload_n dX11_lowest_11 rfl) ?_
        refine gm_go.ru (gm_cV dX11_lowest_12 (ct_mTurn hM hV hv hi (by omega)) rfl mt_X11_turned mv_X11_turned (lk_X11_135 rfl) (Or.inl ⟨_, 12, _, _, _, rfl, hM, rfl⟩) rfl (Nat.le_of_ble_eq_true rfl) (by decide)) ?_
        refine gm_go.ru (gm_iload_n dX11_lowest_15 rfl) ?_
        refine gm_go.ru (gi_icmp_ne_f 21 dX11_lowest_16 (by decide) (by omega) (by omega) c) ?_
        refine gm_go.ru (gm_iload_n dX11_lowest_19 rfl) ?_
        exact gm_iret dX11_lowest_20 rfl
      ·
        rw [if_neg c]
        refine gm_go.ru (gm_iload_n dX11_lowest_2 rfl) ?_
        refine gm_go.ru (gi_sipush dX11_lowest_3 (by decide +kernel)) ?_
        refine gm_go.ru (gi_icmp_ge_f 27 dX11_lowest_6 (by decide) (by omega) (by omega) (by omega)) ?_
        refine gm_go.ru (gm_aload_n dX11_lowest_9 rfl (by first | exact Or.inl ⟨_, rfl⟩ | exact Or.inr ⟨_, rfl⟩)) ?_
        refine gm_go.ru (gm_iload_n dX11_lowest_10 rfl) ?_
        refine gm_go.ru (gm_iload_n dX11_lowest_11 rfl) ?_
        refine gm_go.ru (gm_cV dX11_lowest_12 (ct_mTurn hM hV hv hi (by omega)) rfl mt_X11_turned mv_X11_turned (lk_X11_135 rfl) (Or.inl ⟨_, 12, _, _, _, rfl, hM, rfl⟩) rfl (Nat.le_of_ble_eq_true rfl) (by decide)) ?_
        refine gm_go.ru (gm_iload_n dX11_lowest_15 rfl) ?_
        refine gm_go.ru (gi_icmp_ne_t (tgt := 21) dX11_lowest_16 (by decide) (by omega) (by omega) c) ?_
        refine gm_go.ru (gi_iinc (ls' := [_, _, _, _]) dX11_lowest_21 rfl (by decide) rfl) ?_
        refine gm_go.ru (gm_goto (tgt := 2) dX11_lowest_24 (by decide)) ?_
        exact ih (j + 1) (by omega)
  refine gm_go.ru (gi_const dX11_lowest_0) ?_
  refine gm_go.ru (gm_istore_n (ls' := [_, _, _, _]) dX11_lowest_1 (by decide) rfl) ?_
  exact key 360 0 rfl
set_option maxRecDepth 4000 in
theorem ct_m_courseForX {h : gm_H} {m : Nat} {K F : Nat → Int} (hM : h.1[m]? = some (md_c m K)) (hV : h.1[m + 1]? = some (gA 118 F)) {i j : Int} (hv : nd_iv F) (hi : zR i) (hj : zR j) (hq : ¬ (0 ≤ i ∧ i < F 0)) : ∃ h', gm_co mX11_courseFor 6 [.ref m, .int (zI i), .int (zI j)] h (.inl (some (.int (zI (0))))) h' ∧ h'.1[m]? = some (md_c m (zU K 0 1)) ∧ gh_fr h h' (fun k => k = m) := by
  obtain ⟨a1, e1, M_a1, f_a1⟩ := ct_mLooksX hM hV hv hi hj hq
  have V_a1 := gh_at f_a1 hV (by omega)
  refine ⟨a1, ?_, M_a1, f_a1⟩
  refine gm_co_of _ (by decide +kernel) rfl (Nat.le_of_ble_eq_true rfl) rfl ?_
  refine gm_go.ru (gm_aload_n dX11_courseFor_0 rfl (by first | exact Or.inl ⟨_, rfl⟩ | exact Or.inr ⟨_, rfl⟩)) ?_
  refine gm_go.ru (gm_iload_n dX11_courseFor_1 rfl) ?_
  refine gm_go.ru (gm_iload_n dX11_courseFor_2 rfl) ?_
  refine gm_go.ru (gm_cV dX11_courseFor_3 (e1) rfl mt_X11_looks mv_X11_looks (lk_X11_132 rfl) (Or.inl ⟨_, 12, _, _, _, rfl, hM, rfl⟩) rfl (Nat.le_of_ble_eq_true rfl) (by decide)) ?_
  refine gm_go.ru (gi_if_eq_f 11 dX11_courseFor_6 (by decide) (by decide) (by decide)) ?_
  refine gm_go.ru (gi_const dX11_courseFor_9) ?_
  exact gm_iret dX11_courseFor_10 rfl
set_option maxRecDepth 4000 in
theorem ct_m_courseForY {h : gm_H} {m : Nat} {K F : Nat → Int} (hM : h.1[m]? = some (md_c m K)) (hV : h.1[m + 1]? = some (gA 118 F)) {i j : Int} (hv : nd_iv F) (hi : zR i) (hj : zR j) (hq : 0 ≤ i ∧ i < F 0) (hc : j < 0 ∨ 359 < j) : ∃ h', gm_co mX11_courseFor 6 [.ref m, .int (zI i), .int (zI j)] h (.inl (some (.int (zI (0))))) h' ∧ h'.1[m]? = some (md_c m (zU K 0 2)) ∧ gh_fr h h' (fun k => k = m) := by
  obtain ⟨a1, e1, M_a1, f_a1⟩ := ct_mLooksY hM hV hv hi hj hq hc
  have V_a1 := gh_at f_a1 hV (by omega)
  refine ⟨a1, ?_, M_a1, f_a1⟩
  refine gm_co_of _ (by decide +kernel) rfl (Nat.le_of_ble_eq_true rfl) rfl ?_
  refine gm_go.ru (gm_aload_n dX11_courseFor_0 rfl (by first | exact Or.inl ⟨_, rfl⟩ | exact Or.inr ⟨_, rfl⟩)) ?_
  refine gm_go.ru (gm_iload_n dX11_courseFor_1 rfl) ?_
  refine gm_go.ru (gm_iload_n dX11_courseFor_2 rfl) ?_
  refine gm_go.ru (gm_cV dX11_courseFor_3 (e1) rfl mt_X11_looks mv_X11_looks (lk_X11_132 rfl) (Or.inl ⟨_, 12, _, _, _, rfl, hM, rfl⟩) rfl (Nat.le_of_ble_eq_true rfl) (by decide)) ?_
  refine gm_go.ru (gi_if_eq_f 11 dX11_courseFor_6 (by decide) (by decide) (by decide)) ?_
  refine gm_go.ru (gi_const dX11_courseFor_9) ?_
  exact gm_iret dX11_courseFor_10 rfl
set_option maxRecDepth 4000 in
theorem ct_m_courseFor {h : gm_H} {m : Nat} {K F : Nat → Int} (hM : h.1[m]? = some (md_c m K)) (hV : h.1[m + 1]? = some (gA 118 F)) {i j : Int} (hv : nd_iv F) (hi : zR i) (hj : zR j) (hq : 0 ≤ i ∧ i < F 0) (hc : ¬ (j < 0 ∨ 359 < j)) (hf : 0 ≤ zLow F i.toNat j 360 0) : ∃ h', gm_co mX11_courseFor 6 [.ref m, .int (zI i), .int (zI j)] h (.inl (some (.int (zI (zLow F i.toNat j 360 0))))) h' ∧ h'.1[m]? = some (md_c m (zU K 0 0)) ∧ gh_fr h h' (fun k => k = m) := by
  obtain ⟨a1, e1, M_a1, f_a1⟩ := ct_mLooks hM hV hv hi hj hq hc
  have V_a1 := gh_at f_a1 hV (by omega)
  obtain ⟨i, rfl⟩ : ∃ k : Nat, i = (k : Int) := ⟨i.toNat, by omega⟩
  have h8 : i < 8 := by have := hv.1; omega
  simp only [Int.toNat_natCast] at *
  have zl := zLow_r F i j
  refine ⟨a1, ?_, M_a1, f_a1⟩
  refine gm_co_of _ (by decide +kernel) rfl (Nat.le_of_ble_eq_true rfl) rfl ?_
  refine gm_go.ru (gm_aload_n dX11_courseFor_0 rfl (by first | exact Or.inl ⟨_, rfl⟩ | exact Or.inr ⟨_, rfl⟩)) ?_
  refine gm_go.ru (gm_iload_n dX11_courseFor_1 rfl) ?_
  refine gm_go.ru (gm_iload_n dX11_courseFor_2 rfl) ?_
  refine gm_go.ru (gm_cV dX11_courseFor_3 (e1) rfl mt_X11_looks mv_X11_looks (lk_X11_132 rfl) (Or.inl ⟨_, 12, _, _, _, rfl, hM, rfl⟩) rfl (Nat.le_of_ble_eq_true rfl) (by decide)) ?_
  refine gm_go.ru (gi_if_eq_t (tgt := 11) dX11_courseFor_6 (by decide) (by decide) rfl) ?_
  refine gm_go.ru (gm_aload_n dX11_courseFor_11 rfl (by first | exact Or.inl ⟨_, rfl⟩ | exact Or.inr ⟨_, rfl⟩)) ?_
  refine gm_go.ru (gm_iload_n dX11_courseFor_12 rfl) ?_
  refine gm_go.ru (gm_iload_n dX11_courseFor_13 rfl) ?_
  refine gm_go.ru (gm_cV dX11_courseFor_14 (ct_mLow M_a1 V_a1 hv h8 hj) rfl mt_X11_lowest mv_X11_lowest (lk_X11_138 rfl) (Or.inl ⟨_, 12, _, _, _, rfl, M_a1, rfl⟩) rfl (Nat.le_of_ble_eq_true rfl) (by decide)) ?_
  refine gm_go.ru (gm_istore_n (ls' := [_, _, _, _]) dX11_courseFor_17 (by decide) rfl) ?_
  refine gm_go.ru (gm_iload_n dX11_courseFor_18 rfl) ?_
  refine gm_go.ru (gi_if_ge_t (tgt := 30) dX11_courseFor_19 (by decide) (by omega) (by omega)) ?_
  refine gm_go.ru (gm_iload_n dX11_courseFor_30 rfl) ?_
  exact gm_iret dX11_courseFor_31 rfl
set_option maxRecDepth 4000 in
theorem ct_m_courseForZ {h : gm_H} {m : Nat} {K F : Nat → Int} (hM : h.1[m]? = some (md_c m K)) (hV : h.1[m + 1]? = some (gA 118 F)) {i j : Int} (hv : nd_iv F) (hi : zR i) (hj : zR j) (hq : 0 ≤ i ∧ i < F 0) (hc : ¬ (j < 0 ∨ 359 < j)) (hf : ¬ 0 ≤ zLow F i.toNat j 360 0) : ∃ h', gm_co mX11_courseFor 6 [.ref m, .int (zI i), .int (zI j)] h (.inl (some (.int (zI (0))))) h' ∧ h'.1[m]? = some (md_c m (zU K 0 3)) ∧ gh_fr h h' (fun k => k = m) := by
  obtain ⟨a1, e1, M_a1, f_a1⟩ := ct_mLooks hM hV hv hi hj hq hc
  have V_a1 := gh_at f_a1 hV (by omega)
  obtain ⟨i, rfl⟩ : ∃ k : Nat, i = (k : Int) := ⟨i.toNat, by omega⟩
  have h8 : i < 8 := by have := hv.1; omega
  simp only [Int.toNat_natCast] at *
  have zl := zLow_r F i j
  refine ⟨(a1.1.set m (md_c m (zU (zU K 0 0) 0 3)), a1.2), ?_, by rw [← zU_zU (x := 0)]; exact gs_s M_a1, gh_set (K := fun k => k = m) f_a1 rfl _⟩
  refine gm_co_of _ (by decide +kernel) rfl (Nat.le_of_ble_eq_true rfl) rfl ?_
  refine gm_go.ru (gm_aload_n dX11_courseFor_0 rfl (by first | exact Or.inl ⟨_, rfl⟩ | exact Or.inr ⟨_, rfl⟩)) ?_
  refine gm_go.ru (gm_iload_n dX11_courseFor_1 rfl) ?_
  refine gm_go.ru (gm_iload_n dX11_courseFor_2 rfl) ?_
  refine gm_go.ru (gm_cV dX11_courseFor_3 (e1) rfl mt_X11_looks mv_X11_looks (lk_X11_132 rfl) (Or.inl ⟨_, 12, _, _, _, rfl, hM, rfl⟩) rfl (Nat.le_of_ble_eq_true rfl) (by decide)) ?_
  refine gm_go.ru (gi_if_eq_t (tgt := 11) dX11_courseFor_6 (by decide) (by decide) rfl) ?_
  refine gm_go.ru (gm_aload_n dX11_courseFor_11 rfl (by first | exact Or.inl ⟨_, rfl⟩ | exact Or.inr ⟨_, rfl⟩)) ?_
  refine gm_go.ru (gm_iload_n dX11_courseFor_12 rfl) ?_
  refine gm_go.ru (gm_iload_n dX11_courseFor_13 rfl) ?_
  refine gm_go.ru (gm_cV dX11_courseFor_14 (ct_mLow M_a1 V_a1 hv h8 hj) rfl mt_X11_lowest mv_X11_lowest (lk_X11_138 rfl) (Or.inl ⟨_, 12, _, _, _, rfl, M_a1, rfl⟩) rfl (Nat.le_of_ble_eq_true rfl) (by decide)) ?_
  refine gm_go.ru (gm_istore_n (ls' := [_, _, _, _]) dX11_courseFor_17 (by decide) rfl) ?_
  refine gm_go.ru (gm_iload_n dX11_courseFor_18 rfl) ?_
  refine gm_go.ru (gi_if_ge_f 30 dX11_courseFor_19 (by decide) (by omega) (by omega)) ?_
  refine gm_go.ru (gm_aload_n dX11_courseFor_22 rfl (by first | exact Or.inl ⟨_, rfl⟩ | exact Or.inr ⟨_, rfl⟩)) ?_
  refine gm_go.ru (gi_const dX11_courseFor_23) ?_
  refine gm_go.ru (gm_cV dX11_courseFor_24 (ct_mFail M_a1 (x := 3)) rfl mt_X11_fail mv_X11_fail (lk_X11_74 rfl) (Or.inl ⟨_, 12, _, _, _, rfl, M_a1, rfl⟩) rfl (Nat.le_of_ble_eq_true rfl) (by decide)) ?_
  refine gm_go.ru (gm_goto (tgt := 31) dX11_courseFor_27 (by decide)) ?_
  exact gm_iret dX11_courseFor_31 rfl
set_option maxRecDepth 4000 in
theorem ct_m_courseForNearbyX {h : gm_H} {m : Nat} {K F : Nat → Int} (hM : h.1[m]? = some (md_c m K)) (hV : h.1[m + 1]? = some (gA 118 F)) {i j : Int} (hv : nd_iv F) (hi : zR i) (hj : zR j) (hq : ¬ (0 ≤ i ∧ i < F 0)) : ∃ h', gm_co mX11_courseForNearby 7 [.ref m, .int (zI i), .int (zI j)] h (.inl (some (.int (zI (0))))) h' ∧ h'.1[m]? = some (md_c m (zU K 0 1)) ∧ gh_fr h h' (fun k => k = m) := by
  obtain ⟨h', e1, e2, e3⟩ := ct_m_courseForX hM hV hv hi hj hq
  refine ⟨h', ?_, e2, e3⟩
  refine gm_co_of _ (by decide +kernel) rfl (Nat.le_of_ble_eq_true rfl) rfl ?_
  refine gm_go.ru (gm_aload_n dX11_courseForNearby_0 rfl (by first | exact Or.inl ⟨_, rfl⟩ | exact Or.inr ⟨_, rfl⟩)) ?_
  refine gm_go.ru (gm_iload_n dX11_courseForNearby_1 rfl) ?_
  refine gm_go.ru (gm_iload_n dX11_courseForNearby_2 rfl) ?_
  refine gm_go.ru (gm_cV dX11_courseForNearby_3 (e1) rfl mt_X11_courseFor mv_X11_courseFor (lk_X11_141 rfl) (Or.inl ⟨_, 12, _, _, _, rfl, hM, rfl⟩) rfl (Nat.le_of_ble_eq_true rfl) (by decide)) ?_
  exact gm_iret dX11_courseForNearby_6 rfl
set_option maxRecDepth 4000 in
theorem ct_m_courseForNearbyY {h : gm_H} {m : Nat} {K F : Nat → Int} (hM : h.1[m]? = some (md_c m K)) (hV : h.1[m + 1]? = some (gA 118 F)) {i j : Int} (hv : nd_iv F) (hi : zR i) (hj : zR j) (hq : 0 ≤ i ∧ i < F 0) (hc : j < 0 ∨ 359 < j) : ∃ h', gm_co mX11_courseForNearby 7 [.ref m, .int (zI i), .int (zI j)] h (.inl (some (.int (zI (0))))) h' ∧ h'.1[m]? = some (md_c m (zU K 0 2)) ∧ gh_fr h h' (fun k => k = m) := by
  obtain ⟨h', e1, e2, e3⟩ := ct_m_courseForY hM hV hv hi hj hq hc
  refine ⟨h', ?_, e2, e3⟩
  refine gm_co_of _ (by decide +kernel) rfl (Nat.le_of_ble_eq_true rfl) rfl ?_
  refine gm_go.ru (gm_aload_n dX11_courseForNearby_0 rfl (by first | exact Or.inl ⟨_, rfl⟩ | exact Or.inr ⟨_, rfl⟩)) ?_
  refine gm_go.ru (gm_iload_n dX11_courseForNearby_1 rfl) ?_
  refine gm_go.ru (gm_iload_n dX11_courseForNearby_2 rfl) ?_
  refine gm_go.ru (gm_cV dX11_courseForNearby_3 (e1) rfl mt_X11_courseFor mv_X11_courseFor (lk_X11_141 rfl) (Or.inl ⟨_, 12, _, _, _, rfl, hM, rfl⟩) rfl (Nat.le_of_ble_eq_true rfl) (by decide)) ?_
  exact gm_iret dX11_courseForNearby_6 rfl
set_option maxRecDepth 4000 in
theorem ct_m_courseForNearby {h : gm_H} {m : Nat} {K F : Nat → Int} (hM : h.1[m]? = some (md_c m K)) (hV : h.1[m + 1]? = some (gA 118 F)) {i j : Int} (hv : nd_iv F) (hi : zR i) (hj : zR j) (hq : 0 ≤ i ∧ i < F 0) (hc : ¬ (j < 0 ∨ 359 < j)) (hf : 0 ≤ zLow F i.toNat j 360 0) : ∃ h', gm_co mX11_courseForNearby 7 [.ref m, .int (zI i), .int (zI j)] h (.inl (some (.int (zI (zLow F i.toNat j 360 0))))) h' ∧ h'.1[m]? = some (md_c m (zU K 0 0)) ∧ gh_fr h h' (fun k => k = m) := by
  obtain ⟨h', e1, e2, e3⟩ := ct_m_courseFor hM hV hv hi hj hq hc hf
  refine ⟨h', ?_, e2, e3⟩
  refine gm_co_of _ (by decide +kernel) rfl (Nat.le_of_ble_eq_true rfl) rfl ?_
  refine gm_go.ru (gm_aload_n dX11_courseForNearby_0 rfl (by first | exact Or.inl ⟨_, rfl⟩ | exact Or.inr ⟨_, rfl⟩)) ?_
  refine gm_go.ru (gm_iload_n dX11_courseForNearby_1 rfl) ?_
  refine gm_go.ru (gm_iload_n dX11_courseForNearby_2 rfl) ?_
  refine gm_go.ru (gm_cV dX11_courseForNearby_3 (e1) rfl mt_X11_courseFor mv_X11_courseFor (lk_X11_141 rfl) (Or.inl ⟨_, 12, _, _, _, rfl, hM, rfl⟩) rfl (Nat.le_of_ble_eq_true rfl) (by decide)) ?_
  exact gm_iret dX11_courseForNearby_6 rfl
set_option maxRecDepth 4000 in
theorem ct_m_courseForNearbyZ {h : gm_H} {m : Nat} {K F : Nat → Int} (hM : h.1[m]? = some (md_c m K)) (hV : h.1[m + 1]? = some (gA 118 F)) {i j : Int} (hv : nd_iv F) (hi : zR i) (hj : zR j) (hq : 0 ≤ i ∧ i < F 0) (hc : ¬ (j < 0 ∨ 359 < j)) (hf : ¬ 0 ≤ zLow F i.toNat j 360 0) : ∃ h', gm_co mX11_courseForNearby 7 [.ref m, .int (zI i), .int (zI j)] h (.inl (some (.int (zI (0))))) h' ∧ h'.1[m]? = some (md_c m (zU K 0 3)) ∧ gh_fr h h' (fun k => k = m) := by
  obtain ⟨h', e1, e2, e3⟩ := ct_m_courseForZ hM hV hv hi hj hq hc hf
  refine ⟨h', ?_, e2, e3⟩
  refine gm_co_of _ (by decide +kernel) rfl (Nat.le_of_ble_eq_true rfl) rfl ?_
  refine gm_go.ru (gm_aload_n dX11_courseForNearby_0 rfl (by first | exact Or.inl ⟨_, rfl⟩ | exact Or.inr ⟨_, rfl⟩)) ?_
  refine gm_go.ru (gm_iload_n dX11_courseForNearby_1 rfl) ?_
  refine gm_go.ru (gm_iload_n dX11_courseForNearby_2 rfl) ?_
  refine gm_go.ru (gm_cV dX11_courseForNearby_3 (e1) rfl mt_X11_courseFor mv_X11_courseFor (lk_X11_141 rfl) (Or.inl ⟨_, 12, _, _, _, rfl, hM, rfl⟩) rfl (Nat.le_of_ble_eq_true rfl) (by decide)) ?_
  exact gm_iret dX11_courseForNearby_6 rfl
