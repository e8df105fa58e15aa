set_option maxRecDepth 4000 in
theorem ct_mputsX {h : gm_H} {m : Nat} {K F : Nat → Int} (hM : h.1[m]? = some (md_c m K)) (hV : h.1[m + 1]? = some (gA 118 F)) {T : Nat} {a b c : Int} (hv : st_iv T F) (ha : zR a) (hb : zR b) (hc : zR c) (hq : zqWhy F 6 a b c ≠ 0) : ∃ h' F', gm_co mX11_puts 2 [.ref m, .int (zI a), .int (zI b), .int (zI c)] h (.inl (some (.int (zI 0)))) h' ∧ h'.1[m]? = some (md_c m (zU K 0 (zCd 6 (zqWhy F 6 a b c)))) ∧ h'.1[m + 1]? = some (gA 118 F') ∧ gh_fr h h' (fun k => k = m ∨ k = m + 1) := by
  have o4 := hv.2.2.2.1
  unfold zqWhy zqBatch at *
  simp only at *
  by_cases c0 : (a < 1 ∨ 60 < a) ∨ (b < 1 ∨ 999 < b) ∨ (c < 1 ∨ 9 < c)
  ·
    rw [if_pos c0]
    refine ⟨(h.1.set m (md_c m (zU K 0 1)), h.2), F, ?_, gs_s hM, gs_n hV (by omega), gh_set gh_rf (Or.inl rfl) _⟩
    refine gm_co_of _ (by decide +kernel) rfl (Nat.le_of_ble_eq_true rfl) rfl ?_
    by_cases c1 : a < 1 ∨ 60 < a
    ·
      refine gm_go.ru (gm_iload_n dX11_puts_0 rfl) ?_
      refine gm_go.ru (gi_const dX11_puts_1) ?_
      refine gm_go.ru (gi_bipush dX11_puts_2 (by decide +kernel)) ?_
      refine gm_go.ru (gm_cS dX11_puts_4 (ct_mIsIn ha (by decide) (by decide)) rfl mt_X11_isIn ms_X11_isIn (lk_X11_63 rfl) rfl (Nat.le_of_ble_eq_true rfl) (by decide)) ?_
      rw [zB_f (show ¬ (1 ≤ a ∧ a ≤ 60) by omega)]
      refine gm_go.ru (gi_if_eq_t (tgt := 31) dX11_puts_7 (by decide) (by decide) rfl) ?_
      refine gm_go.ru (gm_aload_n dX11_puts_31 rfl (by first | exact Or.inl ⟨_, rfl⟩ | exact Or.inr ⟨_, rfl⟩)) ?_
      refine gm_go.ru (gi_const dX11_puts_32) ?_
      refine gm_go.ru (gm_cV dX11_puts_33 (ct_mFail hM (x := 1)) rfl mt_X11_fail mv_X11_fail (lk_X11_74 rfl) (Or.inl ⟨_, 12, _, _, _, rfl, hM, rfl⟩) rfl (Nat.le_of_ble_eq_true rfl) (by decide)) ?_
      exact gm_iret dX11_puts_36 rfl
    ·
      by_cases c2 : b < 1 ∨ 999 < b
      ·
        refine gm_go.ru (gm_iload_n dX11_puts_0 rfl) ?_
        refine gm_go.ru (gi_const dX11_puts_1) ?_
        refine gm_go.ru (gi_bipush dX11_puts_2 (by decide +kernel)) ?_
        refine gm_go.ru (gm_cS dX11_puts_4 (ct_mIsIn ha (by decide) (by decide)) rfl mt_X11_isIn ms_X11_isIn (lk_X11_63 rfl) rfl (Nat.le_of_ble_eq_true rfl) (by decide)) ?_
        rw [zB_t (show (1 ≤ a ∧ a ≤ 60) by omega)]
        refine gm_go.ru (gi_if_eq_f 31 dX11_puts_7 (by decide) (by decide) (by decide)) ?_
        refine gm_go.ru (gm_iload_n dX11_puts_10 rfl) ?_
        refine gm_go.ru (gi_const dX11_puts_11) ?_
        refine gm_go.ru (gi_sipush dX11_puts_12 (by decide +kernel)) ?_
        refine gm_go.ru (gm_cS dX11_puts_15 (ct_mIsIn hb (by decide) (by decide)) rfl mt_X11_isIn ms_X11_isIn (lk_X11_63 rfl) rfl (Nat.le_of_ble_eq_true rfl) (by decide)) ?_
        rw [zB_f (show ¬ (1 ≤ b ∧ b ≤ 999) by omega)]
        refine gm_go.ru (gi_if_eq_t (tgt := 31) dX11_puts_18 (by decide) (by decide) rfl) ?_
        refine gm_go.ru (gm_aload_n dX11_puts_31 rfl (by first | exact Or.inl ⟨_, rfl⟩ | exact Or.inr ⟨_, rfl⟩)) ?_
        refine gm_go.ru (gi_const dX11_puts_32) ?_
        refine gm_go.ru (gm_cV dX11_puts_33 (ct_mFail hM (x := 1)) rfl mt_X11_fail mv_X11_fail (lk_X11_74 rfl) (Or.inl ⟨_, 12, _, _, _, rfl, hM, rfl⟩) rfl (Nat.le_of_ble_eq_true rfl) (by decide)) ?_
        exact gm_iret dX11_puts_36 rfl
      ·
        refine gm_go.ru (gm_iload_n dX11_puts_0 rfl) ?_
        refine gm_go.ru (gi_const dX11_puts_1) ?_
        refine gm_go.ru (gi_bipush dX11_puts_2 (by decide +kernel)) ?_
        refine gm_go.ru (gm_cS dX11_puts_4 (ct_mIsIn ha (by decide) (by decide)) rfl mt_X11_isIn ms_X11_isIn (lk_X11_63 rfl) rfl (Nat.le_of_ble_eq_true rfl) (by decide)) ?_
        rw [zB_t (show (1 ≤ a ∧ a ≤ 60) by omega)]
        refine gm_go.ru (gi_if_eq_f 31 dX11_puts_7 (by decide) (by decide) (by decide)) ?_
        refine gm_go.ru (gm_iload_n dX11_puts_10 rfl) ?_
        refine gm_go.ru (gi_const dX11_puts_11) ?_
        refine gm_go.ru (gi_sipush dX11_puts_12 (by decide +kernel)) ?_
        refine gm_go.ru (gm_cS dX11_puts_15 (ct_mIsIn hb (by decide) (by decide)) rfl mt_X11_isIn ms_X11_isIn (lk_X11_63 rfl) rfl (Nat.le_of_ble_eq_true rfl) (by decide)) ?_
        rw [zB_t (show (1 ≤ b ∧ b ≤ 999) by omega)]
        refine gm_go.ru (gi_if_eq_f 31 dX11_puts_18 (by decide) (by decide) (by decide)) ?_
        refine gm_go.ru (gm_iload_n dX11_puts_21 rfl) ?_
        refine gm_go.ru (gi_const dX11_puts_22) ?_
        refine gm_go.ru (gi_bipush dX11_puts_23 (by decide +kernel)) ?_
        refine gm_go.ru (gm_cS dX11_puts_25 (ct_mIsIn hc (by decide) (by decide)) rfl mt_X11_isIn ms_X11_isIn (lk_X11_63 rfl) rfl (Nat.le_of_ble_eq_true rfl) (by decide)) ?_
        rw [zB_f (show ¬ (1 ≤ c ∧ c ≤ 9) by omega)]
        refine gm_go.ru (gi_if_ne_f 37 dX11_puts_28 (by decide) (by decide) rfl) ?_
        refine gm_go.ru (gm_aload_n dX11_puts_31 rfl (by first | exact Or.inl ⟨_, rfl⟩ | exact Or.inr ⟨_, rfl⟩)) ?_
        refine gm_go.ru (gi_const dX11_puts_32) ?_
        refine gm_go.ru (gm_cV dX11_puts_33 (ct_mFail hM (x := 1)) rfl mt_X11_fail mv_X11_fail (lk_X11_74 rfl) (Or.inl ⟨_, 12, _, _, _, rfl, hM, rfl⟩) rfl (Nat.le_of_ble_eq_true rfl) (by decide)) ?_
        exact gm_iret dX11_puts_36 rfl
  ·
    rw [if_neg c0] at hq ⊢
    by_cases c2 : 7 ≤ F 4
    ·
      rw [if_pos c2]
      refine ⟨(h.1.set m (md_c m (zU K 0 2)), h.2), F, ?_, gs_s hM, gs_n hV (by omega), gh_set gh_rf (Or.inl rfl) _⟩
      refine gm_co_of _ (by decide +kernel) rfl (Nat.le_of_ble_eq_true rfl) rfl ?_
      refine gm_go.ru (gm_iload_n dX11_puts_0 rfl) ?_
      refine gm_go.ru (gi_const dX11_puts_1) ?_
      refine gm_go.ru (gi_bipush dX11_puts_2 (by decide +kernel)) ?_
      refine gm_go.ru (gm_cS dX11_puts_4 (ct_mIsIn ha (by decide) (by decide)) rfl mt_X11_isIn ms_X11_isIn (lk_X11_63 rfl) rfl (Nat.le_of_ble_eq_true rfl) (by decide)) ?_
      rw [zB_t (show (1 ≤ a ∧ a ≤ 60) by omega)]
      refine gm_go.ru (gi_if_eq_f 31 dX11_puts_7 (by decide) (by decide) (by decide)) ?_
      refine gm_go.ru (gm_iload_n dX11_puts_10 rfl) ?_
      refine gm_go.ru (gi_const dX11_puts_11) ?_
      refine gm_go.ru (gi_sipush dX11_puts_12 (by decide +kernel)) ?_
      refine gm_go.ru (gm_cS dX11_puts_15 (ct_mIsIn hb (by decide) (by decide)) rfl mt_X11_isIn ms_X11_isIn (lk_X11_63 rfl) rfl (Nat.le_of_ble_eq_true rfl) (by decide)) ?_
      rw [zB_t (show (1 ≤ b ∧ b ≤ 999) by omega)]
      refine gm_go.ru (gi_if_eq_f 31 dX11_puts_18 (by decide) (by decide) (by decide)) ?_
      refine gm_go.ru (gm_iload_n dX11_puts_21 rfl) ?_
      refine gm_go.ru (gi_const dX11_puts_22) ?_
      refine gm_go.ru (gi_bipush dX11_puts_23 (by decide +kernel)) ?_
      refine gm_go.ru (gm_cS dX11_puts_25 (ct_mIsIn hc (by decide) (by decide)) rfl mt_X11_isIn ms_X11_isIn (lk_X11_63 rfl) rfl (Nat.le_of_ble_eq_true rfl) (by decide)) ?_
      rw [zB_t (show (1 ≤ c ∧ c ≤ 9) by omega)]
      refine gm_go.ru (gi_if_ne_t (tgt := 37) dX11_puts_28 (by decide) (by decide) (by decide)) ?_
      refine gm_go.ru (gm_aload_n dX11_puts_37 rfl (by first | exact Or.inl ⟨_, rfl⟩ | exact Or.inr ⟨_, rfl⟩)) ?_
      refine gm_go.ru (gm_get dX11_puts_38 (fl_X11_16 rfl) hM rfl) ?_
      refine gm_go.ru (gi_const dX11_puts_41) ?_
      refine gm_go.ru (gi_aldN (a := 4) dX11_puts_42 hV (by decide) (by decide)) ?_
      refine gm_go.ru (gm_istore (ls' := [_, _, _, _, _]) dX11_puts_43 (by decide) rfl) ?_
      refine gm_go.ru (gm_iload dX11_puts_45 rfl) ?_
      refine gm_go.ru (gi_bipush dX11_puts_47 (by decide +kernel)) ?_
      refine gm_go.ru (gi_icmp_ne_f 58 dX11_puts_49 (by decide) (by omega) (by omega) (by omega)) ?_
      refine gm_go.ru (gm_aload_n dX11_puts_52 rfl (by first | exact Or.inl ⟨_, rfl⟩ | exact Or.inr ⟨_, rfl⟩)) ?_
      refine gm_go.ru (gi_const dX11_puts_53) ?_
      refine gm_go.ru (gm_cV dX11_puts_54 (ct_mFail hM (x := 2)) rfl mt_X11_fail mv_X11_fail (lk_X11_74 rfl) (Or.inl ⟨_, 12, _, _, _, rfl, hM, rfl⟩) rfl (Nat.le_of_ble_eq_true rfl) (by decide)) ?_
      exact gm_iret dX11_puts_57 rfl
    · rw [if_neg c2] at hq; exact absurd rfl hq
set_option maxRecDepth 4000 in
theorem ct_mputs {h : gm_H} {m : Nat} {K F : Nat → Int} (hM : h.1[m]? = some (md_c m K)) (hV : h.1[m + 1]? = some (gA 118 F)) {T : Nat} {a b c : Int} (hv : st_iv T F) (ha : zR a) (hb : zR b) (hc : zR c) (hq : zqWhy F 6 a b c = 0) : ∃ h' F', gm_co mX11_puts 2 [.ref m, .int (zI a), .int (zI b), .int (zI c)] h (.inl (some (.int (zI (zAn F 6 a b c))))) h' ∧ h'.1[m]? = some (md_c m K) ∧ h'.1[m + 1]? = some (gA 118 F') ∧ (∀ k, k < 118 → F' k = zDo F 6 a b c k) ∧ gh_fr h h' (fun k => k = m + 1) := by
  have q0 : ¬ ((a < 1 ∨ 60 < a) ∨ (b < 1 ∨ 999 < b) ∨ (c < 1 ∨ 9 < c)) ∧ ¬ 7 ≤ F 4 := by
    unfold zqWhy zqBatch at hq
    simp only at hq
    split at hq
    · omega
    · split at hq <;> omega
  obtain ⟨n, hn, hn7⟩ := ov_cnt hv.2
  obtain ⟨a1, ha1⟩ : ∃ y : gm_H, y = (h.1.set (m + 1) (gA 118 (zU (F) (90 + 4 * n) (F 3))), h.2) := ⟨_, rfl⟩
  have fr_a1 : gh_fr h a1 (fun k => k = m + 1) := by rw [ha1]; exact gh_set (K := (fun k => k = m + 1)) gh_rf (by first | exact rfl | exact Or.inr rfl | exact Or.inr (Or.inl rfl)) _
  have V_a1 : a1.1[m + 1]? = some (gA 118 (zU (F) (90 + 4 * n) (F 3))) := by rw [ha1]; exact gs_s hV
  have M_a1 := gs_n (c' := gA 118 (zU (F) (90 + 4 * n) (F 3))) hM (show m + 1 ≠ m by omega)
  rw [← ha1] at M_a1
  obtain ⟨a2, ha2⟩ : ∃ y : gm_H, y = (a1.1.set (m + 1) (gA 118 (zU (zU (F) (90 + 4 * n) (F 3)) (91 + 4 * n) (a))), a1.2) := ⟨_, rfl⟩
  have fr_a2 : gh_fr h a2 (fun k => k = m + 1) := by rw [ha2]; exact gh_set (K := (fun k => k = m + 1)) fr_a1 (by first | exact rfl | exact Or.inr rfl | exact Or.inr (Or.inl rfl)) _
  have V_a2 : a2.1[m + 1]? = some (gA 118 (zU (zU (F) (90 + 4 * n) (F 3)) (91 + 4 * n) (a))) := by rw [ha2]; exact gs_s V_a1
  have M_a2 := gs_n (c' := gA 118 (zU (zU (F) (90 + 4 * n) (F 3)) (91 + 4 * n) (a))) M_a1 (show m + 1 ≠ m by omega)
  rw [← ha2] at M_a2
  obtain ⟨a3, ha3⟩ : ∃ y : gm_H, y = (a2.1.set (m + 1) (gA 118 (zU (zU (zU (F) (90 + 4 * n) (F 3)) (91 + 4 * n) (a)) (92 + 4 * n) (b))), a2.2) := ⟨_, rfl⟩
  have fr_a3 : gh_fr h a3 (fun k => k = m + 1) := by rw [ha3]; exact gh_set (K := (fun k => k = m + 1)) fr_a2 (by first | exact rfl | exact Or.inr rfl | exact Or.inr (Or.inl rfl)) _
  have V_a3 : a3.1[m + 1]? = some (gA 118 (zU (zU (zU (F) (90 + 4 * n) (F 3)) (91 + 4 * n) (a)) (92 + 4 * n) (b))) := by rw [ha3]; exact gs_s V_a2
  have M_a3 := gs_n (c' := gA 118 (zU (zU (zU (F) (90 + 4 * n) (F 3)) (91 + 4 * n) (a)) (92 + 4 * n) (b))) M_a2 (show m + 1 ≠ m by omega)
  rw [← ha3] at M_a3
  obtain ⟨a4, ha4⟩ : ∃ y : gm_H, y = (a3.1.set (m + 1) (gA 118 (zU (zU (zU (zU (F) (90 + 4 * n) (F 3)) (91 + 4 * n) (a)) (92 + 4 * n) (b)) (93 + 4 * n) (c))), a3.2) := ⟨_, rfl⟩
  have fr_a4 : gh_fr h a4 (fun k => k = m + 1) := by rw [ha4]; exact gh_set (K := (fun k => k = m + 1)) fr_a3 (by first | exact rfl | exact Or.inr rfl | exact Or.inr (Or.inl rfl)) _
  have V_a4 : a4.1[m + 1]? = some (gA 118 (zU (zU (zU (zU (F) (90 + 4 * n) (F 3)) (91 + 4 * n) (a)) (92 + 4 * n) (b)) (93 + 4 * n) (c))) := by rw [ha4]; exact gs_s V_a3
  have M_a4 := gs_n (c' := gA 118 (zU (zU (zU (zU (F) (90 + 4 * n) (F 3)) (91 + 4 * n) (a)) (92 + 4 * n) (b)) (93 + 4 * n) (c))) M_a3 (show m + 1 ≠ m by omega)
  rw [← ha4] at M_a4
  obtain ⟨a5, ha5⟩ : ∃ y : gm_H, y = (a4.1.set (m + 1) (gA 118 (zU (zU (zU (zU (zU (F) (90 + 4 * n) (F 3)) (91 + 4 * n) (a)) (92 + 4 * n) (b)) (93 + 4 * n) (c)) (4) (F 4 + 1))), a4.2) := ⟨_, rfl⟩
  have fr_a5 : gh_fr h a5 (fun k => k = m + 1) := by rw [ha5]; exact gh_set (K := (fun k => k = m + 1)) fr_a4 (by first | exact rfl | exact Or.inr rfl | exact Or.inr (Or.inl rfl)) _
  have V_a5 : a5.1[m + 1]? = some (gA 118 (zU (zU (zU (zU (zU (F) (90 + 4 * n) (F 3)) (91 + 4 * n) (a)) (92 + 4 * n) (b)) (93 + 4 * n) (c)) (4) (F 4 + 1))) := by rw [ha5]; exact gs_s V_a4
  have M_a5 := gs_n (c' := gA 118 (zU (zU (zU (zU (zU (F) (90 + 4 * n) (F 3)) (91 + 4 * n) (a)) (92 + 4 * n) (b)) (93 + 4 * n) (c)) (4) (F 4 + 1))) M_a4 (show m + 1 ≠ m by omega)
  rw [← ha5] at M_a5
  obtain ⟨a6, ha6⟩ : ∃ y : gm_H, y = (a5.1.set (m + 1) (gA 118 (zU (zU (zU (zU (zU (zU (F) (90 + 4 * n) (F 3)) (91 + 4 * n) (a)) (92 + 4 * n) (b)) (93 + 4 * n) (c)) (4) (F 4 + 1)) (3) (F 3 + 1))), a5.2) := ⟨_, rfl⟩
  have fr_a6 : gh_fr h a6 (fun k => k = m + 1) := by rw [ha6]; exact gh_set (K := (fun k => k = m + 1)) fr_a5 (by first | exact rfl | exact Or.inr rfl | exact Or.inr (Or.inl rfl)) _
  have V_a6 : a6.1[m + 1]? = some (gA 118 (zU (zU (zU (zU (zU (zU (F) (90 + 4 * n) (F 3)) (91 + 4 * n) (a)) (92 + 4 * n) (b)) (93 + 4 * n) (c)) (4) (F 4 + 1)) (3) (F 3 + 1))) := by rw [ha6]; exact gs_s V_a5
  have M_a6 := gs_n (c' := gA 118 (zU (zU (zU (zU (zU (zU (F) (90 + 4 * n) (F 3)) (91 + 4 * n) (a)) (92 + 4 * n) (b)) (93 + 4 * n) (c)) (4) (F 4 + 1)) (3) (F 3 + 1))) M_a5 (show m + 1 ≠ m by omega)
  rw [← ha6] at M_a6
  have y4 : (zU (zU (zU (zU (F) (90 + 4 * n) (F 3)) (91 + 4 * n) (a)) (92 + 4 * n) (b)) (93 + 4 * n) (c)) 4 = F 4 := by rw [zU_n (by omega), zU_n (by omega), zU_n (by omega), zU_n (by omega)]
  have y3 : (zU (zU (zU (zU (zU (F) (90 + 4 * n) (F 3)) (91 + 4 * n) (a)) (92 + 4 * n) (b)) (93 + 4 * n) (c)) (4) (F 4 + 1)) 3 = F 3 := by rw [zU_n (by omega), zU_n (by omega), zU_n (by omega), zU_n (by omega), zU_n (by omega)]
  have y9 : (zU (zU (zU (zU (zU (zU (F) (90 + 4 * n) (F 3)) (91 + 4 * n) (a)) (92 + 4 * n) (b)) (93 + 4 * n) (c)) (4) (F 4 + 1)) (3) (F 3 + 1)) (90 + 4 * n) = F 3 := by rw [zU_n (by omega), zU_n (by omega), zU_n (by omega), zU_n (by omega), zU_n (by omega), zU_s]
  refine ⟨a6, _, ?_, M_a6, V_a6, fun k hk => ?_, fr_a6⟩
  ·
    show gm_co _ _ _ _ (.inl (some (.int (zI (F 3))))) _
    refine gm_co_of _ (by decide +kernel) rfl (Nat.le_of_ble_eq_true rfl) rfl ?_
    refine gm_go.ru (gm_iload_n dX11_puts_0 rfl) ?_
    refine gm_go.ru (gi_const dX11_puts_1) ?_
    refine gm_go.ru (gi_bipush dX11_puts_2 (by decide +kernel)) ?_
    refine gm_go.ru (gm_cS dX11_puts_4 (ct_mIsIn ha (by decide) (by decide)) rfl mt_X11_isIn ms_X11_isIn (lk_X11_63 rfl) rfl (Nat.le_of_ble_eq_true rfl) (by decide)) ?_
    rw [zB_t (show (1 ≤ a ∧ a ≤ 60) by omega)]
    refine gm_go.ru (gi_if_eq_f 31 dX11_puts_7 (by decide) (by decide) (by decide)) ?_
    refine gm_go.ru (gm_iload_n dX11_puts_10 rfl) ?_
    refine gm_go.ru (gi_const dX11_puts_11) ?_
    refine gm_go.ru (gi_sipush dX11_puts_12 (by decide +kernel)) ?_
    refine gm_go.ru (gm_cS dX11_puts_15 (ct_mIsIn hb (by decide) (by decide)) rfl mt_X11_isIn ms_X11_isIn (lk_X11_63 rfl) rfl (Nat.le_of_ble_eq_true rfl) (by decide)) ?_
    rw [zB_t (show (1 ≤ b ∧ b ≤ 999) by omega)]
    refine gm_go.ru (gi_if_eq_f 31 dX11_puts_18 (by decide) (by decide) (by decide)) ?_
    refine gm_go.ru (gm_iload_n dX11_puts_21 rfl) ?_
    refine gm_go.ru (gi_const dX11_puts_22) ?_
    refine gm_go.ru (gi_bipush dX11_puts_23 (by decide +kernel)) ?_
    refine gm_go.ru (gm_cS dX11_puts_25 (ct_mIsIn hc (by decide) (by decide)) rfl mt_X11_isIn ms_X11_isIn (lk_X11_63 rfl) rfl (Nat.le_of_ble_eq_true rfl) (by decide)) ?_
    rw [zB_t (show (1 ≤ c ∧ c ≤ 9) by omega)]
    refine gm_go.ru (gi_if_ne_t (tgt := 37) dX11_puts_28 (by decide) (by decide) (by decide)) ?_
    refine gm_go.ru (gm_aload_n dX11_puts_37 rfl (by first | exact Or.inl ⟨_, rfl⟩ | exact Or.inr ⟨_, rfl⟩)) ?_
    refine gm_go.ru (gm_get dX11_puts_38 (fl_X11_16 rfl) hM rfl) ?_
    refine gm_go.ru (gi_const dX11_puts_41) ?_
    refine gm_go.ru (gi_aldN (a := 4) dX11_puts_42 hV (by decide) (by decide)) ?_
    rw [hn]
    refine gm_go.ru (gm_istore (ls' := [_, _, _, _, _]) dX11_puts_43 (by decide) rfl) ?_
    refine gm_go.ru (gm_iload dX11_puts_45 rfl) ?_
    refine gm_go.ru (gi_bipush dX11_puts_47 (by decide +kernel)) ?_
    refine gm_go.ru (gi_icmp_ne_t (tgt := 58) dX11_puts_49 (by decide) (by omega) (by omega) (by omega)) ?_
    refine gm_go.ru (gm_aload_n dX11_puts_58 rfl (by first | exact Or.inl ⟨_, rfl⟩ | exact Or.inr ⟨_, rfl⟩)) ?_
    refine gm_go.ru (gm_get dX11_puts_59 (fl_X11_16 rfl) hM rfl) ?_
    refine gm_go.ru (gm_iload dX11_puts_62 rfl) ?_
    refine gm_go.ru (gi_const dX11_puts_64) ?_
    refine gm_go.ru (gm_cS dX11_puts_65 (ct_mAt (i := n) (w := 0)) rfl mt_X11_at ms_X11_at (lk_X11_71 rfl) rfl (Nat.le_of_ble_eq_true rfl) (by decide)) ?_
    rw [show 90 + 4 * n + 0 = 90 + 4 * n by omega]
    refine gm_go.ru (gm_aload_n dX11_puts_68 rfl (by first | exact Or.inl ⟨_, rfl⟩ | exact Or.inr ⟨_, rfl⟩)) ?_
    refine gm_go.ru (gm_get dX11_puts_69 (fl_X11_16 rfl) hM rfl) ?_
    refine gm_go.ru (gi_const dX11_puts_72) ?_
    refine gm_go.ru (gi_aldN (a := 3) dX11_puts_73 hV (by decide) (by decide)) ?_
    refine gm_go.ru (gi_astN dX11_puts_74 hV (by omega) (by decide)) ?_
    refine gm_hp ha1 ?_
    refine gm_go.ru (gm_aload_n dX11_puts_75 rfl (by first | exact Or.inl ⟨_, rfl⟩ | exact Or.inr ⟨_, rfl⟩)) ?_
    refine gm_go.ru (gm_get dX11_puts_76 (fl_X11_16 rfl) M_a1 rfl) ?_
    refine gm_go.ru (gm_iload dX11_puts_79 rfl) ?_
    refine gm_go.ru (gi_const dX11_puts_81) ?_
    refine gm_go.ru (gm_cS dX11_puts_82 (ct_mAt (i := n) (w := 1)) rfl mt_X11_at ms_X11_at (lk_X11_71 rfl) rfl (Nat.le_of_ble_eq_true rfl) (by decide)) ?_
    rw [show 90 + 4 * n + 1 = 91 + 4 * n by omega]
    refine gm_go.ru (gm_iload_n dX11_puts_85 rfl) ?_
    refine gm_go.ru (gi_astN dX11_puts_86 V_a1 (by omega) (by decide)) ?_
    refine gm_hp ha2 ?_
    refine gm_go.ru (gm_aload_n dX11_puts_87 rfl (by first | exact Or.inl ⟨_, rfl⟩ | exact Or.inr ⟨_, rfl⟩)) ?_
    refine gm_go.ru (gm_get dX11_puts_88 (fl_X11_16 rfl) M_a2 rfl) ?_
    refine gm_go.ru (gm_iload dX11_puts_91 rfl) ?_
    refine gm_go.ru (gi_const dX11_puts_93) ?_
    refine gm_go.ru (gm_cS dX11_puts_94 (ct_mAt (i := n) (w := 2)) rfl mt_X11_at ms_X11_at (lk_X11_71 rfl) rfl (Nat.le_of_ble_eq_true rfl) (by decide)) ?_
    rw [show 90 + 4 * n + 2 = 92 + 4 * n by omega]
    refine gm_go.ru (gm_iload_n dX11_puts_97 rfl) ?_
    refine gm_go.ru (gi_astN dX11_puts_98 V_a2 (by omega) (by decide)) ?_
    refine gm_hp ha3 ?_
    refine gm_go.ru (gm_aload_n dX11_puts_99 rfl (by first | exact Or.inl ⟨_, rfl⟩ | exact Or.inr ⟨_, rfl⟩)) ?_
    refine gm_go.ru (gm_get dX11_puts_100 (fl_X11_16 rfl) M_a3 rfl) ?_
    refine gm_go.ru (gm_iload dX11_puts_103 rfl) ?_
    refine gm_go.ru (gi_const dX11_puts_105) ?_
    refine gm_go.ru (gm_cS dX11_puts_106 (ct_mAt (i := n) (w := 3)) rfl mt_X11_at ms_X11_at (lk_X11_71 rfl) rfl (Nat.le_of_ble_eq_true rfl) (by decide)) ?_
    rw [show 90 + 4 * n + 3 = 93 + 4 * n by omega]
    refine gm_go.ru (gm_iload_n dX11_puts_109 rfl) ?_
    refine gm_go.ru (gi_astN dX11_puts_110 V_a3 (by omega) (by decide)) ?_
    refine gm_hp ha4 ?_
    refine gm_go.ru (gm_aload_n dX11_puts_111 rfl (by first | exact Or.inl ⟨_, rfl⟩ | exact Or.inr ⟨_, rfl⟩)) ?_
    refine gm_go.ru (gm_get dX11_puts_112 (fl_X11_16 rfl) M_a4 rfl) ?_
    refine gm_go.ru (gi_const dX11_puts_115) ?_
    refine gm_go.ru (gm_dup2 dX11_puts_116 rfl rfl) ?_
    refine gm_go.ru (gi_aldN (a := 4) dX11_puts_117 V_a4 (by decide) (by decide)) ?_
    rw [y4]
    refine gm_go.ru (gi_const dX11_puts_118) ?_
    refine gm_go.ru (gi_add dX11_puts_119) ?_
    refine gm_go.ru (gi_astN (a := 4) dX11_puts_120 V_a4 (by decide) (by decide)) ?_
    refine gm_hp ha5 ?_
    refine gm_go.ru (gm_aload_n dX11_puts_121 rfl (by first | exact Or.inl ⟨_, rfl⟩ | exact Or.inr ⟨_, rfl⟩)) ?_
    refine gm_go.ru (gm_get dX11_puts_122 (fl_X11_16 rfl) M_a5 rfl) ?_
    refine gm_go.ru (gi_const dX11_puts_125) ?_
    refine gm_go.ru (gm_dup2 dX11_puts_126 rfl rfl) ?_
    refine gm_go.ru (gi_aldN (a := 3) dX11_puts_127 V_a5 (by decide) (by decide)) ?_
    rw [y3]
    refine gm_go.ru (gi_const dX11_puts_128) ?_
    refine gm_go.ru (gi_add dX11_puts_129) ?_
    refine gm_go.ru (gi_astN (a := 3) dX11_puts_130 V_a5 (by decide) (by decide)) ?_
    refine gm_hp ha6 ?_
    refine gm_go.ru (gm_aload_n dX11_puts_131 rfl (by first | exact Or.inl ⟨_, rfl⟩ | exact Or.inr ⟨_, rfl⟩)) ?_
    refine gm_go.ru (gm_get dX11_puts_132 (fl_X11_16 rfl) M_a6 rfl) ?_
    refine gm_go.ru (gm_iload dX11_puts_135 rfl) ?_
    refine gm_go.ru (gi_const dX11_puts_137) ?_
    refine gm_go.ru (gm_cS dX11_puts_138 (ct_mAt (i := n) (w := 0)) rfl mt_X11_at ms_X11_at (lk_X11_71 rfl) rfl (Nat.le_of_ble_eq_true rfl) (by decide)) ?_
    rw [show 90 + 4 * n + 0 = 90 + 4 * n by omega]
    refine gm_go.ru (gi_aldN dX11_puts_141 V_a6 (by omega) (by decide)) ?_
    rw [y9]
    exact gm_iret dX11_puts_142 rfl
  · show _ = zAddB F a b c k
    unfold zAddB
    rw [hn, Int.toNat_natCast]
/-- taken out at p as far as the place j -/
def zOutF (F : Nat → Int) (p j : Nat) : Nat → Int := fun k => if 90 + 4 * p ≤ k ∧ k < j then (if k + 4 < 118 then F (k + 4) else 0) else F k
theorem zOutF_0 (F : Nat → Int) (p : Nat) : zOutF F p (90 + 4 * p) = F := by funext k; unfold zOutF; rw [if_neg (by omega)]
theorem zOutF_s (F : Nat → Int) (p j : Nat) (h : 90 + 4 * p ≤ j) : zU (zOutF F p j) j (if j + 4 < 118 then F (j + 4) else 0) = zOutF F p (j + 1) := by
  funext k
  unfold zU zOutF
  by_cases e : k = j
  · subst e
    rw [if_pos rfl, if_pos (show 90 + 4 * p ≤ k ∧ k < k + 1 by omega)]
  · rw [if_neg e]
    by_cases c : 90 + 4 * p ≤ k ∧ k < j
    · rw [if_pos c, if_pos (show 90 + 4 * p ≤ k ∧ k < j + 1 by omega)]
    · rw [if_neg c, if_neg (show ¬ (90 + 4 * p ≤ k ∧ k < j + 1) by omega)]
theorem zOutF_e (F : Nat → Int) (p k : Nat) (hk : k < 118) : zU (zOutF F p 118) 4 (F 4 - 1) k = zOutB F p k := by
  unfold zU zOutF zOutB
  by_cases e : k = 4
  · rw [if_pos e]
  · rw [if_neg e]
set_option maxRecDepth 4000 in
theorem ct_mgoesX {h : gm_H} {m : Nat} {K F : Nat → Int} (hM : h.1[m]? = some (md_c m K)) (hV : h.1[m + 1]? = some (gA 118 F)) {T : Nat} {a b c : Int} (hv : st_iv T F) (ha : zR a) (hq : zqWhy F 7 a 0 0 ≠ 0) : ∃ h' F', gm_co mX11_goes 2 [.ref m, .int (zI (zFind F a))] h (.inl (some (.int (zI 0)))) h' ∧ h'.1[m]? = some (md_c m (zU K 0 (zCd 7 (zqWhy F 7 a 0 0)))) ∧ h'.1[m + 1]? = some (gA 118 F') ∧ gh_fr h h' (fun k => k = m ∨ k = m + 1) := by
  have zr := zFind_r hv.2 a
  have o4 := hv.2.2.2.1
  unfold zqWhy at *
  simp only at *
  by_cases c1 : zFind F a < 0
  ·
    rw [if_pos c1]
    refine ⟨(h.1.set m (md_c m (zU K 0 1)), h.2), F, ?_, gs_s hM, gs_n hV (by omega), gh_set gh_rf (Or.inl rfl) _⟩
    refine gm_co_of _ (by decide +kernel) rfl (Nat.le_of_ble_eq_true rfl) rfl ?_
    refine gm_go.ru (gm_iload_n dX11_goes_0 rfl) ?_
    refine gm_go.ru (gi_if_ge_f 10 dX11_goes_1 (by decide) (by rcases zr with e | ⟨k, e, e4⟩ <;> omega) (by omega)) ?_
    refine gm_go.ru (gm_aload_n dX11_goes_4 rfl (by first | exact Or.inl ⟨_, rfl⟩ | exact Or.inr ⟨_, rfl⟩)) ?_
    refine gm_go.ru (gi_const dX11_goes_5) ?_
    refine gm_go.ru (gm_cV dX11_goes_6 (ct_mFail hM (x := 1)) rfl mt_X11_fail mv_X11_fail (lk_X11_74 rfl) (Or.inl ⟨_, 12, _, _, _, rfl, hM, rfl⟩) rfl (Nat.le_of_ble_eq_true rfl) (by decide)) ?_
    exact gm_iret dX11_goes_9 rfl
  · rw [if_neg c1] at hq; exact absurd rfl hq
set_option maxRecDepth 4000 in
theorem mg_in {m p : Nat} {K F : Nat → Int} {x : Int} : ∀ (z j : Nat) (h : gm_H), 90 + 4 * p ≤ j → j + z = 118 → h.1[m]? = some (md_c m K) → h.1[m + 1]? = some (gA 118 (zOutF F p j)) → ∃ h', gm_ru mX11_goes 2 (16, [some (.ref m), some (.int (zI x)), some (.int (zI (j : Int)))], [], h) (.inl (some (.int (zI (F 4 - 1))))) h' ∧ h'.1[m]? = some (md_c m K) ∧ h'.1[m + 1]? = some (gA 118 (zU (zOutF F p 118) 4 (F 4 - 1))) ∧ gh_fr h h' (fun k => k = m + 1) := by
  intro z
  induction z with
  | zero =>
    intro j h hp hj hM hV
    obtain rfl : j = 118 := by omega
    obtain ⟨a1, ha1⟩ : ∃ y : gm_H, y = (h.1.set (m + 1) (gA 118 (zU (zOutF F p 118) 4 (F 4 - 1))), h.2) := ⟨_, rfl⟩
    have fr_a1 : gh_fr h a1 (fun k => k = m + 1) := by rw [ha1]; exact gh_set (K := (fun k => k = m + 1)) gh_rf (by first | exact rfl | exact Or.inr rfl | exact Or.inr (Or.inl rfl)) _
    have V_a1 : a1.1[m + 1]? = some (gA 118 (zU (zOutF F p 118) 4 (F 4 - 1))) := by rw [ha1]; exact gs_s hV
    have M_a1 := gs_n (c' := gA 118 (zU (zOutF F p 118) 4 (F 4 - 1))) hM (show m + 1 ≠ m by omega)
    rw [← ha1] at M_a1
    refine ⟨a1, ?_, M_a1, V_a1, fr_a1⟩
    have e0 : zOutF F p 118 4 = F 4 := by unfold zOutF; rw [if_neg (by omega)]
    refine gm_go.ru (gm_iload_n dX11_goes_16 rfl) ?_
    refine gm_go.ru (gi_bipush dX11_goes_17 (by decide +kernel)) ?_
    refine gm_go.ru (gi_icmp_ge_t (tgt := 54) dX11_goes_19 (by decide) (by omega) (by omega) (by omega)) ?_
    refine gm_go.ru (gm_aload_n dX11_goes_54 rfl (by first | exact Or.inl ⟨_, rfl⟩ | exact Or.inr ⟨_, rfl⟩)) ?_
    refine gm_go.ru (gm_get dX11_goes_55 (fl_X11_16 rfl) hM rfl) ?_
    refine gm_go.ru (gi_const dX11_goes_58) ?_
    refine gm_go.ru (gm_dup2 dX11_goes_59 rfl rfl) ?_
    refine gm_go.ru (gi_aldN (a := 4) dX11_goes_60 hV (by decide) (by decide)) ?_
    rw [e0]
    refine gm_go.ru (gi_const dX11_goes_61) ?_
    refine gm_go.ru (gi_sub dX11_goes_62) ?_
    refine gm_go.ru (gi_astN (a := 4) dX11_goes_63 hV (by decide) (by decide)) ?_
    refine gm_hp ha1 ?_
    refine gm_go.ru (gm_aload_n dX11_goes_64 rfl (by first | exact Or.inl ⟨_, rfl⟩ | exact Or.inr ⟨_, rfl⟩)) ?_
    refine gm_go.ru (gm_get dX11_goes_65 (fl_X11_16 rfl) M_a1 rfl) ?_
    refine gm_go.ru (gi_const dX11_goes_68) ?_
    refine gm_go.ru (gi_aldN (a := 4) dX11_goes_69 V_a1 (by decide) (by decide)) ?_
    rw [zU_s]
    exact gm_iret dX11_goes_70 rfl
  | succ z ih =>
    intro j h hp hj hM hV
    by_cases c1 : j + 4 < 118
    ·
      obtain ⟨a1, ha1⟩ : ∃ y : gm_H, y = (h.1.set (m + 1) (gA 118 (zU (zOutF F p j) j (F (j + 4)))), h.2) := ⟨_, rfl⟩
      have fr_a1 : gh_fr h a1 (fun k => k = m + 1) := by rw [ha1]; exact gh_set (K := (fun k => k = m + 1)) gh_rf (by first | exact rfl | exact Or.inr rfl | exact Or.inr (Or.inl rfl)) _
      have V_a1 : a1.1[m + 1]? = some (gA 118 (zU (zOutF F p j) j (F (j + 4)))) := by rw [ha1]; exact gs_s hV
      have M_a1 := gs_n (c' := gA 118 (zU (zOutF F p j) j (F (j + 4)))) hM (show m + 1 ≠ m by omega)
      rw [← ha1] at M_a1
      have V2 := V_a1
      rw [show zU (zOutF F p j) j (F (j + 4)) = zOutF F p (j + 1) by rw [← zOutF_s F p j hp, if_pos c1]] at V2
      obtain ⟨h', e1, e2, e3, e4⟩ := ih (j + 1) a1 (by omega) (by omega) M_a1 V2
      refine ⟨h', ?_, e2, e3, gh_tr fr_a1 e4⟩
      have e0 : zOutF F p j (j + 4) = F (j + 4) := by unfold zOutF; rw [if_neg (by omega)]
      refine gm_go.ru (gm_iload_n dX11_goes_16 rfl) ?_
      refine gm_go.ru (gi_bipush dX11_goes_17 (by decide +kernel)) ?_
      refine gm_go.ru (gi_icmp_ge_f 54 dX11_goes_19 (by decide) (by omega) (by omega) (by omega)) ?_
      refine gm_go.ru (gm_aload_n dX11_goes_22 rfl (by first | exact Or.inl ⟨_, rfl⟩ | exact Or.inr ⟨_, rfl⟩)) ?_
      refine gm_go.ru (gm_get dX11_goes_23 (fl_X11_16 rfl) hM rfl) ?_
      refine gm_go.ru (gm_iload_n dX11_goes_26 rfl) ?_
      refine gm_go.ru (gm_iload_n dX11_goes_27 rfl) ?_
      refine gm_go.ru (gi_const dX11_goes_28) ?_
      refine gm_go.ru (gi_add dX11_goes_29) ?_
      refine gm_go.ru (gi_bipush dX11_goes_30 (by decide +kernel)) ?_
      refine gm_go.ru (gi_icmp_ge_f 46 dX11_goes_32 (by decide) (by omega) (by omega) (by omega)) ?_
      refine gm_go.ru (gm_aload_n dX11_goes_35 rfl (by first | exact Or.inl ⟨_, rfl⟩ | exact Or.inr ⟨_, rfl⟩)) ?_
      refine gm_go.ru (gm_get dX11_goes_36 (fl_X11_16 rfl) hM rfl) ?_
      refine gm_go.ru (gm_iload_n dX11_goes_39 rfl) ?_
      refine gm_go.ru (gi_const dX11_goes_40) ?_
      refine gm_go.ru (gi_add dX11_goes_41) ?_
      refine gm_go.ru (gi_aldN (a := j + 4) dX11_goes_42 hV (by omega) (by decide)) ?_
      rw [e0]
      refine gm_go.ru (gm_goto (tgt := 47) dX11_goes_43 (by decide)) ?_
      refine gm_go.ru (gi_astN dX11_goes_47 hV (by omega) (by decide)) ?_
      refine gm_hp ha1 ?_
      refine gm_go.ru (gi_iinc (ls' := [_, _, _]) dX11_goes_48 rfl (by decide) rfl) ?_
      refine gm_go.ru (gm_goto (tgt := 16) dX11_goes_51 (by decide)) ?_
      exact e1
    ·
      obtain ⟨a1, ha1⟩ : ∃ y : gm_H, y = (h.1.set (m + 1) (gA 118 (zU (zOutF F p j) j (0))), h.2) := ⟨_, rfl⟩
      have fr_a1 : gh_fr h a1 (fun k => k = m + 1) := by rw [ha1]; exact gh_set (K := (fun k => k = m + 1)) gh_rf (by first | exact rfl | exact Or.inr rfl | exact Or.inr (Or.inl rfl)) _
      have V_a1 : a1.1[m + 1]? = some (gA 118 (zU (zOutF F p j) j (0))) := by rw [ha1]; exact gs_s hV
      have M_a1 := gs_n (c' := gA 118 (zU (zOutF F p j) j (0))) hM (show m + 1 ≠ m by omega)
      rw [← ha1] at M_a1
      have V2 := V_a1
      rw [show zU (zOutF F p j) j (0) = zOutF F p (j + 1) by rw [← zOutF_s F p j hp, if_neg c1]] at V2
      obtain ⟨h', e1, e2, e3, e4⟩ := ih (j + 1) a1 (by omega) (by omega) M_a1 V2
      refine ⟨h', ?_, e2, e3, gh_tr fr_a1 e4⟩
      refine gm_go.ru (gm_iload_n dX11_goes_16 rfl) ?_
      refine gm_go.ru (gi_bipush dX11_goes_17 (by decide +kernel)) ?_
      refine gm_go.ru (gi_icmp_ge_f 54 dX11_goes_19 (by decide) (by omega) (by omega) (by omega)) ?_
      refine gm_go.ru (gm_aload_n dX11_goes_22 rfl (by first | exact Or.inl ⟨_, rfl⟩ | exact Or.inr ⟨_, rfl⟩)) ?_
      refine gm_go.ru (gm_get dX11_goes_23 (fl_X11_16 rfl) hM rfl) ?_
      refine gm_go.ru (gm_iload_n dX11_goes_26 rfl) ?_
      refine gm_go.ru (gm_iload_n dX11_goes_27 rfl) ?_
      refine gm_go.ru (gi_const dX11_goes_28) ?_
      refine gm_go.ru (gi_add dX11_goes_29) ?_
      refine gm_go.ru (gi_bipush dX11_goes_30 (by decide +kernel)) ?_
      refine gm_go.ru (gi_icmp_ge_t (tgt := 46) dX11_goes_32 (by decide) (by omega) (by omega) (by omega)) ?_
      refine gm_go.ru (gi_const dX11_goes_46) ?_
      refine gm_go.ru (gi_astN dX11_goes_47 hV (by omega) (by decide)) ?_
      refine gm_hp ha1 ?_
      refine gm_go.ru (gi_iinc (ls' := [_, _, _]) dX11_goes_48 rfl (by decide) rfl) ?_
      refine gm_go.ru (gm_goto (tgt := 16) dX11_goes_51 (by decide)) ?_
      exact e1
set_option maxRecDepth 4000 in
theorem ct_mGoP {h : gm_H} {m : Nat} {K F : Nat → Int} (hM : h.1[m]? = some (md_c m K)) (hV : h.1[m + 1]? = some (gA 118 F)) {p : Nat} (hp : p < 7) : ∃ h' F', gm_co mX11_goes 2 [.ref m, .int (zI (p : Int))] h (.inl (some (.int (zI (F 4 - 1))))) h' ∧ h'.1[m]? = some (md_c m K) ∧ h'.1[m + 1]? = some (gA 118 F') ∧ (∀ k, k < 118 → F' k = zOutB F p k) ∧ gh_fr h h' (fun k => k = m + 1) := by
  obtain ⟨h', e1, e2, e3, e4⟩ := mg_in (K := K) (F := F) (p := p) (x := (p : Int)) (118 - (90 + 4 * p)) (90 + 4 * p) h (Nat.le_refl _) (by omega) hM (by rw [zOutF_0]; exact hV)
  refine ⟨h', _, ?_, e2, e3, fun k hk => zOutF_e F p k hk, e4⟩
  refine gm_co_of _ (by decide +kernel) rfl (Nat.le_of_ble_eq_true rfl) rfl ?_
  refine gm_go.ru (gm_iload_n dX11_goes_0 rfl) ?_
  refine gm_go.ru (gi_if_ge_t (tgt := 10) dX11_goes_1 (by decide) (by omega) (by omega)) ?_
  refine gm_go.ru (gm_iload_n dX11_goes_10 rfl) ?_
  refine gm_go.ru (gi_const dX11_goes_11) ?_
  refine gm_go.ru (gm_cS dX11_goes_12 (ct_mAt (i := p) (w := 0)) rfl mt_X11_at ms_X11_at (lk_X11_71 rfl) rfl (Nat.le_of_ble_eq_true rfl) (by decide)) ?_
  rw [show 90 + 4 * p + 0 = 90 + 4 * p by omega]
  refine gm_go.ru (gm_istore_n (ls' := [_, _, _]) dX11_goes_15 (by decide) rfl) ?_
  exact e1
set_option maxRecDepth 4000 in
theorem ct_mgoes {h : gm_H} {m : Nat} {K F : Nat → Int} (hM : h.1[m]? = some (md_c m K)) (hV : h.1[m + 1]? = some (gA 118 F)) {T : Nat} {a b c : Int} (hv : st_iv T F) (ha : zR a) (hq : zqWhy F 7 a 0 0 = 0) : ∃ h' F', gm_co mX11_goes 2 [.ref m, .int (zI (zFind F a))] h (.inl (some (.int (zI (zAn F 7 a 0 0))))) h' ∧ h'.1[m]? = some (md_c m K) ∧ h'.1[m + 1]? = some (gA 118 F') ∧ (∀ k, k < 118 → F' k = zDo F 7 a 0 0 k) ∧ gh_fr h h' (fun k => k = m + 1) := by
  have q0 : ¬ zFind F a < 0 := by
    unfold zqWhy at hq
    simp only at hq
    split at hq <;> omega
  obtain ⟨p, hp, hp4⟩ := (zFind_r hv.2 a).resolve_left (by omega)
  have o4 := hv.2.2.2.1
  obtain ⟨h', F', e1, e2, e3, e4, e5⟩ := ct_mGoP hM hV (p := p) (by omega)
  refine ⟨h', F', ?_, e2, e3, fun k hk => (e4 k hk).trans ?_, e5⟩
  · rw [hp]; exact e1
  · show _ = zOutB F (zFind F a).toNat k; rw [hp, Int.toNat_natCast]
/-- the lateness of the batch at p if it is done at x -/
def zLd (F : Nat → Int) (p : Nat) (x : Int) : Int := if 0 < x - F (92 + 4 * p) then F (93 + 4 * p) * (x - F (92 + 4 * p)) else 0
theorem zLd_e (F : Nat → Int) (p : Nat) (s : Int) : zLd F p (s + F (91 + 4 * p)) = zLt F p s := rfl
set_option maxRecDepth 4000 in
theorem ct_mLateF {h : gm_H} {m : Nat} {K F : Nat → Int} (hM : h.1[m]? = some (md_c m K)) {G : Nat → Int} (hV : h.1[m + 1]? = some (gA 118 G)) {T p : Nat} {x : Int} (hv : ov_iv T F) (hp : (p : Int) < F 4) (hG : ∀ k, 90 ≤ k → k < 118 → G k = F k) (hx : 0 ≤ x ∧ x ≤ 1000000) : gm_co mX11_late 2 [.ref m, .int (zI (p : Int)), .int (zI x)] h (.inl (some (.int (zI (zLd F p x))))) h := by
  refine gm_co_of _ (by decide +kernel) rfl (Nat.le_of_ble_eq_true rfl) rfl ?_
  have hb := hv.2.2.2.2.2.2.2.2 p hp
  have o4 := hv.2.2.1
  unfold zLd
  by_cases c1 : 0 < x - F (92 + 4 * p)
  ·
    rw [if_pos c1]
    refine gm_go.ru (gm_iload_n dX11_late_0 rfl) ?_
    refine gm_go.ru (gm_aload_n dX11_late_1 rfl (by first | exact Or.inl ⟨_, rfl⟩ | exact Or.inr ⟨_, rfl⟩)) ?_
    refine gm_go.ru (gm_get dX11_late_2 (fl_X11_16 rfl) hM rfl) ?_
    refine gm_go.ru (gm_iload_n dX11_late_5 rfl) ?_
    refine gm_go.ru (gi_const dX11_late_6) ?_
    refine gm_go.ru (gm_cS dX11_late_7 (ct_mAt (i := p) (w := 2)) rfl mt_X11_at ms_X11_at (lk_X11_71 rfl) rfl (Nat.le_of_ble_eq_true rfl) (by decide)) ?_
    rw [show 90 + 4 * p + 2 = 92 + 4 * p by omega]
    refine gm_go.ru (gi_aldN dX11_late_10 hV (by omega) (by decide)) ?_
    rw [hG (92 + 4 * p) (by omega) (by omega)]
    refine gm_go.ru (gi_sub dX11_late_11) ?_
    refine gm_go.ru (gm_istore_n (ls' := [_, _, _, _]) dX11_late_12 (by decide) rfl) ?_
    refine gm_go.ru (gm_iload_n dX11_late_13 rfl) ?_
    refine gm_go.ru (gi_if_le_f 32 dX11_late_14 (by decide) (by omega) (by omega)) ?_
    refine gm_go.ru (gm_aload_n dX11_late_17 rfl (by first | exact Or.inl ⟨_, rfl⟩ | exact Or.inr ⟨_, rfl⟩)) ?_
    refine gm_go.ru (gm_get dX11_late_18 (fl_X11_16 rfl) hM rfl) ?_
    refine gm_go.ru (gm_iload_n dX11_late_21 rfl) ?_
    refine gm_go.ru (gi_const dX11_late_22) ?_
    refine gm_go.ru (gm_cS dX11_late_23 (ct_mAt (i := p) (w := 3)) rfl mt_X11_at ms_X11_at (lk_X11_71 rfl) rfl (Nat.le_of_ble_eq_true rfl) (by decide)) ?_
    rw [show 90 + 4 * p + 3 = 93 + 4 * p by omega]
    refine gm_go.ru (gi_aldN dX11_late_26 hV (by omega) (by decide)) ?_
    rw [hG (93 + 4 * p) (by omega) (by omega)]
    refine gm_go.ru (gm_iload_n dX11_late_27 rfl) ?_
    refine gm_go.ru (gi_mul dX11_late_28) ?_
    refine gm_go.ru (gm_goto (tgt := 33) dX11_late_29 (by decide)) ?_
    exact gm_iret dX11_late_33 rfl
  ·
    rw [if_neg c1]
    refine gm_go.ru (gm_iload_n dX11_late_0 rfl) ?_
    refine gm_go.ru (gm_aload_n dX11_late_1 rfl (by first | exact Or.inl ⟨_, rfl⟩ | exact Or.inr ⟨_, rfl⟩)) ?_
    refine gm_go.ru (gm_get dX11_late_2 (fl_X11_16 rfl) hM rfl) ?_
    refine gm_go.ru (gm_iload_n dX11_late_5 rfl) ?_
    refine gm_go.ru (gi_const dX11_late_6) ?_
    refine gm_go.ru (gm_cS dX11_late_7 (ct_mAt (i := p) (w := 2)) rfl mt_X11_at ms_X11_at (lk_X11_71 rfl) rfl (Nat.le_of_ble_eq_true rfl) (by decide)) ?_
    rw [show 90 + 4 * p + 2 = 92 + 4 * p by omega]
    refine gm_go.ru (gi_aldN dX11_late_10 hV (by omega) (by decide)) ?_
    rw [hG (92 + 4 * p) (by omega) (by omega)]
    refine gm_go.ru (gi_sub dX11_late_11) ?_
    refine gm_go.ru (gm_istore_n (ls' := [_, _, _, _]) dX11_late_12 (by decide) rfl) ?_
    refine gm_go.ru (gm_iload_n dX11_late_13 rfl) ?_
    refine gm_go.ru (gi_if_le_t (tgt := 32) dX11_late_14 (by decide) (by omega) (by omega)) ?_
    refine gm_go.ru (gi_const dX11_late_32) ?_
    exact gm_iret dX11_late_33 rfl
set_option maxRecDepth 4000 in
theorem ct_mbakesX {h : gm_H} {m : Nat} {K F : Nat → Int} (hM : h.1[m]? = some (md_c m K)) (hV : h.1[m + 1]? = some (gA 118 F)) {T : Nat} {a b c : Int} (hv : st_iv T F) (ha : zR a) (hq : zqWhy F 8 a 0 0 ≠ 0) : ∃ h' F', gm_co mX11_bakes 3 [.ref m, .int (zI (zFind F a))] h (.inl (some (.int (zI 0)))) h' ∧ h'.1[m]? = some (md_c m (zU K 0 (zCd 8 (zqWhy F 8 a 0 0)))) ∧ h'.1[m + 1]? = some (gA 118 F') ∧ gh_fr h h' (fun k => k = m ∨ k = m + 1) := by
  have zr := zFind_r hv.2 a
  have o4 := hv.2.2.2.1
  unfold zqWhy at *
  simp only at *
  by_cases c1 : zFind F a < 0
  ·
    rw [if_pos c1]
    refine ⟨(h.1.set m (md_c m (zU K 0 1)), h.2), F, ?_, gs_s hM, gs_n hV (by omega), gh_set gh_rf (Or.inl rfl) _⟩
    refine gm_co_of _ (by decide +kernel) rfl (Nat.le_of_ble_eq_true rfl) rfl ?_
    refine gm_go.ru (gm_iload_n dX11_bakes_0 rfl) ?_
    refine gm_go.ru (gi_if_ge_f 10 dX11_bakes_1 (by decide) (by rcases zr with e | ⟨k, e, e4⟩ <;> omega) (by omega)) ?_
    refine gm_go.ru (gm_aload_n dX11_bakes_4 rfl (by first | exact Or.inl ⟨_, rfl⟩ | exact Or.inr ⟨_, rfl⟩)) ?_
    refine gm_go.ru (gi_const dX11_bakes_5) ?_
    refine gm_go.ru (gm_cV dX11_bakes_6 (ct_mFail hM (x := 1)) rfl mt_X11_fail mv_X11_fail (lk_X11_74 rfl) (Or.inl ⟨_, 12, _, _, _, rfl, hM, rfl⟩) rfl (Nat.le_of_ble_eq_true rfl) (by decide)) ?_
    exact gm_iret dX11_bakes_9 rfl
  · rw [if_neg c1] at hq; exact absurd rfl hq
set_option maxRecDepth 4000 in
theorem ct_mbakes {h : gm_H} {m : Nat} {K F : Nat → Int} (hM : h.1[m]? = some (md_c m K)) (hV : h.1[m + 1]? = some (gA 118 F)) {T : Nat} {a b c : Int} (hv : st_iv T F) (ha : zR a) (hT : T < 1000) (hq : zqWhy F 8 a 0 0 = 0) : ∃ h' F', gm_co mX11_bakes 3 [.ref m, .int (zI (zFind F a))] h (.inl (some (.int (zI (zAn F 8 a 0 0))))) h' ∧ h'.1[m]? = some (md_c m K) ∧ h'.1[m + 1]? = some (gA 118 F') ∧ (∀ k, k < 118 → F' k = zDo F 8 a 0 0 k) ∧ gh_fr h h' (fun k => k = m + 1) := by
  have q0 : ¬ zFind F a < 0 := by
    unfold zqWhy at hq
    simp only at hq
    split at hq <;> omega
  obtain ⟨p, hp, hp4⟩ := (zFind_r hv.2 a).resolve_left (by omega)
  have o4 := hv.2.2.2.1
  have o2 := hv.2.1
  have o6 := hv.2.2.2.2.2.1
  have o7 := hv.2.2.2.2.2.2.1
  have o8 := hv.2.2.2.2.2.2.2.1
  have oT := hv.2.2.2.2.2.2.2.2.1
  have hb := hv.2.2.2.2.2.2.2.2.2 p hp4
  have lt := zLt_r hv.2 hp4 (s := F 2) (B := 60000) (by omega)
  obtain ⟨a1, ha1⟩ : ∃ y : gm_H, y = (h.1.set (m + 1) (gA 118 (zU (F) 2 (F 2 + F (91 + 4 * p)))), h.2) := ⟨_, rfl⟩
  have fr_a1 : gh_fr h a1 (fun k => k = m + 1) := by rw [ha1]; exact gh_set (K := (fun k => k = m + 1)) gh_rf (by first | exact rfl | exact Or.inr rfl | exact Or.inr (Or.inl rfl)) _
  have V_a1 : a1.1[m + 1]? = some (gA 118 (zU (F) 2 (F 2 + F (91 + 4 * p)))) := by rw [ha1]; exact gs_s hV
  have M_a1 := gs_n (c' := gA 118 (zU (F) 2 (F 2 + F (91 + 4 * p)))) hM (show m + 1 ≠ m by omega)
  rw [← ha1] at M_a1
  obtain ⟨a2, ha2⟩ : ∃ y : gm_H, y = (a1.1.set (m + 1) (gA 118 (zU (zU (F) 2 (F 2 + F (91 + 4 * p))) 6 (F 6 + F (91 + 4 * p)))), a1.2) := ⟨_, rfl⟩
  have fr_a2 : gh_fr h a2 (fun k => k = m + 1) := by rw [ha2]; exact gh_set (K := (fun k => k = m + 1)) fr_a1 (by first | exact rfl | exact Or.inr rfl | exact Or.inr (Or.inl rfl)) _
  have V_a2 : a2.1[m + 1]? = some (gA 118 (zU (zU (F) 2 (F 2 + F (91 + 4 * p))) 6 (F 6 + F (91 + 4 * p)))) := by rw [ha2]; exact gs_s V_a1
  have M_a2 := gs_n (c' := gA 118 (zU (zU (F) 2 (F 2 + F (91 + 4 * p))) 6 (F 6 + F (91 + 4 * p)))) M_a1 (show m + 1 ≠ m by omega)
  rw [← ha2] at M_a2
  obtain ⟨a3, ha3⟩ : ∃ y : gm_H, y = (a2.1.set (m + 1) (gA 118 (zU (zU (zU (F) 2 (F 2 + F (91 + 4 * p))) 6 (F 6 + F (91 + 4 * p))) 5 (F 5 + 1))), a2.2) := ⟨_, rfl⟩
  have fr_a3 : gh_fr h a3 (fun k => k = m + 1) := by rw [ha3]; exact gh_set (K := (fun k => k = m + 1)) fr_a2 (by first | exact rfl | exact Or.inr rfl | exact Or.inr (Or.inl rfl)) _
  have V_a3 : a3.1[m + 1]? = some (gA 118 (zU (zU (zU (F) 2 (F 2 + F (91 + 4 * p))) 6 (F 6 + F (91 + 4 * p))) 5 (F 5 + 1))) := by rw [ha3]; exact gs_s V_a2
  have M_a3 := gs_n (c' := gA 118 (zU (zU (zU (F) 2 (F 2 + F (91 + 4 * p))) 6 (F 6 + F (91 + 4 * p))) 5 (F 5 + 1))) M_a2 (show m + 1 ≠ m by omega)
  rw [← ha3] at M_a3
  obtain ⟨a4, ha4⟩ : ∃ y : gm_H, y = (a3.1.set (m + 1) (gA 118 (zU (zU (zU (zU (F) 2 (F 2 + F (91 + 4 * p))) 6 (F 6 + F (91 + 4 * p))) 5 (F 5 + 1)) 8 (F 8 + (F 7 + zLt F p (F 2)) / 1000000))), a3.2) := ⟨_, rfl⟩
  have fr_a4 : gh_fr h a4 (fun k => k = m + 1) := by rw [ha4]; exact gh_set (K := (fun k => k = m + 1)) fr_a3 (by first | exact rfl | exact Or.inr rfl | exact Or.inr (Or.inl rfl)) _
  have V_a4 : a4.1[m + 1]? = some (gA 118 (zU (zU (zU (zU (F) 2 (F 2 + F (91 + 4 * p))) 6 (F 6 + F (91 + 4 * p))) 5 (F 5 + 1)) 8 (F 8 + (F 7 + zLt F p (F 2)) / 1000000))) := by rw [ha4]; exact gs_s V_a3
  have M_a4 := gs_n (c' := gA 118 (zU (zU (zU (zU (F) 2 (F 2 + F (91 + 4 * p))) 6 (F 6 + F (91 + 4 * p))) 5 (F 5 + 1)) 8 (F 8 + (F 7 + zLt F p (F 2)) / 1000000))) M_a3 (show m + 1 ≠ m by omega)
  rw [← ha4] at M_a4
  obtain ⟨a5, ha5⟩ : ∃ y : gm_H, y = (a4.1.set (m + 1) (gA 118 (zU (zU (zU (zU (zU (F) 2 (F 2 + F (91 + 4 * p))) 6 (F 6 + F (91 + 4 * p))) 5 (F 5 + 1)) 8 (F 8 + (F 7 + zLt F p (F 2)) / 1000000)) 7 ((F 7 + zLt F p (F 2)) % 1000000))), a4.2) := ⟨_, rfl⟩
  have fr_a5 : gh_fr h a5 (fun k => k = m + 1) := by rw [ha5]; exact gh_set (K := (fun k => k = m + 1)) fr_a4 (by first | exact rfl | exact Or.inr rfl | exact Or.inr (Or.inl rfl)) _
  have V_a5 : a5.1[m + 1]? = some (gA 118 (zU (zU (zU (zU (zU (F) 2 (F 2 + F (91 + 4 * p))) 6 (F 6 + F (91 + 4 * p))) 5 (F 5 + 1)) 8 (F 8 + (F 7 + zLt F p (F 2)) / 1000000)) 7 ((F 7 + zLt F p (F 2)) % 1000000))) := by rw [ha5]; exact gs_s V_a4
  have M_a5 := gs_n (c' := gA 118 (zU (zU (zU (zU (zU (F) 2 (F 2 + F (91 + 4 * p))) 6 (F 6 + F (91 + 4 * p))) 5 (F 5 + 1)) 8 (F 8 + (F 7 + zLt F p (F 2)) / 1000000)) 7 ((F 7 + zLt F p (F 2)) % 1000000))) M_a4 (show m + 1 ≠ m by omega)
  rw [← ha5] at M_a5
  obtain ⟨h', F', g1, g2, g3, g4, g5⟩ := ct_mGoP M_a5 V_a5 (p := p) (by omega)
  refine ⟨h', F', ?_, g2, g3, fun k hk => (g4 k hk).trans ?_, gh_tr fr_a5 g5⟩
  ·
    show gm_co _ _ _ _ (.inl (some (.int (zI (zLt F (zFind F a).toNat (F 2)))))) _
    rw [hp, Int.toNat_natCast]
    refine gm_co_of _ (by decide +kernel) rfl (Nat.le_of_ble_eq_true rfl) rfl ?_
    refine gm_go.ru (gm_iload_n dX11_bakes_0 rfl) ?_
    refine gm_go.ru (gi_if_ge_t (tgt := 10) dX11_bakes_1 (by decide) (by omega) (by omega)) ?_
    refine gm_go.ru (gm_aload_n dX11_bakes_10 rfl (by first | exact Or.inl ⟨_, rfl⟩ | exact Or.inr ⟨_, rfl⟩)) ?_
    refine gm_go.ru (gm_get dX11_bakes_11 (fl_X11_16 rfl) hM rfl) ?_
    refine gm_go.ru (gi_const dX11_bakes_14) ?_
    refine gm_go.ru (gm_dup2 dX11_bakes_15 rfl rfl) ?_
    refine gm_go.ru (gi_aldN (a := 2) dX11_bakes_16 hV (by omega) (by decide)) ?_
    refine gm_go.ru (gm_aload_n dX11_bakes_17 rfl (by first | exact Or.inl ⟨_, rfl⟩ | exact Or.inr ⟨_, rfl⟩)) ?_
    refine gm_go.ru (gm_get dX11_bakes_18 (fl_X11_16 rfl) hM rfl) ?_
    refine gm_go.ru (gm_iload_n dX11_bakes_21 rfl) ?_
    refine gm_go.ru (gi_const dX11_bakes_22) ?_
    refine gm_go.ru (gm_cS dX11_bakes_23 (ct_mAt (i := p) (w := 1)) rfl mt_X11_at ms_X11_at (lk_X11_71 rfl) rfl (Nat.le_of_ble_eq_true rfl) (by decide)) ?_
    rw [show 90 + 4 * p + 1 = 91 + 4 * p by omega]
    refine gm_go.ru (gi_aldN (a := 91 + 4 * p) dX11_bakes_26 hV (by omega) (by decide)) ?_
    refine gm_go.ru (gi_add dX11_bakes_27) ?_
    refine gm_go.ru (gi_astN (a := 2) dX11_bakes_28 hV (by decide) (by decide)) ?_
    refine gm_hp ha1 ?_
    refine gm_go.ru (gm_aload_n dX11_bakes_29 rfl (by first | exact Or.inl ⟨_, rfl⟩ | exact Or.inr ⟨_, rfl⟩)) ?_
    refine gm_go.ru (gm_get dX11_bakes_30 (fl_X11_16 rfl) M_a1 rfl) ?_
    refine gm_go.ru (gi_bipush dX11_bakes_33 (by decide +kernel)) ?_
    refine gm_go.ru (gm_dup2 dX11_bakes_35 rfl rfl) ?_
    refine gm_go.ru (gi_aldN (a := 6) dX11_bakes_36 V_a1 (by omega) (by decide)) ?_
    rw [zU_n (by omega : (6 : Nat) ≠ 2)]
    refine gm_go.ru (gm_aload_n dX11_bakes_37 rfl (by first | exact Or.inl ⟨_, rfl⟩ | exact Or.inr ⟨_, rfl⟩)) ?_
    refine gm_go.ru (gm_get dX11_bakes_38 (fl_X11_16 rfl) M_a1 rfl) ?_
    refine gm_go.ru (gm_iload_n dX11_bakes_41 rfl) ?_
    refine gm_go.ru (gi_const dX11_bakes_42) ?_
    refine gm_go.ru (gm_cS dX11_bakes_43 (ct_mAt (i := p) (w := 1)) rfl mt_X11_at ms_X11_at (lk_X11_71 rfl) rfl (Nat.le_of_ble_eq_true rfl) (by decide)) ?_
    rw [show 90 + 4 * p + 1 = 91 + 4 * p by omega]
    refine gm_go.ru (gi_aldN (a := 91 + 4 * p) dX11_bakes_46 V_a1 (by omega) (by decide)) ?_
    rw [zU_n (show 91 + 4 * p ≠ 2 by omega)]
    refine gm_go.ru (gi_add dX11_bakes_47) ?_
    refine gm_go.ru (gi_astN (a := 6) dX11_bakes_48 V_a1 (by decide) (by decide)) ?_
    refine gm_hp ha2 ?_
    refine gm_go.ru (gm_aload_n dX11_bakes_49 rfl (by first | exact Or.inl ⟨_, rfl⟩ | exact Or.inr ⟨_, rfl⟩)) ?_
    refine gm_go.ru (gm_get dX11_bakes_50 (fl_X11_16 rfl) M_a2 rfl) ?_
    refine gm_go.ru (gi_const dX11_bakes_53) ?_
    refine gm_go.ru (gm_dup2 dX11_bakes_54 rfl rfl) ?_
    refine gm_go.ru (gi_aldN (a := 5) dX11_bakes_55 V_a2 (by omega) (by decide)) ?_
    rw [zU_n (by omega : (5 : Nat) ≠ 6), zU_n (by omega : (5 : Nat) ≠ 2)]
    refine gm_go.ru (gi_const dX11_bakes_56) ?_
    refine gm_go.ru (gi_add dX11_bakes_57) ?_
    refine gm_go.ru (gi_astN (a := 5) dX11_bakes_58 V_a2 (by decide) (by decide)) ?_
    refine gm_hp ha3 ?_
    refine gm_go.ru (gm_aload_n dX11_bakes_59 rfl (by first | exact Or.inl ⟨_, rfl⟩ | exact Or.inr ⟨_, rfl⟩)) ?_
    refine gm_go.ru (gm_iload_n dX11_bakes_60 rfl) ?_
    refine gm_go.ru (gm_aload_n dX11_bakes_61 rfl (by first | exact Or.inl ⟨_, rfl⟩ | exact Or.inr ⟨_, rfl⟩)) ?_
    refine gm_go.ru (gm_get dX11_bakes_62 (fl_X11_16 rfl) M_a3 rfl) ?_
    refine gm_go.ru (gi_const dX11_bakes_65) ?_
    refine gm_go.ru (gi_aldN (a := 2) dX11_bakes_66 V_a3 (by omega) (by decide)) ?_
    rw [zU_n (by omega : (2 : Nat) ≠ 5), zU_n (by omega : (2 : Nat) ≠ 6), zU_s]
    have hl := ct_mLateF M_a3 V_a3 hv.2 hp4 (fun k k1 k2 => by rw [zU_n (by omega), zU_n (by omega), zU_n (by omega)]) (x := F 2 + F (91 + 4 * p)) (by omega)
    rw [zLd_e] at hl
    refine gm_go.ru (gm_cV dX11_bakes_67 (hl) rfl mt_X11_late mv_X11_late (lk_X11_182 rfl) (Or.inl ⟨_, 12, _, _, _, rfl, M_a3, rfl⟩) rfl (Nat.le_of_ble_eq_true rfl) (by decide)) ?_
    refine gm_go.ru (gm_istore_n (ls' := [_, _, _, _, _]) dX11_bakes_70 (by decide) rfl) ?_
    refine gm_go.ru (gm_aload_n dX11_bakes_71 rfl (by first | exact Or.inl ⟨_, rfl⟩ | exact Or.inr ⟨_, rfl⟩)) ?_
    refine gm_go.ru (gm_get dX11_bakes_72 (fl_X11_16 rfl) M_a3 rfl) ?_
    refine gm_go.ru (gi_bipush dX11_bakes_75 (by decide +kernel)) ?_
    refine gm_go.ru (gi_aldN (a := 7) dX11_bakes_77 V_a3 (by omega) (by decide)) ?_
    rw [zU_n (by omega : (7 : Nat) ≠ 5), zU_n (by omega : (7 : Nat) ≠ 6), zU_n (by omega : (7 : Nat) ≠ 2)]
    refine gm_go.ru (gm_iload_n dX11_bakes_78 rfl) ?_
    refine gm_go.ru (gi_add dX11_bakes_79) ?_
    refine gm_go.ru (gm_istore_n (ls' := [_, _, _, _, _]) dX11_bakes_80 (by decide) rfl) ?_
    refine gm_go.ru (gm_aload_n dX11_bakes_81 rfl (by first | exact Or.inl ⟨_, rfl⟩ | exact Or.inr ⟨_, rfl⟩)) ?_
    refine gm_go.ru (gm_get dX11_bakes_82 (fl_X11_16 rfl) M_a3 rfl) ?_
    refine gm_go.ru (gi_bipush dX11_bakes_85 (by decide +kernel)) ?_
    refine gm_go.ru (gm_dup2 dX11_bakes_87 rfl rfl) ?_
    refine gm_go.ru (gi_aldN (a := 8) dX11_bakes_88 V_a3 (by omega) (by decide)) ?_
    rw [zU_n (by omega : (8 : Nat) ≠ 5), zU_n (by omega : (8 : Nat) ≠ 6), zU_n (by omega : (8 : Nat) ≠ 2)]
    refine gm_go.ru (gm_iload_n dX11_bakes_89 rfl) ?_
    refine gm_go.ru (gm_ldci (v := zI 1000000) dX11_bakes_90 (kc_X11_185 rfl)) ?_
    refine gm_go.ru (gi_div dX11_bakes_92 (by omega) (by omega) (by omega)) ?_
    rw [show (F 7 + zLt F p (F 2)).tdiv 1000000 = (F 7 + zLt F p (F 2)) / 1000000 from Int.tdiv_eq_ediv_of_nonneg (by omega)]
    refine gm_go.ru (gi_add dX11_bakes_93) ?_
    refine gm_go.ru (gi_astN (a := 8) dX11_bakes_94 V_a3 (by decide) (by decide)) ?_
    refine gm_hp ha4 ?_
    refine gm_go.ru (gm_aload_n dX11_bakes_95 rfl (by first | exact Or.inl ⟨_, rfl⟩ | exact Or.inr ⟨_, rfl⟩)) ?_
    refine gm_go.ru (gm_get dX11_bakes_96 (fl_X11_16 rfl) M_a4 rfl) ?_
    refine gm_go.ru (gi_bipush dX11_bakes_99 (by decide +kernel)) ?_
    refine gm_go.ru (gm_iload_n dX11_bakes_101 rfl) ?_
    refine gm_go.ru (gm_ldci (v := zI 1000000) dX11_bakes_102 (kc_X11_185 rfl)) ?_
    refine gm_go.ru (gi_rem dX11_bakes_104 (by omega) (by omega) (by omega)) ?_
    rw [show (F 7 + zLt F p (F 2)).tmod 1000000 = (F 7 + zLt F p (F 2)) % 1000000 from Int.tmod_eq_emod_of_nonneg (by omega)]
    refine gm_go.ru (gi_astN (a := 7) dX11_bakes_105 V_a4 (by decide) (by decide)) ?_
    refine gm_hp ha5 ?_
    refine gm_go.ru (gm_aload_n dX11_bakes_106 rfl (by first | exact Or.inl ⟨_, rfl⟩ | exact Or.inr ⟨_, rfl⟩)) ?_
    refine gm_go.ru (gm_iload_n dX11_bakes_107 rfl) ?_
    refine gm_go.ru (gm_cV dX11_bakes_108 (g1) rfl mt_X11_goes mv_X11_goes (lk_X11_179 rfl) (Or.inl ⟨_, 12, _, _, _, rfl, M_a5, rfl⟩) rfl (Nat.le_of_ble_eq_true rfl) (by decide)) ?_
    refine gm_go.ru (gm_istore (ls' := [_, _, _, _, _]) dX11_bakes_111 (by decide) rfl) ?_
    refine gm_go.ru (gm_iload_n dX11_bakes_113 rfl) ?_
    exact gm_iret dX11_bakes_114 rfl
  · show _ = zBake F (zFind F a).toNat k
    rw [hp, Int.toNat_natCast]
    unfold zBake
    rw [show zBk F p = zU (zU (zU (zU (zU (F) 2 (F 2 + F (91 + 4 * p))) 6 (F 6 + F (91 + 4 * p))) 5 (F 5 + 1)) 8 (F 8 + (F 7 + zLt F p (F 2)) / 1000000)) 7 ((F 7 + zLt F p (F 2)) % 1000000) from ?_]
    unfold zBk
    funext k9
    unfold zU
    (repeat' split) <;> first | rfl | omega
