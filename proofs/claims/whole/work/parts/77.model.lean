set_option maxRecDepth 4000 in
theorem ct_m_batchAt {h : gm_H} {m : Nat} {K F : Nat → Int} (hM : h.1[m]? = some (md_c m K)) (hV : h.1[m + 1]? = some (gA 118 F)) {T : Nat} (hv : ov_iv T F) {i : Int} (hi : zR i) (hq : (0 ≤ i ∧ i < F 4)) : ∃ h', gm_co mX11_batchAt 3 [.ref m, .int (zI i)] h (.inl (some (.int (zI (F (90 + 4 * i.toNat)))))) h' ∧ h'.1[m]? = some (md_c m (zU K 0 0)) ∧ gh_fr h h' (fun k => k = m) := by
  have v4 := hv.2.2.1
  obtain ⟨i, rfl⟩ : ∃ k : Nat, i = (k : Int) := ⟨i.toNat, by omega⟩
  simp only [Int.toNat_natCast]
  obtain ⟨a1, ha1⟩ : ∃ y : gm_H, y = (h.1.set m (md_c m (zU K 0 0)), h.2) := ⟨_, rfl⟩
  have M_a1 : a1.1[m]? = some (md_c m (zU K 0 0)) := by rw [ha1]; exact gs_s hM
  have V_a1 : a1.1[m + 1]? = some (gA 118 F) := by rw [ha1]; exact gs_n hV (by omega)
  have f_a1 : gh_fr h a1 (fun k => k = m) := by rw [ha1]; exact gh_set (K := fun k => k = m) gh_rf rfl _
  refine ⟨a1, ?_, M_a1, f_a1⟩
  refine gm_co_of _ (by decide +kernel) rfl (Nat.le_of_ble_eq_true rfl) rfl ?_
  refine gm_go.ru (gm_aload_n dX11_batchAt_0 rfl (by first | exact Or.inl ⟨_, rfl⟩ | exact Or.inr ⟨_, rfl⟩)) ?_
  refine gm_go.ru (gm_iload_n dX11_batchAt_1 rfl) ?_
  refine gm_go.ru (gi_const dX11_batchAt_2) ?_
  refine gm_go.ru (gm_aload_n dX11_batchAt_3 rfl (by first | exact Or.inl ⟨_, rfl⟩ | exact Or.inr ⟨_, rfl⟩)) ?_
  refine gm_go.ru (gm_get dX11_batchAt_4 (fl_X11_16 rfl) hM rfl) ?_
  refine gm_go.ru (gi_const dX11_batchAt_7) ?_
  refine gm_go.ru (gi_aldN (a := 4) dX11_batchAt_8 hV (by decide) (by decide)) ?_
  refine gm_go.ru (gi_const dX11_batchAt_9) ?_
  refine gm_go.ru (gi_sub dX11_batchAt_10) ?_
  refine gm_go.ru (gm_cS dX11_batchAt_11 (ct_mIsIn hi (by omega) (by omega)) rfl mt_X11_isIn ms_X11_isIn (lk_X11_63 rfl) rfl (Nat.le_of_ble_eq_true rfl) (by decide)) ?_
  rw [zB_t (show (0 ≤ (i : Int) ∧ (i : Int) ≤ F 4 - 1) by omega)]
  refine gm_go.ru (gi_if_eq_f 21 dX11_batchAt_14 (by decide) (by decide) (by decide)) ?_
  refine gm_go.ru (gi_const dX11_batchAt_17) ?_
  refine gm_go.ru (gm_goto (tgt := 22) dX11_batchAt_18 (by decide)) ?_
  refine gm_go.ru (gm_put dX11_batchAt_22 (fp_X11_53 rfl) hM (Nat.le_of_ble_eq_true rfl) (by first | exact ⟨rfl, rfl⟩ | exact trivial)) ?_
  refine gm_hp ha1 ?_
  refine gm_go.ru (gm_aload_n dX11_batchAt_25 rfl (by first | exact Or.inl ⟨_, rfl⟩ | exact Or.inr ⟨_, rfl⟩)) ?_
  refine gm_go.ru (gm_get dX11_batchAt_26 (fl_X11_53 rfl) M_a1 rfl) ?_
  refine gm_go.ru (gi_if_ne_f 45 dX11_batchAt_29 (by decide) (by rw [zU_s]; decide) zU_s) ?_
  refine gm_go.ru (gm_aload_n dX11_batchAt_32 rfl (by first | exact Or.inl ⟨_, rfl⟩ | exact Or.inr ⟨_, rfl⟩)) ?_
  refine gm_go.ru (gm_get dX11_batchAt_33 (fl_X11_16 rfl) M_a1 rfl) ?_
  refine gm_go.ru (gm_iload_n dX11_batchAt_36 rfl) ?_
  refine gm_go.ru (gi_const dX11_batchAt_37) ?_
  refine gm_go.ru (gm_cS dX11_batchAt_38 (ct_mAt (i := i) (w := 0)) rfl mt_X11_at ms_X11_at (lk_X11_71 rfl) rfl (Nat.le_of_ble_eq_true rfl) (by decide)) ?_
  rw [show 90 + 4 * i + 0 = 90 + 4 * i by omega]
  refine gm_go.ru (gi_aldN dX11_batchAt_41 V_a1 (by omega) (by decide)) ?_
  refine gm_go.ru (gm_goto (tgt := 46) dX11_batchAt_42 (by decide)) ?_
  exact gm_iret dX11_batchAt_46 rfl
set_option maxRecDepth 4000 in
theorem ct_m_batchAtX {h : gm_H} {m : Nat} {K F : Nat → Int} (hM : h.1[m]? = some (md_c m K)) (hV : h.1[m + 1]? = some (gA 118 F)) {T : Nat} (hv : ov_iv T F) {i : Int} (hi : zR i) (hq : ¬ (0 ≤ i ∧ i < F 4)) : ∃ h', gm_co mX11_batchAt 3 [.ref m, .int (zI i)] h (.inl (some (.int (zI (0))))) h' ∧ h'.1[m]? = some (md_c m (zU K 0 1)) ∧ gh_fr h h' (fun k => k = m) := by
  have v4 := hv.2.2.1
  obtain ⟨a1, ha1⟩ : ∃ y : gm_H, y = (h.1.set m (md_c m (zU K 0 1)), h.2) := ⟨_, rfl⟩
  have M_a1 : a1.1[m]? = some (md_c m (zU K 0 1)) := by rw [ha1]; exact gs_s hM
  have V_a1 : a1.1[m + 1]? = some (gA 118 F) := by rw [ha1]; exact gs_n hV (by omega)
  have f_a1 : gh_fr h a1 (fun k => k = m) := by rw [ha1]; exact gh_set (K := fun k => k = m) gh_rf rfl _
  refine ⟨a1, ?_, M_a1, f_a1⟩
  refine gm_co_of _ (by decide +kernel) rfl (Nat.le_of_ble_eq_true rfl) rfl ?_
  refine gm_go.ru (gm_aload_n dX11_batchAt_0 rfl (by first | exact Or.inl ⟨_, rfl⟩ | exact Or.inr ⟨_, rfl⟩)) ?_
  refine gm_go.ru (gm_iload_n dX11_batchAt_1 rfl) ?_
  refine gm_go.ru (gi_const dX11_batchAt_2) ?_
  refine gm_go.ru (gm_aload_n dX11_batchAt_3 rfl (by first | exact Or.inl ⟨_, rfl⟩ | exact Or.inr ⟨_, rfl⟩)) ?_
  refine gm_go.ru (gm_get dX11_batchAt_4 (fl_X11_16 rfl) hM rfl) ?_
  refine gm_go.ru (gi_const dX11_batchAt_7) ?_
  refine gm_go.ru (gi_aldN (a := 4) dX11_batchAt_8 hV (by decide) (by decide)) ?_
  refine gm_go.ru (gi_const dX11_batchAt_9) ?_
  refine gm_go.ru (gi_sub dX11_batchAt_10) ?_
  refine gm_go.ru (gm_cS dX11_batchAt_11 (ct_mIsIn hi (by omega) (by omega)) rfl mt_X11_isIn ms_X11_isIn (lk_X11_63 rfl) rfl (Nat.le_of_ble_eq_true rfl) (by decide)) ?_
  rw [zB_f (show ¬ (0 ≤ i ∧ i ≤ F 4 - 1) by omega)]
  refine gm_go.ru (gi_if_eq_t (tgt := 21) dX11_batchAt_14 (by decide) (by decide) rfl) ?_
  refine gm_go.ru (gi_const dX11_batchAt_21) ?_
  refine gm_go.ru (gm_put dX11_batchAt_22 (fp_X11_53 rfl) hM (Nat.le_of_ble_eq_true rfl) (by first | exact ⟨rfl, rfl⟩ | exact trivial)) ?_
  refine gm_hp ha1 ?_
  refine gm_go.ru (gm_aload_n dX11_batchAt_25 rfl (by first | exact Or.inl ⟨_, rfl⟩ | exact Or.inr ⟨_, rfl⟩)) ?_
  refine gm_go.ru (gm_get dX11_batchAt_26 (fl_X11_53 rfl) M_a1 rfl) ?_
  refine gm_go.ru (gi_if_ne_t (tgt := 45) dX11_batchAt_29 (by decide) (by rw [zU_s]; decide) (by rw [zU_s]; decide)) ?_
  refine gm_go.ru (gi_const dX11_batchAt_45) ?_
  exact gm_iret dX11_batchAt_46 rfl
set_option maxRecDepth 4000 in
theorem ct_mNow {h : gm_H} {m : Nat} {K F : Nat → Int} (hM : h.1[m]? = some (md_c m K)) (hV : h.1[m + 1]? = some (gA 118 F)) {T : Nat} (hv : ov_iv T F) {p : Nat} (hp : (p : Int) < F 4) : gm_co mX11_now 3 [.ref m, .int (zI (p : Int))] h (.inl (some (.int (zI (zLt F p (F 2)))))) h := by
  refine gm_co_of _ (by decide +kernel) rfl (Nat.le_of_ble_eq_true rfl) rfl ?_
  have hb := hv.2.2.2.2.2.2.2.2 p hp
  have o4 := hv.2.2.1
  have o2 := hv.1
  have oT := hv.2.2.2.2.2.2.2.1
  have hl := ct_mLateF hM hV hv hp (fun k _ _ => rfl) (x := F 2 + F (91 + 4 * p)) (by omega)
  rw [zLd_e] at hl
  refine gm_go.ru (gm_aload_n dX11_now_0 rfl (by first | exact Or.inl ⟨_, rfl⟩ | exact Or.inr ⟨_, rfl⟩)) ?_
  refine gm_go.ru (gm_iload_n dX11_now_1 rfl) ?_
  refine gm_go.ru (gm_aload_n dX11_now_2 rfl (by first | exact Or.inl ⟨_, rfl⟩ | exact Or.inr ⟨_, rfl⟩)) ?_
  refine gm_go.ru (gm_get dX11_now_3 (fl_X11_16 rfl) hM rfl) ?_
  refine gm_go.ru (gi_const dX11_now_6) ?_
  refine gm_go.ru (gi_aldN (a := 2) dX11_now_7 hV (by decide) (by decide)) ?_
  refine gm_go.ru (gm_aload_n dX11_now_8 rfl (by first | exact Or.inl ⟨_, rfl⟩ | exact Or.inr ⟨_, rfl⟩)) ?_
  refine gm_go.ru (gm_get dX11_now_9 (fl_X11_16 rfl) hM rfl) ?_
  refine gm_go.ru (gm_iload_n dX11_now_12 rfl) ?_
  refine gm_go.ru (gi_const dX11_now_13) ?_
  refine gm_go.ru (gm_cS dX11_now_14 (ct_mAt (i := p) (w := 1)) rfl mt_X11_at ms_X11_at (lk_X11_71 rfl) rfl (Nat.le_of_ble_eq_true rfl) (by decide)) ?_
  rw [show 90 + 4 * p + 1 = 91 + 4 * p by omega]
  refine gm_go.ru (gi_aldN dX11_now_17 hV (by omega) (by decide)) ?_
  refine gm_go.ru (gi_add dX11_now_18) ?_
  refine gm_go.ru (gm_cV dX11_now_19 (hl) rfl mt_X11_late mv_X11_late (lk_X11_182 rfl) (Or.inl ⟨_, 12, _, _, _, rfl, hM, rfl⟩) rfl (Nat.le_of_ble_eq_true rfl) (by decide)) ?_
  exact gm_iret dX11_now_22 rfl
set_option maxRecDepth 4000 in
theorem ct_m_latenessNow {h : gm_H} {m : Nat} {K F : Nat → Int} (hM : h.1[m]? = some (md_c m K)) (hV : h.1[m + 1]? = some (gA 118 F)) {T : Nat} (hv : ov_iv T F) {b : Int} (hb : zR b) (hq : 0 ≤ zFind F b) : ∃ h', gm_co mX11_latenessNow 4 [.ref m, .int (zI b)] h (.inl (some (.int (zI (zLt F (zFind F b).toNat (F 2)))))) h' ∧ h'.1[m]? = some (md_c m (zU K 0 0)) ∧ gh_fr h h' (fun k => k = m) := by
  have zr := zFind_r hv b
  have o4 := hv.2.2.1
  obtain ⟨a1, ha1⟩ : ∃ y : gm_H, y = (h.1.set m (md_c m (zU K 0 0)), h.2) := ⟨_, rfl⟩
  have M_a1 : a1.1[m]? = some (md_c m (zU K 0 0)) := by rw [ha1]; exact gs_s hM
  have V_a1 : a1.1[m + 1]? = some (gA 118 F) := by rw [ha1]; exact gs_n hV (by omega)
  have f_a1 : gh_fr h a1 (fun k => k = m) := by rw [ha1]; exact gh_set (K := fun k => k = m) gh_rf rfl _
  obtain ⟨p, hp, hp4⟩ := zr.resolve_left (by omega)
  have f1 := ct_mFind hM hV hv hb
  have f2 := ct_mFind M_a1 V_a1 hv hb
  rw [hp] at f1 f2 ⊢
  rw [Int.toNat_natCast]
  refine ⟨a1, ?_, M_a1, f_a1⟩
  refine gm_co_of _ (by decide +kernel) rfl (Nat.le_of_ble_eq_true rfl) rfl ?_
  refine gm_go.ru (gm_aload_n dX11_latenessNow_0 rfl (by first | exact Or.inl ⟨_, rfl⟩ | exact Or.inr ⟨_, rfl⟩)) ?_
  refine gm_go.ru (gm_aload_n dX11_latenessNow_1 rfl (by first | exact Or.inl ⟨_, rfl⟩ | exact Or.inr ⟨_, rfl⟩)) ?_
  refine gm_go.ru (gm_iload_n dX11_latenessNow_2 rfl) ?_
  refine gm_go.ru (gm_cV dX11_latenessNow_3 (f1) rfl mt_X11_find mv_X11_find (lk_X11_176 rfl) (Or.inl ⟨_, 12, _, _, _, rfl, hM, rfl⟩) rfl (Nat.le_of_ble_eq_true rfl) (by decide)) ?_
  refine gm_go.ru (gi_if_ge_t (tgt := 13) dX11_latenessNow_6 (by decide) (by omega) (by omega)) ?_
  refine gm_go.ru (gi_const dX11_latenessNow_13) ?_
  refine gm_go.ru (gm_put dX11_latenessNow_14 (fp_X11_53 rfl) hM (Nat.le_of_ble_eq_true rfl) (by first | exact ⟨rfl, rfl⟩ | exact trivial)) ?_
  refine gm_hp ha1 ?_
  refine gm_go.ru (gm_aload_n dX11_latenessNow_17 rfl (by first | exact Or.inl ⟨_, rfl⟩ | exact Or.inr ⟨_, rfl⟩)) ?_
  refine gm_go.ru (gm_get dX11_latenessNow_18 (fl_X11_53 rfl) M_a1 rfl) ?_
  refine gm_go.ru (gi_if_ne_f 36 dX11_latenessNow_21 (by decide) (by rw [zU_s]; decide) zU_s) ?_
  refine gm_go.ru (gm_aload_n dX11_latenessNow_24 rfl (by first | exact Or.inl ⟨_, rfl⟩ | exact Or.inr ⟨_, rfl⟩)) ?_
  refine gm_go.ru (gm_aload_n dX11_latenessNow_25 rfl (by first | exact Or.inl ⟨_, rfl⟩ | exact Or.inr ⟨_, rfl⟩)) ?_
  refine gm_go.ru (gm_iload_n dX11_latenessNow_26 rfl) ?_
  refine gm_go.ru (gm_cV dX11_latenessNow_27 (f2) rfl mt_X11_find mv_X11_find (lk_X11_176 rfl) (Or.inl ⟨_, 12, _, _, _, rfl, M_a1, rfl⟩) rfl (Nat.le_of_ble_eq_true rfl) (by decide)) ?_
  refine gm_go.ru (gm_cV dX11_latenessNow_30 (ct_mNow M_a1 V_a1 hv hp4) rfl mt_X11_now mv_X11_now (lk_X11_192 rfl) (Or.inl ⟨_, 12, _, _, _, rfl, M_a1, rfl⟩) rfl (Nat.le_of_ble_eq_true rfl) (by decide)) ?_
  refine gm_go.ru (gm_goto (tgt := 37) dX11_latenessNow_33 (by decide)) ?_
  exact gm_iret dX11_latenessNow_37 rfl
set_option maxRecDepth 4000 in
theorem ct_m_latenessNowX {h : gm_H} {m : Nat} {K F : Nat → Int} (hM : h.1[m]? = some (md_c m K)) (hV : h.1[m + 1]? = some (gA 118 F)) {T : Nat} (hv : ov_iv T F) {b : Int} (hb : zR b) (hq : zFind F b < 0) : ∃ h', gm_co mX11_latenessNow 4 [.ref m, .int (zI b)] h (.inl (some (.int (zI (0))))) h' ∧ h'.1[m]? = some (md_c m (zU K 0 1)) ∧ gh_fr h h' (fun k => k = m) := by
  have zr := zFind_r hv b
  have o4 := hv.2.2.1
  obtain ⟨a1, ha1⟩ : ∃ y : gm_H, y = (h.1.set m (md_c m (zU K 0 1)), h.2) := ⟨_, rfl⟩
  have M_a1 : a1.1[m]? = some (md_c m (zU K 0 1)) := by rw [ha1]; exact gs_s hM
  have V_a1 : a1.1[m + 1]? = some (gA 118 F) := by rw [ha1]; exact gs_n hV (by omega)
  have f_a1 : gh_fr h a1 (fun k => k = m) := by rw [ha1]; exact gh_set (K := fun k => k = m) gh_rf rfl _
  refine ⟨a1, ?_, M_a1, f_a1⟩
  refine gm_co_of _ (by decide +kernel) rfl (Nat.le_of_ble_eq_true rfl) rfl ?_
  refine gm_go.ru (gm_aload_n dX11_latenessNow_0 rfl (by first | exact Or.inl ⟨_, rfl⟩ | exact Or.inr ⟨_, rfl⟩)) ?_
  refine gm_go.ru (gm_aload_n dX11_latenessNow_1 rfl (by first | exact Or.inl ⟨_, rfl⟩ | exact Or.inr ⟨_, rfl⟩)) ?_
  refine gm_go.ru (gm_iload_n dX11_latenessNow_2 rfl) ?_
  refine gm_go.ru (gm_cV dX11_latenessNow_3 (ct_mFind hM hV hv hb) rfl mt_X11_find mv_X11_find (lk_X11_176 rfl) (Or.inl ⟨_, 12, _, _, _, rfl, hM, rfl⟩) rfl (Nat.le_of_ble_eq_true rfl) (by decide)) ?_
  refine gm_go.ru (gi_if_ge_f 13 dX11_latenessNow_6 (by decide) (by rcases zr with e | ⟨k, e, e4⟩ <;> omega) (by omega)) ?_
  refine gm_go.ru (gi_const dX11_latenessNow_9) ?_
  refine gm_go.ru (gm_goto (tgt := 14) dX11_latenessNow_10 (by decide)) ?_
  refine gm_go.ru (gm_put dX11_latenessNow_14 (fp_X11_53 rfl) hM (Nat.le_of_ble_eq_true rfl) (by first | exact ⟨rfl, rfl⟩ | exact trivial)) ?_
  refine gm_hp ha1 ?_
  refine gm_go.ru (gm_aload_n dX11_latenessNow_17 rfl (by first | exact Or.inl ⟨_, rfl⟩ | exact Or.inr ⟨_, rfl⟩)) ?_
  refine gm_go.ru (gm_get dX11_latenessNow_18 (fl_X11_53 rfl) M_a1 rfl) ?_
  refine gm_go.ru (gi_if_ne_t (tgt := 36) dX11_latenessNow_21 (by decide) (by rw [zU_s]; decide) (by rw [zU_s]; decide)) ?_
  refine gm_go.ru (gi_const dX11_latenessNow_36) ?_
  exact gm_iret dX11_latenessNow_37 rfl
theorem zL'_m {T : Nat} {v : Nat → Int} (hv : ov_iv T v) {S : Nat} (hS : zOk v S) (h0 : S ≠ 0) : zFm (zLg' v (zL' v) S) 100000000 (v 4).toNat = zL' v S := by
  have h4 := hv.2.2.1
  have hb := zL'_b hv hS
  have hs := zL'_s (v := v) (S := S) (by have := hS.1; omega) h0 (by omega)
  refine zFm_eq (by omega) (fun k hk c hc => ?_) ?_
  · rw [hs]; exact zFm_le hk hc
  · rcases zFm_at (g := zLg' v (zL' v) S) (a := 2147483647) (v 4).toNat with e | ⟨k, hk, e⟩
    · rw [← hs] at e; omega
    · rw [← hs] at e; exact Or.inr ⟨k, hk, e⟩
theorem zBf_pos {T : Nat} {v : Nat → Int} (hv : ov_iv T v) (h : 0 < v 4) : 0 ≤ zBf v (v 4).toNat 0 := by
  have h4 := hv.2.2.1
  have ha : zAl v ≠ 0 := fun e => by have := zAl_b (v := v) 0; rw [e] at this; simp at this; omega
  have hk := zOk_al (v := v) (by omega) (S := zAl v) (Nat.le_refl _)
  have hm := zL'_m hv hk ha
  have hb := zL'_b hv hk
  have key : ∀ (z k : Nat), k + z = (v 4).toNat → (∃ j, k ≤ j ∧ j < (v 4).toNat ∧ zLt v j (v 2) + zL' v (zC (zAl v) j) = zL' v (zAl v)) → 0 ≤ zBf v z k := by
    intro z
    induction z with
    | zero => intro k hk ⟨j, j1, j2, _⟩; omega
    | succ z ih =>
      intro k hk ⟨j, j1, j2, j3⟩
      rw [zBf]
      by_cases c : zLt v k (v 2) + zL' v (zC (zAl v) k) = zL' v (zAl v)
      · rw [if_pos c]; omega
      · rw [if_neg c]
        exact ih (k + 1) (by omega) ⟨j, by
          by_cases e : j = k
          · rw [e] at j3; exact absurd j3 c
          · omega, j2, j3⟩
  refine key _ 0 (by omega) ?_
  rcases zFm_at (g := zLg' v (zL' v) (zAl v)) (a := 100000000) (v 4).toNat with e | ⟨k, k1, k2⟩
  · rw [hm] at e; omega
  · refine ⟨k, Nat.zero_le _, k1, ?_⟩
    rw [hm] at k2
    unfold zLg' at k2
    rw [zAl_b, decide_eq_true k1, if_pos rfl, zSt_al] at k2
    exact Option.some.inj k2
set_option maxRecDepth 4000 in
theorem om_1 {h : gm_H} {m S cn T : Nat} {K F : Nat → Int} {x5 : Option Value} (hM : h.1[m]? = some (md_c m K)) (hV : h.1[m + 1]? = some (gA 118 F)) (hv : ov_iv T F) (hc : F 4 = (cn : Int)) (hc7 : cn ≤ 7) (hS : S < 128) : ∀ z j : Nat, j + z = cn → gm_go mX11_orders 4 (35, [some (.ref m), some (.int (zI ((zAl F : Nat) : Int))), some (.int (zI (S : Int))), some (.int (zI (F 2 + zMo F S j))), some (.int (zI (j : Int))), x5], [], h) (79, [some (.ref m), some (.int (zI ((zAl F : Nat) : Int))), some (.int (zI (S : Int))), some (.int (zI (F 2 + zMo F S cn))), some (.int (zI (cn : Int))), x5], [], h) := by
  intro z
  induction z with
  | zero =>
    intro j hj
    obtain rfl : j = cn := by omega
    refine gm_go_tr (gm_iload dX11_orders_35 rfl) ?_
    refine gm_go_tr (gm_aload_n dX11_orders_37 rfl (by first | exact Or.inl ⟨_, rfl⟩ | exact Or.inr ⟨_, rfl⟩)) ?_
    refine gm_go_tr (gm_get dX11_orders_38 (fl_X11_16 rfl) hM rfl) ?_
    refine gm_go_tr (gi_const dX11_orders_41) ?_
    refine gm_go_tr (gi_aldN (a := 4) dX11_orders_42 hV (by decide) (by decide)) ?_
    rw [hc]
    refine gm_go_tr (gi_icmp_ge_t (tgt := 79) dX11_orders_43 (by decide) (by omega) (by omega) (by omega)) ?_
    exact gm_go_rf
  | succ z ih =>
    intro j hj
    have hn := ih (j + 1) (by omega)
    rw [zMo] at hn
    have tb := z_tb S j
    have hb := hv.2.2.2.2.2.2.2.2 j (by omega)
    cases hb9 : S.testBit j
    ·
      rw [hb9, if_neg (by decide)] at tb hn
      refine gm_go_tr (gm_iload dX11_orders_35 rfl) ?_
      refine gm_go_tr (gm_aload_n dX11_orders_37 rfl (by first | exact Or.inl ⟨_, rfl⟩ | exact Or.inr ⟨_, rfl⟩)) ?_
      refine gm_go_tr (gm_get dX11_orders_38 (fl_X11_16 rfl) hM rfl) ?_
      refine gm_go_tr (gi_const dX11_orders_41) ?_
      refine gm_go_tr (gi_aldN (a := 4) dX11_orders_42 hV (by decide) (by decide)) ?_
      rw [hc]
      refine gm_go_tr (gi_icmp_ge_f 79 dX11_orders_43 (by decide) (by omega) (by omega) (by omega)) ?_
      refine gm_go_tr (gm_iload_n dX11_orders_46 rfl) ?_
      refine gm_go_tr (gm_iload_n dX11_orders_47 rfl) ?_
      refine gm_go_tr (gm_iload dX11_orders_48 rfl) ?_
      refine gm_go_tr (gi_shr dX11_orders_50 (by omega) (by omega)) ?_
      refine gm_go_tr (gi_const dX11_orders_51) ?_
      refine gm_go_tr (gi_and1 dX11_orders_52) ?_
      rw [tb]
      refine gm_go_tr (gi_if_ne_f 70 dX11_orders_53 (by decide) (by decide) rfl) ?_
      refine gm_go_tr (gm_aload_n dX11_orders_56 rfl (by first | exact Or.inl ⟨_, rfl⟩ | exact Or.inr ⟨_, rfl⟩)) ?_
      refine gm_go_tr (gm_get dX11_orders_57 (fl_X11_16 rfl) hM rfl) ?_
      refine gm_go_tr (gm_iload dX11_orders_60 rfl) ?_
      refine gm_go_tr (gi_const dX11_orders_62) ?_
      refine gm_go_tr (gm_cS dX11_orders_63 (ct_mAt (i := j) (w := 1)) rfl mt_X11_at ms_X11_at (lk_X11_71 rfl) rfl (Nat.le_of_ble_eq_true rfl) (by decide)) ?_
      rw [show 90 + 4 * j + 1 = 91 + 4 * j by omega]
      refine gm_go_tr (gi_aldN dX11_orders_66 hV (by omega) (by decide)) ?_
      refine gm_go_tr (gm_goto (tgt := 71) dX11_orders_67 (by decide)) ?_
      refine gm_go_tr (gi_add dX11_orders_71) ?_
      refine gm_go_tr (gm_istore_n (ls' := [_, _, _, _, _, _]) dX11_orders_72 (by decide) rfl) ?_
      refine gm_go_tr (gi_iinc (ls' := [_, _, _, _, _, _]) dX11_orders_73 rfl (by decide) rfl) ?_
      refine gm_go_tr (gm_goto (tgt := 35) dX11_orders_76 (by decide)) ?_
      rw [← Int.add_assoc] at hn
      exact hn
    ·
      rw [hb9, if_pos rfl] at tb hn
      rw [Int.add_zero] at hn
      refine gm_go_tr (gm_iload dX11_orders_35 rfl) ?_
      refine gm_go_tr (gm_aload_n dX11_orders_37 rfl (by first | exact Or.inl ⟨_, rfl⟩ | exact Or.inr ⟨_, rfl⟩)) ?_
      refine gm_go_tr (gm_get dX11_orders_38 (fl_X11_16 rfl) hM rfl) ?_
      refine gm_go_tr (gi_const dX11_orders_41) ?_
      refine gm_go_tr (gi_aldN (a := 4) dX11_orders_42 hV (by decide) (by decide)) ?_
      rw [hc]
      refine gm_go_tr (gi_icmp_ge_f 79 dX11_orders_43 (by decide) (by omega) (by omega) (by omega)) ?_
      refine gm_go_tr (gm_iload_n dX11_orders_46 rfl) ?_
      refine gm_go_tr (gm_iload_n dX11_orders_47 rfl) ?_
      refine gm_go_tr (gm_iload dX11_orders_48 rfl) ?_
      refine gm_go_tr (gi_shr dX11_orders_50 (by omega) (by omega)) ?_
      refine gm_go_tr (gi_const dX11_orders_51) ?_
      refine gm_go_tr (gi_and1 dX11_orders_52) ?_
      rw [tb]
      refine gm_go_tr (gi_if_ne_t (tgt := 70) dX11_orders_53 (by decide) (by decide) (by decide)) ?_
      refine gm_go_tr (gi_const dX11_orders_70) ?_
      refine gm_go_tr (gi_add dX11_orders_71) ?_
      rw [Int.add_zero]
      refine gm_go_tr (gm_istore_n (ls' := [_, _, _, _, _, _]) dX11_orders_72 (by decide) rfl) ?_
      refine gm_go_tr (gi_iinc (ls' := [_, _, _, _, _, _]) dX11_orders_73 rfl (by decide) rfl) ?_
      refine gm_go_tr (gm_goto (tgt := 35) dX11_orders_76 (by decide)) ?_
      exact hn
set_option maxRecDepth 4000 in
theorem om_2 {m S cn T : Nat} {K F : Nat → Int} (hv : ov_iv T F) (hc : F 4 = (cn : Int)) (hc7 : cn ≤ 7) (hS : S < 128) (hO : zOk F S) : ∀ (z j : Nat) (h : gm_H) (B : Nat → Int) (x5 : Option Value), j + z = cn → h.1[m]? = some (md_c m K) → h.1[m + 1]? = some (gA 118 F) → h.1[m + 6]? = some (gA 128 B) → B S = zFm (zLg' F (zL' F) S) 100000000 j → (∀ R, R < S → B R = zL' F R) → ∃ h' B' x', gm_go mX11_orders 4 (90, [some (.ref m), some (.int (zI ((zAl F : Nat) : Int))), some (.int (zI (S : Int))), some (.int (zI (zSt F S))), some (.int (zI (j : Int))), x5], [], h) (173, [some (.ref m), some (.int (zI ((zAl F : Nat) : Int))), some (.int (zI (S : Int))), some (.int (zI (zSt F S))), some (.int (zI (cn : Int))), x'], [], h') ∧ h'.1[m + 6]? = some (gA 128 B') ∧ B' S = zFm (zLg' F (zL' F) S) 100000000 cn ∧ (∀ R, R < S → B' R = B R) ∧ gh_fr h h' (fun k => k = m + 6) := by
  intro z
  induction z with
  | zero =>
    intro j h B x5 hj hM hV hB hBS hBR
    obtain rfl : j = cn := by omega
    refine ⟨h, B, x5, ?_, hB, hBS, fun R hR => rfl, gh_rf⟩
    refine gm_go_tr (gm_iload dX11_orders_90 rfl) ?_
    refine gm_go_tr (gm_aload_n dX11_orders_92 rfl (by first | exact Or.inl ⟨_, rfl⟩ | exact Or.inr ⟨_, rfl⟩)) ?_
    refine gm_go_tr (gm_get dX11_orders_93 (fl_X11_16 rfl) hM rfl) ?_
    refine gm_go_tr (gi_const dX11_orders_96) ?_
    refine gm_go_tr (gi_aldN (a := 4) dX11_orders_97 hV (by decide) (by decide)) ?_
    rw [hc]
    refine gm_go_tr (gi_icmp_ge_t (tgt := 173) dX11_orders_98 (by decide) (by omega) (by omega) (by omega)) ?_
    exact gm_go_rf
  | succ z ih =>
    intro j h B x5 hj hM hV hB hBS hBR
    have tb := z_tb S j
    have j8 : j < 8 := by omega
    have lz := zFm_a (g := zLg' F (zL' F) S) (a := 100000000) j
    have sr := zSt_r hv S
    have bb := hv.2.2.2.2.2.2.2.2 j (by omega)
    have l0 : 0 ≤ zFm (zLg' F (zL' F) S) 100000000 j := zFm_ge (by decide) (fun k hk c hcc => by
      unfold zLg' at hcc
      split at hcc
      · have := zL'_b hv (zOk_C hO (k := k) (by omega)); have := zLt_r hv (k := k) (by omega) (s := zSt F S) (B := 60420) (by omega); have := Option.some.inj hcc; omega
      · simp at hcc)
    cases hb : S.testBit j
    ·
      rw [hb, if_neg (by decide)] at tb
      have gn : zLg' F (zL' F) S j = none := by unfold zLg'; rw [hb]; simp
      obtain ⟨h', B', x', e1, e2, e3, e4, e5⟩ := ih (j + 1) h B x5 (by omega) hM hV hB (by rw [zFm_n gn]; exact hBS) hBR
      refine ⟨h', B', x', ?_, e2, e3, e4, e5⟩
      refine gm_go_tr (gm_iload dX11_orders_90 rfl) ?_
      refine gm_go_tr (gm_aload_n dX11_orders_92 rfl (by first | exact Or.inl ⟨_, rfl⟩ | exact Or.inr ⟨_, rfl⟩)) ?_
      refine gm_go_tr (gm_get dX11_orders_93 (fl_X11_16 rfl) hM rfl) ?_
      refine gm_go_tr (gi_const dX11_orders_96) ?_
      refine gm_go_tr (gi_aldN (a := 4) dX11_orders_97 hV (by decide) (by decide)) ?_
      rw [hc]
      refine gm_go_tr (gi_icmp_ge_f 173 dX11_orders_98 (by decide) (by omega) (by omega) (by omega)) ?_
      refine gm_go_tr (gm_iload_n dX11_orders_101 rfl) ?_
      refine gm_go_tr (gm_iload dX11_orders_102 rfl) ?_
      refine gm_go_tr (gi_shr dX11_orders_104 (by omega) (by omega)) ?_
      refine gm_go_tr (gi_const dX11_orders_105) ?_
      refine gm_go_tr (gi_and1 dX11_orders_106) ?_
      rw [tb]
      refine gm_go_tr (gi_if_ne_f 113 dX11_orders_107 (by decide) (by decide) rfl) ?_
      refine gm_go_tr (gm_goto (tgt := 167) dX11_orders_110 (by decide)) ?_
      refine gm_go_tr (gi_iinc (ls' := [_, _, _, _, _, _]) dX11_orders_167 rfl (by decide) rfl) ?_
      refine gm_go_tr (gm_goto (tgt := 90) dX11_orders_170 (by decide)) ?_
      exact e1
    ·
      rw [hb, if_pos rfl] at tb
      have gs : zLg' F (zL' F) S j = some (zLt F j (zSt F S) + zL' F (zC S j)) := by unfold zLg'; rw [hb, if_pos rfl]
      have lc := zC_lt S (by omega) j j8
      have rd := hBR (zC S j) (lc.2 hb)
      have dr := zL'_b hv (zOk_C hO j8)
      have lt := zLt_r hv (k := j) (by omega) (s := zSt F S) (B := 60420) (by omega)
      have hl := ct_mLateF hM hV hv (p := j) (by omega) (fun k _ _ => rfl) (x := zSt F S + F (91 + 4 * j)) (by omega)
      rw [zLd_e] at hl
      by_cases cl : zLt F j (zSt F S) + zL' F (zC S j) < zFm (zLg' F (zL' F) S) 100000000 j
      ·
        obtain ⟨a1, ha1⟩ : ∃ y : gm_H, y = (h.1.set (m + 6) (gA 128 (zU B S (zLt F j (zSt F S) + zL' F (zC S j)))), h.2) := ⟨_, rfl⟩
        have f1 : gh_fr h a1 (fun k => k = m + 6) := by rw [ha1]; exact gh_set (K := (fun k => k = m + 6)) gh_rf rfl _
        obtain ⟨h', B', x', e1, e2, e3, e4, e5⟩ := ih (j + 1) a1 (zU B S (zLt F j (zSt F S) + zL' F (zC S j))) (some (.int (zI (zLt F j (zSt F S) + zL' F (zC S j))))) (by omega) (gh_at f1 hM (by omega)) (gh_at f1 hV (by omega)) (by rw [ha1]; exact gs_s hB) (by rw [zFm_s gs, zU_s]; omega) (fun R hR => (zU_n (by omega)).trans (hBR R hR))
        refine ⟨h', B', x', ?_, e2, e3, fun R hR => (e4 R hR).trans (zU_n (by omega)), gh_tr f1 e5⟩
        refine gm_go_tr (gm_iload dX11_orders_90 rfl) ?_
        refine gm_go_tr (gm_aload_n dX11_orders_92 rfl (by first | exact Or.inl ⟨_, rfl⟩ | exact Or.inr ⟨_, rfl⟩)) ?_
        refine gm_go_tr (gm_get dX11_orders_93 (fl_X11_16 rfl) hM rfl) ?_
        refine gm_go_tr (gi_const dX11_orders_96) ?_
        refine gm_go_tr (gi_aldN (a := 4) dX11_orders_97 hV (by decide) (by decide)) ?_
        rw [hc]
        refine gm_go_tr (gi_icmp_ge_f 173 dX11_orders_98 (by decide) (by omega) (by omega) (by omega)) ?_
        refine gm_go_tr (gm_iload_n dX11_orders_101 rfl) ?_
        refine gm_go_tr (gm_iload dX11_orders_102 rfl) ?_
        refine gm_go_tr (gi_shr dX11_orders_104 (by omega) (by omega)) ?_
        refine gm_go_tr (gi_const dX11_orders_105) ?_
        refine gm_go_tr (gi_and1 dX11_orders_106) ?_
        rw [tb]
        refine gm_go_tr (gi_if_ne_t (tgt := 113) dX11_orders_107 (by decide) (by decide) (by decide)) ?_
        refine gm_go_tr (gm_aload_n dX11_orders_113 rfl (by first | exact Or.inl ⟨_, rfl⟩ | exact Or.inr ⟨_, rfl⟩)) ?_
        refine gm_go_tr (gm_iload dX11_orders_114 rfl) ?_
        refine gm_go_tr (gm_iload_n dX11_orders_116 rfl) ?_
        refine gm_go_tr (gm_aload_n dX11_orders_117 rfl (by first | exact Or.inl ⟨_, rfl⟩ | exact Or.inr ⟨_, rfl⟩)) ?_
        refine gm_go_tr (gm_get dX11_orders_118 (fl_X11_16 rfl) hM rfl) ?_
        refine gm_go_tr (gm_iload dX11_orders_121 rfl) ?_
        refine gm_go_tr (gi_const dX11_orders_123) ?_
        refine gm_go_tr (gm_cS dX11_orders_124 (ct_mAt (i := j) (w := 1)) rfl mt_X11_at ms_X11_at (lk_X11_71 rfl) rfl (Nat.le_of_ble_eq_true rfl) (by decide)) ?_
        rw [show 90 + 4 * j + 1 = 91 + 4 * j by omega]
        refine gm_go_tr (gi_aldN dX11_orders_127 hV (by omega) (by decide)) ?_
        refine gm_go_tr (gi_add dX11_orders_128) ?_
        refine gm_go_tr (gm_cV dX11_orders_129 (hl) rfl mt_X11_late mv_X11_late (lk_X11_182 rfl) (Or.inl ⟨_, 12, _, _, _, rfl, hM, rfl⟩) rfl (Nat.le_of_ble_eq_true rfl) (by decide)) ?_
        refine gm_go_tr (gm_aload_n dX11_orders_132 rfl (by first | exact Or.inl ⟨_, rfl⟩ | exact Or.inr ⟨_, rfl⟩)) ?_
        refine gm_go_tr (gm_get dX11_orders_133 (fl_X11_32 rfl) hM rfl) ?_
        refine gm_go_tr (gm_iload_n dX11_orders_136 rfl) ?_
        refine gm_go_tr (gi_const dX11_orders_137) ?_
        refine gm_go_tr (gm_iload dX11_orders_138 rfl) ?_
        refine gm_go_tr (gi_shl1 dX11_orders_140 (by omega)) ?_
        refine gm_go_tr (gi_const dX11_orders_141) ?_
        refine gm_go_tr (gi_not dX11_orders_142) ?_
        refine gm_go_tr (gi_clr dX11_orders_143 (by omega) j8) ?_
        refine gm_go_tr (gi_aldN dX11_orders_144 hB (by omega) (by decide)) ?_
        rw [rd]
        refine gm_go_tr (gi_add dX11_orders_145) ?_
        refine gm_go_tr (gm_istore (ls' := [_, _, _, _, _, _]) dX11_orders_146 (by decide) rfl) ?_
        refine gm_go_tr (gm_iload dX11_orders_148 rfl) ?_
        refine gm_go_tr (gm_aload_n dX11_orders_150 rfl (by first | exact Or.inl ⟨_, rfl⟩ | exact Or.inr ⟨_, rfl⟩)) ?_
        refine gm_go_tr (gm_get dX11_orders_151 (fl_X11_32 rfl) hM rfl) ?_
        refine gm_go_tr (gm_iload_n dX11_orders_154 rfl) ?_
        refine gm_go_tr (gi_aldN (a := S) dX11_orders_155 hB hS (by decide)) ?_
        rw [hBS]
        refine gm_go_tr (gi_icmp_ge_f 167 dX11_orders_156 (by decide) (by omega) (by omega) (by omega)) ?_
        refine gm_go_tr (gm_aload_n dX11_orders_159 rfl (by first | exact Or.inl ⟨_, rfl⟩ | exact Or.inr ⟨_, rfl⟩)) ?_
        refine gm_go_tr (gm_get dX11_orders_160 (fl_X11_32 rfl) hM rfl) ?_
        refine gm_go_tr (gm_iload_n dX11_orders_163 rfl) ?_
        refine gm_go_tr (gm_iload dX11_orders_164 rfl) ?_
        refine gm_go_tr (gi_astN (a := S) dX11_orders_166 hB hS (by decide)) ?_
        refine gm_hq ha1 ?_
        refine gm_go_tr (gi_iinc (ls' := [_, _, _, _, _, _]) dX11_orders_167 rfl (by decide) rfl) ?_
        refine gm_go_tr (gm_goto (tgt := 90) dX11_orders_170 (by decide)) ?_
        exact e1
      ·
        obtain ⟨h', B', x', e1, e2, e3, e4, e5⟩ := ih (j + 1) h B (some (.int (zI (zLt F j (zSt F S) + zL' F (zC S j))))) (by omega) hM hV hB (by rw [zFm_s gs, hBS]; omega) hBR
        refine ⟨h', B', x', ?_, e2, e3, e4, e5⟩
        refine gm_go_tr (gm_iload dX11_orders_90 rfl) ?_
        refine gm_go_tr (gm_aload_n dX11_orders_92 rfl (by first | exact Or.inl ⟨_, rfl⟩ | exact Or.inr ⟨_, rfl⟩)) ?_
        refine gm_go_tr (gm_get dX11_orders_93 (fl_X11_16 rfl) hM rfl) ?_
        refine gm_go_tr (gi_const dX11_orders_96) ?_
        refine gm_go_tr (gi_aldN (a := 4) dX11_orders_97 hV (by decide) (by decide)) ?_
        rw [hc]
        refine gm_go_tr (gi_icmp_ge_f 173 dX11_orders_98 (by decide) (by omega) (by omega) (by omega)) ?_
        refine gm_go_tr (gm_iload_n dX11_orders_101 rfl) ?_
        refine gm_go_tr (gm_iload dX11_orders_102 rfl) ?_
        refine gm_go_tr (gi_shr dX11_orders_104 (by omega) (by omega)) ?_
        refine gm_go_tr (gi_const dX11_orders_105) ?_
        refine gm_go_tr (gi_and1 dX11_orders_106) ?_
        rw [tb]
        refine gm_go_tr (gi_if_ne_t (tgt := 113) dX11_orders_107 (by decide) (by decide) (by decide)) ?_
        refine gm_go_tr (gm_aload_n dX11_orders_113 rfl (by first | exact Or.inl ⟨_, rfl⟩ | exact Or.inr ⟨_, rfl⟩)) ?_
        refine gm_go_tr (gm_iload dX11_orders_114 rfl) ?_
        refine gm_go_tr (gm_iload_n dX11_orders_116 rfl) ?_
        refine gm_go_tr (gm_aload_n dX11_orders_117 rfl (by first | exact Or.inl ⟨_, rfl⟩ | exact Or.inr ⟨_, rfl⟩)) ?_
        refine gm_go_tr (gm_get dX11_orders_118 (fl_X11_16 rfl) hM rfl) ?_
        refine gm_go_tr (gm_iload dX11_orders_121 rfl) ?_
        refine gm_go_tr (gi_const dX11_orders_123) ?_
        refine gm_go_tr (gm_cS dX11_orders_124 (ct_mAt (i := j) (w := 1)) rfl mt_X11_at ms_X11_at (lk_X11_71 rfl) rfl (Nat.le_of_ble_eq_true rfl) (by decide)) ?_
        rw [show 90 + 4 * j + 1 = 91 + 4 * j by omega]
        refine gm_go_tr (gi_aldN dX11_orders_127 hV (by omega) (by decide)) ?_
        refine gm_go_tr (gi_add dX11_orders_128) ?_
        refine gm_go_tr (gm_cV dX11_orders_129 (hl) rfl mt_X11_late mv_X11_late (lk_X11_182 rfl) (Or.inl ⟨_, 12, _, _, _, rfl, hM, rfl⟩) rfl (Nat.le_of_ble_eq_true rfl) (by decide)) ?_
        refine gm_go_tr (gm_aload_n dX11_orders_132 rfl (by first | exact Or.inl ⟨_, rfl⟩ | exact Or.inr ⟨_, rfl⟩)) ?_
        refine gm_go_tr (gm_get dX11_orders_133 (fl_X11_32 rfl) hM rfl) ?_
        refine gm_go_tr (gm_iload_n dX11_orders_136 rfl) ?_
        refine gm_go_tr (gi_const dX11_orders_137) ?_
        refine gm_go_tr (gm_iload dX11_orders_138 rfl) ?_
        refine gm_go_tr (gi_shl1 dX11_orders_140 (by omega)) ?_
        refine gm_go_tr (gi_const dX11_orders_141) ?_
        refine gm_go_tr (gi_not dX11_orders_142) ?_
        refine gm_go_tr (gi_clr dX11_orders_143 (by omega) j8) ?_
        refine gm_go_tr (gi_aldN dX11_orders_144 hB (by omega) (by decide)) ?_
        rw [rd]
        refine gm_go_tr (gi_add dX11_orders_145) ?_
        refine gm_go_tr (gm_istore (ls' := [_, _, _, _, _, _]) dX11_orders_146 (by decide) rfl) ?_
        refine gm_go_tr (gm_iload dX11_orders_148 rfl) ?_
        refine gm_go_tr (gm_aload_n dX11_orders_150 rfl (by first | exact Or.inl ⟨_, rfl⟩ | exact Or.inr ⟨_, rfl⟩)) ?_
        refine gm_go_tr (gm_get dX11_orders_151 (fl_X11_32 rfl) hM rfl) ?_
        refine gm_go_tr (gm_iload_n dX11_orders_154 rfl) ?_
        refine gm_go_tr (gi_aldN (a := S) dX11_orders_155 hB hS (by decide)) ?_
        rw [hBS]
        refine gm_go_tr (gi_icmp_ge_t (tgt := 167) dX11_orders_156 (by decide) (by omega) (by omega) (by omega)) ?_
        refine gm_go_tr (gi_iinc (ls' := [_, _, _, _, _, _]) dX11_orders_167 rfl (by decide) rfl) ?_
        refine gm_go_tr (gm_goto (tgt := 90) dX11_orders_170 (by decide)) ?_
        exact e1
set_option maxRecDepth 4000 in
theorem om_3 {m cn T : Nat} {K F : Nat → Int} (hv : ov_iv T F) (hc : F 4 = (cn : Int)) (hc7 : cn ≤ 7) : ∀ (z S : Nat) (h : gm_H) (B : Nat → Int) (x3 x4 x5 : Option Value), 1 ≤ S → S + z = zAl F + 1 → h.1[m]? = some (md_c m K) → h.1[m + 1]? = some (gA 118 F) → h.1[m + 6]? = some (gA 128 B) → (∀ R, R < S → B R = zL' F R) → ∃ h' B', gm_ru mX11_orders 4 (20, [some (.ref m), some (.int (zI ((zAl F : Nat) : Int))), some (.int (zI (S : Int))), x3, x4, x5], [], h) (.inl none) h' ∧ h'.1[m + 6]? = some (gA 128 B') ∧ (∀ R, R ≤ zAl F → B' R = zL' F R) ∧ gh_fr h h' (fun k => k = m + 6) := by
  intro z
  induction z with
  | zero =>
    intro S h B x3 x4 x5 h0 hj hM hV hB hBR
    have al := zAl_lt (v := F) (by omega)
    refine ⟨h, B, ?_, hB, fun R hR => hBR R (by omega), gh_rf⟩
    refine gm_go.ru (gm_iload_n dX11_orders_20 rfl) ?_
    refine gm_go.ru (gm_iload_n dX11_orders_21 rfl) ?_
    refine gm_go.ru (gi_icmp_gt_t (tgt := 179) dX11_orders_22 (by decide) (by omega) (by omega) (by omega)) ?_
    exact gm_vret dX11_orders_179 rfl
  | succ z ih =>
    intro S h B x3 x4 x5 h0 hj hM hV hB hBR
    have al := zAl_lt (v := F) (by omega)
    have hS : S < 128 := by omega
    have hO : zOk F S := zOk_al (by omega) (by omega)
    have sr := zSt_r hv S
    obtain ⟨a1, ha1⟩ : ∃ y : gm_H, y = (h.1.set (m + 6) (gA 128 (zU B S 100000000)), h.2) := ⟨_, rfl⟩
    have f1 : gh_fr h a1 (fun k => k = m + 6) := by rw [ha1]; exact gh_set (K := (fun k => k = m + 6)) gh_rf rfl _
    have M1 := gh_at f1 hM (by omega)
    have V1 := gh_at f1 hV (by omega)
    obtain ⟨a2, B2, x', d1, d2, d3, d4, d5⟩ := om_2 hv hc hc7 hS hO cn 0 a1 (zU B S 100000000) x5 (by omega) M1 V1 (by rw [ha1]; exact gs_s hB) (by rw [zU_s]; rfl) (fun R hR => (zU_n (by omega)).trans (hBR R hR))
    have e0 : B2 S = zL' F S := by rw [d3, ← zL'_m hv hO (by omega), hc, Int.toNat_natCast]
    have hR2 : ∀ R, R < S + 1 → B2 R = zL' F R := fun R hR => by
      by_cases e : R = S
      · rw [e]; exact e0
      · rw [d4 R (by omega), zU_n e]; exact hBR R (by omega)
    obtain ⟨h', B', e1, e2, e3, e4⟩ := ih (S + 1) a2 B2 _ _ _ (by omega) (by omega) (gh_at d5 M1 (by omega)) (gh_at d5 V1 (by omega)) d2 hR2
    refine ⟨h', B', ?_, e2, e3, gh_tr f1 (gh_tr d5 e4)⟩
    refine gm_go.ru (gm_iload_n dX11_orders_20 rfl) ?_
    refine gm_go.ru (gm_iload_n dX11_orders_21 rfl) ?_
    refine gm_go.ru (gi_icmp_gt_f 179 dX11_orders_22 (by decide) (by omega) (by omega) (by omega)) ?_
    refine gm_go.ru (gm_aload_n dX11_orders_25 rfl (by first | exact Or.inl ⟨_, rfl⟩ | exact Or.inr ⟨_, rfl⟩)) ?_
    refine gm_go.ru (gm_get dX11_orders_26 (fl_X11_16 rfl) hM rfl) ?_
    refine gm_go.ru (gi_const dX11_orders_29) ?_
    refine gm_go.ru (gi_aldN (a := 2) dX11_orders_30 hV (by decide) (by decide)) ?_
    refine gm_go.ru (gm_istore_n (ls' := [_, _, _, _, _, _]) dX11_orders_31 (by decide) rfl) ?_
    refine gm_go.ru (gi_const dX11_orders_32) ?_
    refine gm_go.ru (gm_istore (ls' := [_, _, _, _, _, _]) dX11_orders_33 (by decide) rfl) ?_
    have lp := om_1 (x5 := x5) hM hV hv hc hc7 hS cn 0 (by omega)
    rw [show F 2 + zMo F S 0 = F 2 by rw [zMo, Int.add_zero]] at lp
    refine gm_go.ru lp ?_
    rw [show F 2 + zMo F S cn = zSt F S by unfold zSt; rw [hc, Int.toNat_natCast]]
    refine gm_go.ru (gm_aload_n dX11_orders_79 rfl (by first | exact Or.inl ⟨_, rfl⟩ | exact Or.inr ⟨_, rfl⟩)) ?_
    refine gm_go.ru (gm_get dX11_orders_80 (fl_X11_32 rfl) hM rfl) ?_
    refine gm_go.ru (gm_iload_n dX11_orders_83 rfl) ?_
    refine gm_go.ru (gm_ldci (v := zI 100000000) dX11_orders_84 (kc_X11_160 rfl)) ?_
    refine gm_go.ru (gi_astN (a := S) dX11_orders_86 hB hS (by decide)) ?_
    refine gm_hp ha1 ?_
    refine gm_go.ru (gi_const dX11_orders_87) ?_
    refine gm_go.ru (gm_istore (ls' := [_, _, _, _, _, _]) dX11_orders_88 (by decide) rfl) ?_
    refine gm_go.ru d1 ?_
    refine gm_go.ru (gi_iinc (ls' := [_, _, _, _, _, _]) dX11_orders_173 rfl (by decide) rfl) ?_
    refine gm_go.ru (gm_goto (tgt := 20) dX11_orders_176 (by decide)) ?_
    exact e1
set_option maxRecDepth 4000 in
theorem ct_mOrders {h : gm_H} {m : Nat} {K F : Nat → Int} (hM : h.1[m]? = some (md_c m K)) (hV : h.1[m + 1]? = some (gA 118 F)) {T : Nat} (hv : ov_iv T F) {B : Nat → Int} (hB : h.1[m + 6]? = some (gA 128 B)) : ∃ h' B', gm_co mX11_orders 4 [.ref m] h (.inl none) h' ∧ h'.1[m + 6]? = some (gA 128 B') ∧ (∀ R, R ≤ zAl F → B' R = zL' F R) ∧ gh_fr h h' (fun k => k = m + 6) := by
  obtain ⟨cn, hc, hc7⟩ := ov_cnt hv
  obtain ⟨a1, ha1⟩ : ∃ y : gm_H, y = (h.1.set (m + 6) (gA 128 (zU B 0 0)), h.2) := ⟨_, rfl⟩
  have f1 : gh_fr h a1 (fun k => k = m + 6) := by rw [ha1]; exact gh_set (K := (fun k => k = m + 6)) gh_rf rfl _
  obtain ⟨h', B', e1, e2, e3, e4⟩ := om_3 (K := K) hv hc hc7 (zAl F) 1 a1 (zU B 0 0) none none none (by omega) (by omega) (gh_at f1 hM (by omega)) (gh_at f1 hV (by omega)) (by rw [ha1]; exact gs_s hB) (fun R hR => by rw [show R = 0 by omega, zU_s, zL'_0])
  refine ⟨h', B', ?_, e2, e3, gh_tr f1 e4⟩
  refine gm_co_of _ (by decide +kernel) rfl (Nat.le_of_ble_eq_true rfl) rfl ?_
  refine gm_go.ru (gi_const dX11_orders_0) ?_
  refine gm_go.ru (gm_aload_n dX11_orders_1 rfl (by first | exact Or.inl ⟨_, rfl⟩ | exact Or.inr ⟨_, rfl⟩)) ?_
  refine gm_go.ru (gm_get dX11_orders_2 (fl_X11_16 rfl) hM rfl) ?_
  refine gm_go.ru (gi_const dX11_orders_5) ?_
  refine gm_go.ru (gi_aldN (a := 4) dX11_orders_6 hV (by decide) (by decide)) ?_
  rw [hc]
  refine gm_go.ru (gi_shl1 dX11_orders_7 (by omega)) ?_
  refine gm_go.ru (gi_const dX11_orders_8) ?_
  refine gm_go.ru (gi_sub dX11_orders_9) ?_
  rw [show ((2 ^ cn : Nat) : Int) - 1 = ((zAl F : Nat) : Int) by unfold zAl; rw [hc, Int.toNat_natCast]; have : 0 < 2 ^ cn := Nat.pow_pos (by decide); omega]
  refine gm_go.ru (gm_istore_n (ls' := [_, _, _, _, _, _]) dX11_orders_10 (by decide) rfl) ?_
  refine gm_go.ru (gm_aload_n dX11_orders_11 rfl (by first | exact Or.inl ⟨_, rfl⟩ | exact Or.inr ⟨_, rfl⟩)) ?_
  refine gm_go.ru (gm_get dX11_orders_12 (fl_X11_32 rfl) hM rfl) ?_
  refine gm_go.ru (gi_const dX11_orders_15) ?_
  refine gm_go.ru (gi_const dX11_orders_16) ?_
  refine gm_go.ru (gi_astN (a := 0) dX11_orders_17 hB (by decide) (by decide)) ?_
  refine gm_hp ha1 ?_
  refine gm_go.ru (gi_const dX11_orders_18) ?_
  refine gm_go.ru (gm_istore_n (ls' := [_, _, _, _, _, _]) dX11_orders_19 (by decide) rfl) ?_
  exact e1
set_option maxRecDepth 4000 in
theorem ct_m_leastLateness {h : gm_H} {m : Nat} {K F : Nat → Int} (hM : h.1[m]? = some (md_c m K)) (hV : h.1[m + 1]? = some (gA 118 F)) {T : Nat} (hv : ov_iv T F) {B : Nat → Int} (hB : h.1[m + 6]? = some (gA 128 B)) : ∃ h' B', gm_co mX11_leastLateness 5 [.ref m] h (.inl (some (.int (zI (zL' F (zAl F)))))) h' ∧ h'.1[m]? = some (md_c m (zU K 0 0)) ∧ h'.1[m + 6]? = some (gA 128 B') ∧ gh_fr h h' (fun k => k = m ∨ k = m + 6) := by
  obtain ⟨a1, ha1⟩ : ∃ y : gm_H, y = (h.1.set m (md_c m (zU K 0 0)), h.2) := ⟨_, rfl⟩
  have M_a1 : a1.1[m]? = some (md_c m (zU K 0 0)) := by rw [ha1]; exact gs_s hM
  have V_a1 : a1.1[m + 1]? = some (gA 118 F) := by rw [ha1]; exact gs_n hV (by omega)
  have f_a1 : gh_fr h a1 (fun k => k = m) := by rw [ha1]; exact gh_set (K := fun k => k = m) gh_rf rfl _
  obtain ⟨cn, hc, hc7⟩ := ov_cnt hv
  have al := zAl_lt (v := F) (by omega)
  have B1 := gh_at f_a1 hB (by omega)
  obtain ⟨a2, B', e1, e2, e3, e4⟩ := ct_mOrders M_a1 V_a1 hv B1
  have M2 := gh_at e4 M_a1 (by omega)
  have V2 := gh_at e4 V_a1 (by omega)
  have rA := e3 (zAl F) (Nat.le_refl _)
  refine ⟨a2, B', ?_, M2, e2, gh_tr (gh_mono f_a1 fun k z => Or.inl z) (gh_mono e4 fun k z => Or.inr z)⟩
  rw [← rA]
  refine gm_co_of _ (by decide +kernel) rfl (Nat.le_of_ble_eq_true rfl) rfl ?_
  refine gm_go.ru (gm_aload_n dX11_leastLateness_0 rfl (by first | exact Or.inl ⟨_, rfl⟩ | exact Or.inr ⟨_, rfl⟩)) ?_
  refine gm_go.ru (gi_const dX11_leastLateness_1) ?_
  refine gm_go.ru (gm_put dX11_leastLateness_2 (fp_X11_53 rfl) hM (Nat.le_of_ble_eq_true rfl) (by first | exact ⟨rfl, rfl⟩ | exact trivial)) ?_
  refine gm_hp ha1 ?_
  refine gm_go.ru (gm_aload_n dX11_leastLateness_5 rfl (by first | exact Or.inl ⟨_, rfl⟩ | exact Or.inr ⟨_, rfl⟩)) ?_
  refine gm_go.ru (gm_cV0 dX11_leastLateness_6 (e1) rfl mt_X11_orders mv_X11_orders (lk_X11_195 rfl) (Or.inl ⟨_, 12, _, _, _, rfl, M_a1, rfl⟩) rfl (Nat.le_of_ble_eq_true rfl) (by decide)) ?_
  refine gm_go.ru (gm_aload_n dX11_leastLateness_9 rfl (by first | exact Or.inl ⟨_, rfl⟩ | exact Or.inr ⟨_, rfl⟩)) ?_
  refine gm_go.ru (gm_get dX11_leastLateness_10 (fl_X11_32 rfl) M2 rfl) ?_
  refine gm_go.ru (gi_const dX11_leastLateness_13) ?_
  refine gm_go.ru (gm_aload_n dX11_leastLateness_14 rfl (by first | exact Or.inl ⟨_, rfl⟩ | exact Or.inr ⟨_, rfl⟩)) ?_
  refine gm_go.ru (gm_get dX11_leastLateness_15 (fl_X11_16 rfl) M2 rfl) ?_
  refine gm_go.ru (gi_const dX11_leastLateness_18) ?_
  refine gm_go.ru (gi_aldN (a := 4) dX11_leastLateness_19 V2 (by decide) (by decide)) ?_
  rw [hc]
  refine gm_go.ru (gi_shl1 dX11_leastLateness_20 (by omega)) ?_
  refine gm_go.ru (gi_const dX11_leastLateness_21) ?_
  refine gm_go.ru (gi_sub dX11_leastLateness_22) ?_
  rw [show ((2 ^ cn : Nat) : Int) - 1 = ((zAl F : Nat) : Int) by unfold zAl; rw [hc, Int.toNat_natCast]; have : 0 < 2 ^ cn := Nat.pow_pos (by decide); omega]
  refine gm_go.ru (gi_aldN dX11_leastLateness_23 e2 al (by decide)) ?_
  exact gm_iret dX11_leastLateness_24 rfl
set_option maxRecDepth 4000 in
theorem ct_m_leastLatenessByOrders {h : gm_H} {m : Nat} {K F : Nat → Int} (hM : h.1[m]? = some (md_c m K)) (hV : h.1[m + 1]? = some (gA 118 F)) {T : Nat} (hv : ov_iv T F) {B : Nat → Int} (hB : h.1[m + 6]? = some (gA 128 B)) : ∃ h' B', gm_co mX11_leastLatenessByOrders 6 [.ref m] h (.inl (some (.int (zI (zL' F (zAl F)))))) h' ∧ h'.1[m]? = some (md_c m (zU K 0 0)) ∧ h'.1[m + 6]? = some (gA 128 B') ∧ gh_fr h h' (fun k => k = m ∨ k = m + 6) := by
  obtain ⟨h', B', e1, e2⟩ := ct_m_leastLateness hM hV hv hB
  refine ⟨h', B', ?_, e2⟩
  refine gm_co_of _ (by decide +kernel) rfl (Nat.le_of_ble_eq_true rfl) rfl ?_
  refine gm_go.ru (gm_aload_n dX11_leastLatenessByOrders_0 rfl (by first | exact Or.inl ⟨_, rfl⟩ | exact Or.inr ⟨_, rfl⟩)) ?_
  refine gm_go.ru (gm_cV dX11_leastLatenessByOrders_1 (e1) rfl mt_X11_leastLateness mv_X11_leastLateness (lk_X11_198 rfl) (Or.inl ⟨_, 12, _, _, _, rfl, hM, rfl⟩) rfl (Nat.le_of_ble_eq_true rfl) (by decide)) ?_
  exact gm_iret dX11_leastLatenessByOrders_4 rfl
set_option maxRecDepth 4000 in
theorem ct_m_bestFirstX {h : gm_H} {m : Nat} {K F : Nat → Int} (hM : h.1[m]? = some (md_c m K)) (hV : h.1[m + 1]? = some (gA 118 F)) {T : Nat} (hv : ov_iv T F) (hq : F 4 = 0) : ∃ h', gm_co mX11_bestFirst 5 [.ref m] h (.inl (some (.int (zI (0))))) h' ∧ h'.1[m]? = some (md_c m (zU K 0 1)) ∧ gh_fr h h' (fun k => k = m) := by
  have v4 := hv.2.2.1
  obtain ⟨a1, ha1⟩ : ∃ y : gm_H, y = (h.1.set m (md_c m (zU K 0 1)), h.2) := ⟨_, rfl⟩
  have M_a1 : a1.1[m]? = some (md_c m (zU K 0 1)) := by rw [ha1]; exact gs_s hM
  have V_a1 : a1.1[m + 1]? = some (gA 118 F) := by rw [ha1]; exact gs_n hV (by omega)
  have f_a1 : gh_fr h a1 (fun k => k = m) := by rw [ha1]; exact gh_set (K := fun k => k = m) gh_rf rfl _
  refine ⟨a1, ?_, M_a1, f_a1⟩
  refine gm_co_of _ (by decide +kernel) rfl (Nat.le_of_ble_eq_true rfl) rfl ?_
  refine gm_go.ru (gm_aload_n dX11_bestFirst_0 rfl (by first | exact Or.inl ⟨_, rfl⟩ | exact Or.inr ⟨_, rfl⟩)) ?_
  refine gm_go.ru (gm_aload_n dX11_bestFirst_1 rfl (by first | exact Or.inl ⟨_, rfl⟩ | exact Or.inr ⟨_, rfl⟩)) ?_
  refine gm_go.ru (gm_get dX11_bestFirst_2 (fl_X11_16 rfl) hM rfl) ?_
  refine gm_go.ru (gi_const dX11_bestFirst_5) ?_
  refine gm_go.ru (gi_aldN (a := 4) dX11_bestFirst_6 hV (by decide) (by decide)) ?_
  refine gm_go.ru (gi_if_ne_f 14 dX11_bestFirst_7 (by decide) (by omega) hq) ?_
  refine gm_go.ru (gi_const dX11_bestFirst_10) ?_
  refine gm_go.ru (gm_goto (tgt := 15) dX11_bestFirst_11 (by decide)) ?_
  refine gm_go.ru (gm_put dX11_bestFirst_15 (fp_X11_53 rfl) hM (Nat.le_of_ble_eq_true rfl) (by first | exact ⟨rfl, rfl⟩ | exact trivial)) ?_
  refine gm_hp ha1 ?_
  refine gm_go.ru (gm_aload_n dX11_bestFirst_18 rfl (by first | exact Or.inl ⟨_, rfl⟩ | exact Or.inr ⟨_, rfl⟩)) ?_
  refine gm_go.ru (gm_get dX11_bestFirst_19 (fl_X11_53 rfl) M_a1 rfl) ?_
  refine gm_go.ru (gi_if_eq_f 27 dX11_bestFirst_22 (by decide) (by rw [zU_s]; decide) (by rw [zU_s]; decide)) ?_
  refine gm_go.ru (gi_const dX11_bestFirst_25) ?_
  exact gm_iret dX11_bestFirst_26 rfl
set_option maxRecDepth 4000 in
theorem bf_1 {h : gm_H} {m cn T : Nat} {K F B : Nat → Int} (hM : h.1[m]? = some (md_c m K)) (hV : h.1[m + 1]? = some (gA 118 F)) (hB : h.1[m + 6]? = some (gA 128 B)) (hv : ov_iv T F) (hc : F 4 = (cn : Int)) (hc7 : cn ≤ 7) (hR : ∀ R, R ≤ zAl F → B R = zL' F R) : ∀ (z k : Nat), k + z = cn → 0 ≤ zBf F z k → gm_ru mX11_bestFirst 5 (44, [some (.ref m), some (.int (zI ((zAl F : Nat) : Int))), some (.int (zI (k : Int)))], [], h) (.inl (some (.int (zI (F (90 + 4 * (zBf F z k).toNat)))))) h := by
  intro z
  induction z with
  | zero =>
    intro k hk hz
    exact absurd hz (by simp [zBf])
  | succ z ih =>
    intro k hk hz
    have al := zAl_lt (v := F) (by omega)
    have k8 : k < 8 := by omega
    rw [zBf] at hz ⊢
    have lc := zC_lt (zAl F) (by omega) k k8
    have r1 := hR (zC (zAl F) k) lc.1
    have r2 := hR (zAl F) (Nat.le_refl _)
    have hO := zOk_al (v := F) (by omega) (S := zAl F) (Nat.le_refl _)
    have b1 := zL'_b hv (zOk_C hO k8)
    have b2 := zL'_b hv hO
    have o2 := hv.1
    have oT := hv.2.2.2.2.2.2.2.1
    have lt := zLt_r hv (k := k) (by omega) (s := F 2) (B := 60000) (by omega)
    by_cases c : zLt F k (F 2) + zL' F (zC (zAl F) k) = zL' F (zAl F)
    ·
      rw [if_pos c, Int.toNat_natCast]
      refine gm_go.ru (gm_aload_n dX11_bestFirst_44 rfl (by first | exact Or.inl ⟨_, rfl⟩ | exact Or.inr ⟨_, rfl⟩)) ?_
      refine gm_go.ru (gm_iload_n dX11_bestFirst_45 rfl) ?_
      refine gm_go.ru (gm_cV dX11_bestFirst_46 (ct_mNow hM hV hv (by omega)) rfl mt_X11_now mv_X11_now (lk_X11_192 rfl) (Or.inl ⟨_, 12, _, _, _, rfl, hM, rfl⟩) rfl (Nat.le_of_ble_eq_true rfl) (by decide)) ?_
      refine gm_go.ru (gm_aload_n dX11_bestFirst_49 rfl (by first | exact Or.inl ⟨_, rfl⟩ | exact Or.inr ⟨_, rfl⟩)) ?_
      refine gm_go.ru (gm_get dX11_bestFirst_50 (fl_X11_32 rfl) hM rfl) ?_
      refine gm_go.ru (gm_iload_n dX11_bestFirst_53 rfl) ?_
      refine gm_go.ru (gi_const dX11_bestFirst_54) ?_
      refine gm_go.ru (gm_iload_n dX11_bestFirst_55 rfl) ?_
      refine gm_go.ru (gi_shl1 dX11_bestFirst_56 (by omega)) ?_
      refine gm_go.ru (gi_const dX11_bestFirst_57) ?_
      refine gm_go.ru (gi_not dX11_bestFirst_58) ?_
      refine gm_go.ru (gi_clr dX11_bestFirst_59 (by omega) k8) ?_
      refine gm_go.ru (gi_aldN dX11_bestFirst_60 hB (by omega) (by decide)) ?_
      rw [r1]
      refine gm_go.ru (gi_add dX11_bestFirst_61) ?_
      refine gm_go.ru (gm_aload_n dX11_bestFirst_62 rfl (by first | exact Or.inl ⟨_, rfl⟩ | exact Or.inr ⟨_, rfl⟩)) ?_
      refine gm_go.ru (gm_get dX11_bestFirst_63 (fl_X11_32 rfl) hM rfl) ?_
      refine gm_go.ru (gm_iload_n dX11_bestFirst_66 rfl) ?_
      refine gm_go.ru (gi_aldN dX11_bestFirst_67 hB al (by decide)) ?_
      rw [r2]
      refine gm_go.ru (gi_icmp_eq_t (tgt := 77) dX11_bestFirst_68 (by decide) (by omega) (by omega) c) ?_
      refine gm_go.ru (gm_aload_n dX11_bestFirst_77 rfl (by first | exact Or.inl ⟨_, rfl⟩ | exact Or.inr ⟨_, rfl⟩)) ?_
      refine gm_go.ru (gm_get dX11_bestFirst_78 (fl_X11_16 rfl) hM rfl) ?_
      refine gm_go.ru (gm_iload_n dX11_bestFirst_81 rfl) ?_
      refine gm_go.ru (gi_const dX11_bestFirst_82) ?_
      refine gm_go.ru (gm_cS dX11_bestFirst_83 (ct_mAt (i := k) (w := 0)) rfl mt_X11_at ms_X11_at (lk_X11_71 rfl) rfl (Nat.le_of_ble_eq_true rfl) (by decide)) ?_
      rw [show 90 + 4 * k + 0 = 90 + 4 * k by omega]
      refine gm_go.ru (gi_aldN dX11_bestFirst_86 hV (by omega) (by decide)) ?_
      exact gm_iret dX11_bestFirst_87 rfl
    ·
      rw [if_neg c] at hz ⊢
      refine gm_go.ru (gm_aload_n dX11_bestFirst_44 rfl (by first | exact Or.inl ⟨_, rfl⟩ | exact Or.inr ⟨_, rfl⟩)) ?_
      refine gm_go.ru (gm_iload_n dX11_bestFirst_45 rfl) ?_
      refine gm_go.ru (gm_cV dX11_bestFirst_46 (ct_mNow hM hV hv (by omega)) rfl mt_X11_now mv_X11_now (lk_X11_192 rfl) (Or.inl ⟨_, 12, _, _, _, rfl, hM, rfl⟩) rfl (Nat.le_of_ble_eq_true rfl) (by decide)) ?_
      refine gm_go.ru (gm_aload_n dX11_bestFirst_49 rfl (by first | exact Or.inl ⟨_, rfl⟩ | exact Or.inr ⟨_, rfl⟩)) ?_
      refine gm_go.ru (gm_get dX11_bestFirst_50 (fl_X11_32 rfl) hM rfl) ?_
      refine gm_go.ru (gm_iload_n dX11_bestFirst_53 rfl) ?_
      refine gm_go.ru (gi_const dX11_bestFirst_54) ?_
      refine gm_go.ru (gm_iload_n dX11_bestFirst_55 rfl) ?_
      refine gm_go.ru (gi_shl1 dX11_bestFirst_56 (by omega)) ?_
      refine gm_go.ru (gi_const dX11_bestFirst_57) ?_
      refine gm_go.ru (gi_not dX11_bestFirst_58) ?_
      refine gm_go.ru (gi_clr dX11_bestFirst_59 (by omega) k8) ?_
      refine gm_go.ru (gi_aldN dX11_bestFirst_60 hB (by omega) (by decide)) ?_
      rw [r1]
      refine gm_go.ru (gi_add dX11_bestFirst_61) ?_
      refine gm_go.ru (gm_aload_n dX11_bestFirst_62 rfl (by first | exact Or.inl ⟨_, rfl⟩ | exact Or.inr ⟨_, rfl⟩)) ?_
      refine gm_go.ru (gm_get dX11_bestFirst_63 (fl_X11_32 rfl) hM rfl) ?_
      refine gm_go.ru (gm_iload_n dX11_bestFirst_66 rfl) ?_
      refine gm_go.ru (gi_aldN dX11_bestFirst_67 hB al (by decide)) ?_
      rw [r2]
      refine gm_go.ru (gi_icmp_eq_f 77 dX11_bestFirst_68 (by decide) (by omega) (by omega) c) ?_
      refine gm_go.ru (gi_iinc (ls' := [_, _, _]) dX11_bestFirst_71 rfl (by decide) rfl) ?_
      refine gm_go.ru (gm_goto (tgt := 44) dX11_bestFirst_74 (by decide)) ?_
      exact ih (k + 1) (by omega) hz
set_option maxRecDepth 4000 in
theorem ct_m_bestFirst {h : gm_H} {m : Nat} {K F : Nat → Int} (hM : h.1[m]? = some (md_c m K)) (hV : h.1[m + 1]? = some (gA 118 F)) {T : Nat} (hv : ov_iv T F) {B : Nat → Int} (hB : h.1[m + 6]? = some (gA 128 B)) (hq : 0 < F 4) : ∃ h' B', gm_co mX11_bestFirst 5 [.ref m] h (.inl (some (.int (zI (F (90 + 4 * (zBf F (F 4).toNat 0).toNat)))))) h' ∧ h'.1[m]? = some (md_c m (zU K 0 0)) ∧ h'.1[m + 6]? = some (gA 128 B') ∧ gh_fr h h' (fun k => k = m ∨ k = m + 6) := by
  obtain ⟨a1, ha1⟩ : ∃ y : gm_H, y = (h.1.set m (md_c m (zU K 0 0)), h.2) := ⟨_, rfl⟩
  have M_a1 : a1.1[m]? = some (md_c m (zU K 0 0)) := by rw [ha1]; exact gs_s hM
  have V_a1 : a1.1[m + 1]? = some (gA 118 F) := by rw [ha1]; exact gs_n hV (by omega)
  have f_a1 : gh_fr h a1 (fun k => k = m) := by rw [ha1]; exact gh_set (K := fun k => k = m) gh_rf rfl _
  obtain ⟨cn, hc, hc7⟩ := ov_cnt hv
  have al := zAl_lt (v := F) (by omega)
  have B1 := gh_at f_a1 hB (by omega)
  obtain ⟨a2, B', e1, e2, e3, e4⟩ := ct_mOrders M_a1 V_a1 hv B1
  have M2 := gh_at e4 M_a1 (by omega)
  have V2 := gh_at e4 V_a1 (by omega)
  have rA := e3 (zAl F) (Nat.le_refl _)
  have zp := zBf_pos hv hq
  refine ⟨a2, B', ?_, M2, e2, gh_tr (gh_mono f_a1 fun k z => Or.inl z) (gh_mono e4 fun k z => Or.inr z)⟩
  rw [hc, Int.toNat_natCast] at zp ⊢
  refine gm_co_of _ (by decide +kernel) rfl (Nat.le_of_ble_eq_true rfl) rfl ?_
  refine gm_go.ru (gm_aload_n dX11_bestFirst_0 rfl (by first | exact Or.inl ⟨_, rfl⟩ | exact Or.inr ⟨_, rfl⟩)) ?_
  refine gm_go.ru (gm_aload_n dX11_bestFirst_1 rfl (by first | exact Or.inl ⟨_, rfl⟩ | exact Or.inr ⟨_, rfl⟩)) ?_
  refine gm_go.ru (gm_get dX11_bestFirst_2 (fl_X11_16 rfl) hM rfl) ?_
  refine gm_go.ru (gi_const dX11_bestFirst_5) ?_
  refine gm_go.ru (gi_aldN (a := 4) dX11_bestFirst_6 hV (by decide) (by decide)) ?_
  refine gm_go.ru (gi_if_ne_t (tgt := 14) dX11_bestFirst_7 (by decide) (by omega) (by omega)) ?_
  refine gm_go.ru (gi_const dX11_bestFirst_14) ?_
  refine gm_go.ru (gm_put dX11_bestFirst_15 (fp_X11_53 rfl) hM (Nat.le_of_ble_eq_true rfl) (by first | exact ⟨rfl, rfl⟩ | exact trivial)) ?_
  refine gm_hp ha1 ?_
  refine gm_go.ru (gm_aload_n dX11_bestFirst_18 rfl (by first | exact Or.inl ⟨_, rfl⟩ | exact Or.inr ⟨_, rfl⟩)) ?_
  refine gm_go.ru (gm_get dX11_bestFirst_19 (fl_X11_53 rfl) M_a1 rfl) ?_
  refine gm_go.ru (gi_if_eq_t (tgt := 27) dX11_bestFirst_22 (by decide) (by rw [zU_s]; decide) zU_s) ?_
  refine gm_go.ru (gm_aload_n dX11_bestFirst_27 rfl (by first | exact Or.inl ⟨_, rfl⟩ | exact Or.inr ⟨_, rfl⟩)) ?_
  refine gm_go.ru (gm_cV0 dX11_bestFirst_28 (e1) rfl mt_X11_orders mv_X11_orders (lk_X11_195 rfl) (Or.inl ⟨_, 12, _, _, _, rfl, M_a1, rfl⟩) rfl (Nat.le_of_ble_eq_true rfl) (by decide)) ?_
  refine gm_go.ru (gi_const dX11_bestFirst_31) ?_
  refine gm_go.ru (gm_aload_n dX11_bestFirst_32 rfl (by first | exact Or.inl ⟨_, rfl⟩ | exact Or.inr ⟨_, rfl⟩)) ?_
  refine gm_go.ru (gm_get dX11_bestFirst_33 (fl_X11_16 rfl) M2 rfl) ?_
  refine gm_go.ru (gi_const dX11_bestFirst_36) ?_
  refine gm_go.ru (gi_aldN (a := 4) dX11_bestFirst_37 V2 (by decide) (by decide)) ?_
  rw [hc]
  refine gm_go.ru (gi_shl1 dX11_bestFirst_38 (by omega)) ?_
  refine gm_go.ru (gi_const dX11_bestFirst_39) ?_
  refine gm_go.ru (gi_sub dX11_bestFirst_40) ?_
  rw [show ((2 ^ cn : Nat) : Int) - 1 = ((zAl F : Nat) : Int) by unfold zAl; rw [hc, Int.toNat_natCast]; have : 0 < 2 ^ cn := Nat.pow_pos (by decide); omega]
  refine gm_go.ru (gm_istore_n (ls' := [_, _, _]) dX11_bestFirst_41 (by decide) rfl) ?_
  refine gm_go.ru (gi_const dX11_bestFirst_42) ?_
  refine gm_go.ru (gm_istore_n (ls' := [_, _, _]) dX11_bestFirst_43 (by decide) rfl) ?_
  exact bf_1 M2 V2 e2 hv hc hc7 e3 cn 0 (by omega) zp
set_option maxRecDepth 4000 in
theorem ct_m_latenessByIds {h : gm_H} {m : Nat} {K F : Nat → Int} (hM : h.1[m]? = some (md_c m K)) (hV : h.1[m + 1]? = some (gA 118 F)) {T : Nat} (hv : ov_iv T F) : ∃ h', gm_co mX11_latenessByIds 4 [.ref m] h (.inl (some (.int (zI (zLi F (F 4).toNat))))) h' ∧ h'.1[m]? = some (md_c m (zU K 0 0)) ∧ gh_fr h h' (fun k => k = m) := by
  obtain ⟨a1, ha1⟩ : ∃ y : gm_H, y = (h.1.set m (md_c m (zU K 0 0)), h.2) := ⟨_, rfl⟩
  have M_a1 : a1.1[m]? = some (md_c m (zU K 0 0)) := by rw [ha1]; exact gs_s hM
  have V_a1 : a1.1[m + 1]? = some (gA 118 F) := by rw [ha1]; exact gs_n hV (by omega)
  have f_a1 : gh_fr h a1 (fun k => k = m) := by rw [ha1]; exact gh_set (K := fun k => k = m) gh_rf rfl _
  obtain ⟨cn, hc, hc7⟩ := ov_cnt hv
  rw [hc, Int.toNat_natCast]
  refine ⟨a1, ?_, M_a1, f_a1⟩
  have key : ∀ (z j : Nat), j + z = cn → gm_ru mX11_latenessByIds 4 (16, [some (.ref m), some (.int (zI (zLs F j))), some (.int (zI (zLi F j))), some (.int (zI (j : Int)))], [], a1) (.inl (some (.int (zI (zLi F cn))))) a1 := by
    intro z
    induction z with
    | zero =>
      intro j hj
      obtain rfl : j = cn := by omega
      refine gm_go.ru (gm_iload_n dX11_latenessByIds_16 rfl) ?_
      refine gm_go.ru (gm_aload_n dX11_latenessByIds_17 rfl (by first | exact Or.inl ⟨_, rfl⟩ | exact Or.inr ⟨_, rfl⟩)) ?_
      refine gm_go.ru (gm_get dX11_latenessByIds_18 (fl_X11_16 rfl) M_a1 rfl) ?_
      refine gm_go.ru (gi_const dX11_latenessByIds_21) ?_
      refine gm_go.ru (gi_aldN (a := 4) dX11_latenessByIds_22 V_a1 (by decide) (by decide)) ?_
      rw [hc]
      refine gm_go.ru (gi_icmp_ge_t (tgt := 54) dX11_latenessByIds_23 (by decide) (by omega) (by omega) (by omega)) ?_
      refine gm_go.ru (gm_iload_n dX11_latenessByIds_54 rfl) ?_
      exact gm_iret dX11_latenessByIds_55 rfl
    | succ z ih =>
      intro j hj
      have lsr := zLs_r hv j (by omega)
      have bb := hv.2.2.2.2.2.2.2.2 j (by omega)
      have hl := ct_mLateF M_a1 V_a1 hv (p := j) (by omega) (fun k _ _ => rfl) (x := zLs F j + F (91 + 4 * j)) (by omega)
      rw [zLd_e] at hl
      refine gm_go.ru (gm_iload_n dX11_latenessByIds_16 rfl) ?_
      refine gm_go.ru (gm_aload_n dX11_latenessByIds_17 rfl (by first | exact Or.inl ⟨_, rfl⟩ | exact Or.inr ⟨_, rfl⟩)) ?_
      refine gm_go.ru (gm_get dX11_latenessByIds_18 (fl_X11_16 rfl) M_a1 rfl) ?_
      refine gm_go.ru (gi_const dX11_latenessByIds_21) ?_
      refine gm_go.ru (gi_aldN (a := 4) dX11_latenessByIds_22 V_a1 (by decide) (by decide)) ?_
      rw [hc]
      refine gm_go.ru (gi_icmp_ge_f 54 dX11_latenessByIds_23 (by decide) (by omega) (by omega) (by omega)) ?_
      refine gm_go.ru (gm_iload_n dX11_latenessByIds_26 rfl) ?_
      refine gm_go.ru (gm_aload_n dX11_latenessByIds_27 rfl (by first | exact Or.inl ⟨_, rfl⟩ | exact Or.inr ⟨_, rfl⟩)) ?_
      refine gm_go.ru (gm_get dX11_latenessByIds_28 (fl_X11_16 rfl) M_a1 rfl) ?_
      refine gm_go.ru (gm_iload_n dX11_latenessByIds_31 rfl) ?_
      refine gm_go.ru (gi_const dX11_latenessByIds_32) ?_
      refine gm_go.ru (gm_cS dX11_latenessByIds_33 (ct_mAt (i := j) (w := 1)) rfl mt_X11_at ms_X11_at (lk_X11_71 rfl) rfl (Nat.le_of_ble_eq_true rfl) (by decide)) ?_
      rw [show 90 + 4 * j + 1 = 91 + 4 * j by omega]
      refine gm_go.ru (gi_aldN dX11_latenessByIds_36 V_a1 (by omega) (by decide)) ?_
      refine gm_go.ru (gi_add dX11_latenessByIds_37) ?_
      refine gm_go.ru (gm_istore_n (ls' := [_, _, _, _]) dX11_latenessByIds_38 (by decide) rfl) ?_
      refine gm_go.ru (gm_iload_n dX11_latenessByIds_39 rfl) ?_
      refine gm_go.ru (gm_aload_n dX11_latenessByIds_40 rfl (by first | exact Or.inl ⟨_, rfl⟩ | exact Or.inr ⟨_, rfl⟩)) ?_
      refine gm_go.ru (gm_iload_n dX11_latenessByIds_41 rfl) ?_
      refine gm_go.ru (gm_iload_n dX11_latenessByIds_42 rfl) ?_
      refine gm_go.ru (gm_cV dX11_latenessByIds_43 (hl) rfl mt_X11_late mv_X11_late (lk_X11_182 rfl) (Or.inl ⟨_, 12, _, _, _, rfl, M_a1, rfl⟩) rfl (Nat.le_of_ble_eq_true rfl) (by decide)) ?_
      refine gm_go.ru (gi_add dX11_latenessByIds_46) ?_
      refine gm_go.ru (gm_istore_n (ls' := [_, _, _, _]) dX11_latenessByIds_47 (by decide) rfl) ?_
      refine gm_go.ru (gi_iinc (ls' := [_, _, _, _]) dX11_latenessByIds_48 rfl (by decide) rfl) ?_
      refine gm_go.ru (gm_goto (tgt := 16) dX11_latenessByIds_51 (by decide)) ?_
      exact ih (j + 1) (by omega)
  refine gm_co_of _ (by decide +kernel) rfl (Nat.le_of_ble_eq_true rfl) rfl ?_
  refine gm_go.ru (gm_aload_n dX11_latenessByIds_0 rfl (by first | exact Or.inl ⟨_, rfl⟩ | exact Or.inr ⟨_, rfl⟩)) ?_
  refine gm_go.ru (gi_const dX11_latenessByIds_1) ?_
  refine gm_go.ru (gm_put dX11_latenessByIds_2 (fp_X11_53 rfl) hM (Nat.le_of_ble_eq_true rfl) (by first | exact ⟨rfl, rfl⟩ | exact trivial)) ?_
  refine gm_hp ha1 ?_
  refine gm_go.ru (gm_aload_n dX11_latenessByIds_5 rfl (by first | exact Or.inl ⟨_, rfl⟩ | exact Or.inr ⟨_, rfl⟩)) ?_
  refine gm_go.ru (gm_get dX11_latenessByIds_6 (fl_X11_16 rfl) M_a1 rfl) ?_
  refine gm_go.ru (gi_const dX11_latenessByIds_9) ?_
  refine gm_go.ru (gi_aldN (a := 2) dX11_latenessByIds_10 V_a1 (by decide) (by decide)) ?_
  refine gm_go.ru (gm_istore_n (ls' := [_, _, _, _]) dX11_latenessByIds_11 (by decide) rfl) ?_
  refine gm_go.ru (gi_const dX11_latenessByIds_12) ?_
  refine gm_go.ru (gm_istore_n (ls' := [_, _, _, _]) dX11_latenessByIds_13 (by decide) rfl) ?_
  refine gm_go.ru (gi_const dX11_latenessByIds_14) ?_
  refine gm_go.ru (gm_istore_n (ls' := [_, _, _, _]) dX11_latenessByIds_15 (by decide) rfl) ?_
  exact key cn 0 (by omega)
set_option maxRecDepth 4000 in
theorem ct_m_latenessTotal {h : gm_H} {m : Nat} {K F : Nat → Int} (hM : h.1[m]? = some (md_c m K)) (hV : h.1[m + 1]? = some (gA 118 F)) {T : Nat} (hv : ov_iv T F) : ∃ h', gm_co mX11_latenessTotal 2 [.ref m] h (.inl (some (.long (zL (F 8 * 1000000 + F 7))))) h' ∧ h'.1[m]? = some (md_c m (zU K 0 0)) ∧ gh_fr h h' (fun k => k = m) := by
  have o7 := hv.2.2.2.2.2.1
  have o8 := hv.2.2.2.2.2.2.1
  have oT := hv.2.2.2.2.2.2.2.1
  obtain ⟨a1, ha1⟩ : ∃ y : gm_H, y = (h.1.set m (md_c m (zU K 0 0)), h.2) := ⟨_, rfl⟩
  have M_a1 : a1.1[m]? = some (md_c m (zU K 0 0)) := by rw [ha1]; exact gs_s hM
  have V_a1 : a1.1[m + 1]? = some (gA 118 F) := by rw [ha1]; exact gs_n hV (by omega)
  have f_a1 : gh_fr h a1 (fun k => k = m) := by rw [ha1]; exact gh_set (K := fun k => k = m) gh_rf rfl _
  refine ⟨a1, ?_, M_a1, f_a1⟩
  refine gm_co_of _ (by decide +kernel) rfl (Nat.le_of_ble_eq_true rfl) rfl ?_
  refine gm_go.ru (gm_aload_n dX11_latenessTotal_0 rfl (by first | exact Or.inl ⟨_, rfl⟩ | exact Or.inr ⟨_, rfl⟩)) ?_
  refine gm_go.ru (gi_const dX11_latenessTotal_1) ?_
  refine gm_go.ru (gm_put dX11_latenessTotal_2 (fp_X11_53 rfl) hM (Nat.le_of_ble_eq_true rfl) (by first | exact ⟨rfl, rfl⟩ | exact trivial)) ?_
  refine gm_hp ha1 ?_
  refine gm_go.ru (gm_aload_n dX11_latenessTotal_5 rfl (by first | exact Or.inl ⟨_, rfl⟩ | exact Or.inr ⟨_, rfl⟩)) ?_
  refine gm_go.ru (gm_get dX11_latenessTotal_6 (fl_X11_16 rfl) M_a1 rfl) ?_
  refine gm_go.ru (gi_bipush dX11_latenessTotal_9 (by decide +kernel)) ?_
  refine gm_go.ru (gi_aldN (a := 8) dX11_latenessTotal_11 V_a1 (by decide) (by decide)) ?_
  refine gm_go.ru (gi_i2l dX11_latenessTotal_12 (by omega)) ?_
  refine gm_go.ru (gm_ldc2 (v := zL 1000000) dX11_latenessTotal_13 (kl_X11_201 rfl)) ?_
  refine gm_go.ru (gm_lmul dX11_latenessTotal_16) ?_
  refine gm_go.ru (gm_aload_n dX11_latenessTotal_17 rfl (by first | exact Or.inl ⟨_, rfl⟩ | exact Or.inr ⟨_, rfl⟩)) ?_
  refine gm_go.ru (gm_get dX11_latenessTotal_18 (fl_X11_16 rfl) M_a1 rfl) ?_
  refine gm_go.ru (gi_bipush dX11_latenessTotal_21 (by decide +kernel)) ?_
  refine gm_go.ru (gi_aldN (a := 7) dX11_latenessTotal_23 V_a1 (by decide) (by decide)) ?_
  refine gm_go.ru (gi_i2l dX11_latenessTotal_24 (by omega)) ?_
  refine gm_go.ru (gm_ladd dX11_latenessTotal_25) ?_
  rw [show zL (F 8) * zL 1000000 + zL (F 7) = zL (F 8 * 1000000 + F 7) by unfold zL; rw [Int64.ofInt_add, Int64.ofInt_mul]]
  exact gm_lret dX11_latenessTotal_26 rfl
set_option maxRecDepth 4000 in
theorem ct_m_bakingShare {h : gm_H} {m : Nat} {K F : Nat → Int} (hM : h.1[m]? = some (md_c m K)) (hV : h.1[m + 1]? = some (gA 118 F)) {T : Nat} (hv : ov_iv T F) (hq : ¬ F 2 = 0) : ∃ h', gm_co mX11_bakingShare 2 [.ref m] h (.inl (some (.float (zShare F)))) h' ∧ h'.1[m]? = some (md_c m (zU K 0 0)) ∧ gh_fr h h' (fun k => k = m) := by
  have o2 := hv.1
  have oT := hv.2.2.2.2.2.2.2.1
  obtain ⟨a1, ha1⟩ : ∃ y : gm_H, y = (h.1.set m (md_c m (zU K 0 0)), h.2) := ⟨_, rfl⟩
  have M_a1 : a1.1[m]? = some (md_c m (zU K 0 0)) := by rw [ha1]; exact gs_s hM
  have V_a1 : a1.1[m + 1]? = some (gA 118 F) := by rw [ha1]; exact gs_n hV (by omega)
  have f_a1 : gh_fr h a1 (fun k => k = m) := by rw [ha1]; exact gh_set (K := fun k => k = m) gh_rf rfl _
  refine ⟨a1, ?_, M_a1, f_a1⟩
  refine gm_co_of _ (by decide +kernel) rfl (Nat.le_of_ble_eq_true rfl) rfl ?_
  refine gm_go.ru (gm_aload_n dX11_bakingShare_0 rfl (by first | exact Or.inl ⟨_, rfl⟩ | exact Or.inr ⟨_, rfl⟩)) ?_
  refine gm_go.ru (gm_aload_n dX11_bakingShare_1 rfl (by first | exact Or.inl ⟨_, rfl⟩ | exact Or.inr ⟨_, rfl⟩)) ?_
  refine gm_go.ru (gm_get dX11_bakingShare_2 (fl_X11_16 rfl) hM rfl) ?_
  refine gm_go.ru (gi_const dX11_bakingShare_5) ?_
  refine gm_go.ru (gi_aldN (a := 2) dX11_bakingShare_6 hV (by decide) (by decide)) ?_
  refine gm_go.ru (gi_if_ne_t (tgt := 14) dX11_bakingShare_7 (by decide) (by omega) (by omega)) ?_
  refine gm_go.ru (gi_const dX11_bakingShare_14) ?_
  refine gm_go.ru (gm_put dX11_bakingShare_15 (fp_X11_53 rfl) hM (Nat.le_of_ble_eq_true rfl) (by first | exact ⟨rfl, rfl⟩ | exact trivial)) ?_
  refine gm_hp ha1 ?_
  have n1 := (zShare_n hv hq).1
  refine gm_go.ru (gm_aload_n dX11_bakingShare_18 rfl (by first | exact Or.inl ⟨_, rfl⟩ | exact Or.inr ⟨_, rfl⟩)) ?_
  refine gm_go.ru (gm_get dX11_bakingShare_19 (fl_X11_53 rfl) M_a1 rfl) ?_
  refine gm_go.ru (gi_if_ne_f 44 dX11_bakingShare_22 (by decide) (by rw [zU_s]; decide) zU_s) ?_
  refine gm_go.ru (gm_aload_n dX11_bakingShare_25 rfl (by first | exact Or.inl ⟨_, rfl⟩ | exact Or.inr ⟨_, rfl⟩)) ?_
  refine gm_go.ru (gm_get dX11_bakingShare_26 (fl_X11_16 rfl) M_a1 rfl) ?_
  refine gm_go.ru (gi_bipush dX11_bakingShare_29 (by decide +kernel)) ?_
  refine gm_go.ru (gi_aldN (a := 6) dX11_bakingShare_31 V_a1 (by decide) (by decide)) ?_
  refine gm_go.ru (gm_i2f dX11_bakingShare_32) ?_
  refine gm_go.ru (gm_aload_n dX11_bakingShare_33 rfl (by first | exact Or.inl ⟨_, rfl⟩ | exact Or.inr ⟨_, rfl⟩)) ?_
  refine gm_go.ru (gm_get dX11_bakingShare_34 (fl_X11_16 rfl) M_a1 rfl) ?_
  refine gm_go.ru (gi_const dX11_bakingShare_37) ?_
  refine gm_go.ru (gi_aldN (a := 2) dX11_bakingShare_38 V_a1 (by decide) (by decide)) ?_
  refine gm_go.ru (gm_i2f dX11_bakingShare_39) ?_
  refine gm_go.ru (gm_fdiv n1 dX11_bakingShare_40) ?_
  refine gm_go.ru (gm_goto (tgt := 45) dX11_bakingShare_41 (by decide)) ?_
  exact gm_fret dX11_bakingShare_45 rfl
set_option maxRecDepth 4000 in
theorem ct_m_bakingShareX {h : gm_H} {m : Nat} {K F : Nat → Int} (hM : h.1[m]? = some (md_c m K)) (hV : h.1[m + 1]? = some (gA 118 F)) {T : Nat} (hv : ov_iv T F) (hq : F 2 = 0) : ∃ h', gm_co mX11_bakingShare 2 [.ref m] h (.inl (some (.float 0))) h' ∧ h'.1[m]? = some (md_c m (zU K 0 1)) ∧ gh_fr h h' (fun k => k = m) := by
  have o2 := hv.1
  have oT := hv.2.2.2.2.2.2.2.1
  obtain ⟨a1, ha1⟩ : ∃ y : gm_H, y = (h.1.set m (md_c m (zU K 0 1)), h.2) := ⟨_, rfl⟩
  have M_a1 : a1.1[m]? = some (md_c m (zU K 0 1)) := by rw [ha1]; exact gs_s hM
  have V_a1 : a1.1[m + 1]? = some (gA 118 F) := by rw [ha1]; exact gs_n hV (by omega)
  have f_a1 : gh_fr h a1 (fun k => k = m) := by rw [ha1]; exact gh_set (K := fun k => k = m) gh_rf rfl _
  refine ⟨a1, ?_, M_a1, f_a1⟩
  refine gm_co_of _ (by decide +kernel) rfl (Nat.le_of_ble_eq_true rfl) rfl ?_
  refine gm_go.ru (gm_aload_n dX11_bakingShare_0 rfl (by first | exact Or.inl ⟨_, rfl⟩ | exact Or.inr ⟨_, rfl⟩)) ?_
  refine gm_go.ru (gm_aload_n dX11_bakingShare_1 rfl (by first | exact Or.inl ⟨_, rfl⟩ | exact Or.inr ⟨_, rfl⟩)) ?_
  refine gm_go.ru (gm_get dX11_bakingShare_2 (fl_X11_16 rfl) hM rfl) ?_
  refine gm_go.ru (gi_const dX11_bakingShare_5) ?_
  refine gm_go.ru (gi_aldN (a := 2) dX11_bakingShare_6 hV (by decide) (by decide)) ?_
  refine gm_go.ru (gi_if_ne_f 14 dX11_bakingShare_7 (by decide) (by omega) hq) ?_
  refine gm_go.ru (gi_const dX11_bakingShare_10) ?_
  refine gm_go.ru (gm_goto (tgt := 15) dX11_bakingShare_11 (by decide)) ?_
  refine gm_go.ru (gm_put dX11_bakingShare_15 (fp_X11_53 rfl) hM (Nat.le_of_ble_eq_true rfl) (by first | exact ⟨rfl, rfl⟩ | exact trivial)) ?_
  refine gm_hp ha1 ?_
  refine gm_go.ru (gm_aload_n dX11_bakingShare_18 rfl (by first | exact Or.inl ⟨_, rfl⟩ | exact Or.inr ⟨_, rfl⟩)) ?_
  refine gm_go.ru (gm_get dX11_bakingShare_19 (fl_X11_53 rfl) M_a1 rfl) ?_
  refine gm_go.ru (gi_if_ne_t (tgt := 44) dX11_bakingShare_22 (by decide) (by rw [zU_s]; decide) (by rw [zU_s]; decide)) ?_
  refine gm_go.ru (gm_fconst0 dX11_bakingShare_44) ?_
  exact gm_fret dX11_bakingShare_45 rfl
