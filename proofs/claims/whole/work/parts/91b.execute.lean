def my_K (m : Nat) : Nat → Prop := fun k => (m ≤ k ∧ k ≤ m + 2) ∨ k = m + 4 ∨ k = m + 10
set_option maxRecDepth 4000 in
theorem ct_mExX {h : gm_H} {m L : Nat} {K X F B P : Nat → Int} (ht : zTx X L) (hM : h.1[m]? = some (md_c m K)) (hV : h.1[m + 1]? = some (gA 118 F)) (hB : h.1[m + 2]? = some (gA 118 B)) (hP : h.1[m + 4]? = some (gA 944 P)) (hT : mt_at h m X) (hL : K 17 = (L : Int)) (w : Nat) (t : (Nat → Int) × Nat) (hq : (zCc X L 60 1 w (0, t)).1 < 0) : ∃ h' K' B', gm_co mX11_execute 9 [.ref m] h (.inl (some (.int (zI 0)))) h' ∧ h'.1[m]? = some (md_c m K') ∧ h'.1[m + 1]? = some (gA 118 F) ∧ h'.1[m + 2]? = some (gA 118 B') ∧ h'.1[m + 4]? = some (gA 944 P) ∧ mt_at h' m X ∧ K' 0 = 1 ∧ K' 2 = ((zCc X L 60 1 w (0, t)).2.2.1 : Int) ∧ K' 17 = 0 ∧ (∀ j, j = 1 ∨ j = 3 ∨ j = 4 ∨ j = 20 → K' j = K j) ∧ gh_fr h h' (my_K m) := by
  obtain ⟨b0, b1, b2, b3, b4, b5⟩ := ct_mBegins hM hV hB
  have fb : gh_fr h b0 (my_K m) := gh_mono b5 fun k z => Or.inl (by omega)
  obtain ⟨c1, hc1⟩ : ∃ y : gm_H, y = (b0.1.set m (md_c m (zU (zU K 0 0) 19 (L : Int))), b0.2) := ⟨_, rfl⟩
  have Mc1 : c1.1[m]? = some (md_c m (zU (zU K 0 0) 19 (L : Int))) := by rw [hc1]; exact gs_s b2
  have fc1 : gh_fr h c1 (my_K m) := gh_tr fb (by rw [hc1]; exact gh_set (K := my_K m) gh_rf (Or.inl ⟨by omega, by omega⟩) _)
  obtain ⟨c2, hc2⟩ : ∃ y : gm_H, y = (c1.1.set m (md_c m (zU (zU (zU K 0 0) 19 (L : Int)) 17 0)), c1.2) := ⟨_, rfl⟩
  have Mc2 : c2.1[m]? = some (md_c m (zU (zU (zU K 0 0) 19 (L : Int)) 17 0)) := by rw [hc2]; exact gs_s Mc1
  have fc2 : gh_fr h c2 (my_K m) := gh_tr fc1 (by rw [hc2]; exact gh_set (K := my_K m) gh_rf (Or.inl ⟨by omega, by omega⟩) _)
  obtain ⟨c3, hc3⟩ : ∃ y : gm_H, y = (c2.1.set m (md_c m (zU (zU (zU (zU K 0 0) 19 (L : Int)) 17 0) 22 0)), c2.2) := ⟨_, rfl⟩
  have Mc3 : c3.1[m]? = some (md_c m (zU (zU (zU (zU K 0 0) 19 (L : Int)) 17 0) 22 0)) := by rw [hc3]; exact gs_s Mc2
  have fc3 : gh_fr h c3 (my_K m) := gh_tr fc2 (by rw [hc3]; exact gh_set (K := my_K m) gh_rf (Or.inl ⟨by omega, by omega⟩) _)
  have k4 : ∀ j, j ≠ 0 → j ≠ 17 → j ≠ 19 → j ≠ 22 → (zU (zU (zU (zU K 0 0) 19 (L : Int)) 17 0) 22 0) j = K j := fun j j0 j1 j2 j3 => (zU_n j3).trans ((zU_n j1).trans ((zU_n j2).trans (zU_n j0)))
  have g3 : gh_fr b0 c3 (fun k => k = m) := by rw [hc3, hc2, hc1]; exact gh_set (K := (fun k => k = m)) (gh_set (K := (fun k => k = m)) (gh_set (K := (fun k => k = m)) gh_rf rfl _) rfl _) rfl _
  have V3 := gh_at g3 b3 (by omega)
  have B3 := gh_at g3 b4 (by omega)
  have P3 := gh_at g3 (gh_at b5 hP (by omega)) (by omega)
  have T3 := mt_fr g3 (by omega) (by omega) (by omega) (by omega) (mt_fr b5 (by omega) (by omega) (by omega) (by omega) hT)
  obtain ⟨d0, K5, r, e1, e2, e3, e4, e5, e6, e7⟩ := ct_mComsR ht Mc3 T3 ((zU_n (by decide)).trans ((zU_n (by decide)).trans zU_s)) ((zU_n (by decide)).trans ((zU_n (by decide)).trans ((zU_n (by decide)).trans zU_s))) zU_s w t
  have fd : gh_fr h d0 (my_K m) := gh_tr fc3 (gh_mono e7 fun k z => by unfold mt_K at z; unfold my_K; omega)
  have V5 := gh_at e7 V3 (by unfold mt_K; omega)
  have B5 := gh_at e7 B3 (by unfold mt_K; omega)
  have P5 := gh_at e7 P3 (by unfold mt_K; omega)
  have k17 : K5 17 = 0 := (e6 17 (by decide) (by decide)).trans ((zU_n (by decide)).trans zU_s)
  have k5 : ∀ j, j ≠ 0 → j ≠ 17 → j ≠ 18 → j ≠ 19 → j ≠ 21 → j ≠ 22 → K5 j = K j := fun j j0 j1 j2 j3 j4 j5 => (e6 j j2 j4).trans (k4 j j0 j1 j3 j5)
  rw [decide_eq_true hq] at e5
  obtain ⟨c4, hc4⟩ : ∃ y : gm_H, y = (d0.1.set m (md_c m (zU K5 2 ((zCc X L 60 1 w (0, t)).2.2.1 : Int))), d0.2) := ⟨_, rfl⟩
  have Mc4 : c4.1[m]? = some (md_c m (zU K5 2 ((zCc X L 60 1 w (0, t)).2.2.1 : Int))) := by rw [hc4]; exact gs_s e2
  have fc4 : gh_fr h c4 (my_K m) := gh_tr fd (by rw [hc4]; exact gh_set (K := my_K m) gh_rf (Or.inl ⟨by omega, by omega⟩) _)
  obtain ⟨c5, hc5⟩ : ∃ y : gm_H, y = (c4.1.set m (md_c m (zU (zU K5 2 ((zCc X L 60 1 w (0, t)).2.2.1 : Int)) 0 1)), c4.2) := ⟨_, rfl⟩
  have Mc5 : c5.1[m]? = some (md_c m (zU (zU K5 2 ((zCc X L 60 1 w (0, t)).2.2.1 : Int)) 0 1)) := by rw [hc5]; exact gs_s Mc4
  have fc5 : gh_fr h c5 (my_K m) := gh_tr fc4 (by rw [hc5]; exact gh_set (K := my_K m) gh_rf (Or.inl ⟨by omega, by omega⟩) _)
  have fl := ct_mFail Mc4 (x := 1)
  rw [← hc5] at fl
  have g5 : gh_fr d0 c5 (fun k => k = m) := by rw [hc5, hc4]; exact gh_set (K := (fun k => k = m)) (gh_set (K := (fun k => k = m)) gh_rf rfl _) rfl _
  refine ⟨c5, _, _, ?_, Mc5, gh_at g5 V5 (by omega), gh_at g5 B5 (by omega), gh_at g5 P5 (by omega), mt_fr g5 (by omega) (by omega) (by omega) (by omega) e3, zU_s, (zU_n (by decide)).trans zU_s, (zU_n (by decide)).trans ((zU_n (by decide)).trans k17), fun j hj => (zU_n (by omega)).trans ((zU_n (by omega)).trans (k5 j (by omega) (by omega) (by omega) (by omega) (by omega) (by omega))), fc5⟩
  refine gm_co_of _ (by decide +kernel) rfl (Nat.le_of_ble_eq_true rfl) rfl ?_
  refine gm_go.ru (gm_aload_n dX11_execute_0 rfl (by first | exact Or.inl ⟨_, rfl⟩ | exact Or.inr ⟨_, rfl⟩)) ?_
  refine gm_go.ru (gm_cV0 dX11_execute_1 (b1) rfl mt_X11_begins mv_X11_begins (lk_X11_78 rfl) (Or.inl ⟨_, 12, _, _, _, rfl, hM, rfl⟩) rfl (Nat.le_of_ble_eq_true rfl) (by decide)) ?_
  refine gm_go.ru (gm_aload_n dX11_execute_4 rfl (by first | exact Or.inl ⟨_, rfl⟩ | exact Or.inr ⟨_, rfl⟩)) ?_
  refine gm_go.ru (gm_aload_n dX11_execute_5 rfl (by first | exact Or.inl ⟨_, rfl⟩ | exact Or.inr ⟨_, rfl⟩)) ?_
  refine gm_go.ru (gm_get dX11_execute_6 (fl_X11_213 rfl) b2 rfl) ?_
  rw [show zU K 0 0 17 = (L : Int) from (zU_n (by decide)).trans hL]
  refine gm_go.ru (gm_put dX11_execute_9 (fp_X11_219 rfl) b2 (Nat.le_of_ble_eq_true rfl) (by first | exact ⟨rfl, rfl⟩ | exact trivial)) ?_
  refine gm_hp hc1 ?_
  refine gm_go.ru (gm_aload_n dX11_execute_12 rfl (by first | exact Or.inl ⟨_, rfl⟩ | exact Or.inr ⟨_, rfl⟩)) ?_
  refine gm_go.ru (gi_const dX11_execute_13) ?_
  refine gm_go.ru (gm_put dX11_execute_14 (fp_X11_213 rfl) Mc1 (Nat.le_of_ble_eq_true rfl) (by first | exact ⟨rfl, rfl⟩ | exact trivial)) ?_
  refine gm_hp hc2 ?_
  refine gm_go.ru (gm_aload_n dX11_execute_17 rfl (by first | exact Or.inl ⟨_, rfl⟩ | exact Or.inr ⟨_, rfl⟩)) ?_
  refine gm_go.ru (gi_const dX11_execute_18) ?_
  refine gm_go.ru (gm_put dX11_execute_19 (fp_X11_244 rfl) Mc2 (Nat.le_of_ble_eq_true rfl) (by first | exact ⟨rfl, rfl⟩ | exact trivial)) ?_
  refine gm_hp hc3 ?_
  refine gm_go.ru (gm_aload_n dX11_execute_22 rfl (by first | exact Or.inl ⟨_, rfl⟩ | exact Or.inr ⟨_, rfl⟩)) ?_
  refine gm_go.ru (gm_cV dX11_execute_23 (e1) rfl mt_X11_commands mv_X11_commands (lk_X11_254 rfl) (Or.inl ⟨_, 12, _, _, _, rfl, Mc3, rfl⟩) rfl (Nat.le_of_ble_eq_true rfl) (by decide)) ?_
  refine gm_go.ru (gm_istore_n (ls' := [_, _]) dX11_execute_26 (by decide) rfl) ?_
  refine gm_go.ru (gm_aload_n dX11_execute_27 rfl (by first | exact Or.inl ⟨_, rfl⟩ | exact Or.inr ⟨_, rfl⟩)) ?_
  refine gm_go.ru (gm_get dX11_execute_28 (fl_X11_222 rfl) e2 rfl) ?_
  rw [e5]
  refine gm_go.ru (gi_if_eq_f 48 dX11_execute_31 (by decide) (by decide) (by decide)) ?_
  refine gm_go.ru (gm_aload_n dX11_execute_34 rfl (by first | exact Or.inl ⟨_, rfl⟩ | exact Or.inr ⟨_, rfl⟩)) ?_
  refine gm_go.ru (gm_aload_n dX11_execute_35 rfl (by first | exact Or.inl ⟨_, rfl⟩ | exact Or.inr ⟨_, rfl⟩)) ?_
  refine gm_go.ru (gm_get dX11_execute_36 (fl_X11_216 rfl) e2 rfl) ?_
  rw [e4]
  refine gm_go.ru (gm_put dX11_execute_39 (fp_X11_7 rfl) e2 (Nat.le_of_ble_eq_true rfl) (by first | exact ⟨rfl, rfl⟩ | exact trivial)) ?_
  refine gm_hp hc4 ?_
  refine gm_go.ru (gm_aload_n dX11_execute_42 rfl (by first | exact Or.inl ⟨_, rfl⟩ | exact Or.inr ⟨_, rfl⟩)) ?_
  refine gm_go.ru (gi_const dX11_execute_43) ?_
  refine gm_go.ru (gm_cV dX11_execute_44 (fl) rfl mt_X11_fail mv_X11_fail (lk_X11_74 rfl) (Or.inl ⟨_, 12, _, _, _, rfl, Mc4, rfl⟩) rfl (Nat.le_of_ble_eq_true rfl) (by decide)) ?_
  exact gm_iret dX11_execute_47 rfl
set_option maxRecDepth 4000 in
theorem ct_mExY {h : gm_H} {m L : Nat} {K X F B P : Nat → Int} (ht : zTx X L) (hM : h.1[m]? = some (md_c m K)) (hV : h.1[m + 1]? = some (gA 118 F)) (hB : h.1[m + 2]? = some (gA 118 B)) (hP : h.1[m + 4]? = some (gA 944 P)) (hT : mt_at h m X) (hL : K 17 = (L : Int)) (w : Nat) (t : (Nat → Int) × Nat) (hH : zHas F) {T : Nat} (hv : st_iv T F) {C : Nat} (hC : (zCc X L 60 1 w (0, t)).1 = (C : Int)) (hT9 : T + C ≤ 1000) (w2 : Nat) (t2 : (Nat → Int) × Nat) (hq : (zPp X L C 0 F w2 (0, t2)).1 < C) : ∃ h' K' F' B', gm_co mX11_execute 9 [.ref m] h (.inl (some (.int (zI 0)))) h' ∧ h'.1[m]? = some (md_c m K') ∧ h'.1[m + 1]? = some (gA 118 F') ∧ (∀ k, k < 118 → F' k = F k) ∧ h'.1[m + 2]? = some (gA 118 B') ∧ h'.1[m + 4]? = some (gA 944 P) ∧ mt_at h' m X ∧ K' 0 = 2 ∧ K' 3 = ((zPp X L C 0 F w2 (0, t2)).1 : Int) ∧ K' 17 = 0 ∧ (∀ j, j = 1 ∨ j = 2 ∨ j = 4 ∨ j = 20 → K' j = K j) ∧ gh_fr h h' (my_K m) := by
  obtain ⟨b0, b1, b2, b3, b4, b5⟩ := ct_mBegins hM hV hB
  have fb : gh_fr h b0 (my_K m) := gh_mono b5 fun k z => Or.inl (by omega)
  obtain ⟨c1, hc1⟩ : ∃ y : gm_H, y = (b0.1.set m (md_c m (zU (zU K 0 0) 19 (L : Int))), b0.2) := ⟨_, rfl⟩
  have Mc1 : c1.1[m]? = some (md_c m (zU (zU K 0 0) 19 (L : Int))) := by rw [hc1]; exact gs_s b2
  have fc1 : gh_fr h c1 (my_K m) := gh_tr fb (by rw [hc1]; exact gh_set (K := my_K m) gh_rf (Or.inl ⟨by omega, by omega⟩) _)
  obtain ⟨c2, hc2⟩ : ∃ y : gm_H, y = (c1.1.set m (md_c m (zU (zU (zU K 0 0) 19 (L : Int)) 17 0)), c1.2) := ⟨_, rfl⟩
  have Mc2 : c2.1[m]? = some (md_c m (zU (zU (zU K 0 0) 19 (L : Int)) 17 0)) := by rw [hc2]; exact gs_s Mc1
  have fc2 : gh_fr h c2 (my_K m) := gh_tr fc1 (by rw [hc2]; exact gh_set (K := my_K m) gh_rf (Or.inl ⟨by omega, by omega⟩) _)
  obtain ⟨c3, hc3⟩ : ∃ y : gm_H, y = (c2.1.set m (md_c m (zU (zU (zU (zU K 0 0) 19 (L : Int)) 17 0) 22 0)), c2.2) := ⟨_, rfl⟩
  have Mc3 : c3.1[m]? = some (md_c m (zU (zU (zU (zU K 0 0) 19 (L : Int)) 17 0) 22 0)) := by rw [hc3]; exact gs_s Mc2
  have fc3 : gh_fr h c3 (my_K m) := gh_tr fc2 (by rw [hc3]; exact gh_set (K := my_K m) gh_rf (Or.inl ⟨by omega, by omega⟩) _)
  have k4 : ∀ j, j ≠ 0 → j ≠ 17 → j ≠ 19 → j ≠ 22 → (zU (zU (zU (zU K 0 0) 19 (L : Int)) 17 0) 22 0) j = K j := fun j j0 j1 j2 j3 => (zU_n j3).trans ((zU_n j1).trans ((zU_n j2).trans (zU_n j0)))
  have g3 : gh_fr b0 c3 (fun k => k = m) := by rw [hc3, hc2, hc1]; exact gh_set (K := (fun k => k = m)) (gh_set (K := (fun k => k = m)) (gh_set (K := (fun k => k = m)) gh_rf rfl _) rfl _) rfl _
  have V3 := gh_at g3 b3 (by omega)
  have B3 := gh_at g3 b4 (by omega)
  have P3 := gh_at g3 (gh_at b5 hP (by omega)) (by omega)
  have T3 := mt_fr g3 (by omega) (by omega) (by omega) (by omega) (mt_fr b5 (by omega) (by omega) (by omega) (by omega) hT)
  obtain ⟨d0, K5, r, e1, e2, e3, e4, e5, e6, e7⟩ := ct_mComsR ht Mc3 T3 ((zU_n (by decide)).trans ((zU_n (by decide)).trans zU_s)) ((zU_n (by decide)).trans ((zU_n (by decide)).trans ((zU_n (by decide)).trans zU_s))) zU_s w t
  have fd : gh_fr h d0 (my_K m) := gh_tr fc3 (gh_mono e7 fun k z => by unfold mt_K at z; unfold my_K; omega)
  have V5 := gh_at e7 V3 (by unfold mt_K; omega)
  have B5 := gh_at e7 B3 (by unfold mt_K; omega)
  have P5 := gh_at e7 P3 (by unfold mt_K; omega)
  have k17 : K5 17 = 0 := (e6 17 (by decide) (by decide)).trans ((zU_n (by decide)).trans zU_s)
  have k5 : ∀ j, j ≠ 0 → j ≠ 17 → j ≠ 18 → j ≠ 19 → j ≠ 21 → j ≠ 22 → K5 j = K j := fun j j0 j1 j2 j3 j4 j5 => (e6 j j2 j4).trans (k4 j j0 j1 j3 j5)
  rw [decide_eq_false (show ¬ (zCc X L 60 1 w (0, t)).1 < 0 by rw [hC]; omega)] at e5
  obtain ⟨c4, hc4⟩ : ∃ y : gm_H, y = (d0.1.set m (md_c m (zU K5 22 1)), d0.2) := ⟨_, rfl⟩
  have Mc4 : c4.1[m]? = some (md_c m (zU K5 22 1)) := by rw [hc4]; exact gs_s e2
  have fc4 : gh_fr h c4 (my_K m) := gh_tr fd (by rw [hc4]; exact gh_set (K := my_K m) gh_rf (Or.inl ⟨by omega, by omega⟩) _)
  have g4 : gh_fr d0 c4 (fun k => k = m) := by rw [hc4]; exact gh_set (K := (fun k => k = m)) gh_rf rfl _
  obtain ⟨d1, K7, F7, x, i1, i2, i3, i4, i5, i6, i7⟩ := ct_mComsP ht Mc4 (mt_fr g4 (by omega) (by omega) (by omega) (by omega) e3) ((zU_n (by decide)).trans ((e6 19 (by decide) (by decide)).trans ((zU_n (by decide)).trans ((zU_n (by decide)).trans zU_s)))) ((zU_n (by decide)).trans ((e6 0 (by decide) (by decide)).trans ((zU_n (by decide)).trans ((zU_n (by decide)).trans ((zU_n (by decide)).trans zU_s))))) zU_s (gh_at g4 V5 (by omega)) hH hv hC hT9 (w2 := w2) (t2 := t2)
  have fd1 : gh_fr h d1 (my_K m) := gh_tr fc4 (gh_mono i7 fun k z => by unfold mv_K at z; unfold my_K; omega)
  have B7 := gh_at i7 (gh_at g4 B5 (by omega)) (by unfold mv_K; omega)
  have P7 := gh_at i7 (gh_at g4 P5 (by omega)) (by unfold mv_K; omega)
  have k7 : ∀ j, j = 1 ∨ j = 2 ∨ j = 3 ∨ j = 4 ∨ j = 20 → K7 j = K j := fun j hj => (i5 j (by omega) (by omega) (by omega)).trans ((zU_n (by omega)).trans (k5 j (by omega) (by omega) (by omega) (by omega) (by omega) (by omega)))
  have k717 : K7 17 = 0 := (i5 17 (by decide) (by decide) (by decide)).trans ((zU_n (by decide)).trans k17)
  obtain ⟨y1, y2, y3, y4⟩ := i6.resolve_left (fun z => by omega)
  subst y4
  obtain ⟨c5, hc5⟩ : ∃ y : gm_H, y = (d1.1.set m (md_c m (zU K7 3 ((zPp X L C 0 F w2 (0, t2)).1 : Int))), d1.2) := ⟨_, rfl⟩
  have Mc5 : c5.1[m]? = some (md_c m (zU K7 3 ((zPp X L C 0 F w2 (0, t2)).1 : Int))) := by rw [hc5]; exact gs_s i2
  have fc5 : gh_fr h c5 (my_K m) := gh_tr fd1 (by rw [hc5]; exact gh_set (K := my_K m) gh_rf (Or.inl ⟨by omega, by omega⟩) _)
  obtain ⟨c6, hc6⟩ : ∃ y : gm_H, y = (c5.1.set m (md_c m (zU (zU K7 3 ((zPp X L C 0 F w2 (0, t2)).1 : Int)) 0 2)), c5.2) := ⟨_, rfl⟩
  have Mc6 : c6.1[m]? = some (md_c m (zU (zU K7 3 ((zPp X L C 0 F w2 (0, t2)).1 : Int)) 0 2)) := by rw [hc6]; exact gs_s Mc5
  have fc6 : gh_fr h c6 (my_K m) := gh_tr fc5 (by rw [hc6]; exact gh_set (K := my_K m) gh_rf (Or.inl ⟨by omega, by omega⟩) _)
  have g6 : gh_fr d1 c6 (fun k => k = m) := by rw [hc6, hc5]; exact gh_set (K := (fun k => k = m)) (gh_set (K := (fun k => k = m)) gh_rf rfl _) rfl _
  obtain ⟨d2, j1, j2, j3⟩ := ct_mEndsX Mc6 (gh_at g6 i3 (by omega)) (gh_at g6 B7 (by omega)) (by rw [zU_s]; decide) (by rw [zU_s]; decide) (x := (((zPp X L C 0 F w2 (0, t2)).1 + 1 : Nat) : Int))
  refine ⟨d2, _, _, _, ?_, gh_at j3 Mc6 (by omega), j2, fun k hk => (zLy_in _ F7 hk).trans (zLy_in F B hk), gh_at j3 (gh_at g6 B7 (by omega)) (by omega), gh_at j3 (gh_at g6 P7 (by omega)) (by omega), mt_fr j3 (by omega) (by omega) (by omega) (by omega) (mt_fr g6 (by omega) (by omega) (by omega) (by omega) i4), zU_s, (zU_n (by decide)).trans zU_s, (zU_n (by decide)).trans ((zU_n (by decide)).trans k717), fun j hj => (zU_n (by omega)).trans ((zU_n (by omega)).trans (k7 j (by omega))), gh_tr fc6 (gh_mono j3 fun k z => by unfold my_K; omega)⟩
  refine gm_co_of _ (by decide +kernel) rfl (Nat.le_of_ble_eq_true rfl) rfl ?_
  refine gm_go.ru (gm_aload_n dX11_execute_0 rfl (by first | exact Or.inl ⟨_, rfl⟩ | exact Or.inr ⟨_, rfl⟩)) ?_
  refine gm_go.ru (gm_cV0 dX11_execute_1 (b1) rfl mt_X11_begins mv_X11_begins (lk_X11_78 rfl) (Or.inl ⟨_, 12, _, _, _, rfl, hM, rfl⟩) rfl (Nat.le_of_ble_eq_true rfl) (by decide)) ?_
  refine gm_go.ru (gm_aload_n dX11_execute_4 rfl (by first | exact Or.inl ⟨_, rfl⟩ | exact Or.inr ⟨_, rfl⟩)) ?_
  refine gm_go.ru (gm_aload_n dX11_execute_5 rfl (by first | exact Or.inl ⟨_, rfl⟩ | exact Or.inr ⟨_, rfl⟩)) ?_
  refine gm_go.ru (gm_get dX11_execute_6 (fl_X11_213 rfl) b2 rfl) ?_
  rw [show zU K 0 0 17 = (L : Int) from (zU_n (by decide)).trans hL]
  refine gm_go.ru (gm_put dX11_execute_9 (fp_X11_219 rfl) b2 (Nat.le_of_ble_eq_true rfl) (by first | exact ⟨rfl, rfl⟩ | exact trivial)) ?_
  refine gm_hp hc1 ?_
  refine gm_go.ru (gm_aload_n dX11_execute_12 rfl (by first | exact Or.inl ⟨_, rfl⟩ | exact Or.inr ⟨_, rfl⟩)) ?_
  refine gm_go.ru (gi_const dX11_execute_13) ?_
  refine gm_go.ru (gm_put dX11_execute_14 (fp_X11_213 rfl) Mc1 (Nat.le_of_ble_eq_true rfl) (by first | exact ⟨rfl, rfl⟩ | exact trivial)) ?_
  refine gm_hp hc2 ?_
  refine gm_go.ru (gm_aload_n dX11_execute_17 rfl (by first | exact Or.inl ⟨_, rfl⟩ | exact Or.inr ⟨_, rfl⟩)) ?_
  refine gm_go.ru (gi_const dX11_execute_18) ?_
  refine gm_go.ru (gm_put dX11_execute_19 (fp_X11_244 rfl) Mc2 (Nat.le_of_ble_eq_true rfl) (by first | exact ⟨rfl, rfl⟩ | exact trivial)) ?_
  refine gm_hp hc3 ?_
  refine gm_go.ru (gm_aload_n dX11_execute_22 rfl (by first | exact Or.inl ⟨_, rfl⟩ | exact Or.inr ⟨_, rfl⟩)) ?_
  refine gm_go.ru (gm_cV dX11_execute_23 (e1) rfl mt_X11_commands mv_X11_commands (lk_X11_254 rfl) (Or.inl ⟨_, 12, _, _, _, rfl, Mc3, rfl⟩) rfl (Nat.le_of_ble_eq_true rfl) (by decide)) ?_
  refine gm_go.ru (gm_istore_n (ls' := [_, _]) dX11_execute_26 (by decide) rfl) ?_
  refine gm_go.ru (gm_aload_n dX11_execute_27 rfl (by first | exact Or.inl ⟨_, rfl⟩ | exact Or.inr ⟨_, rfl⟩)) ?_
  refine gm_go.ru (gm_get dX11_execute_28 (fl_X11_222 rfl) e2 rfl) ?_
  rw [e5]
  refine gm_go.ru (gi_if_eq_t (tgt := 48) dX11_execute_31 (by decide) (by decide) (by decide)) ?_
  refine gm_go.ru (gm_aload_n dX11_execute_48 rfl (by first | exact Or.inl ⟨_, rfl⟩ | exact Or.inr ⟨_, rfl⟩)) ?_
  refine gm_go.ru (gi_const dX11_execute_49) ?_
  refine gm_go.ru (gm_put dX11_execute_50 (fp_X11_244 rfl) e2 (Nat.le_of_ble_eq_true rfl) (by first | exact ⟨rfl, rfl⟩ | exact trivial)) ?_
  refine gm_hp hc4 ?_
  refine gm_go.ru (gm_aload_n dX11_execute_53 rfl (by first | exact Or.inl ⟨_, rfl⟩ | exact Or.inr ⟨_, rfl⟩)) ?_
  refine gm_go.ru (gm_cV dX11_execute_54 (i1) rfl mt_X11_commands mv_X11_commands (lk_X11_254 rfl) (Or.inl ⟨_, 12, _, _, _, rfl, Mc4, rfl⟩) rfl (Nat.le_of_ble_eq_true rfl) (by decide)) ?_
  refine gm_go.ru (gm_istore_n (ls' := [_, _]) dX11_execute_57 (by decide) rfl) ?_
  refine gm_go.ru (gm_aload_n dX11_execute_58 rfl (by first | exact Or.inl ⟨_, rfl⟩ | exact Or.inr ⟨_, rfl⟩)) ?_
  refine gm_go.ru (gm_get dX11_execute_59 (fl_X11_53 rfl) i2 rfl) ?_
  refine gm_go.ru (gi_if_eq_f 77 dX11_execute_62 (by decide) (by omega) y2) ?_
  refine gm_go.ru (gm_aload_n dX11_execute_65 rfl (by first | exact Or.inl ⟨_, rfl⟩ | exact Or.inr ⟨_, rfl⟩)) ?_
  refine gm_go.ru (gm_iload_n dX11_execute_66 rfl) ?_
  refine gm_go.ru (gi_const dX11_execute_67) ?_
  refine gm_go.ru (gi_sub dX11_execute_68) ?_
  rw [show ((((zPp X L C 0 F w2 (0, t2)).1 + 1 : Nat) : Int) - 1) = ((zPp X L C 0 F w2 (0, t2)).1 : Int) by omega]
  refine gm_go.ru (gm_put dX11_execute_69 (fp_X11_13 rfl) i2 (Nat.le_of_ble_eq_true rfl) (by first | exact ⟨rfl, rfl⟩ | exact trivial)) ?_
  refine gm_hp hc5 ?_
  refine gm_go.ru (gm_aload_n dX11_execute_72 rfl (by first | exact Or.inl ⟨_, rfl⟩ | exact Or.inr ⟨_, rfl⟩)) ?_
  refine gm_go.ru (gi_const dX11_execute_73) ?_
  refine gm_go.ru (gm_put dX11_execute_74 (fp_X11_53 rfl) Mc5 (Nat.le_of_ble_eq_true rfl) (by first | exact ⟨rfl, rfl⟩ | exact trivial)) ?_
  refine gm_hp hc6 ?_
  refine gm_go.ru (gm_aload_n dX11_execute_77 rfl (by first | exact Or.inl ⟨_, rfl⟩ | exact Or.inr ⟨_, rfl⟩)) ?_
  refine gm_go.ru (gm_iload_n dX11_execute_78 rfl) ?_
  refine gm_go.ru (gm_cV dX11_execute_79 (j1) rfl mt_X11_ends mv_X11_ends (lk_X11_84 rfl) (Or.inl ⟨_, 12, _, _, _, rfl, Mc6, rfl⟩) rfl (Nat.le_of_ble_eq_true rfl) (by decide)) ?_
  exact gm_iret dX11_execute_82 rfl
set_option maxRecDepth 4000 in
theorem ct_mEx {h : gm_H} {m L : Nat} {K X F B P : Nat → Int} (ht : zTx X L) (hM : h.1[m]? = some (md_c m K)) (hV : h.1[m + 1]? = some (gA 118 F)) (hB : h.1[m + 2]? = some (gA 118 B)) (hP : h.1[m + 4]? = some (gA 944 P)) (hT : mt_at h m X) (hL : K 17 = (L : Int)) (w : Nat) (t : (Nat → Int) × Nat) (hH : zHas F) {T : Nat} (hv : st_iv T F) {C : Nat} (hC : (zCc X L 60 1 w (0, t)).1 = (C : Int)) (hT9 : T + C ≤ 1000) (w2 : Nat) (t2 : (Nat → Int) × Nat) (hq : ¬ (zPp X L C 0 F w2 (0, t2)).1 < C) {c : Nat} (hc : K 1 = (c : Int)) (hc8 : c ≤ 8) : ∃ h' K' B' P', gm_co mX11_execute 9 [.ref m] h (.inl (some (.int (zI (C : Int))))) h' ∧ h'.1[m]? = some (md_c m K') ∧ h'.1[m + 1]? = some (gA 118 (zPp X L C 0 F w2 (0, t2)).2.1) ∧ h'.1[m + 2]? = some (gA 118 B') ∧ h'.1[m + 4]? = some (gA 944 P') ∧ (∀ i, i < min (c + 1) 8 → ∀ k, k < 118 → zSt8 P' i k = zPush (zSt8 P) c F i k) ∧ mt_at h' m X ∧ K' 0 = 0 ∧ K' 1 = ((min (c + 1) 8 : Nat) : Int) ∧ K' 17 = 0 ∧ (∀ j, j = 2 ∨ j = 3 ∨ j = 4 ∨ j = 20 → K' j = K j) ∧ gh_fr h h' (my_K m) := by
  obtain ⟨b0, b1, b2, b3, b4, b5⟩ := ct_mBegins hM hV hB
  have fb : gh_fr h b0 (my_K m) := gh_mono b5 fun k z => Or.inl (by omega)
  obtain ⟨c1, hc1⟩ : ∃ y : gm_H, y = (b0.1.set m (md_c m (zU (zU K 0 0) 19 (L : Int))), b0.2) := ⟨_, rfl⟩
  have Mc1 : c1.1[m]? = some (md_c m (zU (zU K 0 0) 19 (L : Int))) := by rw [hc1]; exact gs_s b2
  have fc1 : gh_fr h c1 (my_K m) := gh_tr fb (by rw [hc1]; exact gh_set (K := my_K m) gh_rf (Or.inl ⟨by omega, by omega⟩) _)
  obtain ⟨c2, hc2⟩ : ∃ y : gm_H, y = (c1.1.set m (md_c m (zU (zU (zU K 0 0) 19 (L : Int)) 17 0)), c1.2) := ⟨_, rfl⟩
  have Mc2 : c2.1[m]? = some (md_c m (zU (zU (zU K 0 0) 19 (L : Int)) 17 0)) := by rw [hc2]; exact gs_s Mc1
  have fc2 : gh_fr h c2 (my_K m) := gh_tr fc1 (by rw [hc2]; exact gh_set (K := my_K m) gh_rf (Or.inl ⟨by omega, by omega⟩) _)
  obtain ⟨c3, hc3⟩ : ∃ y : gm_H, y = (c2.1.set m (md_c m (zU (zU (zU (zU K 0 0) 19 (L : Int)) 17 0) 22 0)), c2.2) := ⟨_, rfl⟩
  have Mc3 : c3.1[m]? = some (md_c m (zU (zU (zU (zU K 0 0) 19 (L : Int)) 17 0) 22 0)) := by rw [hc3]; exact gs_s Mc2
  have fc3 : gh_fr h c3 (my_K m) := gh_tr fc2 (by rw [hc3]; exact gh_set (K := my_K m) gh_rf (Or.inl ⟨by omega, by omega⟩) _)
  have k4 : ∀ j, j ≠ 0 → j ≠ 17 → j ≠ 19 → j ≠ 22 → (zU (zU (zU (zU K 0 0) 19 (L : Int)) 17 0) 22 0) j = K j := fun j j0 j1 j2 j3 => (zU_n j3).trans ((zU_n j1).trans ((zU_n j2).trans (zU_n j0)))
  have g3 : gh_fr b0 c3 (fun k => k = m) := by rw [hc3, hc2, hc1]; exact gh_set (K := (fun k => k = m)) (gh_set (K := (fun k => k = m)) (gh_set (K := (fun k => k = m)) gh_rf rfl _) rfl _) rfl _
  have V3 := gh_at g3 b3 (by omega)
  have B3 := gh_at g3 b4 (by omega)
  have P3 := gh_at g3 (gh_at b5 hP (by omega)) (by omega)
  have T3 := mt_fr g3 (by omega) (by omega) (by omega) (by omega) (mt_fr b5 (by omega) (by omega) (by omega) (by omega) hT)
  obtain ⟨d0, K5, r, e1, e2, e3, e4, e5, e6, e7⟩ := ct_mComsR ht Mc3 T3 ((zU_n (by decide)).trans ((zU_n (by decide)).trans zU_s)) ((zU_n (by decide)).trans ((zU_n (by decide)).trans ((zU_n (by decide)).trans zU_s))) zU_s w t
  have fd : gh_fr h d0 (my_K m) := gh_tr fc3 (gh_mono e7 fun k z => by unfold mt_K at z; unfold my_K; omega)
  have V5 := gh_at e7 V3 (by unfold mt_K; omega)
  have B5 := gh_at e7 B3 (by unfold mt_K; omega)
  have P5 := gh_at e7 P3 (by unfold mt_K; omega)
  have k17 : K5 17 = 0 := (e6 17 (by decide) (by decide)).trans ((zU_n (by decide)).trans zU_s)
  have k5 : ∀ j, j ≠ 0 → j ≠ 17 → j ≠ 18 → j ≠ 19 → j ≠ 21 → j ≠ 22 → K5 j = K j := fun j j0 j1 j2 j3 j4 j5 => (e6 j j2 j4).trans (k4 j j0 j1 j3 j5)
  rw [decide_eq_false (show ¬ (zCc X L 60 1 w (0, t)).1 < 0 by rw [hC]; omega)] at e5
  obtain ⟨c4, hc4⟩ : ∃ y : gm_H, y = (d0.1.set m (md_c m (zU K5 22 1)), d0.2) := ⟨_, rfl⟩
  have Mc4 : c4.1[m]? = some (md_c m (zU K5 22 1)) := by rw [hc4]; exact gs_s e2
  have fc4 : gh_fr h c4 (my_K m) := gh_tr fd (by rw [hc4]; exact gh_set (K := my_K m) gh_rf (Or.inl ⟨by omega, by omega⟩) _)
  have g4 : gh_fr d0 c4 (fun k => k = m) := by rw [hc4]; exact gh_set (K := (fun k => k = m)) gh_rf rfl _
  obtain ⟨d1, K7, F7, x, i1, i2, i3, i4, i5, i6, i7⟩ := ct_mComsP ht Mc4 (mt_fr g4 (by omega) (by omega) (by omega) (by omega) e3) ((zU_n (by decide)).trans ((e6 19 (by decide) (by decide)).trans ((zU_n (by decide)).trans ((zU_n (by decide)).trans zU_s)))) ((zU_n (by decide)).trans ((e6 0 (by decide) (by decide)).trans ((zU_n (by decide)).trans ((zU_n (by decide)).trans ((zU_n (by decide)).trans zU_s))))) zU_s (gh_at g4 V5 (by omega)) hH hv hC hT9 (w2 := w2) (t2 := t2)
  have fd1 : gh_fr h d1 (my_K m) := gh_tr fc4 (gh_mono i7 fun k z => by unfold mv_K at z; unfold my_K; omega)
  have B7 := gh_at i7 (gh_at g4 B5 (by omega)) (by unfold mv_K; omega)
  have P7 := gh_at i7 (gh_at g4 P5 (by omega)) (by unfold mv_K; omega)
  have k7 : ∀ j, j = 1 ∨ j = 2 ∨ j = 3 ∨ j = 4 ∨ j = 20 → K7 j = K j := fun j hj => (i5 j (by omega) (by omega) (by omega)).trans ((zU_n (by omega)).trans (k5 j (by omega) (by omega) (by omega) (by omega) (by omega) (by omega)))
  have k717 : K7 17 = 0 := (i5 17 (by decide) (by decide) (by decide)).trans ((zU_n (by decide)).trans k17)
  obtain ⟨y1, y2, y3, y4⟩ := i6.resolve_right (fun z => by omega)
  subst y3
  subst y4
  obtain ⟨d2, P', j1, j2, j3, j4, j5⟩ := ct_mEnds i2 B7 P7 y2 ((k7 1 (by decide)).trans hc) hc8 (x := (C : Int))
  refine ⟨d2, _, _, P', ?_, j2, gh_at j5 i3 (by omega), gh_at j5 B7 (by omega), j3, fun i hi k hk => (j4 i hi k hk).trans (zPush_c (fun k hk => zLy_in F B hk) i k hk), mt_fr j5 (by omega) (by omega) (by omega) (by omega) i4, (zU_n (by decide)).trans y2, zU_s, (zU_n (by decide)).trans k717, fun j hj => (zU_n (by omega)).trans (k7 j (by omega)), gh_tr fd1 (gh_mono j5 fun k z => by unfold my_K; omega)⟩
  refine gm_co_of _ (by decide +kernel) rfl (Nat.le_of_ble_eq_true rfl) rfl ?_
  refine gm_go.ru (gm_aload_n dX11_execute_0 rfl (by first | exact Or.inl ⟨_, rfl⟩ | exact Or.inr ⟨_, rfl⟩)) ?_
  refine gm_go.ru (gm_cV0 dX11_execute_1 (b1) rfl mt_X11_begins mv_X11_begins (lk_X11_78 rfl) (Or.inl ⟨_, 12, _, _, _, rfl, hM, rfl⟩) rfl (Nat.le_of_ble_eq_true rfl) (by decide)) ?_
  refine gm_go.ru (gm_aload_n dX11_execute_4 rfl (by first | exact Or.inl ⟨_, rfl⟩ | exact Or.inr ⟨_, rfl⟩)) ?_
  refine gm_go.ru (gm_aload_n dX11_execute_5 rfl (by first | exact Or.inl ⟨_, rfl⟩ | exact Or.inr ⟨_, rfl⟩)) ?_
  refine gm_go.ru (gm_get dX11_execute_6 (fl_X11_213 rfl) b2 rfl) ?_
  rw [show zU K 0 0 17 = (L : Int) from (zU_n (by decide)).trans hL]
  refine gm_go.ru (gm_put dX11_execute_9 (fp_X11_219 rfl) b2 (Nat.le_of_ble_eq_true rfl) (by first | exact ⟨rfl, rfl⟩ | exact trivial)) ?_
  refine gm_hp hc1 ?_
  refine gm_go.ru (gm_aload_n dX11_execute_12 rfl (by first | exact Or.inl ⟨_, rfl⟩ | exact Or.inr ⟨_, rfl⟩)) ?_
  refine gm_go.ru (gi_const dX11_execute_13) ?_
  refine gm_go.ru (gm_put dX11_execute_14 (fp_X11_213 rfl) Mc1 (Nat.le_of_ble_eq_true rfl) (by first | exact ⟨rfl, rfl⟩ | exact trivial)) ?_
  refine gm_hp hc2 ?_
  refine gm_go.ru (gm_aload_n dX11_execute_17 rfl (by first | exact Or.inl ⟨_, rfl⟩ | exact Or.inr ⟨_, rfl⟩)) ?_
  refine gm_go.ru (gi_const dX11_execute_18) ?_
  refine gm_go.ru (gm_put dX11_execute_19 (fp_X11_244 rfl) Mc2 (Nat.le_of_ble_eq_true rfl) (by first | exact ⟨rfl, rfl⟩ | exact trivial)) ?_
  refine gm_hp hc3 ?_
  refine gm_go.ru (gm_aload_n dX11_execute_22 rfl (by first | exact Or.inl ⟨_, rfl⟩ | exact Or.inr ⟨_, rfl⟩)) ?_
  refine gm_go.ru (gm_cV dX11_execute_23 (e1) rfl mt_X11_commands mv_X11_commands (lk_X11_254 rfl) (Or.inl ⟨_, 12, _, _, _, rfl, Mc3, rfl⟩) rfl (Nat.le_of_ble_eq_true rfl) (by decide)) ?_
  refine gm_go.ru (gm_istore_n (ls' := [_, _]) dX11_execute_26 (by decide) rfl) ?_
  refine gm_go.ru (gm_aload_n dX11_execute_27 rfl (by first | exact Or.inl ⟨_, rfl⟩ | exact Or.inr ⟨_, rfl⟩)) ?_
  refine gm_go.ru (gm_get dX11_execute_28 (fl_X11_222 rfl) e2 rfl) ?_
  rw [e5]
  refine gm_go.ru (gi_if_eq_t (tgt := 48) dX11_execute_31 (by decide) (by decide) (by decide)) ?_
  refine gm_go.ru (gm_aload_n dX11_execute_48 rfl (by first | exact Or.inl ⟨_, rfl⟩ | exact Or.inr ⟨_, rfl⟩)) ?_
  refine gm_go.ru (gi_const dX11_execute_49) ?_
  refine gm_go.ru (gm_put dX11_execute_50 (fp_X11_244 rfl) e2 (Nat.le_of_ble_eq_true rfl) (by first | exact ⟨rfl, rfl⟩ | exact trivial)) ?_
  refine gm_hp hc4 ?_
  refine gm_go.ru (gm_aload_n dX11_execute_53 rfl (by first | exact Or.inl ⟨_, rfl⟩ | exact Or.inr ⟨_, rfl⟩)) ?_
  refine gm_go.ru (gm_cV dX11_execute_54 (i1) rfl mt_X11_commands mv_X11_commands (lk_X11_254 rfl) (Or.inl ⟨_, 12, _, _, _, rfl, Mc4, rfl⟩) rfl (Nat.le_of_ble_eq_true rfl) (by decide)) ?_
  refine gm_go.ru (gm_istore_n (ls' := [_, _]) dX11_execute_57 (by decide) rfl) ?_
  refine gm_go.ru (gm_aload_n dX11_execute_58 rfl (by first | exact Or.inl ⟨_, rfl⟩ | exact Or.inr ⟨_, rfl⟩)) ?_
  refine gm_go.ru (gm_get dX11_execute_59 (fl_X11_53 rfl) i2 rfl) ?_
  refine gm_go.ru (gi_if_eq_t (tgt := 77) dX11_execute_62 (by decide) (by omega) y2) ?_
  refine gm_go.ru (gm_aload_n dX11_execute_77 rfl (by first | exact Or.inl ⟨_, rfl⟩ | exact Or.inr ⟨_, rfl⟩)) ?_
  refine gm_go.ru (gm_iload_n dX11_execute_78 rfl) ?_
  refine gm_go.ru (gm_cV dX11_execute_79 (j1) rfl mt_X11_ends mv_X11_ends (lk_X11_84 rfl) (Or.inl ⟨_, 12, _, _, _, rfl, i2, rfl⟩) rfl (Nat.le_of_ble_eq_true rfl) (by decide)) ?_
  exact gm_iret dX11_execute_82 rfl
