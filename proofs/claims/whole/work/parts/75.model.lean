set_option maxRecDepth 4000 in
theorem ct_m_missedCoursesX {h : gm_H} {m : Nat} {K F : Nat → Int} (hM : h.1[m]? = some (md_c m K)) (hV : h.1[m + 1]? = some (gA 118 F)) {i : Int} (hv : nd_iv F) (hi : zR i) (hq : ¬ (0 ≤ i ∧ i < F 0)) : ∃ h', gm_co mX11_missedCourses 6 [.ref m, .int (zI i)] h (.inl (some (.int (zI (0))))) h' ∧ h'.1[m]? = some (md_c m (zU K 0 1)) ∧ gh_fr h h' (fun k => k = m) := by
  obtain ⟨a1, ha1⟩ : ∃ y : gm_H, y = (h.1.set m (md_c m (zU K 0 1)), h.2) := ⟨_, rfl⟩
  have M_a1 : a1.1[m]? = some (md_c m (zU K 0 1)) := by rw [ha1]; exact gs_s hM
  have V_a1 : a1.1[m + 1]? = some (gA 118 F) := by rw [ha1]; exact gs_n hV (by omega)
  have f_a1 : gh_fr h a1 (fun k => k = m) := by rw [ha1]; exact gh_set (K := fun k => k = m) gh_rf rfl _
  refine ⟨a1, ?_, M_a1, f_a1⟩
  refine gm_co_of _ (by decide +kernel) rfl (Nat.le_of_ble_eq_true rfl) rfl ?_
  refine gm_go.ru (gm_aload_n dX11_missedCourses_0 rfl (by first | exact Or.inl ⟨_, rfl⟩ | exact Or.inr ⟨_, rfl⟩)) ?_
  refine gm_go.ru (gm_aload_n dX11_missedCourses_1 rfl (by first | exact Or.inl ⟨_, rfl⟩ | exact Or.inr ⟨_, rfl⟩)) ?_
  refine gm_go.ru (gm_iload_n dX11_missedCourses_2 rfl) ?_
  refine gm_go.ru (gm_cV dX11_missedCourses_3 (ct_mIsN hM hV hv hi) rfl mt_X11_isNeedle mv_X11_isNeedle (lk_X11_87 rfl) (Or.inl ⟨_, 12, _, _, _, rfl, hM, rfl⟩) rfl (Nat.le_of_ble_eq_true rfl) (by decide)) ?_
  rw [zB_f hq]
  refine gm_go.ru (gi_if_eq_t (tgt := 13) dX11_missedCourses_6 (by decide) (by decide) rfl) ?_
  refine gm_go.ru (gi_const dX11_missedCourses_13) ?_
  refine gm_go.ru (gm_put dX11_missedCourses_14 (fp_X11_53 rfl) hM (Nat.le_of_ble_eq_true rfl) (by first | exact ⟨rfl, rfl⟩ | exact trivial)) ?_
  refine gm_hp ha1 ?_
  refine gm_go.ru (gm_aload_n dX11_missedCourses_17 rfl (by first | exact Or.inl ⟨_, rfl⟩ | exact Or.inr ⟨_, rfl⟩)) ?_
  refine gm_go.ru (gm_get dX11_missedCourses_18 (fl_X11_53 rfl) M_a1 rfl) ?_
  refine gm_go.ru (gi_if_eq_f 26 dX11_missedCourses_21 (by decide) (by rw [zU_s]; decide) (by rw [zU_s]; decide)) ?_
  refine gm_go.ru (gi_const dX11_missedCourses_24) ?_
  exact gm_iret dX11_missedCourses_25 rfl
set_option maxRecDepth 4000 in
theorem mm_3 {h : gm_H} {m i : Nat} {K A : Nat → Int} (hM : h.1[m]? = some (md_c m K)) (hq : h.1[m + 7]? = some (gA 360 A)) (hA : ∀ k, k < 360 → 0 ≤ A k ∧ A k ≤ 1) : ∀ z j : Nat, j + z = 360 → gm_ru mX11_missedCourses 6 (79, [some (.ref m), some (.int (zI (i : Int))), some (.int (zI (zMc A j))), some (.int (zI (j : Int)))], [], h) (.inl (some (.int (zI (zMc A 360))))) h := by
  intro z
  induction z with
  | zero =>
    intro j hj
    obtain rfl : j = 360 := by omega
    refine gm_go.ru (gm_iload_n dX11_missedCourses_79 rfl) ?_
    refine gm_go.ru (gi_sipush dX11_missedCourses_80 (by decide +kernel)) ?_
    refine gm_go.ru (gi_icmp_ge_t (tgt := 103) dX11_missedCourses_83 (by decide) (by omega) (by omega) (by omega)) ?_
    refine gm_go.ru (gm_iload_n dX11_missedCourses_103 rfl) ?_
    exact gm_iret dX11_missedCourses_104 rfl
  | succ z ih =>
    intro j hj
    have e1 := zMc_r j (fun k hk => hA k (by omega))
    have e2 := hA j (by omega)
    have e3 := ih (j + 1) (by omega)
    rw [show zMc A (j + 1) = zMc A j + (1 - A j) from rfl] at e3
    refine gm_go.ru (gm_iload_n dX11_missedCourses_79 rfl) ?_
    refine gm_go.ru (gi_sipush dX11_missedCourses_80 (by decide +kernel)) ?_
    refine gm_go.ru (gi_icmp_ge_f 103 dX11_missedCourses_83 (by decide) (by omega) (by omega) (by omega)) ?_
    refine gm_go.ru (gm_iload_n dX11_missedCourses_86 rfl) ?_
    refine gm_go.ru (gi_const dX11_missedCourses_87) ?_
    refine gm_go.ru (gm_aload_n dX11_missedCourses_88 rfl (by first | exact Or.inl ⟨_, rfl⟩ | exact Or.inr ⟨_, rfl⟩)) ?_
    refine gm_go.ru (gm_get dX11_missedCourses_89 (fl_X11_35 rfl) hM rfl) ?_
    refine gm_go.ru (gm_iload_n dX11_missedCourses_92 rfl) ?_
    refine gm_go.ru (gi_aldN dX11_missedCourses_93 hq (by omega) (by decide)) ?_
    refine gm_go.ru (gi_sub dX11_missedCourses_94) ?_
    refine gm_go.ru (gi_add dX11_missedCourses_95) ?_
    refine gm_go.ru (gm_istore_n (ls' := [_, _, _, _]) dX11_missedCourses_96 (by decide) rfl) ?_
    refine gm_go.ru (gi_iinc (ls' := [_, _, _, _]) dX11_missedCourses_97 rfl (by decide) rfl) ?_
    refine gm_go.ru (gm_goto (tgt := 79) dX11_missedCourses_100 (by decide)) ?_
    exact e3
set_option maxRecDepth 4000 in
theorem mm_2 {m i : Nat} {K F : Nat → Int} (hv : nd_iv F) (hi : i < 8) : ∀ (z j : Nat) (h : gm_H) (A : Nat → Int), j + z = 360 → h.1[m]? = some (md_c m K) → h.1[m + 1]? = some (gA 118 F) → h.1[m + 7]? = some (gA 360 A) → (∀ k, k < 360 → A k = zHt F i j k) → ∃ h' A', gm_ru mX11_missedCourses 6 (52, [some (.ref m), some (.int (zI (i : Int))), some (.int (zI 0)), some (.int (zI (j : Int)))], [], h) (.inl (some (.int (zI (zMc (zHt F i 360) 360))))) h' ∧ h'.1[m]? = some (md_c m K) ∧ h'.1[m + 7]? = some (gA 360 A') ∧ gh_fr h h' (fun k => k = m + 7) := by
  intro z
  induction z with
  | zero =>
    intro j h A hj hM hV hq hA
    obtain rfl : j = 360 := by omega
    refine ⟨h, A, ?_, hM, hq, gh_rf⟩
    refine gm_go.ru (gm_iload_n dX11_missedCourses_52 rfl) ?_
    refine gm_go.ru (gi_sipush dX11_missedCourses_53 (by decide +kernel)) ?_
    refine gm_go.ru (gi_icmp_ge_t (tgt := 77) dX11_missedCourses_56 (by decide) (by omega) (by omega) (by omega)) ?_
    refine gm_go.ru (gi_const dX11_missedCourses_77) ?_
    refine gm_go.ru (gm_istore_n (ls' := [_, _, _, _]) dX11_missedCourses_78 (by decide) rfl) ?_
    rw [← zMc_c 360 hA]
    exact mm_3 hM hq (fun k hk => by rw [hA k hk]; exact zHt_r F i 360 k) 360 0 rfl
  | succ z ih =>
    intro j h A hj hM hV hq hA
    have t9 := zTc_r F i j
    obtain ⟨a1, ha1⟩ : ∃ y : gm_H, y = (h.1.set (m + 7) (gA 360 (zU A (zTc F i j).toNat 1)), h.2) := ⟨_, rfl⟩
    have f1 : gh_fr h a1 (fun k => k = m + 7) := by rw [ha1]; exact gh_set (K := fun k => k = m + 7) gh_rf rfl _
    obtain ⟨h', A', e1, e2, e3, e4⟩ := ih (j + 1) a1 (zU A (zTc F i j).toNat 1) (by omega) (gh_at f1 hM (by omega)) (gh_at f1 hV (by omega)) (by rw [ha1]; exact gs_s hq) (fun k hk => zHt_u (hA k hk))
    refine ⟨h', A', ?_, e2, e3, gh_tr f1 e4⟩
    refine gm_go.ru (gm_iload_n dX11_missedCourses_52 rfl) ?_
    refine gm_go.ru (gi_sipush dX11_missedCourses_53 (by decide +kernel)) ?_
    refine gm_go.ru (gi_icmp_ge_f 77 dX11_missedCourses_56 (by decide) (by omega) (by omega) (by omega)) ?_
    refine gm_go.ru (gm_aload_n dX11_missedCourses_59 rfl (by first | exact Or.inl ⟨_, rfl⟩ | exact Or.inr ⟨_, rfl⟩)) ?_
    refine gm_go.ru (gm_get dX11_missedCourses_60 (fl_X11_35 rfl) hM rfl) ?_
    refine gm_go.ru (gm_aload_n dX11_missedCourses_63 rfl (by first | exact Or.inl ⟨_, rfl⟩ | exact Or.inr ⟨_, rfl⟩)) ?_
    refine gm_go.ru (gm_iload_n dX11_missedCourses_64 rfl) ?_
    refine gm_go.ru (gm_iload_n dX11_missedCourses_65 rfl) ?_
    refine gm_go.ru (gm_cV dX11_missedCourses_66 (ct_mTurn hM hV hv hi (by omega)) rfl mt_X11_turned mv_X11_turned (lk_X11_135 rfl) (Or.inl ⟨_, 12, _, _, _, rfl, hM, rfl⟩) rfl (Nat.le_of_ble_eq_true rfl) (by decide)) ?_
    refine gm_go.ru (gi_const dX11_missedCourses_69) ?_
    refine gm_go.ru (gi_ast dX11_missedCourses_70 hq (by omega) (by omega) (by decide)) ?_
    refine gm_hp ha1 ?_
    refine gm_go.ru (gi_iinc (ls' := [_, _, _, _]) dX11_missedCourses_71 rfl (by decide) rfl) ?_
    refine gm_go.ru (gm_goto (tgt := 52) dX11_missedCourses_74 (by decide)) ?_
    exact e1
set_option maxRecDepth 4000 in
theorem mm_1 {m i : Nat} {K F H : Nat → Int} (hv : nd_iv F) (hi : i < 8) : ∀ (z j : Nat) (h : gm_H), j + z = 360 → h.1[m]? = some (md_c m K) → h.1[m + 1]? = some (gA 118 F) → h.1[m + 7]? = some (gA 360 (zLy (fun _ => 0) H j)) → ∃ h' A', gm_ru mX11_missedCourses 6 (30, [some (.ref m), some (.int (zI (i : Int))), some (.int (zI 0)), some (.int (zI (j : Int)))], [], h) (.inl (some (.int (zI (zMc (zHt F i 360) 360))))) h' ∧ h'.1[m]? = some (md_c m K) ∧ h'.1[m + 7]? = some (gA 360 A') ∧ gh_fr h h' (fun k => k = m + 7) := by
  intro z
  induction z with
  | zero =>
    intro j h hj hM hV hq
    obtain rfl : j = 360 := by omega
    obtain ⟨h', A', e1, e2⟩ := mm_2 (K := K) hv hi 360 0 h _ rfl hM hV hq (fun k hk => zLy_in _ H hk)
    refine ⟨h', A', ?_, e2⟩
    refine gm_go.ru (gm_iload_n dX11_missedCourses_30 rfl) ?_
    refine gm_go.ru (gi_sipush dX11_missedCourses_31 (by decide +kernel)) ?_
    refine gm_go.ru (gi_icmp_ge_t (tgt := 50) dX11_missedCourses_34 (by decide) (by omega) (by omega) (by omega)) ?_
    refine gm_go.ru (gi_const dX11_missedCourses_50) ?_
    refine gm_go.ru (gm_istore_n (ls' := [_, _, _, _]) dX11_missedCourses_51 (by decide) rfl) ?_
    exact e1
  | succ z ih =>
    intro j h hj hM hV hq
    obtain ⟨a1, ha1⟩ : ∃ y : gm_H, y = (h.1.set (m + 7) (gA 360 (zU (zLy (fun _ => 0) H j) j ((fun _ => 0) j))), h.2) := ⟨_, rfl⟩
    have f1 : gh_fr h a1 (fun k => k = m + 7) := by rw [ha1]; exact gh_set (K := fun k => k = m + 7) gh_rf rfl _
    obtain ⟨h', A', e1, e2, e3, e4⟩ := ih (j + 1) a1 (by omega) (gh_at f1 hM (by omega)) (gh_at f1 hV (by omega)) (by rw [ha1, zLy_s]; exact gs_s hq)
    refine ⟨h', A', ?_, e2, e3, gh_tr f1 e4⟩
    refine gm_go.ru (gm_iload_n dX11_missedCourses_30 rfl) ?_
    refine gm_go.ru (gi_sipush dX11_missedCourses_31 (by decide +kernel)) ?_
    refine gm_go.ru (gi_icmp_ge_f 50 dX11_missedCourses_34 (by decide) (by omega) (by omega) (by omega)) ?_
    refine gm_go.ru (gm_aload_n dX11_missedCourses_37 rfl (by first | exact Or.inl ⟨_, rfl⟩ | exact Or.inr ⟨_, rfl⟩)) ?_
    refine gm_go.ru (gm_get dX11_missedCourses_38 (fl_X11_35 rfl) hM rfl) ?_
    refine gm_go.ru (gm_iload_n dX11_missedCourses_41 rfl) ?_
    refine gm_go.ru (gi_const dX11_missedCourses_42) ?_
    refine gm_go.ru (gi_astN dX11_missedCourses_43 hq (by omega) (by decide)) ?_
    refine gm_hp ha1 ?_
    refine gm_go.ru (gi_iinc (ls' := [_, _, _, _]) dX11_missedCourses_44 rfl (by decide) rfl) ?_
    refine gm_go.ru (gm_goto (tgt := 30) dX11_missedCourses_47 (by decide)) ?_
    exact e1
set_option maxRecDepth 4000 in
theorem ct_m_missedCourses {h : gm_H} {m : Nat} {K F : Nat → Int} (hM : h.1[m]? = some (md_c m K)) (hV : h.1[m + 1]? = some (gA 118 F)) {i : Int} (hv : nd_iv F) (hi : zR i) {H : Nat → Int} (hH : h.1[m + 7]? = some (gA 360 H)) (hq : 0 ≤ i ∧ i < F 0) : ∃ h' H', gm_co mX11_missedCourses 6 [.ref m, .int (zI i)] h (.inl (some (.int (zI (zMc (zHt F i.toNat 360) 360))))) h' ∧ h'.1[m]? = some (md_c m (zU K 0 0)) ∧ h'.1[m + 7]? = some (gA 360 H') ∧ gh_fr h h' (fun k => k = m ∨ k = m + 7) := by
  obtain ⟨i, rfl⟩ : ∃ k : Nat, i = (k : Int) := ⟨i.toNat, by omega⟩
  have h8 : i < 8 := by have := hv.1; omega
  simp only [Int.toNat_natCast] at *
  obtain ⟨a1, ha1⟩ : ∃ y : gm_H, y = (h.1.set m (md_c m (zU K 0 0)), h.2) := ⟨_, rfl⟩
  have M_a1 : a1.1[m]? = some (md_c m (zU K 0 0)) := by rw [ha1]; exact gs_s hM
  have V_a1 : a1.1[m + 1]? = some (gA 118 F) := by rw [ha1]; exact gs_n hV (by omega)
  have f_a1 : gh_fr h a1 (fun k => k = m) := by rw [ha1]; exact gh_set (K := fun k => k = m) gh_rf rfl _
  have H1 := gh_at f_a1 hH (by omega)
  obtain ⟨h', A', e1, e2, e3, e4⟩ := mm_1 (H := H) hv h8 360 0 a1 rfl M_a1 V_a1 (by rw [zLy_0]; exact H1)
  refine ⟨h', A', ?_, e2, e3, gh_tr (gh_mono f_a1 fun k z => Or.inl z) (gh_mono e4 fun k z => Or.inr z)⟩
  refine gm_co_of _ (by decide +kernel) rfl (Nat.le_of_ble_eq_true rfl) rfl ?_
  refine gm_go.ru (gm_aload_n dX11_missedCourses_0 rfl (by first | exact Or.inl ⟨_, rfl⟩ | exact Or.inr ⟨_, rfl⟩)) ?_
  refine gm_go.ru (gm_aload_n dX11_missedCourses_1 rfl (by first | exact Or.inl ⟨_, rfl⟩ | exact Or.inr ⟨_, rfl⟩)) ?_
  refine gm_go.ru (gm_iload_n dX11_missedCourses_2 rfl) ?_
  refine gm_go.ru (gm_cV dX11_missedCourses_3 (ct_mIsN hM hV hv hi) rfl mt_X11_isNeedle mv_X11_isNeedle (lk_X11_87 rfl) (Or.inl ⟨_, 12, _, _, _, rfl, hM, rfl⟩) rfl (Nat.le_of_ble_eq_true rfl) (by decide)) ?_
  rw [zB_t hq]
  refine gm_go.ru (gi_if_eq_f 13 dX11_missedCourses_6 (by decide) (by decide) (by decide)) ?_
  refine gm_go.ru (gi_const dX11_missedCourses_9) ?_
  refine gm_go.ru (gm_goto (tgt := 14) dX11_missedCourses_10 (by decide)) ?_
  refine gm_go.ru (gm_put dX11_missedCourses_14 (fp_X11_53 rfl) hM (Nat.le_of_ble_eq_true rfl) (by first | exact ⟨rfl, rfl⟩ | exact trivial)) ?_
  refine gm_hp ha1 ?_
  refine gm_go.ru (gm_aload_n dX11_missedCourses_17 rfl (by first | exact Or.inl ⟨_, rfl⟩ | exact Or.inr ⟨_, rfl⟩)) ?_
  refine gm_go.ru (gm_get dX11_missedCourses_18 (fl_X11_53 rfl) M_a1 rfl) ?_
  refine gm_go.ru (gi_if_eq_t (tgt := 26) dX11_missedCourses_21 (by decide) (by rw [zU_s]; decide) zU_s) ?_
  refine gm_go.ru (gi_const dX11_missedCourses_26) ?_
  refine gm_go.ru (gm_istore_n (ls' := [_, _, _, _]) dX11_missedCourses_27 (by decide) rfl) ?_
  refine gm_go.ru (gi_const dX11_missedCourses_28) ?_
  refine gm_go.ru (gm_istore_n (ls' := [_, _, _, _]) dX11_missedCourses_29 (by decide) rfl) ?_
  exact e1
set_option maxRecDepth 4000 in
theorem ct_mAhead {h : gm_H} {m : Nat} {K F : Nat → Int} (hM : h.1[m]? = some (md_c m K)) (hV : h.1[m + 1]? = some (gA 118 F)) {a b : Nat} (hv : nd_iv F) (ha : a < 8) (hb : b < 8) : gm_co mX11_isAhead 4 [.ref m, .int (zI (a : Int)), .int (zI (b : Int))] h (.inl (some (.int (zI (zB (zAh F a b)))))) h := by
  refine gm_co_of _ (by decide +kernel) rfl (Nat.le_of_ble_eq_true rfl) rfl ?_
  have ra := zE_r hv ha (k := 0) (by omega)
  have rb := zE_r hv hb (k := 0) (by omega)
  have sa := hv.2.2.1 a ha
  have sb := hv.2.2.1 b hb
  unfold zAh
  by_cases c1 : zE F a 0 = zE F b 0
  ·
    rw [if_neg (fun z => z c1)]
    by_cases c2 : F (10 + 10 * a) = F (10 + 10 * b)
    ·
      rw [if_neg (fun z => z c2)]
      by_cases c3 : a < b
      ·
        rw [decide_eq_true c3]
        refine gm_go.ru (gm_aload_n dX11_isAhead_0 rfl (by first | exact Or.inl ⟨_, rfl⟩ | exact Or.inr ⟨_, rfl⟩)) ?_
        refine gm_go.ru (gm_iload_n dX11_isAhead_1 rfl) ?_
        refine gm_go.ru (gi_const dX11_isAhead_2) ?_
        refine gm_go.ru (gm_cV dX11_isAhead_3 (ct_mError hM hV ha) rfl mt_X11_error mv_X11_error (lk_X11_102 rfl) (Or.inl ⟨_, 12, _, _, _, rfl, hM, rfl⟩) rfl (Nat.le_of_ble_eq_true rfl) (by decide)) ?_
        refine gm_go.ru (gm_aload_n dX11_isAhead_6 rfl (by first | exact Or.inl ⟨_, rfl⟩ | exact Or.inr ⟨_, rfl⟩)) ?_
        refine gm_go.ru (gm_iload_n dX11_isAhead_7 rfl) ?_
        refine gm_go.ru (gi_const dX11_isAhead_8) ?_
        refine gm_go.ru (gm_cV dX11_isAhead_9 (ct_mError hM hV hb) rfl mt_X11_error mv_X11_error (lk_X11_102 rfl) (Or.inl ⟨_, 12, _, _, _, rfl, hM, rfl⟩) rfl (Nat.le_of_ble_eq_true rfl) (by decide)) ?_
        refine gm_go.ru (gi_sub dX11_isAhead_12) ?_
        refine gm_go.ru (gm_istore_n (ls' := [_, _, _, _]) dX11_isAhead_13 (by decide) rfl) ?_
        refine gm_go.ru (gm_iload_n dX11_isAhead_14 rfl) ?_
        refine gm_go.ru (gi_if_eq_t (tgt := 22) dX11_isAhead_15 (by decide) (by omega) (by omega)) ?_
        refine gm_go.ru (gm_aload_n dX11_isAhead_22 rfl (by first | exact Or.inl ⟨_, rfl⟩ | exact Or.inr ⟨_, rfl⟩)) ?_
        refine gm_go.ru (gm_get dX11_isAhead_23 (fl_X11_16 rfl) hM rfl) ?_
        refine gm_go.ru (gm_iload_n dX11_isAhead_26 rfl) ?_
        refine gm_go.ru (gi_const dX11_isAhead_27) ?_
        refine gm_go.ru (gm_cS dX11_isAhead_28 (ct_mOf (i := b) (w := 0)) rfl mt_X11_of ms_X11_of (lk_X11_67 rfl) rfl (Nat.le_of_ble_eq_true rfl) (by decide)) ?_
        rw [show 10 + 10 * b + 0 = 10 + 10 * b by omega]
        refine gm_go.ru (gi_aldN dX11_isAhead_31 hV (by omega) (by decide)) ?_
        refine gm_go.ru (gm_aload_n dX11_isAhead_32 rfl (by first | exact Or.inl ⟨_, rfl⟩ | exact Or.inr ⟨_, rfl⟩)) ?_
        refine gm_go.ru (gm_get dX11_isAhead_33 (fl_X11_16 rfl) hM rfl) ?_
        refine gm_go.ru (gm_iload_n dX11_isAhead_36 rfl) ?_
        refine gm_go.ru (gi_const dX11_isAhead_37) ?_
        refine gm_go.ru (gm_cS dX11_isAhead_38 (ct_mOf (i := a) (w := 0)) rfl mt_X11_of ms_X11_of (lk_X11_67 rfl) rfl (Nat.le_of_ble_eq_true rfl) (by decide)) ?_
        rw [show 10 + 10 * a + 0 = 10 + 10 * a by omega]
        refine gm_go.ru (gi_aldN dX11_isAhead_41 hV (by omega) (by decide)) ?_
        refine gm_go.ru (gi_sub dX11_isAhead_42) ?_
        refine gm_go.ru (gm_istore_n (ls' := [_, _, _, _]) dX11_isAhead_43 (by decide) rfl) ?_
        refine gm_go.ru (gm_iload_n dX11_isAhead_44 rfl) ?_
        refine gm_go.ru (gi_if_lt_f 57 dX11_isAhead_45 (by decide) (by omega) (by omega)) ?_
        refine gm_go.ru (gm_iload_n dX11_isAhead_48 rfl) ?_
        refine gm_go.ru (gi_if_ne_f 61 dX11_isAhead_49 (by decide) (by omega) (by omega)) ?_
        refine gm_go.ru (gm_iload_n dX11_isAhead_52 rfl) ?_
        refine gm_go.ru (gm_iload_n dX11_isAhead_53 rfl) ?_
        refine gm_go.ru (gi_icmp_ge_f 61 dX11_isAhead_54 (by decide) (by omega) (by omega) (by omega)) ?_
        refine gm_go.ru (gi_const dX11_isAhead_57) ?_
        refine gm_go.ru (gm_goto (tgt := 62) dX11_isAhead_58 (by decide)) ?_
        exact gm_zret' (b := true) dX11_isAhead_62 rfl rfl
      ·
        rw [decide_eq_false c3]
        refine gm_go.ru (gm_aload_n dX11_isAhead_0 rfl (by first | exact Or.inl ⟨_, rfl⟩ | exact Or.inr ⟨_, rfl⟩)) ?_
        refine gm_go.ru (gm_iload_n dX11_isAhead_1 rfl) ?_
        refine gm_go.ru (gi_const dX11_isAhead_2) ?_
        refine gm_go.ru (gm_cV dX11_isAhead_3 (ct_mError hM hV ha) rfl mt_X11_error mv_X11_error (lk_X11_102 rfl) (Or.inl ⟨_, 12, _, _, _, rfl, hM, rfl⟩) rfl (Nat.le_of_ble_eq_true rfl) (by decide)) ?_
        refine gm_go.ru (gm_aload_n dX11_isAhead_6 rfl (by first | exact Or.inl ⟨_, rfl⟩ | exact Or.inr ⟨_, rfl⟩)) ?_
        refine gm_go.ru (gm_iload_n dX11_isAhead_7 rfl) ?_
        refine gm_go.ru (gi_const dX11_isAhead_8) ?_
        refine gm_go.ru (gm_cV dX11_isAhead_9 (ct_mError hM hV hb) rfl mt_X11_error mv_X11_error (lk_X11_102 rfl) (Or.inl ⟨_, 12, _, _, _, rfl, hM, rfl⟩) rfl (Nat.le_of_ble_eq_true rfl) (by decide)) ?_
        refine gm_go.ru (gi_sub dX11_isAhead_12) ?_
        refine gm_go.ru (gm_istore_n (ls' := [_, _, _, _]) dX11_isAhead_13 (by decide) rfl) ?_
        refine gm_go.ru (gm_iload_n dX11_isAhead_14 rfl) ?_
        refine gm_go.ru (gi_if_eq_t (tgt := 22) dX11_isAhead_15 (by decide) (by omega) (by omega)) ?_
        refine gm_go.ru (gm_aload_n dX11_isAhead_22 rfl (by first | exact Or.inl ⟨_, rfl⟩ | exact Or.inr ⟨_, rfl⟩)) ?_
        refine gm_go.ru (gm_get dX11_isAhead_23 (fl_X11_16 rfl) hM rfl) ?_
        refine gm_go.ru (gm_iload_n dX11_isAhead_26 rfl) ?_
        refine gm_go.ru (gi_const dX11_isAhead_27) ?_
        refine gm_go.ru (gm_cS dX11_isAhead_28 (ct_mOf (i := b) (w := 0)) rfl mt_X11_of ms_X11_of (lk_X11_67 rfl) rfl (Nat.le_of_ble_eq_true rfl) (by decide)) ?_
        rw [show 10 + 10 * b + 0 = 10 + 10 * b by omega]
        refine gm_go.ru (gi_aldN dX11_isAhead_31 hV (by omega) (by decide)) ?_
        refine gm_go.ru (gm_aload_n dX11_isAhead_32 rfl (by first | exact Or.inl ⟨_, rfl⟩ | exact Or.inr ⟨_, rfl⟩)) ?_
        refine gm_go.ru (gm_get dX11_isAhead_33 (fl_X11_16 rfl) hM rfl) ?_
        refine gm_go.ru (gm_iload_n dX11_isAhead_36 rfl) ?_
        refine gm_go.ru (gi_const dX11_isAhead_37) ?_
        refine gm_go.ru (gm_cS dX11_isAhead_38 (ct_mOf (i := a) (w := 0)) rfl mt_X11_of ms_X11_of (lk_X11_67 rfl) rfl (Nat.le_of_ble_eq_true rfl) (by decide)) ?_
        rw [show 10 + 10 * a + 0 = 10 + 10 * a by omega]
        refine gm_go.ru (gi_aldN dX11_isAhead_41 hV (by omega) (by decide)) ?_
        refine gm_go.ru (gi_sub dX11_isAhead_42) ?_
        refine gm_go.ru (gm_istore_n (ls' := [_, _, _, _]) dX11_isAhead_43 (by decide) rfl) ?_
        refine gm_go.ru (gm_iload_n dX11_isAhead_44 rfl) ?_
        refine gm_go.ru (gi_if_lt_f 57 dX11_isAhead_45 (by decide) (by omega) (by omega)) ?_
        refine gm_go.ru (gm_iload_n dX11_isAhead_48 rfl) ?_
        refine gm_go.ru (gi_if_ne_f 61 dX11_isAhead_49 (by decide) (by omega) (by omega)) ?_
        refine gm_go.ru (gm_iload_n dX11_isAhead_52 rfl) ?_
        refine gm_go.ru (gm_iload_n dX11_isAhead_53 rfl) ?_
        refine gm_go.ru (gi_icmp_ge_t (tgt := 61) dX11_isAhead_54 (by decide) (by omega) (by omega) (by omega)) ?_
        refine gm_go.ru (gi_const dX11_isAhead_61) ?_
        exact gm_zret' (b := false) dX11_isAhead_62 rfl rfl
    ·
      rw [if_pos c2]
      by_cases c3 : F (10 + 10 * b) < F (10 + 10 * a)
      ·
        rw [decide_eq_true c3]
        refine gm_go.ru (gm_aload_n dX11_isAhead_0 rfl (by first | exact Or.inl ⟨_, rfl⟩ | exact Or.inr ⟨_, rfl⟩)) ?_
        refine gm_go.ru (gm_iload_n dX11_isAhead_1 rfl) ?_
        refine gm_go.ru (gi_const dX11_isAhead_2) ?_
        refine gm_go.ru (gm_cV dX11_isAhead_3 (ct_mError hM hV ha) rfl mt_X11_error mv_X11_error (lk_X11_102 rfl) (Or.inl ⟨_, 12, _, _, _, rfl, hM, rfl⟩) rfl (Nat.le_of_ble_eq_true rfl) (by decide)) ?_
        refine gm_go.ru (gm_aload_n dX11_isAhead_6 rfl (by first | exact Or.inl ⟨_, rfl⟩ | exact Or.inr ⟨_, rfl⟩)) ?_
        refine gm_go.ru (gm_iload_n dX11_isAhead_7 rfl) ?_
        refine gm_go.ru (gi_const dX11_isAhead_8) ?_
        refine gm_go.ru (gm_cV dX11_isAhead_9 (ct_mError hM hV hb) rfl mt_X11_error mv_X11_error (lk_X11_102 rfl) (Or.inl ⟨_, 12, _, _, _, rfl, hM, rfl⟩) rfl (Nat.le_of_ble_eq_true rfl) (by decide)) ?_
        refine gm_go.ru (gi_sub dX11_isAhead_12) ?_
        refine gm_go.ru (gm_istore_n (ls' := [_, _, _, _]) dX11_isAhead_13 (by decide) rfl) ?_
        refine gm_go.ru (gm_iload_n dX11_isAhead_14 rfl) ?_
        refine gm_go.ru (gi_if_eq_t (tgt := 22) dX11_isAhead_15 (by decide) (by omega) (by omega)) ?_
        refine gm_go.ru (gm_aload_n dX11_isAhead_22 rfl (by first | exact Or.inl ⟨_, rfl⟩ | exact Or.inr ⟨_, rfl⟩)) ?_
        refine gm_go.ru (gm_get dX11_isAhead_23 (fl_X11_16 rfl) hM rfl) ?_
        refine gm_go.ru (gm_iload_n dX11_isAhead_26 rfl) ?_
        refine gm_go.ru (gi_const dX11_isAhead_27) ?_
        refine gm_go.ru (gm_cS dX11_isAhead_28 (ct_mOf (i := b) (w := 0)) rfl mt_X11_of ms_X11_of (lk_X11_67 rfl) rfl (Nat.le_of_ble_eq_true rfl) (by decide)) ?_
        rw [show 10 + 10 * b + 0 = 10 + 10 * b by omega]
        refine gm_go.ru (gi_aldN dX11_isAhead_31 hV (by omega) (by decide)) ?_
        refine gm_go.ru (gm_aload_n dX11_isAhead_32 rfl (by first | exact Or.inl ⟨_, rfl⟩ | exact Or.inr ⟨_, rfl⟩)) ?_
        refine gm_go.ru (gm_get dX11_isAhead_33 (fl_X11_16 rfl) hM rfl) ?_
        refine gm_go.ru (gm_iload_n dX11_isAhead_36 rfl) ?_
        refine gm_go.ru (gi_const dX11_isAhead_37) ?_
        refine gm_go.ru (gm_cS dX11_isAhead_38 (ct_mOf (i := a) (w := 0)) rfl mt_X11_of ms_X11_of (lk_X11_67 rfl) rfl (Nat.le_of_ble_eq_true rfl) (by decide)) ?_
        rw [show 10 + 10 * a + 0 = 10 + 10 * a by omega]
        refine gm_go.ru (gi_aldN dX11_isAhead_41 hV (by omega) (by decide)) ?_
        refine gm_go.ru (gi_sub dX11_isAhead_42) ?_
        refine gm_go.ru (gm_istore_n (ls' := [_, _, _, _]) dX11_isAhead_43 (by decide) rfl) ?_
        refine gm_go.ru (gm_iload_n dX11_isAhead_44 rfl) ?_
        refine gm_go.ru (gi_if_lt_t (tgt := 57) dX11_isAhead_45 (by decide) (by omega) (by omega)) ?_
        refine gm_go.ru (gi_const dX11_isAhead_57) ?_
        refine gm_go.ru (gm_goto (tgt := 62) dX11_isAhead_58 (by decide)) ?_
        exact gm_zret' (b := true) dX11_isAhead_62 rfl rfl
      ·
        rw [decide_eq_false c3]
        refine gm_go.ru (gm_aload_n dX11_isAhead_0 rfl (by first | exact Or.inl ⟨_, rfl⟩ | exact Or.inr ⟨_, rfl⟩)) ?_
        refine gm_go.ru (gm_iload_n dX11_isAhead_1 rfl) ?_
        refine gm_go.ru (gi_const dX11_isAhead_2) ?_
        refine gm_go.ru (gm_cV dX11_isAhead_3 (ct_mError hM hV ha) rfl mt_X11_error mv_X11_error (lk_X11_102 rfl) (Or.inl ⟨_, 12, _, _, _, rfl, hM, rfl⟩) rfl (Nat.le_of_ble_eq_true rfl) (by decide)) ?_
        refine gm_go.ru (gm_aload_n dX11_isAhead_6 rfl (by first | exact Or.inl ⟨_, rfl⟩ | exact Or.inr ⟨_, rfl⟩)) ?_
        refine gm_go.ru (gm_iload_n dX11_isAhead_7 rfl) ?_
        refine gm_go.ru (gi_const dX11_isAhead_8) ?_
        refine gm_go.ru (gm_cV dX11_isAhead_9 (ct_mError hM hV hb) rfl mt_X11_error mv_X11_error (lk_X11_102 rfl) (Or.inl ⟨_, 12, _, _, _, rfl, hM, rfl⟩) rfl (Nat.le_of_ble_eq_true rfl) (by decide)) ?_
        refine gm_go.ru (gi_sub dX11_isAhead_12) ?_
        refine gm_go.ru (gm_istore_n (ls' := [_, _, _, _]) dX11_isAhead_13 (by decide) rfl) ?_
        refine gm_go.ru (gm_iload_n dX11_isAhead_14 rfl) ?_
        refine gm_go.ru (gi_if_eq_t (tgt := 22) dX11_isAhead_15 (by decide) (by omega) (by omega)) ?_
        refine gm_go.ru (gm_aload_n dX11_isAhead_22 rfl (by first | exact Or.inl ⟨_, rfl⟩ | exact Or.inr ⟨_, rfl⟩)) ?_
        refine gm_go.ru (gm_get dX11_isAhead_23 (fl_X11_16 rfl) hM rfl) ?_
        refine gm_go.ru (gm_iload_n dX11_isAhead_26 rfl) ?_
        refine gm_go.ru (gi_const dX11_isAhead_27) ?_
        refine gm_go.ru (gm_cS dX11_isAhead_28 (ct_mOf (i := b) (w := 0)) rfl mt_X11_of ms_X11_of (lk_X11_67 rfl) rfl (Nat.le_of_ble_eq_true rfl) (by decide)) ?_
        rw [show 10 + 10 * b + 0 = 10 + 10 * b by omega]
        refine gm_go.ru (gi_aldN dX11_isAhead_31 hV (by omega) (by decide)) ?_
        refine gm_go.ru (gm_aload_n dX11_isAhead_32 rfl (by first | exact Or.inl ⟨_, rfl⟩ | exact Or.inr ⟨_, rfl⟩)) ?_
        refine gm_go.ru (gm_get dX11_isAhead_33 (fl_X11_16 rfl) hM rfl) ?_
        refine gm_go.ru (gm_iload_n dX11_isAhead_36 rfl) ?_
        refine gm_go.ru (gi_const dX11_isAhead_37) ?_
        refine gm_go.ru (gm_cS dX11_isAhead_38 (ct_mOf (i := a) (w := 0)) rfl mt_X11_of ms_X11_of (lk_X11_67 rfl) rfl (Nat.le_of_ble_eq_true rfl) (by decide)) ?_
        rw [show 10 + 10 * a + 0 = 10 + 10 * a by omega]
        refine gm_go.ru (gi_aldN dX11_isAhead_41 hV (by omega) (by decide)) ?_
        refine gm_go.ru (gi_sub dX11_isAhead_42) ?_
        refine gm_go.ru (gm_istore_n (ls' := [_, _, _, _]) dX11_isAhead_43 (by decide) rfl) ?_
        refine gm_go.ru (gm_iload_n dX11_isAhead_44 rfl) ?_
        refine gm_go.ru (gi_if_lt_f 57 dX11_isAhead_45 (by decide) (by omega) (by omega)) ?_
        refine gm_go.ru (gm_iload_n dX11_isAhead_48 rfl) ?_
        refine gm_go.ru (gi_if_ne_t (tgt := 61) dX11_isAhead_49 (by decide) (by omega) (by omega)) ?_
        refine gm_go.ru (gi_const dX11_isAhead_61) ?_
        exact gm_zret' (b := false) dX11_isAhead_62 rfl rfl
  ·
    rw [if_pos c1]
    by_cases c3 : zE F a 0 < zE F b 0
    ·
      rw [decide_eq_true c3]
      refine gm_go.ru (gm_aload_n dX11_isAhead_0 rfl (by first | exact Or.inl ⟨_, rfl⟩ | exact Or.inr ⟨_, rfl⟩)) ?_
      refine gm_go.ru (gm_iload_n dX11_isAhead_1 rfl) ?_
      refine gm_go.ru (gi_const dX11_isAhead_2) ?_
      refine gm_go.ru (gm_cV dX11_isAhead_3 (ct_mError hM hV ha) rfl mt_X11_error mv_X11_error (lk_X11_102 rfl) (Or.inl ⟨_, 12, _, _, _, rfl, hM, rfl⟩) rfl (Nat.le_of_ble_eq_true rfl) (by decide)) ?_
      refine gm_go.ru (gm_aload_n dX11_isAhead_6 rfl (by first | exact Or.inl ⟨_, rfl⟩ | exact Or.inr ⟨_, rfl⟩)) ?_
      refine gm_go.ru (gm_iload_n dX11_isAhead_7 rfl) ?_
      refine gm_go.ru (gi_const dX11_isAhead_8) ?_
      refine gm_go.ru (gm_cV dX11_isAhead_9 (ct_mError hM hV hb) rfl mt_X11_error mv_X11_error (lk_X11_102 rfl) (Or.inl ⟨_, 12, _, _, _, rfl, hM, rfl⟩) rfl (Nat.le_of_ble_eq_true rfl) (by decide)) ?_
      refine gm_go.ru (gi_sub dX11_isAhead_12) ?_
      refine gm_go.ru (gm_istore_n (ls' := [_, _, _, _]) dX11_isAhead_13 (by decide) rfl) ?_
      refine gm_go.ru (gm_iload_n dX11_isAhead_14 rfl) ?_
      refine gm_go.ru (gi_if_eq_f 22 dX11_isAhead_15 (by decide) (by omega) (by omega)) ?_
      refine gm_go.ru (gm_iload_n dX11_isAhead_18 rfl) ?_
      refine gm_go.ru (gm_goto (tgt := 43) dX11_isAhead_19 (by decide)) ?_
      refine gm_go.ru (gm_istore_n (ls' := [_, _, _, _]) dX11_isAhead_43 (by decide) rfl) ?_
      refine gm_go.ru (gm_iload_n dX11_isAhead_44 rfl) ?_
      refine gm_go.ru (gi_if_lt_t (tgt := 57) dX11_isAhead_45 (by decide) (by omega) (by omega)) ?_
      refine gm_go.ru (gi_const dX11_isAhead_57) ?_
      refine gm_go.ru (gm_goto (tgt := 62) dX11_isAhead_58 (by decide)) ?_
      exact gm_zret' (b := true) dX11_isAhead_62 rfl rfl
    ·
      rw [decide_eq_false c3]
      refine gm_go.ru (gm_aload_n dX11_isAhead_0 rfl (by first | exact Or.inl ⟨_, rfl⟩ | exact Or.inr ⟨_, rfl⟩)) ?_
      refine gm_go.ru (gm_iload_n dX11_isAhead_1 rfl) ?_
      refine gm_go.ru (gi_const dX11_isAhead_2) ?_
      refine gm_go.ru (gm_cV dX11_isAhead_3 (ct_mError hM hV ha) rfl mt_X11_error mv_X11_error (lk_X11_102 rfl) (Or.inl ⟨_, 12, _, _, _, rfl, hM, rfl⟩) rfl (Nat.le_of_ble_eq_true rfl) (by decide)) ?_
      refine gm_go.ru (gm_aload_n dX11_isAhead_6 rfl (by first | exact Or.inl ⟨_, rfl⟩ | exact Or.inr ⟨_, rfl⟩)) ?_
      refine gm_go.ru (gm_iload_n dX11_isAhead_7 rfl) ?_
      refine gm_go.ru (gi_const dX11_isAhead_8) ?_
      refine gm_go.ru (gm_cV dX11_isAhead_9 (ct_mError hM hV hb) rfl mt_X11_error mv_X11_error (lk_X11_102 rfl) (Or.inl ⟨_, 12, _, _, _, rfl, hM, rfl⟩) rfl (Nat.le_of_ble_eq_true rfl) (by decide)) ?_
      refine gm_go.ru (gi_sub dX11_isAhead_12) ?_
      refine gm_go.ru (gm_istore_n (ls' := [_, _, _, _]) dX11_isAhead_13 (by decide) rfl) ?_
      refine gm_go.ru (gm_iload_n dX11_isAhead_14 rfl) ?_
      refine gm_go.ru (gi_if_eq_f 22 dX11_isAhead_15 (by decide) (by omega) (by omega)) ?_
      refine gm_go.ru (gm_iload_n dX11_isAhead_18 rfl) ?_
      refine gm_go.ru (gm_goto (tgt := 43) dX11_isAhead_19 (by decide)) ?_
      refine gm_go.ru (gm_istore_n (ls' := [_, _, _, _]) dX11_isAhead_43 (by decide) rfl) ?_
      refine gm_go.ru (gm_iload_n dX11_isAhead_44 rfl) ?_
      refine gm_go.ru (gi_if_lt_f 57 dX11_isAhead_45 (by decide) (by omega) (by omega)) ?_
      refine gm_go.ru (gm_iload_n dX11_isAhead_48 rfl) ?_
      refine gm_go.ru (gi_if_ne_t (tgt := 61) dX11_isAhead_49 (by decide) (by omega) (by omega)) ?_
      refine gm_go.ru (gi_const dX11_isAhead_61) ?_
      exact gm_zret' (b := false) dX11_isAhead_62 rfl rfl
theorem zAh_s (F : Nat → Int) (a : Nat) : zAh F a a = false := by unfold zAh; simp
set_option maxRecDepth 4000 in
theorem rk_1 {h : gm_H} {m i cn : Nat} {K F : Nat → Int} {r : Int} (hM : h.1[m]? = some (md_c m K)) (hV : h.1[m + 1]? = some (gA 118 F)) (hv : nd_iv F) (h8 : i < 8) (hc : F 0 = (cn : Int)) (hc8 : cn ≤ 8) : ∀ z j : Nat, j + z = cn → gm_go mX11_needleAtRank 6 (22, [some (.ref m), some (.int (zI r)), some (.int (zI (i : Int))), some (.int (zI ((zCA F i j : Nat) : Int))), some (.int (zI (j : Int)))], [], h) (63, [some (.ref m), some (.int (zI r)), some (.int (zI (i : Int))), some (.int (zI ((zCA F i cn : Nat) : Int))), some (.int (zI (cn : Int)))], [], h) := by
  intro z
  induction z with
  | zero =>
    intro j hj
    obtain rfl : j = cn := by omega
    refine gm_go_tr (gm_iload dX11_needleAtRank_22 rfl) ?_
    refine gm_go_tr (gm_aload_n dX11_needleAtRank_24 rfl (by first | exact Or.inl ⟨_, rfl⟩ | exact Or.inr ⟨_, rfl⟩)) ?_
    refine gm_go_tr (gm_get dX11_needleAtRank_25 (fl_X11_16 rfl) hM rfl) ?_
    refine gm_go_tr (gi_const dX11_needleAtRank_28) ?_
    refine gm_go_tr (gi_aldN (a := 0) dX11_needleAtRank_29 hV (by decide) (by decide)) ?_
    rw [hc]
    refine gm_go_tr (gi_icmp_ge_t (tgt := 63) dX11_needleAtRank_30 (by decide) (by omega) (by omega) (by omega)) ?_
    exact gm_go_rf
  | succ z ih =>
    intro j hj
    have cle := zCA_le F i j
    have hn := ih (j + 1) (by omega)
    rw [zCA] at hn
    by_cases c1 : j = i
    ·
      subst c1
      rw [zAh_s, if_neg (by decide)] at hn
      refine gm_go_tr (gm_iload dX11_needleAtRank_22 rfl) ?_
      refine gm_go_tr (gm_aload_n dX11_needleAtRank_24 rfl (by first | exact Or.inl ⟨_, rfl⟩ | exact Or.inr ⟨_, rfl⟩)) ?_
      refine gm_go_tr (gm_get dX11_needleAtRank_25 (fl_X11_16 rfl) hM rfl) ?_
      refine gm_go_tr (gi_const dX11_needleAtRank_28) ?_
      refine gm_go_tr (gi_aldN (a := 0) dX11_needleAtRank_29 hV (by decide) (by decide)) ?_
      rw [hc]
      refine gm_go_tr (gi_icmp_ge_f 63 dX11_needleAtRank_30 (by decide) (by omega) (by omega) (by omega)) ?_
      refine gm_go_tr (gm_iload_n dX11_needleAtRank_33 rfl) ?_
      refine gm_go_tr (gm_iload dX11_needleAtRank_34 rfl) ?_
      refine gm_go_tr (gm_iload_n dX11_needleAtRank_36 rfl) ?_
      refine gm_go_tr (gi_icmp_eq_t (tgt := 54) dX11_needleAtRank_37 (by decide) (by omega) (by omega) rfl) ?_
      refine gm_go_tr (gi_const dX11_needleAtRank_54) ?_
      refine gm_go_tr (gi_add dX11_needleAtRank_55) ?_
      refine gm_go_tr (gm_istore_n (ls' := [_, _, _, _, _]) dX11_needleAtRank_56 (by decide) rfl) ?_
      refine gm_go_tr (gi_iinc (ls' := [_, _, _, _, _]) dX11_needleAtRank_57 rfl (by decide) rfl) ?_
      refine gm_go_tr (gm_goto (tgt := 22) dX11_needleAtRank_60 (by decide)) ?_
      exact hn
    ·
      cases hb : zAh F j i
      ·
        rw [hb] at hn
        have ha := ct_mAhead hM hV hv (a := j) (b := i) (by omega) h8
        rw [hb] at ha
        refine gm_go_tr (gm_iload dX11_needleAtRank_22 rfl) ?_
        refine gm_go_tr (gm_aload_n dX11_needleAtRank_24 rfl (by first | exact Or.inl ⟨_, rfl⟩ | exact Or.inr ⟨_, rfl⟩)) ?_
        refine gm_go_tr (gm_get dX11_needleAtRank_25 (fl_X11_16 rfl) hM rfl) ?_
        refine gm_go_tr (gi_const dX11_needleAtRank_28) ?_
        refine gm_go_tr (gi_aldN (a := 0) dX11_needleAtRank_29 hV (by decide) (by decide)) ?_
        rw [hc]
        refine gm_go_tr (gi_icmp_ge_f 63 dX11_needleAtRank_30 (by decide) (by omega) (by omega) (by omega)) ?_
        refine gm_go_tr (gm_iload_n dX11_needleAtRank_33 rfl) ?_
        refine gm_go_tr (gm_iload dX11_needleAtRank_34 rfl) ?_
        refine gm_go_tr (gm_iload_n dX11_needleAtRank_36 rfl) ?_
        refine gm_go_tr (gi_icmp_eq_f 54 dX11_needleAtRank_37 (by decide) (by omega) (by omega) (by omega)) ?_
        refine gm_go_tr (gm_aload_n dX11_needleAtRank_40 rfl (by first | exact Or.inl ⟨_, rfl⟩ | exact Or.inr ⟨_, rfl⟩)) ?_
        refine gm_go_tr (gm_iload dX11_needleAtRank_41 rfl) ?_
        refine gm_go_tr (gm_iload_n dX11_needleAtRank_43 rfl) ?_
        refine gm_go_tr (gm_cV dX11_needleAtRank_44 (ha) rfl mt_X11_isAhead mv_X11_isAhead (lk_X11_147 rfl) (Or.inl ⟨_, 12, _, _, _, rfl, hM, rfl⟩) rfl (Nat.le_of_ble_eq_true rfl) (by decide)) ?_
        refine gm_go_tr (gi_if_eq_t (tgt := 54) dX11_needleAtRank_47 (by decide) (by decide) rfl) ?_
        refine gm_go_tr (gi_const dX11_needleAtRank_54) ?_
        refine gm_go_tr (gi_add dX11_needleAtRank_55) ?_
        refine gm_go_tr (gm_istore_n (ls' := [_, _, _, _, _]) dX11_needleAtRank_56 (by decide) rfl) ?_
        refine gm_go_tr (gi_iinc (ls' := [_, _, _, _, _]) dX11_needleAtRank_57 rfl (by decide) rfl) ?_
        refine gm_go_tr (gm_goto (tgt := 22) dX11_needleAtRank_60 (by decide)) ?_
        exact hn
      ·
        rw [hb] at hn
        have ha := ct_mAhead hM hV hv (a := j) (b := i) (by omega) h8
        rw [hb] at ha
        refine gm_go_tr (gm_iload dX11_needleAtRank_22 rfl) ?_
        refine gm_go_tr (gm_aload_n dX11_needleAtRank_24 rfl (by first | exact Or.inl ⟨_, rfl⟩ | exact Or.inr ⟨_, rfl⟩)) ?_
        refine gm_go_tr (gm_get dX11_needleAtRank_25 (fl_X11_16 rfl) hM rfl) ?_
        refine gm_go_tr (gi_const dX11_needleAtRank_28) ?_
        refine gm_go_tr (gi_aldN (a := 0) dX11_needleAtRank_29 hV (by decide) (by decide)) ?_
        rw [hc]
        refine gm_go_tr (gi_icmp_ge_f 63 dX11_needleAtRank_30 (by decide) (by omega) (by omega) (by omega)) ?_
        refine gm_go_tr (gm_iload_n dX11_needleAtRank_33 rfl) ?_
        refine gm_go_tr (gm_iload dX11_needleAtRank_34 rfl) ?_
        refine gm_go_tr (gm_iload_n dX11_needleAtRank_36 rfl) ?_
        refine gm_go_tr (gi_icmp_eq_f 54 dX11_needleAtRank_37 (by decide) (by omega) (by omega) (by omega)) ?_
        refine gm_go_tr (gm_aload_n dX11_needleAtRank_40 rfl (by first | exact Or.inl ⟨_, rfl⟩ | exact Or.inr ⟨_, rfl⟩)) ?_
        refine gm_go_tr (gm_iload dX11_needleAtRank_41 rfl) ?_
        refine gm_go_tr (gm_iload_n dX11_needleAtRank_43 rfl) ?_
        refine gm_go_tr (gm_cV dX11_needleAtRank_44 (ha) rfl mt_X11_isAhead mv_X11_isAhead (lk_X11_147 rfl) (Or.inl ⟨_, 12, _, _, _, rfl, hM, rfl⟩) rfl (Nat.le_of_ble_eq_true rfl) (by decide)) ?_
        refine gm_go_tr (gi_if_eq_f 54 dX11_needleAtRank_47 (by decide) (by decide) (by decide)) ?_
        refine gm_go_tr (gi_const dX11_needleAtRank_50) ?_
        refine gm_go_tr (gm_goto (tgt := 55) dX11_needleAtRank_51 (by decide)) ?_
        refine gm_go_tr (gi_add dX11_needleAtRank_55) ?_
        refine gm_go_tr (gm_istore_n (ls' := [_, _, _, _, _]) dX11_needleAtRank_56 (by decide) rfl) ?_
        refine gm_go_tr (gi_iinc (ls' := [_, _, _, _, _]) dX11_needleAtRank_57 rfl (by decide) rfl) ?_
        refine gm_go_tr (gm_goto (tgt := 22) dX11_needleAtRank_60 (by decide)) ?_
        exact hn
set_option maxRecDepth 4000 in
theorem rk_2 {h : gm_H} {m cn : Nat} {K F : Nat → Int} {r : Int} (hM : h.1[m]? = some (md_c m K)) (hV : h.1[m + 1]? = some (gA 118 F)) (hv : nd_iv F) (hr : zR r) (hc : F 0 = (cn : Int)) (hc8 : cn ≤ 8) : ∀ (z j : Nat) (x3 x4 : Option Value), j + z = cn → 0 ≤ zRk F r z j → gm_ru mX11_needleAtRank 6 (7, [some (.ref m), some (.int (zI r)), some (.int (zI (j : Int))), x3, x4], [], h) (.inl (some (.int (zI (zRk F r z j))))) h := by
  intro z
  induction z with
  | zero =>
    intro j x3 x4 hj hz
    exact absurd hz (by simp [zRk])
  | succ z ih =>
    intro j x3 x4 hj hz
    have cle := zCA_le F j cn
    rw [zRk, hc, Int.toNat_natCast] at hz
    rw [zRk, hc, Int.toNat_natCast]
    refine gm_go.ru (gm_iload_n dX11_needleAtRank_7 rfl) ?_
    refine gm_go.ru (gm_aload_n dX11_needleAtRank_8 rfl (by first | exact Or.inl ⟨_, rfl⟩ | exact Or.inr ⟨_, rfl⟩)) ?_
    refine gm_go.ru (gm_get dX11_needleAtRank_9 (fl_X11_16 rfl) hM rfl) ?_
    refine gm_go.ru (gi_const dX11_needleAtRank_12) ?_
    refine gm_go.ru (gi_aldN (a := 0) dX11_needleAtRank_13 hV (by decide) (by decide)) ?_
    rw [hc]
    refine gm_go.ru (gi_icmp_ge_f 76 dX11_needleAtRank_14 (by decide) (by omega) (by omega) (by omega)) ?_
    refine gm_go.ru (gi_const dX11_needleAtRank_17) ?_
    refine gm_go.ru (gm_istore_n (ls' := [_, _, _, _, _]) dX11_needleAtRank_18 (by decide) rfl) ?_
    refine gm_go.ru (gi_const dX11_needleAtRank_19) ?_
    refine gm_go.ru (gm_istore (ls' := [_, _, _, _, _]) dX11_needleAtRank_20 (by decide) rfl) ?_
    refine gm_go.ru (rk_1 (r := r) hM hV hv (i := j) (by omega) hc hc8 cn 0 (by omega)) ?_
    by_cases c : ((zCA F j cn : Nat) : Int) = r
    ·
      rw [if_pos c]
      refine gm_go.ru (gm_iload_n dX11_needleAtRank_63 rfl) ?_
      refine gm_go.ru (gm_iload_n dX11_needleAtRank_64 rfl) ?_
      refine gm_go.ru (gi_icmp_ne_f 70 dX11_needleAtRank_65 (by decide) (by omega) (by omega) (by omega)) ?_
      refine gm_go.ru (gm_iload_n dX11_needleAtRank_68 rfl) ?_
      exact gm_iret dX11_needleAtRank_69 rfl
    ·
      rw [if_neg c] at hz ⊢
      refine gm_go.ru (gm_iload_n dX11_needleAtRank_63 rfl) ?_
      refine gm_go.ru (gm_iload_n dX11_needleAtRank_64 rfl) ?_
      refine gm_go.ru (gi_icmp_ne_t (tgt := 70) dX11_needleAtRank_65 (by decide) (by omega) (by omega) (by omega)) ?_
      refine gm_go.ru (gi_iinc (ls' := [_, _, _, _, _]) dX11_needleAtRank_70 rfl (by decide) rfl) ?_
      refine gm_go.ru (gm_goto (tgt := 7) dX11_needleAtRank_73 (by decide)) ?_
      exact ih (j + 1) _ _ (by omega) hz
set_option maxRecDepth 4000 in
theorem ct_m_needleAtRank {h : gm_H} {m : Nat} {K F : Nat → Int} (hM : h.1[m]? = some (md_c m K)) (hV : h.1[m + 1]? = some (gA 118 F)) {r : Int} (hv : nd_iv F) (hr : zR r) (hq : 0 ≤ zRk F r (F 0).toNat 0) : ∃ h', gm_co mX11_needleAtRank 6 [.ref m, .int (zI r)] h (.inl (some (.int (zI (zRk F r (F 0).toNat 0))))) h' ∧ h'.1[m]? = some (md_c m (zU K 0 0)) ∧ gh_fr h h' (fun k => k = m) := by
  obtain ⟨a1, ha1⟩ : ∃ y : gm_H, y = (h.1.set m (md_c m (zU K 0 0)), h.2) := ⟨_, rfl⟩
  have M_a1 : a1.1[m]? = some (md_c m (zU K 0 0)) := by rw [ha1]; exact gs_s hM
  have V_a1 : a1.1[m + 1]? = some (gA 118 F) := by rw [ha1]; exact gs_n hV (by omega)
  have f_a1 : gh_fr h a1 (fun k => k = m) := by rw [ha1]; exact gh_set (K := fun k => k = m) gh_rf rfl _
  obtain ⟨cn, hc, hc8⟩ := nd_cnt hv
  rw [hc, Int.toNat_natCast] at hq ⊢
  refine ⟨a1, ?_, M_a1, f_a1⟩
  refine gm_co_of _ (by decide +kernel) rfl (Nat.le_of_ble_eq_true rfl) rfl ?_
  refine gm_go.ru (gm_aload_n dX11_needleAtRank_0 rfl (by first | exact Or.inl ⟨_, rfl⟩ | exact Or.inr ⟨_, rfl⟩)) ?_
  refine gm_go.ru (gi_const dX11_needleAtRank_1) ?_
  refine gm_go.ru (gm_put dX11_needleAtRank_2 (fp_X11_53 rfl) hM (Nat.le_of_ble_eq_true rfl) (by first | exact ⟨rfl, rfl⟩ | exact trivial)) ?_
  refine gm_hp ha1 ?_
  refine gm_go.ru (gi_const dX11_needleAtRank_5) ?_
  refine gm_go.ru (gm_istore_n (ls' := [_, _, _, _, _]) dX11_needleAtRank_6 (by decide) rfl) ?_
  exact rk_2 M_a1 V_a1 hv hr hc hc8 cn 0 none none (by omega) hq
set_option maxRecDepth 4000 in
theorem rk_2X {h : gm_H} {m cn : Nat} {K F : Nat → Int} {r : Int} (hM : h.1[m]? = some (md_c m K)) (hV : h.1[m + 1]? = some (gA 118 F)) (hv : nd_iv F) (hr : zR r) (hc : F 0 = (cn : Int)) (hc8 : cn ≤ 8) : ∀ (z j : Nat) (x3 x4 : Option Value), j + z = cn → zRk F r z j < 0 → gm_ru mX11_needleAtRank 6 (7, [some (.ref m), some (.int (zI r)), some (.int (zI (j : Int))), x3, x4], [], h) (.inl (some (.int (zI 0)))) (h.1.set m (md_c m (zU K 0 1)), h.2) := by
  intro z
  induction z with
  | zero =>
    intro j x3 x4 hj hz
    obtain rfl : j = cn := by omega
    refine gm_go.ru (gm_iload_n dX11_needleAtRank_7 rfl) ?_
    refine gm_go.ru (gm_aload_n dX11_needleAtRank_8 rfl (by first | exact Or.inl ⟨_, rfl⟩ | exact Or.inr ⟨_, rfl⟩)) ?_
    refine gm_go.ru (gm_get dX11_needleAtRank_9 (fl_X11_16 rfl) hM rfl) ?_
    refine gm_go.ru (gi_const dX11_needleAtRank_12) ?_
    refine gm_go.ru (gi_aldN (a := 0) dX11_needleAtRank_13 hV (by decide) (by decide)) ?_
    rw [hc]
    refine gm_go.ru (gi_icmp_ge_t (tgt := 76) dX11_needleAtRank_14 (by decide) (by omega) (by omega) (by omega)) ?_
    refine gm_go.ru (gm_aload_n dX11_needleAtRank_76 rfl (by first | exact Or.inl ⟨_, rfl⟩ | exact Or.inr ⟨_, rfl⟩)) ?_
    refine gm_go.ru (gi_const dX11_needleAtRank_77) ?_
    refine gm_go.ru (gm_cV dX11_needleAtRank_78 (ct_mFail hM (x := 1)) rfl mt_X11_fail mv_X11_fail (lk_X11_74 rfl) (Or.inl ⟨_, 12, _, _, _, rfl, hM, rfl⟩) rfl (Nat.le_of_ble_eq_true rfl) (by decide)) ?_
    exact gm_iret dX11_needleAtRank_81 rfl
  | succ z ih =>
    intro j x3 x4 hj hz
    have cle := zCA_le F j cn
    rw [zRk, hc, Int.toNat_natCast] at hz
    refine gm_go.ru (gm_iload_n dX11_needleAtRank_7 rfl) ?_
    refine gm_go.ru (gm_aload_n dX11_needleAtRank_8 rfl (by first | exact Or.inl ⟨_, rfl⟩ | exact Or.inr ⟨_, rfl⟩)) ?_
    refine gm_go.ru (gm_get dX11_needleAtRank_9 (fl_X11_16 rfl) hM rfl) ?_
    refine gm_go.ru (gi_const dX11_needleAtRank_12) ?_
    refine gm_go.ru (gi_aldN (a := 0) dX11_needleAtRank_13 hV (by decide) (by decide)) ?_
    rw [hc]
    refine gm_go.ru (gi_icmp_ge_f 76 dX11_needleAtRank_14 (by decide) (by omega) (by omega) (by omega)) ?_
    refine gm_go.ru (gi_const dX11_needleAtRank_17) ?_
    refine gm_go.ru (gm_istore_n (ls' := [_, _, _, _, _]) dX11_needleAtRank_18 (by decide) rfl) ?_
    refine gm_go.ru (gi_const dX11_needleAtRank_19) ?_
    refine gm_go.ru (gm_istore (ls' := [_, _, _, _, _]) dX11_needleAtRank_20 (by decide) rfl) ?_
    refine gm_go.ru (rk_1 (r := r) hM hV hv (i := j) (by omega) hc hc8 cn 0 (by omega)) ?_
    by_cases c : ((zCA F j cn : Nat) : Int) = r
    ·
      rw [if_pos c] at hz; omega
    ·
      rw [if_neg c] at hz
      refine gm_go.ru (gm_iload_n dX11_needleAtRank_63 rfl) ?_
      refine gm_go.ru (gm_iload_n dX11_needleAtRank_64 rfl) ?_
      refine gm_go.ru (gi_icmp_ne_t (tgt := 70) dX11_needleAtRank_65 (by decide) (by omega) (by omega) (by omega)) ?_
      refine gm_go.ru (gi_iinc (ls' := [_, _, _, _, _]) dX11_needleAtRank_70 rfl (by decide) rfl) ?_
      refine gm_go.ru (gm_goto (tgt := 7) dX11_needleAtRank_73 (by decide)) ?_
      exact ih (j + 1) _ _ (by omega) hz
set_option maxRecDepth 4000 in
theorem ct_m_needleAtRankX {h : gm_H} {m : Nat} {K F : Nat → Int} (hM : h.1[m]? = some (md_c m K)) (hV : h.1[m + 1]? = some (gA 118 F)) {r : Int} (hv : nd_iv F) (hr : zR r) (hq : zRk F r (F 0).toNat 0 < 0) : ∃ h', gm_co mX11_needleAtRank 6 [.ref m, .int (zI r)] h (.inl (some (.int (zI (0))))) h' ∧ h'.1[m]? = some (md_c m (zU K 0 1)) ∧ gh_fr h h' (fun k => k = m) := by
  obtain ⟨a1, ha1⟩ : ∃ y : gm_H, y = (h.1.set m (md_c m (zU K 0 0)), h.2) := ⟨_, rfl⟩
  have M_a1 : a1.1[m]? = some (md_c m (zU K 0 0)) := by rw [ha1]; exact gs_s hM
  have V_a1 : a1.1[m + 1]? = some (gA 118 F) := by rw [ha1]; exact gs_n hV (by omega)
  have f_a1 : gh_fr h a1 (fun k => k = m) := by rw [ha1]; exact gh_set (K := fun k => k = m) gh_rf rfl _
  obtain ⟨cn, hc, hc8⟩ := nd_cnt hv
  rw [hc, Int.toNat_natCast] at hq
  refine ⟨(a1.1.set m (md_c m (zU (zU K 0 0) 0 1)), a1.2), ?_, by rw [← zU_zU (x := 0)]; exact gs_s M_a1, gh_set (K := fun k => k = m) f_a1 rfl _⟩
  refine gm_co_of _ (by decide +kernel) rfl (Nat.le_of_ble_eq_true rfl) rfl ?_
  refine gm_go.ru (gm_aload_n dX11_needleAtRank_0 rfl (by first | exact Or.inl ⟨_, rfl⟩ | exact Or.inr ⟨_, rfl⟩)) ?_
  refine gm_go.ru (gi_const dX11_needleAtRank_1) ?_
  refine gm_go.ru (gm_put dX11_needleAtRank_2 (fp_X11_53 rfl) hM (Nat.le_of_ble_eq_true rfl) (by first | exact ⟨rfl, rfl⟩ | exact trivial)) ?_
  refine gm_hp ha1 ?_
  refine gm_go.ru (gi_const dX11_needleAtRank_5) ?_
  refine gm_go.ru (gm_istore_n (ls' := [_, _, _, _, _]) dX11_needleAtRank_6 (by decide) rfl) ?_
  exact rk_2X M_a1 V_a1 hv hr hc hc8 cn 0 none none (by omega) hq
set_option maxRecDepth 4000 in
theorem ct_mIsGood {h : gm_H} {m : Nat} {K F : Nat → Int} (hM : h.1[m]? = some (md_c m K)) (hV : h.1[m + 1]? = some (gA 118 F)) {i : Nat} (hv : nd_iv F) (hi : i < 8) : gm_co mX11_isGood 4 [.ref m, .int (zI (i : Int))] h (.inl (some (.int (zI (zB (zgood F i)))))) h := by
  refine gm_co_of _ (by decide +kernel) rfl (Nat.le_of_ble_eq_true rfl) rfl ?_
  have hg := hv.2.2.2.1 i hi
  unfold zgood
  by_cases c1 : F (11 + 10 * i) = 1
  ·
    rw [show (!decide (F (11 + 10 * i) = 1) && !zW F i) = false by simp [c1]]
    refine gm_go.ru (gm_aload_n dX11_isGood_0 rfl (by first | exact Or.inl ⟨_, rfl⟩ | exact Or.inr ⟨_, rfl⟩)) ?_
    refine gm_go.ru (gm_get dX11_isGood_1 (fl_X11_16 rfl) hM rfl) ?_
    refine gm_go.ru (gm_iload_n dX11_isGood_4 rfl) ?_
    refine gm_go.ru (gi_const dX11_isGood_5) ?_
    refine gm_go.ru (gm_cS dX11_isGood_6 (ct_mOf (i := i) (w := 1)) rfl mt_X11_of ms_X11_of (lk_X11_67 rfl) rfl (Nat.le_of_ble_eq_true rfl) (by decide)) ?_
    rw [show 10 + 10 * i + 1 = 11 + 10 * i by omega]
    refine gm_go.ru (gi_aldN dX11_isGood_9 hV (by omega) (by decide)) ?_
    refine gm_go.ru (gi_if_ne_t (tgt := 25) dX11_isGood_10 (by decide) (by omega) (by omega)) ?_
    refine gm_go.ru (gi_const dX11_isGood_25) ?_
    exact gm_zret' (b := false) dX11_isGood_26 rfl rfl
  ·
    have hbd := ct_mIsBad hM hV hv hi
    cases hb : zW F i
    ·
      rw [hb] at hbd
      rw [show (!decide (F (11 + 10 * i) = 1) && !false) = true by simp [c1]]
      refine gm_go.ru (gm_aload_n dX11_isGood_0 rfl (by first | exact Or.inl ⟨_, rfl⟩ | exact Or.inr ⟨_, rfl⟩)) ?_
      refine gm_go.ru (gm_get dX11_isGood_1 (fl_X11_16 rfl) hM rfl) ?_
      refine gm_go.ru (gm_iload_n dX11_isGood_4 rfl) ?_
      refine gm_go.ru (gi_const dX11_isGood_5) ?_
      refine gm_go.ru (gm_cS dX11_isGood_6 (ct_mOf (i := i) (w := 1)) rfl mt_X11_of ms_X11_of (lk_X11_67 rfl) rfl (Nat.le_of_ble_eq_true rfl) (by decide)) ?_
      rw [show 10 + 10 * i + 1 = 11 + 10 * i by omega]
      refine gm_go.ru (gi_aldN dX11_isGood_9 hV (by omega) (by decide)) ?_
      refine gm_go.ru (gi_if_ne_f 25 dX11_isGood_10 (by decide) (by omega) (by omega)) ?_
      refine gm_go.ru (gm_aload_n dX11_isGood_13 rfl (by first | exact Or.inl ⟨_, rfl⟩ | exact Or.inr ⟨_, rfl⟩)) ?_
      refine gm_go.ru (gm_iload_n dX11_isGood_14 rfl) ?_
      refine gm_go.ru (gm_cV dX11_isGood_15 (hbd) rfl mt_X11_isBad mv_X11_isBad (lk_X11_117 rfl) (Or.inl ⟨_, 12, _, _, _, rfl, hM, rfl⟩) rfl (Nat.le_of_ble_eq_true rfl) (by decide)) ?_
      refine gm_go.ru (gi_if_ne_f 25 dX11_isGood_18 (by decide) (by decide) rfl) ?_
      refine gm_go.ru (gi_const dX11_isGood_21) ?_
      refine gm_go.ru (gm_goto (tgt := 26) dX11_isGood_22 (by decide)) ?_
      exact gm_zret' (b := true) dX11_isGood_26 rfl rfl
    ·
      rw [hb] at hbd
      rw [show (!decide (F (11 + 10 * i) = 1) && !true) = false by simp]
      refine gm_go.ru (gm_aload_n dX11_isGood_0 rfl (by first | exact Or.inl ⟨_, rfl⟩ | exact Or.inr ⟨_, rfl⟩)) ?_
      refine gm_go.ru (gm_get dX11_isGood_1 (fl_X11_16 rfl) hM rfl) ?_
      refine gm_go.ru (gm_iload_n dX11_isGood_4 rfl) ?_
      refine gm_go.ru (gi_const dX11_isGood_5) ?_
      refine gm_go.ru (gm_cS dX11_isGood_6 (ct_mOf (i := i) (w := 1)) rfl mt_X11_of ms_X11_of (lk_X11_67 rfl) rfl (Nat.le_of_ble_eq_true rfl) (by decide)) ?_
      rw [show 10 + 10 * i + 1 = 11 + 10 * i by omega]
      refine gm_go.ru (gi_aldN dX11_isGood_9 hV (by omega) (by decide)) ?_
      refine gm_go.ru (gi_if_ne_f 25 dX11_isGood_10 (by decide) (by omega) (by omega)) ?_
      refine gm_go.ru (gm_aload_n dX11_isGood_13 rfl (by first | exact Or.inl ⟨_, rfl⟩ | exact Or.inr ⟨_, rfl⟩)) ?_
      refine gm_go.ru (gm_iload_n dX11_isGood_14 rfl) ?_
      refine gm_go.ru (gm_cV dX11_isGood_15 (hbd) rfl mt_X11_isBad mv_X11_isBad (lk_X11_117 rfl) (Or.inl ⟨_, 12, _, _, _, rfl, hM, rfl⟩) rfl (Nat.le_of_ble_eq_true rfl) (by decide)) ?_
      refine gm_go.ru (gi_if_ne_t (tgt := 25) dX11_isGood_18 (by decide) (by decide) (by decide)) ?_
      refine gm_go.ru (gi_const dX11_isGood_25) ?_
      exact gm_zret' (b := false) dX11_isGood_26 rfl rfl
set_option maxRecDepth 4000 in
theorem ct_mGood {h : gm_H} {m : Nat} {K F : Nat → Int} (hM : h.1[m]? = some (md_c m K)) (hV : h.1[m + 1]? = some (gA 118 F)) (hv : nd_iv F) : gm_co mX11_good 5 [.ref m] h (.inl (some (.int (zI ((zGd F : Nat) : Int))))) h := by
  refine gm_co_of _ (by decide +kernel) rfl (Nat.le_of_ble_eq_true rfl) rfl ?_
  obtain ⟨cn, hc, hc8⟩ := nd_cnt hv
  unfold zGd
  rw [hc, Int.toNat_natCast]
  have key : ∀ (z j : Nat), j + z = cn → gm_ru mX11_good 5 (4, [some (.ref m), some (.int (zI ((zGS F j : Nat) : Int))), some (.int (zI (j : Int)))], [], h) (.inl (some (.int (zI ((zGS F cn : Nat) : Int))))) h := by
    intro z
    induction z with
    | zero =>
      intro j hj
      obtain rfl : j = cn := by omega
      refine gm_go.ru (gm_iload_n dX11_good_4 rfl) ?_
      refine gm_go.ru (gm_aload_n dX11_good_5 rfl (by first | exact Or.inl ⟨_, rfl⟩ | exact Or.inr ⟨_, rfl⟩)) ?_
      refine gm_go.ru (gm_get dX11_good_6 (fl_X11_16 rfl) hM rfl) ?_
      refine gm_go.ru (gi_const dX11_good_9) ?_
      refine gm_go.ru (gi_aldN (a := 0) dX11_good_10 hV (by decide) (by decide)) ?_
      rw [hc]
      refine gm_go.ru (gi_icmp_ge_t (tgt := 38) dX11_good_11 (by decide) (by omega) (by omega) (by omega)) ?_
      refine gm_go.ru (gm_iload_n dX11_good_38 rfl) ?_
      exact gm_iret dX11_good_39 rfl
    | succ z ih =>
      intro j hj
      have hlt := zGS_lt F j
      have e := ih (j + 1) (by omega)
      rw [zGS] at e
      have hgd := ct_mIsGood hM hV hv (i := j) (by omega)
      cases hb : zgood F j
      ·
        rw [hb] at hgd e
        refine gm_go.ru (gm_iload_n dX11_good_4 rfl) ?_
        refine gm_go.ru (gm_aload_n dX11_good_5 rfl (by first | exact Or.inl ⟨_, rfl⟩ | exact Or.inr ⟨_, rfl⟩)) ?_
        refine gm_go.ru (gm_get dX11_good_6 (fl_X11_16 rfl) hM rfl) ?_
        refine gm_go.ru (gi_const dX11_good_9) ?_
        refine gm_go.ru (gi_aldN (a := 0) dX11_good_10 hV (by decide) (by decide)) ?_
        rw [hc]
        refine gm_go.ru (gi_icmp_ge_f 38 dX11_good_11 (by decide) (by omega) (by omega) (by omega)) ?_
        refine gm_go.ru (gm_iload_n dX11_good_14 rfl) ?_
        refine gm_go.ru (gm_aload_n dX11_good_15 rfl (by first | exact Or.inl ⟨_, rfl⟩ | exact Or.inr ⟨_, rfl⟩)) ?_
        refine gm_go.ru (gm_iload_n dX11_good_16 rfl) ?_
        refine gm_go.ru (gm_cV dX11_good_17 (hgd) rfl mt_X11_isGood mv_X11_isGood (lk_X11_150 rfl) (Or.inl ⟨_, 12, _, _, _, rfl, hM, rfl⟩) rfl (Nat.le_of_ble_eq_true rfl) (by decide)) ?_
        refine gm_go.ru (gi_if_eq_t (tgt := 29) dX11_good_20 (by decide) (by decide) rfl) ?_
        refine gm_go.ru (gi_const dX11_good_29) ?_
        refine gm_go.ru (gi_or (b := 0) dX11_good_30) ?_
        rw [Nat.or_zero]
        rw [if_neg (by decide), Nat.add_zero] at e
        refine gm_go.ru (gm_istore_n (ls' := [_, _, _]) dX11_good_31 (by decide) rfl) ?_
        refine gm_go.ru (gi_iinc (ls' := [_, _, _]) dX11_good_32 rfl (by decide) rfl) ?_
        refine gm_go.ru (gm_goto (tgt := 4) dX11_good_35 (by decide)) ?_
        exact e
      ·
        rw [hb] at hgd e
        refine gm_go.ru (gm_iload_n dX11_good_4 rfl) ?_
        refine gm_go.ru (gm_aload_n dX11_good_5 rfl (by first | exact Or.inl ⟨_, rfl⟩ | exact Or.inr ⟨_, rfl⟩)) ?_
        refine gm_go.ru (gm_get dX11_good_6 (fl_X11_16 rfl) hM rfl) ?_
        refine gm_go.ru (gi_const dX11_good_9) ?_
        refine gm_go.ru (gi_aldN (a := 0) dX11_good_10 hV (by decide) (by decide)) ?_
        rw [hc]
        refine gm_go.ru (gi_icmp_ge_f 38 dX11_good_11 (by decide) (by omega) (by omega) (by omega)) ?_
        refine gm_go.ru (gm_iload_n dX11_good_14 rfl) ?_
        refine gm_go.ru (gm_aload_n dX11_good_15 rfl (by first | exact Or.inl ⟨_, rfl⟩ | exact Or.inr ⟨_, rfl⟩)) ?_
        refine gm_go.ru (gm_iload_n dX11_good_16 rfl) ?_
        refine gm_go.ru (gm_cV dX11_good_17 (hgd) rfl mt_X11_isGood mv_X11_isGood (lk_X11_150 rfl) (Or.inl ⟨_, 12, _, _, _, rfl, hM, rfl⟩) rfl (Nat.le_of_ble_eq_true rfl) (by decide)) ?_
        refine gm_go.ru (gi_if_eq_f 29 dX11_good_20 (by decide) (by decide) (by decide)) ?_
        refine gm_go.ru (gi_const dX11_good_23) ?_
        refine gm_go.ru (gm_iload_n dX11_good_24 rfl) ?_
        refine gm_go.ru (gi_shl1 dX11_good_25 (by omega)) ?_
        refine gm_go.ru (gm_goto (tgt := 30) dX11_good_26 (by decide)) ?_
        refine gm_go.ru (gi_or dX11_good_30) ?_
        rw [if_pos rfl] at e
        have e2 : zGS F j ||| 2 ^ j = zGS F j + 2 ^ j := by have := Nat.two_pow_add_eq_or_of_lt hlt 1; rw [Nat.mul_one] at this; rw [Nat.or_comm, ← this, Nat.add_comm]
        rw [e2]
        refine gm_go.ru (gm_istore_n (ls' := [_, _, _]) dX11_good_31 (by decide) rfl) ?_
        refine gm_go.ru (gi_iinc (ls' := [_, _, _]) dX11_good_32 rfl (by decide) rfl) ?_
        refine gm_go.ru (gm_goto (tgt := 4) dX11_good_35 (by decide)) ?_
        exact e
  refine gm_go.ru (gi_const dX11_good_0) ?_
  refine gm_go.ru (gm_istore_n (ls' := [_, _, _]) dX11_good_1 (by decide) rfl) ?_
  refine gm_go.ru (gi_const dX11_good_2) ?_
  refine gm_go.ru (gm_istore_n (ls' := [_, _, _]) dX11_good_3 (by decide) rfl) ?_
  exact key cn 0 (by omega)
theorem zPC_and : ∀ L : Nat, L < 256 → L ≠ 0 → zPC (L &&& (L - 1)) + 1 = zPC L ∧ (L &&& (L - 1)) < 256 := by decide +kernel
set_option maxRecDepth 4000 in
theorem ct_mCount {h : gm_H} {S : Nat} (hS : S < 256) : gm_co mX11_count 1 [.int (zI (S : Int))] h (.inl (some (.int (zI ((zPC S : Nat) : Int))))) h := by
  refine gm_co_of _ (by decide +kernel) rfl (Nat.le_of_ble_eq_true rfl) rfl ?_
  have key : ∀ (z L c : Nat), L < 256 → zPC L = z → c + z = zPC S → gm_ru mX11_count 1 (4, [some (.int (zI ((S : Nat) : Int))), some (.int (zI (c : Int))), some (.int (zI (L : Int)))], [], h) (.inl (some (.int (zI ((zPC S : Nat) : Int))))) h := by
    intro z
    induction z with
    | zero =>
      intro L c hL hz hc
      have p8 := zPC_8 S hS
      have hl := (zPC_8 L hL).2.mp hz
      subst hl
      obtain rfl : c = zPC S := by omega
      refine gm_go.ru (gm_iload_n dX11_count_4 rfl) ?_
      refine gm_go.ru (gi_if_eq_t (tgt := 20) dX11_count_5 (by decide) (by decide) rfl) ?_
      refine gm_go.ru (gm_iload_n dX11_count_20 rfl) ?_
      exact gm_iret dX11_count_21 rfl
    | succ z ih =>
      intro L c hL hz hc
      have p8 := zPC_8 S hS
      have l0 : L ≠ 0 := fun e => by have := (zPC_8 L hL).2.mpr e; omega
      obtain ⟨a1, a2⟩ := zPC_and L hL l0
      refine gm_go.ru (gm_iload_n dX11_count_4 rfl) ?_
      refine gm_go.ru (gi_if_eq_f 20 dX11_count_5 (by decide) (by omega) (by omega)) ?_
      refine gm_go.ru (gi_iinc (ls' := [_, _, _]) dX11_count_8 rfl (by decide) rfl) ?_
      refine gm_go.ru (gm_iload_n dX11_count_11 rfl) ?_
      refine gm_go.ru (gm_iload_n dX11_count_12 rfl) ?_
      refine gm_go.ru (gi_const dX11_count_13) ?_
      refine gm_go.ru (gi_sub dX11_count_14) ?_
      rw [show (L : Int) - 1 = ((L - 1 : Nat) : Int) by omega]
      refine gm_go.ru (gi_and (a := L) (b := L - 1) dX11_count_15) ?_
      refine gm_go.ru (gm_istore_n (ls' := [_, _, _]) dX11_count_16 (by decide) rfl) ?_
      refine gm_go.ru (gm_goto (tgt := 4) dX11_count_17 (by decide)) ?_
      exact ih _ (c + 1) a2 (by omega) (by omega)
  refine gm_go.ru (gi_const dX11_count_0) ?_
  refine gm_go.ru (gm_istore_n (ls' := [_, _, _]) dX11_count_1 (by decide) rfl) ?_
  refine gm_go.ru (gm_iload_n dX11_count_2 rfl) ?_
  refine gm_go.ru (gm_istore_n (ls' := [_, _, _]) dX11_count_3 (by decide) rfl) ?_
  exact key (zPC S) S 0 hS rfl (by omega)
set_option maxRecDepth 4000 in
theorem ct_m_goodCount {h : gm_H} {m : Nat} {K F : Nat → Int} (hM : h.1[m]? = some (md_c m K)) (hV : h.1[m + 1]? = some (gA 118 F)) (hv : nd_iv F) : ∃ h', gm_co mX11_goodCount 6 [.ref m] h (.inl (some (.int (zI ((zPC (zGd F) : Nat)))))) h' ∧ h'.1[m]? = some (md_c m (zU K 0 0)) ∧ gh_fr h h' (fun k => k = m) := by
  obtain ⟨a1, ha1⟩ : ∃ y : gm_H, y = (h.1.set m (md_c m (zU K 0 0)), h.2) := ⟨_, rfl⟩
  have M_a1 : a1.1[m]? = some (md_c m (zU K 0 0)) := by rw [ha1]; exact gs_s hM
  have V_a1 : a1.1[m + 1]? = some (gA 118 F) := by rw [ha1]; exact gs_n hV (by omega)
  have f_a1 : gh_fr h a1 (fun k => k = m) := by rw [ha1]; exact gh_set (K := fun k => k = m) gh_rf rfl _
  refine ⟨a1, ?_, M_a1, f_a1⟩
  refine gm_co_of _ (by decide +kernel) rfl (Nat.le_of_ble_eq_true rfl) rfl ?_
  refine gm_go.ru (gm_aload_n dX11_goodCount_0 rfl (by first | exact Or.inl ⟨_, rfl⟩ | exact Or.inr ⟨_, rfl⟩)) ?_
  refine gm_go.ru (gi_const dX11_goodCount_1) ?_
  refine gm_go.ru (gm_put dX11_goodCount_2 (fp_X11_53 rfl) hM (Nat.le_of_ble_eq_true rfl) (by first | exact ⟨rfl, rfl⟩ | exact trivial)) ?_
  refine gm_hp ha1 ?_
  refine gm_go.ru (gm_aload_n dX11_goodCount_5 rfl (by first | exact Or.inl ⟨_, rfl⟩ | exact Or.inr ⟨_, rfl⟩)) ?_
  refine gm_go.ru (gm_cV dX11_goodCount_6 (ct_mGood M_a1 V_a1 hv) rfl mt_X11_good mv_X11_good (lk_X11_153 rfl) (Or.inl ⟨_, 12, _, _, _, rfl, M_a1, rfl⟩) rfl (Nat.le_of_ble_eq_true rfl) (by decide)) ?_
  refine gm_go.ru (gm_cS dX11_goodCount_9 (ct_mCount (zGd_lt hv)) rfl mt_X11_count ms_X11_count (lk_X11_157 rfl) rfl (Nat.le_of_ble_eq_true rfl) (by decide)) ?_
  exact gm_iret dX11_goodCount_12 rfl
theorem z_tb (S k : Nat) : S / 2 ^ k % 2 = if S.testBit k then 1 else 0 := by
  rw [Nat.testBit_eq_decide_div_mod_eq]
  by_cases e : S / 2 ^ k % 2 = 1
  · simp [e]
  · simp [e]; omega
set_option maxRecDepth 4000 in
theorem me_1 {h : gm_H} {m cn : Nat} {K F : Nat → Int} (hM : h.1[m]? = some (md_c m K)) (hV : h.1[m + 1]? = some (gA 118 F)) (hv : nd_iv F) (hc : F 0 = (cn : Int)) (hc8 : cn ≤ 8) : ∀ z j : Nat, j + z = cn → gm_go mX11_meanError 6 (22, [some (.ref m), some (.int (zI ((zGd F : Nat) : Int))), some (.int (zI (zMs F j))), some (.int (zI (j : Int)))], [], h) (60, [some (.ref m), some (.int (zI ((zGd F : Nat) : Int))), some (.int (zI (zMs F cn))), some (.int (zI (cn : Int)))], [], h) := by
  intro z
  induction z with
  | zero =>
    intro j hj
    obtain rfl : j = cn := by omega
    refine gm_go_tr (gm_iload_n dX11_meanError_22 rfl) ?_
    refine gm_go_tr (gm_aload_n dX11_meanError_23 rfl (by first | exact Or.inl ⟨_, rfl⟩ | exact Or.inr ⟨_, rfl⟩)) ?_
    refine gm_go_tr (gm_get dX11_meanError_24 (fl_X11_16 rfl) hM rfl) ?_
    refine gm_go_tr (gi_const dX11_meanError_27) ?_
    refine gm_go_tr (gi_aldN (a := 0) dX11_meanError_28 hV (by decide) (by decide)) ?_
    rw [hc]
    refine gm_go_tr (gi_icmp_ge_t (tgt := 60) dX11_meanError_29 (by decide) (by omega) (by omega) (by omega)) ?_
    exact gm_go_rf
  | succ z ih =>
    intro j hj
    have g8 := zGd_lt hv
    have hn := ih (j + 1) (by omega)
    rw [zMs] at hn
    have tb := z_tb (zGd F) j
    have er := zE0 hv (i := j) (by omega)
    have ms := zMs_r hv j (by omega)
    cases hb : (zGd F).testBit j
    ·
      rw [hb] at hn tb
      rw [if_neg (by decide)] at hn tb
      rw [Int.add_zero] at hn
      refine gm_go_tr (gm_iload_n dX11_meanError_22 rfl) ?_
      refine gm_go_tr (gm_aload_n dX11_meanError_23 rfl (by first | exact Or.inl ⟨_, rfl⟩ | exact Or.inr ⟨_, rfl⟩)) ?_
      refine gm_go_tr (gm_get dX11_meanError_24 (fl_X11_16 rfl) hM rfl) ?_
      refine gm_go_tr (gi_const dX11_meanError_27) ?_
      refine gm_go_tr (gi_aldN (a := 0) dX11_meanError_28 hV (by decide) (by decide)) ?_
      rw [hc]
      refine gm_go_tr (gi_icmp_ge_f 60 dX11_meanError_29 (by decide) (by omega) (by omega) (by omega)) ?_
      refine gm_go_tr (gm_iload_n dX11_meanError_32 rfl) ?_
      refine gm_go_tr (gm_iload_n dX11_meanError_33 rfl) ?_
      refine gm_go_tr (gm_iload_n dX11_meanError_34 rfl) ?_
      refine gm_go_tr (gi_shr dX11_meanError_35 (by omega) (by omega)) ?_
      refine gm_go_tr (gi_const dX11_meanError_36) ?_
      refine gm_go_tr (gi_and1 dX11_meanError_37) ?_
      rw [tb]
      refine gm_go_tr (gi_const dX11_meanError_38) ?_
      refine gm_go_tr (gi_icmp_ne_t (tgt := 51) dX11_meanError_39 (by decide) (by decide) (by decide) (by decide)) ?_
      refine gm_go_tr (gi_const dX11_meanError_51) ?_
      refine gm_go_tr (gi_add dX11_meanError_52) ?_
      refine gm_go_tr (gm_istore_n (ls' := [_, _, _, _]) dX11_meanError_53 (by decide) rfl) ?_
      rw [Int.add_zero]
      refine gm_go_tr (gi_iinc (ls' := [_, _, _, _]) dX11_meanError_54 rfl (by decide) rfl) ?_
      refine gm_go_tr (gm_goto (tgt := 22) dX11_meanError_57 (by decide)) ?_
      exact hn
    ·
      rw [hb] at hn tb
      rw [if_pos rfl] at hn tb
      refine gm_go_tr (gm_iload_n dX11_meanError_22 rfl) ?_
      refine gm_go_tr (gm_aload_n dX11_meanError_23 rfl (by first | exact Or.inl ⟨_, rfl⟩ | exact Or.inr ⟨_, rfl⟩)) ?_
      refine gm_go_tr (gm_get dX11_meanError_24 (fl_X11_16 rfl) hM rfl) ?_
      refine gm_go_tr (gi_const dX11_meanError_27) ?_
      refine gm_go_tr (gi_aldN (a := 0) dX11_meanError_28 hV (by decide) (by decide)) ?_
      rw [hc]
      refine gm_go_tr (gi_icmp_ge_f 60 dX11_meanError_29 (by decide) (by omega) (by omega) (by omega)) ?_
      refine gm_go_tr (gm_iload_n dX11_meanError_32 rfl) ?_
      refine gm_go_tr (gm_iload_n dX11_meanError_33 rfl) ?_
      refine gm_go_tr (gm_iload_n dX11_meanError_34 rfl) ?_
      refine gm_go_tr (gi_shr dX11_meanError_35 (by omega) (by omega)) ?_
      refine gm_go_tr (gi_const dX11_meanError_36) ?_
      refine gm_go_tr (gi_and1 dX11_meanError_37) ?_
      rw [tb]
      refine gm_go_tr (gi_const dX11_meanError_38) ?_
      refine gm_go_tr (gi_icmp_ne_f 51 dX11_meanError_39 (by decide) (by decide) (by decide) rfl) ?_
      refine gm_go_tr (gm_aload_n dX11_meanError_42 rfl (by first | exact Or.inl ⟨_, rfl⟩ | exact Or.inr ⟨_, rfl⟩)) ?_
      refine gm_go_tr (gm_iload_n dX11_meanError_43 rfl) ?_
      refine gm_go_tr (gi_const dX11_meanError_44) ?_
      refine gm_go_tr (gm_cV dX11_meanError_45 (ct_mError hM hV (by omega)) rfl mt_X11_error mv_X11_error (lk_X11_102 rfl) (Or.inl ⟨_, 12, _, _, _, rfl, hM, rfl⟩) rfl (Nat.le_of_ble_eq_true rfl) (by decide)) ?_
      refine gm_go_tr (gm_goto (tgt := 52) dX11_meanError_48 (by decide)) ?_
      refine gm_go_tr (gi_add dX11_meanError_52) ?_
      refine gm_go_tr (gm_istore_n (ls' := [_, _, _, _]) dX11_meanError_53 (by decide) rfl) ?_
      refine gm_go_tr (gi_iinc (ls' := [_, _, _, _]) dX11_meanError_54 rfl (by decide) rfl) ?_
      refine gm_go_tr (gm_goto (tgt := 22) dX11_meanError_57 (by decide)) ?_
      exact hn
set_option maxRecDepth 4000 in
theorem ct_m_meanError {h : gm_H} {m : Nat} {K F : Nat → Int} (hM : h.1[m]? = some (md_c m K)) (hV : h.1[m + 1]? = some (gA 118 F)) (hv : nd_iv F) (hq : zGd F ≠ 0) : ∃ h', gm_co mX11_meanError 6 [.ref m] h (.inl (some (.double (zMean F)))) h' ∧ h'.1[m]? = some (md_c m (zU K 0 0)) ∧ gh_fr h h' (fun k => k = m) := by
  obtain ⟨cn, hc, hc8⟩ := nd_cnt hv
  have g8 := zGd_lt hv
  obtain ⟨a1, ha1⟩ : ∃ y : gm_H, y = (h.1.set m (md_c m (zU K 0 0)), h.2) := ⟨_, rfl⟩
  have M_a1 : a1.1[m]? = some (md_c m (zU K 0 0)) := by rw [ha1]; exact gs_s hM
  have V_a1 : a1.1[m + 1]? = some (gA 118 F) := by rw [ha1]; exact gs_n hV (by omega)
  have f_a1 : gh_fr h a1 (fun k => k = m) := by rw [ha1]; exact gh_set (K := fun k => k = m) gh_rf rfl _
  refine ⟨a1, ?_, M_a1, f_a1⟩
  refine gm_co_of _ (by decide +kernel) rfl (Nat.le_of_ble_eq_true rfl) rfl ?_
  refine gm_go.ru (gm_aload_n dX11_meanError_0 rfl (by first | exact Or.inl ⟨_, rfl⟩ | exact Or.inr ⟨_, rfl⟩)) ?_
  refine gm_go.ru (gm_cV dX11_meanError_1 (ct_mGood hM hV hv) rfl mt_X11_good mv_X11_good (lk_X11_153 rfl) (Or.inl ⟨_, 12, _, _, _, rfl, hM, rfl⟩) rfl (Nat.le_of_ble_eq_true rfl) (by decide)) ?_
  refine gm_go.ru (gm_istore_n (ls' := [_, _, _, _]) dX11_meanError_4 (by decide) rfl) ?_
  refine gm_go.ru (gi_const dX11_meanError_5) ?_
  refine gm_go.ru (gm_istore_n (ls' := [_, _, _, _]) dX11_meanError_6 (by decide) rfl) ?_
  refine gm_go.ru (gm_aload_n dX11_meanError_7 rfl (by first | exact Or.inl ⟨_, rfl⟩ | exact Or.inr ⟨_, rfl⟩)) ?_
  refine gm_go.ru (gm_iload_n dX11_meanError_8 rfl) ?_
  refine gm_go.ru (gi_if_ne_t (tgt := 16) dX11_meanError_9 (by decide) (by omega) (by omega)) ?_
  refine gm_go.ru (gi_const dX11_meanError_16) ?_
  refine gm_go.ru (gm_put dX11_meanError_17 (fp_X11_53 rfl) hM (Nat.le_of_ble_eq_true rfl) (by first | exact ⟨rfl, rfl⟩ | exact trivial)) ?_
  refine gm_hp ha1 ?_
  refine gm_go.ru (gi_const dX11_meanError_20) ?_
  refine gm_go.ru (gm_istore_n (ls' := [_, _, _, _]) dX11_meanError_21 (by decide) rfl) ?_
  refine gm_go.ru (me_1 M_a1 V_a1 hv hc hc8 cn 0 (by omega)) ?_
  have nn := (zMean_n hv hq).1
  refine gm_go.ru (gm_aload_n dX11_meanError_60 rfl (by first | exact Or.inl ⟨_, rfl⟩ | exact Or.inr ⟨_, rfl⟩)) ?_
  refine gm_go.ru (gm_get dX11_meanError_61 (fl_X11_53 rfl) M_a1 rfl) ?_
  refine gm_go.ru (gi_if_ne_f 78 dX11_meanError_64 (by decide) (by rw [zU_s]; decide) zU_s) ?_
  refine gm_go.ru (gm_iload_n dX11_meanError_67 rfl) ?_
  refine gm_go.ru (gm_i2d dX11_meanError_68) ?_
  refine gm_go.ru (gm_iload_n dX11_meanError_69 rfl) ?_
  refine gm_go.ru (gm_cS dX11_meanError_70 (ct_mCount g8) rfl mt_X11_count ms_X11_count (lk_X11_157 rfl) rfl (Nat.le_of_ble_eq_true rfl) (by decide)) ?_
  refine gm_go.ru (gm_i2d dX11_meanError_73) ?_
  unfold zMean at nn ⊢
  rw [hc, Int.toNat_natCast] at nn ⊢
  refine gm_go.ru (gm_ddiv nn dX11_meanError_74) ?_
  refine gm_go.ru (gm_goto (tgt := 79) dX11_meanError_75 (by decide)) ?_
  exact gm_dret dX11_meanError_79 rfl
set_option maxRecDepth 4000 in
theorem ct_m_meanErrorX {h : gm_H} {m : Nat} {K F : Nat → Int} (hM : h.1[m]? = some (md_c m K)) (hV : h.1[m + 1]? = some (gA 118 F)) (hv : nd_iv F) (hq : zGd F = 0) : ∃ h', gm_co mX11_meanError 6 [.ref m] h (.inl (some (.double 0))) h' ∧ h'.1[m]? = some (md_c m (zU K 0 1)) ∧ gh_fr h h' (fun k => k = m) := by
  obtain ⟨cn, hc, hc8⟩ := nd_cnt hv
  have g8 := zGd_lt hv
  obtain ⟨a1, ha1⟩ : ∃ y : gm_H, y = (h.1.set m (md_c m (zU K 0 1)), h.2) := ⟨_, rfl⟩
  have M_a1 : a1.1[m]? = some (md_c m (zU K 0 1)) := by rw [ha1]; exact gs_s hM
  have V_a1 : a1.1[m + 1]? = some (gA 118 F) := by rw [ha1]; exact gs_n hV (by omega)
  have f_a1 : gh_fr h a1 (fun k => k = m) := by rw [ha1]; exact gh_set (K := fun k => k = m) gh_rf rfl _
  refine ⟨a1, ?_, M_a1, f_a1⟩
  refine gm_co_of _ (by decide +kernel) rfl (Nat.le_of_ble_eq_true rfl) rfl ?_
  refine gm_go.ru (gm_aload_n dX11_meanError_0 rfl (by first | exact Or.inl ⟨_, rfl⟩ | exact Or.inr ⟨_, rfl⟩)) ?_
  refine gm_go.ru (gm_cV dX11_meanError_1 (ct_mGood hM hV hv) rfl mt_X11_good mv_X11_good (lk_X11_153 rfl) (Or.inl ⟨_, 12, _, _, _, rfl, hM, rfl⟩) rfl (Nat.le_of_ble_eq_true rfl) (by decide)) ?_
  refine gm_go.ru (gm_istore_n (ls' := [_, _, _, _]) dX11_meanError_4 (by decide) rfl) ?_
  refine gm_go.ru (gi_const dX11_meanError_5) ?_
  refine gm_go.ru (gm_istore_n (ls' := [_, _, _, _]) dX11_meanError_6 (by decide) rfl) ?_
  refine gm_go.ru (gm_aload_n dX11_meanError_7 rfl (by first | exact Or.inl ⟨_, rfl⟩ | exact Or.inr ⟨_, rfl⟩)) ?_
  refine gm_go.ru (gm_iload_n dX11_meanError_8 rfl) ?_
  refine gm_go.ru (gi_if_ne_f 16 dX11_meanError_9 (by decide) (by omega) (by omega)) ?_
  refine gm_go.ru (gi_const dX11_meanError_12) ?_
  refine gm_go.ru (gm_goto (tgt := 17) dX11_meanError_13 (by decide)) ?_
  refine gm_go.ru (gm_put dX11_meanError_17 (fp_X11_53 rfl) hM (Nat.le_of_ble_eq_true rfl) (by first | exact ⟨rfl, rfl⟩ | exact trivial)) ?_
  refine gm_hp ha1 ?_
  refine gm_go.ru (gi_const dX11_meanError_20) ?_
  refine gm_go.ru (gm_istore_n (ls' := [_, _, _, _]) dX11_meanError_21 (by decide) rfl) ?_
  refine gm_go.ru (me_1 M_a1 V_a1 hv hc hc8 cn 0 (by omega)) ?_
  refine gm_go.ru (gm_aload_n dX11_meanError_60 rfl (by first | exact Or.inl ⟨_, rfl⟩ | exact Or.inr ⟨_, rfl⟩)) ?_
  refine gm_go.ru (gm_get dX11_meanError_61 (fl_X11_53 rfl) M_a1 rfl) ?_
  refine gm_go.ru (gi_if_ne_t (tgt := 78) dX11_meanError_64 (by decide) (by rw [zU_s]; decide) (by rw [zU_s]; decide)) ?_
  refine gm_go.ru (gm_dconst0 dX11_meanError_78) ?_
  exact gm_dret dX11_meanError_79 rfl
