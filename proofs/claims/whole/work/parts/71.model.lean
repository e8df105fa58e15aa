/-- how the checked calls number what they refuse -/
def zCd (w y : Nat) : Int := match w, y with
  | 0, 2 => 1 | 0, 4 => 2 | 1, 1 => 1 | 1, 2 => 2 | 1, 3 => 3 | 2, 1 => 1 | 2, 2 => 2 | 2, 3 => 3 | 2, 5 => 4 | 3, 1 => 1 | 3, 3 => 2 | 3, 5 => 3
  | 4, 1 => 1 | 4, 3 => 2 | 5, 2 => 1 | 6, 2 => 1 | 6, 4 => 2 | 7, 6 => 1 | 8, 6 => 1 | 9, 2 => 1 | _, _ => 0
theorem gi_zand {M : gm_M} {d pc : Nat} {ls : List (Option Value)} {st : List Value} {h : gm_H} {p q : Bool} (hd : decode M.2.1 pc = .ok (.iand, 1)) : gm_go M d (pc, ls, .int (zI (zB q)) :: .int (zI (zB p)) :: st, h) (pc + 1, ls, .int (zI (zB (p && q))) :: st, h) := by
  have h9 := gm_iand (st := st) (ls := ls) (d := d) (h := h) (x := zI (zB p)) (y := zI (zB q)) hd
  rw [show zI (zB p) &&& zI (zB q) = zI (zB (p && q)) by cases p <;> cases q <;> decide] at h9
  exact h9
set_option maxRecDepth 4000 in
theorem ct_maddsX {h : gm_H} {m : Nat} {K F : Nat → Int} (hM : h.1[m]? = some (md_c m K)) (hV : h.1[m + 1]? = some (gA 118 F)) {T : Nat} {a b c : Int} (hv : st_iv T F) (ha : zR a) (hq : zqWhy F 0 a 0 0 ≠ 0) : ∃ h' F', gm_co mX11_adds 2 [.ref m, .int (zI a)] h (.inl (some (.int (zI 0)))) h' ∧ h'.1[m]? = some (md_c m (zU K 0 (zCd 0 (zqWhy F 0 a 0 0)))) ∧ h'.1[m + 1]? = some (gA 118 F') ∧ gh_fr h h' (fun k => k = m ∨ k = m + 1) := by
  have f0 := hv.1.1
  unfold zqWhy zqAdd at *
  simp only at *
  by_cases c1 : a < 1 ∨ 99 < a
  ·
    rw [if_pos c1]
    refine ⟨(h.1.set m (md_c m (zU K 0 1)), h.2), F, ?_, gs_s hM, gs_n hV (by omega), gh_set gh_rf (Or.inl rfl) _⟩
    refine gm_co_of _ (by decide +kernel) rfl (Nat.le_of_ble_eq_true rfl) rfl ?_
    refine gm_go.ru (gm_iload_n dX11_adds_0 rfl) ?_
    refine gm_go.ru (gi_const dX11_adds_1) ?_
    refine gm_go.ru (gi_bipush dX11_adds_2 (by decide +kernel)) ?_
    refine gm_go.ru (gm_cS dX11_adds_4 (ct_mIsIn ha (by decide) (by decide)) rfl mt_X11_isIn ms_X11_isIn (lk_X11_63 rfl) rfl (Nat.le_of_ble_eq_true rfl) (by decide)) ?_
    rw [zB_f (show ¬ (1 ≤ a ∧ a ≤ 99) by omega)]
    refine gm_go.ru (gi_if_ne_f 16 dX11_adds_7 (by decide) (by decide) rfl) ?_
    refine gm_go.ru (gm_aload_n dX11_adds_10 rfl (by first | exact Or.inl ⟨_, rfl⟩ | exact Or.inr ⟨_, rfl⟩)) ?_
    refine gm_go.ru (gi_const dX11_adds_11) ?_
    refine gm_go.ru (gm_cV dX11_adds_12 (ct_mFail hM (x := 1)) rfl mt_X11_fail mv_X11_fail (lk_X11_74 rfl) (Or.inl ⟨_, 12, _, _, _, rfl, hM, rfl⟩) rfl (Nat.le_of_ble_eq_true rfl) (by decide)) ?_
    exact gm_iret dX11_adds_15 rfl
  ·
    rw [if_neg c1] at hq ⊢
    by_cases c2 : 8 ≤ F 0
    ·
      rw [if_pos c2]
      refine ⟨(h.1.set m (md_c m (zU K 0 2)), h.2), F, ?_, gs_s hM, gs_n hV (by omega), gh_set gh_rf (Or.inl rfl) _⟩
      refine gm_co_of _ (by decide +kernel) rfl (Nat.le_of_ble_eq_true rfl) rfl ?_
      refine gm_go.ru (gm_iload_n dX11_adds_0 rfl) ?_
      refine gm_go.ru (gi_const dX11_adds_1) ?_
      refine gm_go.ru (gi_bipush dX11_adds_2 (by decide +kernel)) ?_
      refine gm_go.ru (gm_cS dX11_adds_4 (ct_mIsIn ha (by decide) (by decide)) rfl mt_X11_isIn ms_X11_isIn (lk_X11_63 rfl) rfl (Nat.le_of_ble_eq_true rfl) (by decide)) ?_
      rw [zB_t (show 1 ≤ a ∧ a ≤ 99 by omega)]
      refine gm_go.ru (gi_if_ne_t (tgt := 16) dX11_adds_7 (by decide) (by decide) (by decide)) ?_
      refine gm_go.ru (gm_aload_n dX11_adds_16 rfl (by first | exact Or.inl ⟨_, rfl⟩ | exact Or.inr ⟨_, rfl⟩)) ?_
      refine gm_go.ru (gm_get dX11_adds_17 (fl_X11_16 rfl) hM rfl) ?_
      refine gm_go.ru (gi_const dX11_adds_20) ?_
      refine gm_go.ru (gi_aldN (a := 0) dX11_adds_21 hV (by decide) (by decide)) ?_
      refine gm_go.ru (gm_istore_n (ls' := [_, _, _, _]) dX11_adds_22 (by decide) rfl) ?_
      refine gm_go.ru (gm_iload_n dX11_adds_23 rfl) ?_
      refine gm_go.ru (gi_bipush dX11_adds_24 (by decide +kernel)) ?_
      refine gm_go.ru (gi_icmp_ne_f 35 dX11_adds_26 (by decide) (by omega) (by omega) (by omega)) ?_
      refine gm_go.ru (gm_aload_n dX11_adds_29 rfl (by first | exact Or.inl ⟨_, rfl⟩ | exact Or.inr ⟨_, rfl⟩)) ?_
      refine gm_go.ru (gi_const dX11_adds_30) ?_
      refine gm_go.ru (gm_cV dX11_adds_31 (ct_mFail hM (x := 2)) rfl mt_X11_fail mv_X11_fail (lk_X11_74 rfl) (Or.inl ⟨_, 12, _, _, _, rfl, hM, rfl⟩) rfl (Nat.le_of_ble_eq_true rfl) (by decide)) ?_
      exact gm_iret dX11_adds_34 rfl
    · rw [if_neg c2] at hq; exact absurd rfl hq
/-- the ten places from p on emptied as far as j -/
def zClr (F : Nat → Int) (p j : Nat) : Nat → Int := fun k => if p ≤ k ∧ k < p + j then 0 else F k
theorem zClr_0 (F : Nat → Int) (p : Nat) : zClr F p 0 = F := by funext k; unfold zClr; rw [if_neg (by omega)]
theorem zClr_s (F : Nat → Int) (p j : Nat) : zU (zClr F p j) (p + j) 0 = zClr F p (j + 1) := by
  funext k
  unfold zU zClr
  (repeat' split) <;> first | rfl | omega
set_option maxRecDepth 4000 in
theorem ma_in {m i : Nat} {K F : Nat → Int} {x : Int} (h8 : i < 8) (hi : F 0 = (i : Int)) : ∀ (z j : Nat) (h : gm_H), j + z = 10 → h.1[m]? = some (md_c m K) → h.1[m + 1]? = some (gA 118 (zClr F (10 + 10 * i) j)) → ∃ h', gm_ru mX11_adds 2 (37, [some (.ref m), some (.int (zI x)), some (.int (zI (i : Int))), some (.int (zI (j : Int)))], [], h) (.inl (some (.int (zI (i : Int))))) h' ∧ h'.1[m]? = some (md_c m K) ∧ h'.1[m + 1]? = some (gA 118 (zU (zU (zClr F (10 + 10 * i) 10) (10 + 10 * i) x) 0 ((i : Int) + 1))) ∧ gh_fr h h' (fun k => k = m + 1) := by
  intro z
  induction z with
  | zero =>
    intro j h hj hM hV
    obtain rfl : j = 10 := by omega
    obtain ⟨a1, ha1⟩ : ∃ y : gm_H, y = (h.1.set (m + 1) (gA 118 (zU (zClr F (10 + 10 * i) 10) (10 + 10 * i) x)), h.2) := ⟨_, rfl⟩
    have fr_a1 : gh_fr h a1 (fun k => k = m + 1) := by rw [ha1]; exact gh_set (K := (fun k => k = m + 1)) gh_rf (by first | exact rfl | exact Or.inr rfl | exact Or.inr (Or.inl rfl)) _
    have V_a1 : a1.1[m + 1]? = some (gA 118 (zU (zClr F (10 + 10 * i) 10) (10 + 10 * i) x)) := by rw [ha1]; exact gs_s hV
    have M_a1 := gs_n (c' := gA 118 (zU (zClr F (10 + 10 * i) 10) (10 + 10 * i) x)) hM (show m + 1 ≠ m by omega)
    rw [← ha1] at M_a1
    obtain ⟨a2, ha2⟩ : ∃ y : gm_H, y = (a1.1.set (m + 1) (gA 118 (zU (zU (zClr F (10 + 10 * i) 10) (10 + 10 * i) x) 0 ((i : Int) + 1))), a1.2) := ⟨_, rfl⟩
    have fr_a2 : gh_fr h a2 (fun k => k = m + 1) := by rw [ha2]; exact gh_set (K := (fun k => k = m + 1)) fr_a1 (by first | exact rfl | exact Or.inr rfl | exact Or.inr (Or.inl rfl)) _
    have V_a2 : a2.1[m + 1]? = some (gA 118 (zU (zU (zClr F (10 + 10 * i) 10) (10 + 10 * i) x) 0 ((i : Int) + 1))) := by rw [ha2]; exact gs_s V_a1
    have M_a2 := gs_n (c' := gA 118 (zU (zU (zClr F (10 + 10 * i) 10) (10 + 10 * i) x) 0 ((i : Int) + 1))) M_a1 (show m + 1 ≠ m by omega)
    rw [← ha2] at M_a2
    refine ⟨a2, ?_, M_a2, V_a2, fr_a2⟩
    have e0 : zU (zClr F (10 + 10 * i) 10) (10 + 10 * i) x 0 = (i : Int) := by rw [zU_n (by omega)]; unfold zClr; rw [if_neg (by omega)]; exact hi
    refine gm_go.ru (gm_iload_n dX11_adds_37 rfl) ?_
    refine gm_go.ru (gi_bipush dX11_adds_38 (by decide +kernel)) ?_
    refine gm_go.ru (gi_icmp_ge_t (tgt := 60) dX11_adds_40 (by decide) (by omega) (by omega) (by omega)) ?_
    refine gm_go.ru (gm_aload_n dX11_adds_60 rfl (by first | exact Or.inl ⟨_, rfl⟩ | exact Or.inr ⟨_, rfl⟩)) ?_
    refine gm_go.ru (gm_get dX11_adds_61 (fl_X11_16 rfl) hM rfl) ?_
    refine gm_go.ru (gm_iload_n dX11_adds_64 rfl) ?_
    refine gm_go.ru (gi_const dX11_adds_65) ?_
    refine gm_go.ru (gm_cS dX11_adds_66 (ct_mOf (i := i) (w := 0)) rfl mt_X11_of ms_X11_of (lk_X11_67 rfl) rfl (Nat.le_of_ble_eq_true rfl) (by decide)) ?_
    refine gm_go.ru (gm_iload_n dX11_adds_69 rfl) ?_
    rw [show 10 + 10 * i + 0 = 10 + 10 * i by omega]
    refine gm_go.ru (gi_astN dX11_adds_70 hV (by omega) (by decide)) ?_
    refine gm_hp ha1 ?_
    refine gm_go.ru (gm_aload_n dX11_adds_71 rfl (by first | exact Or.inl ⟨_, rfl⟩ | exact Or.inr ⟨_, rfl⟩)) ?_
    refine gm_go.ru (gm_get dX11_adds_72 (fl_X11_16 rfl) M_a1 rfl) ?_
    refine gm_go.ru (gi_const dX11_adds_75) ?_
    refine gm_go.ru (gm_dup2 dX11_adds_76 rfl rfl) ?_
    refine gm_go.ru (gi_aldN (a := 0) dX11_adds_77 V_a1 (by decide) (by decide)) ?_
    rw [e0]
    refine gm_go.ru (gi_const dX11_adds_78) ?_
    refine gm_go.ru (gi_add dX11_adds_79) ?_
    refine gm_go.ru (gi_astN (a := 0) dX11_adds_80 V_a1 (by decide) (by decide)) ?_
    refine gm_hp ha2 ?_
    refine gm_go.ru (gm_iload_n dX11_adds_81 rfl) ?_
    exact gm_iret dX11_adds_82 rfl
  | succ z ih =>
    intro j h hj hM hV
    obtain ⟨a1, ha1⟩ : ∃ y : gm_H, y = (h.1.set (m + 1) (gA 118 (zU (zClr F (10 + 10 * i) j) (10 + 10 * i + j) 0)), h.2) := ⟨_, rfl⟩
    have fr_a1 : gh_fr h a1 (fun k => k = m + 1) := by rw [ha1]; exact gh_set (K := (fun k => k = m + 1)) gh_rf (by first | exact rfl | exact Or.inr rfl | exact Or.inr (Or.inl rfl)) _
    have V_a1 : a1.1[m + 1]? = some (gA 118 (zU (zClr F (10 + 10 * i) j) (10 + 10 * i + j) 0)) := by rw [ha1]; exact gs_s hV
    have M_a1 := gs_n (c' := gA 118 (zU (zClr F (10 + 10 * i) j) (10 + 10 * i + j) 0)) hM (show m + 1 ≠ m by omega)
    rw [← ha1] at M_a1
    rw [zClr_s] at V_a1
    obtain ⟨h', e1, e2, e3, e4⟩ := ih (j + 1) a1 (by omega) M_a1 V_a1
    refine ⟨h', ?_, e2, e3, gh_tr fr_a1 e4⟩
    refine gm_go.ru (gm_iload_n dX11_adds_37 rfl) ?_
    refine gm_go.ru (gi_bipush dX11_adds_38 (by decide +kernel)) ?_
    refine gm_go.ru (gi_icmp_ge_f 60 dX11_adds_40 (by decide) (by omega) (by omega) (by omega)) ?_
    refine gm_go.ru (gm_aload_n dX11_adds_43 rfl (by first | exact Or.inl ⟨_, rfl⟩ | exact Or.inr ⟨_, rfl⟩)) ?_
    refine gm_go.ru (gm_get dX11_adds_44 (fl_X11_16 rfl) hM rfl) ?_
    refine gm_go.ru (gm_iload_n dX11_adds_47 rfl) ?_
    refine gm_go.ru (gm_iload_n dX11_adds_48 rfl) ?_
    refine gm_go.ru (gm_cS dX11_adds_49 (ct_mOf (i := i) (w := j)) rfl mt_X11_of ms_X11_of (lk_X11_67 rfl) rfl (Nat.le_of_ble_eq_true rfl) (by decide)) ?_
    refine gm_go.ru (gi_const dX11_adds_52) ?_
    refine gm_go.ru (gi_astN dX11_adds_53 hV (by omega) (by decide)) ?_
    refine gm_hp ha1 ?_
    refine gm_go.ru (gi_iinc (ls' := [_, _, _, _]) dX11_adds_54 rfl (by decide) rfl) ?_
    refine gm_go.ru (gm_goto (tgt := 37) dX11_adds_57 (by decide)) ?_
    exact e1
set_option maxRecDepth 4000 in
theorem ct_madds {h : gm_H} {m : Nat} {K F : Nat → Int} (hM : h.1[m]? = some (md_c m K)) (hV : h.1[m + 1]? = some (gA 118 F)) {T : Nat} {a b c : Int} (hv : st_iv T F) (ha : zR a) (hq : zqWhy F 0 a 0 0 = 0) : ∃ h' F', gm_co mX11_adds 2 [.ref m, .int (zI a)] h (.inl (some (.int (zI (zAn F 0 a 0 0))))) h' ∧ h'.1[m]? = some (md_c m K) ∧ h'.1[m + 1]? = some (gA 118 F') ∧ (∀ k, k < 118 → F' k = zDo F 0 a 0 0 k) ∧ gh_fr h h' (fun k => k = m + 1) := by
  obtain ⟨i, hi, hi8⟩ := nd_cnt hv.1
  have q0 : ¬ (a < 1 ∨ 99 < a) ∧ ¬ 8 ≤ F 0 := by
    unfold zqWhy zqAdd at hq
    simp only at hq
    split at hq
    · omega
    · split at hq <;> omega
  have hz := hv.1.2.2.2.2.2 i (by omega) (by omega)
  obtain ⟨h', e1, e2, e3, e4⟩ := ma_in (x := a) (by omega) hi 10 0 h rfl hM (by rw [zClr_0]; exact hV)
  refine ⟨h', _, ?_, e2, e3, fun k hk => ?_, e4⟩
  ·
    refine gm_co_of _ (by decide +kernel) rfl (Nat.le_of_ble_eq_true rfl) rfl ?_
    refine gm_go.ru (gm_iload_n dX11_adds_0 rfl) ?_
    refine gm_go.ru (gi_const dX11_adds_1) ?_
    refine gm_go.ru (gi_bipush dX11_adds_2 (by decide +kernel)) ?_
    refine gm_go.ru (gm_cS dX11_adds_4 (ct_mIsIn ha (by decide) (by decide)) rfl mt_X11_isIn ms_X11_isIn (lk_X11_63 rfl) rfl (Nat.le_of_ble_eq_true rfl) (by decide)) ?_
    rw [zB_t (show 1 ≤ a ∧ a ≤ 99 by omega)]
    refine gm_go.ru (gi_if_ne_t (tgt := 16) dX11_adds_7 (by decide) (by decide) (by decide)) ?_
    refine gm_go.ru (gm_aload_n dX11_adds_16 rfl (by first | exact Or.inl ⟨_, rfl⟩ | exact Or.inr ⟨_, rfl⟩)) ?_
    refine gm_go.ru (gm_get dX11_adds_17 (fl_X11_16 rfl) hM rfl) ?_
    refine gm_go.ru (gi_const dX11_adds_20) ?_
    refine gm_go.ru (gi_aldN (a := 0) dX11_adds_21 hV (by decide) (by decide)) ?_
    show gm_ru _ _ _ (.inl (some (.int (zI (F 0))))) _
    rw [hi]
    refine gm_go.ru (gm_istore_n (ls' := [_, _, _, _]) dX11_adds_22 (by decide) rfl) ?_
    refine gm_go.ru (gm_iload_n dX11_adds_23 rfl) ?_
    refine gm_go.ru (gi_bipush dX11_adds_24 (by decide +kernel)) ?_
    refine gm_go.ru (gi_icmp_ne_t (tgt := 35) dX11_adds_26 (by decide) (by omega) (by omega) (by omega)) ?_
    refine gm_go.ru (gi_const dX11_adds_35) ?_
    refine gm_go.ru (gm_istore_n (ls' := [_, _, _, _]) dX11_adds_36 (by decide) rfl) ?_
    exact e1
  ·
    show _ = zAdd F a k
    unfold zAdd
    rw [hi, Int.toNat_natCast]
    by_cases k1 : 10 + 10 * i ≤ k ∧ k < 10 + 10 * i + 10
    · have hz1 := hz (k - (10 + 10 * i)) (by omega)
      rw [show 10 + 10 * i + (k - (10 + 10 * i)) = k by omega] at hz1
      unfold zU zClr
      (repeat' split) <;> first | rfl | omega
    · unfold zU zClr
      (repeat' split) <;> first | rfl | omega
set_option maxRecDepth 4000 in
theorem ct_msetsX {h : gm_H} {m : Nat} {K F : Nat → Int} (hM : h.1[m]? = some (md_c m K)) (hV : h.1[m + 1]? = some (gA 118 F)) {T : Nat} {a b c : Int} (hv : st_iv T F) (ha : zR a) (hb : zR b) (hc : zR c) (hq : zqWhy F 1 a b c ≠ 0) : ∃ h' F', gm_co mX11_sets 3 [.ref m, .int (zI a), .int (zI b), .int (zI c)] h (.inl (some (.int (zI 0)))) h' ∧ h'.1[m]? = some (md_c m (zU K 0 (zCd 1 (zqWhy F 1 a b c)))) ∧ h'.1[m + 1]? = some (gA 118 F') ∧ gh_fr h h' (fun k => k = m ∨ k = m + 1) := by
  unfold zqWhy zqPut at *
  simp only at *
  by_cases c1 : 0 ≤ a ∧ a < F 0
  ·
    rw [if_neg (fun z => z c1)] at hq ⊢
    obtain ⟨i, rfl⟩ : ∃ i : Nat, a = (i : Int) := ⟨a.toNat, by omega⟩
    have h8 : i < 8 := by have := hv.1.1; omega
    rw [Int.toNat_natCast] at hq ⊢
    by_cases c2 : b < 0 ∨ 7 < b
    ·
      rw [if_pos (Or.inl c2)]
      refine ⟨(h.1.set m (md_c m (zU K 0 2)), h.2), F, ?_, gs_s hM, gs_n hV (by omega), gh_set gh_rf (Or.inl rfl) _⟩
      refine gm_co_of _ (by decide +kernel) rfl (Nat.le_of_ble_eq_true rfl) rfl ?_
      refine gm_go.ru (gm_aload_n dX11_sets_0 rfl (by first | exact Or.inl ⟨_, rfl⟩ | exact Or.inr ⟨_, rfl⟩)) ?_
      refine gm_go.ru (gm_iload_n dX11_sets_1 rfl) ?_
      refine gm_go.ru (gm_cV dX11_sets_2 (ct_mIsN hM hV hv.1 ha) rfl mt_X11_isNeedle mv_X11_isNeedle (lk_X11_87 rfl) (Or.inl ⟨_, 12, _, _, _, rfl, hM, rfl⟩) rfl (Nat.le_of_ble_eq_true rfl) (by decide)) ?_
      rw [zB_t c1]
      refine gm_go.ru (gi_if_ne_t (tgt := 14) dX11_sets_5 (by decide) (by decide) (by decide)) ?_
      refine gm_go.ru (gm_iload_n dX11_sets_14 rfl) ?_
      refine gm_go.ru (gi_const dX11_sets_15) ?_
      refine gm_go.ru (gi_bipush dX11_sets_16 (by decide +kernel)) ?_
      refine gm_go.ru (gm_cS dX11_sets_18 (ct_mIsIn hb (by decide) (by decide)) rfl mt_X11_isIn ms_X11_isIn (lk_X11_63 rfl) rfl (Nat.le_of_ble_eq_true rfl) (by decide)) ?_
      rw [zB_f (show ¬ (0 ≤ b ∧ b ≤ 7) by omega)]
      refine gm_go.ru (gi_if_eq_t (tgt := 35) dX11_sets_21 (by decide) (by decide) rfl) ?_
      refine gm_go.ru (gm_aload_n dX11_sets_35 rfl (by first | exact Or.inl ⟨_, rfl⟩ | exact Or.inr ⟨_, rfl⟩)) ?_
      refine gm_go.ru (gi_const dX11_sets_36) ?_
      refine gm_go.ru (gm_cV dX11_sets_37 (ct_mFail hM (x := 2)) rfl mt_X11_fail mv_X11_fail (lk_X11_74 rfl) (Or.inl ⟨_, 12, _, _, _, rfl, hM, rfl⟩) rfl (Nat.le_of_ble_eq_true rfl) (by decide)) ?_
      exact gm_iret dX11_sets_40 rfl
    ·
      by_cases c3 : c < -20 ∨ 20 < c
      ·
        rw [if_pos (Or.inr c3)]
        refine ⟨(h.1.set m (md_c m (zU K 0 2)), h.2), F, ?_, gs_s hM, gs_n hV (by omega), gh_set gh_rf (Or.inl rfl) _⟩
        refine gm_co_of _ (by decide +kernel) rfl (Nat.le_of_ble_eq_true rfl) rfl ?_
        refine gm_go.ru (gm_aload_n dX11_sets_0 rfl (by first | exact Or.inl ⟨_, rfl⟩ | exact Or.inr ⟨_, rfl⟩)) ?_
        refine gm_go.ru (gm_iload_n dX11_sets_1 rfl) ?_
        refine gm_go.ru (gm_cV dX11_sets_2 (ct_mIsN hM hV hv.1 ha) rfl mt_X11_isNeedle mv_X11_isNeedle (lk_X11_87 rfl) (Or.inl ⟨_, 12, _, _, _, rfl, hM, rfl⟩) rfl (Nat.le_of_ble_eq_true rfl) (by decide)) ?_
        rw [zB_t c1]
        refine gm_go.ru (gi_if_ne_t (tgt := 14) dX11_sets_5 (by decide) (by decide) (by decide)) ?_
        refine gm_go.ru (gm_iload_n dX11_sets_14 rfl) ?_
        refine gm_go.ru (gi_const dX11_sets_15) ?_
        refine gm_go.ru (gi_bipush dX11_sets_16 (by decide +kernel)) ?_
        refine gm_go.ru (gm_cS dX11_sets_18 (ct_mIsIn hb (by decide) (by decide)) rfl mt_X11_isIn ms_X11_isIn (lk_X11_63 rfl) rfl (Nat.le_of_ble_eq_true rfl) (by decide)) ?_
        rw [zB_t (show 0 ≤ b ∧ b ≤ 7 by omega)]
        refine gm_go.ru (gi_if_eq_f 35 dX11_sets_21 (by decide) (by decide) (by decide)) ?_
        refine gm_go.ru (gm_iload_n dX11_sets_24 rfl) ?_
        refine gm_go.ru (gi_bipush dX11_sets_25 (by decide +kernel)) ?_
        refine gm_go.ru (gi_bipush dX11_sets_27 (by decide +kernel)) ?_
        refine gm_go.ru (gm_cS dX11_sets_29 (ct_mIsIn hc (by decide) (by decide)) rfl mt_X11_isIn ms_X11_isIn (lk_X11_63 rfl) rfl (Nat.le_of_ble_eq_true rfl) (by decide)) ?_
        rw [zB_f (show ¬ (-20 ≤ c ∧ c ≤ 20) by omega)]
        refine gm_go.ru (gi_if_ne_f 41 dX11_sets_32 (by decide) (by decide) rfl) ?_
        refine gm_go.ru (gm_aload_n dX11_sets_35 rfl (by first | exact Or.inl ⟨_, rfl⟩ | exact Or.inr ⟨_, rfl⟩)) ?_
        refine gm_go.ru (gi_const dX11_sets_36) ?_
        refine gm_go.ru (gm_cV dX11_sets_37 (ct_mFail hM (x := 2)) rfl mt_X11_fail mv_X11_fail (lk_X11_74 rfl) (Or.inl ⟨_, 12, _, _, _, rfl, hM, rfl⟩) rfl (Nat.le_of_ble_eq_true rfl) (by decide)) ?_
        exact gm_iret dX11_sets_40 rfl
      ·
        rw [if_neg (by omega)] at hq ⊢
        by_cases c4 : F (11 + 10 * i) = 1
        ·
          rw [if_pos c4]
          refine ⟨(h.1.set m (md_c m (zU K 0 3)), h.2), F, ?_, gs_s hM, gs_n hV (by omega), gh_set gh_rf (Or.inl rfl) _⟩
          refine gm_co_of _ (by decide +kernel) rfl (Nat.le_of_ble_eq_true rfl) rfl ?_
          refine gm_go.ru (gm_aload_n dX11_sets_0 rfl (by first | exact Or.inl ⟨_, rfl⟩ | exact Or.inr ⟨_, rfl⟩)) ?_
          refine gm_go.ru (gm_iload_n dX11_sets_1 rfl) ?_
          refine gm_go.ru (gm_cV dX11_sets_2 (ct_mIsN hM hV hv.1 ha) rfl mt_X11_isNeedle mv_X11_isNeedle (lk_X11_87 rfl) (Or.inl ⟨_, 12, _, _, _, rfl, hM, rfl⟩) rfl (Nat.le_of_ble_eq_true rfl) (by decide)) ?_
          rw [zB_t c1]
          refine gm_go.ru (gi_if_ne_t (tgt := 14) dX11_sets_5 (by decide) (by decide) (by decide)) ?_
          refine gm_go.ru (gm_iload_n dX11_sets_14 rfl) ?_
          refine gm_go.ru (gi_const dX11_sets_15) ?_
          refine gm_go.ru (gi_bipush dX11_sets_16 (by decide +kernel)) ?_
          refine gm_go.ru (gm_cS dX11_sets_18 (ct_mIsIn hb (by decide) (by decide)) rfl mt_X11_isIn ms_X11_isIn (lk_X11_63 rfl) rfl (Nat.le_of_ble_eq_true rfl) (by decide)) ?_
          rw [zB_t (show 0 ≤ b ∧ b ≤ 7 by omega)]
          refine gm_go.ru (gi_if_eq_f 35 dX11_sets_21 (by decide) (by decide) (by decide)) ?_
          refine gm_go.ru (gm_iload_n dX11_sets_24 rfl) ?_
          refine gm_go.ru (gi_bipush dX11_sets_25 (by decide +kernel)) ?_
          refine gm_go.ru (gi_bipush dX11_sets_27 (by decide +kernel)) ?_
          refine gm_go.ru (gm_cS dX11_sets_29 (ct_mIsIn hc (by decide) (by decide)) rfl mt_X11_isIn ms_X11_isIn (lk_X11_63 rfl) rfl (Nat.le_of_ble_eq_true rfl) (by decide)) ?_
          rw [zB_t (show (-20 ≤ c ∧ c ≤ 20) by omega)]
          refine gm_go.ru (gi_if_ne_t (tgt := 41) dX11_sets_32 (by decide) (by decide) (by decide)) ?_
          refine gm_go.ru (gm_aload_n dX11_sets_41 rfl (by first | exact Or.inl ⟨_, rfl⟩ | exact Or.inr ⟨_, rfl⟩)) ?_
          refine gm_go.ru (gm_get dX11_sets_42 (fl_X11_16 rfl) hM rfl) ?_
          refine gm_go.ru (gm_iload_n dX11_sets_45 rfl) ?_
          refine gm_go.ru (gi_const dX11_sets_46) ?_
          refine gm_go.ru (gm_cS dX11_sets_47 (ct_mOf (i := i) (w := 1)) rfl mt_X11_of ms_X11_of (lk_X11_67 rfl) rfl (Nat.le_of_ble_eq_true rfl) (by decide)) ?_
          rw [show 10 + 10 * i + 1 = 11 + 10 * i by omega]
          refine gm_go.ru (gi_aldN dX11_sets_50 hV (by omega) (by decide)) ?_
          have hg := hv.1.2.2.2.1 i h8
          refine gm_go.ru (gi_const dX11_sets_51) ?_
          refine gm_go.ru (gi_icmp_ne_f 61 dX11_sets_52 (by decide) (by omega) (by omega) (by omega)) ?_
          refine gm_go.ru (gm_aload_n dX11_sets_55 rfl (by first | exact Or.inl ⟨_, rfl⟩ | exact Or.inr ⟨_, rfl⟩)) ?_
          refine gm_go.ru (gi_const dX11_sets_56) ?_
          refine gm_go.ru (gm_cV dX11_sets_57 (ct_mFail hM (x := 3)) rfl mt_X11_fail mv_X11_fail (lk_X11_74 rfl) (Or.inl ⟨_, 12, _, _, _, rfl, hM, rfl⟩) rfl (Nat.le_of_ble_eq_true rfl) (by decide)) ?_
          exact gm_iret dX11_sets_60 rfl
        · rw [if_neg c4] at hq; exact absurd rfl hq
  ·
    rw [if_pos c1]
    refine ⟨(h.1.set m (md_c m (zU K 0 1)), h.2), F, ?_, gs_s hM, gs_n hV (by omega), gh_set gh_rf (Or.inl rfl) _⟩
    refine gm_co_of _ (by decide +kernel) rfl (Nat.le_of_ble_eq_true rfl) rfl ?_
    refine gm_go.ru (gm_aload_n dX11_sets_0 rfl (by first | exact Or.inl ⟨_, rfl⟩ | exact Or.inr ⟨_, rfl⟩)) ?_
    refine gm_go.ru (gm_iload_n dX11_sets_1 rfl) ?_
    refine gm_go.ru (gm_cV dX11_sets_2 (ct_mIsN hM hV hv.1 ha) rfl mt_X11_isNeedle mv_X11_isNeedle (lk_X11_87 rfl) (Or.inl ⟨_, 12, _, _, _, rfl, hM, rfl⟩) rfl (Nat.le_of_ble_eq_true rfl) (by decide)) ?_
    rw [zB_f c1]
    refine gm_go.ru (gi_if_ne_f 14 dX11_sets_5 (by decide) (by decide) rfl) ?_
    refine gm_go.ru (gm_aload_n dX11_sets_8 rfl (by first | exact Or.inl ⟨_, rfl⟩ | exact Or.inr ⟨_, rfl⟩)) ?_
    refine gm_go.ru (gi_const dX11_sets_9) ?_
    refine gm_go.ru (gm_cV dX11_sets_10 (ct_mFail hM (x := 1)) rfl mt_X11_fail mv_X11_fail (lk_X11_74 rfl) (Or.inl ⟨_, 12, _, _, _, rfl, hM, rfl⟩) rfl (Nat.le_of_ble_eq_true rfl) (by decide)) ?_
    exact gm_iret dX11_sets_13 rfl
set_option maxRecDepth 4000 in
theorem ct_msets {h : gm_H} {m : Nat} {K F : Nat → Int} (hM : h.1[m]? = some (md_c m K)) (hV : h.1[m + 1]? = some (gA 118 F)) {T : Nat} {a b c : Int} (hv : st_iv T F) (ha : zR a) (hb : zR b) (hc : zR c) (hq : zqWhy F 1 a b c = 0) : ∃ h' F', gm_co mX11_sets 3 [.ref m, .int (zI a), .int (zI b), .int (zI c)] h (.inl (some (.int (zI (zAn F 1 a b c))))) h' ∧ h'.1[m]? = some (md_c m K) ∧ h'.1[m + 1]? = some (gA 118 F') ∧ (∀ k, k < 118 → F' k = zDo F 1 a b c k) ∧ gh_fr h h' (fun k => k = m + 1) := by
  have q0 : ((0 ≤ a ∧ a < F 0) ∧ 0 ≤ b ∧ b ≤ 7) ∧ (-20 ≤ c ∧ c ≤ 20) ∧ ¬ F (11 + 10 * a.toNat) = 1 := by
    unfold zqWhy zqPut at hq
    simp only at hq
    (repeat' split at hq) <;> omega
  obtain ⟨⟨c1, cb⟩, cc, cg⟩ := q0
  obtain ⟨i, rfl⟩ : ∃ i : Nat, a = (i : Int) := ⟨a.toNat, by omega⟩
  obtain ⟨j, rfl⟩ : ∃ j : Nat, b = (j : Int) := ⟨b.toNat, by omega⟩
  have h8 : i < 8 := by have := hv.1.1; omega
  rw [Int.toNat_natCast] at cg
  obtain ⟨a1, ha1⟩ : ∃ y : gm_H, y = (h.1.set (m + 1) (gA 118 (zU F (12 + 10 * i + j) c)), h.2) := ⟨_, rfl⟩
  have fr_a1 : gh_fr h a1 (fun k => k = m + 1) := by rw [ha1]; exact gh_set (K := (fun k => k = m + 1)) gh_rf (by first | exact rfl | exact Or.inr rfl | exact Or.inr (Or.inl rfl)) _
  have V_a1 : a1.1[m + 1]? = some (gA 118 (zU F (12 + 10 * i + j) c)) := by rw [ha1]; exact gs_s hV
  have M_a1 := gs_n (c' := gA 118 (zU F (12 + 10 * i + j) c)) hM (show m + 1 ≠ m by omega)
  rw [← ha1] at M_a1
  refine ⟨a1, _, ?_, M_a1, V_a1, fun k hk => ?_, fr_a1⟩
  ·
    show gm_co _ _ _ _ (.inl (some (.int (zI (F (12 + 10 * (i : Int).toNat + (j : Int).toNat)))))) _
    rw [Int.toNat_natCast, Int.toNat_natCast]
    refine gm_co_of _ (by decide +kernel) rfl (Nat.le_of_ble_eq_true rfl) rfl ?_
    refine gm_go.ru (gm_aload_n dX11_sets_0 rfl (by first | exact Or.inl ⟨_, rfl⟩ | exact Or.inr ⟨_, rfl⟩)) ?_
    refine gm_go.ru (gm_iload_n dX11_sets_1 rfl) ?_
    refine gm_go.ru (gm_cV dX11_sets_2 (ct_mIsN hM hV hv.1 ha) rfl mt_X11_isNeedle mv_X11_isNeedle (lk_X11_87 rfl) (Or.inl ⟨_, 12, _, _, _, rfl, hM, rfl⟩) rfl (Nat.le_of_ble_eq_true rfl) (by decide)) ?_
    rw [zB_t c1]
    refine gm_go.ru (gi_if_ne_t (tgt := 14) dX11_sets_5 (by decide) (by decide) (by decide)) ?_
    refine gm_go.ru (gm_iload_n dX11_sets_14 rfl) ?_
    refine gm_go.ru (gi_const dX11_sets_15) ?_
    refine gm_go.ru (gi_bipush dX11_sets_16 (by decide +kernel)) ?_
    refine gm_go.ru (gm_cS dX11_sets_18 (ct_mIsIn hb (by decide) (by decide)) rfl mt_X11_isIn ms_X11_isIn (lk_X11_63 rfl) rfl (Nat.le_of_ble_eq_true rfl) (by decide)) ?_
    rw [zB_t (show 0 ≤ (j : Int) ∧ (j : Int) ≤ 7 by omega)]
    refine gm_go.ru (gi_if_eq_f 35 dX11_sets_21 (by decide) (by decide) (by decide)) ?_
    refine gm_go.ru (gm_iload_n dX11_sets_24 rfl) ?_
    refine gm_go.ru (gi_bipush dX11_sets_25 (by decide +kernel)) ?_
    refine gm_go.ru (gi_bipush dX11_sets_27 (by decide +kernel)) ?_
    refine gm_go.ru (gm_cS dX11_sets_29 (ct_mIsIn hc (by decide) (by decide)) rfl mt_X11_isIn ms_X11_isIn (lk_X11_63 rfl) rfl (Nat.le_of_ble_eq_true rfl) (by decide)) ?_
    rw [zB_t (show (-20 ≤ c ∧ c ≤ 20) by omega)]
    refine gm_go.ru (gi_if_ne_t (tgt := 41) dX11_sets_32 (by decide) (by decide) (by decide)) ?_
    refine gm_go.ru (gm_aload_n dX11_sets_41 rfl (by first | exact Or.inl ⟨_, rfl⟩ | exact Or.inr ⟨_, rfl⟩)) ?_
    refine gm_go.ru (gm_get dX11_sets_42 (fl_X11_16 rfl) hM rfl) ?_
    refine gm_go.ru (gm_iload_n dX11_sets_45 rfl) ?_
    refine gm_go.ru (gi_const dX11_sets_46) ?_
    refine gm_go.ru (gm_cS dX11_sets_47 (ct_mOf (i := i) (w := 1)) rfl mt_X11_of ms_X11_of (lk_X11_67 rfl) rfl (Nat.le_of_ble_eq_true rfl) (by decide)) ?_
    rw [show 10 + 10 * i + 1 = 11 + 10 * i by omega]
    refine gm_go.ru (gi_aldN dX11_sets_50 hV (by omega) (by decide)) ?_
    have hg := hv.1.2.2.2.1 i h8
    refine gm_go.ru (gi_const dX11_sets_51) ?_
    refine gm_go.ru (gi_icmp_ne_t (tgt := 61) dX11_sets_52 (by decide) (by omega) (by omega) (by omega)) ?_
    refine gm_go.ru (gm_aload_n dX11_sets_61 rfl (by first | exact Or.inl ⟨_, rfl⟩ | exact Or.inr ⟨_, rfl⟩)) ?_
    refine gm_go.ru (gm_iload_n dX11_sets_62 rfl) ?_
    refine gm_go.ru (gm_iload_n dX11_sets_63 rfl) ?_
    refine gm_go.ru (gm_cV dX11_sets_64 (ct_mFar hM hV h8 (by omega)) rfl mt_X11_far mv_X11_far (lk_X11_91 rfl) (Or.inl ⟨_, 12, _, _, _, rfl, hM, rfl⟩) rfl (Nat.le_of_ble_eq_true rfl) (by decide)) ?_
    refine gm_go.ru (gm_istore (ls' := [_, _, _, _, _]) dX11_sets_67 (by decide) rfl) ?_
    refine gm_go.ru (gm_aload_n dX11_sets_69 rfl (by first | exact Or.inl ⟨_, rfl⟩ | exact Or.inr ⟨_, rfl⟩)) ?_
    refine gm_go.ru (gm_get dX11_sets_70 (fl_X11_16 rfl) hM rfl) ?_
    refine gm_go.ru (gm_iload_n dX11_sets_73 rfl) ?_
    refine gm_go.ru (gi_const dX11_sets_74) ?_
    refine gm_go.ru (gm_iload_n dX11_sets_75 rfl) ?_
    refine gm_go.ru (gi_add dX11_sets_76) ?_
    refine gm_go.ru (gm_cS dX11_sets_77 (ct_mOf (i := i) (w := 2 + j)) rfl mt_X11_of ms_X11_of (lk_X11_67 rfl) rfl (Nat.le_of_ble_eq_true rfl) (by decide)) ?_
    refine gm_go.ru (gm_iload_n dX11_sets_80 rfl) ?_
    rw [show 10 + 10 * i + (2 + j) = 12 + 10 * i + j by omega]
    refine gm_go.ru (gi_astN dX11_sets_81 hV (by omega) (by decide)) ?_
    refine gm_hp ha1 ?_
    refine gm_go.ru (gm_iload dX11_sets_82 rfl) ?_
    exact gm_iret dX11_sets_84 rfl
  ·
    show _ = zU F (12 + 10 * (i : Int).toNat + (j : Int).toNat) c k
    rw [Int.toNat_natCast, Int.toNat_natCast]
set_option maxRecDepth 4000 in
theorem mv_in {m i : Nat} {K F : Nat → Int} {x : Int} (hv : nd_iv F) (hi : i < 8) (hx : -1000 ≤ x ∧ x ≤ 1000) : ∀ (z j : Nat) (h : gm_H), j + z = 8 → h.1[m]? = some (md_c m K) → h.1[m + 1]? = some (gA 118 (zMv F i x j)) → ∃ h', gm_ru mX11_moves 3 (5, [some (.ref m), some (.int (zI (i : Int))), some (.int (zI x)), some (.int (zI (zB (!zOf F i x j)))), some (.int (zI (j : Int)))], [], h) (.inl (some (.int (zI (zB (!zOf F i x 8)))))) h' ∧ h'.1[m]? = some (md_c m K) ∧ h'.1[m + 1]? = some (gA 118 (zMv F i x 8)) ∧ gh_fr h h' (fun k => k = m + 1) := by
  intro z
  induction z with
  | zero =>
    intro j h hj hM hV
    obtain rfl : j = 8 := by omega
    refine ⟨h, ?_, hM, hV, gh_rf⟩
    refine gm_go.ru (gm_iload dX11_moves_5 rfl) ?_
    refine gm_go.ru (gi_bipush dX11_moves_7 (by decide +kernel)) ?_
    refine gm_go.ru (gi_icmp_ge_t (tgt := 52) dX11_moves_9 (by decide) (by omega) (by omega) (by omega)) ?_
    refine gm_go.ru (gm_iload_n dX11_moves_52 rfl) ?_
    exact gm_zret' dX11_moves_53 rfl rfl
  | succ z ih =>
    intro j h hj hM hV
    have hd := hv.2.2.2.2.1 i hi j (by omega)
    have e0 : zMv F i x j (12 + 10 * i + j) = F (12 + 10 * i + j) := by unfold zMv; rw [if_neg (by omega)]
    obtain ⟨a1, ha1⟩ : ∃ y : gm_H, y = (h.1.set (m + 1) (gA 118 (zU (zMv F i x j) (12 + 10 * i + j) (F (12 + 10 * i + j) + x))), h.2) := ⟨_, rfl⟩
    have fr_a1 : gh_fr h a1 (fun k => k = m + 1) := by rw [ha1]; exact gh_set (K := (fun k => k = m + 1)) gh_rf (by first | exact rfl | exact Or.inr rfl | exact Or.inr (Or.inl rfl)) _
    have V_a1 : a1.1[m + 1]? = some (gA 118 (zU (zMv F i x j) (12 + 10 * i + j) (F (12 + 10 * i + j) + x))) := by rw [ha1]; exact gs_s hV
    have M_a1 := gs_n (c' := gA 118 (zU (zMv F i x j) (12 + 10 * i + j) (F (12 + 10 * i + j) + x))) hM (show m + 1 ≠ m by omega)
    rw [← ha1] at M_a1
    have V2 := V_a1
    rw [← zMv_s] at V2
    obtain ⟨h', e1, e2, e3, e4⟩ := ih (j + 1) a1 (by omega) M_a1 V2
    refine ⟨h', ?_, e2, e3, gh_tr fr_a1 e4⟩
    have e5 : (!zOf F i x (j + 1)) = (!zOf F i x j && decide (-20 ≤ F (12 + 10 * i + j) + x ∧ F (12 + 10 * i + j) + x ≤ 20)) := by
      rw [zOf, Bool.not_or]
      congr 1
      rw [← decide_not]
      exact decide_eq_decide.mpr (by omega)
    rw [e5] at e1
    refine gm_go.ru (gm_iload dX11_moves_5 rfl) ?_
    refine gm_go.ru (gi_bipush dX11_moves_7 (by decide +kernel)) ?_
    refine gm_go.ru (gi_icmp_ge_f 52 dX11_moves_9 (by decide) (by omega) (by omega) (by omega)) ?_
    refine gm_go.ru (gm_aload_n dX11_moves_12 rfl (by first | exact Or.inl ⟨_, rfl⟩ | exact Or.inr ⟨_, rfl⟩)) ?_
    refine gm_go.ru (gm_get dX11_moves_13 (fl_X11_16 rfl) hM rfl) ?_
    refine gm_go.ru (gm_iload_n dX11_moves_16 rfl) ?_
    refine gm_go.ru (gi_const dX11_moves_17) ?_
    refine gm_go.ru (gm_iload dX11_moves_18 rfl) ?_
    refine gm_go.ru (gi_add dX11_moves_20) ?_
    refine gm_go.ru (gm_cS dX11_moves_21 (ct_mOf (i := i) (w := 2 + j)) rfl mt_X11_of ms_X11_of (lk_X11_67 rfl) rfl (Nat.le_of_ble_eq_true rfl) (by decide)) ?_
    rw [show 10 + 10 * i + (2 + j) = 12 + 10 * i + j by omega]
    refine gm_go.ru (gm_dup2 dX11_moves_24 rfl rfl) ?_
    refine gm_go.ru (gi_aldN dX11_moves_25 hV (by omega) (by decide)) ?_
    rw [e0]
    refine gm_go.ru (gm_iload_n dX11_moves_26 rfl) ?_
    refine gm_go.ru (gi_add dX11_moves_27) ?_
    refine gm_go.ru (gi_astN dX11_moves_28 hV (by omega) (by decide)) ?_
    refine gm_hp ha1 ?_
    have hf := ct_mFar (i := i) (j := j) M_a1 V_a1 hi (by omega)
    rw [zU_s] at hf
    refine gm_go.ru (gm_iload_n dX11_moves_29 rfl) ?_
    refine gm_go.ru (gm_aload_n dX11_moves_30 rfl (by first | exact Or.inl ⟨_, rfl⟩ | exact Or.inr ⟨_, rfl⟩)) ?_
    refine gm_go.ru (gm_iload_n dX11_moves_31 rfl) ?_
    refine gm_go.ru (gm_iload dX11_moves_32 rfl) ?_
    refine gm_go.ru (gm_cV dX11_moves_34 (hf) rfl mt_X11_far mv_X11_far (lk_X11_91 rfl) (Or.inl ⟨_, 12, _, _, _, rfl, M_a1, rfl⟩) rfl (Nat.le_of_ble_eq_true rfl) (by decide)) ?_
    refine gm_go.ru (gi_bipush dX11_moves_37 (by decide +kernel)) ?_
    refine gm_go.ru (gi_bipush dX11_moves_39 (by decide +kernel)) ?_
    refine gm_go.ru (gm_cS dX11_moves_41 (ct_mIsIn (by omega) (by decide) (by decide)) rfl mt_X11_isIn ms_X11_isIn (lk_X11_63 rfl) rfl (Nat.le_of_ble_eq_true rfl) (by decide)) ?_
    refine gm_go.ru (gi_zand dX11_moves_44) ?_
    refine gm_go.ru (gm_istore_n (ls' := [_, _, _, _, _]) dX11_moves_45 (by decide) rfl) ?_
    refine gm_go.ru (gi_iinc (ls' := [_, _, _, _, _]) dX11_moves_46 rfl (by decide) rfl) ?_
    refine gm_go.ru (gm_goto (tgt := 5) dX11_moves_49 (by decide)) ?_
    exact e1
set_option maxRecDepth 4000 in
theorem ct_mMoves {h : gm_H} {m : Nat} {K F : Nat → Int} (hM : h.1[m]? = some (md_c m K)) (hV : h.1[m + 1]? = some (gA 118 F)) {i : Nat} {x : Int} (hv : nd_iv F) (hi : i < 8) (hx : -1000 ≤ x ∧ x ≤ 1000) : ∃ h', gm_co mX11_moves 3 [.ref m, .int (zI (i : Int)), .int (zI x)] h (.inl (some (.int (zI (zB (!zOf F i x 8)))))) h' ∧ h'.1[m]? = some (md_c m K) ∧ h'.1[m + 1]? = some (gA 118 (zMv F i x 8)) ∧ gh_fr h h' (fun k => k = m + 1) := by
  obtain ⟨h', e1, e2⟩ := mv_in (x := x) hv hi hx 8 0 h rfl hM (by rw [zMv_0]; exact hV)
  refine ⟨h', ?_, e2⟩
  refine gm_co_of _ (by decide +kernel) rfl (Nat.le_of_ble_eq_true rfl) rfl ?_
  refine gm_go.ru (gi_const dX11_moves_0) ?_
  refine gm_go.ru (gm_istore_n (ls' := [_, _, _, _, _]) dX11_moves_1 (by decide) rfl) ?_
  refine gm_go.ru (gi_const dX11_moves_2) ?_
  refine gm_go.ru (gm_istore (ls' := [_, _, _, _, _]) dX11_moves_3 (by decide) rfl) ?_
  exact e1
set_option maxRecDepth 4000 in
theorem ct_mshiftsX {h : gm_H} {m : Nat} {K F : Nat → Int} (hM : h.1[m]? = some (md_c m K)) (hV : h.1[m + 1]? = some (gA 118 F)) {T : Nat} {a b c : Int} (hv : st_iv T F) (ha : zR a) (hb : zR b) (hq : zqWhy F 2 a b 0 ≠ 0) : ∃ h' F', gm_co mX11_shifts 5 [.ref m, .int (zI a), .int (zI b)] h (.inl (some (.int (zI 0)))) h' ∧ h'.1[m]? = some (md_c m (zU K 0 (zCd 2 (zqWhy F 2 a b 0)))) ∧ h'.1[m + 1]? = some (gA 118 F') ∧ gh_fr h h' (fun k => k = m ∨ k = m + 1) := by
  unfold zqWhy zqShift zqMove at *
  simp only at *
  by_cases c1 : 0 ≤ a ∧ a < F 0
  ·
    rw [if_neg (fun z => z c1)] at hq ⊢
    obtain ⟨i, rfl⟩ : ∃ i : Nat, a = (i : Int) := ⟨a.toNat, by omega⟩
    have h8 : i < 8 := by have := hv.1.1; omega
    rw [Int.toNat_natCast] at hq ⊢
    by_cases c2 : b < -40 ∨ 40 < b
    ·
      rw [if_pos c2]
      refine ⟨(h.1.set m (md_c m (zU K 0 2)), h.2), F, ?_, gs_s hM, gs_n hV (by omega), gh_set gh_rf (Or.inl rfl) _⟩
      refine gm_co_of _ (by decide +kernel) rfl (Nat.le_of_ble_eq_true rfl) rfl ?_
      refine gm_go.ru (gm_aload_n dX11_shifts_0 rfl (by first | exact Or.inl ⟨_, rfl⟩ | exact Or.inr ⟨_, rfl⟩)) ?_
      refine gm_go.ru (gm_iload_n dX11_shifts_1 rfl) ?_
      refine gm_go.ru (gm_cV dX11_shifts_2 (ct_mIsN hM hV hv.1 ha) rfl mt_X11_isNeedle mv_X11_isNeedle (lk_X11_87 rfl) (Or.inl ⟨_, 12, _, _, _, rfl, hM, rfl⟩) rfl (Nat.le_of_ble_eq_true rfl) (by decide)) ?_
      rw [zB_t c1]
      refine gm_go.ru (gi_if_ne_t (tgt := 14) dX11_shifts_5 (by decide) (by decide) (by decide)) ?_
      refine gm_go.ru (gm_iload_n dX11_shifts_14 rfl) ?_
      refine gm_go.ru (gi_bipush dX11_shifts_15 (by decide +kernel)) ?_
      refine gm_go.ru (gi_bipush dX11_shifts_17 (by decide +kernel)) ?_
      refine gm_go.ru (gm_cS dX11_shifts_19 (ct_mIsIn hb (by decide) (by decide)) rfl mt_X11_isIn ms_X11_isIn (lk_X11_63 rfl) rfl (Nat.le_of_ble_eq_true rfl) (by decide)) ?_
      rw [zB_f (show ¬ (-40 ≤ b ∧ b ≤ 40) by omega)]
      refine gm_go.ru (gi_if_ne_f 31 dX11_shifts_22 (by decide) (by decide) rfl) ?_
      refine gm_go.ru (gm_aload_n dX11_shifts_25 rfl (by first | exact Or.inl ⟨_, rfl⟩ | exact Or.inr ⟨_, rfl⟩)) ?_
      refine gm_go.ru (gi_const dX11_shifts_26) ?_
      refine gm_go.ru (gm_cV dX11_shifts_27 (ct_mFail hM (x := 2)) rfl mt_X11_fail mv_X11_fail (lk_X11_74 rfl) (Or.inl ⟨_, 12, _, _, _, rfl, hM, rfl⟩) rfl (Nat.le_of_ble_eq_true rfl) (by decide)) ?_
      exact gm_iret dX11_shifts_30 rfl
    ·
      rw [if_neg c2] at hq ⊢
      by_cases c4 : F (11 + 10 * i) = 1
      ·
        rw [if_pos c4]
        refine ⟨(h.1.set m (md_c m (zU K 0 3)), h.2), F, ?_, gs_s hM, gs_n hV (by omega), gh_set gh_rf (Or.inl rfl) _⟩
        refine gm_co_of _ (by decide +kernel) rfl (Nat.le_of_ble_eq_true rfl) rfl ?_
        refine gm_go.ru (gm_aload_n dX11_shifts_0 rfl (by first | exact Or.inl ⟨_, rfl⟩ | exact Or.inr ⟨_, rfl⟩)) ?_
        refine gm_go.ru (gm_iload_n dX11_shifts_1 rfl) ?_
        refine gm_go.ru (gm_cV dX11_shifts_2 (ct_mIsN hM hV hv.1 ha) rfl mt_X11_isNeedle mv_X11_isNeedle (lk_X11_87 rfl) (Or.inl ⟨_, 12, _, _, _, rfl, hM, rfl⟩) rfl (Nat.le_of_ble_eq_true rfl) (by decide)) ?_
        rw [zB_t c1]
        refine gm_go.ru (gi_if_ne_t (tgt := 14) dX11_shifts_5 (by decide) (by decide) (by decide)) ?_
        refine gm_go.ru (gm_iload_n dX11_shifts_14 rfl) ?_
        refine gm_go.ru (gi_bipush dX11_shifts_15 (by decide +kernel)) ?_
        refine gm_go.ru (gi_bipush dX11_shifts_17 (by decide +kernel)) ?_
        refine gm_go.ru (gm_cS dX11_shifts_19 (ct_mIsIn hb (by decide) (by decide)) rfl mt_X11_isIn ms_X11_isIn (lk_X11_63 rfl) rfl (Nat.le_of_ble_eq_true rfl) (by decide)) ?_
        rw [zB_t (show -40 ≤ b ∧ b ≤ 40 by omega)]
        refine gm_go.ru (gi_if_ne_t (tgt := 31) dX11_shifts_22 (by decide) (by decide) (by decide)) ?_
        refine gm_go.ru (gm_aload_n dX11_shifts_31 rfl (by first | exact Or.inl ⟨_, rfl⟩ | exact Or.inr ⟨_, rfl⟩)) ?_
        refine gm_go.ru (gm_get dX11_shifts_32 (fl_X11_16 rfl) hM rfl) ?_
        refine gm_go.ru (gm_iload_n dX11_shifts_35 rfl) ?_
        refine gm_go.ru (gi_const dX11_shifts_36) ?_
        refine gm_go.ru (gm_cS dX11_shifts_37 (ct_mOf (i := i) (w := 1)) rfl mt_X11_of ms_X11_of (lk_X11_67 rfl) rfl (Nat.le_of_ble_eq_true rfl) (by decide)) ?_
        rw [show 10 + 10 * i + 1 = 11 + 10 * i by omega]
        refine gm_go.ru (gi_aldN dX11_shifts_40 hV (by omega) (by decide)) ?_
        have hg := hv.1.2.2.2.1 i h8
        refine gm_go.ru (gi_const dX11_shifts_41) ?_
        refine gm_go.ru (gi_icmp_ne_f 51 dX11_shifts_42 (by decide) (by omega) (by omega) (by omega)) ?_
        refine gm_go.ru (gm_aload_n dX11_shifts_45 rfl (by first | exact Or.inl ⟨_, rfl⟩ | exact Or.inr ⟨_, rfl⟩)) ?_
        refine gm_go.ru (gi_const dX11_shifts_46) ?_
        refine gm_go.ru (gm_cV dX11_shifts_47 (ct_mFail hM (x := 3)) rfl mt_X11_fail mv_X11_fail (lk_X11_74 rfl) (Or.inl ⟨_, 12, _, _, _, rfl, hM, rfl⟩) rfl (Nat.le_of_ble_eq_true rfl) (by decide)) ?_
        exact gm_iret dX11_shifts_50 rfl
      ·
        rw [if_neg c4] at hq ⊢
        cases c5 : zOf F i (b) 8
        · rw [c5] at hq; exact absurd rfl hq
        ·
          obtain ⟨g, e1, e2, e3, e4⟩ := ct_mMoves (x := b) hM hV hv.1 h8 (by omega)
          rw [c5] at e1
          refine ⟨(g.1.set m (md_c m (zU K 0 4)), g.2), _, ?_, gs_s e2, gs_n e3 (by omega), gh_set (K := fun k => k = m ∨ k = m + 1) (gh_mono e4 fun k z => Or.inr z) (Or.inl rfl) _⟩
          refine gm_co_of _ (by decide +kernel) rfl (Nat.le_of_ble_eq_true rfl) rfl ?_
          refine gm_go.ru (gm_aload_n dX11_shifts_0 rfl (by first | exact Or.inl ⟨_, rfl⟩ | exact Or.inr ⟨_, rfl⟩)) ?_
          refine gm_go.ru (gm_iload_n dX11_shifts_1 rfl) ?_
          refine gm_go.ru (gm_cV dX11_shifts_2 (ct_mIsN hM hV hv.1 ha) rfl mt_X11_isNeedle mv_X11_isNeedle (lk_X11_87 rfl) (Or.inl ⟨_, 12, _, _, _, rfl, hM, rfl⟩) rfl (Nat.le_of_ble_eq_true rfl) (by decide)) ?_
          rw [zB_t c1]
          refine gm_go.ru (gi_if_ne_t (tgt := 14) dX11_shifts_5 (by decide) (by decide) (by decide)) ?_
          refine gm_go.ru (gm_iload_n dX11_shifts_14 rfl) ?_
          refine gm_go.ru (gi_bipush dX11_shifts_15 (by decide +kernel)) ?_
          refine gm_go.ru (gi_bipush dX11_shifts_17 (by decide +kernel)) ?_
          refine gm_go.ru (gm_cS dX11_shifts_19 (ct_mIsIn hb (by decide) (by decide)) rfl mt_X11_isIn ms_X11_isIn (lk_X11_63 rfl) rfl (Nat.le_of_ble_eq_true rfl) (by decide)) ?_
          rw [zB_t (show -40 ≤ b ∧ b ≤ 40 by omega)]
          refine gm_go.ru (gi_if_ne_t (tgt := 31) dX11_shifts_22 (by decide) (by decide) (by decide)) ?_
          refine gm_go.ru (gm_aload_n dX11_shifts_31 rfl (by first | exact Or.inl ⟨_, rfl⟩ | exact Or.inr ⟨_, rfl⟩)) ?_
          refine gm_go.ru (gm_get dX11_shifts_32 (fl_X11_16 rfl) hM rfl) ?_
          refine gm_go.ru (gm_iload_n dX11_shifts_35 rfl) ?_
          refine gm_go.ru (gi_const dX11_shifts_36) ?_
          refine gm_go.ru (gm_cS dX11_shifts_37 (ct_mOf (i := i) (w := 1)) rfl mt_X11_of ms_X11_of (lk_X11_67 rfl) rfl (Nat.le_of_ble_eq_true rfl) (by decide)) ?_
          rw [show 10 + 10 * i + 1 = 11 + 10 * i by omega]
          refine gm_go.ru (gi_aldN dX11_shifts_40 hV (by omega) (by decide)) ?_
          have hg := hv.1.2.2.2.1 i h8
          refine gm_go.ru (gi_const dX11_shifts_41) ?_
          refine gm_go.ru (gi_icmp_ne_t (tgt := 51) dX11_shifts_42 (by decide) (by omega) (by omega) (by omega)) ?_
          refine gm_go.ru (gm_aload_n dX11_shifts_51 rfl (by first | exact Or.inl ⟨_, rfl⟩ | exact Or.inr ⟨_, rfl⟩)) ?_
          refine gm_go.ru (gm_iload_n dX11_shifts_52 rfl) ?_
          refine gm_go.ru (gm_iload_n dX11_shifts_53 rfl) ?_
          refine gm_go.ru (gm_cV dX11_shifts_54 (e1) rfl mt_X11_moves mv_X11_moves (lk_X11_98 rfl) (Or.inl ⟨_, 12, _, _, _, rfl, hM, rfl⟩) rfl (Nat.le_of_ble_eq_true rfl) (by decide)) ?_
          refine gm_go.ru (gi_if_eq_t (tgt := 69) dX11_shifts_57 (by decide) (by decide) rfl) ?_
          refine gm_go.ru (gm_aload_n dX11_shifts_69 rfl (by first | exact Or.inl ⟨_, rfl⟩ | exact Or.inr ⟨_, rfl⟩)) ?_
          refine gm_go.ru (gi_const dX11_shifts_70) ?_
          refine gm_go.ru (gm_cV dX11_shifts_71 (ct_mFail e2 (x := 4)) rfl mt_X11_fail mv_X11_fail (lk_X11_74 rfl) (Or.inl ⟨_, 12, _, _, _, rfl, e2, rfl⟩) rfl (Nat.le_of_ble_eq_true rfl) (by decide)) ?_
          exact gm_iret dX11_shifts_74 rfl
  ·
    rw [if_pos c1]
    refine ⟨(h.1.set m (md_c m (zU K 0 1)), h.2), F, ?_, gs_s hM, gs_n hV (by omega), gh_set gh_rf (Or.inl rfl) _⟩
    refine gm_co_of _ (by decide +kernel) rfl (Nat.le_of_ble_eq_true rfl) rfl ?_
    refine gm_go.ru (gm_aload_n dX11_shifts_0 rfl (by first | exact Or.inl ⟨_, rfl⟩ | exact Or.inr ⟨_, rfl⟩)) ?_
    refine gm_go.ru (gm_iload_n dX11_shifts_1 rfl) ?_
    refine gm_go.ru (gm_cV dX11_shifts_2 (ct_mIsN hM hV hv.1 ha) rfl mt_X11_isNeedle mv_X11_isNeedle (lk_X11_87 rfl) (Or.inl ⟨_, 12, _, _, _, rfl, hM, rfl⟩) rfl (Nat.le_of_ble_eq_true rfl) (by decide)) ?_
    rw [zB_f c1]
    refine gm_go.ru (gi_if_ne_f 14 dX11_shifts_5 (by decide) (by decide) rfl) ?_
    refine gm_go.ru (gm_aload_n dX11_shifts_8 rfl (by first | exact Or.inl ⟨_, rfl⟩ | exact Or.inr ⟨_, rfl⟩)) ?_
    refine gm_go.ru (gi_const dX11_shifts_9) ?_
    refine gm_go.ru (gm_cV dX11_shifts_10 (ct_mFail hM (x := 1)) rfl mt_X11_fail mv_X11_fail (lk_X11_74 rfl) (Or.inl ⟨_, 12, _, _, _, rfl, hM, rfl⟩) rfl (Nat.le_of_ble_eq_true rfl) (by decide)) ?_
    exact gm_iret dX11_shifts_13 rfl
set_option maxRecDepth 4000 in
theorem ct_mshifts {h : gm_H} {m : Nat} {K F : Nat → Int} (hM : h.1[m]? = some (md_c m K)) (hV : h.1[m + 1]? = some (gA 118 F)) {T : Nat} {a b c : Int} (hv : st_iv T F) (ha : zR a) (hb : zR b) (hq : zqWhy F 2 a b 0 = 0) : ∃ h' F', gm_co mX11_shifts 5 [.ref m, .int (zI a), .int (zI b)] h (.inl (some (.int (zI (zAn F 2 a b 0))))) h' ∧ h'.1[m]? = some (md_c m K) ∧ h'.1[m + 1]? = some (gA 118 F') ∧ (∀ k, k < 118 → F' k = zDo F 2 a b 0 k) ∧ gh_fr h h' (fun k => k = m + 1) := by
  have q0 : (0 ≤ a ∧ a < F 0) ∧ (-40 ≤ b ∧ b ≤ 40) ∧ ¬ F (11 + 10 * a.toNat) = 1 ∧ zOf F a.toNat b 8 = false := by
    unfold zqWhy zqShift zqMove at hq
    simp only at hq
    (repeat' split at hq) <;> first | (exfalso; omega) | (refine ⟨by omega, by first | omega | trivial, by assumption, ?_⟩; simp_all)
  obtain ⟨c1, cc, cg, co⟩ := q0
  obtain ⟨i, rfl⟩ : ∃ i : Nat, a = (i : Int) := ⟨a.toNat, by omega⟩
  have h8 : i < 8 := by have := hv.1.1; omega
  rw [Int.toNat_natCast] at cg co
  have hr := zSS_r hv.1 h8
  obtain ⟨g, e1, e2, e3, e4⟩ := ct_mMoves (x := b) hM hV hv.1 h8 (by omega)
  rw [co] at e1
  refine ⟨g, _, ?_, e2, e3, fun k hk => ?_, e4⟩
  ·
    show gm_co _ _ _ _ (.inl (some (.int (zI (zE (zMv F (i : Int).toNat b 8) (i : Int).toNat 0))))) _
    rw [Int.toNat_natCast]
    refine gm_co_of _ (by decide +kernel) rfl (Nat.le_of_ble_eq_true rfl) rfl ?_
    refine gm_go.ru (gm_aload_n dX11_shifts_0 rfl (by first | exact Or.inl ⟨_, rfl⟩ | exact Or.inr ⟨_, rfl⟩)) ?_
    refine gm_go.ru (gm_iload_n dX11_shifts_1 rfl) ?_
    refine gm_go.ru (gm_cV dX11_shifts_2 (ct_mIsN hM hV hv.1 ha) rfl mt_X11_isNeedle mv_X11_isNeedle (lk_X11_87 rfl) (Or.inl ⟨_, 12, _, _, _, rfl, hM, rfl⟩) rfl (Nat.le_of_ble_eq_true rfl) (by decide)) ?_
    rw [zB_t c1]
    refine gm_go.ru (gi_if_ne_t (tgt := 14) dX11_shifts_5 (by decide) (by decide) (by decide)) ?_
    refine gm_go.ru (gm_iload_n dX11_shifts_14 rfl) ?_
    refine gm_go.ru (gi_bipush dX11_shifts_15 (by decide +kernel)) ?_
    refine gm_go.ru (gi_bipush dX11_shifts_17 (by decide +kernel)) ?_
    refine gm_go.ru (gm_cS dX11_shifts_19 (ct_mIsIn hb (by decide) (by decide)) rfl mt_X11_isIn ms_X11_isIn (lk_X11_63 rfl) rfl (Nat.le_of_ble_eq_true rfl) (by decide)) ?_
    rw [zB_t (show -40 ≤ b ∧ b ≤ 40 by omega)]
    refine gm_go.ru (gi_if_ne_t (tgt := 31) dX11_shifts_22 (by decide) (by decide) (by decide)) ?_
    refine gm_go.ru (gm_aload_n dX11_shifts_31 rfl (by first | exact Or.inl ⟨_, rfl⟩ | exact Or.inr ⟨_, rfl⟩)) ?_
    refine gm_go.ru (gm_get dX11_shifts_32 (fl_X11_16 rfl) hM rfl) ?_
    refine gm_go.ru (gm_iload_n dX11_shifts_35 rfl) ?_
    refine gm_go.ru (gi_const dX11_shifts_36) ?_
    refine gm_go.ru (gm_cS dX11_shifts_37 (ct_mOf (i := i) (w := 1)) rfl mt_X11_of ms_X11_of (lk_X11_67 rfl) rfl (Nat.le_of_ble_eq_true rfl) (by decide)) ?_
    rw [show 10 + 10 * i + 1 = 11 + 10 * i by omega]
    refine gm_go.ru (gi_aldN dX11_shifts_40 hV (by omega) (by decide)) ?_
    have hg := hv.1.2.2.2.1 i h8
    refine gm_go.ru (gi_const dX11_shifts_41) ?_
    refine gm_go.ru (gi_icmp_ne_t (tgt := 51) dX11_shifts_42 (by decide) (by omega) (by omega) (by omega)) ?_
    refine gm_go.ru (gm_aload_n dX11_shifts_51 rfl (by first | exact Or.inl ⟨_, rfl⟩ | exact Or.inr ⟨_, rfl⟩)) ?_
    refine gm_go.ru (gm_iload_n dX11_shifts_52 rfl) ?_
    refine gm_go.ru (gm_iload_n dX11_shifts_53 rfl) ?_
    refine gm_go.ru (gm_cV dX11_shifts_54 (e1) rfl mt_X11_moves mv_X11_moves (lk_X11_98 rfl) (Or.inl ⟨_, 12, _, _, _, rfl, hM, rfl⟩) rfl (Nat.le_of_ble_eq_true rfl) (by decide)) ?_
    refine gm_go.ru (gi_if_eq_f 69 dX11_shifts_57 (by decide) (by decide) (by decide)) ?_
    refine gm_go.ru (gm_aload_n dX11_shifts_60 rfl (by first | exact Or.inl ⟨_, rfl⟩ | exact Or.inr ⟨_, rfl⟩)) ?_
    refine gm_go.ru (gm_iload_n dX11_shifts_61 rfl) ?_
    refine gm_go.ru (gi_const dX11_shifts_62) ?_
    refine gm_go.ru (gm_cV dX11_shifts_63 (ct_mError e2 e3 h8) rfl mt_X11_error mv_X11_error (lk_X11_102 rfl) (Or.inl ⟨_, 12, _, _, _, rfl, e2, rfl⟩) rfl (Nat.le_of_ble_eq_true rfl) (by decide)) ?_
    refine gm_go.ru (gm_goto (tgt := 74) dX11_shifts_66 (by decide)) ?_
    exact gm_iret dX11_shifts_74 rfl
  · rw [show zDo F 2 (i : Int) b 0 = zMv F (i : Int).toNat b 8 from rfl, Int.toNat_natCast]
set_option maxRecDepth 4000 in
theorem ct_mcorrectsX {h : gm_H} {m : Nat} {K F : Nat → Int} (hM : h.1[m]? = some (md_c m K)) (hV : h.1[m + 1]? = some (gA 118 F)) {T : Nat} {a b c : Int} (hv : st_iv T F) (ha : zR a) (hq : zqWhy F 3 a 0 0 ≠ 0) : ∃ h' F', gm_co mX11_corrects 5 [.ref m, .int (zI a)] h (.inl (some (.int (zI 0)))) h' ∧ h'.1[m]? = some (md_c m (zU K 0 (zCd 3 (zqWhy F 3 a 0 0)))) ∧ h'.1[m + 1]? = some (gA 118 F') ∧ gh_fr h h' (fun k => k = m ∨ k = m + 1) := by
  unfold zqWhy zqCorrect zqMove at *
  simp only at *
  by_cases c1 : 0 ≤ a ∧ a < F 0
  ·
    rw [if_neg (fun z => z c1)] at hq ⊢
    obtain ⟨i, rfl⟩ : ∃ i : Nat, a = (i : Int) := ⟨a.toNat, by omega⟩
    have h8 : i < 8 := by have := hv.1.1; omega
    rw [Int.toNat_natCast] at hq ⊢
    have hr := zSS_r hv.1 h8
    by_cases c4 : F (11 + 10 * i) = 1
    ·
      rw [if_pos c4]
      refine ⟨(h.1.set m (md_c m (zU K 0 2)), h.2), F, ?_, gs_s hM, gs_n hV (by omega), gh_set gh_rf (Or.inl rfl) _⟩
      refine gm_co_of _ (by decide +kernel) rfl (Nat.le_of_ble_eq_true rfl) rfl ?_
      refine gm_go.ru (gm_aload_n dX11_corrects_0 rfl (by first | exact Or.inl ⟨_, rfl⟩ | exact Or.inr ⟨_, rfl⟩)) ?_
      refine gm_go.ru (gm_iload_n dX11_corrects_1 rfl) ?_
      refine gm_go.ru (gm_cV dX11_corrects_2 (ct_mIsN hM hV hv.1 ha) rfl mt_X11_isNeedle mv_X11_isNeedle (lk_X11_87 rfl) (Or.inl ⟨_, 12, _, _, _, rfl, hM, rfl⟩) rfl (Nat.le_of_ble_eq_true rfl) (by decide)) ?_
      rw [zB_t c1]
      refine gm_go.ru (gi_if_ne_t (tgt := 14) dX11_corrects_5 (by decide) (by decide) (by decide)) ?_
      refine gm_go.ru (gm_aload_n dX11_corrects_14 rfl (by first | exact Or.inl ⟨_, rfl⟩ | exact Or.inr ⟨_, rfl⟩)) ?_
      refine gm_go.ru (gm_get dX11_corrects_15 (fl_X11_16 rfl) hM rfl) ?_
      refine gm_go.ru (gm_iload_n dX11_corrects_18 rfl) ?_
      refine gm_go.ru (gi_const dX11_corrects_19) ?_
      refine gm_go.ru (gm_cS dX11_corrects_20 (ct_mOf (i := i) (w := 1)) rfl mt_X11_of ms_X11_of (lk_X11_67 rfl) rfl (Nat.le_of_ble_eq_true rfl) (by decide)) ?_
      rw [show 10 + 10 * i + 1 = 11 + 10 * i by omega]
      refine gm_go.ru (gi_aldN dX11_corrects_23 hV (by omega) (by decide)) ?_
      have hg := hv.1.2.2.2.1 i h8
      refine gm_go.ru (gi_const dX11_corrects_24) ?_
      refine gm_go.ru (gi_icmp_ne_f 34 dX11_corrects_25 (by decide) (by omega) (by omega) (by omega)) ?_
      refine gm_go.ru (gm_aload_n dX11_corrects_28 rfl (by first | exact Or.inl ⟨_, rfl⟩ | exact Or.inr ⟨_, rfl⟩)) ?_
      refine gm_go.ru (gi_const dX11_corrects_29) ?_
      refine gm_go.ru (gm_cV dX11_corrects_30 (ct_mFail hM (x := 2)) rfl mt_X11_fail mv_X11_fail (lk_X11_74 rfl) (Or.inl ⟨_, 12, _, _, _, rfl, hM, rfl⟩) rfl (Nat.le_of_ble_eq_true rfl) (by decide)) ?_
      exact gm_iret dX11_corrects_33 rfl
    ·
      rw [if_neg c4] at hq ⊢
      cases c5 : zOf F i (zSS F i) 8
      · rw [c5] at hq; exact absurd rfl hq
      ·
        obtain ⟨g, e1, e2, e3, e4⟩ := ct_mMoves (x := zSS F i) hM hV hv.1 h8 (by omega)
        rw [c5] at e1
        refine ⟨(g.1.set m (md_c m (zU K 0 3)), g.2), _, ?_, gs_s e2, gs_n e3 (by omega), gh_set (K := fun k => k = m ∨ k = m + 1) (gh_mono e4 fun k z => Or.inr z) (Or.inl rfl) _⟩
        refine gm_co_of _ (by decide +kernel) rfl (Nat.le_of_ble_eq_true rfl) rfl ?_
        refine gm_go.ru (gm_aload_n dX11_corrects_0 rfl (by first | exact Or.inl ⟨_, rfl⟩ | exact Or.inr ⟨_, rfl⟩)) ?_
        refine gm_go.ru (gm_iload_n dX11_corrects_1 rfl) ?_
        refine gm_go.ru (gm_cV dX11_corrects_2 (ct_mIsN hM hV hv.1 ha) rfl mt_X11_isNeedle mv_X11_isNeedle (lk_X11_87 rfl) (Or.inl ⟨_, 12, _, _, _, rfl, hM, rfl⟩) rfl (Nat.le_of_ble_eq_true rfl) (by decide)) ?_
        rw [zB_t c1]
        refine gm_go.ru (gi_if_ne_t (tgt := 14) dX11_corrects_5 (by decide) (by decide) (by decide)) ?_
        refine gm_go.ru (gm_aload_n dX11_corrects_14 rfl (by first | exact Or.inl ⟨_, rfl⟩ | exact Or.inr ⟨_, rfl⟩)) ?_
        refine gm_go.ru (gm_get dX11_corrects_15 (fl_X11_16 rfl) hM rfl) ?_
        refine gm_go.ru (gm_iload_n dX11_corrects_18 rfl) ?_
        refine gm_go.ru (gi_const dX11_corrects_19) ?_
        refine gm_go.ru (gm_cS dX11_corrects_20 (ct_mOf (i := i) (w := 1)) rfl mt_X11_of ms_X11_of (lk_X11_67 rfl) rfl (Nat.le_of_ble_eq_true rfl) (by decide)) ?_
        rw [show 10 + 10 * i + 1 = 11 + 10 * i by omega]
        refine gm_go.ru (gi_aldN dX11_corrects_23 hV (by omega) (by decide)) ?_
        have hg := hv.1.2.2.2.1 i h8
        refine gm_go.ru (gi_const dX11_corrects_24) ?_
        refine gm_go.ru (gi_icmp_ne_t (tgt := 34) dX11_corrects_25 (by decide) (by omega) (by omega) (by omega)) ?_
        refine gm_go.ru (gm_aload_n dX11_corrects_34 rfl (by first | exact Or.inl ⟨_, rfl⟩ | exact Or.inr ⟨_, rfl⟩)) ?_
        refine gm_go.ru (gm_iload_n dX11_corrects_35 rfl) ?_
        refine gm_go.ru (gm_cV dX11_corrects_36 (ct_mBest hM hV hv.1 h8) rfl mt_X11_bestFor mv_X11_bestFor (lk_X11_108 rfl) (Or.inl ⟨_, 12, _, _, _, rfl, hM, rfl⟩) rfl (Nat.le_of_ble_eq_true rfl) (by decide)) ?_
        refine gm_go.ru (gm_istore_n (ls' := [_, _, _]) dX11_corrects_39 (by decide) rfl) ?_
        refine gm_go.ru (gm_aload_n dX11_corrects_40 rfl (by first | exact Or.inl ⟨_, rfl⟩ | exact Or.inr ⟨_, rfl⟩)) ?_
        refine gm_go.ru (gm_iload_n dX11_corrects_41 rfl) ?_
        refine gm_go.ru (gm_iload_n dX11_corrects_42 rfl) ?_
        refine gm_go.ru (gm_cV dX11_corrects_43 (e1) rfl mt_X11_moves mv_X11_moves (lk_X11_98 rfl) (Or.inl ⟨_, 12, _, _, _, rfl, hM, rfl⟩) rfl (Nat.le_of_ble_eq_true rfl) (by decide)) ?_
        refine gm_go.ru (gi_if_eq_t (tgt := 53) dX11_corrects_46 (by decide) (by decide) rfl) ?_
        refine gm_go.ru (gm_aload_n dX11_corrects_53 rfl (by first | exact Or.inl ⟨_, rfl⟩ | exact Or.inr ⟨_, rfl⟩)) ?_
        refine gm_go.ru (gi_const dX11_corrects_54) ?_
        refine gm_go.ru (gm_cV dX11_corrects_55 (ct_mFail e2 (x := 3)) rfl mt_X11_fail mv_X11_fail (lk_X11_74 rfl) (Or.inl ⟨_, 12, _, _, _, rfl, e2, rfl⟩) rfl (Nat.le_of_ble_eq_true rfl) (by decide)) ?_
        exact gm_iret dX11_corrects_58 rfl
  ·
    rw [if_pos c1]
    refine ⟨(h.1.set m (md_c m (zU K 0 1)), h.2), F, ?_, gs_s hM, gs_n hV (by omega), gh_set gh_rf (Or.inl rfl) _⟩
    refine gm_co_of _ (by decide +kernel) rfl (Nat.le_of_ble_eq_true rfl) rfl ?_
    refine gm_go.ru (gm_aload_n dX11_corrects_0 rfl (by first | exact Or.inl ⟨_, rfl⟩ | exact Or.inr ⟨_, rfl⟩)) ?_
    refine gm_go.ru (gm_iload_n dX11_corrects_1 rfl) ?_
    refine gm_go.ru (gm_cV dX11_corrects_2 (ct_mIsN hM hV hv.1 ha) rfl mt_X11_isNeedle mv_X11_isNeedle (lk_X11_87 rfl) (Or.inl ⟨_, 12, _, _, _, rfl, hM, rfl⟩) rfl (Nat.le_of_ble_eq_true rfl) (by decide)) ?_
    rw [zB_f c1]
    refine gm_go.ru (gi_if_ne_f 14 dX11_corrects_5 (by decide) (by decide) rfl) ?_
    refine gm_go.ru (gm_aload_n dX11_corrects_8 rfl (by first | exact Or.inl ⟨_, rfl⟩ | exact Or.inr ⟨_, rfl⟩)) ?_
    refine gm_go.ru (gi_const dX11_corrects_9) ?_
    refine gm_go.ru (gm_cV dX11_corrects_10 (ct_mFail hM (x := 1)) rfl mt_X11_fail mv_X11_fail (lk_X11_74 rfl) (Or.inl ⟨_, 12, _, _, _, rfl, hM, rfl⟩) rfl (Nat.le_of_ble_eq_true rfl) (by decide)) ?_
    exact gm_iret dX11_corrects_13 rfl
set_option maxRecDepth 4000 in
theorem ct_mcorrects {h : gm_H} {m : Nat} {K F : Nat → Int} (hM : h.1[m]? = some (md_c m K)) (hV : h.1[m + 1]? = some (gA 118 F)) {T : Nat} {a b c : Int} (hv : st_iv T F) (ha : zR a) (hq : zqWhy F 3 a 0 0 = 0) : ∃ h' F', gm_co mX11_corrects 5 [.ref m, .int (zI a)] h (.inl (some (.int (zI (zAn F 3 a 0 0))))) h' ∧ h'.1[m]? = some (md_c m K) ∧ h'.1[m + 1]? = some (gA 118 F') ∧ (∀ k, k < 118 → F' k = zDo F 3 a 0 0 k) ∧ gh_fr h h' (fun k => k = m + 1) := by
  have q0 : (0 ≤ a ∧ a < F 0) ∧ True ∧ ¬ F (11 + 10 * a.toNat) = 1 ∧ zOf F a.toNat (zSS F a.toNat) 8 = false := by
    unfold zqWhy zqCorrect zqMove at hq
    simp only at hq
    (repeat' split at hq) <;> first | (exfalso; omega) | (refine ⟨by omega, by first | omega | trivial, by assumption, ?_⟩; simp_all)
  obtain ⟨c1, cc, cg, co⟩ := q0
  obtain ⟨i, rfl⟩ : ∃ i : Nat, a = (i : Int) := ⟨a.toNat, by omega⟩
  have h8 : i < 8 := by have := hv.1.1; omega
  rw [Int.toNat_natCast] at cg co
  have hr := zSS_r hv.1 h8
  obtain ⟨g, e1, e2, e3, e4⟩ := ct_mMoves (x := zSS F i) hM hV hv.1 h8 (by omega)
  rw [co] at e1
  refine ⟨g, _, ?_, e2, e3, fun k hk => ?_, e4⟩
  ·
    show gm_co _ _ _ _ (.inl (some (.int (zI (zSS F (i : Int).toNat))))) _
    rw [Int.toNat_natCast]
    refine gm_co_of _ (by decide +kernel) rfl (Nat.le_of_ble_eq_true rfl) rfl ?_
    refine gm_go.ru (gm_aload_n dX11_corrects_0 rfl (by first | exact Or.inl ⟨_, rfl⟩ | exact Or.inr ⟨_, rfl⟩)) ?_
    refine gm_go.ru (gm_iload_n dX11_corrects_1 rfl) ?_
    refine gm_go.ru (gm_cV dX11_corrects_2 (ct_mIsN hM hV hv.1 ha) rfl mt_X11_isNeedle mv_X11_isNeedle (lk_X11_87 rfl) (Or.inl ⟨_, 12, _, _, _, rfl, hM, rfl⟩) rfl (Nat.le_of_ble_eq_true rfl) (by decide)) ?_
    rw [zB_t c1]
    refine gm_go.ru (gi_if_ne_t (tgt := 14) dX11_corrects_5 (by decide) (by decide) (by decide)) ?_
    refine gm_go.ru (gm_aload_n dX11_corrects_14 rfl (by first | exact Or.inl ⟨_, rfl⟩ | exact Or.inr ⟨_, rfl⟩)) ?_
    refine gm_go.ru (gm_get dX11_corrects_15 (fl_X11_16 rfl) hM rfl) ?_
    refine gm_go.ru (gm_iload_n dX11_corrects_18 rfl) ?_
    refine gm_go.ru (gi_const dX11_corrects_19) ?_
    refine gm_go.ru (gm_cS dX11_corrects_20 (ct_mOf (i := i) (w := 1)) rfl mt_X11_of ms_X11_of (lk_X11_67 rfl) rfl (Nat.le_of_ble_eq_true rfl) (by decide)) ?_
    rw [show 10 + 10 * i + 1 = 11 + 10 * i by omega]
    refine gm_go.ru (gi_aldN dX11_corrects_23 hV (by omega) (by decide)) ?_
    have hg := hv.1.2.2.2.1 i h8
    refine gm_go.ru (gi_const dX11_corrects_24) ?_
    refine gm_go.ru (gi_icmp_ne_t (tgt := 34) dX11_corrects_25 (by decide) (by omega) (by omega) (by omega)) ?_
    refine gm_go.ru (gm_aload_n dX11_corrects_34 rfl (by first | exact Or.inl ⟨_, rfl⟩ | exact Or.inr ⟨_, rfl⟩)) ?_
    refine gm_go.ru (gm_iload_n dX11_corrects_35 rfl) ?_
    refine gm_go.ru (gm_cV dX11_corrects_36 (ct_mBest hM hV hv.1 h8) rfl mt_X11_bestFor mv_X11_bestFor (lk_X11_108 rfl) (Or.inl ⟨_, 12, _, _, _, rfl, hM, rfl⟩) rfl (Nat.le_of_ble_eq_true rfl) (by decide)) ?_
    refine gm_go.ru (gm_istore_n (ls' := [_, _, _]) dX11_corrects_39 (by decide) rfl) ?_
    refine gm_go.ru (gm_aload_n dX11_corrects_40 rfl (by first | exact Or.inl ⟨_, rfl⟩ | exact Or.inr ⟨_, rfl⟩)) ?_
    refine gm_go.ru (gm_iload_n dX11_corrects_41 rfl) ?_
    refine gm_go.ru (gm_iload_n dX11_corrects_42 rfl) ?_
    refine gm_go.ru (gm_cV dX11_corrects_43 (e1) rfl mt_X11_moves mv_X11_moves (lk_X11_98 rfl) (Or.inl ⟨_, 12, _, _, _, rfl, hM, rfl⟩) rfl (Nat.le_of_ble_eq_true rfl) (by decide)) ?_
    refine gm_go.ru (gi_if_eq_f 53 dX11_corrects_46 (by decide) (by decide) (by decide)) ?_
    refine gm_go.ru (gm_iload_n dX11_corrects_49 rfl) ?_
    refine gm_go.ru (gm_goto (tgt := 58) dX11_corrects_50 (by decide)) ?_
    exact gm_iret dX11_corrects_58 rfl
  · rw [show zDo F 3 (i : Int) 0 0 = zMv F (i : Int).toNat (zSS F (i : Int).toNat) 8 from rfl, Int.toNat_natCast]
/-- the discarded ones below n -/
def zGn (F : Nat → Int) : Nat → Int
  | 0 => 0
  | n + 1 => zGn F n + F (11 + 10 * n)
theorem zGn_K {F : Nat → Int} (h : ∀ i, i < 8 → F (11 + 10 * i) = 0 ∨ F (11 + 10 * i) = 1) : ∀ n, n ≤ 8 → zGn F n = ((zK (fun k => decide (F (11 + 10 * k) = 1)) n : Nat) : Int)
  | 0, _ => rfl
  | n + 1, hn => by
    rw [zGn, zGn_K h n (by omega), zK]
    have := h n (by omega)
    by_cases e : F (11 + 10 * n) = 1
    · simp [e]
    · have e0 : F (11 + 10 * n) = 0 := by omega
      simp [e0]
theorem zGn_z {F : Nat → Int} {c : Nat} (h : ∀ i, c ≤ i → i < 8 → F (11 + 10 * i) = 0) : ∀ n, c + n ≤ 8 → zGn F (c + n) = zGn F c
  | 0, _ => rfl
  | n + 1, hn => by rw [← Nat.add_assoc, zGn, zGn_z h n (by omega), h _ (by omega) (by omega), Int.add_zero]
theorem zGn_r {F : Nat → Int} (h : ∀ i, i < 8 → F (11 + 10 * i) = 0 ∨ F (11 + 10 * i) = 1) : ∀ n : Nat, n ≤ 8 → 0 ≤ zGn F n ∧ zGn F n ≤ n
  | 0, _ => by rw [zGn]; omega
  | n + 1, hn => by
    have h1 := zGn_r h n (by omega)
    have h2 := h n (by omega)
    rw [zGn]; omega
theorem zGn_p {F : Nat → Int} (hv : ∀ i, i < 8 → F (11 + 10 * i) = 0 ∨ F (11 + 10 * i) = 1) {c : Nat} (hc : c ≤ 8) (hz : ∀ i, c ≤ i → i < 8 → F (11 + 10 * i) = 0) : zGn F c = ((zPC (zG F 8) : Nat) : Int) := by
  have h1 := zGn_z hz (8 - c) (by omega)
  rw [show c + (8 - c) = 8 by omega] at h1
  rw [← h1, zGn_K hv 8 (Nat.le_refl 8), zn_pc _ (zG_lt F 8)]
  unfold zn
  rw [zK_cg 8 (fun k hk => (zG_bit F 8 k hk).symm)]
set_option maxRecDepth 4000 in
theorem ct_mdropsX {h : gm_H} {m : Nat} {K F : Nat → Int} (hM : h.1[m]? = some (md_c m K)) (hV : h.1[m + 1]? = some (gA 118 F)) {T : Nat} {a b c : Int} (hv : st_iv T F) (ha : zR a) (hq : zqWhy F 4 a 0 0 ≠ 0) : ∃ h' F', gm_co mX11_drops 3 [.ref m, .int (zI a)] h (.inl (some (.int (zI 0)))) h' ∧ h'.1[m]? = some (md_c m (zU K 0 (zCd 4 (zqWhy F 4 a 0 0)))) ∧ h'.1[m + 1]? = some (gA 118 F') ∧ gh_fr h h' (fun k => k = m ∨ k = m + 1) := by
  unfold zqWhy zqDiscard at *
  simp only at *
  by_cases c1 : 0 ≤ a ∧ a < F 0
  ·
    rw [if_neg (fun z => z c1)] at hq ⊢
    obtain ⟨i, rfl⟩ : ∃ i : Nat, a = (i : Int) := ⟨a.toNat, by omega⟩
    have h8 : i < 8 := by have := hv.1.1; omega
    rw [Int.toNat_natCast] at hq ⊢
    by_cases c4 : F (11 + 10 * i) = 1
    ·
      rw [if_pos c4]
      refine ⟨(h.1.set m (md_c m (zU K 0 2)), h.2), F, ?_, gs_s hM, gs_n hV (by omega), gh_set gh_rf (Or.inl rfl) _⟩
      refine gm_co_of _ (by decide +kernel) rfl (Nat.le_of_ble_eq_true rfl) rfl ?_
      refine gm_go.ru (gm_aload_n dX11_drops_0 rfl (by first | exact Or.inl ⟨_, rfl⟩ | exact Or.inr ⟨_, rfl⟩)) ?_
      refine gm_go.ru (gm_iload_n dX11_drops_1 rfl) ?_
      refine gm_go.ru (gm_cV dX11_drops_2 (ct_mIsN hM hV hv.1 ha) rfl mt_X11_isNeedle mv_X11_isNeedle (lk_X11_87 rfl) (Or.inl ⟨_, 12, _, _, _, rfl, hM, rfl⟩) rfl (Nat.le_of_ble_eq_true rfl) (by decide)) ?_
      rw [zB_t c1]
      refine gm_go.ru (gi_if_ne_t (tgt := 14) dX11_drops_5 (by decide) (by decide) (by decide)) ?_
      refine gm_go.ru (gm_aload_n dX11_drops_14 rfl (by first | exact Or.inl ⟨_, rfl⟩ | exact Or.inr ⟨_, rfl⟩)) ?_
      refine gm_go.ru (gm_get dX11_drops_15 (fl_X11_16 rfl) hM rfl) ?_
      refine gm_go.ru (gm_iload_n dX11_drops_18 rfl) ?_
      refine gm_go.ru (gi_const dX11_drops_19) ?_
      refine gm_go.ru (gm_cS dX11_drops_20 (ct_mOf (i := i) (w := 1)) rfl mt_X11_of ms_X11_of (lk_X11_67 rfl) rfl (Nat.le_of_ble_eq_true rfl) (by decide)) ?_
      rw [show 10 + 10 * i + 1 = 11 + 10 * i by omega]
      refine gm_go.ru (gi_aldN dX11_drops_23 hV (by omega) (by decide)) ?_
      have hg := hv.1.2.2.2.1 i h8
      refine gm_go.ru (gi_const dX11_drops_24) ?_
      refine gm_go.ru (gi_icmp_ne_f 34 dX11_drops_25 (by decide) (by omega) (by omega) (by omega)) ?_
      refine gm_go.ru (gm_aload_n dX11_drops_28 rfl (by first | exact Or.inl ⟨_, rfl⟩ | exact Or.inr ⟨_, rfl⟩)) ?_
      refine gm_go.ru (gi_const dX11_drops_29) ?_
      refine gm_go.ru (gm_cV dX11_drops_30 (ct_mFail hM (x := 2)) rfl mt_X11_fail mv_X11_fail (lk_X11_74 rfl) (Or.inl ⟨_, 12, _, _, _, rfl, hM, rfl⟩) rfl (Nat.le_of_ble_eq_true rfl) (by decide)) ?_
      exact gm_iret dX11_drops_33 rfl
    · rw [if_neg c4] at hq; exact absurd rfl hq
  ·
    rw [if_pos c1]
    refine ⟨(h.1.set m (md_c m (zU K 0 1)), h.2), F, ?_, gs_s hM, gs_n hV (by omega), gh_set gh_rf (Or.inl rfl) _⟩
    refine gm_co_of _ (by decide +kernel) rfl (Nat.le_of_ble_eq_true rfl) rfl ?_
    refine gm_go.ru (gm_aload_n dX11_drops_0 rfl (by first | exact Or.inl ⟨_, rfl⟩ | exact Or.inr ⟨_, rfl⟩)) ?_
    refine gm_go.ru (gm_iload_n dX11_drops_1 rfl) ?_
    refine gm_go.ru (gm_cV dX11_drops_2 (ct_mIsN hM hV hv.1 ha) rfl mt_X11_isNeedle mv_X11_isNeedle (lk_X11_87 rfl) (Or.inl ⟨_, 12, _, _, _, rfl, hM, rfl⟩) rfl (Nat.le_of_ble_eq_true rfl) (by decide)) ?_
    rw [zB_f c1]
    refine gm_go.ru (gi_if_ne_f 14 dX11_drops_5 (by decide) (by decide) rfl) ?_
    refine gm_go.ru (gm_aload_n dX11_drops_8 rfl (by first | exact Or.inl ⟨_, rfl⟩ | exact Or.inr ⟨_, rfl⟩)) ?_
    refine gm_go.ru (gi_const dX11_drops_9) ?_
    refine gm_go.ru (gm_cV dX11_drops_10 (ct_mFail hM (x := 1)) rfl mt_X11_fail mv_X11_fail (lk_X11_74 rfl) (Or.inl ⟨_, 12, _, _, _, rfl, hM, rfl⟩) rfl (Nat.le_of_ble_eq_true rfl) (by decide)) ?_
    exact gm_iret dX11_drops_13 rfl
set_option maxRecDepth 4000 in
theorem ct_mdrops {h : gm_H} {m : Nat} {K F : Nat → Int} (hM : h.1[m]? = some (md_c m K)) (hV : h.1[m + 1]? = some (gA 118 F)) {T : Nat} {a b c : Int} (hv : st_iv T F) (ha : zR a) (hq : zqWhy F 4 a 0 0 = 0) : ∃ h' F', gm_co mX11_drops 3 [.ref m, .int (zI a)] h (.inl (some (.int (zI (zAn F 4 a 0 0))))) h' ∧ h'.1[m]? = some (md_c m K) ∧ h'.1[m + 1]? = some (gA 118 F') ∧ (∀ k, k < 118 → F' k = zDo F 4 a 0 0 k) ∧ gh_fr h h' (fun k => k = m + 1) := by
  have q0 : (0 ≤ a ∧ a < F 0) ∧ ¬ F (11 + 10 * a.toNat) = 1 := by
    unfold zqWhy zqDiscard at hq
    simp only at hq
    (repeat' split at hq) <;> first | (exfalso; omega) | exact ⟨by omega, by assumption⟩
  obtain ⟨c1, cg⟩ := q0
  obtain ⟨cn, hc, hc8⟩ := nd_cnt hv.1
  obtain ⟨i, rfl⟩ : ∃ i : Nat, a = (i : Int) := ⟨a.toNat, by omega⟩
  have h8 : i < 8 := by omega
  rw [Int.toNat_natCast] at cg
  obtain ⟨a1, ha1⟩ : ∃ y : gm_H, y = (h.1.set (m + 1) (gA 118 (zU F (11 + 10 * i) 1)), h.2) := ⟨_, rfl⟩
  have fr_a1 : gh_fr h a1 (fun k => k = m + 1) := by rw [ha1]; exact gh_set (K := (fun k => k = m + 1)) gh_rf (by first | exact rfl | exact Or.inr rfl | exact Or.inr (Or.inl rfl)) _
  have V_a1 : a1.1[m + 1]? = some (gA 118 (zU F (11 + 10 * i) 1)) := by rw [ha1]; exact gs_s hV
  have M_a1 := gs_n (c' := gA 118 (zU F (11 + 10 * i) 1)) hM (show m + 1 ≠ m by omega)
  rw [← ha1] at M_a1
  have g1 : ∀ k, k < 8 → zU F (11 + 10 * i) 1 (11 + 10 * k) = 0 ∨ zU F (11 + 10 * i) 1 (11 + 10 * k) = 1 := fun k hk => by
    by_cases e : k = i
    · rw [e, zU_s]; omega
    · rw [zU_n (by omega)]; exact hv.1.2.2.2.1 k hk
  have g2 : ∀ k, cn ≤ k → k < 8 → zU F (11 + 10 * i) 1 (11 + 10 * k) = 0 := fun k hk h8k => by
    rw [zU_n (by omega)]
    have := hv.1.2.2.2.2.2 k (by omega) h8k 1 (by omega)
    rwa [show 10 + 10 * k + 1 = 11 + 10 * k by omega] at this
  have e0 : zU F (11 + 10 * i) 1 0 = (cn : Int) := by rw [zU_n (by omega)]; exact hc
  have hans := zGn_p g1 hc8 g2
  refine ⟨a1, _, ?_, M_a1, V_a1, fun k hk => ?_, fr_a1⟩
  ·
    show gm_co _ _ _ _ (.inl (some (.int (zI ((zPC (zG (zU F (11 + 10 * (i : Int).toNat) 1) 8) : Nat) : Int))))) _
    rw [Int.toNat_natCast, ← hans]
    have key : ∀ (z j : Nat), j + z = cn → gm_ru mX11_drops 3 (49, [some (.ref m), some (.int (zI (i : Int))), some (.int (zI (zGn (zU F (11 + 10 * i) 1) j))), some (.int (zI (j : Int)))], [], a1) (.inl (some (.int (zI (zGn (zU F (11 + 10 * i) 1) cn))))) a1 := by
      intro z
      induction z with
      | zero =>
        intro j hj
        obtain rfl : j = cn := by omega
        refine gm_go.ru (gm_iload_n dX11_drops_49 rfl) ?_
        refine gm_go.ru (gm_aload_n dX11_drops_50 rfl (by first | exact Or.inl ⟨_, rfl⟩ | exact Or.inr ⟨_, rfl⟩)) ?_
        refine gm_go.ru (gm_get dX11_drops_51 (fl_X11_16 rfl) M_a1 rfl) ?_
        refine gm_go.ru (gi_const dX11_drops_54) ?_
        refine gm_go.ru (gi_aldN (a := 0) dX11_drops_55 V_a1 (by decide) (by decide)) ?_
        rw [e0]
        refine gm_go.ru (gi_icmp_ge_t (tgt := 78) dX11_drops_56 (by decide) (by omega) (by omega) (by omega)) ?_
        refine gm_go.ru (gm_iload_n dX11_drops_78 rfl) ?_
        exact gm_iret dX11_drops_79 rfl
      | succ z ih =>
        intro j hj
        have gr := zGn_r g1 j (by omega)
        refine gm_go.ru (gm_iload_n dX11_drops_49 rfl) ?_
        refine gm_go.ru (gm_aload_n dX11_drops_50 rfl (by first | exact Or.inl ⟨_, rfl⟩ | exact Or.inr ⟨_, rfl⟩)) ?_
        refine gm_go.ru (gm_get dX11_drops_51 (fl_X11_16 rfl) M_a1 rfl) ?_
        refine gm_go.ru (gi_const dX11_drops_54) ?_
        refine gm_go.ru (gi_aldN (a := 0) dX11_drops_55 V_a1 (by decide) (by decide)) ?_
        rw [e0]
        refine gm_go.ru (gi_icmp_ge_f 78 dX11_drops_56 (by decide) (by omega) (by omega) (by omega)) ?_
        refine gm_go.ru (gm_iload_n dX11_drops_59 rfl) ?_
        refine gm_go.ru (gm_aload_n dX11_drops_60 rfl (by first | exact Or.inl ⟨_, rfl⟩ | exact Or.inr ⟨_, rfl⟩)) ?_
        refine gm_go.ru (gm_get dX11_drops_61 (fl_X11_16 rfl) M_a1 rfl) ?_
        refine gm_go.ru (gm_iload_n dX11_drops_64 rfl) ?_
        refine gm_go.ru (gi_const dX11_drops_65) ?_
        refine gm_go.ru (gm_cS dX11_drops_66 (ct_mOf (i := j) (w := 1)) rfl mt_X11_of ms_X11_of (lk_X11_67 rfl) rfl (Nat.le_of_ble_eq_true rfl) (by decide)) ?_
        rw [show 10 + 10 * j + 1 = 11 + 10 * j by omega]
        refine gm_go.ru (gi_aldN dX11_drops_69 V_a1 (by omega) (by decide)) ?_
        refine gm_go.ru (gi_add dX11_drops_70) ?_
        refine gm_go.ru (gm_istore_n (ls' := [_, _, _, _]) dX11_drops_71 (by decide) rfl) ?_
        refine gm_go.ru (gi_iinc (ls' := [_, _, _, _]) dX11_drops_72 rfl (by decide) rfl) ?_
        refine gm_go.ru (gm_goto (tgt := 49) dX11_drops_75 (by decide)) ?_
        exact ih (j + 1) (by omega)
    refine gm_co_of _ (by decide +kernel) rfl (Nat.le_of_ble_eq_true rfl) rfl ?_
    refine gm_go.ru (gm_aload_n dX11_drops_0 rfl (by first | exact Or.inl ⟨_, rfl⟩ | exact Or.inr ⟨_, rfl⟩)) ?_
    refine gm_go.ru (gm_iload_n dX11_drops_1 rfl) ?_
    refine gm_go.ru (gm_cV dX11_drops_2 (ct_mIsN hM hV hv.1 ha) rfl mt_X11_isNeedle mv_X11_isNeedle (lk_X11_87 rfl) (Or.inl ⟨_, 12, _, _, _, rfl, hM, rfl⟩) rfl (Nat.le_of_ble_eq_true rfl) (by decide)) ?_
    rw [zB_t c1]
    refine gm_go.ru (gi_if_ne_t (tgt := 14) dX11_drops_5 (by decide) (by decide) (by decide)) ?_
    refine gm_go.ru (gm_aload_n dX11_drops_14 rfl (by first | exact Or.inl ⟨_, rfl⟩ | exact Or.inr ⟨_, rfl⟩)) ?_
    refine gm_go.ru (gm_get dX11_drops_15 (fl_X11_16 rfl) hM rfl) ?_
    refine gm_go.ru (gm_iload_n dX11_drops_18 rfl) ?_
    refine gm_go.ru (gi_const dX11_drops_19) ?_
    refine gm_go.ru (gm_cS dX11_drops_20 (ct_mOf (i := i) (w := 1)) rfl mt_X11_of ms_X11_of (lk_X11_67 rfl) rfl (Nat.le_of_ble_eq_true rfl) (by decide)) ?_
    rw [show 10 + 10 * i + 1 = 11 + 10 * i by omega]
    refine gm_go.ru (gi_aldN dX11_drops_23 hV (by omega) (by decide)) ?_
    have hg := hv.1.2.2.2.1 i h8
    refine gm_go.ru (gi_const dX11_drops_24) ?_
    refine gm_go.ru (gi_icmp_ne_t (tgt := 34) dX11_drops_25 (by decide) (by omega) (by omega) (by omega)) ?_
    refine gm_go.ru (gm_aload_n dX11_drops_34 rfl (by first | exact Or.inl ⟨_, rfl⟩ | exact Or.inr ⟨_, rfl⟩)) ?_
    refine gm_go.ru (gm_get dX11_drops_35 (fl_X11_16 rfl) hM rfl) ?_
    refine gm_go.ru (gm_iload_n dX11_drops_38 rfl) ?_
    refine gm_go.ru (gi_const dX11_drops_39) ?_
    refine gm_go.ru (gm_cS dX11_drops_40 (ct_mOf (i := i) (w := 1)) rfl mt_X11_of ms_X11_of (lk_X11_67 rfl) rfl (Nat.le_of_ble_eq_true rfl) (by decide)) ?_
    refine gm_go.ru (gi_const dX11_drops_43) ?_
    rw [show 10 + 10 * i + 1 = 11 + 10 * i by omega]
    refine gm_go.ru (gi_astN dX11_drops_44 hV (by omega) (by decide)) ?_
    refine gm_hp ha1 ?_
    refine gm_go.ru (gi_const dX11_drops_45) ?_
    refine gm_go.ru (gm_istore_n (ls' := [_, _, _, _]) dX11_drops_46 (by decide) rfl) ?_
    refine gm_go.ru (gi_const dX11_drops_47) ?_
    refine gm_go.ru (gm_istore_n (ls' := [_, _, _, _]) dX11_drops_48 (by decide) rfl) ?_
    exact key cn 0 (by omega)
  · show _ = zU F (11 + 10 * (i : Int).toNat) 1 k; rw [Int.toNat_natCast]
set_option maxRecDepth 4000 in
theorem ct_mlimitsX {h : gm_H} {m : Nat} {K F : Nat → Int} (hM : h.1[m]? = some (md_c m K)) (hV : h.1[m + 1]? = some (gA 118 F)) {T : Nat} {a b c : Int} (hv : st_iv T F) (ha : zR a) (hq : zqWhy F 5 a 0 0 ≠ 0) : ∃ h' F', gm_co mX11_limits 4 [.ref m, .int (zI a)] h (.inl (some (.int (zI 0)))) h' ∧ h'.1[m]? = some (md_c m (zU K 0 (zCd 5 (zqWhy F 5 a 0 0)))) ∧ h'.1[m + 1]? = some (gA 118 F') ∧ gh_fr h h' (fun k => k = m ∨ k = m + 1) := by
  unfold zqWhy at *
  simp only at *
  by_cases c1 : a < 0 ∨ 20 < a
  ·
    rw [if_pos c1]
    refine ⟨(h.1.set m (md_c m (zU K 0 1)), h.2), F, ?_, gs_s hM, gs_n hV (by omega), gh_set gh_rf (Or.inl rfl) _⟩
    refine gm_co_of _ (by decide +kernel) rfl (Nat.le_of_ble_eq_true rfl) rfl ?_
    refine gm_go.ru (gm_iload_n dX11_limits_0 rfl) ?_
    refine gm_go.ru (gi_const dX11_limits_1) ?_
    refine gm_go.ru (gi_bipush dX11_limits_2 (by decide +kernel)) ?_
    refine gm_go.ru (gm_cS dX11_limits_4 (ct_mIsIn ha (by decide) (by decide)) rfl mt_X11_isIn ms_X11_isIn (lk_X11_63 rfl) rfl (Nat.le_of_ble_eq_true rfl) (by decide)) ?_
    rw [zB_f (show ¬ (0 ≤ a ∧ a ≤ 20) by omega)]
    refine gm_go.ru (gi_if_ne_f 16 dX11_limits_7 (by decide) (by decide) rfl) ?_
    refine gm_go.ru (gm_aload_n dX11_limits_10 rfl (by first | exact Or.inl ⟨_, rfl⟩ | exact Or.inr ⟨_, rfl⟩)) ?_
    refine gm_go.ru (gi_const dX11_limits_11) ?_
    refine gm_go.ru (gm_cV dX11_limits_12 (ct_mFail hM (x := 1)) rfl mt_X11_fail mv_X11_fail (lk_X11_74 rfl) (Or.inl ⟨_, 12, _, _, _, rfl, hM, rfl⟩) rfl (Nat.le_of_ble_eq_true rfl) (by decide)) ?_
    exact gm_iret dX11_limits_15 rfl
  · rw [if_neg c1] at hq; exact absurd rfl hq
set_option maxRecDepth 4000 in
theorem ct_mlimits {h : gm_H} {m : Nat} {K F : Nat → Int} (hM : h.1[m]? = some (md_c m K)) (hV : h.1[m + 1]? = some (gA 118 F)) {T : Nat} {a b c : Int} (hv : st_iv T F) (ha : zR a) (hq : zqWhy F 5 a 0 0 = 0) : ∃ h' F', gm_co mX11_limits 4 [.ref m, .int (zI a)] h (.inl (some (.int (zI (zAn F 5 a 0 0))))) h' ∧ h'.1[m]? = some (md_c m K) ∧ h'.1[m + 1]? = some (gA 118 F') ∧ (∀ k, k < 118 → F' k = zDo F 5 a 0 0 k) ∧ gh_fr h h' (fun k => k = m + 1) := by
  have q0 : ¬ (a < 0 ∨ 20 < a) := by
    unfold zqWhy at hq
    simp only at hq
    split at hq <;> omega
  obtain ⟨cn, hc, hc8⟩ := nd_cnt hv.1
  obtain ⟨a1, ha1⟩ : ∃ y : gm_H, y = (h.1.set (m + 1) (gA 118 (zU F 1 a)), h.2) := ⟨_, rfl⟩
  have fr_a1 : gh_fr h a1 (fun k => k = m + 1) := by rw [ha1]; exact gh_set (K := (fun k => k = m + 1)) gh_rf (by first | exact rfl | exact Or.inr rfl | exact Or.inr (Or.inl rfl)) _
  have V_a1 : a1.1[m + 1]? = some (gA 118 (zU F 1 a)) := by rw [ha1]; exact gs_s hV
  have M_a1 := gs_n (c' := gA 118 (zU F 1 a)) hM (show m + 1 ≠ m by omega)
  rw [← ha1] at M_a1
  have nv : nd_iv (zU F 1 a) := by
    obtain ⟨y1, y2, y3, y4, y5, y6⟩ := hv.1
    refine ⟨by rw [zU_n (by omega)]; exact y1, by rw [zU_s]; omega, fun i hi => by rw [zU_n (by omega)]; exact y3 i hi, fun i hi => by rw [zU_n (by omega)]; exact y4 i hi, fun i hi j hj => by rw [zU_n (by omega)]; exact y5 i hi j hj, fun i hi hi8 j hj => ?_⟩
    rw [zU_n (by omega)] at hi
    rw [zU_n (by omega)]; exact y6 i hi hi8 j hj
  have e0 : zU F 1 a 0 = (cn : Int) := by rw [zU_n (by omega)]; exact hc
  refine ⟨a1, _, ?_, M_a1, V_a1, fun k hk => rfl, fr_a1⟩
  show gm_co _ _ _ _ (.inl (some (.int (zI ((zNW (zU F 1 a) (F 0).toNat : Nat) : Int))))) _
  rw [hc, Int.toNat_natCast]
  have key : ∀ (z j : Nat), j + z = cn → gm_ru mX11_limits 4 (27, [some (.ref m), some (.int (zI a)), some (.int (zI ((zNW (zU F 1 a) j : Nat) : Int))), some (.int (zI (j : Int)))], [], a1) (.inl (some (.int (zI ((zNW (zU F 1 a) cn : Nat) : Int))))) a1 := by
    intro z
    induction z with
    | zero =>
      intro j hj
      obtain rfl : j = cn := by omega
      refine gm_go.ru (gm_iload_n dX11_limits_27 rfl) ?_
      refine gm_go.ru (gm_aload_n dX11_limits_28 rfl (by first | exact Or.inl ⟨_, rfl⟩ | exact Or.inr ⟨_, rfl⟩)) ?_
      refine gm_go.ru (gm_get dX11_limits_29 (fl_X11_16 rfl) M_a1 rfl) ?_
      refine gm_go.ru (gi_const dX11_limits_32) ?_
      refine gm_go.ru (gi_aldN (a := 0) dX11_limits_33 V_a1 (by decide) (by decide)) ?_
      rw [e0]
      refine gm_go.ru (gi_icmp_ge_t (tgt := 59) dX11_limits_34 (by decide) (by omega) (by omega) (by omega)) ?_
      refine gm_go.ru (gm_iload_n dX11_limits_59 rfl) ?_
      exact gm_iret dX11_limits_60 rfl
    | succ z ih =>
      intro j hj
      have gr := zNW_le (zU F 1 a) j
      have hn := ih (j + 1) (by omega)
      rw [zNW] at hn
      refine gm_go.ru (gm_iload_n dX11_limits_27 rfl) ?_
      refine gm_go.ru (gm_aload_n dX11_limits_28 rfl (by first | exact Or.inl ⟨_, rfl⟩ | exact Or.inr ⟨_, rfl⟩)) ?_
      refine gm_go.ru (gm_get dX11_limits_29 (fl_X11_16 rfl) M_a1 rfl) ?_
      refine gm_go.ru (gi_const dX11_limits_32) ?_
      refine gm_go.ru (gi_aldN (a := 0) dX11_limits_33 V_a1 (by decide) (by decide)) ?_
      rw [e0]
      refine gm_go.ru (gi_icmp_ge_f 59 dX11_limits_34 (by decide) (by omega) (by omega) (by omega)) ?_
      refine gm_go.ru (gm_iload_n dX11_limits_37 rfl) ?_
      refine gm_go.ru (gm_aload_n dX11_limits_38 rfl (by first | exact Or.inl ⟨_, rfl⟩ | exact Or.inr ⟨_, rfl⟩)) ?_
      refine gm_go.ru (gm_iload_n dX11_limits_39 rfl) ?_
      refine gm_go.ru (gm_cV dX11_limits_40 (ct_mIsBad M_a1 V_a1 nv (by omega)) rfl mt_X11_isBad mv_X11_isBad (lk_X11_117 rfl) (Or.inl ⟨_, 12, _, _, _, rfl, M_a1, rfl⟩) rfl (Nat.le_of_ble_eq_true rfl) (by decide)) ?_
      cases hb : zW (zU F 1 a) j
      ·
        rw [hb] at hn
        refine gm_go.ru (gi_if_eq_t (tgt := 50) dX11_limits_43 (by decide) (by decide) rfl) ?_
        refine gm_go.ru (gi_const dX11_limits_50) ?_
        refine gm_go.ru (gi_add dX11_limits_51) ?_
        refine gm_go.ru (gm_istore_n (ls' := [_, _, _, _]) dX11_limits_52 (by decide) rfl) ?_
        refine gm_go.ru (gi_iinc (ls' := [_, _, _, _]) dX11_limits_53 rfl (by decide) rfl) ?_
        refine gm_go.ru (gm_goto (tgt := 27) dX11_limits_56 (by decide)) ?_
        exact hn
      ·
        rw [hb] at hn
        refine gm_go.ru (gi_if_eq_f 50 dX11_limits_43 (by decide) (by decide) (by decide)) ?_
        refine gm_go.ru (gi_const dX11_limits_46) ?_
        refine gm_go.ru (gm_goto (tgt := 51) dX11_limits_47 (by decide)) ?_
        refine gm_go.ru (gi_add dX11_limits_51) ?_
        refine gm_go.ru (gm_istore_n (ls' := [_, _, _, _]) dX11_limits_52 (by decide) rfl) ?_
        refine gm_go.ru (gi_iinc (ls' := [_, _, _, _]) dX11_limits_53 rfl (by decide) rfl) ?_
        refine gm_go.ru (gm_goto (tgt := 27) dX11_limits_56 (by decide)) ?_
        exact hn
  refine gm_co_of _ (by decide +kernel) rfl (Nat.le_of_ble_eq_true rfl) rfl ?_
  refine gm_go.ru (gm_iload_n dX11_limits_0 rfl) ?_
  refine gm_go.ru (gi_const dX11_limits_1) ?_
  refine gm_go.ru (gi_bipush dX11_limits_2 (by decide +kernel)) ?_
  refine gm_go.ru (gm_cS dX11_limits_4 (ct_mIsIn ha (by decide) (by decide)) rfl mt_X11_isIn ms_X11_isIn (lk_X11_63 rfl) rfl (Nat.le_of_ble_eq_true rfl) (by decide)) ?_
  rw [zB_t (show 0 ≤ a ∧ a ≤ 20 by omega)]
  refine gm_go.ru (gi_if_ne_t (tgt := 16) dX11_limits_7 (by decide) (by decide) (by decide)) ?_
  refine gm_go.ru (gm_aload_n dX11_limits_16 rfl (by first | exact Or.inl ⟨_, rfl⟩ | exact Or.inr ⟨_, rfl⟩)) ?_
  refine gm_go.ru (gm_get dX11_limits_17 (fl_X11_16 rfl) hM rfl) ?_
  refine gm_go.ru (gi_const dX11_limits_20) ?_
  refine gm_go.ru (gm_iload_n dX11_limits_21 rfl) ?_
  refine gm_go.ru (gi_astN (a := 1) dX11_limits_22 hV (by decide) (by decide)) ?_
  refine gm_hp ha1 ?_
  refine gm_go.ru (gi_const dX11_limits_23) ?_
  refine gm_go.ru (gm_istore_n (ls' := [_, _, _, _]) dX11_limits_24 (by decide) rfl) ?_
  refine gm_go.ru (gi_const dX11_limits_25) ?_
  refine gm_go.ru (gm_istore_n (ls' := [_, _, _, _]) dX11_limits_26 (by decide) rfl) ?_
  exact key cn 0 (by omega)
set_option maxRecDepth 4000 in
theorem ct_mrestsX {h : gm_H} {m : Nat} {K F : Nat → Int} (hM : h.1[m]? = some (md_c m K)) (hV : h.1[m + 1]? = some (gA 118 F)) {T : Nat} {a b c : Int} (hv : st_iv T F) (ha : zR a) (hq : zqWhy F 9 a 0 0 ≠ 0) : ∃ h' F', gm_co mX11_rests 2 [.ref m, .int (zI a)] h (.inl (some (.int (zI 0)))) h' ∧ h'.1[m]? = some (md_c m (zU K 0 (zCd 9 (zqWhy F 9 a 0 0)))) ∧ h'.1[m + 1]? = some (gA 118 F') ∧ gh_fr h h' (fun k => k = m ∨ k = m + 1) := by
  unfold zqWhy at *
  simp only at *
  by_cases c1 : a < 1 ∨ 60 < a
  ·
    rw [if_pos c1]
    refine ⟨(h.1.set m (md_c m (zU K 0 1)), h.2), F, ?_, gs_s hM, gs_n hV (by omega), gh_set gh_rf (Or.inl rfl) _⟩
    refine gm_co_of _ (by decide +kernel) rfl (Nat.le_of_ble_eq_true rfl) rfl ?_
    refine gm_go.ru (gm_iload_n dX11_rests_0 rfl) ?_
    refine gm_go.ru (gi_const dX11_rests_1) ?_
    refine gm_go.ru (gi_bipush dX11_rests_2 (by decide +kernel)) ?_
    refine gm_go.ru (gm_cS dX11_rests_4 (ct_mIsIn ha (by decide) (by decide)) rfl mt_X11_isIn ms_X11_isIn (lk_X11_63 rfl) rfl (Nat.le_of_ble_eq_true rfl) (by decide)) ?_
    rw [zB_f (show ¬ (1 ≤ a ∧ a ≤ 60) by omega)]
    refine gm_go.ru (gi_if_ne_f 16 dX11_rests_7 (by decide) (by decide) rfl) ?_
    refine gm_go.ru (gm_aload_n dX11_rests_10 rfl (by first | exact Or.inl ⟨_, rfl⟩ | exact Or.inr ⟨_, rfl⟩)) ?_
    refine gm_go.ru (gi_const dX11_rests_11) ?_
    refine gm_go.ru (gm_cV dX11_rests_12 (ct_mFail hM (x := 1)) rfl mt_X11_fail mv_X11_fail (lk_X11_74 rfl) (Or.inl ⟨_, 12, _, _, _, rfl, hM, rfl⟩) rfl (Nat.le_of_ble_eq_true rfl) (by decide)) ?_
    exact gm_iret dX11_rests_15 rfl
  · rw [if_neg c1] at hq; exact absurd rfl hq
set_option maxRecDepth 4000 in
theorem ct_mrests {h : gm_H} {m : Nat} {K F : Nat → Int} (hM : h.1[m]? = some (md_c m K)) (hV : h.1[m + 1]? = some (gA 118 F)) {T : Nat} {a b c : Int} (hv : st_iv T F) (ha : zR a) (hq : zqWhy F 9 a 0 0 = 0) : ∃ h' F', gm_co mX11_rests 2 [.ref m, .int (zI a)] h (.inl (some (.int (zI (zAn F 9 a 0 0))))) h' ∧ h'.1[m]? = some (md_c m K) ∧ h'.1[m + 1]? = some (gA 118 F') ∧ (∀ k, k < 118 → F' k = zDo F 9 a 0 0 k) ∧ gh_fr h h' (fun k => k = m + 1) := by
  have q0 : ¬ (a < 1 ∨ 60 < a) := by
    unfold zqWhy at hq
    simp only at hq
    split at hq <;> omega
  obtain ⟨a1, ha1⟩ : ∃ y : gm_H, y = (h.1.set (m + 1) (gA 118 (zU F 2 (F 2 + a))), h.2) := ⟨_, rfl⟩
  have fr_a1 : gh_fr h a1 (fun k => k = m + 1) := by rw [ha1]; exact gh_set (K := (fun k => k = m + 1)) gh_rf (by first | exact rfl | exact Or.inr rfl | exact Or.inr (Or.inl rfl)) _
  have V_a1 : a1.1[m + 1]? = some (gA 118 (zU F 2 (F 2 + a))) := by rw [ha1]; exact gs_s hV
  have M_a1 := gs_n (c' := gA 118 (zU F 2 (F 2 + a))) hM (show m + 1 ≠ m by omega)
  rw [← ha1] at M_a1
  refine ⟨a1, _, ?_, M_a1, V_a1, fun k hk => rfl, fr_a1⟩
  show gm_co _ _ _ _ (.inl (some (.int (zI (F 2 + a))))) _
  refine gm_co_of _ (by decide +kernel) rfl (Nat.le_of_ble_eq_true rfl) rfl ?_
  refine gm_go.ru (gm_iload_n dX11_rests_0 rfl) ?_
  refine gm_go.ru (gi_const dX11_rests_1) ?_
  refine gm_go.ru (gi_bipush dX11_rests_2 (by decide +kernel)) ?_
  refine gm_go.ru (gm_cS dX11_rests_4 (ct_mIsIn ha (by decide) (by decide)) rfl mt_X11_isIn ms_X11_isIn (lk_X11_63 rfl) rfl (Nat.le_of_ble_eq_true rfl) (by decide)) ?_
  rw [zB_t (show 1 ≤ a ∧ a ≤ 60 by omega)]
  refine gm_go.ru (gi_if_ne_t (tgt := 16) dX11_rests_7 (by decide) (by decide) (by decide)) ?_
  refine gm_go.ru (gm_aload_n dX11_rests_16 rfl (by first | exact Or.inl ⟨_, rfl⟩ | exact Or.inr ⟨_, rfl⟩)) ?_
  refine gm_go.ru (gm_get dX11_rests_17 (fl_X11_16 rfl) hM rfl) ?_
  refine gm_go.ru (gi_const dX11_rests_20) ?_
  refine gm_go.ru (gm_dup2 dX11_rests_21 rfl rfl) ?_
  refine gm_go.ru (gi_aldN (a := 2) dX11_rests_22 hV (by decide) (by decide)) ?_
  refine gm_go.ru (gm_iload_n dX11_rests_23 rfl) ?_
  refine gm_go.ru (gi_add dX11_rests_24) ?_
  refine gm_go.ru (gi_astN (a := 2) dX11_rests_25 hV (by decide) (by decide)) ?_
  refine gm_hp ha1 ?_
  refine gm_go.ru (gm_aload_n dX11_rests_26 rfl (by first | exact Or.inl ⟨_, rfl⟩ | exact Or.inr ⟨_, rfl⟩)) ?_
  refine gm_go.ru (gm_get dX11_rests_27 (fl_X11_16 rfl) M_a1 rfl) ?_
  refine gm_go.ru (gi_const dX11_rests_30) ?_
  refine gm_go.ru (gi_aldN (a := 2) dX11_rests_31 V_a1 (by decide) (by decide)) ?_
  rw [zU_s]
  exact gm_iret dX11_rests_32 rfl
