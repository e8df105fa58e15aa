/-! the Model: its own cell m, its arrays behind it; K: its numbers, by the places of its fields; F: its row v -/
abbrev md_c (m : Nat) (K : Nat → Int) : gm_cl := .inr (12, [.int (zI (K 0)), .int (zI (K 1)), .int (zI (K 2)), .int (zI (K 3)), .int (zI (K 4)), .ref (m + 1), .ref (m + 2), .ref (m + 3), .ref (m + 4), .ref (m + 5), .ref (m + 6), .ref (m + 7), .ref (m + 8), .ref (m + 9), .ref (m + 10), .ref (m + 11), .ref (m + 12), .int (zI (K 17)), .int (zI (K 18)), .int (zI (K 19)), .int (zI (K 20)), .int (zI (K 21)), .int (zI (K 22))])
theorem gi_aldN {M : gm_M} {d pc : Nat} {ls : List (Option Value)} {st : List Value} {h : gm_H} {k n a : Nat} {F : Nat → Int} (hd : decode M.2.1 pc = .ok (.iaload, 1)) (hk : h.1[k]? = some (gA n F)) (h1 : a < n) (hn : n ≤ 2147483647) : gm_go M d (pc, ls, .int (zI (a : Int)) :: .ref k :: st, h) (pc + 1, ls, .int (zI (F a)) :: st, h) := by
  have h9 := gi_ald (st := st) (ls := ls) (d := d) (a := (a : Int)) hd hk (by omega) (by omega) hn
  rw [Int.toNat_natCast] at h9
  exact h9
theorem gi_astN {M : gm_M} {d pc : Nat} {ls : List (Option Value)} {st : List Value} {h : gm_H} {k n a : Nat} {z : Int} {F : Nat → Int} (hd : decode M.2.1 pc = .ok (.iastore, 1)) (hk : h.1[k]? = some (gA n F)) (h1 : a < n) (hn : n ≤ 2147483647) : gm_go M d (pc, ls, .int (zI z) :: .int (zI (a : Int)) :: .ref k :: st, h) (pc + 1, ls, st, (h.1.set k (gA n (zU F a z)), h.2)) := by
  have h9 := gi_ast (st := st) (ls := ls) (d := d) (a := (a : Int)) (z := z) hd hk (by omega) (by omega) hn
  rw [Int.toNat_natCast] at h9
  exact h9
theorem zB_iff {p q : Prop} [Decidable p] [Decidable q] (e : p ↔ q) : zB (decide p) = zB (decide q) := by rw [decide_eq_decide.mpr e]
set_option maxRecDepth 4000 in
theorem ct_mThrown {h : gm_H} {m : Nat} {K : Nat → Int} (hM : h.1[m]? = some (md_c m K)) : gm_co mX11_thrown 1 [.ref m] h (.inl (some (.int (zI (K 0))))) h := by
  refine gm_co_of _ (by decide +kernel) rfl (Nat.le_of_ble_eq_true rfl) rfl ?_
  refine gm_go.ru (gm_aload_n dX11_thrown_0 rfl (by first | exact Or.inl ⟨_, rfl⟩ | exact Or.inr ⟨_, rfl⟩)) ?_
  refine gm_go.ru (gm_get dX11_thrown_1 (fl_X11_53 rfl) hM rfl) ?_
  exact gm_iret dX11_thrown_4 rfl
set_option maxRecDepth 4000 in
theorem ct_mFail {h : gm_H} {m : Nat} {K : Nat → Int} (hM : h.1[m]? = some (md_c m K)) {x : Int} : gm_co mX11_fail 1 [.ref m, .int (zI x)] h (.inl (some (.int (zI 0)))) (h.1.set m (md_c m (zU K 0 x)), h.2) := by
  obtain ⟨a1, ha1⟩ : ∃ y : gm_H, y = (h.1.set m (md_c m (zU K 0 x)), h.2) := ⟨_, rfl⟩
  refine gm_co_of _ (by decide +kernel) rfl (Nat.le_of_ble_eq_true rfl) rfl ?_
  refine gm_go.ru (gm_aload_n dX11_fail_0 rfl (by first | exact Or.inl ⟨_, rfl⟩ | exact Or.inr ⟨_, rfl⟩)) ?_
  refine gm_go.ru (gm_iload_n dX11_fail_1 rfl) ?_
  refine gm_go.ru (gm_put dX11_fail_2 (fp_X11_53 rfl) hM (Nat.le_of_ble_eq_true rfl) (by first | exact ⟨rfl, rfl⟩ | exact trivial)) ?_
  refine gm_hp ha1 ?_
  refine gm_go.ru (gi_const dX11_fail_5) ?_
  rw [ha1]; exact gm_iret dX11_fail_6 rfl
set_option maxRecDepth 4000 in
theorem ct_mIsIn {h : gm_H} {x lo hi : Int} (hx : zR x) (hlo : zR lo) (hhi : zR hi) : gm_co mX11_isIn 1 [.int (zI x), .int (zI lo), .int (zI hi)] h (.inl (some (.int (zI (zB (decide (lo ≤ x ∧ x ≤ hi))))))) h := by
  refine gm_co_of _ (by decide +kernel) rfl (Nat.le_of_ble_eq_true rfl) rfl ?_
  by_cases c1 : x < lo
  ·
    rw [zB_f (show ¬ (lo ≤ x ∧ x ≤ hi) by omega)]
    refine gm_go.ru (gm_iload_n dX11_isIn_0 rfl) ?_
    refine gm_go.ru (gm_iload_n dX11_isIn_1 rfl) ?_
    refine gm_go.ru (gi_icmp_lt_t (tgt := 14) dX11_isIn_2 (by decide) (by omega) (by omega) c1) ?_
    refine gm_go.ru (gi_const dX11_isIn_14) ?_
    exact gm_zret dX11_isIn_15 rfl (by decide +kernel)
  ·
    by_cases c2 : hi < x
    ·
      rw [zB_f (show ¬ (lo ≤ x ∧ x ≤ hi) by omega)]
      refine gm_go.ru (gm_iload_n dX11_isIn_0 rfl) ?_
      refine gm_go.ru (gm_iload_n dX11_isIn_1 rfl) ?_
      refine gm_go.ru (gi_icmp_lt_f 14 dX11_isIn_2 (by decide) (by omega) (by omega) c1) ?_
      refine gm_go.ru (gm_iload_n dX11_isIn_5 rfl) ?_
      refine gm_go.ru (gm_iload_n dX11_isIn_6 rfl) ?_
      refine gm_go.ru (gi_icmp_gt_t (tgt := 14) dX11_isIn_7 (by decide) (by omega) (by omega) c2) ?_
      refine gm_go.ru (gi_const dX11_isIn_14) ?_
      exact gm_zret dX11_isIn_15 rfl (by decide +kernel)
    ·
      rw [zB_t (show lo ≤ x ∧ x ≤ hi by omega)]
      refine gm_go.ru (gm_iload_n dX11_isIn_0 rfl) ?_
      refine gm_go.ru (gm_iload_n dX11_isIn_1 rfl) ?_
      refine gm_go.ru (gi_icmp_lt_f 14 dX11_isIn_2 (by decide) (by omega) (by omega) c1) ?_
      refine gm_go.ru (gm_iload_n dX11_isIn_5 rfl) ?_
      refine gm_go.ru (gm_iload_n dX11_isIn_6 rfl) ?_
      refine gm_go.ru (gi_icmp_gt_f 14 dX11_isIn_7 (by decide) (by omega) (by omega) c2) ?_
      refine gm_go.ru (gi_const dX11_isIn_10) ?_
      refine gm_go.ru (gm_goto (tgt := 15) dX11_isIn_11 (by decide)) ?_
      exact gm_zret dX11_isIn_15 rfl (by decide +kernel)
set_option maxRecDepth 4000 in
theorem ct_mOf {h : gm_H} {i w : Nat} : gm_co mX11_of 1 [.int (zI (i : Int)), .int (zI (w : Int))] h (.inl (some (.int (zI ((10 + 10 * i + w : Nat) : Int))))) h := by
  refine gm_co_of _ (by decide +kernel) rfl (Nat.le_of_ble_eq_true rfl) rfl ?_
  refine gm_go.ru (gi_bipush dX11_of_0 (by decide +kernel)) ?_
  refine gm_go.ru (gi_bipush dX11_of_2 (by decide +kernel)) ?_
  refine gm_go.ru (gm_iload_n dX11_of_4 rfl) ?_
  refine gm_go.ru (gi_mul dX11_of_5) ?_
  refine gm_go.ru (gi_add dX11_of_6) ?_
  refine gm_go.ru (gm_iload_n dX11_of_7 rfl) ?_
  refine gm_go.ru (gi_add dX11_of_8) ?_
  exact gm_iret' dX11_of_9 rfl (congrArg zI (by omega)) rfl
set_option maxRecDepth 4000 in
theorem ct_mAt {h : gm_H} {i w : Nat} : gm_co mX11_at 1 [.int (zI (i : Int)), .int (zI (w : Int))] h (.inl (some (.int (zI ((90 + 4 * i + w : Nat) : Int))))) h := by
  refine gm_co_of _ (by decide +kernel) rfl (Nat.le_of_ble_eq_true rfl) rfl ?_
  refine gm_go.ru (gi_bipush dX11_at_0 (by decide +kernel)) ?_
  refine gm_go.ru (gi_const dX11_at_2) ?_
  refine gm_go.ru (gm_iload_n dX11_at_3 rfl) ?_
  refine gm_go.ru (gi_mul dX11_at_4) ?_
  refine gm_go.ru (gi_add dX11_at_5) ?_
  refine gm_go.ru (gm_iload_n dX11_at_6 rfl) ?_
  refine gm_go.ru (gi_add dX11_at_7) ?_
  exact gm_iret' dX11_at_8 rfl (congrArg zI (by omega)) rfl
set_option maxRecDepth 4000 in
theorem ct_mIsN {h : gm_H} {m : Nat} {K F : Nat → Int} (hM : h.1[m]? = some (md_c m K)) (hV : h.1[m + 1]? = some (gA 118 F)) {i : Int} (hv : nd_iv F) (hi : zR i) : gm_co mX11_isNeedle 2 [.ref m, .int (zI i)] h (.inl (some (.int (zI (zB (decide (0 ≤ i ∧ i < F 0))))))) h := by
  refine gm_co_of _ (by decide +kernel) rfl (Nat.le_of_ble_eq_true rfl) rfl ?_
  have f0 := hv.1
  refine gm_go.ru (gm_iload_n dX11_isNeedle_0 rfl) ?_
  refine gm_go.ru (gi_const dX11_isNeedle_1) ?_
  refine gm_go.ru (gm_aload_n dX11_isNeedle_2 rfl (by first | exact Or.inl ⟨_, rfl⟩ | exact Or.inr ⟨_, rfl⟩)) ?_
  refine gm_go.ru (gm_get dX11_isNeedle_3 (fl_X11_16 rfl) hM rfl) ?_
  refine gm_go.ru (gi_const dX11_isNeedle_6) ?_
  refine gm_go.ru (gi_aldN (a := 0) dX11_isNeedle_7 hV (by decide) (by decide)) ?_
  refine gm_go.ru (gi_const dX11_isNeedle_8) ?_
  refine gm_go.ru (gi_sub dX11_isNeedle_9) ?_
  refine gm_go.ru (gm_cS dX11_isNeedle_10 (ct_mIsIn hi (by omega) (by omega)) rfl mt_X11_isIn ms_X11_isIn (lk_X11_63 rfl) rfl (Nat.le_of_ble_eq_true rfl) (by decide)) ?_
  rw [zB_iff (show (0 ≤ i ∧ i ≤ F 0 - 1) ↔ (0 ≤ i ∧ i < F 0) by omega)]
  exact gm_zret' dX11_isNeedle_13 rfl rfl
set_option maxRecDepth 4000 in
theorem ct_mFar {h : gm_H} {m : Nat} {K F : Nat → Int} (hM : h.1[m]? = some (md_c m K)) (hV : h.1[m + 1]? = some (gA 118 F)) {i j : Nat} (hi : i < 8) (hj : j < 8) : gm_co mX11_far 2 [.ref m, .int (zI (i : Int)), .int (zI (j : Int))] h (.inl (some (.int (zI (F (12 + 10 * i + j)))))) h := by
  refine gm_co_of _ (by decide +kernel) rfl (Nat.le_of_ble_eq_true rfl) rfl ?_
  refine gm_go.ru (gm_aload_n dX11_far_0 rfl (by first | exact Or.inl ⟨_, rfl⟩ | exact Or.inr ⟨_, rfl⟩)) ?_
  refine gm_go.ru (gm_get dX11_far_1 (fl_X11_16 rfl) hM rfl) ?_
  refine gm_go.ru (gm_iload_n dX11_far_4 rfl) ?_
  refine gm_go.ru (gi_const dX11_far_5) ?_
  refine gm_go.ru (gm_iload_n dX11_far_6 rfl) ?_
  refine gm_go.ru (gi_add dX11_far_7) ?_
  refine gm_go.ru (gm_cS dX11_far_8 (ct_mOf (i := i) (w := 2 + j)) rfl mt_X11_of ms_X11_of (lk_X11_67 rfl) rfl (Nat.le_of_ble_eq_true rfl) (by decide)) ?_
  rw [show 10 + 10 * i + (2 + j) = 12 + 10 * i + j by omega]
  refine gm_go.ru (gi_aldN dX11_far_11 hV (by omega) (by decide)) ?_
  exact gm_iret dX11_far_12 rfl
set_option maxRecDepth 4000 in
theorem ct_mError {h : gm_H} {m : Nat} {K F : Nat → Int} (hM : h.1[m]? = some (md_c m K)) (hV : h.1[m + 1]? = some (gA 118 F)) {i : Nat} {k : Int} (hi : i < 8) : gm_co mX11_error 3 [.ref m, .int (zI (i : Int)), .int (zI k)] h (.inl (some (.int (zI (zE F i k))))) h := by
  refine gm_co_of _ (by decide +kernel) rfl (Nat.le_of_ble_eq_true rfl) rfl ?_
  have key : ∀ (z j : Nat), j + z = 8 → gm_ru mX11_error 3 (5, [some (.ref m), some (.int (zI (i : Int))), some (.int (zI k)), some (.int (zI (zEf F i k j))), some (.int (zI (j : Int)))], [], h) (.inl (some (.int (zI (zE F i k))))) h := by
    intro z
    induction z with
    | zero =>
      intro j hj
      obtain rfl : j = 8 := by omega
      refine gm_go.ru (gm_iload dX11_error_5 rfl) ?_
      refine gm_go.ru (gi_bipush dX11_error_7 (by decide +kernel)) ?_
      refine gm_go.ru (gi_icmp_ge_t (tgt := 40) dX11_error_9 (by decide) (by omega) (by omega) (by omega)) ?_
      refine gm_go.ru (gm_iload_n dX11_error_40 rfl) ?_
      exact gm_iret dX11_error_41 rfl
    | succ z ih =>
      intro j hj
      refine gm_go.ru (gm_iload dX11_error_5 rfl) ?_
      refine gm_go.ru (gi_bipush dX11_error_7 (by decide +kernel)) ?_
      refine gm_go.ru (gi_icmp_ge_f 40 dX11_error_9 (by decide) (by omega) (by omega) (by omega)) ?_
      refine gm_go.ru (gm_iload_n dX11_error_12 rfl) ?_
      refine gm_go.ru (gm_aload_n dX11_error_13 rfl (by first | exact Or.inl ⟨_, rfl⟩ | exact Or.inr ⟨_, rfl⟩)) ?_
      refine gm_go.ru (gm_iload_n dX11_error_14 rfl) ?_
      refine gm_go.ru (gm_iload dX11_error_15 rfl) ?_
      refine gm_go.ru (gm_cV dX11_error_17 (ct_mFar hM hV hi (by omega)) rfl mt_X11_far mv_X11_far (lk_X11_91 rfl) (Or.inl ⟨_, 12, _, _, _, rfl, hM, rfl⟩) rfl (Nat.le_of_ble_eq_true rfl) (by decide)) ?_
      refine gm_go.ru (gm_iload_n dX11_error_20 rfl) ?_
      refine gm_go.ru (gi_add dX11_error_21) ?_
      refine gm_go.ru (gm_aload_n dX11_error_22 rfl (by first | exact Or.inl ⟨_, rfl⟩ | exact Or.inr ⟨_, rfl⟩)) ?_
      refine gm_go.ru (gm_iload_n dX11_error_23 rfl) ?_
      refine gm_go.ru (gm_iload dX11_error_24 rfl) ?_
      refine gm_go.ru (gm_cV dX11_error_26 (ct_mFar hM hV hi (by omega)) rfl mt_X11_far mv_X11_far (lk_X11_91 rfl) (Or.inl ⟨_, 12, _, _, _, rfl, hM, rfl⟩) rfl (Nat.le_of_ble_eq_true rfl) (by decide)) ?_
      refine gm_go.ru (gm_iload_n dX11_error_29 rfl) ?_
      refine gm_go.ru (gi_add dX11_error_30) ?_
      refine gm_go.ru (gi_mul dX11_error_31) ?_
      refine gm_go.ru (gi_add dX11_error_32) ?_
      refine gm_go.ru (gm_istore_n (ls' := [_, _, _, _, _]) dX11_error_33 (by decide) rfl) ?_
      refine gm_go.ru (gi_iinc (ls' := [_, _, _, _, _]) dX11_error_34 rfl (by decide) rfl) ?_
      refine gm_go.ru (gm_goto (tgt := 5) dX11_error_37 (by decide)) ?_
      exact ih (j + 1) (by omega)
  refine gm_go.ru (gi_const dX11_error_0) ?_
  refine gm_go.ru (gm_istore_n (ls' := [_, _, _, _, _]) dX11_error_1 (by decide) rfl) ?_
  refine gm_go.ru (gi_const dX11_error_2) ?_
  refine gm_go.ru (gm_istore (ls' := [_, _, _, _, _]) dX11_error_3 (by decide) rfl) ?_
  exact key 8 0 rfl
set_option maxRecDepth 4000 in
theorem ct_mIsBad {h : gm_H} {m : Nat} {K F : Nat → Int} (hM : h.1[m]? = some (md_c m K)) (hV : h.1[m + 1]? = some (gA 118 F)) {i : Nat} (hv : nd_iv F) (hi : i < 8) : gm_co mX11_isBad 3 [.ref m, .int (zI (i : Int))] h (.inl (some (.int (zI (zB (zW F i)))))) h := by
  refine gm_co_of _ (by decide +kernel) rfl (Nat.le_of_ble_eq_true rfl) rfl ?_
  have key : ∀ (z j : Nat), j + z = 8 → zWf F i j = false → gm_ru mX11_isBad 3 (2, [some (.ref m), some (.int (zI (i : Int))), some (.int (zI (j : Int)))], [], h) (.inl (some (.int (zI (zB (zW F i)))))) h := by
    intro z
    induction z with
    | zero =>
      intro j hj hz
      obtain rfl : j = 8 := by omega
      have e8 : zW F i = false := hz
      rw [e8]
      refine gm_go.ru (gm_iload_n dX11_isBad_2 rfl) ?_
      refine gm_go.ru (gi_bipush dX11_isBad_3 (by decide +kernel)) ?_
      refine gm_go.ru (gi_icmp_ge_t (tgt := 47) dX11_isBad_5 (by decide) (by omega) (by omega) (by omega)) ?_
      refine gm_go.ru (gi_const dX11_isBad_47) ?_
      exact gm_zret' dX11_isBad_48 rfl rfl
    | succ z ih =>
      intro j hj hz
      have hd := hv.2.2.2.2.1 i hi j (by omega)
      have h1 := hv.2.1
      by_cases c1 : F 1 < F (12 + 10 * i + j)
      ·
        have e8 : zW F i = true := zWf_up (j := j + 1) (by simp [zWf, c1]) 8 (by omega)
        rw [e8]
        refine gm_go.ru (gm_iload_n dX11_isBad_2 rfl) ?_
        refine gm_go.ru (gi_bipush dX11_isBad_3 (by decide +kernel)) ?_
        refine gm_go.ru (gi_icmp_ge_f 47 dX11_isBad_5 (by decide) (by omega) (by omega) (by omega)) ?_
        refine gm_go.ru (gm_aload_n dX11_isBad_8 rfl (by first | exact Or.inl ⟨_, rfl⟩ | exact Or.inr ⟨_, rfl⟩)) ?_
        refine gm_go.ru (gm_iload_n dX11_isBad_9 rfl) ?_
        refine gm_go.ru (gm_iload_n dX11_isBad_10 rfl) ?_
        refine gm_go.ru (gm_cV dX11_isBad_11 (ct_mFar hM hV hi (by omega)) rfl mt_X11_far mv_X11_far (lk_X11_91 rfl) (Or.inl ⟨_, 12, _, _, _, rfl, hM, rfl⟩) rfl (Nat.le_of_ble_eq_true rfl) (by decide)) ?_
        refine gm_go.ru (gm_aload_n dX11_isBad_14 rfl (by first | exact Or.inl ⟨_, rfl⟩ | exact Or.inr ⟨_, rfl⟩)) ?_
        refine gm_go.ru (gm_get dX11_isBad_15 (fl_X11_16 rfl) hM rfl) ?_
        refine gm_go.ru (gi_const dX11_isBad_18) ?_
        refine gm_go.ru (gi_aldN (a := 1) dX11_isBad_19 hV (by decide) (by decide)) ?_
        refine gm_go.ru (gi_icmp_gt_t (tgt := 39) dX11_isBad_20 (by decide) (by omega) (by omega) c1) ?_
        refine gm_go.ru (gi_const dX11_isBad_39) ?_
        exact gm_zret' dX11_isBad_40 rfl rfl
      ·
        by_cases c2 : F 1 < -F (12 + 10 * i + j)
        ·
          have e8 : zW F i = true := zWf_up (j := j + 1) (by simp [zWf]; omega) 8 (by omega)
          rw [e8]
          refine gm_go.ru (gm_iload_n dX11_isBad_2 rfl) ?_
          refine gm_go.ru (gi_bipush dX11_isBad_3 (by decide +kernel)) ?_
          refine gm_go.ru (gi_icmp_ge_f 47 dX11_isBad_5 (by decide) (by omega) (by omega) (by omega)) ?_
          refine gm_go.ru (gm_aload_n dX11_isBad_8 rfl (by first | exact Or.inl ⟨_, rfl⟩ | exact Or.inr ⟨_, rfl⟩)) ?_
          refine gm_go.ru (gm_iload_n dX11_isBad_9 rfl) ?_
          refine gm_go.ru (gm_iload_n dX11_isBad_10 rfl) ?_
          refine gm_go.ru (gm_cV dX11_isBad_11 (ct_mFar hM hV hi (by omega)) rfl mt_X11_far mv_X11_far (lk_X11_91 rfl) (Or.inl ⟨_, 12, _, _, _, rfl, hM, rfl⟩) rfl (Nat.le_of_ble_eq_true rfl) (by decide)) ?_
          refine gm_go.ru (gm_aload_n dX11_isBad_14 rfl (by first | exact Or.inl ⟨_, rfl⟩ | exact Or.inr ⟨_, rfl⟩)) ?_
          refine gm_go.ru (gm_get dX11_isBad_15 (fl_X11_16 rfl) hM rfl) ?_
          refine gm_go.ru (gi_const dX11_isBad_18) ?_
          refine gm_go.ru (gi_aldN (a := 1) dX11_isBad_19 hV (by decide) (by decide)) ?_
          refine gm_go.ru (gi_icmp_gt_f 39 dX11_isBad_20 (by decide) (by omega) (by omega) c1) ?_
          refine gm_go.ru (gm_aload_n dX11_isBad_23 rfl (by first | exact Or.inl ⟨_, rfl⟩ | exact Or.inr ⟨_, rfl⟩)) ?_
          refine gm_go.ru (gm_iload_n dX11_isBad_24 rfl) ?_
          refine gm_go.ru (gm_iload_n dX11_isBad_25 rfl) ?_
          refine gm_go.ru (gm_cV dX11_isBad_26 (ct_mFar hM hV hi (by omega)) rfl mt_X11_far mv_X11_far (lk_X11_91 rfl) (Or.inl ⟨_, 12, _, _, _, rfl, hM, rfl⟩) rfl (Nat.le_of_ble_eq_true rfl) (by decide)) ?_
          refine gm_go.ru (gi_neg dX11_isBad_29) ?_
          refine gm_go.ru (gm_aload_n dX11_isBad_30 rfl (by first | exact Or.inl ⟨_, rfl⟩ | exact Or.inr ⟨_, rfl⟩)) ?_
          refine gm_go.ru (gm_get dX11_isBad_31 (fl_X11_16 rfl) hM rfl) ?_
          refine gm_go.ru (gi_const dX11_isBad_34) ?_
          refine gm_go.ru (gi_aldN (a := 1) dX11_isBad_35 hV (by decide) (by decide)) ?_
          refine gm_go.ru (gi_icmp_le_f 41 dX11_isBad_36 (by decide) (by omega) (by omega) (by omega)) ?_
          refine gm_go.ru (gi_const dX11_isBad_39) ?_
          exact gm_zret' dX11_isBad_40 rfl rfl
        ·
          refine gm_go.ru (gm_iload_n dX11_isBad_2 rfl) ?_
          refine gm_go.ru (gi_bipush dX11_isBad_3 (by decide +kernel)) ?_
          refine gm_go.ru (gi_icmp_ge_f 47 dX11_isBad_5 (by decide) (by omega) (by omega) (by omega)) ?_
          refine gm_go.ru (gm_aload_n dX11_isBad_8 rfl (by first | exact Or.inl ⟨_, rfl⟩ | exact Or.inr ⟨_, rfl⟩)) ?_
          refine gm_go.ru (gm_iload_n dX11_isBad_9 rfl) ?_
          refine gm_go.ru (gm_iload_n dX11_isBad_10 rfl) ?_
          refine gm_go.ru (gm_cV dX11_isBad_11 (ct_mFar hM hV hi (by omega)) rfl mt_X11_far mv_X11_far (lk_X11_91 rfl) (Or.inl ⟨_, 12, _, _, _, rfl, hM, rfl⟩) rfl (Nat.le_of_ble_eq_true rfl) (by decide)) ?_
          refine gm_go.ru (gm_aload_n dX11_isBad_14 rfl (by first | exact Or.inl ⟨_, rfl⟩ | exact Or.inr ⟨_, rfl⟩)) ?_
          refine gm_go.ru (gm_get dX11_isBad_15 (fl_X11_16 rfl) hM rfl) ?_
          refine gm_go.ru (gi_const dX11_isBad_18) ?_
          refine gm_go.ru (gi_aldN (a := 1) dX11_isBad_19 hV (by decide) (by decide)) ?_
          refine gm_go.ru (gi_icmp_gt_f 39 dX11_isBad_20 (by decide) (by omega) (by omega) c1) ?_
          refine gm_go.ru (gm_aload_n dX11_isBad_23 rfl (by first | exact Or.inl ⟨_, rfl⟩ | exact Or.inr ⟨_, rfl⟩)) ?_
          refine gm_go.ru (gm_iload_n dX11_isBad_24 rfl) ?_
          refine gm_go.ru (gm_iload_n dX11_isBad_25 rfl) ?_
          refine gm_go.ru (gm_cV dX11_isBad_26 (ct_mFar hM hV hi (by omega)) rfl mt_X11_far mv_X11_far (lk_X11_91 rfl) (Or.inl ⟨_, 12, _, _, _, rfl, hM, rfl⟩) rfl (Nat.le_of_ble_eq_true rfl) (by decide)) ?_
          refine gm_go.ru (gi_neg dX11_isBad_29) ?_
          refine gm_go.ru (gm_aload_n dX11_isBad_30 rfl (by first | exact Or.inl ⟨_, rfl⟩ | exact Or.inr ⟨_, rfl⟩)) ?_
          refine gm_go.ru (gm_get dX11_isBad_31 (fl_X11_16 rfl) hM rfl) ?_
          refine gm_go.ru (gi_const dX11_isBad_34) ?_
          refine gm_go.ru (gi_aldN (a := 1) dX11_isBad_35 hV (by decide) (by decide)) ?_
          refine gm_go.ru (gi_icmp_le_t (tgt := 41) dX11_isBad_36 (by decide) (by omega) (by omega) (by omega)) ?_
          refine gm_go.ru (gi_iinc (ls' := [_, _, _]) dX11_isBad_41 rfl (by decide) rfl) ?_
          refine gm_go.ru (gm_goto (tgt := 2) dX11_isBad_44 (by decide)) ?_
          exact ih (j + 1) (by omega) (by simp [zWf, hz]; omega)
  refine gm_go.ru (gi_const dX11_isBad_0) ?_
  refine gm_go.ru (gm_istore_n (ls' := [_, _, _]) dX11_isBad_1 (by decide) rfl) ?_
  exact key 8 0 rfl rfl
set_option maxRecDepth 4000 in
theorem ct_mBest {h : gm_H} {m : Nat} {K F : Nat → Int} (hM : h.1[m]? = some (md_c m K)) (hV : h.1[m + 1]? = some (gA 118 F)) {i : Nat} (hv : nd_iv F) (hi : i < 8) : gm_co mX11_bestFor 4 [.ref m, .int (zI (i : Int))] h (.inl (some (.int (zI (zSS F i))))) h := by
  refine gm_co_of _ (by decide +kernel) rfl (Nat.le_of_ble_eq_true rfl) rfl ?_
  have hr := zSmf_r hv hi 8 (by omega)
  have key : ∀ (z j : Nat), j + z = 20 → gm_ru mX11_bestFor 4 (4, [some (.ref m), some (.int (zI (i : Int))), some (.int (zI (zBs (zSmf F i 8) j))), some (.int (zI ((j : Int) + 1)))], [], h) (.inl (some (.int (zI (zSS F i))))) h := by
    intro z
    induction z with
    | zero =>
      intro j hj
      obtain rfl : j = 20 := by omega
      rw [← zBs_20 hv hi]
      refine gm_go.ru (gm_iload_n dX11_bestFor_4 rfl) ?_
      refine gm_go.ru (gi_bipush dX11_bestFor_5 (by decide +kernel)) ?_
      refine gm_go.ru (gi_icmp_gt_t (tgt := 52) dX11_bestFor_7 (by decide) (by omega) (by omega) (by omega)) ?_
      refine gm_go.ru (gm_iload_n dX11_bestFor_52 rfl) ?_
      exact gm_iret dX11_bestFor_53 rfl
    | succ z ih =>
      intro j hj
      have st := zBm_step hv hi (s := j) (by omega)
      have hb := zBs_r (s := j) (S := zSmf F i 8) (by omega) (by omega)
      have hn := ih (j + 1) (by omega)
      rw [← st] at hn
      have r1 := zE_r hv hi (k := (j : Int) + 1) (by omega)
      have r2 := zE_r hv hi (k := -((j : Int) + 1)) (by omega)
      generalize hbe : zBs (zSmf F i 8) j = b at *
      have r3 := zE_r hv hi hb
      by_cases c1 : zE F i ((j : Int) + 1) < zE F i b
      ·
        rw [if_pos c1] at hn
        by_cases c2 : zE F i (-((j : Int) + 1)) < zE F i ((j : Int) + 1)
        ·
          rw [if_pos c2] at hn
          refine gm_go.ru (gm_iload_n dX11_bestFor_4 rfl) ?_
          refine gm_go.ru (gi_bipush dX11_bestFor_5 (by decide +kernel)) ?_
          refine gm_go.ru (gi_icmp_gt_f 52 dX11_bestFor_7 (by decide) (by omega) (by omega) (by omega)) ?_
          refine gm_go.ru (gm_aload_n dX11_bestFor_10 rfl (by first | exact Or.inl ⟨_, rfl⟩ | exact Or.inr ⟨_, rfl⟩)) ?_
          refine gm_go.ru (gm_iload_n dX11_bestFor_11 rfl) ?_
          refine gm_go.ru (gm_iload_n dX11_bestFor_12 rfl) ?_
          refine gm_go.ru (gm_cV dX11_bestFor_13 (ct_mError hM hV hi) rfl mt_X11_error mv_X11_error (lk_X11_102 rfl) (Or.inl ⟨_, 12, _, _, _, rfl, hM, rfl⟩) rfl (Nat.le_of_ble_eq_true rfl) (by decide)) ?_
          refine gm_go.ru (gm_aload_n dX11_bestFor_16 rfl (by first | exact Or.inl ⟨_, rfl⟩ | exact Or.inr ⟨_, rfl⟩)) ?_
          refine gm_go.ru (gm_iload_n dX11_bestFor_17 rfl) ?_
          refine gm_go.ru (gm_iload_n dX11_bestFor_18 rfl) ?_
          refine gm_go.ru (gm_cV dX11_bestFor_19 (ct_mError hM hV hi) rfl mt_X11_error mv_X11_error (lk_X11_102 rfl) (Or.inl ⟨_, 12, _, _, _, rfl, hM, rfl⟩) rfl (Nat.le_of_ble_eq_true rfl) (by decide)) ?_
          refine gm_go.ru (gi_icmp_ge_f 27 dX11_bestFor_22 (by decide) (by omega) (by omega) (by omega)) ?_
          refine gm_go.ru (gm_iload_n dX11_bestFor_25 rfl) ?_
          refine gm_go.ru (gm_istore_n (ls' := [_, _, _, _]) dX11_bestFor_26 (by decide) rfl) ?_
          refine gm_go.ru (gm_aload_n dX11_bestFor_27 rfl (by first | exact Or.inl ⟨_, rfl⟩ | exact Or.inr ⟨_, rfl⟩)) ?_
          refine gm_go.ru (gm_iload_n dX11_bestFor_28 rfl) ?_
          refine gm_go.ru (gm_iload_n dX11_bestFor_29 rfl) ?_
          refine gm_go.ru (gi_neg dX11_bestFor_30) ?_
          refine gm_go.ru (gm_cV dX11_bestFor_31 (ct_mError hM hV hi) rfl mt_X11_error mv_X11_error (lk_X11_102 rfl) (Or.inl ⟨_, 12, _, _, _, rfl, hM, rfl⟩) rfl (Nat.le_of_ble_eq_true rfl) (by decide)) ?_
          refine gm_go.ru (gm_aload_n dX11_bestFor_34 rfl (by first | exact Or.inl ⟨_, rfl⟩ | exact Or.inr ⟨_, rfl⟩)) ?_
          refine gm_go.ru (gm_iload_n dX11_bestFor_35 rfl) ?_
          refine gm_go.ru (gm_iload_n dX11_bestFor_36 rfl) ?_
          refine gm_go.ru (gm_cV dX11_bestFor_37 (ct_mError hM hV hi) rfl mt_X11_error mv_X11_error (lk_X11_102 rfl) (Or.inl ⟨_, 12, _, _, _, rfl, hM, rfl⟩) rfl (Nat.le_of_ble_eq_true rfl) (by decide)) ?_
          refine gm_go.ru (gi_icmp_ge_f 46 dX11_bestFor_40 (by decide) (by omega) (by omega) (by omega)) ?_
          refine gm_go.ru (gm_iload_n dX11_bestFor_43 rfl) ?_
          refine gm_go.ru (gi_neg dX11_bestFor_44) ?_
          refine gm_go.ru (gm_istore_n (ls' := [_, _, _, _]) dX11_bestFor_45 (by decide) rfl) ?_
          refine gm_go.ru (gi_iinc (ls' := [_, _, _, _]) dX11_bestFor_46 rfl (by decide) rfl) ?_
          refine gm_go.ru (gm_goto (tgt := 4) dX11_bestFor_49 (by decide)) ?_
          exact hn
        ·
          rw [if_neg c2] at hn
          refine gm_go.ru (gm_iload_n dX11_bestFor_4 rfl) ?_
          refine gm_go.ru (gi_bipush dX11_bestFor_5 (by decide +kernel)) ?_
          refine gm_go.ru (gi_icmp_gt_f 52 dX11_bestFor_7 (by decide) (by omega) (by omega) (by omega)) ?_
          refine gm_go.ru (gm_aload_n dX11_bestFor_10 rfl (by first | exact Or.inl ⟨_, rfl⟩ | exact Or.inr ⟨_, rfl⟩)) ?_
          refine gm_go.ru (gm_iload_n dX11_bestFor_11 rfl) ?_
          refine gm_go.ru (gm_iload_n dX11_bestFor_12 rfl) ?_
          refine gm_go.ru (gm_cV dX11_bestFor_13 (ct_mError hM hV hi) rfl mt_X11_error mv_X11_error (lk_X11_102 rfl) (Or.inl ⟨_, 12, _, _, _, rfl, hM, rfl⟩) rfl (Nat.le_of_ble_eq_true rfl) (by decide)) ?_
          refine gm_go.ru (gm_aload_n dX11_bestFor_16 rfl (by first | exact Or.inl ⟨_, rfl⟩ | exact Or.inr ⟨_, rfl⟩)) ?_
          refine gm_go.ru (gm_iload_n dX11_bestFor_17 rfl) ?_
          refine gm_go.ru (gm_iload_n dX11_bestFor_18 rfl) ?_
          refine gm_go.ru (gm_cV dX11_bestFor_19 (ct_mError hM hV hi) rfl mt_X11_error mv_X11_error (lk_X11_102 rfl) (Or.inl ⟨_, 12, _, _, _, rfl, hM, rfl⟩) rfl (Nat.le_of_ble_eq_true rfl) (by decide)) ?_
          refine gm_go.ru (gi_icmp_ge_f 27 dX11_bestFor_22 (by decide) (by omega) (by omega) (by omega)) ?_
          refine gm_go.ru (gm_iload_n dX11_bestFor_25 rfl) ?_
          refine gm_go.ru (gm_istore_n (ls' := [_, _, _, _]) dX11_bestFor_26 (by decide) rfl) ?_
          refine gm_go.ru (gm_aload_n dX11_bestFor_27 rfl (by first | exact Or.inl ⟨_, rfl⟩ | exact Or.inr ⟨_, rfl⟩)) ?_
          refine gm_go.ru (gm_iload_n dX11_bestFor_28 rfl) ?_
          refine gm_go.ru (gm_iload_n dX11_bestFor_29 rfl) ?_
          refine gm_go.ru (gi_neg dX11_bestFor_30) ?_
          refine gm_go.ru (gm_cV dX11_bestFor_31 (ct_mError hM hV hi) rfl mt_X11_error mv_X11_error (lk_X11_102 rfl) (Or.inl ⟨_, 12, _, _, _, rfl, hM, rfl⟩) rfl (Nat.le_of_ble_eq_true rfl) (by decide)) ?_
          refine gm_go.ru (gm_aload_n dX11_bestFor_34 rfl (by first | exact Or.inl ⟨_, rfl⟩ | exact Or.inr ⟨_, rfl⟩)) ?_
          refine gm_go.ru (gm_iload_n dX11_bestFor_35 rfl) ?_
          refine gm_go.ru (gm_iload_n dX11_bestFor_36 rfl) ?_
          refine gm_go.ru (gm_cV dX11_bestFor_37 (ct_mError hM hV hi) rfl mt_X11_error mv_X11_error (lk_X11_102 rfl) (Or.inl ⟨_, 12, _, _, _, rfl, hM, rfl⟩) rfl (Nat.le_of_ble_eq_true rfl) (by decide)) ?_
          refine gm_go.ru (gi_icmp_ge_t (tgt := 46) dX11_bestFor_40 (by decide) (by omega) (by omega) (by omega)) ?_
          refine gm_go.ru (gi_iinc (ls' := [_, _, _, _]) dX11_bestFor_46 rfl (by decide) rfl) ?_
          refine gm_go.ru (gm_goto (tgt := 4) dX11_bestFor_49 (by decide)) ?_
          exact hn
      ·
        rw [if_neg c1] at hn
        by_cases c2 : zE F i (-((j : Int) + 1)) < zE F i b
        ·
          rw [if_pos c2] at hn
          refine gm_go.ru (gm_iload_n dX11_bestFor_4 rfl) ?_
          refine gm_go.ru (gi_bipush dX11_bestFor_5 (by decide +kernel)) ?_
          refine gm_go.ru (gi_icmp_gt_f 52 dX11_bestFor_7 (by decide) (by omega) (by omega) (by omega)) ?_
          refine gm_go.ru (gm_aload_n dX11_bestFor_10 rfl (by first | exact Or.inl ⟨_, rfl⟩ | exact Or.inr ⟨_, rfl⟩)) ?_
          refine gm_go.ru (gm_iload_n dX11_bestFor_11 rfl) ?_
          refine gm_go.ru (gm_iload_n dX11_bestFor_12 rfl) ?_
          refine gm_go.ru (gm_cV dX11_bestFor_13 (ct_mError hM hV hi) rfl mt_X11_error mv_X11_error (lk_X11_102 rfl) (Or.inl ⟨_, 12, _, _, _, rfl, hM, rfl⟩) rfl (Nat.le_of_ble_eq_true rfl) (by decide)) ?_
          refine gm_go.ru (gm_aload_n dX11_bestFor_16 rfl (by first | exact Or.inl ⟨_, rfl⟩ | exact Or.inr ⟨_, rfl⟩)) ?_
          refine gm_go.ru (gm_iload_n dX11_bestFor_17 rfl) ?_
          refine gm_go.ru (gm_iload_n dX11_bestFor_18 rfl) ?_
          refine gm_go.ru (gm_cV dX11_bestFor_19 (ct_mError hM hV hi) rfl mt_X11_error mv_X11_error (lk_X11_102 rfl) (Or.inl ⟨_, 12, _, _, _, rfl, hM, rfl⟩) rfl (Nat.le_of_ble_eq_true rfl) (by decide)) ?_
          refine gm_go.ru (gi_icmp_ge_t (tgt := 27) dX11_bestFor_22 (by decide) (by omega) (by omega) (by omega)) ?_
          refine gm_go.ru (gm_aload_n dX11_bestFor_27 rfl (by first | exact Or.inl ⟨_, rfl⟩ | exact Or.inr ⟨_, rfl⟩)) ?_
          refine gm_go.ru (gm_iload_n dX11_bestFor_28 rfl) ?_
          refine gm_go.ru (gm_iload_n dX11_bestFor_29 rfl) ?_
          refine gm_go.ru (gi_neg dX11_bestFor_30) ?_
          refine gm_go.ru (gm_cV dX11_bestFor_31 (ct_mError hM hV hi) rfl mt_X11_error mv_X11_error (lk_X11_102 rfl) (Or.inl ⟨_, 12, _, _, _, rfl, hM, rfl⟩) rfl (Nat.le_of_ble_eq_true rfl) (by decide)) ?_
          refine gm_go.ru (gm_aload_n dX11_bestFor_34 rfl (by first | exact Or.inl ⟨_, rfl⟩ | exact Or.inr ⟨_, rfl⟩)) ?_
          refine gm_go.ru (gm_iload_n dX11_bestFor_35 rfl) ?_
          refine gm_go.ru (gm_iload_n dX11_bestFor_36 rfl) ?_
          refine gm_go.ru (gm_cV dX11_bestFor_37 (ct_mError hM hV hi) rfl mt_X11_error mv_X11_error (lk_X11_102 rfl) (Or.inl ⟨_, 12, _, _, _, rfl, hM, rfl⟩) rfl (Nat.le_of_ble_eq_true rfl) (by decide)) ?_
          refine gm_go.ru (gi_icmp_ge_f 46 dX11_bestFor_40 (by decide) (by omega) (by omega) (by omega)) ?_
          refine gm_go.ru (gm_iload_n dX11_bestFor_43 rfl) ?_
          refine gm_go.ru (gi_neg dX11_bestFor_44) ?_
          refine gm_go.ru (gm_istore_n (ls' := [_, _, _, _]) dX11_bestFor_45 (by decide) rfl) ?_
          refine gm_go.ru (gi_iinc (ls' := [_, _, _, _]) dX11_bestFor_46 rfl (by decide) rfl) ?_
          refine gm_go.ru (gm_goto (tgt := 4) dX11_bestFor_49 (by decide)) ?_
          exact hn
        ·
          rw [if_neg c2] at hn
          refine gm_go.ru (gm_iload_n dX11_bestFor_4 rfl) ?_
          refine gm_go.ru (gi_bipush dX11_bestFor_5 (by decide +kernel)) ?_
          refine gm_go.ru (gi_icmp_gt_f 52 dX11_bestFor_7 (by decide) (by omega) (by omega) (by omega)) ?_
          refine gm_go.ru (gm_aload_n dX11_bestFor_10 rfl (by first | exact Or.inl ⟨_, rfl⟩ | exact Or.inr ⟨_, rfl⟩)) ?_
          refine gm_go.ru (gm_iload_n dX11_bestFor_11 rfl) ?_
          refine gm_go.ru (gm_iload_n dX11_bestFor_12 rfl) ?_
          refine gm_go.ru (gm_cV dX11_bestFor_13 (ct_mError hM hV hi) rfl mt_X11_error mv_X11_error (lk_X11_102 rfl) (Or.inl ⟨_, 12, _, _, _, rfl, hM, rfl⟩) rfl (Nat.le_of_ble_eq_true rfl) (by decide)) ?_
          refine gm_go.ru (gm_aload_n dX11_bestFor_16 rfl (by first | exact Or.inl ⟨_, rfl⟩ | exact Or.inr ⟨_, rfl⟩)) ?_
          refine gm_go.ru (gm_iload_n dX11_bestFor_17 rfl) ?_
          refine gm_go.ru (gm_iload_n dX11_bestFor_18 rfl) ?_
          refine gm_go.ru (gm_cV dX11_bestFor_19 (ct_mError hM hV hi) rfl mt_X11_error mv_X11_error (lk_X11_102 rfl) (Or.inl ⟨_, 12, _, _, _, rfl, hM, rfl⟩) rfl (Nat.le_of_ble_eq_true rfl) (by decide)) ?_
          refine gm_go.ru (gi_icmp_ge_t (tgt := 27) dX11_bestFor_22 (by decide) (by omega) (by omega) (by omega)) ?_
          refine gm_go.ru (gm_aload_n dX11_bestFor_27 rfl (by first | exact Or.inl ⟨_, rfl⟩ | exact Or.inr ⟨_, rfl⟩)) ?_
          refine gm_go.ru (gm_iload_n dX11_bestFor_28 rfl) ?_
          refine gm_go.ru (gm_iload_n dX11_bestFor_29 rfl) ?_
          refine gm_go.ru (gi_neg dX11_bestFor_30) ?_
          refine gm_go.ru (gm_cV dX11_bestFor_31 (ct_mError hM hV hi) rfl mt_X11_error mv_X11_error (lk_X11_102 rfl) (Or.inl ⟨_, 12, _, _, _, rfl, hM, rfl⟩) rfl (Nat.le_of_ble_eq_true rfl) (by decide)) ?_
          refine gm_go.ru (gm_aload_n dX11_bestFor_34 rfl (by first | exact Or.inl ⟨_, rfl⟩ | exact Or.inr ⟨_, rfl⟩)) ?_
          refine gm_go.ru (gm_iload_n dX11_bestFor_35 rfl) ?_
          refine gm_go.ru (gm_iload_n dX11_bestFor_36 rfl) ?_
          refine gm_go.ru (gm_cV dX11_bestFor_37 (ct_mError hM hV hi) rfl mt_X11_error mv_X11_error (lk_X11_102 rfl) (Or.inl ⟨_, 12, _, _, _, rfl, hM, rfl⟩) rfl (Nat.le_of_ble_eq_true rfl) (by decide)) ?_
          refine gm_go.ru (gi_icmp_ge_t (tgt := 46) dX11_bestFor_40 (by decide) (by omega) (by omega) (by omega)) ?_
          refine gm_go.ru (gi_iinc (ls' := [_, _, _, _]) dX11_bestFor_46 rfl (by decide) rfl) ?_
          refine gm_go.ru (gm_goto (tgt := 4) dX11_bestFor_49 (by decide)) ?_
          exact hn
  refine gm_go.ru (gi_const dX11_bestFor_0) ?_
  refine gm_go.ru (gm_istore_n (ls' := [_, _, _, _]) dX11_bestFor_1 (by decide) rfl) ?_
  refine gm_go.ru (gi_const dX11_bestFor_2) ?_
  refine gm_go.ru (gm_istore_n (ls' := [_, _, _, _]) dX11_bestFor_3 (by decide) rfl) ?_
  have k0 := key 20 0 rfl
  rw [zBs_0 (by omega)] at k0
  exact k0
set_option maxRecDepth 4000 in
theorem ct_mFind {h : gm_H} {m : Nat} {K F : Nat → Int} (hM : h.1[m]? = some (md_c m K)) (hV : h.1[m + 1]? = some (gA 118 F)) {T : Nat} {b : Int} (hv : ov_iv T F) (hb : zR b) : gm_co mX11_find 2 [.ref m, .int (zI b)] h (.inl (some (.int (zI (zFind F b))))) h := by
  refine gm_co_of _ (by decide +kernel) rfl (Nat.le_of_ble_eq_true rfl) rfl ?_
  have h4 := hv.2.2.1
  have h3 := hv.2.1
  have hT := hv.2.2.2.2.2.2.2.1
  have key : ∀ (z j : Nat), j + z = (F 4).toNat → gm_ru mX11_find 2 (2, [some (.ref m), some (.int (zI b)), some (.int (zI (j : Int)))], [], h) (.inl (some (.int (zI (zFi F b z j))))) h := by
    intro z
    induction z with
    | zero =>
      intro j hj
      refine gm_go.ru (gm_iload_n dX11_find_2 rfl) ?_
      refine gm_go.ru (gm_aload_n dX11_find_3 rfl (by first | exact Or.inl ⟨_, rfl⟩ | exact Or.inr ⟨_, rfl⟩)) ?_
      refine gm_go.ru (gm_get dX11_find_4 (fl_X11_16 rfl) hM rfl) ?_
      refine gm_go.ru (gi_const dX11_find_7) ?_
      refine gm_go.ru (gi_aldN (a := 4) dX11_find_8 hV (by decide) (by decide)) ?_
      refine gm_go.ru (gi_icmp_ge_t (tgt := 34) dX11_find_9 (by decide) (by omega) (by omega) (by omega)) ?_
      refine gm_go.ru (gi_const dX11_find_34) ?_
      exact gm_iret dX11_find_35 rfl
    | succ z ih =>
      intro j hj
      have hb := hv.2.2.2.2.2.2.2.2 j (by omega)
      rw [zFi]
      by_cases c : F (90 + 4 * j) = b
      ·
        rw [if_pos c]
        refine gm_go.ru (gm_iload_n dX11_find_2 rfl) ?_
        refine gm_go.ru (gm_aload_n dX11_find_3 rfl (by first | exact Or.inl ⟨_, rfl⟩ | exact Or.inr ⟨_, rfl⟩)) ?_
        refine gm_go.ru (gm_get dX11_find_4 (fl_X11_16 rfl) hM rfl) ?_
        refine gm_go.ru (gi_const dX11_find_7) ?_
        refine gm_go.ru (gi_aldN (a := 4) dX11_find_8 hV (by decide) (by decide)) ?_
        refine gm_go.ru (gi_icmp_ge_f 34 dX11_find_9 (by decide) (by omega) (by omega) (by omega)) ?_
        refine gm_go.ru (gm_aload_n dX11_find_12 rfl (by first | exact Or.inl ⟨_, rfl⟩ | exact Or.inr ⟨_, rfl⟩)) ?_
        refine gm_go.ru (gm_get dX11_find_13 (fl_X11_16 rfl) hM rfl) ?_
        refine gm_go.ru (gm_iload_n dX11_find_16 rfl) ?_
        refine gm_go.ru (gi_const dX11_find_17) ?_
        refine gm_go.ru (gm_cS dX11_find_18 (ct_mAt (i := j) (w := 0)) rfl mt_X11_at ms_X11_at (lk_X11_71 rfl) rfl (Nat.le_of_ble_eq_true rfl) (by decide)) ?_
        rw [show 90 + 4 * j + 0 = 90 + 4 * j by omega]
        refine gm_go.ru (gi_aldN dX11_find_21 hV (by omega) (by decide)) ?_
        refine gm_go.ru (gm_iload_n dX11_find_22 rfl) ?_
        refine gm_go.ru (gi_icmp_ne_f 28 dX11_find_23 (by decide) (by omega) (by omega) c) ?_
        refine gm_go.ru (gm_iload_n dX11_find_26 rfl) ?_
        exact gm_iret dX11_find_27 rfl
      ·
        rw [if_neg c]
        refine gm_go.ru (gm_iload_n dX11_find_2 rfl) ?_
        refine gm_go.ru (gm_aload_n dX11_find_3 rfl (by first | exact Or.inl ⟨_, rfl⟩ | exact Or.inr ⟨_, rfl⟩)) ?_
        refine gm_go.ru (gm_get dX11_find_4 (fl_X11_16 rfl) hM rfl) ?_
        refine gm_go.ru (gi_const dX11_find_7) ?_
        refine gm_go.ru (gi_aldN (a := 4) dX11_find_8 hV (by decide) (by decide)) ?_
        refine gm_go.ru (gi_icmp_ge_f 34 dX11_find_9 (by decide) (by omega) (by omega) (by omega)) ?_
        refine gm_go.ru (gm_aload_n dX11_find_12 rfl (by first | exact Or.inl ⟨_, rfl⟩ | exact Or.inr ⟨_, rfl⟩)) ?_
        refine gm_go.ru (gm_get dX11_find_13 (fl_X11_16 rfl) hM rfl) ?_
        refine gm_go.ru (gm_iload_n dX11_find_16 rfl) ?_
        refine gm_go.ru (gi_const dX11_find_17) ?_
        refine gm_go.ru (gm_cS dX11_find_18 (ct_mAt (i := j) (w := 0)) rfl mt_X11_at ms_X11_at (lk_X11_71 rfl) rfl (Nat.le_of_ble_eq_true rfl) (by decide)) ?_
        rw [show 90 + 4 * j + 0 = 90 + 4 * j by omega]
        refine gm_go.ru (gi_aldN dX11_find_21 hV (by omega) (by decide)) ?_
        refine gm_go.ru (gm_iload_n dX11_find_22 rfl) ?_
        refine gm_go.ru (gi_icmp_ne_t (tgt := 28) dX11_find_23 (by decide) (by omega) (by omega) c) ?_
        refine gm_go.ru (gi_iinc (ls' := [_, _, _]) dX11_find_28 rfl (by decide) rfl) ?_
        refine gm_go.ru (gm_goto (tgt := 2) dX11_find_31 (by decide)) ?_
        exact ih (j + 1) (by omega)
  refine gm_go.ru (gi_const dX11_find_0) ?_
  refine gm_go.ru (gm_istore_n (ls' := [_, _, _]) dX11_find_1 (by decide) rfl) ?_
  exact key _ 0 (by omega)
set_option maxRecDepth 4000 in
theorem ct_mTells {h : gm_H} {m : Nat} {K F : Nat → Int} (hM : h.1[m]? = some (md_c m K)) (hV : h.1[m + 1]? = some (gA 118 F)) {a : Nat} (ha : a < 118) : gm_co mX11_tells 1 [.ref m, .int (zI (a : Int))] h (.inl (some (.int (zI (F a))))) (h.1.set m (md_c m (zU K 0 0)), h.2) := by
  obtain ⟨a1, ha1⟩ : ∃ y : gm_H, y = (h.1.set m (md_c m (zU K 0 0)), h.2) := ⟨_, rfl⟩
  have M1 : a1.1[m]? = some (md_c m (zU K 0 0)) := by rw [ha1]; exact gs_s hM
  have V1 : a1.1[m + 1]? = some (gA 118 F) := by rw [ha1]; exact gs_n hV (by omega)
  refine gm_co_of _ (by decide +kernel) rfl (Nat.le_of_ble_eq_true rfl) rfl ?_
  refine gm_go.ru (gm_aload_n dX11_tells_0 rfl (by first | exact Or.inl ⟨_, rfl⟩ | exact Or.inr ⟨_, rfl⟩)) ?_
  refine gm_go.ru (gi_const dX11_tells_1) ?_
  refine gm_go.ru (gm_put dX11_tells_2 (fp_X11_53 rfl) hM (Nat.le_of_ble_eq_true rfl) (by first | exact ⟨rfl, rfl⟩ | exact trivial)) ?_
  refine gm_hp ha1 ?_
  refine gm_go.ru (gm_aload_n dX11_tells_5 rfl (by first | exact Or.inl ⟨_, rfl⟩ | exact Or.inr ⟨_, rfl⟩)) ?_
  refine gm_go.ru (gm_get dX11_tells_6 (fl_X11_16 rfl) M1 rfl) ?_
  refine gm_go.ru (gm_iload_n dX11_tells_9 rfl) ?_
  refine gm_go.ru (gi_aldN (a := a) dX11_tells_10 V1 ha (by decide)) ?_
  rw [ha1]
  exact gm_iret dX11_tells_11 rfl
