/-! the label: what stands in it, how long it is -/
def zLl (v : Nat → Int) (i : Nat) (G : Nat → Int) : Nat → Nat × (Nat → Int)
  | 0 => (zsz i + 1 + zsz (v (10 + 10 * i)), zNb (v (10 + 10 * i)) (zsz i + 1) (zU (zNb i 0 G) (zsz i) 58))
  | j + 1 => ((zLl v i G j).1 + 1 + zsz (v (12 + 10 * i + j)), zNb (v (12 + 10 * i + j)) ((zLl v i G j).1 + 1) (zU (zLl v i G j).2 (zLl v i G j).1 32))
def zLz (v : Nat → Int) (i : Nat) (G : Nat → Int) : Nat × (Nat → Int) := if v (11 + 10 * i) = 1 then ((zLl v i G 8).1 + 2, zU (zU (zLl v i G 8).2 (zLl v i G 8).1 32) ((zLl v i G 8).1 + 1) 120) else if zW v i = true then ((zLl v i G 8).1 + 2, zU (zU (zLl v i G 8).2 (zLl v i G 8).1 32) ((zLl v i G 8).1 + 1) 63) else zLl v i G 8
theorem zLl_le (v : Nat → Int) (i : Nat) (G : Nat → Int) : ∀ j, (zLl v i G j).1 ≤ 7 + 4 * j
  | 0 => by have h1 := zsz_3 i; have h2 := zsz_3 (v (10 + 10 * i)); show zsz i + 1 + zsz (v (10 + 10 * i)) ≤ _; omega
  | j + 1 => by have h1 := zLl_le v i G j; have h2 := zsz_3 (v (12 + 10 * i + j)); show (zLl v i G j).1 + 1 + zsz (v (12 + 10 * i + j)) ≤ _; omega
theorem zLl_1 (v : Nat → Int) (i : Nat) (G H : Nat → Int) : ∀ j, (zLl v i G j).1 = (zLl v i H j).1
  | 0 => rfl
  | j + 1 => by show (zLl v i G j).1 + 1 + _ = (zLl v i H j).1 + 1 + _; rw [zLl_1 v i G H j]
theorem zU_cg {F G : Nat → Int} {c : Nat} {x : Int} (h : ∀ k, k < c → F k = G k) : ∀ k, k < c + 1 → zU F c x k = zU G c x k := fun k hk => by
  by_cases e : k = c
  · rw [e, zU_s, zU_s]
  · rw [zU_n e, zU_n e]; exact h k (by omega)
theorem zLl_2 (v : Nat → Int) (i : Nat) (G H : Nat → Int) : ∀ j k, k < (zLl v i G j).1 → (zLl v i G j).2 k = (zLl v i H j).2 k
  | 0, k, hk => zNb_c (zU_cg (fun k hk => zNb_c (fun k hk => absurd hk (by omega)) k (by omega))) k hk
  | j + 1, k, hk => by
    show zNb _ ((zLl v i G j).1 + 1) (zU (zLl v i G j).2 (zLl v i G j).1 32) k = zNb _ ((zLl v i H j).1 + 1) (zU (zLl v i H j).2 (zLl v i H j).1 32) k
    rw [← zLl_1 v i G H j]
    exact zNb_c (zU_cg (zLl_2 v i G H j)) k hk
theorem zLz_1 (v : Nat → Int) (i : Nat) (G H : Nat → Int) : (zLz v i G).1 = (zLz v i H).1 := by
  unfold zLz
  split
  · show (zLl v i G 8).1 + 2 = (zLl v i H 8).1 + 2; rw [zLl_1 v i G H 8]
  · split
    · show (zLl v i G 8).1 + 2 = (zLl v i H 8).1 + 2; rw [zLl_1 v i G H 8]
    · exact zLl_1 v i G H 8
theorem zLz_2 (v : Nat → Int) (i : Nat) (G H : Nat → Int) : ∀ k, k < (zLz v i G).1 → (zLz v i G).2 k = (zLz v i H).2 k := by
  intro k
  unfold zLz
  split
  · intro hk
    show zU (zU (zLl v i G 8).2 (zLl v i G 8).1 32) ((zLl v i G 8).1 + 1) 120 k = zU (zU (zLl v i H 8).2 (zLl v i H 8).1 32) ((zLl v i H 8).1 + 1) 120 k
    rw [← zLl_1 v i G H 8]
    exact zU_cg (zU_cg (zLl_2 v i G H 8)) k hk
  · split
    · intro hk
      show zU (zU (zLl v i G 8).2 (zLl v i G 8).1 32) ((zLl v i G 8).1 + 1) 63 k = zU (zU (zLl v i H 8).2 (zLl v i H 8).1 32) ((zLl v i H 8).1 + 1) 63 k
      rw [← zLl_1 v i G H 8]
      exact zU_cg (zU_cg (zLl_2 v i G H 8)) k hk
    · exact zLl_2 v i G H 8 k
theorem zU_id {F : Nat → Int} {k : Nat} {z : Int} (e : F k = z) : zU F k z = F := by
  funext j
  unfold zU
  by_cases c : j = k
  · rw [if_pos c, c, e]
  · rw [if_neg c]
theorem zLz_le (v : Nat → Int) (i : Nat) (G : Nat → Int) : (zLz v i G).1 ≤ 41 := by
  have := zLl_le v i G 8
  unfold zLz
  split
  · show (zLl v i G 8).1 + 2 ≤ 41; omega
  · split
    · show (zLl v i G 8).1 + 2 ≤ 41; omega
    · omega
set_option maxRecDepth 4000 in
theorem ct_mWr {h : gm_H} {m c : Nat} {K L : Nat → Int} (hM : h.1[m]? = some (md_c m K)) (hL : h.1[m + 9]? = some (gA 60 L)) (hc : K 20 = (c : Int)) (h60 : c < 60) {x : Int} : ∃ h', gm_co mX11_writes 1 [.ref m, .int (zI x)] h (.inl none) h' ∧ h'.1[m]? = some (md_c m (zU K 20 ((c + 1 : Nat) : Int))) ∧ h'.1[m + 9]? = some (gA 60 (zU L c x)) ∧ gh_fr h h' (fun k => k = m ∨ k = m + 9) := by
  obtain ⟨a1, ha1⟩ : ∃ y : gm_H, y = (h.1.set (m + 9) (gA 60 (zU L c x)), h.2) := ⟨_, rfl⟩
  have M1 : a1.1[m]? = some (md_c m K) := by rw [ha1]; exact gs_n hM (by omega)
  have L1 : a1.1[m + 9]? = some (gA 60 (zU L c x)) := by rw [ha1]; exact gs_s hL
  have f1 : gh_fr h a1 (fun k => k = m ∨ k = m + 9) := by rw [ha1]; exact gh_set gh_rf (Or.inr rfl) _
  obtain ⟨a2, ha2⟩ : ∃ y : gm_H, y = (a1.1.set m (md_c m (zU K 20 ((c + 1 : Nat) : Int))), a1.2) := ⟨_, rfl⟩
  refine ⟨a2, ?_, by rw [ha2]; exact gs_s M1, by rw [ha2]; exact gs_n L1 (by omega), gh_tr f1 (by rw [ha2]; exact gh_set gh_rf (Or.inl rfl) _)⟩
  refine gm_co_of _ (by decide +kernel) rfl (Nat.le_of_ble_eq_true rfl) rfl ?_
  refine gm_go.ru (gm_aload_n dX11_writes_0 rfl (by first | exact Or.inl ⟨_, rfl⟩ | exact Or.inr ⟨_, rfl⟩)) ?_
  refine gm_go.ru (gm_get dX11_writes_1 (fl_X11_41 rfl) hM rfl) ?_
  refine gm_go.ru (gm_aload_n dX11_writes_4 rfl (by first | exact Or.inl ⟨_, rfl⟩ | exact Or.inr ⟨_, rfl⟩)) ?_
  refine gm_go.ru (gm_get dX11_writes_5 (fl_X11_203 rfl) hM rfl) ?_
  rw [hc]
  refine gm_go.ru (gm_iload_n dX11_writes_8 rfl) ?_
  refine gm_go.ru (gi_astN dX11_writes_9 hL (by omega) (by decide)) ?_
  refine gm_hp ha1 ?_
  refine gm_go.ru (gm_aload_n dX11_writes_10 rfl (by first | exact Or.inl ⟨_, rfl⟩ | exact Or.inr ⟨_, rfl⟩)) ?_
  refine gm_go.ru (gm_dup dX11_writes_11 rfl) ?_
  refine gm_go.ru (gm_get dX11_writes_12 (fl_X11_203 rfl) M1 rfl) ?_
  rw [hc]
  refine gm_go.ru (gi_const dX11_writes_15) ?_
  refine gm_go.ru (gi_add dX11_writes_16) ?_
  refine gm_go.ru (gm_put dX11_writes_17 (fp_X11_203 rfl) M1 (Nat.le_of_ble_eq_true rfl) (by first | exact ⟨rfl, rfl⟩ | exact trivial)) ?_
  refine gm_hp ha2 ?_
  exact gm_vret dX11_writes_20 rfl
set_option maxRecDepth 4000 in
theorem mwn_n2 {h : gm_H} {m c : Nat} {K L : Nat → Int} (hM : h.1[m]? = some (md_c m K)) (hL : h.1[m + 9]? = some (gA 60 L)) (hc : K 20 = (c : Int)) {a : Nat} (ha : 10 ≤ a ∧ a ≤ 99) (h60 : c + 3 ≤ 60) : ∃ h', gm_co mX11_writesNumber 2 [.ref m, .int (zI (-(a : Int)))] h (.inl none) h' ∧ h'.1[m]? = some (md_c m (zU K 20 ((c + zsz (-(a : Int)) : Nat) : Int))) ∧ h'.1[m + 9]? = some (gA 60 (zNb (-(a : Int)) c L)) ∧ gh_fr h h' (fun k => k = m ∨ k = m + 9) := by
  obtain ⟨g0, e0, M0, L0, f0⟩ := ct_mWr hM hL hc (by omega) (x := 45)
  obtain ⟨g1, e1, M1, L1, f1⟩ := ct_mWr M0 L0 zU_s (by omega) (x := 48 + (a / 10 : Nat))
  obtain ⟨g2, e2, M2, L2, f2⟩ := ct_mWr M1 L1 zU_s (by omega) (x := 48 + (a % 10 : Nat))
  refine ⟨g2, ?_, ?_, ?_, gh_tr (gh_tr f0 f1) f2⟩
  ·
    refine gm_co_of _ (by decide +kernel) rfl (Nat.le_of_ble_eq_true rfl) rfl ?_
    refine gm_go.ru (gm_iload_n dX11_writesNumber_0 rfl) ?_
    refine gm_go.ru (gi_if_ge_f 10 dX11_writesNumber_1 (by decide) (by omega) (by omega)) ?_
    refine gm_go.ru (gm_aload_n dX11_writesNumber_4 rfl (by first | exact Or.inl ⟨_, rfl⟩ | exact Or.inr ⟨_, rfl⟩)) ?_
    refine gm_go.ru (gi_bipush dX11_writesNumber_5 (by decide +kernel)) ?_
    refine gm_go.ru (gm_cV0 dX11_writesNumber_7 (e0) rfl mt_X11_writes mv_X11_writes (lk_X11_206 rfl) (Or.inl ⟨_, 12, _, _, _, rfl, hM, rfl⟩) rfl (Nat.le_of_ble_eq_true rfl) (by decide)) ?_
    refine gm_go.ru (gm_iload_n dX11_writesNumber_10 rfl) ?_
    refine gm_go.ru (gi_if_ge_f 19 dX11_writesNumber_11 (by decide) (by omega) (by omega)) ?_
    refine gm_go.ru (gm_iload_n dX11_writesNumber_14 rfl) ?_
    refine gm_go.ru (gi_neg dX11_writesNumber_15) ?_
    refine gm_go.ru (gm_goto (tgt := 20) dX11_writesNumber_16 (by decide)) ?_
    rw [Int.neg_neg]
    refine gm_go.ru (gm_istore_n (ls' := [_, _, _]) dX11_writesNumber_20 (by decide) rfl) ?_
    refine gm_go.ru (gm_iload_n dX11_writesNumber_21 rfl) ?_
    refine gm_go.ru (gi_bipush dX11_writesNumber_22 (by decide +kernel)) ?_
    refine gm_go.ru (gi_icmp_lt_f 38 dX11_writesNumber_24 (by decide) (by omega) (by omega) (by omega)) ?_
    refine gm_go.ru (gm_aload_n dX11_writesNumber_27 rfl (by first | exact Or.inl ⟨_, rfl⟩ | exact Or.inr ⟨_, rfl⟩)) ?_
    refine gm_go.ru (gi_bipush dX11_writesNumber_28 (by decide +kernel)) ?_
    refine gm_go.ru (gm_iload_n dX11_writesNumber_30 rfl) ?_
    refine gm_go.ru (gi_bipush dX11_writesNumber_31 (by decide +kernel)) ?_
    refine gm_go.ru (gi_div dX11_writesNumber_33 (by omega) (by decide) (by decide)) ?_
    rw [show (a : Int).tdiv 10 = ((a / 10 : Nat) : Int) by rw [Int.tdiv_eq_ediv_of_nonneg (by omega)]; omega]
    refine gm_go.ru (gi_add dX11_writesNumber_34) ?_
    refine gm_go.ru (gm_cV0 dX11_writesNumber_35 (e1) rfl mt_X11_writes mv_X11_writes (lk_X11_206 rfl) (Or.inl ⟨_, 12, _, _, _, rfl, M0, rfl⟩) rfl (Nat.le_of_ble_eq_true rfl) (by decide)) ?_
    refine gm_go.ru (gm_aload_n dX11_writesNumber_38 rfl (by first | exact Or.inl ⟨_, rfl⟩ | exact Or.inr ⟨_, rfl⟩)) ?_
    refine gm_go.ru (gi_bipush dX11_writesNumber_39 (by decide +kernel)) ?_
    refine gm_go.ru (gm_iload_n dX11_writesNumber_41 rfl) ?_
    refine gm_go.ru (gi_bipush dX11_writesNumber_42 (by decide +kernel)) ?_
    refine gm_go.ru (gi_rem dX11_writesNumber_44 (by omega) (by decide) (by decide)) ?_
    rw [show (a : Int).tmod 10 = ((a % 10 : Nat) : Int) by rw [Int.tmod_eq_emod_of_nonneg (by omega)]; omega]
    refine gm_go.ru (gi_add dX11_writesNumber_45) ?_
    refine gm_go.ru (gm_cV0 dX11_writesNumber_46 (e2) rfl mt_X11_writes mv_X11_writes (lk_X11_206 rfl) (Or.inl ⟨_, 12, _, _, _, rfl, M1, rfl⟩) rfl (Nat.le_of_ble_eq_true rfl) (by decide)) ?_
    exact gm_vret dX11_writesNumber_49 rfl
  ·
    have hz : zsz (-(a : Int)) = 3 := by unfold zsz; rw [if_pos (by omega), if_neg (by omega)]
    rw [hz]
    have e9 := M2
    simp only [zU_zU] at e9
    exact e9
  ·
    have na : (-(a : Int)).natAbs = a := by omega
    unfold zNb
    simp only [na]
    have c0 : (-(a : Int)) < 0 := by omega
    have c1 : ¬ a < 10 := by omega
    rw [if_pos c0, if_pos c0, if_neg c1]
    exact L2
set_option maxRecDepth 4000 in
theorem mwn_n1 {h : gm_H} {m c : Nat} {K L : Nat → Int} (hM : h.1[m]? = some (md_c m K)) (hL : h.1[m + 9]? = some (gA 60 L)) (hc : K 20 = (c : Int)) {a : Nat} (ha : 1 ≤ a ∧ a ≤ 9) (h60 : c + 3 ≤ 60) : ∃ h', gm_co mX11_writesNumber 2 [.ref m, .int (zI (-(a : Int)))] h (.inl none) h' ∧ h'.1[m]? = some (md_c m (zU K 20 ((c + zsz (-(a : Int)) : Nat) : Int))) ∧ h'.1[m + 9]? = some (gA 60 (zNb (-(a : Int)) c L)) ∧ gh_fr h h' (fun k => k = m ∨ k = m + 9) := by
  obtain ⟨g0, e0, M0, L0, f0⟩ := ct_mWr hM hL hc (by omega) (x := 45)
  obtain ⟨g1, e1, M1, L1, f1⟩ := ct_mWr M0 L0 zU_s (by omega) (x := 48 + (a : Int))
  refine ⟨g1, ?_, ?_, ?_, gh_tr f0 f1⟩
  ·
    refine gm_co_of _ (by decide +kernel) rfl (Nat.le_of_ble_eq_true rfl) rfl ?_
    refine gm_go.ru (gm_iload_n dX11_writesNumber_0 rfl) ?_
    refine gm_go.ru (gi_if_ge_f 10 dX11_writesNumber_1 (by decide) (by omega) (by omega)) ?_
    refine gm_go.ru (gm_aload_n dX11_writesNumber_4 rfl (by first | exact Or.inl ⟨_, rfl⟩ | exact Or.inr ⟨_, rfl⟩)) ?_
    refine gm_go.ru (gi_bipush dX11_writesNumber_5 (by decide +kernel)) ?_
    refine gm_go.ru (gm_cV0 dX11_writesNumber_7 (e0) rfl mt_X11_writes mv_X11_writes (lk_X11_206 rfl) (Or.inl ⟨_, 12, _, _, _, rfl, hM, rfl⟩) rfl (Nat.le_of_ble_eq_true rfl) (by decide)) ?_
    refine gm_go.ru (gm_iload_n dX11_writesNumber_10 rfl) ?_
    refine gm_go.ru (gi_if_ge_f 19 dX11_writesNumber_11 (by decide) (by omega) (by omega)) ?_
    refine gm_go.ru (gm_iload_n dX11_writesNumber_14 rfl) ?_
    refine gm_go.ru (gi_neg dX11_writesNumber_15) ?_
    refine gm_go.ru (gm_goto (tgt := 20) dX11_writesNumber_16 (by decide)) ?_
    rw [Int.neg_neg]
    refine gm_go.ru (gm_istore_n (ls' := [_, _, _]) dX11_writesNumber_20 (by decide) rfl) ?_
    refine gm_go.ru (gm_iload_n dX11_writesNumber_21 rfl) ?_
    refine gm_go.ru (gi_bipush dX11_writesNumber_22 (by decide +kernel)) ?_
    refine gm_go.ru (gi_icmp_lt_t (tgt := 38) dX11_writesNumber_24 (by decide) (by omega) (by omega) (by omega)) ?_
    refine gm_go.ru (gm_aload_n dX11_writesNumber_38 rfl (by first | exact Or.inl ⟨_, rfl⟩ | exact Or.inr ⟨_, rfl⟩)) ?_
    refine gm_go.ru (gi_bipush dX11_writesNumber_39 (by decide +kernel)) ?_
    refine gm_go.ru (gm_iload_n dX11_writesNumber_41 rfl) ?_
    refine gm_go.ru (gi_bipush dX11_writesNumber_42 (by decide +kernel)) ?_
    refine gm_go.ru (gi_rem dX11_writesNumber_44 (by omega) (by decide) (by decide)) ?_
    rw [show (a : Int).tmod 10 = ((a % 10 : Nat) : Int) by rw [Int.tmod_eq_emod_of_nonneg (by omega)]; omega]
    rw [show a % 10 = a by omega]
    refine gm_go.ru (gi_add dX11_writesNumber_45) ?_
    refine gm_go.ru (gm_cV0 dX11_writesNumber_46 (e1) rfl mt_X11_writes mv_X11_writes (lk_X11_206 rfl) (Or.inl ⟨_, 12, _, _, _, rfl, M0, rfl⟩) rfl (Nat.le_of_ble_eq_true rfl) (by decide)) ?_
    exact gm_vret dX11_writesNumber_49 rfl
  ·
    have hz : zsz (-(a : Int)) = 2 := by unfold zsz; rw [if_pos (by omega), if_pos (by omega)]
    rw [hz]
    have e9 := M1
    simp only [zU_zU] at e9
    exact e9
  ·
    have na : (-(a : Int)).natAbs = a := by omega
    unfold zNb
    simp only [na]
    have c0 : (-(a : Int)) < 0 := by omega
    have c1 : a < 10 := by omega
    rw [if_pos c0, if_pos c0, if_pos c1]
    exact L1
set_option maxRecDepth 4000 in
theorem mwn_p2 {h : gm_H} {m c : Nat} {K L : Nat → Int} (hM : h.1[m]? = some (md_c m K)) (hL : h.1[m + 9]? = some (gA 60 L)) (hc : K 20 = (c : Int)) {a : Nat} (ha : 10 ≤ a ∧ a ≤ 99) (h60 : c + 3 ≤ 60) : ∃ h', gm_co mX11_writesNumber 2 [.ref m, .int (zI ((a : Int)))] h (.inl none) h' ∧ h'.1[m]? = some (md_c m (zU K 20 ((c + zsz ((a : Int)) : Nat) : Int))) ∧ h'.1[m + 9]? = some (gA 60 (zNb ((a : Int)) c L)) ∧ gh_fr h h' (fun k => k = m ∨ k = m + 9) := by
  obtain ⟨g0, e0, M0, L0, f0⟩ := ct_mWr hM hL hc (by omega) (x := 48 + (a / 10 : Nat))
  obtain ⟨g1, e1, M1, L1, f1⟩ := ct_mWr M0 L0 zU_s (by omega) (x := 48 + (a % 10 : Nat))
  refine ⟨g1, ?_, ?_, ?_, gh_tr f0 f1⟩
  ·
    refine gm_co_of _ (by decide +kernel) rfl (Nat.le_of_ble_eq_true rfl) rfl ?_
    refine gm_go.ru (gm_iload_n dX11_writesNumber_0 rfl) ?_
    refine gm_go.ru (gi_if_ge_t (tgt := 10) dX11_writesNumber_1 (by decide) (by omega) (by omega)) ?_
    refine gm_go.ru (gm_iload_n dX11_writesNumber_10 rfl) ?_
    refine gm_go.ru (gi_if_ge_t (tgt := 19) dX11_writesNumber_11 (by decide) (by omega) (by omega)) ?_
    refine gm_go.ru (gm_iload_n dX11_writesNumber_19 rfl) ?_
    refine gm_go.ru (gm_istore_n (ls' := [_, _, _]) dX11_writesNumber_20 (by decide) rfl) ?_
    refine gm_go.ru (gm_iload_n dX11_writesNumber_21 rfl) ?_
    refine gm_go.ru (gi_bipush dX11_writesNumber_22 (by decide +kernel)) ?_
    refine gm_go.ru (gi_icmp_lt_f 38 dX11_writesNumber_24 (by decide) (by omega) (by omega) (by omega)) ?_
    refine gm_go.ru (gm_aload_n dX11_writesNumber_27 rfl (by first | exact Or.inl ⟨_, rfl⟩ | exact Or.inr ⟨_, rfl⟩)) ?_
    refine gm_go.ru (gi_bipush dX11_writesNumber_28 (by decide +kernel)) ?_
    refine gm_go.ru (gm_iload_n dX11_writesNumber_30 rfl) ?_
    refine gm_go.ru (gi_bipush dX11_writesNumber_31 (by decide +kernel)) ?_
    refine gm_go.ru (gi_div dX11_writesNumber_33 (by omega) (by decide) (by decide)) ?_
    rw [show (a : Int).tdiv 10 = ((a / 10 : Nat) : Int) by rw [Int.tdiv_eq_ediv_of_nonneg (by omega)]; omega]
    refine gm_go.ru (gi_add dX11_writesNumber_34) ?_
    refine gm_go.ru (gm_cV0 dX11_writesNumber_35 (e0) rfl mt_X11_writes mv_X11_writes (lk_X11_206 rfl) (Or.inl ⟨_, 12, _, _, _, rfl, hM, rfl⟩) rfl (Nat.le_of_ble_eq_true rfl) (by decide)) ?_
    refine gm_go.ru (gm_aload_n dX11_writesNumber_38 rfl (by first | exact Or.inl ⟨_, rfl⟩ | exact Or.inr ⟨_, rfl⟩)) ?_
    refine gm_go.ru (gi_bipush dX11_writesNumber_39 (by decide +kernel)) ?_
    refine gm_go.ru (gm_iload_n dX11_writesNumber_41 rfl) ?_
    refine gm_go.ru (gi_bipush dX11_writesNumber_42 (by decide +kernel)) ?_
    refine gm_go.ru (gi_rem dX11_writesNumber_44 (by omega) (by decide) (by decide)) ?_
    rw [show (a : Int).tmod 10 = ((a % 10 : Nat) : Int) by rw [Int.tmod_eq_emod_of_nonneg (by omega)]; omega]
    refine gm_go.ru (gi_add dX11_writesNumber_45) ?_
    refine gm_go.ru (gm_cV0 dX11_writesNumber_46 (e1) rfl mt_X11_writes mv_X11_writes (lk_X11_206 rfl) (Or.inl ⟨_, 12, _, _, _, rfl, M0, rfl⟩) rfl (Nat.le_of_ble_eq_true rfl) (by decide)) ?_
    exact gm_vret dX11_writesNumber_49 rfl
  ·
    have hz : zsz ((a : Int)) = 2 := by unfold zsz; rw [if_neg (by omega), if_neg (by omega)]
    rw [hz]
    have e9 := M1
    simp only [zU_zU] at e9
    exact e9
  ·
    have na : ((a : Int)).natAbs = a := by omega
    unfold zNb
    simp only [na]
    have c0 : ¬ ((a : Int)) < 0 := by omega
    have c1 : ¬ a < 10 := by omega
    rw [if_neg c0, if_neg c0, if_neg c1]
    exact L1
set_option maxRecDepth 4000 in
theorem mwn_p1 {h : gm_H} {m c : Nat} {K L : Nat → Int} (hM : h.1[m]? = some (md_c m K)) (hL : h.1[m + 9]? = some (gA 60 L)) (hc : K 20 = (c : Int)) {a : Nat} (ha : a ≤ 9) (h60 : c + 3 ≤ 60) : ∃ h', gm_co mX11_writesNumber 2 [.ref m, .int (zI ((a : Int)))] h (.inl none) h' ∧ h'.1[m]? = some (md_c m (zU K 20 ((c + zsz ((a : Int)) : Nat) : Int))) ∧ h'.1[m + 9]? = some (gA 60 (zNb ((a : Int)) c L)) ∧ gh_fr h h' (fun k => k = m ∨ k = m + 9) := by
  obtain ⟨g0, e0, M0, L0, f0⟩ := ct_mWr hM hL hc (by omega) (x := 48 + (a : Int))
  refine ⟨g0, ?_, ?_, ?_, f0⟩
  ·
    refine gm_co_of _ (by decide +kernel) rfl (Nat.le_of_ble_eq_true rfl) rfl ?_
    refine gm_go.ru (gm_iload_n dX11_writesNumber_0 rfl) ?_
    refine gm_go.ru (gi_if_ge_t (tgt := 10) dX11_writesNumber_1 (by decide) (by omega) (by omega)) ?_
    refine gm_go.ru (gm_iload_n dX11_writesNumber_10 rfl) ?_
    refine gm_go.ru (gi_if_ge_t (tgt := 19) dX11_writesNumber_11 (by decide) (by omega) (by omega)) ?_
    refine gm_go.ru (gm_iload_n dX11_writesNumber_19 rfl) ?_
    refine gm_go.ru (gm_istore_n (ls' := [_, _, _]) dX11_writesNumber_20 (by decide) rfl) ?_
    refine gm_go.ru (gm_iload_n dX11_writesNumber_21 rfl) ?_
    refine gm_go.ru (gi_bipush dX11_writesNumber_22 (by decide +kernel)) ?_
    refine gm_go.ru (gi_icmp_lt_t (tgt := 38) dX11_writesNumber_24 (by decide) (by omega) (by omega) (by omega)) ?_
    refine gm_go.ru (gm_aload_n dX11_writesNumber_38 rfl (by first | exact Or.inl ⟨_, rfl⟩ | exact Or.inr ⟨_, rfl⟩)) ?_
    refine gm_go.ru (gi_bipush dX11_writesNumber_39 (by decide +kernel)) ?_
    refine gm_go.ru (gm_iload_n dX11_writesNumber_41 rfl) ?_
    refine gm_go.ru (gi_bipush dX11_writesNumber_42 (by decide +kernel)) ?_
    refine gm_go.ru (gi_rem dX11_writesNumber_44 (by omega) (by decide) (by decide)) ?_
    rw [show (a : Int).tmod 10 = ((a % 10 : Nat) : Int) by rw [Int.tmod_eq_emod_of_nonneg (by omega)]; omega]
    rw [show a % 10 = a by omega]
    refine gm_go.ru (gi_add dX11_writesNumber_45) ?_
    refine gm_go.ru (gm_cV0 dX11_writesNumber_46 (e0) rfl mt_X11_writes mv_X11_writes (lk_X11_206 rfl) (Or.inl ⟨_, 12, _, _, _, rfl, hM, rfl⟩) rfl (Nat.le_of_ble_eq_true rfl) (by decide)) ?_
    exact gm_vret dX11_writesNumber_49 rfl
  ·
    have hz : zsz ((a : Int)) = 1 := by unfold zsz; rw [if_neg (by omega), if_pos (by omega)]
    rw [hz]
    exact M0
  ·
    have na : ((a : Int)).natAbs = a := by omega
    unfold zNb
    simp only [na]
    have c0 : ¬ ((a : Int)) < 0 := by omega
    have c1 : a < 10 := by omega
    rw [if_neg c0, if_neg c0, if_pos c1]
    exact L0
set_option maxRecDepth 4000 in
theorem ct_mWn {h : gm_H} {m c : Nat} {K L : Nat → Int} (hM : h.1[m]? = some (md_c m K)) (hL : h.1[m + 9]? = some (gA 60 L)) (hc : K 20 = (c : Int)) {i : Int} (hi : -99 ≤ i ∧ i ≤ 99) (h60 : c + 3 ≤ 60) : ∃ h', gm_co mX11_writesNumber 2 [.ref m, .int (zI i)] h (.inl none) h' ∧ h'.1[m]? = some (md_c m (zU K 20 ((c + zsz i : Nat) : Int))) ∧ h'.1[m + 9]? = some (gA 60 (zNb i c L)) ∧ gh_fr h h' (fun k => k = m ∨ k = m + 9) := by
  by_cases c0 : i < 0
  · obtain ⟨a, rfl⟩ : ∃ a : Nat, i = -(a : Int) := ⟨i.natAbs, by omega⟩
    by_cases c1 : a < 10
    · exact mwn_n1 hM hL hc (by omega) h60
    · exact mwn_n2 hM hL hc (by omega) h60
  · obtain ⟨a, rfl⟩ : ∃ a : Nat, i = (a : Int) := ⟨i.natAbs, by omega⟩
    by_cases c1 : a < 10
    · exact mwn_p1 hM hL hc (by omega) h60
    · exact mwn_p2 hM hL hc (by omega) h60
set_option maxRecDepth 4000 in
theorem ct_m_writeLabelX {h : gm_H} {m : Nat} {K F : Nat → Int} (hM : h.1[m]? = some (md_c m K)) (hV : h.1[m + 1]? = some (gA 118 F)) {i : Int} (hv : nd_iv F) (hi : zR i) (hq : ¬ (0 ≤ i ∧ i < F 0)) : ∃ h', gm_co mX11_writeLabel 6 [.ref m, .int (zI i)] h (.inl (some (.int (zI (0))))) h' ∧ h'.1[m]? = some (md_c m (zU K 0 1)) ∧ gh_fr h h' (fun k => k = m) := by
  obtain ⟨a1, ha1⟩ : ∃ y : gm_H, y = (h.1.set m (md_c m (zU K 0 1)), h.2) := ⟨_, rfl⟩
  have M_a1 : a1.1[m]? = some (md_c m (zU K 0 1)) := by rw [ha1]; exact gs_s hM
  have V_a1 : a1.1[m + 1]? = some (gA 118 F) := by rw [ha1]; exact gs_n hV (by omega)
  have f_a1 : gh_fr h a1 (fun k => k = m) := by rw [ha1]; exact gh_set (K := fun k => k = m) gh_rf rfl _
  refine ⟨a1, ?_, M_a1, f_a1⟩
  refine gm_co_of _ (by decide +kernel) rfl (Nat.le_of_ble_eq_true rfl) rfl ?_
  refine gm_go.ru (gm_aload_n dX11_writeLabel_0 rfl (by first | exact Or.inl ⟨_, rfl⟩ | exact Or.inr ⟨_, rfl⟩)) ?_
  refine gm_go.ru (gm_aload_n dX11_writeLabel_1 rfl (by first | exact Or.inl ⟨_, rfl⟩ | exact Or.inr ⟨_, rfl⟩)) ?_
  refine gm_go.ru (gm_iload_n dX11_writeLabel_2 rfl) ?_
  refine gm_go.ru (gm_cV dX11_writeLabel_3 (ct_mIsN hM hV hv hi) rfl mt_X11_isNeedle mv_X11_isNeedle (lk_X11_87 rfl) (Or.inl ⟨_, 12, _, _, _, rfl, hM, rfl⟩) rfl (Nat.le_of_ble_eq_true rfl) (by decide)) ?_
  rw [zB_f hq]
  refine gm_go.ru (gi_if_eq_t (tgt := 13) dX11_writeLabel_6 (by decide) (by decide) rfl) ?_
  refine gm_go.ru (gi_const dX11_writeLabel_13) ?_
  refine gm_go.ru (gm_put dX11_writeLabel_14 (fp_X11_53 rfl) hM (Nat.le_of_ble_eq_true rfl) (by first | exact ⟨rfl, rfl⟩ | exact trivial)) ?_
  refine gm_hp ha1 ?_
  refine gm_go.ru (gm_aload_n dX11_writeLabel_17 rfl (by first | exact Or.inl ⟨_, rfl⟩ | exact Or.inr ⟨_, rfl⟩)) ?_
  refine gm_go.ru (gm_get dX11_writeLabel_18 (fl_X11_53 rfl) M_a1 rfl) ?_
  refine gm_go.ru (gi_if_eq_f 26 dX11_writeLabel_21 (by decide) (by rw [zU_s]; decide) (by rw [zU_s]; decide)) ?_
  refine gm_go.ru (gi_const dX11_writeLabel_24) ?_
  exact gm_iret dX11_writeLabel_25 rfl
set_option maxRecDepth 4000 in
theorem wl_2 {h : gm_H} {m i : Nat} {K F G : Nat → Int} (hM : h.1[m]? = some (md_c m K)) (hV : h.1[m + 1]? = some (gA 118 F)) (hL : h.1[m + 9]? = some (gA 60 (zLl F i G 8).2)) (hv : nd_iv F) (h8 : i < 8) (hc : K 20 = ((zLl F i G 8).1 : Int)) {x : Option Value} : ∃ h', gm_ru mX11_writeLabel 6 (86, [some (.ref m), some (.int (zI (i : Int))), x], [], h) (.inl (some (.int (zI ((zLz F i G).1 : Nat))))) h' ∧ h'.1[m]? = some (md_c m (zU K 20 ((zLz F i G).1 : Nat))) ∧ h'.1[m + 9]? = some (gA 60 (zLz F i G).2) ∧ gh_fr h h' (fun k => k = m ∨ k = m + 9) := by
  have hg := hv.2.2.2.1 i h8
  have le := zLl_le F i G 8
  unfold zLz at *
  by_cases c1 : F (11 + 10 * i) = 1
  ·
    rw [if_pos c1]
    obtain ⟨g1, e1, M_1, L_1, f_1⟩ := ct_mWr hM hL hc (by omega) (x := 32)
    obtain ⟨g2, e2, M_2, L_2, f_2⟩ := ct_mWr M_1 L_1 zU_s (by omega) (x := 120)
    rw [zU_zU] at M_2
    refine ⟨g2, ?_, M_2, ?_, gh_tr f_1 f_2⟩
    ·
      refine gm_go.ru (gm_aload_n dX11_writeLabel_86 rfl (by first | exact Or.inl ⟨_, rfl⟩ | exact Or.inr ⟨_, rfl⟩)) ?_
      refine gm_go.ru (gm_get dX11_writeLabel_87 (fl_X11_16 rfl) hM rfl) ?_
      refine gm_go.ru (gm_iload_n dX11_writeLabel_90 rfl) ?_
      refine gm_go.ru (gi_const dX11_writeLabel_91) ?_
      refine gm_go.ru (gm_cS dX11_writeLabel_92 (ct_mOf (i := i) (w := 1)) rfl mt_X11_of ms_X11_of (lk_X11_67 rfl) rfl (Nat.le_of_ble_eq_true rfl) (by decide)) ?_
      rw [show 10 + 10 * i + 1 = 11 + 10 * i by omega]
      refine gm_go.ru (gi_aldN dX11_writeLabel_95 hV (by omega) (by decide)) ?_
      refine gm_go.ru (gi_const dX11_writeLabel_96) ?_
      refine gm_go.ru (gi_icmp_ne_f 104 dX11_writeLabel_97 (by decide) (by omega) (by omega) c1) ?_
      refine gm_go.ru (gi_const dX11_writeLabel_100) ?_
      refine gm_go.ru (gm_goto (tgt := 105) dX11_writeLabel_101 (by decide)) ?_
      refine gm_go.ru (gm_istore_n (ls' := [_, _, _]) dX11_writeLabel_105 (by decide) rfl) ?_
      refine gm_go.ru (gm_iload_n dX11_writeLabel_106 rfl) ?_
      refine gm_go.ru (gi_if_ne_t (tgt := 118) dX11_writeLabel_107 (by decide) (by decide) (by decide)) ?_
      refine gm_go.ru (gm_aload_n dX11_writeLabel_118 rfl (by first | exact Or.inl ⟨_, rfl⟩ | exact Or.inr ⟨_, rfl⟩)) ?_
      refine gm_go.ru (gi_bipush dX11_writeLabel_119 (by decide +kernel)) ?_
      refine gm_go.ru (gm_cV0 dX11_writeLabel_121 (e1) rfl mt_X11_writes mv_X11_writes (lk_X11_206 rfl) (Or.inl ⟨_, 12, _, _, _, rfl, hM, rfl⟩) rfl (Nat.le_of_ble_eq_true rfl) (by decide)) ?_
      refine gm_go.ru (gm_aload_n dX11_writeLabel_124 rfl (by first | exact Or.inl ⟨_, rfl⟩ | exact Or.inr ⟨_, rfl⟩)) ?_
      refine gm_go.ru (gm_iload_n dX11_writeLabel_125 rfl) ?_
      refine gm_go.ru (gi_if_eq_f 134 dX11_writeLabel_126 (by decide) (by decide) (by decide)) ?_
      refine gm_go.ru (gi_bipush dX11_writeLabel_129 (by decide +kernel)) ?_
      refine gm_go.ru (gm_goto (tgt := 136) dX11_writeLabel_131 (by decide)) ?_
      refine gm_go.ru (gm_cV0 dX11_writeLabel_136 (e2) rfl mt_X11_writes mv_X11_writes (lk_X11_206 rfl) (Or.inl ⟨_, 12, _, _, _, rfl, M_1, rfl⟩) rfl (Nat.le_of_ble_eq_true rfl) (by decide)) ?_
      refine gm_go.ru (gm_aload_n dX11_writeLabel_139 rfl (by first | exact Or.inl ⟨_, rfl⟩ | exact Or.inr ⟨_, rfl⟩)) ?_
      refine gm_go.ru (gm_get dX11_writeLabel_140 (fl_X11_203 rfl) M_2 rfl) ?_
      rw [zU_s]
      exact gm_iret dX11_writeLabel_143 rfl
    · exact L_2
  ·
    rw [if_neg c1]
    have hbd := ct_mIsBad hM hV hv h8
    cases hb : zW F i
    ·
      rw [hb] at hbd
      rw [if_neg (by decide)]
      refine ⟨h, ?_, by rw [zU_id hc]; exact hM, hL, gh_rf⟩
      refine gm_go.ru (gm_aload_n dX11_writeLabel_86 rfl (by first | exact Or.inl ⟨_, rfl⟩ | exact Or.inr ⟨_, rfl⟩)) ?_
      refine gm_go.ru (gm_get dX11_writeLabel_87 (fl_X11_16 rfl) hM rfl) ?_
      refine gm_go.ru (gm_iload_n dX11_writeLabel_90 rfl) ?_
      refine gm_go.ru (gi_const dX11_writeLabel_91) ?_
      refine gm_go.ru (gm_cS dX11_writeLabel_92 (ct_mOf (i := i) (w := 1)) rfl mt_X11_of ms_X11_of (lk_X11_67 rfl) rfl (Nat.le_of_ble_eq_true rfl) (by decide)) ?_
      rw [show 10 + 10 * i + 1 = 11 + 10 * i by omega]
      refine gm_go.ru (gi_aldN dX11_writeLabel_95 hV (by omega) (by decide)) ?_
      refine gm_go.ru (gi_const dX11_writeLabel_96) ?_
      refine gm_go.ru (gi_icmp_ne_t (tgt := 104) dX11_writeLabel_97 (by decide) (by omega) (by omega) c1) ?_
      refine gm_go.ru (gi_const dX11_writeLabel_104) ?_
      refine gm_go.ru (gm_istore_n (ls' := [_, _, _]) dX11_writeLabel_105 (by decide) rfl) ?_
      refine gm_go.ru (gm_iload_n dX11_writeLabel_106 rfl) ?_
      refine gm_go.ru (gi_if_ne_f 118 dX11_writeLabel_107 (by decide) (by decide) rfl) ?_
      refine gm_go.ru (gm_aload_n dX11_writeLabel_110 rfl (by first | exact Or.inl ⟨_, rfl⟩ | exact Or.inr ⟨_, rfl⟩)) ?_
      refine gm_go.ru (gm_iload_n dX11_writeLabel_111 rfl) ?_
      refine gm_go.ru (gm_cV dX11_writeLabel_112 (hbd) rfl mt_X11_isBad mv_X11_isBad (lk_X11_117 rfl) (Or.inl ⟨_, 12, _, _, _, rfl, hM, rfl⟩) rfl (Nat.le_of_ble_eq_true rfl) (by decide)) ?_
      refine gm_go.ru (gi_if_eq_t (tgt := 139) dX11_writeLabel_115 (by decide) (by decide) rfl) ?_
      refine gm_go.ru (gm_aload_n dX11_writeLabel_139 rfl (by first | exact Or.inl ⟨_, rfl⟩ | exact Or.inr ⟨_, rfl⟩)) ?_
      refine gm_go.ru (gm_get dX11_writeLabel_140 (fl_X11_203 rfl) hM rfl) ?_
      rw [hc]
      exact gm_iret dX11_writeLabel_143 rfl
    ·
      rw [hb] at hbd
      rw [if_pos rfl]
      obtain ⟨g1, e1, M_1, L_1, f_1⟩ := ct_mWr hM hL hc (by omega) (x := 32)
      obtain ⟨g2, e2, M_2, L_2, f_2⟩ := ct_mWr M_1 L_1 zU_s (by omega) (x := 63)
      rw [zU_zU] at M_2
      refine ⟨g2, ?_, M_2, ?_, gh_tr f_1 f_2⟩
      ·
        refine gm_go.ru (gm_aload_n dX11_writeLabel_86 rfl (by first | exact Or.inl ⟨_, rfl⟩ | exact Or.inr ⟨_, rfl⟩)) ?_
        refine gm_go.ru (gm_get dX11_writeLabel_87 (fl_X11_16 rfl) hM rfl) ?_
        refine gm_go.ru (gm_iload_n dX11_writeLabel_90 rfl) ?_
        refine gm_go.ru (gi_const dX11_writeLabel_91) ?_
        refine gm_go.ru (gm_cS dX11_writeLabel_92 (ct_mOf (i := i) (w := 1)) rfl mt_X11_of ms_X11_of (lk_X11_67 rfl) rfl (Nat.le_of_ble_eq_true rfl) (by decide)) ?_
        rw [show 10 + 10 * i + 1 = 11 + 10 * i by omega]
        refine gm_go.ru (gi_aldN dX11_writeLabel_95 hV (by omega) (by decide)) ?_
        refine gm_go.ru (gi_const dX11_writeLabel_96) ?_
        refine gm_go.ru (gi_icmp_ne_t (tgt := 104) dX11_writeLabel_97 (by decide) (by omega) (by omega) c1) ?_
        refine gm_go.ru (gi_const dX11_writeLabel_104) ?_
        refine gm_go.ru (gm_istore_n (ls' := [_, _, _]) dX11_writeLabel_105 (by decide) rfl) ?_
        refine gm_go.ru (gm_iload_n dX11_writeLabel_106 rfl) ?_
        refine gm_go.ru (gi_if_ne_f 118 dX11_writeLabel_107 (by decide) (by decide) rfl) ?_
        refine gm_go.ru (gm_aload_n dX11_writeLabel_110 rfl (by first | exact Or.inl ⟨_, rfl⟩ | exact Or.inr ⟨_, rfl⟩)) ?_
        refine gm_go.ru (gm_iload_n dX11_writeLabel_111 rfl) ?_
        refine gm_go.ru (gm_cV dX11_writeLabel_112 (hbd) rfl mt_X11_isBad mv_X11_isBad (lk_X11_117 rfl) (Or.inl ⟨_, 12, _, _, _, rfl, hM, rfl⟩) rfl (Nat.le_of_ble_eq_true rfl) (by decide)) ?_
        refine gm_go.ru (gi_if_eq_f 139 dX11_writeLabel_115 (by decide) (by decide) (by decide)) ?_
        refine gm_go.ru (gm_aload_n dX11_writeLabel_118 rfl (by first | exact Or.inl ⟨_, rfl⟩ | exact Or.inr ⟨_, rfl⟩)) ?_
        refine gm_go.ru (gi_bipush dX11_writeLabel_119 (by decide +kernel)) ?_
        refine gm_go.ru (gm_cV0 dX11_writeLabel_121 (e1) rfl mt_X11_writes mv_X11_writes (lk_X11_206 rfl) (Or.inl ⟨_, 12, _, _, _, rfl, hM, rfl⟩) rfl (Nat.le_of_ble_eq_true rfl) (by decide)) ?_
        refine gm_go.ru (gm_aload_n dX11_writeLabel_124 rfl (by first | exact Or.inl ⟨_, rfl⟩ | exact Or.inr ⟨_, rfl⟩)) ?_
        refine gm_go.ru (gm_iload_n dX11_writeLabel_125 rfl) ?_
        refine gm_go.ru (gi_if_eq_t (tgt := 134) dX11_writeLabel_126 (by decide) (by decide) rfl) ?_
        refine gm_go.ru (gi_bipush dX11_writeLabel_134 (by decide +kernel)) ?_
        refine gm_go.ru (gm_cV0 dX11_writeLabel_136 (e2) rfl mt_X11_writes mv_X11_writes (lk_X11_206 rfl) (Or.inl ⟨_, 12, _, _, _, rfl, M_1, rfl⟩) rfl (Nat.le_of_ble_eq_true rfl) (by decide)) ?_
        refine gm_go.ru (gm_aload_n dX11_writeLabel_139 rfl (by first | exact Or.inl ⟨_, rfl⟩ | exact Or.inr ⟨_, rfl⟩)) ?_
        refine gm_go.ru (gm_get dX11_writeLabel_140 (fl_X11_203 rfl) M_2 rfl) ?_
        rw [zU_s]
        exact gm_iret dX11_writeLabel_143 rfl
      · exact L_2
set_option maxRecDepth 4000 in
theorem wl_1 {m i : Nat} {F G : Nat → Int} (hv : nd_iv F) (h8 : i < 8) : ∀ (z j : Nat) (h : gm_H) (K : Nat → Int), j + z = 8 → h.1[m]? = some (md_c m K) → h.1[m + 1]? = some (gA 118 F) → h.1[m + 9]? = some (gA 60 (zLl F i G j).2) → K 20 = ((zLl F i G j).1 : Int) → ∃ h', gm_ru mX11_writeLabel 6 (58, [some (.ref m), some (.int (zI (i : Int))), some (.int (zI (j : Int)))], [], h) (.inl (some (.int (zI ((zLz F i G).1 : Nat))))) h' ∧ h'.1[m]? = some (md_c m (zU K 20 ((zLz F i G).1 : Nat))) ∧ h'.1[m + 9]? = some (gA 60 (zLz F i G).2) ∧ gh_fr h h' (fun k => k = m ∨ k = m + 9) := by
  intro z
  induction z with
  | zero =>
    intro j h K hj hM hV hL hc
    obtain rfl : j = 8 := by omega
    obtain ⟨h', e1, e2, e3, e4⟩ := wl_2 hM hV hL hv h8 hc (x := some (.int (zI ((8 : Nat) : Int))))
    refine ⟨h', ?_, e2, e3, e4⟩
    refine gm_go.ru (gm_iload_n dX11_writeLabel_58 rfl) ?_
    refine gm_go.ru (gi_bipush dX11_writeLabel_59 (by decide +kernel)) ?_
    refine gm_go.ru (gi_icmp_ge_t (tgt := 86) dX11_writeLabel_61 (by decide) (by omega) (by omega) (by omega)) ?_
    exact e1
  | succ z ih =>
    intro j h K hj hM hV hL hc
    have le := zLl_le F i G j
    have hd := hv.2.2.2.2.1 i h8 j (by omega)
    obtain ⟨g1, e1, M_1, L_1, f_1⟩ := ct_mWr hM hL hc (by omega) (x := 32)
    have V_1 := gh_at f_1 hV (by omega)
    obtain ⟨g2, e2, M_2, L_2, f_2⟩ := ct_mWn M_1 L_1 zU_s (i := F (12 + 10 * i + j)) (by omega) (by omega)
    have V_2 := gh_at f_2 V_1 (by omega)
    obtain ⟨h', d1, d2, d3, d4⟩ := ih (j + 1) g2 _ (by omega) M_2 V_2 L_2 zU_s
    simp only [zU_zU] at d2
    refine ⟨h', ?_, d2, d3, gh_tr f_1 (gh_tr f_2 d4)⟩
    refine gm_go.ru (gm_iload_n dX11_writeLabel_58 rfl) ?_
    refine gm_go.ru (gi_bipush dX11_writeLabel_59 (by decide +kernel)) ?_
    refine gm_go.ru (gi_icmp_ge_f 86 dX11_writeLabel_61 (by decide) (by omega) (by omega) (by omega)) ?_
    refine gm_go.ru (gm_aload_n dX11_writeLabel_64 rfl (by first | exact Or.inl ⟨_, rfl⟩ | exact Or.inr ⟨_, rfl⟩)) ?_
    refine gm_go.ru (gi_bipush dX11_writeLabel_65 (by decide +kernel)) ?_
    refine gm_go.ru (gm_cV0 dX11_writeLabel_67 (e1) rfl mt_X11_writes mv_X11_writes (lk_X11_206 rfl) (Or.inl ⟨_, 12, _, _, _, rfl, hM, rfl⟩) rfl (Nat.le_of_ble_eq_true rfl) (by decide)) ?_
    refine gm_go.ru (gm_aload_n dX11_writeLabel_70 rfl (by first | exact Or.inl ⟨_, rfl⟩ | exact Or.inr ⟨_, rfl⟩)) ?_
    refine gm_go.ru (gm_aload_n dX11_writeLabel_71 rfl (by first | exact Or.inl ⟨_, rfl⟩ | exact Or.inr ⟨_, rfl⟩)) ?_
    refine gm_go.ru (gm_iload_n dX11_writeLabel_72 rfl) ?_
    refine gm_go.ru (gm_iload_n dX11_writeLabel_73 rfl) ?_
    refine gm_go.ru (gm_cV dX11_writeLabel_74 (ct_mFar M_1 V_1 h8 (by omega)) rfl mt_X11_far mv_X11_far (lk_X11_91 rfl) (Or.inl ⟨_, 12, _, _, _, rfl, M_1, rfl⟩) rfl (Nat.le_of_ble_eq_true rfl) (by decide)) ?_
    refine gm_go.ru (gm_cV0 dX11_writeLabel_77 (e2) rfl mt_X11_writesNumber mv_X11_writesNumber (lk_X11_210 rfl) (Or.inl ⟨_, 12, _, _, _, rfl, M_1, rfl⟩) rfl (Nat.le_of_ble_eq_true rfl) (by decide)) ?_
    refine gm_go.ru (gi_iinc (ls' := [_, _, _]) dX11_writeLabel_80 rfl (by decide) rfl) ?_
    refine gm_go.ru (gm_goto (tgt := 58) dX11_writeLabel_83 (by decide)) ?_
    exact d1
set_option maxRecDepth 4000 in
theorem ct_m_writeLabel {h : gm_H} {m : Nat} {K F : Nat → Int} (hM : h.1[m]? = some (md_c m K)) (hV : h.1[m + 1]? = some (gA 118 F)) {i : Int} (hv : nd_iv F) (hi : zR i) {L : Nat → Int} (hL : h.1[m + 9]? = some (gA 60 L)) (hq : 0 ≤ i ∧ i < F 0) : ∃ h', gm_co mX11_writeLabel 6 [.ref m, .int (zI i)] h (.inl (some (.int (zI ((zLz F i.toNat L).1 : Nat))))) h' ∧ h'.1[m]? = some (md_c m (zU (zU K 0 0) 20 ((zLz F i.toNat L).1 : Nat))) ∧ h'.1[m + 9]? = some (gA 60 (zLz F i.toNat L).2) ∧ gh_fr h h' (fun k => k = m ∨ k = m + 9) := by
  obtain ⟨i, rfl⟩ : ∃ k : Nat, i = (k : Int) := ⟨i.toNat, by omega⟩
  have h8 : i < 8 := by have := hv.1; omega
  simp only [Int.toNat_natCast] at *
  have hs := hv.2.2.1 i h8
  obtain ⟨a1, ha1⟩ : ∃ y : gm_H, y = (h.1.set m (md_c m (zU K 0 0)), h.2) := ⟨_, rfl⟩
  have M_a1 : a1.1[m]? = some (md_c m (zU K 0 0)) := by rw [ha1]; exact gs_s hM
  have V_a1 : a1.1[m + 1]? = some (gA 118 F) := by rw [ha1]; exact gs_n hV (by omega)
  have f_a1 : gh_fr h a1 (fun k => k = m) := by rw [ha1]; exact gh_set (K := fun k => k = m) gh_rf rfl _
  have L_a1 := gh_at f_a1 hL (by omega)
  obtain ⟨a2, ha2⟩ : ∃ y : gm_H, y = (a1.1.set m (md_c m (zU (zU K 0 0) 20 ((0 : Nat) : Int))), a1.2) := ⟨_, rfl⟩
  have M_2 : a2.1[m]? = some (md_c m (zU (zU K 0 0) 20 ((0 : Nat) : Int))) := by rw [ha2]; exact gs_s M_a1
  have V_2 : a2.1[m + 1]? = some (gA 118 F) := by rw [ha2]; exact gs_n V_a1 (by omega)
  have L_2 : a2.1[m + 9]? = some (gA 60 L) := by rw [ha2]; exact gs_n L_a1 (by omega)
  have f_2 : gh_fr a1 a2 (fun k => k = m ∨ k = m + 9) := by rw [ha2]; exact gh_set gh_rf (Or.inl rfl) _
  obtain ⟨g3, e3, M_3, L_3, f_3⟩ := ct_mWn M_2 L_2 zU_s (i := (i : Int)) (by omega) (by omega)
  have V_3 := gh_at f_3 V_2 (by omega)
  have z1 := zsz_3 (i : Int)
  obtain ⟨g4, e4, M_4, L_4, f_4⟩ := ct_mWr M_3 L_3 zU_s (by omega) (x := 58)
  have V_4 := gh_at f_4 V_3 (by omega)
  obtain ⟨g5, e5, M_5, L_5, f_5⟩ := ct_mWn M_4 L_4 zU_s (i := F (10 + 10 * i)) (by omega) (by omega)
  have V_5 := gh_at f_5 V_4 (by omega)
  simp only [zU_zU, Nat.zero_add] at M_5 L_5
  obtain ⟨h', d1, d2, d3, d4⟩ := wl_1 (G := L) hv h8 8 0 g5 _ rfl M_5 V_5 L_5 zU_s
  simp only [zU_zU] at d2
  refine ⟨h', ?_, d2, d3, gh_tr (gh_mono f_a1 fun k z => Or.inl z) (gh_tr f_2 (gh_tr f_3 (gh_tr f_4 (gh_tr f_5 d4))))⟩
  refine gm_co_of _ (by decide +kernel) rfl (Nat.le_of_ble_eq_true rfl) rfl ?_
  refine gm_go.ru (gm_aload_n dX11_writeLabel_0 rfl (by first | exact Or.inl ⟨_, rfl⟩ | exact Or.inr ⟨_, rfl⟩)) ?_
  refine gm_go.ru (gm_aload_n dX11_writeLabel_1 rfl (by first | exact Or.inl ⟨_, rfl⟩ | exact Or.inr ⟨_, rfl⟩)) ?_
  refine gm_go.ru (gm_iload_n dX11_writeLabel_2 rfl) ?_
  refine gm_go.ru (gm_cV dX11_writeLabel_3 (ct_mIsN hM hV hv hi) rfl mt_X11_isNeedle mv_X11_isNeedle (lk_X11_87 rfl) (Or.inl ⟨_, 12, _, _, _, rfl, hM, rfl⟩) rfl (Nat.le_of_ble_eq_true rfl) (by decide)) ?_
  rw [zB_t hq]
  refine gm_go.ru (gi_if_eq_f 13 dX11_writeLabel_6 (by decide) (by decide) (by decide)) ?_
  refine gm_go.ru (gi_const dX11_writeLabel_9) ?_
  refine gm_go.ru (gm_goto (tgt := 14) dX11_writeLabel_10 (by decide)) ?_
  refine gm_go.ru (gm_put dX11_writeLabel_14 (fp_X11_53 rfl) hM (Nat.le_of_ble_eq_true rfl) (by first | exact ⟨rfl, rfl⟩ | exact trivial)) ?_
  refine gm_hp ha1 ?_
  refine gm_go.ru (gm_aload_n dX11_writeLabel_17 rfl (by first | exact Or.inl ⟨_, rfl⟩ | exact Or.inr ⟨_, rfl⟩)) ?_
  refine gm_go.ru (gm_get dX11_writeLabel_18 (fl_X11_53 rfl) M_a1 rfl) ?_
  refine gm_go.ru (gi_if_eq_t (tgt := 26) dX11_writeLabel_21 (by decide) (by rw [zU_s]; decide) zU_s) ?_
  refine gm_go.ru (gm_aload_n dX11_writeLabel_26 rfl (by first | exact Or.inl ⟨_, rfl⟩ | exact Or.inr ⟨_, rfl⟩)) ?_
  refine gm_go.ru (gi_const dX11_writeLabel_27) ?_
  refine gm_go.ru (gm_put dX11_writeLabel_28 (fp_X11_203 rfl) M_a1 (Nat.le_of_ble_eq_true rfl) (by first | exact ⟨rfl, rfl⟩ | exact trivial)) ?_
  refine gm_hp ha2 ?_
  refine gm_go.ru (gm_aload_n dX11_writeLabel_31 rfl (by first | exact Or.inl ⟨_, rfl⟩ | exact Or.inr ⟨_, rfl⟩)) ?_
  refine gm_go.ru (gm_iload_n dX11_writeLabel_32 rfl) ?_
  refine gm_go.ru (gm_cV0 dX11_writeLabel_33 (e3) rfl mt_X11_writesNumber mv_X11_writesNumber (lk_X11_210 rfl) (Or.inl ⟨_, 12, _, _, _, rfl, M_2, rfl⟩) rfl (Nat.le_of_ble_eq_true rfl) (by decide)) ?_
  refine gm_go.ru (gm_aload_n dX11_writeLabel_36 rfl (by first | exact Or.inl ⟨_, rfl⟩ | exact Or.inr ⟨_, rfl⟩)) ?_
  refine gm_go.ru (gi_bipush dX11_writeLabel_37 (by decide +kernel)) ?_
  refine gm_go.ru (gm_cV0 dX11_writeLabel_39 (e4) rfl mt_X11_writes mv_X11_writes (lk_X11_206 rfl) (Or.inl ⟨_, 12, _, _, _, rfl, M_3, rfl⟩) rfl (Nat.le_of_ble_eq_true rfl) (by decide)) ?_
  refine gm_go.ru (gm_aload_n dX11_writeLabel_42 rfl (by first | exact Or.inl ⟨_, rfl⟩ | exact Or.inr ⟨_, rfl⟩)) ?_
  refine gm_go.ru (gm_aload_n dX11_writeLabel_43 rfl (by first | exact Or.inl ⟨_, rfl⟩ | exact Or.inr ⟨_, rfl⟩)) ?_
  refine gm_go.ru (gm_get dX11_writeLabel_44 (fl_X11_16 rfl) M_4 rfl) ?_
  refine gm_go.ru (gm_iload_n dX11_writeLabel_47 rfl) ?_
  refine gm_go.ru (gi_const dX11_writeLabel_48) ?_
  refine gm_go.ru (gm_cS dX11_writeLabel_49 (ct_mOf (i := i) (w := 0)) rfl mt_X11_of ms_X11_of (lk_X11_67 rfl) rfl (Nat.le_of_ble_eq_true rfl) (by decide)) ?_
  rw [show 10 + 10 * i + 0 = 10 + 10 * i by omega]
  refine gm_go.ru (gi_aldN dX11_writeLabel_52 V_4 (by omega) (by decide)) ?_
  refine gm_go.ru (gm_cV0 dX11_writeLabel_53 (e5) rfl mt_X11_writesNumber mv_X11_writesNumber (lk_X11_210 rfl) (Or.inl ⟨_, 12, _, _, _, rfl, M_4, rfl⟩) rfl (Nat.le_of_ble_eq_true rfl) (by decide)) ?_
  refine gm_go.ru (gi_const dX11_writeLabel_56) ?_
  refine gm_go.ru (gm_istore_n (ls' := [_, _, _]) dX11_writeLabel_57 (by decide) rfl) ?_
  exact d1
set_option maxRecDepth 4000 in
theorem ct_m_labelAt {h : gm_H} {m c : Nat} {K L : Nat → Int} (hM : h.1[m]? = some (md_c m K)) (hL : h.1[m + 9]? = some (gA 60 L)) (hc : K 20 = (c : Int)) (hc60 : c ≤ 60) {i : Int} (hi : zR i) (hx : ∀ k, k < c → 0 ≤ L k ∧ L k < 128) (hq : (0 ≤ i ∧ i < c)) : ∃ h', gm_co mX11_labelAt 2 [.ref m, .int (zI i)] h (.inl (some (.int (zI (L i.toNat))))) h' ∧ h'.1[m]? = some (md_c m (zU K 0 0)) ∧ gh_fr h h' (fun k => k = m) := by
  obtain ⟨a1, ha1⟩ : ∃ y : gm_H, y = (h.1.set m (md_c m (zU K 0 0)), h.2) := ⟨_, rfl⟩
  have M_a1 : a1.1[m]? = some (md_c m (zU K 0 0)) := by rw [ha1]; exact gs_s hM
  have f_a1 : gh_fr h a1 (fun k => k = m) := by rw [ha1]; exact gh_set (K := fun k => k = m) gh_rf rfl _
  have L_1 := gh_at f_a1 hL (by omega)
  obtain ⟨i, rfl⟩ : ∃ k : Nat, i = (k : Int) := ⟨i.toNat, by omega⟩
  simp only [Int.toNat_natCast] at *
  have l9 := hx i (by omega)
  refine ⟨a1, ?_, M_a1, f_a1⟩
  refine gm_co_of _ (by decide +kernel) rfl (Nat.le_of_ble_eq_true rfl) rfl ?_
  refine gm_go.ru (gm_aload_n dX11_labelAt_0 rfl (by first | exact Or.inl ⟨_, rfl⟩ | exact Or.inr ⟨_, rfl⟩)) ?_
  refine gm_go.ru (gm_iload_n dX11_labelAt_1 rfl) ?_
  refine gm_go.ru (gi_const dX11_labelAt_2) ?_
  refine gm_go.ru (gm_aload_n dX11_labelAt_3 rfl (by first | exact Or.inl ⟨_, rfl⟩ | exact Or.inr ⟨_, rfl⟩)) ?_
  refine gm_go.ru (gm_get dX11_labelAt_4 (fl_X11_203 rfl) hM rfl) ?_
  rw [hc]
  refine gm_go.ru (gi_const dX11_labelAt_7) ?_
  refine gm_go.ru (gi_sub dX11_labelAt_8) ?_
  refine gm_go.ru (gm_cS dX11_labelAt_9 (ct_mIsIn hi (by omega) (by omega)) rfl mt_X11_isIn ms_X11_isIn (lk_X11_63 rfl) rfl (Nat.le_of_ble_eq_true rfl) (by decide)) ?_
  rw [zB_t (show (0 ≤ (i : Int) ∧ (i : Int) ≤ (c : Int) - 1) by omega)]
  refine gm_go.ru (gi_if_eq_f 19 dX11_labelAt_12 (by decide) (by decide) (by decide)) ?_
  refine gm_go.ru (gi_const dX11_labelAt_15) ?_
  refine gm_go.ru (gm_goto (tgt := 20) dX11_labelAt_16 (by decide)) ?_
  refine gm_go.ru (gm_put dX11_labelAt_20 (fp_X11_53 rfl) hM (Nat.le_of_ble_eq_true rfl) (by first | exact ⟨rfl, rfl⟩ | exact trivial)) ?_
  refine gm_hp ha1 ?_
  refine gm_go.ru (gm_aload_n dX11_labelAt_23 rfl (by first | exact Or.inl ⟨_, rfl⟩ | exact Or.inr ⟨_, rfl⟩)) ?_
  refine gm_go.ru (gm_get dX11_labelAt_24 (fl_X11_53 rfl) M_a1 rfl) ?_
  refine gm_go.ru (gi_if_ne_f 40 dX11_labelAt_27 (by decide) (by rw [zU_s]; decide) zU_s) ?_
  refine gm_go.ru (gm_aload_n dX11_labelAt_30 rfl (by first | exact Or.inl ⟨_, rfl⟩ | exact Or.inr ⟨_, rfl⟩)) ?_
  refine gm_go.ru (gm_get dX11_labelAt_31 (fl_X11_41 rfl) M_a1 rfl) ?_
  refine gm_go.ru (gm_iload_n dX11_labelAt_34 rfl) ?_
  refine gm_go.ru (gi_aldN dX11_labelAt_35 L_1 (by omega) (by decide)) ?_
  refine gm_go.ru (gi_i2c dX11_labelAt_36 (by omega) (by omega)) ?_
  refine gm_go.ru (gm_goto (tgt := 42) dX11_labelAt_37 (by decide)) ?_
  obtain ⟨y, hy⟩ : ∃ y : Nat, L i = (y : Int) := ⟨(L i).toNat, by omega⟩
  rw [hy]
  exact gm_zret dX11_labelAt_42 rfl (zCh_nar y (by omega))
set_option maxRecDepth 4000 in
theorem ct_m_labelAtX {h : gm_H} {m c : Nat} {K L : Nat → Int} (hM : h.1[m]? = some (md_c m K)) (hL : h.1[m + 9]? = some (gA 60 L)) (hc : K 20 = (c : Int)) (hc60 : c ≤ 60) {i : Int} (hi : zR i) (hq : ¬ (0 ≤ i ∧ i < c)) : ∃ h', gm_co mX11_labelAt 2 [.ref m, .int (zI i)] h (.inl (some (.int (zI (97))))) h' ∧ h'.1[m]? = some (md_c m (zU K 0 1)) ∧ gh_fr h h' (fun k => k = m) := by
  obtain ⟨a1, ha1⟩ : ∃ y : gm_H, y = (h.1.set m (md_c m (zU K 0 1)), h.2) := ⟨_, rfl⟩
  have M_a1 : a1.1[m]? = some (md_c m (zU K 0 1)) := by rw [ha1]; exact gs_s hM
  have f_a1 : gh_fr h a1 (fun k => k = m) := by rw [ha1]; exact gh_set (K := fun k => k = m) gh_rf rfl _
  refine ⟨a1, ?_, M_a1, f_a1⟩
  refine gm_co_of _ (by decide +kernel) rfl (Nat.le_of_ble_eq_true rfl) rfl ?_
  refine gm_go.ru (gm_aload_n dX11_labelAt_0 rfl (by first | exact Or.inl ⟨_, rfl⟩ | exact Or.inr ⟨_, rfl⟩)) ?_
  refine gm_go.ru (gm_iload_n dX11_labelAt_1 rfl) ?_
  refine gm_go.ru (gi_const dX11_labelAt_2) ?_
  refine gm_go.ru (gm_aload_n dX11_labelAt_3 rfl (by first | exact Or.inl ⟨_, rfl⟩ | exact Or.inr ⟨_, rfl⟩)) ?_
  refine gm_go.ru (gm_get dX11_labelAt_4 (fl_X11_203 rfl) hM rfl) ?_
  rw [hc]
  refine gm_go.ru (gi_const dX11_labelAt_7) ?_
  refine gm_go.ru (gi_sub dX11_labelAt_8) ?_
  refine gm_go.ru (gm_cS dX11_labelAt_9 (ct_mIsIn hi (by omega) (by omega)) rfl mt_X11_isIn ms_X11_isIn (lk_X11_63 rfl) rfl (Nat.le_of_ble_eq_true rfl) (by decide)) ?_
  rw [zB_f (show ¬ (0 ≤ i ∧ i ≤ (c : Int) - 1) by omega)]
  refine gm_go.ru (gi_if_eq_t (tgt := 19) dX11_labelAt_12 (by decide) (by decide) rfl) ?_
  refine gm_go.ru (gi_const dX11_labelAt_19) ?_
  refine gm_go.ru (gm_put dX11_labelAt_20 (fp_X11_53 rfl) hM (Nat.le_of_ble_eq_true rfl) (by first | exact ⟨rfl, rfl⟩ | exact trivial)) ?_
  refine gm_hp ha1 ?_
  refine gm_go.ru (gm_aload_n dX11_labelAt_23 rfl (by first | exact Or.inl ⟨_, rfl⟩ | exact Or.inr ⟨_, rfl⟩)) ?_
  refine gm_go.ru (gm_get dX11_labelAt_24 (fl_X11_53 rfl) M_a1 rfl) ?_
  refine gm_go.ru (gi_if_ne_t (tgt := 40) dX11_labelAt_27 (by decide) (by rw [zU_s]; decide) (by rw [zU_s]; decide)) ?_
  refine gm_go.ru (gi_bipush dX11_labelAt_40 (by decide +kernel)) ?_
  exact gm_zret dX11_labelAt_42 rfl (zCh_nar 97 (by decide))
