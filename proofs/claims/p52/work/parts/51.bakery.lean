abbrev by_c (b : Nat) (hs ep fc : Int) : gm_cl := .inr (11, [.ref (b + 1), .ref (b + 10), .int (zI hs), .ref (b + 19), .ref (b + 102), .ref (b + 105), .ref (b + 107), .ref (b + 108), .ref (b + 110), .int (zI ep), .int (zI fc)])
theorem zqWhy_7 (v : Nat → Int) (w : Nat) (a b c : Int) : zqWhy v w a b c < 7 := by
  unfold zqWhy zqAdd zqPut zqShift zqCorrect zqDiscard zqBatch zqMove
  split <;> (repeat' split) <;> omega
theorem ct_refuse {h : gm_H} : ∀ k : Nat, k < 7 → k ≠ 0 → gm_co mX10_refuse 8 [.retAddr k] h (.inr (zXc k)) (zTh h)
  | 0, _, h0 => absurd rfl h0
  | 1, _, _ => ct_refuse1
  | 2, _, _ => ct_refuse2
  | 3, _, _ => ct_refuse3
  | 4, _, _ => ct_refuse4
  | 5, _, _ => ct_refuse5
  | 6, _, _ => ct_refuse6
  | n + 7, h, _ => absurd h (by omega)
set_option maxRecDepth 4000 in
theorem ct_modifyX {h : gm_H} {n T : Nat} {v : Nat → Int} {hs ep fc a b c : Int} (hB : h.1[n]? = some (by_c n hs ep fc)) (hS : st_at h (n + 1) v) (hv : st_iv T v) (ha : zR a) (hb : zR b) (hc : zR c) {w : Nat} (hw : w < 10) (hq : zqWhy v w a b c ≠ 0) : gm_co mX10_modify 9 [.ref n, .retAddr (7 + w), .int (zI a), .int (zI b), .int (zI c)] h (.inr (zXc (zqWhy v w a b c))) (zTh h) := by
  refine gm_co_of _ (by decide +kernel) rfl (Nat.le_of_ble_eq_true rfl) rfl ?_
  have hwh := ct_whyNot hS hv ha hb hc hw
  obtain ⟨s0, sN, sO⟩ := id hS
  refine gm_go.ru (gm_aload_n dX10_modify_0 rfl (by first | exact Or.inl ⟨_, rfl⟩ | exact Or.inr ⟨_, rfl⟩)) ?_
  refine gm_go.ru (gm_get dX10_modify_1 (fl_X10_10 rfl) hB rfl) ?_
  refine gm_go.ru (gm_aload_n dX10_modify_4 rfl (by first | exact Or.inl ⟨_, rfl⟩ | exact Or.inr ⟨_, rfl⟩)) ?_
  refine gm_go.ru (gm_iload_n dX10_modify_5 rfl) ?_
  refine gm_go.ru (gm_iload_n dX10_modify_6 rfl) ?_
  refine gm_go.ru (gm_iload dX10_modify_7 rfl) ?_
  refine gm_go.ru (gm_cV dX10_modify_9 (hwh) rfl mt_X9_whyNot mv_X9_whyNot (lk_X10_352 rfl) (Or.inl ⟨_, 10, _, _, _, rfl, s0, rfl⟩) rfl (Nat.le_of_ble_eq_true rfl) (by decide)) ?_
  exact gm_pS dX10_modify_12 (ct_refuse _ (zqWhy_7 v w a b c) hq) rfl rfl mt_X10_refuse ms_X10_refuse (lk_X10_356 rfl) rfl (Nat.le_of_ble_eq_true rfl) (by decide)
set_option maxRecDepth 4000 in
theorem ct_modify {h : gm_H} {n T : Nat} {v : Nat → Int} {hs ep fc a b c : Int} (hB : h.1[n]? = some (by_c n hs ep fc)) (hS : st_at h (n + 1) v) (hv : st_iv T v) (ha : zR a) (hb : zR b) (hc : zR c) {w : Nat} (hw : w < 10) {P : Nat → Nat → Int} {m : Nat} (hH : hi_at h (n + 19) P m) (hT : T < 1000) (hq : zqWhy v w a b c = 0) : ∃ h', gm_co mX10_modify 9 [.ref n, .retAddr (7 + w), .int (zI a), .int (zI b), .int (zI c)] h (.inl (some (.int (zI (zAn v w a b c))))) h' ∧ st_at h' (n + 1) (zDo v w a b c) ∧ st_iv (T + 1) (zDo v w a b c) ∧ hi_at h' (n + 19) (zPush P m v) (min (m + 1) 8) ∧ gh_fr h h' (fun k => st_K (n + 1) k ∨ hi_K (n + 19) k) := by
  have hwh := ct_whyNot hS hv ha hb hc hw
  rw [hq] at hwh
  obtain ⟨s0, sN, sO⟩ := id hS
  have h7 := hv.2.2.2.1.2
  obtain ⟨a1, e1, i1, f1⟩ := ct_prepare hH hS h7 (by omega)
  have S1 := st_fr f1 (fun k hk z => by have := hk.2; have := z.1; omega) hS
  have B1 := gh_at f1 hB (fun z => by have := z.1; omega)
  obtain ⟨a2, e2, i2, f2⟩ := ct_keepPrepared i1
  have S2 := st_fr f2 (fun k hk z => by have := hk.2; have := z.1; omega) S1
  have B2 := gh_at f2 B1 (fun z => by have := z.1; omega)
  obtain ⟨a3, e3, S3, v3, f3⟩ := ct_perform S2 hv hT hw ha hq
  have I3 := hi_fr f3 (fun k hk z => by have := hk.1; have := z.2; omega) i2
  obtain ⟨f9, R9, ⟨p1, p2, p3, p4⟩, p5⟩ := id hH
  obtain ⟨f8, R8, ⟨r1, r2, r3, r4⟩, r5⟩ := id i1
  obtain ⟨s02, sN2, sO2⟩ := id S2
  refine ⟨a3, ?_, S3, v3, I3, gh_tr (gh_mono f1 fun k hk => Or.inr hk) (gh_tr (gh_mono f2 fun k hk => Or.inr hk) (gh_mono f3 fun k hk => Or.inl hk))⟩
  refine gm_co_of _ (by decide +kernel) rfl (Nat.le_of_ble_eq_true rfl) rfl ?_
  refine gm_go.ru (gm_aload_n dX10_modify_0 rfl (by first | exact Or.inl ⟨_, rfl⟩ | exact Or.inr ⟨_, rfl⟩)) ?_
  refine gm_go.ru (gm_get dX10_modify_1 (fl_X10_10 rfl) hB rfl) ?_
  refine gm_go.ru (gm_aload_n dX10_modify_4 rfl (by first | exact Or.inl ⟨_, rfl⟩ | exact Or.inr ⟨_, rfl⟩)) ?_
  refine gm_go.ru (gm_iload_n dX10_modify_5 rfl) ?_
  refine gm_go.ru (gm_iload_n dX10_modify_6 rfl) ?_
  refine gm_go.ru (gm_iload dX10_modify_7 rfl) ?_
  refine gm_go.ru (gm_cV dX10_modify_9 (hwh) rfl mt_X9_whyNot mv_X9_whyNot (lk_X10_352 rfl) (Or.inl ⟨_, 10, _, _, _, rfl, s0, rfl⟩) rfl (Nat.le_of_ble_eq_true rfl) (by decide)) ?_
  refine gm_go.ru (gm_cS0 dX10_modify_12 (ct_refuse0) rfl mt_X10_refuse ms_X10_refuse (lk_X10_356 rfl) rfl (Nat.le_of_ble_eq_true rfl) (by decide)) ?_
  refine gm_go.ru (gm_aload_n dX10_modify_15 rfl (by first | exact Or.inl ⟨_, rfl⟩ | exact Or.inr ⟨_, rfl⟩)) ?_
  refine gm_go.ru (gm_get dX10_modify_16 (fl_X10_22 rfl) hB rfl) ?_
  refine gm_go.ru (gm_aload_n dX10_modify_19 rfl (by first | exact Or.inl ⟨_, rfl⟩ | exact Or.inr ⟨_, rfl⟩)) ?_
  refine gm_go.ru (gm_get dX10_modify_20 (fl_X10_10 rfl) hB rfl) ?_
  refine gm_go.ru (gm_cV0 dX10_modify_23 (e1) rfl mt_X2_prepare mv_X2_prepare (lk_X10_315 rfl) (Or.inl ⟨_, 4, _, _, _, rfl, p3, rfl⟩) rfl (Nat.le_of_ble_eq_true rfl) (by decide)) ?_
  refine gm_go.ru (gm_aload_n dX10_modify_26 rfl (by first | exact Or.inl ⟨_, rfl⟩ | exact Or.inr ⟨_, rfl⟩)) ?_
  refine gm_go.ru (gm_get dX10_modify_27 (fl_X10_22 rfl) B1 rfl) ?_
  refine gm_go.ru (gm_cV0 dX10_modify_30 (e2) rfl mt_X2_keepPrepared mv_X2_keepPrepared (lk_X10_327 rfl) (Or.inl ⟨_, 4, _, _, _, rfl, r3, rfl⟩) rfl (Nat.le_of_ble_eq_true rfl) (by decide)) ?_
  refine gm_go.ru (gm_aload_n dX10_modify_33 rfl (by first | exact Or.inl ⟨_, rfl⟩ | exact Or.inr ⟨_, rfl⟩)) ?_
  refine gm_go.ru (gm_get dX10_modify_34 (fl_X10_10 rfl) B2 rfl) ?_
  refine gm_go.ru (gm_aload_n dX10_modify_37 rfl (by first | exact Or.inl ⟨_, rfl⟩ | exact Or.inr ⟨_, rfl⟩)) ?_
  refine gm_go.ru (gm_iload_n dX10_modify_38 rfl) ?_
  refine gm_go.ru (gm_iload_n dX10_modify_39 rfl) ?_
  refine gm_go.ru (gm_iload dX10_modify_40 rfl) ?_
  refine gm_go.ru (gm_cV dX10_modify_42 (e3) rfl mt_X9_perform mv_X9_perform (lk_X10_360 rfl) (Or.inl ⟨_, 10, _, _, _, rfl, s02, rfl⟩) rfl (Nat.le_of_ble_eq_true rfl) (by decide)) ?_
  exact gm_iret dX10_modify_45 rfl
