set_option maxRecDepth 4000 in
theorem ct_mDoX0 {h : gm_H} {m : Nat} {K F : Nat → Int} (hM : h.1[m]? = some (md_c m K)) (hV : h.1[m + 1]? = some (gA 118 F)) {T : Nat} {a b c : Int} (hv : st_iv T F) (ha : zR a) (hb : zR b) (hc : zR c) (hT : T < 1000) (hq : zqWhy F 0 a b c ≠ 0) : ∃ h' F', gm_co mX11_does 6 [.ref m, .int (zI ((0 : Nat) : Int)), .int (zI a), .int (zI b), .int (zI c)] h (.inl (some (.int (zI 0)))) h' ∧ h'.1[m]? = some (md_c m (zU K 0 (zCd 0 (zqWhy F 0 a b c)))) ∧ h'.1[m + 1]? = some (gA 118 F') ∧ gh_fr h h' (fun k => k = m ∨ k = m + 1) := by
  obtain ⟨h', F', e1, e2, e3, e4⟩ := ct_maddsX hM hV (K := K) (F := F) (a := a) (b := 0) (c := 0) hv ha hq
  refine ⟨h', F', ?_, e2, e3, e4⟩
  refine gm_co_of _ (by decide +kernel) rfl (Nat.le_of_ble_eq_true rfl) rfl ?_
  refine gm_go.ru (gm_iload_n dX11_does_0 rfl) ?_
  refine gm_go.ru (gm_tabIn (tgt := 52) dX11_does_1 (by decide +kernel) (by decide +kernel) rfl (by decide)) ?_
  refine gm_go.ru (gm_aload_n dX11_does_52 rfl (by first | exact Or.inl ⟨_, rfl⟩ | exact Or.inr ⟨_, rfl⟩)) ?_
  refine gm_go.ru (gm_iload_n dX11_does_53 rfl) ?_
  refine gm_go.ru (gm_cV dX11_does_54 (e1) rfl mt_X11_adds mv_X11_adds (lk_X11_81 rfl) (Or.inl ⟨_, 12, _, _, _, rfl, hM, rfl⟩) rfl (Nat.le_of_ble_eq_true rfl) (by decide)) ?_
  exact gm_iret dX11_does_57 rfl
set_option maxRecDepth 4000 in
theorem ct_mDoX1 {h : gm_H} {m : Nat} {K F : Nat → Int} (hM : h.1[m]? = some (md_c m K)) (hV : h.1[m + 1]? = some (gA 118 F)) {T : Nat} {a b c : Int} (hv : st_iv T F) (ha : zR a) (hb : zR b) (hc : zR c) (hT : T < 1000) (hq : zqWhy F 1 a b c ≠ 0) : ∃ h' F', gm_co mX11_does 6 [.ref m, .int (zI ((1 : Nat) : Int)), .int (zI a), .int (zI b), .int (zI c)] h (.inl (some (.int (zI 0)))) h' ∧ h'.1[m]? = some (md_c m (zU K 0 (zCd 1 (zqWhy F 1 a b c)))) ∧ h'.1[m + 1]? = some (gA 118 F') ∧ gh_fr h h' (fun k => k = m ∨ k = m + 1) := by
  obtain ⟨h', F', e1, e2, e3, e4⟩ := ct_msetsX hM hV (K := K) (F := F) (a := a) (b := b) (c := c) hv ha hb hc hq
  refine ⟨h', F', ?_, e2, e3, e4⟩
  refine gm_co_of _ (by decide +kernel) rfl (Nat.le_of_ble_eq_true rfl) rfl ?_
  refine gm_go.ru (gm_iload_n dX11_does_0 rfl) ?_
  refine gm_go.ru (gm_tabIn (tgt := 58) dX11_does_1 (by decide +kernel) (by decide +kernel) rfl (by decide)) ?_
  refine gm_go.ru (gm_aload_n dX11_does_58 rfl (by first | exact Or.inl ⟨_, rfl⟩ | exact Or.inr ⟨_, rfl⟩)) ?_
  refine gm_go.ru (gm_iload_n dX11_does_59 rfl) ?_
  refine gm_go.ru (gm_iload_n dX11_does_60 rfl) ?_
  refine gm_go.ru (gm_iload dX11_does_61 rfl) ?_
  refine gm_go.ru (gm_cV dX11_does_63 (e1) rfl mt_X11_sets mv_X11_sets (lk_X11_94 rfl) (Or.inl ⟨_, 12, _, _, _, rfl, hM, rfl⟩) rfl (Nat.le_of_ble_eq_true rfl) (by decide)) ?_
  exact gm_iret dX11_does_66 rfl
set_option maxRecDepth 4000 in
theorem ct_mDoX2 {h : gm_H} {m : Nat} {K F : Nat → Int} (hM : h.1[m]? = some (md_c m K)) (hV : h.1[m + 1]? = some (gA 118 F)) {T : Nat} {a b c : Int} (hv : st_iv T F) (ha : zR a) (hb : zR b) (hc : zR c) (hT : T < 1000) (hq : zqWhy F 2 a b c ≠ 0) : ∃ h' F', gm_co mX11_does 6 [.ref m, .int (zI ((2 : Nat) : Int)), .int (zI a), .int (zI b), .int (zI c)] h (.inl (some (.int (zI 0)))) h' ∧ h'.1[m]? = some (md_c m (zU K 0 (zCd 2 (zqWhy F 2 a b c)))) ∧ h'.1[m + 1]? = some (gA 118 F') ∧ gh_fr h h' (fun k => k = m ∨ k = m + 1) := by
  obtain ⟨h', F', e1, e2, e3, e4⟩ := ct_mshiftsX hM hV (K := K) (F := F) (a := a) (b := b) (c := 0) hv ha hb hq
  refine ⟨h', F', ?_, e2, e3, e4⟩
  refine gm_co_of _ (by decide +kernel) rfl (Nat.le_of_ble_eq_true rfl) rfl ?_
  refine gm_go.ru (gm_iload_n dX11_does_0 rfl) ?_
  refine gm_go.ru (gm_tabIn (tgt := 67) dX11_does_1 (by decide +kernel) (by decide +kernel) rfl (by decide)) ?_
  refine gm_go.ru (gm_aload_n dX11_does_67 rfl (by first | exact Or.inl ⟨_, rfl⟩ | exact Or.inr ⟨_, rfl⟩)) ?_
  refine gm_go.ru (gm_iload_n dX11_does_68 rfl) ?_
  refine gm_go.ru (gm_iload_n dX11_does_69 rfl) ?_
  refine gm_go.ru (gm_cV dX11_does_70 (e1) rfl mt_X11_shifts mv_X11_shifts (lk_X11_105 rfl) (Or.inl ⟨_, 12, _, _, _, rfl, hM, rfl⟩) rfl (Nat.le_of_ble_eq_true rfl) (by decide)) ?_
  exact gm_iret dX11_does_73 rfl
set_option maxRecDepth 4000 in
theorem ct_mDoX3 {h : gm_H} {m : Nat} {K F : Nat → Int} (hM : h.1[m]? = some (md_c m K)) (hV : h.1[m + 1]? = some (gA 118 F)) {T : Nat} {a b c : Int} (hv : st_iv T F) (ha : zR a) (hb : zR b) (hc : zR c) (hT : T < 1000) (hq : zqWhy F 3 a b c ≠ 0) : ∃ h' F', gm_co mX11_does 6 [.ref m, .int (zI ((3 : Nat) : Int)), .int (zI a), .int (zI b), .int (zI c)] h (.inl (some (.int (zI 0)))) h' ∧ h'.1[m]? = some (md_c m (zU K 0 (zCd 3 (zqWhy F 3 a b c)))) ∧ h'.1[m + 1]? = some (gA 118 F') ∧ gh_fr h h' (fun k => k = m ∨ k = m + 1) := by
  obtain ⟨h', F', e1, e2, e3, e4⟩ := ct_mcorrectsX hM hV (K := K) (F := F) (a := a) (b := 0) (c := 0) hv ha hq
  refine ⟨h', F', ?_, e2, e3, e4⟩
  refine gm_co_of _ (by decide +kernel) rfl (Nat.le_of_ble_eq_true rfl) rfl ?_
  refine gm_go.ru (gm_iload_n dX11_does_0 rfl) ?_
  refine gm_go.ru (gm_tabIn (tgt := 74) dX11_does_1 (by decide +kernel) (by decide +kernel) rfl (by decide)) ?_
  refine gm_go.ru (gm_aload_n dX11_does_74 rfl (by first | exact Or.inl ⟨_, rfl⟩ | exact Or.inr ⟨_, rfl⟩)) ?_
  refine gm_go.ru (gm_iload_n dX11_does_75 rfl) ?_
  refine gm_go.ru (gm_cV dX11_does_76 (e1) rfl mt_X11_corrects mv_X11_corrects (lk_X11_111 rfl) (Or.inl ⟨_, 12, _, _, _, rfl, hM, rfl⟩) rfl (Nat.le_of_ble_eq_true rfl) (by decide)) ?_
  exact gm_iret dX11_does_79 rfl
set_option maxRecDepth 4000 in
theorem ct_mDoX4 {h : gm_H} {m : Nat} {K F : Nat → Int} (hM : h.1[m]? = some (md_c m K)) (hV : h.1[m + 1]? = some (gA 118 F)) {T : Nat} {a b c : Int} (hv : st_iv T F) (ha : zR a) (hb : zR b) (hc : zR c) (hT : T < 1000) (hq : zqWhy F 4 a b c ≠ 0) : ∃ h' F', gm_co mX11_does 6 [.ref m, .int (zI ((4 : Nat) : Int)), .int (zI a), .int (zI b), .int (zI c)] h (.inl (some (.int (zI 0)))) h' ∧ h'.1[m]? = some (md_c m (zU K 0 (zCd 4 (zqWhy F 4 a b c)))) ∧ h'.1[m + 1]? = some (gA 118 F') ∧ gh_fr h h' (fun k => k = m ∨ k = m + 1) := by
  obtain ⟨h', F', e1, e2, e3, e4⟩ := ct_mdropsX hM hV (K := K) (F := F) (a := a) (b := 0) (c := 0) hv ha hq
  refine ⟨h', F', ?_, e2, e3, e4⟩
  refine gm_co_of _ (by decide +kernel) rfl (Nat.le_of_ble_eq_true rfl) rfl ?_
  refine gm_go.ru (gm_iload_n dX11_does_0 rfl) ?_
  refine gm_go.ru (gm_tabIn (tgt := 80) dX11_does_1 (by decide +kernel) (by decide +kernel) rfl (by decide)) ?_
  refine gm_go.ru (gm_aload_n dX11_does_80 rfl (by first | exact Or.inl ⟨_, rfl⟩ | exact Or.inr ⟨_, rfl⟩)) ?_
  refine gm_go.ru (gm_iload_n dX11_does_81 rfl) ?_
  refine gm_go.ru (gm_cV dX11_does_82 (e1) rfl mt_X11_drops mv_X11_drops (lk_X11_114 rfl) (Or.inl ⟨_, 12, _, _, _, rfl, hM, rfl⟩) rfl (Nat.le_of_ble_eq_true rfl) (by decide)) ?_
  exact gm_iret dX11_does_85 rfl
set_option maxRecDepth 4000 in
theorem ct_mDoX5 {h : gm_H} {m : Nat} {K F : Nat → Int} (hM : h.1[m]? = some (md_c m K)) (hV : h.1[m + 1]? = some (gA 118 F)) {T : Nat} {a b c : Int} (hv : st_iv T F) (ha : zR a) (hb : zR b) (hc : zR c) (hT : T < 1000) (hq : zqWhy F 5 a b c ≠ 0) : ∃ h' F', gm_co mX11_does 6 [.ref m, .int (zI ((5 : Nat) : Int)), .int (zI a), .int (zI b), .int (zI c)] h (.inl (some (.int (zI 0)))) h' ∧ h'.1[m]? = some (md_c m (zU K 0 (zCd 5 (zqWhy F 5 a b c)))) ∧ h'.1[m + 1]? = some (gA 118 F') ∧ gh_fr h h' (fun k => k = m ∨ k = m + 1) := by
  obtain ⟨h', F', e1, e2, e3, e4⟩ := ct_mlimitsX hM hV (K := K) (F := F) (a := a) (b := 0) (c := 0) hv ha hq
  refine ⟨h', F', ?_, e2, e3, e4⟩
  refine gm_co_of _ (by decide +kernel) rfl (Nat.le_of_ble_eq_true rfl) rfl ?_
  refine gm_go.ru (gm_iload_n dX11_does_0 rfl) ?_
  refine gm_go.ru (gm_tabIn (tgt := 86) dX11_does_1 (by decide +kernel) (by decide +kernel) rfl (by decide)) ?_
  refine gm_go.ru (gm_aload_n dX11_does_86 rfl (by first | exact Or.inl ⟨_, rfl⟩ | exact Or.inr ⟨_, rfl⟩)) ?_
  refine gm_go.ru (gm_iload_n dX11_does_87 rfl) ?_
  refine gm_go.ru (gm_cV dX11_does_88 (e1) rfl mt_X11_limits mv_X11_limits (lk_X11_120 rfl) (Or.inl ⟨_, 12, _, _, _, rfl, hM, rfl⟩) rfl (Nat.le_of_ble_eq_true rfl) (by decide)) ?_
  exact gm_iret dX11_does_91 rfl
set_option maxRecDepth 4000 in
theorem ct_mDoX6 {h : gm_H} {m : Nat} {K F : Nat → Int} (hM : h.1[m]? = some (md_c m K)) (hV : h.1[m + 1]? = some (gA 118 F)) {T : Nat} {a b c : Int} (hv : st_iv T F) (ha : zR a) (hb : zR b) (hc : zR c) (hT : T < 1000) (hq : zqWhy F 6 a b c ≠ 0) : ∃ h' F', gm_co mX11_does 6 [.ref m, .int (zI ((6 : Nat) : Int)), .int (zI a), .int (zI b), .int (zI c)] h (.inl (some (.int (zI 0)))) h' ∧ h'.1[m]? = some (md_c m (zU K 0 (zCd 6 (zqWhy F 6 a b c)))) ∧ h'.1[m + 1]? = some (gA 118 F') ∧ gh_fr h h' (fun k => k = m ∨ k = m + 1) := by
  obtain ⟨h', F', e1, e2, e3, e4⟩ := ct_mputsX hM hV (K := K) (F := F) (a := a) (b := b) (c := c) hv ha hb hc hq
  refine ⟨h', F', ?_, e2, e3, e4⟩
  refine gm_co_of _ (by decide +kernel) rfl (Nat.le_of_ble_eq_true rfl) rfl ?_
  refine gm_go.ru (gm_iload_n dX11_does_0 rfl) ?_
  refine gm_go.ru (gm_tabIn (tgt := 92) dX11_does_1 (by decide +kernel) (by decide +kernel) rfl (by decide)) ?_
  refine gm_go.ru (gm_aload_n dX11_does_92 rfl (by first | exact Or.inl ⟨_, rfl⟩ | exact Or.inr ⟨_, rfl⟩)) ?_
  refine gm_go.ru (gm_iload_n dX11_does_93 rfl) ?_
  refine gm_go.ru (gm_iload_n dX11_does_94 rfl) ?_
  refine gm_go.ru (gm_iload dX11_does_95 rfl) ?_
  refine gm_go.ru (gm_cV dX11_does_97 (e1) rfl mt_X11_puts mv_X11_puts (lk_X11_173 rfl) (Or.inl ⟨_, 12, _, _, _, rfl, hM, rfl⟩) rfl (Nat.le_of_ble_eq_true rfl) (by decide)) ?_
  exact gm_iret dX11_does_100 rfl
set_option maxRecDepth 4000 in
theorem ct_mDoX7 {h : gm_H} {m : Nat} {K F : Nat → Int} (hM : h.1[m]? = some (md_c m K)) (hV : h.1[m + 1]? = some (gA 118 F)) {T : Nat} {a b c : Int} (hv : st_iv T F) (ha : zR a) (hb : zR b) (hc : zR c) (hT : T < 1000) (hq : zqWhy F 7 a b c ≠ 0) : ∃ h' F', gm_co mX11_does 6 [.ref m, .int (zI ((7 : Nat) : Int)), .int (zI a), .int (zI b), .int (zI c)] h (.inl (some (.int (zI 0)))) h' ∧ h'.1[m]? = some (md_c m (zU K 0 (zCd 7 (zqWhy F 7 a b c)))) ∧ h'.1[m + 1]? = some (gA 118 F') ∧ gh_fr h h' (fun k => k = m ∨ k = m + 1) := by
  obtain ⟨h', F', e1, e2, e3, e4⟩ := ct_mgoesX hM hV (K := K) (F := F) (a := a) (b := 0) (c := 0) hv ha hq
  refine ⟨h', F', ?_, e2, e3, e4⟩
  refine gm_co_of _ (by decide +kernel) rfl (Nat.le_of_ble_eq_true rfl) rfl ?_
  refine gm_go.ru (gm_iload_n dX11_does_0 rfl) ?_
  refine gm_go.ru (gm_tabIn (tgt := 101) dX11_does_1 (by decide +kernel) (by decide +kernel) rfl (by decide)) ?_
  refine gm_go.ru (gm_aload_n dX11_does_101 rfl (by first | exact Or.inl ⟨_, rfl⟩ | exact Or.inr ⟨_, rfl⟩)) ?_
  refine gm_go.ru (gm_aload_n dX11_does_102 rfl (by first | exact Or.inl ⟨_, rfl⟩ | exact Or.inr ⟨_, rfl⟩)) ?_
  refine gm_go.ru (gm_iload_n dX11_does_103 rfl) ?_
  refine gm_go.ru (gm_cV dX11_does_104 (ct_mFind hM hV hv.2 ha) rfl mt_X11_find mv_X11_find (lk_X11_176 rfl) (Or.inl ⟨_, 12, _, _, _, rfl, hM, rfl⟩) rfl (Nat.le_of_ble_eq_true rfl) (by decide)) ?_
  refine gm_go.ru (gm_cV dX11_does_107 (e1) rfl mt_X11_goes mv_X11_goes (lk_X11_179 rfl) (Or.inl ⟨_, 12, _, _, _, rfl, hM, rfl⟩) rfl (Nat.le_of_ble_eq_true rfl) (by decide)) ?_
  exact gm_iret dX11_does_110 rfl
set_option maxRecDepth 4000 in
theorem ct_mDoX8 {h : gm_H} {m : Nat} {K F : Nat → Int} (hM : h.1[m]? = some (md_c m K)) (hV : h.1[m + 1]? = some (gA 118 F)) {T : Nat} {a b c : Int} (hv : st_iv T F) (ha : zR a) (hb : zR b) (hc : zR c) (hT : T < 1000) (hq : zqWhy F 8 a b c ≠ 0) : ∃ h' F', gm_co mX11_does 6 [.ref m, .int (zI ((8 : Nat) : Int)), .int (zI a), .int (zI b), .int (zI c)] h (.inl (some (.int (zI 0)))) h' ∧ h'.1[m]? = some (md_c m (zU K 0 (zCd 8 (zqWhy F 8 a b c)))) ∧ h'.1[m + 1]? = some (gA 118 F') ∧ gh_fr h h' (fun k => k = m ∨ k = m + 1) := by
  obtain ⟨h', F', e1, e2, e3, e4⟩ := ct_mbakesX hM hV (K := K) (F := F) (a := a) (b := 0) (c := 0) hv ha hq
  refine ⟨h', F', ?_, e2, e3, e4⟩
  refine gm_co_of _ (by decide +kernel) rfl (Nat.le_of_ble_eq_true rfl) rfl ?_
  refine gm_go.ru (gm_iload_n dX11_does_0 rfl) ?_
  refine gm_go.ru (gm_tabIn (tgt := 111) dX11_does_1 (by decide +kernel) (by decide +kernel) rfl (by decide)) ?_
  refine gm_go.ru (gm_aload_n dX11_does_111 rfl (by first | exact Or.inl ⟨_, rfl⟩ | exact Or.inr ⟨_, rfl⟩)) ?_
  refine gm_go.ru (gm_aload_n dX11_does_112 rfl (by first | exact Or.inl ⟨_, rfl⟩ | exact Or.inr ⟨_, rfl⟩)) ?_
  refine gm_go.ru (gm_iload_n dX11_does_113 rfl) ?_
  refine gm_go.ru (gm_cV dX11_does_114 (ct_mFind hM hV hv.2 ha) rfl mt_X11_find mv_X11_find (lk_X11_176 rfl) (Or.inl ⟨_, 12, _, _, _, rfl, hM, rfl⟩) rfl (Nat.le_of_ble_eq_true rfl) (by decide)) ?_
  refine gm_go.ru (gm_cV dX11_does_117 (e1) rfl mt_X11_bakes mv_X11_bakes (lk_X11_186 rfl) (Or.inl ⟨_, 12, _, _, _, rfl, hM, rfl⟩) rfl (Nat.le_of_ble_eq_true rfl) (by decide)) ?_
  exact gm_iret dX11_does_120 rfl
set_option maxRecDepth 4000 in
theorem ct_mDoX9 {h : gm_H} {m : Nat} {K F : Nat → Int} (hM : h.1[m]? = some (md_c m K)) (hV : h.1[m + 1]? = some (gA 118 F)) {T : Nat} {a b c : Int} (hv : st_iv T F) (ha : zR a) (hb : zR b) (hc : zR c) (hT : T < 1000) (hq : zqWhy F 9 a b c ≠ 0) : ∃ h' F', gm_co mX11_does 6 [.ref m, .int (zI ((9 : Nat) : Int)), .int (zI a), .int (zI b), .int (zI c)] h (.inl (some (.int (zI 0)))) h' ∧ h'.1[m]? = some (md_c m (zU K 0 (zCd 9 (zqWhy F 9 a b c)))) ∧ h'.1[m + 1]? = some (gA 118 F') ∧ gh_fr h h' (fun k => k = m ∨ k = m + 1) := by
  obtain ⟨h', F', e1, e2, e3, e4⟩ := ct_mrestsX hM hV (K := K) (F := F) (a := a) (b := 0) (c := 0) hv ha hq
  refine ⟨h', F', ?_, e2, e3, e4⟩
  refine gm_co_of _ (by decide +kernel) rfl (Nat.le_of_ble_eq_true rfl) rfl ?_
  refine gm_go.ru (gm_iload_n dX11_does_0 rfl) ?_
  refine gm_go.ru (gm_tabOut (tgt := 121) dX11_does_1 (by decide +kernel) (by decide)) ?_
  refine gm_go.ru (gm_aload_n dX11_does_121 rfl (by first | exact Or.inl ⟨_, rfl⟩ | exact Or.inr ⟨_, rfl⟩)) ?_
  refine gm_go.ru (gm_iload_n dX11_does_122 rfl) ?_
  refine gm_go.ru (gm_cV dX11_does_123 (e1) rfl mt_X11_rests mv_X11_rests (lk_X11_189 rfl) (Or.inl ⟨_, 12, _, _, _, rfl, hM, rfl⟩) rfl (Nat.le_of_ble_eq_true rfl) (by decide)) ?_
  exact gm_iret dX11_does_126 rfl
set_option maxRecDepth 4000 in
theorem ct_mDoX {h : gm_H} {m : Nat} {K F : Nat → Int} (hM : h.1[m]? = some (md_c m K)) (hV : h.1[m + 1]? = some (gA 118 F)) {T w : Nat} {a b c : Int} (hw : w < 10) (hv : st_iv T F) (ha : zR a) (hb : zR b) (hc : zR c) (hT : T < 1000) (hq : zqWhy F w a b c ≠ 0) : ∃ h' F', gm_co mX11_does 6 [.ref m, .int (zI (w : Int)), .int (zI a), .int (zI b), .int (zI c)] h (.inl (some (.int (zI 0)))) h' ∧ h'.1[m]? = some (md_c m (zU K 0 (zCd w (zqWhy F w a b c)))) ∧ h'.1[m + 1]? = some (gA 118 F') ∧ gh_fr h h' (fun k => k = m ∨ k = m + 1) := by
  match w, hw, hq with
  | 0, _, hq => exact ct_mDoX0 hM hV hv ha hb hc hT hq
  | 1, _, hq => exact ct_mDoX1 hM hV hv ha hb hc hT hq
  | 2, _, hq => exact ct_mDoX2 hM hV hv ha hb hc hT hq
  | 3, _, hq => exact ct_mDoX3 hM hV hv ha hb hc hT hq
  | 4, _, hq => exact ct_mDoX4 hM hV hv ha hb hc hT hq
  | 5, _, hq => exact ct_mDoX5 hM hV hv ha hb hc hT hq
  | 6, _, hq => exact ct_mDoX6 hM hV hv ha hb hc hT hq
  | 7, _, hq => exact ct_mDoX7 hM hV hv ha hb hc hT hq
  | 8, _, hq => exact ct_mDoX8 hM hV hv ha hb hc hT hq
  | 9, _, hq => exact ct_mDoX9 hM hV hv ha hb hc hT hq
  | _ + 10, hw, _ => omega
set_option maxRecDepth 4000 in
theorem ct_mDo0 {h : gm_H} {m : Nat} {K F : Nat → Int} (hM : h.1[m]? = some (md_c m K)) (hV : h.1[m + 1]? = some (gA 118 F)) {T : Nat} {a b c : Int} (hv : st_iv T F) (ha : zR a) (hb : zR b) (hc : zR c) (hT : T < 1000) (hq : zqWhy F 0 a b c = 0) : ∃ h' F', gm_co mX11_does 6 [.ref m, .int (zI ((0 : Nat) : Int)), .int (zI a), .int (zI b), .int (zI c)] h (.inl (some (.int (zI (zAn F 0 a b c))))) h' ∧ h'.1[m]? = some (md_c m K) ∧ h'.1[m + 1]? = some (gA 118 F') ∧ (∀ k, k < 118 → F' k = zDo F 0 a b c k) ∧ gh_fr h h' (fun k => k = m + 1) := by
  obtain ⟨h', F', e1, e2, e3, e4, e5⟩ := ct_madds hM hV (K := K) (F := F) (a := a) (b := 0) (c := 0) hv ha hq
  refine ⟨h', F', ?_, e2, e3, e4, e5⟩
  refine gm_co_of _ (by decide +kernel) rfl (Nat.le_of_ble_eq_true rfl) rfl ?_
  refine gm_go.ru (gm_iload_n dX11_does_0 rfl) ?_
  refine gm_go.ru (gm_tabIn (tgt := 52) dX11_does_1 (by decide +kernel) (by decide +kernel) rfl (by decide)) ?_
  refine gm_go.ru (gm_aload_n dX11_does_52 rfl (by first | exact Or.inl ⟨_, rfl⟩ | exact Or.inr ⟨_, rfl⟩)) ?_
  refine gm_go.ru (gm_iload_n dX11_does_53 rfl) ?_
  refine gm_go.ru (gm_cV dX11_does_54 (e1) rfl mt_X11_adds mv_X11_adds (lk_X11_81 rfl) (Or.inl ⟨_, 12, _, _, _, rfl, hM, rfl⟩) rfl (Nat.le_of_ble_eq_true rfl) (by decide)) ?_
  exact gm_iret dX11_does_57 rfl
set_option maxRecDepth 4000 in
theorem ct_mDo1 {h : gm_H} {m : Nat} {K F : Nat → Int} (hM : h.1[m]? = some (md_c m K)) (hV : h.1[m + 1]? = some (gA 118 F)) {T : Nat} {a b c : Int} (hv : st_iv T F) (ha : zR a) (hb : zR b) (hc : zR c) (hT : T < 1000) (hq : zqWhy F 1 a b c = 0) : ∃ h' F', gm_co mX11_does 6 [.ref m, .int (zI ((1 : Nat) : Int)), .int (zI a), .int (zI b), .int (zI c)] h (.inl (some (.int (zI (zAn F 1 a b c))))) h' ∧ h'.1[m]? = some (md_c m K) ∧ h'.1[m + 1]? = some (gA 118 F') ∧ (∀ k, k < 118 → F' k = zDo F 1 a b c k) ∧ gh_fr h h' (fun k => k = m + 1) := by
  obtain ⟨h', F', e1, e2, e3, e4, e5⟩ := ct_msets hM hV (K := K) (F := F) (a := a) (b := b) (c := c) hv ha hb hc hq
  refine ⟨h', F', ?_, e2, e3, e4, e5⟩
  refine gm_co_of _ (by decide +kernel) rfl (Nat.le_of_ble_eq_true rfl) rfl ?_
  refine gm_go.ru (gm_iload_n dX11_does_0 rfl) ?_
  refine gm_go.ru (gm_tabIn (tgt := 58) dX11_does_1 (by decide +kernel) (by decide +kernel) rfl (by decide)) ?_
  refine gm_go.ru (gm_aload_n dX11_does_58 rfl (by first | exact Or.inl ⟨_, rfl⟩ | exact Or.inr ⟨_, rfl⟩)) ?_
  refine gm_go.ru (gm_iload_n dX11_does_59 rfl) ?_
  refine gm_go.ru (gm_iload_n dX11_does_60 rfl) ?_
  refine gm_go.ru (gm_iload dX11_does_61 rfl) ?_
  refine gm_go.ru (gm_cV dX11_does_63 (e1) rfl mt_X11_sets mv_X11_sets (lk_X11_94 rfl) (Or.inl ⟨_, 12, _, _, _, rfl, hM, rfl⟩) rfl (Nat.le_of_ble_eq_true rfl) (by decide)) ?_
  exact gm_iret dX11_does_66 rfl
set_option maxRecDepth 4000 in
theorem ct_mDo2 {h : gm_H} {m : Nat} {K F : Nat → Int} (hM : h.1[m]? = some (md_c m K)) (hV : h.1[m + 1]? = some (gA 118 F)) {T : Nat} {a b c : Int} (hv : st_iv T F) (ha : zR a) (hb : zR b) (hc : zR c) (hT : T < 1000) (hq : zqWhy F 2 a b c = 0) : ∃ h' F', gm_co mX11_does 6 [.ref m, .int (zI ((2 : Nat) : Int)), .int (zI a), .int (zI b), .int (zI c)] h (.inl (some (.int (zI (zAn F 2 a b c))))) h' ∧ h'.1[m]? = some (md_c m K) ∧ h'.1[m + 1]? = some (gA 118 F') ∧ (∀ k, k < 118 → F' k = zDo F 2 a b c k) ∧ gh_fr h h' (fun k => k = m + 1) := by
  obtain ⟨h', F', e1, e2, e3, e4, e5⟩ := ct_mshifts hM hV (K := K) (F := F) (a := a) (b := b) (c := 0) hv ha hb hq
  refine ⟨h', F', ?_, e2, e3, e4, e5⟩
  refine gm_co_of _ (by decide +kernel) rfl (Nat.le_of_ble_eq_true rfl) rfl ?_
  refine gm_go.ru (gm_iload_n dX11_does_0 rfl) ?_
  refine gm_go.ru (gm_tabIn (tgt := 67) dX11_does_1 (by decide +kernel) (by decide +kernel) rfl (by decide)) ?_
  refine gm_go.ru (gm_aload_n dX11_does_67 rfl (by first | exact Or.inl ⟨_, rfl⟩ | exact Or.inr ⟨_, rfl⟩)) ?_
  refine gm_go.ru (gm_iload_n dX11_does_68 rfl) ?_
  refine gm_go.ru (gm_iload_n dX11_does_69 rfl) ?_
  refine gm_go.ru (gm_cV dX11_does_70 (e1) rfl mt_X11_shifts mv_X11_shifts (lk_X11_105 rfl) (Or.inl ⟨_, 12, _, _, _, rfl, hM, rfl⟩) rfl (Nat.le_of_ble_eq_true rfl) (by decide)) ?_
  exact gm_iret dX11_does_73 rfl
set_option maxRecDepth 4000 in
theorem ct_mDo3 {h : gm_H} {m : Nat} {K F : Nat → Int} (hM : h.1[m]? = some (md_c m K)) (hV : h.1[m + 1]? = some (gA 118 F)) {T : Nat} {a b c : Int} (hv : st_iv T F) (ha : zR a) (hb : zR b) (hc : zR c) (hT : T < 1000) (hq : zqWhy F 3 a b c = 0) : ∃ h' F', gm_co mX11_does 6 [.ref m, .int (zI ((3 : Nat) : Int)), .int (zI a), .int (zI b), .int (zI c)] h (.inl (some (.int (zI (zAn F 3 a b c))))) h' ∧ h'.1[m]? = some (md_c m K) ∧ h'.1[m + 1]? = some (gA 118 F') ∧ (∀ k, k < 118 → F' k = zDo F 3 a b c k) ∧ gh_fr h h' (fun k => k = m + 1) := by
  obtain ⟨h', F', e1, e2, e3, e4, e5⟩ := ct_mcorrects hM hV (K := K) (F := F) (a := a) (b := 0) (c := 0) hv ha hq
  refine ⟨h', F', ?_, e2, e3, e4, e5⟩
  refine gm_co_of _ (by decide +kernel) rfl (Nat.le_of_ble_eq_true rfl) rfl ?_
  refine gm_go.ru (gm_iload_n dX11_does_0 rfl) ?_
  refine gm_go.ru (gm_tabIn (tgt := 74) dX11_does_1 (by decide +kernel) (by decide +kernel) rfl (by decide)) ?_
  refine gm_go.ru (gm_aload_n dX11_does_74 rfl (by first | exact Or.inl ⟨_, rfl⟩ | exact Or.inr ⟨_, rfl⟩)) ?_
  refine gm_go.ru (gm_iload_n dX11_does_75 rfl) ?_
  refine gm_go.ru (gm_cV dX11_does_76 (e1) rfl mt_X11_corrects mv_X11_corrects (lk_X11_111 rfl) (Or.inl ⟨_, 12, _, _, _, rfl, hM, rfl⟩) rfl (Nat.le_of_ble_eq_true rfl) (by decide)) ?_
  exact gm_iret dX11_does_79 rfl
set_option maxRecDepth 4000 in
theorem ct_mDo4 {h : gm_H} {m : Nat} {K F : Nat → Int} (hM : h.1[m]? = some (md_c m K)) (hV : h.1[m + 1]? = some (gA 118 F)) {T : Nat} {a b c : Int} (hv : st_iv T F) (ha : zR a) (hb : zR b) (hc : zR c) (hT : T < 1000) (hq : zqWhy F 4 a b c = 0) : ∃ h' F', gm_co mX11_does 6 [.ref m, .int (zI ((4 : Nat) : Int)), .int (zI a), .int (zI b), .int (zI c)] h (.inl (some (.int (zI (zAn F 4 a b c))))) h' ∧ h'.1[m]? = some (md_c m K) ∧ h'.1[m + 1]? = some (gA 118 F') ∧ (∀ k, k < 118 → F' k = zDo F 4 a b c k) ∧ gh_fr h h' (fun k => k = m + 1) := by
  obtain ⟨h', F', e1, e2, e3, e4, e5⟩ := ct_mdrops hM hV (K := K) (F := F) (a := a) (b := 0) (c := 0) hv ha hq
  refine ⟨h', F', ?_, e2, e3, e4, e5⟩
  refine gm_co_of _ (by decide +kernel) rfl (Nat.le_of_ble_eq_true rfl) rfl ?_
  refine gm_go.ru (gm_iload_n dX11_does_0 rfl) ?_
  refine gm_go.ru (gm_tabIn (tgt := 80) dX11_does_1 (by decide +kernel) (by decide +kernel) rfl (by decide)) ?_
  refine gm_go.ru (gm_aload_n dX11_does_80 rfl (by first | exact Or.inl ⟨_, rfl⟩ | exact Or.inr ⟨_, rfl⟩)) ?_
  refine gm_go.ru (gm_iload_n dX11_does_81 rfl) ?_
  refine gm_go.ru (gm_cV dX11_does_82 (e1) rfl mt_X11_drops mv_X11_drops (lk_X11_114 rfl) (Or.inl ⟨_, 12, _, _, _, rfl, hM, rfl⟩) rfl (Nat.le_of_ble_eq_true rfl) (by decide)) ?_
  exact gm_iret dX11_does_85 rfl
set_option maxRecDepth 4000 in
theorem ct_mDo5 {h : gm_H} {m : Nat} {K F : Nat → Int} (hM : h.1[m]? = some (md_c m K)) (hV : h.1[m + 1]? = some (gA 118 F)) {T : Nat} {a b c : Int} (hv : st_iv T F) (ha : zR a) (hb : zR b) (hc : zR c) (hT : T < 1000) (hq : zqWhy F 5 a b c = 0) : ∃ h' F', gm_co mX11_does 6 [.ref m, .int (zI ((5 : Nat) : Int)), .int (zI a), .int (zI b), .int (zI c)] h (.inl (some (.int (zI (zAn F 5 a b c))))) h' ∧ h'.1[m]? = some (md_c m K) ∧ h'.1[m + 1]? = some (gA 118 F') ∧ (∀ k, k < 118 → F' k = zDo F 5 a b c k) ∧ gh_fr h h' (fun k => k = m + 1) := by
  obtain ⟨h', F', e1, e2, e3, e4, e5⟩ := ct_mlimits hM hV (K := K) (F := F) (a := a) (b := 0) (c := 0) hv ha hq
  refine ⟨h', F', ?_, e2, e3, e4, e5⟩
  refine gm_co_of _ (by decide +kernel) rfl (Nat.le_of_ble_eq_true rfl) rfl ?_
  refine gm_go.ru (gm_iload_n dX11_does_0 rfl) ?_
  refine gm_go.ru (gm_tabIn (tgt := 86) dX11_does_1 (by decide +kernel) (by decide +kernel) rfl (by decide)) ?_
  refine gm_go.ru (gm_aload_n dX11_does_86 rfl (by first | exact Or.inl ⟨_, rfl⟩ | exact Or.inr ⟨_, rfl⟩)) ?_
  refine gm_go.ru (gm_iload_n dX11_does_87 rfl) ?_
  refine gm_go.ru (gm_cV dX11_does_88 (e1) rfl mt_X11_limits mv_X11_limits (lk_X11_120 rfl) (Or.inl ⟨_, 12, _, _, _, rfl, hM, rfl⟩) rfl (Nat.le_of_ble_eq_true rfl) (by decide)) ?_
  exact gm_iret dX11_does_91 rfl
set_option maxRecDepth 4000 in
theorem ct_mDo6 {h : gm_H} {m : Nat} {K F : Nat → Int} (hM : h.1[m]? = some (md_c m K)) (hV : h.1[m + 1]? = some (gA 118 F)) {T : Nat} {a b c : Int} (hv : st_iv T F) (ha : zR a) (hb : zR b) (hc : zR c) (hT : T < 1000) (hq : zqWhy F 6 a b c = 0) : ∃ h' F', gm_co mX11_does 6 [.ref m, .int (zI ((6 : Nat) : Int)), .int (zI a), .int (zI b), .int (zI c)] h (.inl (some (.int (zI (zAn F 6 a b c))))) h' ∧ h'.1[m]? = some (md_c m K) ∧ h'.1[m + 1]? = some (gA 118 F') ∧ (∀ k, k < 118 → F' k = zDo F 6 a b c k) ∧ gh_fr h h' (fun k => k = m + 1) := by
  obtain ⟨h', F', e1, e2, e3, e4, e5⟩ := ct_mputs hM hV (K := K) (F := F) (a := a) (b := b) (c := c) hv ha hb hc hq
  refine ⟨h', F', ?_, e2, e3, e4, e5⟩
  refine gm_co_of _ (by decide +kernel) rfl (Nat.le_of_ble_eq_true rfl) rfl ?_
  refine gm_go.ru (gm_iload_n dX11_does_0 rfl) ?_
  refine gm_go.ru (gm_tabIn (tgt := 92) dX11_does_1 (by decide +kernel) (by decide +kernel) rfl (by decide)) ?_
  refine gm_go.ru (gm_aload_n dX11_does_92 rfl (by first | exact Or.inl ⟨_, rfl⟩ | exact Or.inr ⟨_, rfl⟩)) ?_
  refine gm_go.ru (gm_iload_n dX11_does_93 rfl) ?_
  refine gm_go.ru (gm_iload_n dX11_does_94 rfl) ?_
  refine gm_go.ru (gm_iload dX11_does_95 rfl) ?_
  refine gm_go.ru (gm_cV dX11_does_97 (e1) rfl mt_X11_puts mv_X11_puts (lk_X11_173 rfl) (Or.inl ⟨_, 12, _, _, _, rfl, hM, rfl⟩) rfl (Nat.le_of_ble_eq_true rfl) (by decide)) ?_
  exact gm_iret dX11_does_100 rfl
set_option maxRecDepth 4000 in
theorem ct_mDo7 {h : gm_H} {m : Nat} {K F : Nat → Int} (hM : h.1[m]? = some (md_c m K)) (hV : h.1[m + 1]? = some (gA 118 F)) {T : Nat} {a b c : Int} (hv : st_iv T F) (ha : zR a) (hb : zR b) (hc : zR c) (hT : T < 1000) (hq : zqWhy F 7 a b c = 0) : ∃ h' F', gm_co mX11_does 6 [.ref m, .int (zI ((7 : Nat) : Int)), .int (zI a), .int (zI b), .int (zI c)] h (.inl (some (.int (zI (zAn F 7 a b c))))) h' ∧ h'.1[m]? = some (md_c m K) ∧ h'.1[m + 1]? = some (gA 118 F') ∧ (∀ k, k < 118 → F' k = zDo F 7 a b c k) ∧ gh_fr h h' (fun k => k = m + 1) := by
  obtain ⟨h', F', e1, e2, e3, e4, e5⟩ := ct_mgoes hM hV (K := K) (F := F) (a := a) (b := 0) (c := 0) hv ha hq
  refine ⟨h', F', ?_, e2, e3, e4, e5⟩
  refine gm_co_of _ (by decide +kernel) rfl (Nat.le_of_ble_eq_true rfl) rfl ?_
  refine gm_go.ru (gm_iload_n dX11_does_0 rfl) ?_
  refine gm_go.ru (gm_tabIn (tgt := 101) dX11_does_1 (by decide +kernel) (by decide +kernel) rfl (by decide)) ?_
  refine gm_go.ru (gm_aload_n dX11_does_101 rfl (by first | exact Or.inl ⟨_, rfl⟩ | exact Or.inr ⟨_, rfl⟩)) ?_
  refine gm_go.ru (gm_aload_n dX11_does_102 rfl (by first | exact Or.inl ⟨_, rfl⟩ | exact Or.inr ⟨_, rfl⟩)) ?_
  refine gm_go.ru (gm_iload_n dX11_does_103 rfl) ?_
  refine gm_go.ru (gm_cV dX11_does_104 (ct_mFind hM hV hv.2 ha) rfl mt_X11_find mv_X11_find (lk_X11_176 rfl) (Or.inl ⟨_, 12, _, _, _, rfl, hM, rfl⟩) rfl (Nat.le_of_ble_eq_true rfl) (by decide)) ?_
  refine gm_go.ru (gm_cV dX11_does_107 (e1) rfl mt_X11_goes mv_X11_goes (lk_X11_179 rfl) (Or.inl ⟨_, 12, _, _, _, rfl, hM, rfl⟩) rfl (Nat.le_of_ble_eq_true rfl) (by decide)) ?_
  exact gm_iret dX11_does_110 rfl
set_option maxRecDepth 4000 in
theorem ct_mDo8 {h : gm_H} {m : Nat} {K F : Nat → Int} (hM : h.1[m]? = some (md_c m K)) (hV : h.1[m + 1]? = some (gA 118 F)) {T : Nat} {a b c : Int} (hv : st_iv T F) (ha : zR a) (hb : zR b) (hc : zR c) (hT : T < 1000) (hq : zqWhy F 8 a b c = 0) : ∃ h' F', gm_co mX11_does 6 [.ref m, .int (zI ((8 : Nat) : Int)), .int (zI a), .int (zI b), .int (zI c)] h (.inl (some (.int (zI (zAn F 8 a b c))))) h' ∧ h'.1[m]? = some (md_c m K) ∧ h'.1[m + 1]? = some (gA 118 F') ∧ (∀ k, k < 118 → F' k = zDo F 8 a b c k) ∧ gh_fr h h' (fun k => k = m + 1) := by
  obtain ⟨h', F', e1, e2, e3, e4, e5⟩ := ct_mbakes hM hV (K := K) (F := F) (a := a) (b := 0) (c := 0) hv ha hT hq
  refine ⟨h', F', ?_, e2, e3, e4, e5⟩
  refine gm_co_of _ (by decide +kernel) rfl (Nat.le_of_ble_eq_true rfl) rfl ?_
  refine gm_go.ru (gm_iload_n dX11_does_0 rfl) ?_
  refine gm_go.ru (gm_tabIn (tgt := 111) dX11_does_1 (by decide +kernel) (by decide +kernel) rfl (by decide)) ?_
  refine gm_go.ru (gm_aload_n dX11_does_111 rfl (by first | exact Or.inl ⟨_, rfl⟩ | exact Or.inr ⟨_, rfl⟩)) ?_
  refine gm_go.ru (gm_aload_n dX11_does_112 rfl (by first | exact Or.inl ⟨_, rfl⟩ | exact Or.inr ⟨_, rfl⟩)) ?_
  refine gm_go.ru (gm_iload_n dX11_does_113 rfl) ?_
  refine gm_go.ru (gm_cV dX11_does_114 (ct_mFind hM hV hv.2 ha) rfl mt_X11_find mv_X11_find (lk_X11_176 rfl) (Or.inl ⟨_, 12, _, _, _, rfl, hM, rfl⟩) rfl (Nat.le_of_ble_eq_true rfl) (by decide)) ?_
  refine gm_go.ru (gm_cV dX11_does_117 (e1) rfl mt_X11_bakes mv_X11_bakes (lk_X11_186 rfl) (Or.inl ⟨_, 12, _, _, _, rfl, hM, rfl⟩) rfl (Nat.le_of_ble_eq_true rfl) (by decide)) ?_
  exact gm_iret dX11_does_120 rfl
set_option maxRecDepth 4000 in
theorem ct_mDo9 {h : gm_H} {m : Nat} {K F : Nat → Int} (hM : h.1[m]? = some (md_c m K)) (hV : h.1[m + 1]? = some (gA 118 F)) {T : Nat} {a b c : Int} (hv : st_iv T F) (ha : zR a) (hb : zR b) (hc : zR c) (hT : T < 1000) (hq : zqWhy F 9 a b c = 0) : ∃ h' F', gm_co mX11_does 6 [.ref m, .int (zI ((9 : Nat) : Int)), .int (zI a), .int (zI b), .int (zI c)] h (.inl (some (.int (zI (zAn F 9 a b c))))) h' ∧ h'.1[m]? = some (md_c m K) ∧ h'.1[m + 1]? = some (gA 118 F') ∧ (∀ k, k < 118 → F' k = zDo F 9 a b c k) ∧ gh_fr h h' (fun k => k = m + 1) := by
  obtain ⟨h', F', e1, e2, e3, e4, e5⟩ := ct_mrests hM hV (K := K) (F := F) (a := a) (b := 0) (c := 0) hv ha hq
  refine ⟨h', F', ?_, e2, e3, e4, e5⟩
  refine gm_co_of _ (by decide +kernel) rfl (Nat.le_of_ble_eq_true rfl) rfl ?_
  refine gm_go.ru (gm_iload_n dX11_does_0 rfl) ?_
  refine gm_go.ru (gm_tabOut (tgt := 121) dX11_does_1 (by decide +kernel) (by decide)) ?_
  refine gm_go.ru (gm_aload_n dX11_does_121 rfl (by first | exact Or.inl ⟨_, rfl⟩ | exact Or.inr ⟨_, rfl⟩)) ?_
  refine gm_go.ru (gm_iload_n dX11_does_122 rfl) ?_
  refine gm_go.ru (gm_cV dX11_does_123 (e1) rfl mt_X11_rests mv_X11_rests (lk_X11_189 rfl) (Or.inl ⟨_, 12, _, _, _, rfl, hM, rfl⟩) rfl (Nat.le_of_ble_eq_true rfl) (by decide)) ?_
  exact gm_iret dX11_does_126 rfl
set_option maxRecDepth 4000 in
theorem ct_mDo {h : gm_H} {m : Nat} {K F : Nat → Int} (hM : h.1[m]? = some (md_c m K)) (hV : h.1[m + 1]? = some (gA 118 F)) {T w : Nat} {a b c : Int} (hw : w < 10) (hv : st_iv T F) (ha : zR a) (hb : zR b) (hc : zR c) (hT : T < 1000) (hq : zqWhy F w a b c = 0) : ∃ h' F', gm_co mX11_does 6 [.ref m, .int (zI (w : Int)), .int (zI a), .int (zI b), .int (zI c)] h (.inl (some (.int (zI (zAn F w a b c))))) h' ∧ h'.1[m]? = some (md_c m K) ∧ h'.1[m + 1]? = some (gA 118 F') ∧ (∀ k, k < 118 → F' k = zDo F w a b c k) ∧ gh_fr h h' (fun k => k = m + 1) := by
  match w, hw, hq with
  | 0, _, hq => exact ct_mDo0 hM hV hv ha hb hc hT hq
  | 1, _, hq => exact ct_mDo1 hM hV hv ha hb hc hT hq
  | 2, _, hq => exact ct_mDo2 hM hV hv ha hb hc hT hq
  | 3, _, hq => exact ct_mDo3 hM hV hv ha hb hc hT hq
  | 4, _, hq => exact ct_mDo4 hM hV hv ha hb hc hT hq
  | 5, _, hq => exact ct_mDo5 hM hV hv ha hb hc hT hq
  | 6, _, hq => exact ct_mDo6 hM hV hv ha hb hc hT hq
  | 7, _, hq => exact ct_mDo7 hM hV hv ha hb hc hT hq
  | 8, _, hq => exact ct_mDo8 hM hV hv ha hb hc hT hq
  | 9, _, hq => exact ct_mDo9 hM hV hv ha hb hc hT hq
  | _ + 10, hw, _ => omega
/-! numbers read: the number, where it ends, whether it is wrong -/
def zD1 (X : Nat → Int) (L p mx : Nat) : Int × (Nat × Bool) := (zvl X p (zdn X L p mx), (p + zdn X L p mx, decide (zdn X L p mx = 0)))
def zD2 (X : Nat → Int) (L p : Nat) (c : Int) (mx : Nat) : Int × (Nat × Bool) := if zsg X L p c = true then zD1 X L (p + 1) mx else (0, (p, true))
def zD3 (X : Nat → Int) (L p : Nat) : Int × (Nat × Bool) := if zsg X L p 32 = true then (if zsg X L (p + 1) 45 = true then (-(zD1 X L (p + 2) 3).1, (zD1 X L (p + 2) 3).2) else zD1 X L (p + 1) 3) else (0, (p, true))
theorem zD1_p {X : Nat → Int} {L p mx : Nat} (h : p ≤ 60) (hL : L ≤ 60) : (zD1 X L p mx).2.1 ≤ 60 := by
  have := zdn_le X L mx p
  show p + zdn X L p mx ≤ 60
  omega
theorem zsg_l {X : Nat → Int} {L p : Nat} {c : Int} (h : zsg X L p c = true) : p < L := (of_decide_eq_true h).1
theorem zD2_p {X : Nat → Int} {L p mx : Nat} {c : Int} (h : p ≤ 60) (hL : L ≤ 60) : (zD2 X L p c mx).2.1 ≤ 60 := by
  unfold zD2
  split
  · have := zsg_l (by assumption); exact zD1_p (by omega) hL
  · exact h
theorem zD3_p {X : Nat → Int} {L p : Nat} (h : p ≤ 60) (hL : L ≤ 60) : (zD3 X L p).2.1 ≤ 60 := by
  unfold zD3
  split
  · split
    · have := zsg_l (by assumption); exact zD1_p (by omega) hL
    · have := zsg_l (X := X) (L := L) (p := p) (c := 32) (by assumption); exact zD1_p (by omega) hL
  · exact h
/-- what stands behind the word w: the numbers, where it ends, whether it is wrong -/
def zMr (X : Nat → Int) (L w q : Nat) : (Int × (Int × Int)) × (Nat × Bool) :=
  if w = 1 then (if (zD1 X L q 1).2.2 = true then (((zD1 X L q 1).1, (0, 0)), (zD1 X L q 1).2) else if (zD2 X L (zD1 X L q 1).2.1 32 1).2.2 = true then (((zD1 X L q 1).1, ((zD2 X L (zD1 X L q 1).2.1 32 1).1, 0)), (zD2 X L (zD1 X L q 1).2.1 32 1).2) else (((zD1 X L q 1).1, ((zD2 X L (zD1 X L q 1).2.1 32 1).1, (zD3 X L (zD2 X L (zD1 X L q 1).2.1 32 1).2.1).1)), (zD3 X L (zD2 X L (zD1 X L q 1).2.1 32 1).2.1).2))
  else if w = 2 then (if (zD1 X L q 1).2.2 = true then (((zD1 X L q 1).1, (0, 0)), (zD1 X L q 1).2) else (((zD1 X L q 1).1, ((zD3 X L (zD1 X L q 1).2.1).1, 0)), (zD3 X L (zD1 X L q 1).2.1).2))
  else if w = 6 then (if (zD1 X L q 3).2.2 = true then (((zD1 X L q 3).1, (0, 0)), (zD1 X L q 3).2) else if (zD2 X L (zD1 X L q 3).2.1 47 3).2.2 = true then (((zD1 X L q 3).1, ((zD2 X L (zD1 X L q 3).2.1 47 3).1, 0)), (zD2 X L (zD1 X L q 3).2.1 47 3).2) else (((zD1 X L q 3).1, ((zD2 X L (zD1 X L q 3).2.1 47 3).1, (zD2 X L (zD2 X L (zD1 X L q 3).2.1 47 3).2.1 32 1).1)), (zD2 X L (zD2 X L (zD1 X L q 3).2.1 47 3).2.1 32 1).2))
  else (((zD1 X L q (if w = 3 ∨ w = 4 then 1 else 3)).1, (0, 0)), (zD1 X L q (if w = 3 ∨ w = 4 then 1 else 3)).2)
theorem cd_1 {h : gm_H} {m p L : Nat} {K X : Nat → Int} (hM : h.1[m]? = some (md_c m K)) (hX : h.1[m + 8]? = some (gA 60 X)) (hp : K 18 = (p : Int)) (hL : K 19 = (L : Int)) (ht : zTx X L) (hp9 : p ≤ 60) (hw : K 21 = 0) {mx : Nat} (hmx : mx ≤ 3) : ∃ h' K', gm_co mX11_digits 3 [.ref m, .int (zI (mx : Int))] h (.inl (some (.int (zI (zD1 X L p mx).1)))) h' ∧ h'.1[m]? = some (md_c m K') ∧ kp K K' (zD1 X L p mx).2.1 (zD1 X L p mx).2.2 ∧ gh_fr h h' (fun k => k = m) := ct_mDig hM hX hp hL ht (by omega) hw hmx
theorem cd_2 {h : gm_H} {m p L : Nat} {K X : Nat → Int} (hM : h.1[m]? = some (md_c m K)) (hX : h.1[m + 8]? = some (gA 60 X)) (hp : K 18 = (p : Int)) (hL : K 19 = (L : Int)) (ht : zTx X L) (hp9 : p ≤ 60) (hw : K 21 = 0) {x : Int} (hx : 0 ≤ x ∧ x ≤ 1000) {mx : Nat} (hmx : mx ≤ 3) : ∃ h' K', gm_co mX11_behind 4 [.ref m, .int (zI x), .int (zI (mx : Int))] h (.inl (some (.int (zI (zD2 X L p x mx).1)))) h' ∧ h'.1[m]? = some (md_c m K') ∧ kp K K' (zD2 X L p x mx).2.1 (zD2 X L p x mx).2.2 ∧ gh_fr h h' (fun k => k = m) := by
  unfold zD2
  cases c : zsg X L p x
  · rw [if_neg (by decide)]; exact ct_mBehX (p := p) hM hX hp hL ht (by omega) hw hx hmx c
  · rw [if_pos rfl]; exact ct_mBeh (p := p) hM hX hp hL ht (by omega) hw hx hmx c
theorem cd_3 {h : gm_H} {m p L : Nat} {K X : Nat → Int} (hM : h.1[m]? = some (md_c m K)) (hX : h.1[m + 8]? = some (gA 60 X)) (hp : K 18 = (p : Int)) (hL : K 19 = (L : Int)) (ht : zTx X L) (hp9 : p ≤ 60) (hw : K 21 = 0) : ∃ h' K', gm_co mX11_degrees 4 [.ref m] h (.inl (some (.int (zI (zD3 X L p).1)))) h' ∧ h'.1[m]? = some (md_c m K') ∧ kp K K' (zD3 X L p).2.1 (zD3 X L p).2.2 ∧ gh_fr h h' (fun k => k = m) := by
  unfold zD3
  cases c : zsg X L p 32
  · rw [if_neg (by decide)]; exact ct_mDegX (p := p) hM hX hp hL ht (by omega) hw c
  · rw [if_pos rfl]
    cases c2 : zsg X L (p + 1) 45
    · rw [if_neg (by decide)]; exact ct_mDeg (p := p) hM hX hp hL ht (by omega) hw c c2
    · rw [if_pos rfl]; exact ct_mDegL (p := p) hM hX hp hL ht (by omega) hw c c2
set_option maxRecDepth 4000 in
theorem cm_rA {h : gm_H} {m p L : Nat} {K X : Nat → Int} (hM : h.1[m]? = some (md_c m K)) (hX : h.1[m + 8]? = some (gA 60 X)) (hp : K 18 = (p : Int)) (hL : K 19 = (L : Int)) (ht : zTx X L) (hp9 : p ≤ 60) (hw : K 21 = 0) {w : Nat} (hw9 : w < 10) (n1 : w ≠ 1) (n2 : w ≠ 2) (n6 : w ≠ 6) : ∃ h' K', gm_go mX11_command 7 (17, [some (.ref m), some (.int (zI (w : Int))), some (.int (zI (0))), some (.int (zI (0))), none, none], [], h) (133, [some (.ref m), some (.int (zI (w : Int))), some (.int (zI ((zMr X L w p).1.2.1))), some (.int (zI ((zMr X L w p).1.2.2))), some (.int (zI (zMr X L w p).1.1)), none], [], h') ∧ h'.1[m]? = some (md_c m K') ∧ kp K K' (zMr X L w p).2.1 (zMr X L w p).2.2 ∧ gh_fr h h' (fun k => k = m) := by
  have hL60 := ht.1
  obtain ⟨a1, K1, e1, e2, e3, e4⟩ := cd_1 hM hX hp hL ht hp9 hw (mx := (if w = 3 ∨ w = 4 then 1 else 3)) (by split <;> decide)
  have q1 := zD1_p (X := X) (L := L) (p := p) (mx := (if w = 3 ∨ w = 4 then 1 else 3)) hp9 ht.1
  have zr : zMr X L w p = (((zD1 X L p (if w = 3 ∨ w = 4 then 1 else 3)).1, (0, 0)), (zD1 X L p (if w = 3 ∨ w = 4 then 1 else 3)).2) := by unfold zMr; rw [if_neg (by omega), if_neg (by omega), if_neg (by omega)]
  rw [zr]
  refine ⟨a1, K1, ?_, e2, e3, e4⟩
  by_cases c : w = 3 ∨ w = 4
  ·
    rw [if_pos c] at e1 ⊢
    refine gm_go_tr (gm_aload_n dX11_command_17 rfl (by first | exact Or.inl ⟨_, rfl⟩ | exact Or.inr ⟨_, rfl⟩)) ?_
    refine gm_go_tr (gm_iload_n dX11_command_18 rfl) ?_
    refine gm_go_tr (gi_const dX11_command_19) ?_
    refine gm_go_tr (gi_const dX11_command_20) ?_
    refine gm_go_tr (gm_cS dX11_command_21 (ct_mIsIn (by omega) (by decide) (by decide)) rfl mt_X11_isIn ms_X11_isIn (lk_X11_63 rfl) rfl (Nat.le_of_ble_eq_true rfl) (by decide)) ?_
    rw [zB_t (show ((1 : Int) ≤ (w : Int) ∧ (w : Int) ≤ 4) by omega)]
    refine gm_go_tr (gi_if_eq_f 31 dX11_command_24 (by decide) (by decide) (by decide)) ?_
    refine gm_go_tr (gi_const dX11_command_27) ?_
    refine gm_go_tr (gm_goto (tgt := 32) dX11_command_28 (by decide)) ?_
    refine gm_go_tr (gm_cV dX11_command_32 (e1) rfl mt_X11_digits mv_X11_digits (lk_X11_232 rfl) (Or.inl ⟨_, 12, _, _, _, rfl, hM, rfl⟩) rfl (Nat.le_of_ble_eq_true rfl) (by decide)) ?_
    refine gm_go_tr (gm_istore (ls' := [_, _, _, _, _, _]) dX11_command_35 (by decide) rfl) ?_
    refine gm_go_tr (gm_iload_n dX11_command_37 rfl) ?_
    refine gm_go_tr (gi_const dX11_command_38) ?_
    refine gm_go_tr (gi_icmp_ne_t (tgt := 57) dX11_command_39 (by decide) (by omega) (by omega) (by omega)) ?_
    refine gm_go_tr (gm_iload_n dX11_command_57 rfl) ?_
    refine gm_go_tr (gi_const dX11_command_58) ?_
    refine gm_go_tr (gi_icmp_ne_t (tgt := 74) dX11_command_59 (by decide) (by omega) (by omega) (by omega)) ?_
    refine gm_go_tr (gm_iload_n dX11_command_74 rfl) ?_
    refine gm_go_tr (gi_bipush dX11_command_75 (by decide +kernel)) ?_
    refine gm_go_tr (gi_icmp_ne_t (tgt := 95) dX11_command_77 (by decide) (by omega) (by omega) (by omega)) ?_
    refine gm_go_tr (gm_iload_n dX11_command_95 rfl) ?_
    refine gm_go_tr (gi_const dX11_command_96) ?_
    refine gm_go_tr (gi_icmp_ne_t (tgt := 112) dX11_command_97 (by decide) (by omega) (by omega) (by omega)) ?_
    refine gm_go_tr (gm_iload_n dX11_command_112 rfl) ?_
    refine gm_go_tr (gi_bipush dX11_command_113 (by decide +kernel)) ?_
    refine gm_go_tr (gi_icmp_ne_t (tgt := 133) dX11_command_115 (by decide) (by omega) (by omega) (by omega)) ?_
    exact gm_go_rf
  ·
    rw [if_neg c] at e1 ⊢
    refine gm_go_tr (gm_aload_n dX11_command_17 rfl (by first | exact Or.inl ⟨_, rfl⟩ | exact Or.inr ⟨_, rfl⟩)) ?_
    refine gm_go_tr (gm_iload_n dX11_command_18 rfl) ?_
    refine gm_go_tr (gi_const dX11_command_19) ?_
    refine gm_go_tr (gi_const dX11_command_20) ?_
    refine gm_go_tr (gm_cS dX11_command_21 (ct_mIsIn (by omega) (by decide) (by decide)) rfl mt_X11_isIn ms_X11_isIn (lk_X11_63 rfl) rfl (Nat.le_of_ble_eq_true rfl) (by decide)) ?_
    rw [zB_f (show ¬ ((1 : Int) ≤ (w : Int) ∧ (w : Int) ≤ 4) by omega)]
    refine gm_go_tr (gi_if_eq_t (tgt := 31) dX11_command_24 (by decide) (by decide) (by decide)) ?_
    refine gm_go_tr (gi_const dX11_command_31) ?_
    refine gm_go_tr (gm_cV dX11_command_32 (e1) rfl mt_X11_digits mv_X11_digits (lk_X11_232 rfl) (Or.inl ⟨_, 12, _, _, _, rfl, hM, rfl⟩) rfl (Nat.le_of_ble_eq_true rfl) (by decide)) ?_
    refine gm_go_tr (gm_istore (ls' := [_, _, _, _, _, _]) dX11_command_35 (by decide) rfl) ?_
    refine gm_go_tr (gm_iload_n dX11_command_37 rfl) ?_
    refine gm_go_tr (gi_const dX11_command_38) ?_
    refine gm_go_tr (gi_icmp_ne_t (tgt := 57) dX11_command_39 (by decide) (by omega) (by omega) (by omega)) ?_
    refine gm_go_tr (gm_iload_n dX11_command_57 rfl) ?_
    refine gm_go_tr (gi_const dX11_command_58) ?_
    refine gm_go_tr (gi_icmp_ne_t (tgt := 74) dX11_command_59 (by decide) (by omega) (by omega) (by omega)) ?_
    refine gm_go_tr (gm_iload_n dX11_command_74 rfl) ?_
    refine gm_go_tr (gi_bipush dX11_command_75 (by decide +kernel)) ?_
    refine gm_go_tr (gi_icmp_ne_t (tgt := 95) dX11_command_77 (by decide) (by omega) (by omega) (by omega)) ?_
    refine gm_go_tr (gm_iload_n dX11_command_95 rfl) ?_
    refine gm_go_tr (gi_const dX11_command_96) ?_
    refine gm_go_tr (gi_icmp_ne_t (tgt := 112) dX11_command_97 (by decide) (by omega) (by omega) (by omega)) ?_
    refine gm_go_tr (gm_iload_n dX11_command_112 rfl) ?_
    refine gm_go_tr (gi_bipush dX11_command_113 (by decide +kernel)) ?_
    refine gm_go_tr (gi_icmp_ne_t (tgt := 133) dX11_command_115 (by decide) (by omega) (by omega) (by omega)) ?_
    exact gm_go_rf
set_option maxRecDepth 4000 in
theorem cm_rB {h : gm_H} {m p L : Nat} {K X : Nat → Int} (hM : h.1[m]? = some (md_c m K)) (hX : h.1[m + 8]? = some (gA 60 X)) (hp : K 18 = (p : Int)) (hL : K 19 = (L : Int)) (ht : zTx X L) (hp9 : p ≤ 60) (hw : K 21 = 0) : ∃ h' K', gm_go mX11_command 7 (17, [some (.ref m), some (.int (zI 2)), some (.int (zI (0))), some (.int (zI (0))), none, none], [], h) (133, [some (.ref m), some (.int (zI 2)), some (.int (zI ((zMr X L 2 p).1.2.1))), some (.int (zI ((zMr X L 2 p).1.2.2))), some (.int (zI (zMr X L 2 p).1.1)), none], [], h') ∧ h'.1[m]? = some (md_c m K') ∧ kp K K' (zMr X L 2 p).2.1 (zMr X L 2 p).2.2 ∧ gh_fr h h' (fun k => k = m) := by
  have hL60 := ht.1
  obtain ⟨a1, K1, e1, e2, e3, e4⟩ := cd_1 hM hX hp hL ht hp9 hw (mx := 1) (by decide)
  have q1 := zD1_p (X := X) (L := L) (p := p) (mx := 1) hp9 ht.1
  cases c1 : (zD1 X L p 1).2.2
  ·
    rw [c1] at e3
    obtain ⟨a2, K2, g1, g2, g3, g4⟩ := cd_3 e2 (gh_at e4 hX (by omega)) e3.1 ((e3.2.2 19 (by decide) (by decide)).trans hL) ht q1 e3.2.1
    have zr : zMr X L 2 p = (((zD1 X L p 1).1, ((zD3 X L (zD1 X L p 1).2.1).1, 0)), (zD3 X L (zD1 X L p 1).2.1).2) := by unfold zMr; rw [if_neg (by decide), if_pos rfl]; rw [if_neg (by rw [c1]; decide)]
    rw [zr]
    refine ⟨a2, K2, ?_, g2, kp_tr e3 g3, gh_tr e4 g4⟩
    refine gm_go_tr (gm_aload_n dX11_command_17 rfl (by first | exact Or.inl ⟨_, rfl⟩ | exact Or.inr ⟨_, rfl⟩)) ?_
    refine gm_go_tr (gm_iload_n dX11_command_18 rfl) ?_
    refine gm_go_tr (gi_const dX11_command_19) ?_
    refine gm_go_tr (gi_const dX11_command_20) ?_
    refine gm_go_tr (gm_cS dX11_command_21 (ct_mIsIn (by decide) (by decide) (by decide)) rfl mt_X11_isIn ms_X11_isIn (lk_X11_63 rfl) rfl (Nat.le_of_ble_eq_true rfl) (by decide)) ?_
    rw [zB_t (by decide)]
    refine gm_go_tr (gi_if_eq_f 31 dX11_command_24 (by decide) (by decide) (by decide)) ?_
    refine gm_go_tr (gi_const dX11_command_27) ?_
    refine gm_go_tr (gm_goto (tgt := 32) dX11_command_28 (by decide)) ?_
    refine gm_go_tr (gm_cV dX11_command_32 (e1) rfl mt_X11_digits mv_X11_digits (lk_X11_232 rfl) (Or.inl ⟨_, 12, _, _, _, rfl, hM, rfl⟩) rfl (Nat.le_of_ble_eq_true rfl) (by decide)) ?_
    refine gm_go_tr (gm_istore (ls' := [_, _, _, _, _, _]) dX11_command_35 (by decide) rfl) ?_
    refine gm_go_tr (gm_iload_n dX11_command_37 rfl) ?_
    refine gm_go_tr (gi_const dX11_command_38) ?_
    refine gm_go_tr (gi_icmp_ne_t (tgt := 57) dX11_command_39 (by decide) (by decide) (by decide) (by decide)) ?_
    refine gm_go_tr (gm_iload_n dX11_command_57 rfl) ?_
    refine gm_go_tr (gi_const dX11_command_58) ?_
    refine gm_go_tr (gi_icmp_ne_f 74 dX11_command_59 (by decide) (by decide) (by decide) (by decide)) ?_
    refine gm_go_tr (gm_aload_n dX11_command_62 rfl (by first | exact Or.inl ⟨_, rfl⟩ | exact Or.inr ⟨_, rfl⟩)) ?_
    refine gm_go_tr (gm_get dX11_command_63 (fl_X11_222 rfl) e2 rfl) ?_
    rw [e3.2.1]
    refine gm_go_tr (gi_if_ne_f 74 dX11_command_66 (by decide) (by decide) (by decide)) ?_
    refine gm_go_tr (gm_aload_n dX11_command_69 rfl (by first | exact Or.inl ⟨_, rfl⟩ | exact Or.inr ⟨_, rfl⟩)) ?_
    refine gm_go_tr (gm_cV dX11_command_70 (g1) rfl mt_X11_degrees mv_X11_degrees (lk_X11_241 rfl) (Or.inl ⟨_, 12, _, _, _, rfl, e2, rfl⟩) rfl (Nat.le_of_ble_eq_true rfl) (by decide)) ?_
    refine gm_go_tr (gm_istore_n (ls' := [_, _, _, _, _, _]) dX11_command_73 (by decide) rfl) ?_
    refine gm_go_tr (gm_iload_n dX11_command_74 rfl) ?_
    refine gm_go_tr (gi_bipush dX11_command_75 (by decide +kernel)) ?_
    refine gm_go_tr (gi_icmp_ne_t (tgt := 95) dX11_command_77 (by decide) (by decide) (by decide) (by decide)) ?_
    refine gm_go_tr (gm_iload_n dX11_command_95 rfl) ?_
    refine gm_go_tr (gi_const dX11_command_96) ?_
    refine gm_go_tr (gi_icmp_ne_t (tgt := 112) dX11_command_97 (by decide) (by decide) (by decide) (by decide)) ?_
    refine gm_go_tr (gm_iload_n dX11_command_112 rfl) ?_
    refine gm_go_tr (gi_bipush dX11_command_113 (by decide +kernel)) ?_
    refine gm_go_tr (gi_icmp_ne_t (tgt := 133) dX11_command_115 (by decide) (by decide) (by decide) (by decide)) ?_
    exact gm_go_rf
  ·
    rw [c1] at e3
    have zr : zMr X L 2 p = (((zD1 X L p 1).1, (0, 0)), (zD1 X L p 1).2) := by unfold zMr; rw [if_neg (by decide), if_pos rfl]; rw [if_pos c1]
    rw [zr]
    refine ⟨a1, K1, ?_, e2, by rw [show ((((zD1 X L p 1).1, (0, 0)), (zD1 X L p 1).2) : (Int × (Int × Int)) × (Nat × Bool)).2.2 = true from c1]; exact e3, e4⟩
    refine gm_go_tr (gm_aload_n dX11_command_17 rfl (by first | exact Or.inl ⟨_, rfl⟩ | exact Or.inr ⟨_, rfl⟩)) ?_
    refine gm_go_tr (gm_iload_n dX11_command_18 rfl) ?_
    refine gm_go_tr (gi_const dX11_command_19) ?_
    refine gm_go_tr (gi_const dX11_command_20) ?_
    refine gm_go_tr (gm_cS dX11_command_21 (ct_mIsIn (by decide) (by decide) (by decide)) rfl mt_X11_isIn ms_X11_isIn (lk_X11_63 rfl) rfl (Nat.le_of_ble_eq_true rfl) (by decide)) ?_
    rw [zB_t (by decide)]
    refine gm_go_tr (gi_if_eq_f 31 dX11_command_24 (by decide) (by decide) (by decide)) ?_
    refine gm_go_tr (gi_const dX11_command_27) ?_
    refine gm_go_tr (gm_goto (tgt := 32) dX11_command_28 (by decide)) ?_
    refine gm_go_tr (gm_cV dX11_command_32 (e1) rfl mt_X11_digits mv_X11_digits (lk_X11_232 rfl) (Or.inl ⟨_, 12, _, _, _, rfl, hM, rfl⟩) rfl (Nat.le_of_ble_eq_true rfl) (by decide)) ?_
    refine gm_go_tr (gm_istore (ls' := [_, _, _, _, _, _]) dX11_command_35 (by decide) rfl) ?_
    refine gm_go_tr (gm_iload_n dX11_command_37 rfl) ?_
    refine gm_go_tr (gi_const dX11_command_38) ?_
    refine gm_go_tr (gi_icmp_ne_t (tgt := 57) dX11_command_39 (by decide) (by decide) (by decide) (by decide)) ?_
    refine gm_go_tr (gm_iload_n dX11_command_57 rfl) ?_
    refine gm_go_tr (gi_const dX11_command_58) ?_
    refine gm_go_tr (gi_icmp_ne_f 74 dX11_command_59 (by decide) (by decide) (by decide) (by decide)) ?_
    refine gm_go_tr (gm_aload_n dX11_command_62 rfl (by first | exact Or.inl ⟨_, rfl⟩ | exact Or.inr ⟨_, rfl⟩)) ?_
    refine gm_go_tr (gm_get dX11_command_63 (fl_X11_222 rfl) e2 rfl) ?_
    rw [e3.2.1]
    refine gm_go_tr (gi_if_ne_t (tgt := 74) dX11_command_66 (by decide) (by decide) (by decide)) ?_
    refine gm_go_tr (gm_iload_n dX11_command_74 rfl) ?_
    refine gm_go_tr (gi_bipush dX11_command_75 (by decide +kernel)) ?_
    refine gm_go_tr (gi_icmp_ne_t (tgt := 95) dX11_command_77 (by decide) (by decide) (by decide) (by decide)) ?_
    refine gm_go_tr (gm_iload_n dX11_command_95 rfl) ?_
    refine gm_go_tr (gi_const dX11_command_96) ?_
    refine gm_go_tr (gi_icmp_ne_t (tgt := 112) dX11_command_97 (by decide) (by decide) (by decide) (by decide)) ?_
    refine gm_go_tr (gm_iload_n dX11_command_112 rfl) ?_
    refine gm_go_tr (gi_bipush dX11_command_113 (by decide +kernel)) ?_
    refine gm_go_tr (gi_icmp_ne_t (tgt := 133) dX11_command_115 (by decide) (by decide) (by decide) (by decide)) ?_
    exact gm_go_rf
set_option maxRecDepth 4000 in
theorem cm_rC {h : gm_H} {m p L : Nat} {K X : Nat → Int} (hM : h.1[m]? = some (md_c m K)) (hX : h.1[m + 8]? = some (gA 60 X)) (hp : K 18 = (p : Int)) (hL : K 19 = (L : Int)) (ht : zTx X L) (hp9 : p ≤ 60) (hw : K 21 = 0) : ∃ h' K', gm_go mX11_command 7 (17, [some (.ref m), some (.int (zI 1)), some (.int (zI (0))), some (.int (zI (0))), none, none], [], h) (133, [some (.ref m), some (.int (zI 1)), some (.int (zI ((zMr X L 1 p).1.2.1))), some (.int (zI ((zMr X L 1 p).1.2.2))), some (.int (zI (zMr X L 1 p).1.1)), none], [], h') ∧ h'.1[m]? = some (md_c m K') ∧ kp K K' (zMr X L 1 p).2.1 (zMr X L 1 p).2.2 ∧ gh_fr h h' (fun k => k = m) := by
  have hL60 := ht.1
  obtain ⟨a1, K1, e1, e2, e3, e4⟩ := cd_1 hM hX hp hL ht hp9 hw (mx := 1) (by decide)
  have q1 := zD1_p (X := X) (L := L) (p := p) (mx := 1) hp9 ht.1
  cases c1 : (zD1 X L p 1).2.2
  ·
    rw [c1] at e3
    obtain ⟨a2, K2, g1, g2, g3, g4⟩ := cd_2 e2 (gh_at e4 hX (by omega)) e3.1 ((e3.2.2 19 (by decide) (by decide)).trans hL) ht q1 e3.2.1 (x := 32) (by decide) (mx := 1) (by decide)
    have q2 := zD2_p (X := X) (L := L) (p := (zD1 X L p 1).2.1) (c := 32) (mx := 1) q1 ht.1
    cases c2 : (zD2 X L (zD1 X L p 1).2.1 32 1).2.2
    ·
      rw [c2] at g3
      have g5 := kp_tr e3 g3
      have f2 := gh_tr e4 g4
      obtain ⟨a3, K3, i1, i2, i3, i4⟩ := cd_3 g2 (gh_at f2 hX (by omega)) g5.1 ((g5.2.2 19 (by decide) (by decide)).trans hL) ht q2 g5.2.1
      have zr : zMr X L 1 p = (((zD1 X L p 1).1, ((zD2 X L (zD1 X L p 1).2.1 32 1).1, (zD3 X L (zD2 X L (zD1 X L p 1).2.1 32 1).2.1).1)), (zD3 X L (zD2 X L (zD1 X L p 1).2.1 32 1).2.1).2) := by unfold zMr; rw [if_pos rfl]; rw [if_neg (by rw [c1]; decide), if_neg (by rw [c2]; decide)]
      rw [zr]
      refine ⟨a3, K3, ?_, i2, kp_tr g5 i3, gh_tr f2 i4⟩
      refine gm_go_tr (gm_aload_n dX11_command_17 rfl (by first | exact Or.inl ⟨_, rfl⟩ | exact Or.inr ⟨_, rfl⟩)) ?_
      refine gm_go_tr (gm_iload_n dX11_command_18 rfl) ?_
      refine gm_go_tr (gi_const dX11_command_19) ?_
      refine gm_go_tr (gi_const dX11_command_20) ?_
      refine gm_go_tr (gm_cS dX11_command_21 (ct_mIsIn (by decide) (by decide) (by decide)) rfl mt_X11_isIn ms_X11_isIn (lk_X11_63 rfl) rfl (Nat.le_of_ble_eq_true rfl) (by decide)) ?_
      rw [zB_t (by decide)]
      refine gm_go_tr (gi_if_eq_f 31 dX11_command_24 (by decide) (by decide) (by decide)) ?_
      refine gm_go_tr (gi_const dX11_command_27) ?_
      refine gm_go_tr (gm_goto (tgt := 32) dX11_command_28 (by decide)) ?_
      refine gm_go_tr (gm_cV dX11_command_32 (e1) rfl mt_X11_digits mv_X11_digits (lk_X11_232 rfl) (Or.inl ⟨_, 12, _, _, _, rfl, hM, rfl⟩) rfl (Nat.le_of_ble_eq_true rfl) (by decide)) ?_
      refine gm_go_tr (gm_istore (ls' := [_, _, _, _, _, _]) dX11_command_35 (by decide) rfl) ?_
      refine gm_go_tr (gm_iload_n dX11_command_37 rfl) ?_
      refine gm_go_tr (gi_const dX11_command_38) ?_
      refine gm_go_tr (gi_icmp_ne_f 57 dX11_command_39 (by decide) (by decide) (by decide) (by decide)) ?_
      refine gm_go_tr (gm_aload_n dX11_command_42 rfl (by first | exact Or.inl ⟨_, rfl⟩ | exact Or.inr ⟨_, rfl⟩)) ?_
      refine gm_go_tr (gm_get dX11_command_43 (fl_X11_222 rfl) e2 rfl) ?_
      rw [e3.2.1]
      refine gm_go_tr (gi_if_ne_f 57 dX11_command_46 (by decide) (by decide) (by decide)) ?_
      refine gm_go_tr (gm_aload_n dX11_command_49 rfl (by first | exact Or.inl ⟨_, rfl⟩ | exact Or.inr ⟨_, rfl⟩)) ?_
      refine gm_go_tr (gi_bipush dX11_command_50 (by decide +kernel)) ?_
      refine gm_go_tr (gi_const dX11_command_52) ?_
      refine gm_go_tr (gm_cV dX11_command_53 (g1) rfl mt_X11_behind mv_X11_behind (lk_X11_238 rfl) (Or.inl ⟨_, 12, _, _, _, rfl, e2, rfl⟩) rfl (Nat.le_of_ble_eq_true rfl) (by decide)) ?_
      refine gm_go_tr (gm_istore_n (ls' := [_, _, _, _, _, _]) dX11_command_56 (by decide) rfl) ?_
      refine gm_go_tr (gm_iload_n dX11_command_57 rfl) ?_
      refine gm_go_tr (gi_const dX11_command_58) ?_
      refine gm_go_tr (gi_icmp_ne_t (tgt := 74) dX11_command_59 (by decide) (by decide) (by decide) (by decide)) ?_
      refine gm_go_tr (gm_iload_n dX11_command_74 rfl) ?_
      refine gm_go_tr (gi_bipush dX11_command_75 (by decide +kernel)) ?_
      refine gm_go_tr (gi_icmp_ne_t (tgt := 95) dX11_command_77 (by decide) (by decide) (by decide) (by decide)) ?_
      refine gm_go_tr (gm_iload_n dX11_command_95 rfl) ?_
      refine gm_go_tr (gi_const dX11_command_96) ?_
      refine gm_go_tr (gi_icmp_ne_f 112 dX11_command_97 (by decide) (by decide) (by decide) (by decide)) ?_
      refine gm_go_tr (gm_aload_n dX11_command_100 rfl (by first | exact Or.inl ⟨_, rfl⟩ | exact Or.inr ⟨_, rfl⟩)) ?_
      refine gm_go_tr (gm_get dX11_command_101 (fl_X11_222 rfl) g2 rfl) ?_
      rw [g5.2.1]
      refine gm_go_tr (gi_if_ne_f 112 dX11_command_104 (by decide) (by decide) (by decide)) ?_
      refine gm_go_tr (gm_aload_n dX11_command_107 rfl (by first | exact Or.inl ⟨_, rfl⟩ | exact Or.inr ⟨_, rfl⟩)) ?_
      refine gm_go_tr (gm_cV dX11_command_108 (i1) rfl mt_X11_degrees mv_X11_degrees (lk_X11_241 rfl) (Or.inl ⟨_, 12, _, _, _, rfl, g2, rfl⟩) rfl (Nat.le_of_ble_eq_true rfl) (by decide)) ?_
      refine gm_go_tr (gm_istore_n (ls' := [_, _, _, _, _, _]) dX11_command_111 (by decide) rfl) ?_
      refine gm_go_tr (gm_iload_n dX11_command_112 rfl) ?_
      refine gm_go_tr (gi_bipush dX11_command_113 (by decide +kernel)) ?_
      refine gm_go_tr (gi_icmp_ne_t (tgt := 133) dX11_command_115 (by decide) (by decide) (by decide) (by decide)) ?_
      exact gm_go_rf
    ·
      rw [c2] at g3
      have g5 := kp_tr e3 g3
      have zr : zMr X L 1 p = (((zD1 X L p 1).1, ((zD2 X L (zD1 X L p 1).2.1 32 1).1, 0)), (zD2 X L (zD1 X L p 1).2.1 32 1).2) := by unfold zMr; rw [if_pos rfl]; rw [if_neg (by rw [c1]; decide), if_pos c2]
      rw [zr]
      refine ⟨a2, K2, ?_, g2, by rw [show ((((zD1 X L p 1).1, ((zD2 X L (zD1 X L p 1).2.1 32 1).1, 0)), (zD2 X L (zD1 X L p 1).2.1 32 1).2) : (Int × (Int × Int)) × (Nat × Bool)).2.2 = true from c2]; exact g5, gh_tr e4 g4⟩
      refine gm_go_tr (gm_aload_n dX11_command_17 rfl (by first | exact Or.inl ⟨_, rfl⟩ | exact Or.inr ⟨_, rfl⟩)) ?_
      refine gm_go_tr (gm_iload_n dX11_command_18 rfl) ?_
      refine gm_go_tr (gi_const dX11_command_19) ?_
      refine gm_go_tr (gi_const dX11_command_20) ?_
      refine gm_go_tr (gm_cS dX11_command_21 (ct_mIsIn (by decide) (by decide) (by decide)) rfl mt_X11_isIn ms_X11_isIn (lk_X11_63 rfl) rfl (Nat.le_of_ble_eq_true rfl) (by decide)) ?_
      rw [zB_t (by decide)]
      refine gm_go_tr (gi_if_eq_f 31 dX11_command_24 (by decide) (by decide) (by decide)) ?_
      refine gm_go_tr (gi_const dX11_command_27) ?_
      refine gm_go_tr (gm_goto (tgt := 32) dX11_command_28 (by decide)) ?_
      refine gm_go_tr (gm_cV dX11_command_32 (e1) rfl mt_X11_digits mv_X11_digits (lk_X11_232 rfl) (Or.inl ⟨_, 12, _, _, _, rfl, hM, rfl⟩) rfl (Nat.le_of_ble_eq_true rfl) (by decide)) ?_
      refine gm_go_tr (gm_istore (ls' := [_, _, _, _, _, _]) dX11_command_35 (by decide) rfl) ?_
      refine gm_go_tr (gm_iload_n dX11_command_37 rfl) ?_
      refine gm_go_tr (gi_const dX11_command_38) ?_
      refine gm_go_tr (gi_icmp_ne_f 57 dX11_command_39 (by decide) (by decide) (by decide) (by decide)) ?_
      refine gm_go_tr (gm_aload_n dX11_command_42 rfl (by first | exact Or.inl ⟨_, rfl⟩ | exact Or.inr ⟨_, rfl⟩)) ?_
      refine gm_go_tr (gm_get dX11_command_43 (fl_X11_222 rfl) e2 rfl) ?_
      rw [e3.2.1]
      refine gm_go_tr (gi_if_ne_f 57 dX11_command_46 (by decide) (by decide) (by decide)) ?_
      refine gm_go_tr (gm_aload_n dX11_command_49 rfl (by first | exact Or.inl ⟨_, rfl⟩ | exact Or.inr ⟨_, rfl⟩)) ?_
      refine gm_go_tr (gi_bipush dX11_command_50 (by decide +kernel)) ?_
      refine gm_go_tr (gi_const dX11_command_52) ?_
      refine gm_go_tr (gm_cV dX11_command_53 (g1) rfl mt_X11_behind mv_X11_behind (lk_X11_238 rfl) (Or.inl ⟨_, 12, _, _, _, rfl, e2, rfl⟩) rfl (Nat.le_of_ble_eq_true rfl) (by decide)) ?_
      refine gm_go_tr (gm_istore_n (ls' := [_, _, _, _, _, _]) dX11_command_56 (by decide) rfl) ?_
      refine gm_go_tr (gm_iload_n dX11_command_57 rfl) ?_
      refine gm_go_tr (gi_const dX11_command_58) ?_
      refine gm_go_tr (gi_icmp_ne_t (tgt := 74) dX11_command_59 (by decide) (by decide) (by decide) (by decide)) ?_
      refine gm_go_tr (gm_iload_n dX11_command_74 rfl) ?_
      refine gm_go_tr (gi_bipush dX11_command_75 (by decide +kernel)) ?_
      refine gm_go_tr (gi_icmp_ne_t (tgt := 95) dX11_command_77 (by decide) (by decide) (by decide) (by decide)) ?_
      refine gm_go_tr (gm_iload_n dX11_command_95 rfl) ?_
      refine gm_go_tr (gi_const dX11_command_96) ?_
      refine gm_go_tr (gi_icmp_ne_f 112 dX11_command_97 (by decide) (by decide) (by decide) (by decide)) ?_
      refine gm_go_tr (gm_aload_n dX11_command_100 rfl (by first | exact Or.inl ⟨_, rfl⟩ | exact Or.inr ⟨_, rfl⟩)) ?_
      refine gm_go_tr (gm_get dX11_command_101 (fl_X11_222 rfl) g2 rfl) ?_
      rw [g5.2.1]
      refine gm_go_tr (gi_if_ne_t (tgt := 112) dX11_command_104 (by decide) (by decide) (by decide)) ?_
      refine gm_go_tr (gm_iload_n dX11_command_112 rfl) ?_
      refine gm_go_tr (gi_bipush dX11_command_113 (by decide +kernel)) ?_
      refine gm_go_tr (gi_icmp_ne_t (tgt := 133) dX11_command_115 (by decide) (by decide) (by decide) (by decide)) ?_
      exact gm_go_rf
  ·
    rw [c1] at e3
    have zr : zMr X L 1 p = (((zD1 X L p 1).1, (0, 0)), (zD1 X L p 1).2) := by unfold zMr; rw [if_pos rfl]; rw [if_pos c1]
    rw [zr]
    refine ⟨a1, K1, ?_, e2, by rw [show ((((zD1 X L p 1).1, (0, 0)), (zD1 X L p 1).2) : (Int × (Int × Int)) × (Nat × Bool)).2.2 = true from c1]; exact e3, e4⟩
    refine gm_go_tr (gm_aload_n dX11_command_17 rfl (by first | exact Or.inl ⟨_, rfl⟩ | exact Or.inr ⟨_, rfl⟩)) ?_
    refine gm_go_tr (gm_iload_n dX11_command_18 rfl) ?_
    refine gm_go_tr (gi_const dX11_command_19) ?_
    refine gm_go_tr (gi_const dX11_command_20) ?_
    refine gm_go_tr (gm_cS dX11_command_21 (ct_mIsIn (by decide) (by decide) (by decide)) rfl mt_X11_isIn ms_X11_isIn (lk_X11_63 rfl) rfl (Nat.le_of_ble_eq_true rfl) (by decide)) ?_
    rw [zB_t (by decide)]
    refine gm_go_tr (gi_if_eq_f 31 dX11_command_24 (by decide) (by decide) (by decide)) ?_
    refine gm_go_tr (gi_const dX11_command_27) ?_
    refine gm_go_tr (gm_goto (tgt := 32) dX11_command_28 (by decide)) ?_
    refine gm_go_tr (gm_cV dX11_command_32 (e1) rfl mt_X11_digits mv_X11_digits (lk_X11_232 rfl) (Or.inl ⟨_, 12, _, _, _, rfl, hM, rfl⟩) rfl (Nat.le_of_ble_eq_true rfl) (by decide)) ?_
    refine gm_go_tr (gm_istore (ls' := [_, _, _, _, _, _]) dX11_command_35 (by decide) rfl) ?_
    refine gm_go_tr (gm_iload_n dX11_command_37 rfl) ?_
    refine gm_go_tr (gi_const dX11_command_38) ?_
    refine gm_go_tr (gi_icmp_ne_f 57 dX11_command_39 (by decide) (by decide) (by decide) (by decide)) ?_
    refine gm_go_tr (gm_aload_n dX11_command_42 rfl (by first | exact Or.inl ⟨_, rfl⟩ | exact Or.inr ⟨_, rfl⟩)) ?_
    refine gm_go_tr (gm_get dX11_command_43 (fl_X11_222 rfl) e2 rfl) ?_
    rw [e3.2.1]
    refine gm_go_tr (gi_if_ne_t (tgt := 57) dX11_command_46 (by decide) (by decide) (by decide)) ?_
    refine gm_go_tr (gm_iload_n dX11_command_57 rfl) ?_
    refine gm_go_tr (gi_const dX11_command_58) ?_
    refine gm_go_tr (gi_icmp_ne_t (tgt := 74) dX11_command_59 (by decide) (by decide) (by decide) (by decide)) ?_
    refine gm_go_tr (gm_iload_n dX11_command_74 rfl) ?_
    refine gm_go_tr (gi_bipush dX11_command_75 (by decide +kernel)) ?_
    refine gm_go_tr (gi_icmp_ne_t (tgt := 95) dX11_command_77 (by decide) (by decide) (by decide) (by decide)) ?_
    refine gm_go_tr (gm_iload_n dX11_command_95 rfl) ?_
    refine gm_go_tr (gi_const dX11_command_96) ?_
    refine gm_go_tr (gi_icmp_ne_f 112 dX11_command_97 (by decide) (by decide) (by decide) (by decide)) ?_
    refine gm_go_tr (gm_aload_n dX11_command_100 rfl (by first | exact Or.inl ⟨_, rfl⟩ | exact Or.inr ⟨_, rfl⟩)) ?_
    refine gm_go_tr (gm_get dX11_command_101 (fl_X11_222 rfl) e2 rfl) ?_
    rw [e3.2.1]
    refine gm_go_tr (gi_if_ne_t (tgt := 112) dX11_command_104 (by decide) (by decide) (by decide)) ?_
    refine gm_go_tr (gm_iload_n dX11_command_112 rfl) ?_
    refine gm_go_tr (gi_bipush dX11_command_113 (by decide +kernel)) ?_
    refine gm_go_tr (gi_icmp_ne_t (tgt := 133) dX11_command_115 (by decide) (by decide) (by decide) (by decide)) ?_
    exact gm_go_rf
set_option maxRecDepth 4000 in
theorem cm_rD {h : gm_H} {m p L : Nat} {K X : Nat → Int} (hM : h.1[m]? = some (md_c m K)) (hX : h.1[m + 8]? = some (gA 60 X)) (hp : K 18 = (p : Int)) (hL : K 19 = (L : Int)) (ht : zTx X L) (hp9 : p ≤ 60) (hw : K 21 = 0) : ∃ h' K', gm_go mX11_command 7 (17, [some (.ref m), some (.int (zI 6)), some (.int (zI (0))), some (.int (zI (0))), none, none], [], h) (133, [some (.ref m), some (.int (zI 6)), some (.int (zI ((zMr X L 6 p).1.2.1))), some (.int (zI ((zMr X L 6 p).1.2.2))), some (.int (zI (zMr X L 6 p).1.1)), none], [], h') ∧ h'.1[m]? = some (md_c m K') ∧ kp K K' (zMr X L 6 p).2.1 (zMr X L 6 p).2.2 ∧ gh_fr h h' (fun k => k = m) := by
  have hL60 := ht.1
  obtain ⟨a1, K1, e1, e2, e3, e4⟩ := cd_1 hM hX hp hL ht hp9 hw (mx := 3) (by decide)
  have q1 := zD1_p (X := X) (L := L) (p := p) (mx := 3) hp9 ht.1
  cases c1 : (zD1 X L p 3).2.2
  ·
    rw [c1] at e3
    obtain ⟨a2, K2, g1, g2, g3, g4⟩ := cd_2 e2 (gh_at e4 hX (by omega)) e3.1 ((e3.2.2 19 (by decide) (by decide)).trans hL) ht q1 e3.2.1 (x := 47) (by decide) (mx := 3) (by decide)
    have q2 := zD2_p (X := X) (L := L) (p := (zD1 X L p 3).2.1) (c := 47) (mx := 3) q1 ht.1
    cases c2 : (zD2 X L (zD1 X L p 3).2.1 47 3).2.2
    ·
      rw [c2] at g3
      have g5 := kp_tr e3 g3
      have f2 := gh_tr e4 g4
      obtain ⟨a3, K3, i1, i2, i3, i4⟩ := cd_2 g2 (gh_at f2 hX (by omega)) g5.1 ((g5.2.2 19 (by decide) (by decide)).trans hL) ht q2 g5.2.1 (x := 32) (by decide) (mx := 1) (by decide)
      have zr : zMr X L 6 p = (((zD1 X L p 3).1, ((zD2 X L (zD1 X L p 3).2.1 47 3).1, (zD2 X L (zD2 X L (zD1 X L p 3).2.1 47 3).2.1 32 1).1)), (zD2 X L (zD2 X L (zD1 X L p 3).2.1 47 3).2.1 32 1).2) := by unfold zMr; rw [if_neg (by decide), if_neg (by decide), if_pos rfl]; rw [if_neg (by rw [c1]; decide), if_neg (by rw [c2]; decide)]
      rw [zr]
      refine ⟨a3, K3, ?_, i2, kp_tr g5 i3, gh_tr f2 i4⟩
      refine gm_go_tr (gm_aload_n dX11_command_17 rfl (by first | exact Or.inl ⟨_, rfl⟩ | exact Or.inr ⟨_, rfl⟩)) ?_
      refine gm_go_tr (gm_iload_n dX11_command_18 rfl) ?_
      refine gm_go_tr (gi_const dX11_command_19) ?_
      refine gm_go_tr (gi_const dX11_command_20) ?_
      refine gm_go_tr (gm_cS dX11_command_21 (ct_mIsIn (by decide) (by decide) (by decide)) rfl mt_X11_isIn ms_X11_isIn (lk_X11_63 rfl) rfl (Nat.le_of_ble_eq_true rfl) (by decide)) ?_
      rw [zB_f (by decide)]
      refine gm_go_tr (gi_if_eq_t (tgt := 31) dX11_command_24 (by decide) (by decide) (by decide)) ?_
      refine gm_go_tr (gi_const dX11_command_31) ?_
      refine gm_go_tr (gm_cV dX11_command_32 (e1) rfl mt_X11_digits mv_X11_digits (lk_X11_232 rfl) (Or.inl ⟨_, 12, _, _, _, rfl, hM, rfl⟩) rfl (Nat.le_of_ble_eq_true rfl) (by decide)) ?_
      refine gm_go_tr (gm_istore (ls' := [_, _, _, _, _, _]) dX11_command_35 (by decide) rfl) ?_
      refine gm_go_tr (gm_iload_n dX11_command_37 rfl) ?_
      refine gm_go_tr (gi_const dX11_command_38) ?_
      refine gm_go_tr (gi_icmp_ne_t (tgt := 57) dX11_command_39 (by decide) (by decide) (by decide) (by decide)) ?_
      refine gm_go_tr (gm_iload_n dX11_command_57 rfl) ?_
      refine gm_go_tr (gi_const dX11_command_58) ?_
      refine gm_go_tr (gi_icmp_ne_t (tgt := 74) dX11_command_59 (by decide) (by decide) (by decide) (by decide)) ?_
      refine gm_go_tr (gm_iload_n dX11_command_74 rfl) ?_
      refine gm_go_tr (gi_bipush dX11_command_75 (by decide +kernel)) ?_
      refine gm_go_tr (gi_icmp_ne_f 95 dX11_command_77 (by decide) (by decide) (by decide) (by decide)) ?_
      refine gm_go_tr (gm_aload_n dX11_command_80 rfl (by first | exact Or.inl ⟨_, rfl⟩ | exact Or.inr ⟨_, rfl⟩)) ?_
      refine gm_go_tr (gm_get dX11_command_81 (fl_X11_222 rfl) e2 rfl) ?_
      rw [e3.2.1]
      refine gm_go_tr (gi_if_ne_f 95 dX11_command_84 (by decide) (by decide) (by decide)) ?_
      refine gm_go_tr (gm_aload_n dX11_command_87 rfl (by first | exact Or.inl ⟨_, rfl⟩ | exact Or.inr ⟨_, rfl⟩)) ?_
      refine gm_go_tr (gi_bipush dX11_command_88 (by decide +kernel)) ?_
      refine gm_go_tr (gi_const dX11_command_90) ?_
      refine gm_go_tr (gm_cV dX11_command_91 (g1) rfl mt_X11_behind mv_X11_behind (lk_X11_238 rfl) (Or.inl ⟨_, 12, _, _, _, rfl, e2, rfl⟩) rfl (Nat.le_of_ble_eq_true rfl) (by decide)) ?_
      refine gm_go_tr (gm_istore_n (ls' := [_, _, _, _, _, _]) dX11_command_94 (by decide) rfl) ?_
      refine gm_go_tr (gm_iload_n dX11_command_95 rfl) ?_
      refine gm_go_tr (gi_const dX11_command_96) ?_
      refine gm_go_tr (gi_icmp_ne_t (tgt := 112) dX11_command_97 (by decide) (by decide) (by decide) (by decide)) ?_
      refine gm_go_tr (gm_iload_n dX11_command_112 rfl) ?_
      refine gm_go_tr (gi_bipush dX11_command_113 (by decide +kernel)) ?_
      refine gm_go_tr (gi_icmp_ne_f 133 dX11_command_115 (by decide) (by decide) (by decide) (by decide)) ?_
      refine gm_go_tr (gm_aload_n dX11_command_118 rfl (by first | exact Or.inl ⟨_, rfl⟩ | exact Or.inr ⟨_, rfl⟩)) ?_
      refine gm_go_tr (gm_get dX11_command_119 (fl_X11_222 rfl) g2 rfl) ?_
      rw [g5.2.1]
      refine gm_go_tr (gi_if_ne_f 133 dX11_command_122 (by decide) (by decide) (by decide)) ?_
      refine gm_go_tr (gm_aload_n dX11_command_125 rfl (by first | exact Or.inl ⟨_, rfl⟩ | exact Or.inr ⟨_, rfl⟩)) ?_
      refine gm_go_tr (gi_bipush dX11_command_126 (by decide +kernel)) ?_
      refine gm_go_tr (gi_const dX11_command_128) ?_
      refine gm_go_tr (gm_cV dX11_command_129 (i1) rfl mt_X11_behind mv_X11_behind (lk_X11_238 rfl) (Or.inl ⟨_, 12, _, _, _, rfl, g2, rfl⟩) rfl (Nat.le_of_ble_eq_true rfl) (by decide)) ?_
      refine gm_go_tr (gm_istore_n (ls' := [_, _, _, _, _, _]) dX11_command_132 (by decide) rfl) ?_
      exact gm_go_rf
    ·
      rw [c2] at g3
      have g5 := kp_tr e3 g3
      have zr : zMr X L 6 p = (((zD1 X L p 3).1, ((zD2 X L (zD1 X L p 3).2.1 47 3).1, 0)), (zD2 X L (zD1 X L p 3).2.1 47 3).2) := by unfold zMr; rw [if_neg (by decide), if_neg (by decide), if_pos rfl]; rw [if_neg (by rw [c1]; decide), if_pos c2]
      rw [zr]
      refine ⟨a2, K2, ?_, g2, by rw [show ((((zD1 X L p 3).1, ((zD2 X L (zD1 X L p 3).2.1 47 3).1, 0)), (zD2 X L (zD1 X L p 3).2.1 47 3).2) : (Int × (Int × Int)) × (Nat × Bool)).2.2 = true from c2]; exact g5, gh_tr e4 g4⟩
      refine gm_go_tr (gm_aload_n dX11_command_17 rfl (by first | exact Or.inl ⟨_, rfl⟩ | exact Or.inr ⟨_, rfl⟩)) ?_
      refine gm_go_tr (gm_iload_n dX11_command_18 rfl) ?_
      refine gm_go_tr (gi_const dX11_command_19) ?_
      refine gm_go_tr (gi_const dX11_command_20) ?_
      refine gm_go_tr (gm_cS dX11_command_21 (ct_mIsIn (by decide) (by decide) (by decide)) rfl mt_X11_isIn ms_X11_isIn (lk_X11_63 rfl) rfl (Nat.le_of_ble_eq_true rfl) (by decide)) ?_
      rw [zB_f (by decide)]
      refine gm_go_tr (gi_if_eq_t (tgt := 31) dX11_command_24 (by decide) (by decide) (by decide)) ?_
      refine gm_go_tr (gi_const dX11_command_31) ?_
      refine gm_go_tr (gm_cV dX11_command_32 (e1) rfl mt_X11_digits mv_X11_digits (lk_X11_232 rfl) (Or.inl ⟨_, 12, _, _, _, rfl, hM, rfl⟩) rfl (Nat.le_of_ble_eq_true rfl) (by decide)) ?_
      refine gm_go_tr (gm_istore (ls' := [_, _, _, _, _, _]) dX11_command_35 (by decide) rfl) ?_
      refine gm_go_tr (gm_iload_n dX11_command_37 rfl) ?_
      refine gm_go_tr (gi_const dX11_command_38) ?_
      refine gm_go_tr (gi_icmp_ne_t (tgt := 57) dX11_command_39 (by decide) (by decide) (by decide) (by decide)) ?_
      refine gm_go_tr (gm_iload_n dX11_command_57 rfl) ?_
      refine gm_go_tr (gi_const dX11_command_58) ?_
      refine gm_go_tr (gi_icmp_ne_t (tgt := 74) dX11_command_59 (by decide) (by decide) (by decide) (by decide)) ?_
      refine gm_go_tr (gm_iload_n dX11_command_74 rfl) ?_
      refine gm_go_tr (gi_bipush dX11_command_75 (by decide +kernel)) ?_
      refine gm_go_tr (gi_icmp_ne_f 95 dX11_command_77 (by decide) (by decide) (by decide) (by decide)) ?_
      refine gm_go_tr (gm_aload_n dX11_command_80 rfl (by first | exact Or.inl ⟨_, rfl⟩ | exact Or.inr ⟨_, rfl⟩)) ?_
      refine gm_go_tr (gm_get dX11_command_81 (fl_X11_222 rfl) e2 rfl) ?_
      rw [e3.2.1]
      refine gm_go_tr (gi_if_ne_f 95 dX11_command_84 (by decide) (by decide) (by decide)) ?_
      refine gm_go_tr (gm_aload_n dX11_command_87 rfl (by first | exact Or.inl ⟨_, rfl⟩ | exact Or.inr ⟨_, rfl⟩)) ?_
      refine gm_go_tr (gi_bipush dX11_command_88 (by decide +kernel)) ?_
      refine gm_go_tr (gi_const dX11_command_90) ?_
      refine gm_go_tr (gm_cV dX11_command_91 (g1) rfl mt_X11_behind mv_X11_behind (lk_X11_238 rfl) (Or.inl ⟨_, 12, _, _, _, rfl, e2, rfl⟩) rfl (Nat.le_of_ble_eq_true rfl) (by decide)) ?_
      refine gm_go_tr (gm_istore_n (ls' := [_, _, _, _, _, _]) dX11_command_94 (by decide) rfl) ?_
      refine gm_go_tr (gm_iload_n dX11_command_95 rfl) ?_
      refine gm_go_tr (gi_const dX11_command_96) ?_
      refine gm_go_tr (gi_icmp_ne_t (tgt := 112) dX11_command_97 (by decide) (by decide) (by decide) (by decide)) ?_
      refine gm_go_tr (gm_iload_n dX11_command_112 rfl) ?_
      refine gm_go_tr (gi_bipush dX11_command_113 (by decide +kernel)) ?_
      refine gm_go_tr (gi_icmp_ne_f 133 dX11_command_115 (by decide) (by decide) (by decide) (by decide)) ?_
      refine gm_go_tr (gm_aload_n dX11_command_118 rfl (by first | exact Or.inl ⟨_, rfl⟩ | exact Or.inr ⟨_, rfl⟩)) ?_
      refine gm_go_tr (gm_get dX11_command_119 (fl_X11_222 rfl) g2 rfl) ?_
      rw [g5.2.1]
      refine gm_go_tr (gi_if_ne_t (tgt := 133) dX11_command_122 (by decide) (by decide) (by decide)) ?_
      exact gm_go_rf
  ·
    rw [c1] at e3
    have zr : zMr X L 6 p = (((zD1 X L p 3).1, (0, 0)), (zD1 X L p 3).2) := by unfold zMr; rw [if_neg (by decide), if_neg (by decide), if_pos rfl]; rw [if_pos c1]
    rw [zr]
    refine ⟨a1, K1, ?_, e2, by rw [show ((((zD1 X L p 3).1, (0, 0)), (zD1 X L p 3).2) : (Int × (Int × Int)) × (Nat × Bool)).2.2 = true from c1]; exact e3, e4⟩
    refine gm_go_tr (gm_aload_n dX11_command_17 rfl (by first | exact Or.inl ⟨_, rfl⟩ | exact Or.inr ⟨_, rfl⟩)) ?_
    refine gm_go_tr (gm_iload_n dX11_command_18 rfl) ?_
    refine gm_go_tr (gi_const dX11_command_19) ?_
    refine gm_go_tr (gi_const dX11_command_20) ?_
    refine gm_go_tr (gm_cS dX11_command_21 (ct_mIsIn (by decide) (by decide) (by decide)) rfl mt_X11_isIn ms_X11_isIn (lk_X11_63 rfl) rfl (Nat.le_of_ble_eq_true rfl) (by decide)) ?_
    rw [zB_f (by decide)]
    refine gm_go_tr (gi_if_eq_t (tgt := 31) dX11_command_24 (by decide) (by decide) (by decide)) ?_
    refine gm_go_tr (gi_const dX11_command_31) ?_
    refine gm_go_tr (gm_cV dX11_command_32 (e1) rfl mt_X11_digits mv_X11_digits (lk_X11_232 rfl) (Or.inl ⟨_, 12, _, _, _, rfl, hM, rfl⟩) rfl (Nat.le_of_ble_eq_true rfl) (by decide)) ?_
    refine gm_go_tr (gm_istore (ls' := [_, _, _, _, _, _]) dX11_command_35 (by decide) rfl) ?_
    refine gm_go_tr (gm_iload_n dX11_command_37 rfl) ?_
    refine gm_go_tr (gi_const dX11_command_38) ?_
    refine gm_go_tr (gi_icmp_ne_t (tgt := 57) dX11_command_39 (by decide) (by decide) (by decide) (by decide)) ?_
    refine gm_go_tr (gm_iload_n dX11_command_57 rfl) ?_
    refine gm_go_tr (gi_const dX11_command_58) ?_
    refine gm_go_tr (gi_icmp_ne_t (tgt := 74) dX11_command_59 (by decide) (by decide) (by decide) (by decide)) ?_
    refine gm_go_tr (gm_iload_n dX11_command_74 rfl) ?_
    refine gm_go_tr (gi_bipush dX11_command_75 (by decide +kernel)) ?_
    refine gm_go_tr (gi_icmp_ne_f 95 dX11_command_77 (by decide) (by decide) (by decide) (by decide)) ?_
    refine gm_go_tr (gm_aload_n dX11_command_80 rfl (by first | exact Or.inl ⟨_, rfl⟩ | exact Or.inr ⟨_, rfl⟩)) ?_
    refine gm_go_tr (gm_get dX11_command_81 (fl_X11_222 rfl) e2 rfl) ?_
    rw [e3.2.1]
    refine gm_go_tr (gi_if_ne_t (tgt := 95) dX11_command_84 (by decide) (by decide) (by decide)) ?_
    refine gm_go_tr (gm_iload_n dX11_command_95 rfl) ?_
    refine gm_go_tr (gi_const dX11_command_96) ?_
    refine gm_go_tr (gi_icmp_ne_t (tgt := 112) dX11_command_97 (by decide) (by decide) (by decide) (by decide)) ?_
    refine gm_go_tr (gm_iload_n dX11_command_112 rfl) ?_
    refine gm_go_tr (gi_bipush dX11_command_113 (by decide +kernel)) ?_
    refine gm_go_tr (gi_icmp_ne_f 133 dX11_command_115 (by decide) (by decide) (by decide) (by decide)) ?_
    refine gm_go_tr (gm_aload_n dX11_command_118 rfl (by first | exact Or.inl ⟨_, rfl⟩ | exact Or.inr ⟨_, rfl⟩)) ?_
    refine gm_go_tr (gm_get dX11_command_119 (fl_X11_222 rfl) e2 rfl) ?_
    rw [e3.2.1]
    refine gm_go_tr (gi_if_ne_t (tgt := 133) dX11_command_122 (by decide) (by decide) (by decide)) ?_
    exact gm_go_rf
theorem cm_r {h : gm_H} {m p L : Nat} {K X : Nat → Int} (hM : h.1[m]? = some (md_c m K)) (hX : h.1[m + 8]? = some (gA 60 X)) (hp : K 18 = (p : Int)) (hL : K 19 = (L : Int)) (ht : zTx X L) (hp9 : p ≤ 60) (hw : K 21 = 0) {w : Nat} (hw9 : w < 10) : ∃ h' K', gm_go mX11_command 7 (17, [some (.ref m), some (.int (zI (w : Int))), some (.int (zI (0))), some (.int (zI (0))), none, none], [], h) (133, [some (.ref m), some (.int (zI (w : Int))), some (.int (zI ((zMr X L w p).1.2.1))), some (.int (zI ((zMr X L w p).1.2.2))), some (.int (zI (zMr X L w p).1.1)), none], [], h') ∧ h'.1[m]? = some (md_c m K') ∧ kp K K' (zMr X L w p).2.1 (zMr X L w p).2.2 ∧ gh_fr h h' (fun k => k = m) := by
  by_cases n1 : w = 1
  · subst n1; exact cm_rC hM hX hp hL ht hp9 hw
  · by_cases n2 : w = 2
    · subst n2; exact cm_rB hM hX hp hL ht hp9 hw
    · by_cases n6 : w = 6
      · subst n6; exact cm_rD hM hX hp hL ht hp9 hw
      · exact cm_rA hM hX hp hL ht hp9 hw hw9 n1 n2 n6
