/-! what is thrown for a refusal; the heap behind a throw -/
def zXc (k : Nat) : String := match k with | 1 => "java/lang/IndexOutOfBoundsException" | 2 => "java/lang/IllegalArgumentException" | 3 => "java/lang/IllegalStateException" | 4 => "java/lang/IllegalStateException" | 5 => "java/lang/UnsupportedOperationException" | _ => "java/util/NoSuchElementException"
def zTh (h : gm_H) : gm_H := (h.1, (h.2.1 + 1, h.2.2 + 6))
def swR : List Int32 := [0, 1, 2, 3, 4, 5, 6]
set_option maxRecDepth 4000 in
theorem ct_refuse0 {h : gm_H} : gm_co mX10_refuse 8 [.retAddr 0] h (.inl none) h := by
  refine gm_co_of _ (by decide +kernel) rfl (Nat.le_of_ble_eq_true rfl) rfl ?_
  refine gm_go.ru (gm_gets (v := .retAddr 19) dX10_refuse_0 (by decide +kernel) (sl_X10_389 rfl) rfl) ?_
  refine gm_go.ru (gm_aload_n dX10_refuse_3 rfl (by first | exact Or.inl ⟨_, rfl⟩ | exact Or.inr ⟨_, rfl⟩)) ?_
  refine gm_go.ru (gm_cU dX10_refuse_4 (ct_ordR (w := 0) (by decide)) rfl mt_Jx29ce0_ordinal_8abf5 (lu_X10_394 rfl) (Or.inr ⟨_, rfl, by decide +kernel⟩) rfl (Nat.le_of_ble_eq_true rfl) (by decide)) ?_
  refine gm_go.ru (gi_ki (w := 0) (x := 0) swR dX10_refuse_7 (by decide +kernel) (by decide) (by decide) rfl) ?_
  refine gm_go.ru (gm_tabOut (tgt := 113) dX10_refuse_8 (by decide +kernel) (by decide)) ?_
  exact gm_vret dX10_refuse_113 rfl
set_option maxRecDepth 4000 in
theorem ct_refuse1 {h : gm_H} : gm_co mX10_refuse 8 [.retAddr 1] h (.inr (zXc 1)) (zTh h) := by
  refine gm_co_of _ (by decide +kernel) rfl (Nat.le_of_ble_eq_true rfl) rfl ?_
  refine gm_go.ru (gm_gets (v := .retAddr 19) dX10_refuse_0 (by decide +kernel) (sl_X10_389 rfl) rfl) ?_
  refine gm_go.ru (gm_aload_n dX10_refuse_3 rfl (by first | exact Or.inl ⟨_, rfl⟩ | exact Or.inr ⟨_, rfl⟩)) ?_
  refine gm_go.ru (gm_cU dX10_refuse_4 (ct_ordR (w := 1) (by decide)) rfl mt_Jx29ce0_ordinal_8abf5 (lu_X10_394 rfl) (Or.inr ⟨_, rfl, by decide +kernel⟩) rfl (Nat.le_of_ble_eq_true rfl) (by decide)) ?_
  refine gm_go.ru (gi_ki (w := 1) (x := 1) swR dX10_refuse_7 (by decide +kernel) (by decide) (by decide) rfl) ?_
  refine gm_go.ru (gm_tabIn (tgt := 48) dX10_refuse_8 (by decide +kernel) (by decide +kernel) rfl (by decide)) ?_
  exact gm_throwW (tf_X10_214_397 rfl) rfl dX10_refuse_48 dX10_refuse_51 dX10_refuse_52 dX10_refuse_55 dX10_refuse_58 (Nat.le_of_ble_eq_true rfl) (by decide) (by decide)
set_option maxRecDepth 4000 in
theorem ct_refuse2 {h : gm_H} : gm_co mX10_refuse 8 [.retAddr 2] h (.inr (zXc 2)) (zTh h) := by
  refine gm_co_of _ (by decide +kernel) rfl (Nat.le_of_ble_eq_true rfl) rfl ?_
  refine gm_go.ru (gm_gets (v := .retAddr 19) dX10_refuse_0 (by decide +kernel) (sl_X10_389 rfl) rfl) ?_
  refine gm_go.ru (gm_aload_n dX10_refuse_3 rfl (by first | exact Or.inl ⟨_, rfl⟩ | exact Or.inr ⟨_, rfl⟩)) ?_
  refine gm_go.ru (gm_cU dX10_refuse_4 (ct_ordR (w := 2) (by decide)) rfl mt_Jx29ce0_ordinal_8abf5 (lu_X10_394 rfl) (Or.inr ⟨_, rfl, by decide +kernel⟩) rfl (Nat.le_of_ble_eq_true rfl) (by decide)) ?_
  refine gm_go.ru (gi_ki (w := 2) (x := 2) swR dX10_refuse_7 (by decide +kernel) (by decide) (by decide) rfl) ?_
  refine gm_go.ru (gm_tabIn (tgt := 59) dX10_refuse_8 (by decide +kernel) (by decide +kernel) rfl (by decide)) ?_
  exact gm_throwW (tf_X10_289_399 rfl) rfl dX10_refuse_59 dX10_refuse_62 dX10_refuse_63 dX10_refuse_66 dX10_refuse_69 (Nat.le_of_ble_eq_true rfl) (by decide) (by decide)
set_option maxRecDepth 4000 in
theorem ct_refuse3 {h : gm_H} : gm_co mX10_refuse 8 [.retAddr 3] h (.inr (zXc 3)) (zTh h) := by
  refine gm_co_of _ (by decide +kernel) rfl (Nat.le_of_ble_eq_true rfl) rfl ?_
  refine gm_go.ru (gm_gets (v := .retAddr 19) dX10_refuse_0 (by decide +kernel) (sl_X10_389 rfl) rfl) ?_
  refine gm_go.ru (gm_aload_n dX10_refuse_3 rfl (by first | exact Or.inl ⟨_, rfl⟩ | exact Or.inr ⟨_, rfl⟩)) ?_
  refine gm_go.ru (gm_cU dX10_refuse_4 (ct_ordR (w := 3) (by decide)) rfl mt_Jx29ce0_ordinal_8abf5 (lu_X10_394 rfl) (Or.inr ⟨_, rfl, by decide +kernel⟩) rfl (Nat.le_of_ble_eq_true rfl) (by decide)) ?_
  refine gm_go.ru (gi_ki (w := 3) (x := 3) swR dX10_refuse_7 (by decide +kernel) (by decide) (by decide) rfl) ?_
  refine gm_go.ru (gm_tabIn (tgt := 70) dX10_refuse_8 (by decide +kernel) (by decide +kernel) rfl (by decide)) ?_
  exact gm_throwW (tf_X10_296_401 rfl) rfl dX10_refuse_70 dX10_refuse_73 dX10_refuse_74 dX10_refuse_77 dX10_refuse_80 (Nat.le_of_ble_eq_true rfl) (by decide) (by decide)
set_option maxRecDepth 4000 in
theorem ct_refuse4 {h : gm_H} : gm_co mX10_refuse 8 [.retAddr 4] h (.inr (zXc 4)) (zTh h) := by
  refine gm_co_of _ (by decide +kernel) rfl (Nat.le_of_ble_eq_true rfl) rfl ?_
  refine gm_go.ru (gm_gets (v := .retAddr 19) dX10_refuse_0 (by decide +kernel) (sl_X10_389 rfl) rfl) ?_
  refine gm_go.ru (gm_aload_n dX10_refuse_3 rfl (by first | exact Or.inl ⟨_, rfl⟩ | exact Or.inr ⟨_, rfl⟩)) ?_
  refine gm_go.ru (gm_cU dX10_refuse_4 (ct_ordR (w := 4) (by decide)) rfl mt_Jx29ce0_ordinal_8abf5 (lu_X10_394 rfl) (Or.inr ⟨_, rfl, by decide +kernel⟩) rfl (Nat.le_of_ble_eq_true rfl) (by decide)) ?_
  refine gm_go.ru (gi_ki (w := 4) (x := 4) swR dX10_refuse_7 (by decide +kernel) (by decide) (by decide) rfl) ?_
  refine gm_go.ru (gm_tabIn (tgt := 81) dX10_refuse_8 (by decide +kernel) (by decide +kernel) rfl (by decide)) ?_
  exact gm_throwW (tf_X10_296_403 rfl) rfl dX10_refuse_81 dX10_refuse_84 dX10_refuse_85 dX10_refuse_88 dX10_refuse_91 (Nat.le_of_ble_eq_true rfl) (by decide) (by decide)
set_option maxRecDepth 4000 in
theorem ct_refuse5 {h : gm_H} : gm_co mX10_refuse 8 [.retAddr 5] h (.inr (zXc 5)) (zTh h) := by
  refine gm_co_of _ (by decide +kernel) rfl (Nat.le_of_ble_eq_true rfl) rfl ?_
  refine gm_go.ru (gm_gets (v := .retAddr 19) dX10_refuse_0 (by decide +kernel) (sl_X10_389 rfl) rfl) ?_
  refine gm_go.ru (gm_aload_n dX10_refuse_3 rfl (by first | exact Or.inl ⟨_, rfl⟩ | exact Or.inr ⟨_, rfl⟩)) ?_
  refine gm_go.ru (gm_cU dX10_refuse_4 (ct_ordR (w := 5) (by decide)) rfl mt_Jx29ce0_ordinal_8abf5 (lu_X10_394 rfl) (Or.inr ⟨_, rfl, by decide +kernel⟩) rfl (Nat.le_of_ble_eq_true rfl) (by decide)) ?_
  refine gm_go.ru (gi_ki (w := 5) (x := 5) swR dX10_refuse_7 (by decide +kernel) (by decide) (by decide) rfl) ?_
  refine gm_go.ru (gm_tabIn (tgt := 92) dX10_refuse_8 (by decide +kernel) (by decide +kernel) rfl (by decide)) ?_
  exact gm_throwW (tf_X10_405_407 rfl) rfl dX10_refuse_92 dX10_refuse_95 dX10_refuse_96 dX10_refuse_99 dX10_refuse_102 (Nat.le_of_ble_eq_true rfl) (by decide) (by decide)
set_option maxRecDepth 4000 in
theorem ct_refuse6 {h : gm_H} : gm_co mX10_refuse 8 [.retAddr 6] h (.inr (zXc 6)) (zTh h) := by
  refine gm_co_of _ (by decide +kernel) rfl (Nat.le_of_ble_eq_true rfl) rfl ?_
  refine gm_go.ru (gm_gets (v := .retAddr 19) dX10_refuse_0 (by decide +kernel) (sl_X10_389 rfl) rfl) ?_
  refine gm_go.ru (gm_aload_n dX10_refuse_3 rfl (by first | exact Or.inl ⟨_, rfl⟩ | exact Or.inr ⟨_, rfl⟩)) ?_
  refine gm_go.ru (gm_cU dX10_refuse_4 (ct_ordR (w := 6) (by decide)) rfl mt_Jx29ce0_ordinal_8abf5 (lu_X10_394 rfl) (Or.inr ⟨_, rfl, by decide +kernel⟩) rfl (Nat.le_of_ble_eq_true rfl) (by decide)) ?_
  refine gm_go.ru (gi_ki (w := 6) (x := 6) swR dX10_refuse_7 (by decide +kernel) (by decide) (by decide) rfl) ?_
  refine gm_go.ru (gm_tabIn (tgt := 103) dX10_refuse_8 (by decide +kernel) (by decide +kernel) rfl (by decide)) ?_
  exact gm_throwX (tf_X10_154_225 rfl) rfl dX10_refuse_103 dX10_refuse_106 dX10_refuse_107 dX10_refuse_109 dX10_refuse_112 (Nat.le_of_ble_eq_true rfl) (by decide) (by decide)
