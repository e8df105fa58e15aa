theorem lc_13 : Cond.classLink RL 13 "java/lang/IllegalArgumentException" ∈ gm_big := gm_in (i := 555) (by decide +kernel) (by decide +kernel)
theorem lt_13 : Cond.castable "java/lang/IllegalArgumentException" "java/lang/IllegalArgumentException" ∈ gm_big := gm_in (i := 722) (by decide +kernel) (by decide +kernel)
theorem lc_15 : Cond.classLink RL 15 "java/lang/IllegalStateException" ∈ gm_big := gm_in (i := 556) (by decide +kernel) (by decide +kernel)
theorem lt_15 : Cond.castable "java/lang/IllegalStateException" "java/lang/IllegalStateException" ∈ gm_big := gm_in (i := 738) (by decide +kernel) (by decide +kernel)
theorem lc_21 : Cond.classLink RL 21 "java/lang/IndexOutOfBoundsException" ∈ gm_big := gm_in (i := 845) (by decide +kernel) (by decide +kernel)
theorem lt_21 : Cond.castable "java/lang/IndexOutOfBoundsException" "java/lang/IndexOutOfBoundsException" ∈ gm_big := gm_in (i := 650) (by decide +kernel) (by decide +kernel)
theorem lc_27 : Cond.classLink RL 27 "java/lang/UnsupportedOperationException" ∈ gm_big := gm_in (i := 875) (by decide +kernel) (by decide +kernel)
theorem lt_27 : Cond.castable "java/lang/UnsupportedOperationException" "java/lang/UnsupportedOperationException" ∈ gm_big := gm_in (i := 755) (by decide +kernel) (by decide +kernel)
theorem lc_57 : Cond.classLink RL 57 "java/util/NoSuchElementException" ∈ gm_big := gm_in (i := 975) (by decide +kernel) (by decide +kernel)
theorem lt_57 : Cond.castable "java/util/NoSuchElementException" "java/util/NoSuchElementException" ∈ gm_big := gm_in (i := 771) (by decide +kernel) (by decide +kernel)
theorem lc_81 : Cond.classLink RL 81 "java/lang/ArithmeticException" ∈ gm_big := gm_in (i := 1057) (by decide +kernel) (by decide +kernel)
theorem lt_81 : Cond.castable "java/lang/ArithmeticException" "java/lang/ArithmeticException" ∈ gm_big := gm_in (i := 1069) (by decide +kernel) (by decide +kernel)
theorem z_0in : vp_in (zI 0) 1 := zI_in (a := 0) (by omega) (by omega) (by decide)
theorem z_0cl : (zI 0).toNatClampNeg = 0 := by rw [zI_cl (by omega)]; rfl
abbrev gLo (f : Nat → Int64) : gm_cl := .inl (1, 1, .inr (.inl f))
abbrev gDo (f : Nat → UInt64) : gm_cl := .inl (2, 1, .inr (.inr (.inr (.inl f))))
set_option maxRecDepth 4000 in
theorem lh_addNeedle {h h' : gm_H} {n o D : Nat} {hs ep fc : Int} {a : Int} (hB : h.1[n]? = some (by_c n hs ep fc)) (hD : D < 12) {r : Int} (hr : zR r) (hc : gm_co mX10_addNeedle D [.ref n, .int (zI a)] h (.inl (some (.int (zI r)))) h') {f : Nat → Int64} (ho : h'.1[o]? = some (gLo f)) : ∃ f', gm_co mL_addNeedle 12 [.ref n, .int (zI a), .ref o] h (.inl (some (.int (zI 0)))) (h'.1.set o (gLo f'), h'.2) ∧ f' 0 = zL r := by
  refine ⟨vp_updL f (zI 0).toNatClampNeg (zL r), ?_, by rw [z_0cl]; exact if_pos rfl⟩
  refine gm_co_ofH _ (by decide +kernel) (List.cons_ne_nil _ _) (Nat.le_of_ble_eq_true rfl) rfl ?_
  refine gm_go.ru (gm_aload_n dL_addNeedle_0 rfl (by first | exact Or.inl ⟨_, rfl⟩ | exact Or.inr ⟨_, rfl⟩)) ?_
  refine gm_go.ru (gi_const dL_addNeedle_1) ?_
  refine gm_go.ru (gm_aload_n dL_addNeedle_2 rfl (by first | exact Or.inl ⟨_, rfl⟩ | exact Or.inr ⟨_, rfl⟩)) ?_
  refine gm_go.ru (gm_iload_n dL_addNeedle_3 rfl) ?_
  refine gm_go.ru (gm_cV dL_addNeedle_4 (hc) rfl mt_X10_addNeedle mv_X10_addNeedle (lk_L_7 rfl) (Or.inl ⟨_, 11, _, _, _, rfl, hB, rfl⟩) rfl (Nat.le_of_ble_eq_true rfl) hD) ?_
  refine gm_go.ru (gi_i2l dL_addNeedle_7 hr) ?_
  refine gm_go.ru (gm_last dL_addNeedle_8 ho z_0in) ?_
  refine gm_go.ru (gm_goto (tgt := 18) dL_addNeedle_9 (by decide)) ?_
  refine gm_go.ru (gi_const dL_addNeedle_18) ?_
  exact gm_iret dL_addNeedle_19 rfl
set_option maxRecDepth 4000 in
theorem lx_addNeedle_1 {h h' : gm_H} {n o D : Nat} {hs ep fc : Int} {a : Int} (hB : h.1[n]? = some (by_c n hs ep fc)) (hD : D < 12) (hc : gm_co mX10_addNeedle D [.ref n, .int (zI a)] h (.inr "java/lang/IllegalArgumentException") h') : gm_co mL_addNeedle 12 [.ref n, .int (zI a), .ref o] h (.inl (some (.int (zI 1)))) h' := by
  refine gm_co_ofH _ (by decide +kernel) (List.cons_ne_nil _ _) (Nat.le_of_ble_eq_true rfl) rfl ?_
  refine gm_go.ru (gm_aload_n dL_addNeedle_0 rfl (by first | exact Or.inl ⟨_, rfl⟩ | exact Or.inr ⟨_, rfl⟩)) ?_
  refine gm_go.ru (gi_const dL_addNeedle_1) ?_
  refine gm_go.ru (gm_aload_n dL_addNeedle_2 rfl (by first | exact Or.inl ⟨_, rfl⟩ | exact Or.inr ⟨_, rfl⟩)) ?_
  refine gm_go.ru (gm_iload_n dL_addNeedle_3 rfl) ?_
  refine gm_go.ru (gm_catch_n (gm_runV (As := [.int (zI a)]) (rest := [.int (zI 0), .ref o]) dL_addNeedle_4 hc mt_X10_addNeedle mv_X10_addNeedle (lk_L_7 rfl) (Or.inl ⟨_, 11, _, _, _, rfl, hB, rfl⟩) rfl (Nat.le_of_ble_eq_true rfl) hD) [] ⟨0, 9, 12, 13⟩ [⟨0, 9, 15, 15⟩] rfl (fun z hz => absurd hz List.not_mem_nil) (by decide) (by decide) lc_13 lt_13 dL_addNeedle_12 (Nat.le_of_ble_eq_true rfl)) ?_
  refine gm_go.ru (gi_const dL_addNeedle_13) ?_
  exact gm_iret dL_addNeedle_14 rfl
set_option maxRecDepth 4000 in
theorem lx_addNeedle_2 {h h' : gm_H} {n o D : Nat} {hs ep fc : Int} {a : Int} (hB : h.1[n]? = some (by_c n hs ep fc)) (hD : D < 12) (hc : gm_co mX10_addNeedle D [.ref n, .int (zI a)] h (.inr "java/lang/IllegalStateException") h') : gm_co mL_addNeedle 12 [.ref n, .int (zI a), .ref o] h (.inl (some (.int (zI 2)))) h' := by
  refine gm_co_ofH _ (by decide +kernel) (List.cons_ne_nil _ _) (Nat.le_of_ble_eq_true rfl) rfl ?_
  refine gm_go.ru (gm_aload_n dL_addNeedle_0 rfl (by first | exact Or.inl ⟨_, rfl⟩ | exact Or.inr ⟨_, rfl⟩)) ?_
  refine gm_go.ru (gi_const dL_addNeedle_1) ?_
  refine gm_go.ru (gm_aload_n dL_addNeedle_2 rfl (by first | exact Or.inl ⟨_, rfl⟩ | exact Or.inr ⟨_, rfl⟩)) ?_
  refine gm_go.ru (gm_iload_n dL_addNeedle_3 rfl) ?_
  refine gm_go.ru (gm_catch_n (gm_runV (As := [.int (zI a)]) (rest := [.int (zI 0), .ref o]) dL_addNeedle_4 hc mt_X10_addNeedle mv_X10_addNeedle (lk_L_7 rfl) (Or.inl ⟨_, 11, _, _, _, rfl, hB, rfl⟩) rfl (Nat.le_of_ble_eq_true rfl) hD) [⟨0, 9, 12, 13⟩] ⟨0, 9, 15, 15⟩ [] rfl (List.forall_mem_cons.mpr ⟨Or.inr ⟨by decide, _, lc_13, by decide +kernel⟩, fun z hz => absurd hz List.not_mem_nil⟩) (by decide) (by decide) lc_15 lt_15 dL_addNeedle_15 (Nat.le_of_ble_eq_true rfl)) ?_
  refine gm_go.ru (gi_const dL_addNeedle_16) ?_
  exact gm_iret dL_addNeedle_17 rfl
set_option maxRecDepth 4000 in
theorem lm_addNeedle {h h' : gm_H} {n o D : Nat} {hs ep fc : Int} {a : Int} (hB : h.1[n]? = some (by_c n hs ep fc)) (hD : D < 12) {y : Nat} (hy : y < 7) (h0 : ¬ zCd 0 y = 0) (hc : gm_co mX10_addNeedle D [.ref n, .int (zI a)] h (.inr (zXc y)) h') : gm_co mL_addNeedle 12 [.ref n, .int (zI a), .ref o] h (.inl (some (.int (zI (zCd 0 y))))) h' := by
  match y, hy, h0, hc with
  | 0, _, h0, hc => exact absurd rfl h0
  | 1, _, h0, hc => exact absurd rfl h0
  | 2, _, h0, hc => exact lx_addNeedle_1 hB hD hc
  | 3, _, h0, hc => exact absurd rfl h0
  | 4, _, h0, hc => exact lx_addNeedle_2 hB hD hc
  | 5, _, h0, hc => exact absurd rfl h0
  | 6, _, h0, hc => exact absurd rfl h0
  | y + 7, hy, _, _ => omega
set_option maxRecDepth 4000 in
theorem lh_setDeviation {h h' : gm_H} {n o D : Nat} {hs ep fc : Int} {a b c : Int} (hB : h.1[n]? = some (by_c n hs ep fc)) (hD : D < 12) {r : Int} (hr : zR r) (hc : gm_co mX10_setDeviation D [.ref n, .int (zI a), .int (zI b), .int (zI c)] h (.inl (some (.int (zI r)))) h') {f : Nat → Int64} (ho : h'.1[o]? = some (gLo f)) : ∃ f', gm_co mL_setDeviation 12 [.ref n, .int (zI a), .int (zI b), .int (zI c), .ref o] h (.inl (some (.int (zI 0)))) (h'.1.set o (gLo f'), h'.2) ∧ f' 0 = zL r := by
  refine ⟨vp_updL f (zI 0).toNatClampNeg (zL r), ?_, by rw [z_0cl]; exact if_pos rfl⟩
  refine gm_co_ofH _ (by decide +kernel) (List.cons_ne_nil _ _) (Nat.le_of_ble_eq_true rfl) rfl ?_
  refine gm_go.ru (gm_aload dL_setDeviation_0 rfl (by first | exact Or.inl ⟨_, rfl⟩ | exact Or.inr ⟨_, rfl⟩)) ?_
  refine gm_go.ru (gi_const dL_setDeviation_2) ?_
  refine gm_go.ru (gm_aload_n dL_setDeviation_3 rfl (by first | exact Or.inl ⟨_, rfl⟩ | exact Or.inr ⟨_, rfl⟩)) ?_
  refine gm_go.ru (gm_iload_n dL_setDeviation_4 rfl) ?_
  refine gm_go.ru (gm_iload_n dL_setDeviation_5 rfl) ?_
  refine gm_go.ru (gm_iload_n dL_setDeviation_6 rfl) ?_
  refine gm_go.ru (gm_cV dL_setDeviation_7 (hc) rfl mt_X10_setDeviation mv_X10_setDeviation (lk_L_17 rfl) (Or.inl ⟨_, 11, _, _, _, rfl, hB, rfl⟩) rfl (Nat.le_of_ble_eq_true rfl) hD) ?_
  refine gm_go.ru (gi_i2l dL_setDeviation_10 hr) ?_
  refine gm_go.ru (gm_last dL_setDeviation_11 ho z_0in) ?_
  refine gm_go.ru (gm_goto (tgt := 27) dL_setDeviation_12 (by decide)) ?_
  refine gm_go.ru (gi_const dL_setDeviation_27) ?_
  exact gm_iret dL_setDeviation_28 rfl
set_option maxRecDepth 4000 in
theorem lx_setDeviation_1 {h h' : gm_H} {n o D : Nat} {hs ep fc : Int} {a b c : Int} (hB : h.1[n]? = some (by_c n hs ep fc)) (hD : D < 12) (hc : gm_co mX10_setDeviation D [.ref n, .int (zI a), .int (zI b), .int (zI c)] h (.inr "java/lang/IndexOutOfBoundsException") h') : gm_co mL_setDeviation 12 [.ref n, .int (zI a), .int (zI b), .int (zI c), .ref o] h (.inl (some (.int (zI 1)))) h' := by
  refine gm_co_ofH _ (by decide +kernel) (List.cons_ne_nil _ _) (Nat.le_of_ble_eq_true rfl) rfl ?_
  refine gm_go.ru (gm_aload dL_setDeviation_0 rfl (by first | exact Or.inl ⟨_, rfl⟩ | exact Or.inr ⟨_, rfl⟩)) ?_
  refine gm_go.ru (gi_const dL_setDeviation_2) ?_
  refine gm_go.ru (gm_aload_n dL_setDeviation_3 rfl (by first | exact Or.inl ⟨_, rfl⟩ | exact Or.inr ⟨_, rfl⟩)) ?_
  refine gm_go.ru (gm_iload_n dL_setDeviation_4 rfl) ?_
  refine gm_go.ru (gm_iload_n dL_setDeviation_5 rfl) ?_
  refine gm_go.ru (gm_iload_n dL_setDeviation_6 rfl) ?_
  refine gm_go.ru (gm_catch_w (gm_runV (As := [.int (zI a), .int (zI b), .int (zI c)]) (rest := [.int (zI 0), .ref o]) dL_setDeviation_7 hc mt_X10_setDeviation mv_X10_setDeviation (lk_L_17 rfl) (Or.inl ⟨_, 11, _, _, _, rfl, hB, rfl⟩) rfl (Nat.le_of_ble_eq_true rfl) hD) [] ⟨0, 12, 15, 21⟩ [⟨0, 12, 19, 13⟩, ⟨0, 12, 23, 15⟩] rfl (fun z hz => absurd hz List.not_mem_nil) (by decide) (by decide) lc_21 lt_21 dL_setDeviation_15 (Nat.le_of_ble_eq_true rfl)) ?_
  refine gm_go.ru (gi_const dL_setDeviation_17) ?_
  exact gm_iret dL_setDeviation_18 rfl
set_option maxRecDepth 4000 in
theorem lx_setDeviation_2 {h h' : gm_H} {n o D : Nat} {hs ep fc : Int} {a b c : Int} (hB : h.1[n]? = some (by_c n hs ep fc)) (hD : D < 12) (hc : gm_co mX10_setDeviation D [.ref n, .int (zI a), .int (zI b), .int (zI c)] h (.inr "java/lang/IllegalArgumentException") h') : gm_co mL_setDeviation 12 [.ref n, .int (zI a), .int (zI b), .int (zI c), .ref o] h (.inl (some (.int (zI 2)))) h' := by
  refine gm_co_ofH _ (by decide +kernel) (List.cons_ne_nil _ _) (Nat.le_of_ble_eq_true rfl) rfl ?_
  refine gm_go.ru (gm_aload dL_setDeviation_0 rfl (by first | exact Or.inl ⟨_, rfl⟩ | exact Or.inr ⟨_, rfl⟩)) ?_
  refine gm_go.ru (gi_const dL_setDeviation_2) ?_
  refine gm_go.ru (gm_aload_n dL_setDeviation_3 rfl (by first | exact Or.inl ⟨_, rfl⟩ | exact Or.inr ⟨_, rfl⟩)) ?_
  refine gm_go.ru (gm_iload_n dL_setDeviation_4 rfl) ?_
  refine gm_go.ru (gm_iload_n dL_setDeviation_5 rfl) ?_
  refine gm_go.ru (gm_iload_n dL_setDeviation_6 rfl) ?_
  refine gm_go.ru (gm_catch_w (gm_runV (As := [.int (zI a), .int (zI b), .int (zI c)]) (rest := [.int (zI 0), .ref o]) dL_setDeviation_7 hc mt_X10_setDeviation mv_X10_setDeviation (lk_L_17 rfl) (Or.inl ⟨_, 11, _, _, _, rfl, hB, rfl⟩) rfl (Nat.le_of_ble_eq_true rfl) hD) [⟨0, 12, 15, 21⟩] ⟨0, 12, 19, 13⟩ [⟨0, 12, 23, 15⟩] rfl (List.forall_mem_cons.mpr ⟨Or.inr ⟨by decide, _, lc_21, by decide +kernel⟩, fun z hz => absurd hz List.not_mem_nil⟩) (by decide) (by decide) lc_13 lt_13 dL_setDeviation_19 (Nat.le_of_ble_eq_true rfl)) ?_
  refine gm_go.ru (gi_const dL_setDeviation_21) ?_
  exact gm_iret dL_setDeviation_22 rfl
set_option maxRecDepth 4000 in
theorem lx_setDeviation_3 {h h' : gm_H} {n o D : Nat} {hs ep fc : Int} {a b c : Int} (hB : h.1[n]? = some (by_c n hs ep fc)) (hD : D < 12) (hc : gm_co mX10_setDeviation D [.ref n, .int (zI a), .int (zI b), .int (zI c)] h (.inr "java/lang/IllegalStateException") h') : gm_co mL_setDeviation 12 [.ref n, .int (zI a), .int (zI b), .int (zI c), .ref o] h (.inl (some (.int (zI 3)))) h' := by
  refine gm_co_ofH _ (by decide +kernel) (List.cons_ne_nil _ _) (Nat.le_of_ble_eq_true rfl) rfl ?_
  refine gm_go.ru (gm_aload dL_setDeviation_0 rfl (by first | exact Or.inl ⟨_, rfl⟩ | exact Or.inr ⟨_, rfl⟩)) ?_
  refine gm_go.ru (gi_const dL_setDeviation_2) ?_
  refine gm_go.ru (gm_aload_n dL_setDeviation_3 rfl (by first | exact Or.inl ⟨_, rfl⟩ | exact Or.inr ⟨_, rfl⟩)) ?_
  refine gm_go.ru (gm_iload_n dL_setDeviation_4 rfl) ?_
  refine gm_go.ru (gm_iload_n dL_setDeviation_5 rfl) ?_
  refine gm_go.ru (gm_iload_n dL_setDeviation_6 rfl) ?_
  refine gm_go.ru (gm_catch_w (gm_runV (As := [.int (zI a), .int (zI b), .int (zI c)]) (rest := [.int (zI 0), .ref o]) dL_setDeviation_7 hc mt_X10_setDeviation mv_X10_setDeviation (lk_L_17 rfl) (Or.inl ⟨_, 11, _, _, _, rfl, hB, rfl⟩) rfl (Nat.le_of_ble_eq_true rfl) hD) [⟨0, 12, 15, 21⟩, ⟨0, 12, 19, 13⟩] ⟨0, 12, 23, 15⟩ [] rfl (List.forall_mem_cons.mpr ⟨Or.inr ⟨by decide, _, lc_21, by decide +kernel⟩, List.forall_mem_cons.mpr ⟨Or.inr ⟨by decide, _, lc_13, by decide +kernel⟩, fun z hz => absurd hz List.not_mem_nil⟩⟩) (by decide) (by decide) lc_15 lt_15 dL_setDeviation_23 (Nat.le_of_ble_eq_true rfl)) ?_
  refine gm_go.ru (gi_const dL_setDeviation_25) ?_
  exact gm_iret dL_setDeviation_26 rfl
set_option maxRecDepth 4000 in
theorem lm_setDeviation {h h' : gm_H} {n o D : Nat} {hs ep fc : Int} {a b c : Int} (hB : h.1[n]? = some (by_c n hs ep fc)) (hD : D < 12) {y : Nat} (hy : y < 7) (h0 : ¬ zCd 1 y = 0) (hc : gm_co mX10_setDeviation D [.ref n, .int (zI a), .int (zI b), .int (zI c)] h (.inr (zXc y)) h') : gm_co mL_setDeviation 12 [.ref n, .int (zI a), .int (zI b), .int (zI c), .ref o] h (.inl (some (.int (zI (zCd 1 y))))) h' := by
  match y, hy, h0, hc with
  | 0, _, h0, hc => exact absurd rfl h0
  | 1, _, h0, hc => exact lx_setDeviation_1 hB hD hc
  | 2, _, h0, hc => exact lx_setDeviation_2 hB hD hc
  | 3, _, h0, hc => exact lx_setDeviation_3 hB hD hc
  | 4, _, h0, hc => exact absurd rfl h0
  | 5, _, h0, hc => exact absurd rfl h0
  | 6, _, h0, hc => exact absurd rfl h0
  | y + 7, hy, _, _ => omega
set_option maxRecDepth 4000 in
theorem lh_shift {h h' : gm_H} {n o D : Nat} {hs ep fc : Int} {a b : Int} (hB : h.1[n]? = some (by_c n hs ep fc)) (hD : D < 12) {r : Int} (hr : zR r) (hc : gm_co mX10_shift D [.ref n, .int (zI a), .int (zI b)] h (.inl (some (.int (zI r)))) h') {f : Nat → Int64} (ho : h'.1[o]? = some (gLo f)) : ∃ f', gm_co mL_shift 12 [.ref n, .int (zI a), .int (zI b), .ref o] h (.inl (some (.int (zI 0)))) (h'.1.set o (gLo f'), h'.2) ∧ f' 0 = zL r := by
  refine ⟨vp_updL f (zI 0).toNatClampNeg (zL r), ?_, by rw [z_0cl]; exact if_pos rfl⟩
  refine gm_co_ofH _ (by decide +kernel) (List.cons_ne_nil _ _) (Nat.le_of_ble_eq_true rfl) rfl ?_
  refine gm_go.ru (gm_aload_n dL_shift_0 rfl (by first | exact Or.inl ⟨_, rfl⟩ | exact Or.inr ⟨_, rfl⟩)) ?_
  refine gm_go.ru (gi_const dL_shift_1) ?_
  refine gm_go.ru (gm_aload_n dL_shift_2 rfl (by first | exact Or.inl ⟨_, rfl⟩ | exact Or.inr ⟨_, rfl⟩)) ?_
  refine gm_go.ru (gm_iload_n dL_shift_3 rfl) ?_
  refine gm_go.ru (gm_iload_n dL_shift_4 rfl) ?_
  refine gm_go.ru (gm_cV dL_shift_5 (hc) rfl mt_X10_shift mv_X10_shift (lk_L_23 rfl) (Or.inl ⟨_, 11, _, _, _, rfl, hB, rfl⟩) rfl (Nat.le_of_ble_eq_true rfl) hD) ?_
  refine gm_go.ru (gi_i2l dL_shift_8 hr) ?_
  refine gm_go.ru (gm_last dL_shift_9 ho z_0in) ?_
  refine gm_go.ru (gm_goto (tgt := 29) dL_shift_10 (by decide)) ?_
  refine gm_go.ru (gi_const dL_shift_29) ?_
  exact gm_iret dL_shift_30 rfl
set_option maxRecDepth 4000 in
theorem lx_shift_1 {h h' : gm_H} {n o D : Nat} {hs ep fc : Int} {a b : Int} (hB : h.1[n]? = some (by_c n hs ep fc)) (hD : D < 12) (hc : gm_co mX10_shift D [.ref n, .int (zI a), .int (zI b)] h (.inr "java/lang/IndexOutOfBoundsException") h') : gm_co mL_shift 12 [.ref n, .int (zI a), .int (zI b), .ref o] h (.inl (some (.int (zI 1)))) h' := by
  refine gm_co_ofH _ (by decide +kernel) (List.cons_ne_nil _ _) (Nat.le_of_ble_eq_true rfl) rfl ?_
  refine gm_go.ru (gm_aload_n dL_shift_0 rfl (by first | exact Or.inl ⟨_, rfl⟩ | exact Or.inr ⟨_, rfl⟩)) ?_
  refine gm_go.ru (gi_const dL_shift_1) ?_
  refine gm_go.ru (gm_aload_n dL_shift_2 rfl (by first | exact Or.inl ⟨_, rfl⟩ | exact Or.inr ⟨_, rfl⟩)) ?_
  refine gm_go.ru (gm_iload_n dL_shift_3 rfl) ?_
  refine gm_go.ru (gm_iload_n dL_shift_4 rfl) ?_
  refine gm_go.ru (gm_catch_w (gm_runV (As := [.int (zI a), .int (zI b)]) (rest := [.int (zI 0), .ref o]) dL_shift_5 hc mt_X10_shift mv_X10_shift (lk_L_23 rfl) (Or.inl ⟨_, 11, _, _, _, rfl, hB, rfl⟩) rfl (Nat.le_of_ble_eq_true rfl) hD) [] ⟨0, 10, 13, 21⟩ [⟨0, 10, 17, 13⟩, ⟨0, 10, 21, 15⟩, ⟨0, 10, 25, 27⟩] rfl (fun z hz => absurd hz List.not_mem_nil) (by decide) (by decide) lc_21 lt_21 dL_shift_13 (Nat.le_of_ble_eq_true rfl)) ?_
  refine gm_go.ru (gi_const dL_shift_15) ?_
  exact gm_iret dL_shift_16 rfl
set_option maxRecDepth 4000 in
theorem lx_shift_2 {h h' : gm_H} {n o D : Nat} {hs ep fc : Int} {a b : Int} (hB : h.1[n]? = some (by_c n hs ep fc)) (hD : D < 12) (hc : gm_co mX10_shift D [.ref n, .int (zI a), .int (zI b)] h (.inr "java/lang/IllegalArgumentException") h') : gm_co mL_shift 12 [.ref n, .int (zI a), .int (zI b), .ref o] h (.inl (some (.int (zI 2)))) h' := by
  refine gm_co_ofH _ (by decide +kernel) (List.cons_ne_nil _ _) (Nat.le_of_ble_eq_true rfl) rfl ?_
  refine gm_go.ru (gm_aload_n dL_shift_0 rfl (by first | exact Or.inl ⟨_, rfl⟩ | exact Or.inr ⟨_, rfl⟩)) ?_
  refine gm_go.ru (gi_const dL_shift_1) ?_
  refine gm_go.ru (gm_aload_n dL_shift_2 rfl (by first | exact Or.inl ⟨_, rfl⟩ | exact Or.inr ⟨_, rfl⟩)) ?_
  refine gm_go.ru (gm_iload_n dL_shift_3 rfl) ?_
  refine gm_go.ru (gm_iload_n dL_shift_4 rfl) ?_
  refine gm_go.ru (gm_catch_w (gm_runV (As := [.int (zI a), .int (zI b)]) (rest := [.int (zI 0), .ref o]) dL_shift_5 hc mt_X10_shift mv_X10_shift (lk_L_23 rfl) (Or.inl ⟨_, 11, _, _, _, rfl, hB, rfl⟩) rfl (Nat.le_of_ble_eq_true rfl) hD) [⟨0, 10, 13, 21⟩] ⟨0, 10, 17, 13⟩ [⟨0, 10, 21, 15⟩, ⟨0, 10, 25, 27⟩] rfl (List.forall_mem_cons.mpr ⟨Or.inr ⟨by decide, _, lc_21, by decide +kernel⟩, fun z hz => absurd hz List.not_mem_nil⟩) (by decide) (by decide) lc_13 lt_13 dL_shift_17 (Nat.le_of_ble_eq_true rfl)) ?_
  refine gm_go.ru (gi_const dL_shift_19) ?_
  exact gm_iret dL_shift_20 rfl
set_option maxRecDepth 4000 in
theorem lx_shift_3 {h h' : gm_H} {n o D : Nat} {hs ep fc : Int} {a b : Int} (hB : h.1[n]? = some (by_c n hs ep fc)) (hD : D < 12) (hc : gm_co mX10_shift D [.ref n, .int (zI a), .int (zI b)] h (.inr "java/lang/IllegalStateException") h') : gm_co mL_shift 12 [.ref n, .int (zI a), .int (zI b), .ref o] h (.inl (some (.int (zI 3)))) h' := by
  refine gm_co_ofH _ (by decide +kernel) (List.cons_ne_nil _ _) (Nat.le_of_ble_eq_true rfl) rfl ?_
  refine gm_go.ru (gm_aload_n dL_shift_0 rfl (by first | exact Or.inl ⟨_, rfl⟩ | exact Or.inr ⟨_, rfl⟩)) ?_
  refine gm_go.ru (gi_const dL_shift_1) ?_
  refine gm_go.ru (gm_aload_n dL_shift_2 rfl (by first | exact Or.inl ⟨_, rfl⟩ | exact Or.inr ⟨_, rfl⟩)) ?_
  refine gm_go.ru (gm_iload_n dL_shift_3 rfl) ?_
  refine gm_go.ru (gm_iload_n dL_shift_4 rfl) ?_
  refine gm_go.ru (gm_catch_w (gm_runV (As := [.int (zI a), .int (zI b)]) (rest := [.int (zI 0), .ref o]) dL_shift_5 hc mt_X10_shift mv_X10_shift (lk_L_23 rfl) (Or.inl ⟨_, 11, _, _, _, rfl, hB, rfl⟩) rfl (Nat.le_of_ble_eq_true rfl) hD) [⟨0, 10, 13, 21⟩, ⟨0, 10, 17, 13⟩] ⟨0, 10, 21, 15⟩ [⟨0, 10, 25, 27⟩] rfl (List.forall_mem_cons.mpr ⟨Or.inr ⟨by decide, _, lc_21, by decide +kernel⟩, List.forall_mem_cons.mpr ⟨Or.inr ⟨by decide, _, lc_13, by decide +kernel⟩, fun z hz => absurd hz List.not_mem_nil⟩⟩) (by decide) (by decide) lc_15 lt_15 dL_shift_21 (Nat.le_of_ble_eq_true rfl)) ?_
  refine gm_go.ru (gi_const dL_shift_23) ?_
  exact gm_iret dL_shift_24 rfl
set_option maxRecDepth 4000 in
theorem lx_shift_4 {h h' : gm_H} {n o D : Nat} {hs ep fc : Int} {a b : Int} (hB : h.1[n]? = some (by_c n hs ep fc)) (hD : D < 12) (hc : gm_co mX10_shift D [.ref n, .int (zI a), .int (zI b)] h (.inr "java/lang/UnsupportedOperationException") h') : gm_co mL_shift 12 [.ref n, .int (zI a), .int (zI b), .ref o] h (.inl (some (.int (zI 4)))) h' := by
  refine gm_co_ofH _ (by decide +kernel) (List.cons_ne_nil _ _) (Nat.le_of_ble_eq_true rfl) rfl ?_
  refine gm_go.ru (gm_aload_n dL_shift_0 rfl (by first | exact Or.inl ⟨_, rfl⟩ | exact Or.inr ⟨_, rfl⟩)) ?_
  refine gm_go.ru (gi_const dL_shift_1) ?_
  refine gm_go.ru (gm_aload_n dL_shift_2 rfl (by first | exact Or.inl ⟨_, rfl⟩ | exact Or.inr ⟨_, rfl⟩)) ?_
  refine gm_go.ru (gm_iload_n dL_shift_3 rfl) ?_
  refine gm_go.ru (gm_iload_n dL_shift_4 rfl) ?_
  refine gm_go.ru (gm_catch_w (gm_runV (As := [.int (zI a), .int (zI b)]) (rest := [.int (zI 0), .ref o]) dL_shift_5 hc mt_X10_shift mv_X10_shift (lk_L_23 rfl) (Or.inl ⟨_, 11, _, _, _, rfl, hB, rfl⟩) rfl (Nat.le_of_ble_eq_true rfl) hD) [⟨0, 10, 13, 21⟩, ⟨0, 10, 17, 13⟩, ⟨0, 10, 21, 15⟩] ⟨0, 10, 25, 27⟩ [] rfl (List.forall_mem_cons.mpr ⟨Or.inr ⟨by decide, _, lc_21, by decide +kernel⟩, List.forall_mem_cons.mpr ⟨Or.inr ⟨by decide, _, lc_13, by decide +kernel⟩, List.forall_mem_cons.mpr ⟨Or.inr ⟨by decide, _, lc_15, by decide +kernel⟩, fun z hz => absurd hz List.not_mem_nil⟩⟩⟩) (by decide) (by decide) lc_27 lt_27 dL_shift_25 (Nat.le_of_ble_eq_true rfl)) ?_
  refine gm_go.ru (gi_const dL_shift_27) ?_
  exact gm_iret dL_shift_28 rfl
set_option maxRecDepth 4000 in
theorem lm_shift {h h' : gm_H} {n o D : Nat} {hs ep fc : Int} {a b : Int} (hB : h.1[n]? = some (by_c n hs ep fc)) (hD : D < 12) {y : Nat} (hy : y < 7) (h0 : ¬ zCd 2 y = 0) (hc : gm_co mX10_shift D [.ref n, .int (zI a), .int (zI b)] h (.inr (zXc y)) h') : gm_co mL_shift 12 [.ref n, .int (zI a), .int (zI b), .ref o] h (.inl (some (.int (zI (zCd 2 y))))) h' := by
  match y, hy, h0, hc with
  | 0, _, h0, hc => exact absurd rfl h0
  | 1, _, h0, hc => exact lx_shift_1 hB hD hc
  | 2, _, h0, hc => exact lx_shift_2 hB hD hc
  | 3, _, h0, hc => exact lx_shift_3 hB hD hc
  | 4, _, h0, hc => exact absurd rfl h0
  | 5, _, h0, hc => exact lx_shift_4 hB hD hc
  | 6, _, h0, hc => exact absurd rfl h0
  | y + 7, hy, _, _ => omega
set_option maxRecDepth 4000 in
theorem lh_correct {h h' : gm_H} {n o D : Nat} {hs ep fc : Int} {a : Int} (hB : h.1[n]? = some (by_c n hs ep fc)) (hD : D < 12) {r : Int} (hr : zR r) (hc : gm_co mX10_correct D [.ref n, .int (zI a)] h (.inl (some (.int (zI r)))) h') {f : Nat → Int64} (ho : h'.1[o]? = some (gLo f)) : ∃ f', gm_co mL_correct 12 [.ref n, .int (zI a), .ref o] h (.inl (some (.int (zI 0)))) (h'.1.set o (gLo f'), h'.2) ∧ f' 0 = zL r := by
  refine ⟨vp_updL f (zI 0).toNatClampNeg (zL r), ?_, by rw [z_0cl]; exact if_pos rfl⟩
  refine gm_co_ofH _ (by decide +kernel) (List.cons_ne_nil _ _) (Nat.le_of_ble_eq_true rfl) rfl ?_
  refine gm_go.ru (gm_aload_n dL_correct_0 rfl (by first | exact Or.inl ⟨_, rfl⟩ | exact Or.inr ⟨_, rfl⟩)) ?_
  refine gm_go.ru (gi_const dL_correct_1) ?_
  refine gm_go.ru (gm_aload_n dL_correct_2 rfl (by first | exact Or.inl ⟨_, rfl⟩ | exact Or.inr ⟨_, rfl⟩)) ?_
  refine gm_go.ru (gm_iload_n dL_correct_3 rfl) ?_
  refine gm_go.ru (gm_cV dL_correct_4 (hc) rfl mt_X10_correct mv_X10_correct (lk_L_29 rfl) (Or.inl ⟨_, 11, _, _, _, rfl, hB, rfl⟩) rfl (Nat.le_of_ble_eq_true rfl) hD) ?_
  refine gm_go.ru (gi_i2l dL_correct_7 hr) ?_
  refine gm_go.ru (gm_last dL_correct_8 ho z_0in) ?_
  refine gm_go.ru (gm_goto (tgt := 21) dL_correct_9 (by decide)) ?_
  refine gm_go.ru (gi_const dL_correct_21) ?_
  exact gm_iret dL_correct_22 rfl
set_option maxRecDepth 4000 in
theorem lx_correct_1 {h h' : gm_H} {n o D : Nat} {hs ep fc : Int} {a : Int} (hB : h.1[n]? = some (by_c n hs ep fc)) (hD : D < 12) (hc : gm_co mX10_correct D [.ref n, .int (zI a)] h (.inr "java/lang/IndexOutOfBoundsException") h') : gm_co mL_correct 12 [.ref n, .int (zI a), .ref o] h (.inl (some (.int (zI 1)))) h' := by
  refine gm_co_ofH _ (by decide +kernel) (List.cons_ne_nil _ _) (Nat.le_of_ble_eq_true rfl) rfl ?_
  refine gm_go.ru (gm_aload_n dL_correct_0 rfl (by first | exact Or.inl ⟨_, rfl⟩ | exact Or.inr ⟨_, rfl⟩)) ?_
  refine gm_go.ru (gi_const dL_correct_1) ?_
  refine gm_go.ru (gm_aload_n dL_correct_2 rfl (by first | exact Or.inl ⟨_, rfl⟩ | exact Or.inr ⟨_, rfl⟩)) ?_
  refine gm_go.ru (gm_iload_n dL_correct_3 rfl) ?_
  refine gm_go.ru (gm_catch_n (gm_runV (As := [.int (zI a)]) (rest := [.int (zI 0), .ref o]) dL_correct_4 hc mt_X10_correct mv_X10_correct (lk_L_29 rfl) (Or.inl ⟨_, 11, _, _, _, rfl, hB, rfl⟩) rfl (Nat.le_of_ble_eq_true rfl) hD) [] ⟨0, 9, 12, 21⟩ [⟨0, 9, 15, 15⟩, ⟨0, 9, 18, 27⟩] rfl (fun z hz => absurd hz List.not_mem_nil) (by decide) (by decide) lc_21 lt_21 dL_correct_12 (Nat.le_of_ble_eq_true rfl)) ?_
  refine gm_go.ru (gi_const dL_correct_13) ?_
  exact gm_iret dL_correct_14 rfl
set_option maxRecDepth 4000 in
theorem lx_correct_2 {h h' : gm_H} {n o D : Nat} {hs ep fc : Int} {a : Int} (hB : h.1[n]? = some (by_c n hs ep fc)) (hD : D < 12) (hc : gm_co mX10_correct D [.ref n, .int (zI a)] h (.inr "java/lang/IllegalStateException") h') : gm_co mL_correct 12 [.ref n, .int (zI a), .ref o] h (.inl (some (.int (zI 2)))) h' := by
  refine gm_co_ofH _ (by decide +kernel) (List.cons_ne_nil _ _) (Nat.le_of_ble_eq_true rfl) rfl ?_
  refine gm_go.ru (gm_aload_n dL_correct_0 rfl (by first | exact Or.inl ⟨_, rfl⟩ | exact Or.inr ⟨_, rfl⟩)) ?_
  refine gm_go.ru (gi_const dL_correct_1) ?_
  refine gm_go.ru (gm_aload_n dL_correct_2 rfl (by first | exact Or.inl ⟨_, rfl⟩ | exact Or.inr ⟨_, rfl⟩)) ?_
  refine gm_go.ru (gm_iload_n dL_correct_3 rfl) ?_
  refine gm_go.ru (gm_catch_n (gm_runV (As := [.int (zI a)]) (rest := [.int (zI 0), .ref o]) dL_correct_4 hc mt_X10_correct mv_X10_correct (lk_L_29 rfl) (Or.inl ⟨_, 11, _, _, _, rfl, hB, rfl⟩) rfl (Nat.le_of_ble_eq_true rfl) hD) [⟨0, 9, 12, 21⟩] ⟨0, 9, 15, 15⟩ [⟨0, 9, 18, 27⟩] rfl (List.forall_mem_cons.mpr ⟨Or.inr ⟨by decide, _, lc_21, by decide +kernel⟩, fun z hz => absurd hz List.not_mem_nil⟩) (by decide) (by decide) lc_15 lt_15 dL_correct_15 (Nat.le_of_ble_eq_true rfl)) ?_
  refine gm_go.ru (gi_const dL_correct_16) ?_
  exact gm_iret dL_correct_17 rfl
set_option maxRecDepth 4000 in
theorem lx_correct_3 {h h' : gm_H} {n o D : Nat} {hs ep fc : Int} {a : Int} (hB : h.1[n]? = some (by_c n hs ep fc)) (hD : D < 12) (hc : gm_co mX10_correct D [.ref n, .int (zI a)] h (.inr "java/lang/UnsupportedOperationException") h') : gm_co mL_correct 12 [.ref n, .int (zI a), .ref o] h (.inl (some (.int (zI 3)))) h' := by
  refine gm_co_ofH _ (by decide +kernel) (List.cons_ne_nil _ _) (Nat.le_of_ble_eq_true rfl) rfl ?_
  refine gm_go.ru (gm_aload_n dL_correct_0 rfl (by first | exact Or.inl ⟨_, rfl⟩ | exact Or.inr ⟨_, rfl⟩)) ?_
  refine gm_go.ru (gi_const dL_correct_1) ?_
  refine gm_go.ru (gm_aload_n dL_correct_2 rfl (by first | exact Or.inl ⟨_, rfl⟩ | exact Or.inr ⟨_, rfl⟩)) ?_
  refine gm_go.ru (gm_iload_n dL_correct_3 rfl) ?_
  refine gm_go.ru (gm_catch_n (gm_runV (As := [.int (zI a)]) (rest := [.int (zI 0), .ref o]) dL_correct_4 hc mt_X10_correct mv_X10_correct (lk_L_29 rfl) (Or.inl ⟨_, 11, _, _, _, rfl, hB, rfl⟩) rfl (Nat.le_of_ble_eq_true rfl) hD) [⟨0, 9, 12, 21⟩, ⟨0, 9, 15, 15⟩] ⟨0, 9, 18, 27⟩ [] rfl (List.forall_mem_cons.mpr ⟨Or.inr ⟨by decide, _, lc_21, by decide +kernel⟩, List.forall_mem_cons.mpr ⟨Or.inr ⟨by decide, _, lc_15, by decide +kernel⟩, fun z hz => absurd hz List.not_mem_nil⟩⟩) (by decide) (by decide) lc_27 lt_27 dL_correct_18 (Nat.le_of_ble_eq_true rfl)) ?_
  refine gm_go.ru (gi_const dL_correct_19) ?_
  exact gm_iret dL_correct_20 rfl
set_option maxRecDepth 4000 in
theorem lm_correct {h h' : gm_H} {n o D : Nat} {hs ep fc : Int} {a : Int} (hB : h.1[n]? = some (by_c n hs ep fc)) (hD : D < 12) {y : Nat} (hy : y < 7) (h0 : ¬ zCd 3 y = 0) (hc : gm_co mX10_correct D [.ref n, .int (zI a)] h (.inr (zXc y)) h') : gm_co mL_correct 12 [.ref n, .int (zI a), .ref o] h (.inl (some (.int (zI (zCd 3 y))))) h' := by
  match y, hy, h0, hc with
  | 0, _, h0, hc => exact absurd rfl h0
  | 1, _, h0, hc => exact lx_correct_1 hB hD hc
  | 2, _, h0, hc => exact absurd rfl h0
  | 3, _, h0, hc => exact lx_correct_2 hB hD hc
  | 4, _, h0, hc => exact absurd rfl h0
  | 5, _, h0, hc => exact lx_correct_3 hB hD hc
  | 6, _, h0, hc => exact absurd rfl h0
  | y + 7, hy, _, _ => omega
set_option maxRecDepth 4000 in
theorem lh_discard {h h' : gm_H} {n o D : Nat} {hs ep fc : Int} {a : Int} (hB : h.1[n]? = some (by_c n hs ep fc)) (hD : D < 12) {r : Int} (hr : zR r) (hc : gm_co mX10_discard D [.ref n, .int (zI a)] h (.inl (some (.int (zI r)))) h') {f : Nat → Int64} (ho : h'.1[o]? = some (gLo f)) : ∃ f', gm_co mL_discard 12 [.ref n, .int (zI a), .ref o] h (.inl (some (.int (zI 0)))) (h'.1.set o (gLo f'), h'.2) ∧ f' 0 = zL r := by
  refine ⟨vp_updL f (zI 0).toNatClampNeg (zL r), ?_, by rw [z_0cl]; exact if_pos rfl⟩
  refine gm_co_ofH _ (by decide +kernel) (List.cons_ne_nil _ _) (Nat.le_of_ble_eq_true rfl) rfl ?_
  refine gm_go.ru (gm_aload_n dL_discard_0 rfl (by first | exact Or.inl ⟨_, rfl⟩ | exact Or.inr ⟨_, rfl⟩)) ?_
  refine gm_go.ru (gi_const dL_discard_1) ?_
  refine gm_go.ru (gm_aload_n dL_discard_2 rfl (by first | exact Or.inl ⟨_, rfl⟩ | exact Or.inr ⟨_, rfl⟩)) ?_
  refine gm_go.ru (gm_iload_n dL_discard_3 rfl) ?_
  refine gm_go.ru (gm_cV dL_discard_4 (hc) rfl mt_X10_discard mv_X10_discard (lk_L_32 rfl) (Or.inl ⟨_, 11, _, _, _, rfl, hB, rfl⟩) rfl (Nat.le_of_ble_eq_true rfl) hD) ?_
  refine gm_go.ru (gi_i2l dL_discard_7 hr) ?_
  refine gm_go.ru (gm_last dL_discard_8 ho z_0in) ?_
  refine gm_go.ru (gm_goto (tgt := 18) dL_discard_9 (by decide)) ?_
  refine gm_go.ru (gi_const dL_discard_18) ?_
  exact gm_iret dL_discard_19 rfl
set_option maxRecDepth 4000 in
theorem lx_discard_1 {h h' : gm_H} {n o D : Nat} {hs ep fc : Int} {a : Int} (hB : h.1[n]? = some (by_c n hs ep fc)) (hD : D < 12) (hc : gm_co mX10_discard D [.ref n, .int (zI a)] h (.inr "java/lang/IndexOutOfBoundsException") h') : gm_co mL_discard 12 [.ref n, .int (zI a), .ref o] h (.inl (some (.int (zI 1)))) h' := by
  refine gm_co_ofH _ (by decide +kernel) (List.cons_ne_nil _ _) (Nat.le_of_ble_eq_true rfl) rfl ?_
  refine gm_go.ru (gm_aload_n dL_discard_0 rfl (by first | exact Or.inl ⟨_, rfl⟩ | exact Or.inr ⟨_, rfl⟩)) ?_
  refine gm_go.ru (gi_const dL_discard_1) ?_
  refine gm_go.ru (gm_aload_n dL_discard_2 rfl (by first | exact Or.inl ⟨_, rfl⟩ | exact Or.inr ⟨_, rfl⟩)) ?_
  refine gm_go.ru (gm_iload_n dL_discard_3 rfl) ?_
  refine gm_go.ru (gm_catch_n (gm_runV (As := [.int (zI a)]) (rest := [.int (zI 0), .ref o]) dL_discard_4 hc mt_X10_discard mv_X10_discard (lk_L_32 rfl) (Or.inl ⟨_, 11, _, _, _, rfl, hB, rfl⟩) rfl (Nat.le_of_ble_eq_true rfl) hD) [] ⟨0, 9, 12, 21⟩ [⟨0, 9, 15, 15⟩] rfl (fun z hz => absurd hz List.not_mem_nil) (by decide) (by decide) lc_21 lt_21 dL_discard_12 (Nat.le_of_ble_eq_true rfl)) ?_
  refine gm_go.ru (gi_const dL_discard_13) ?_
  exact gm_iret dL_discard_14 rfl
set_option maxRecDepth 4000 in
theorem lx_discard_2 {h h' : gm_H} {n o D : Nat} {hs ep fc : Int} {a : Int} (hB : h.1[n]? = some (by_c n hs ep fc)) (hD : D < 12) (hc : gm_co mX10_discard D [.ref n, .int (zI a)] h (.inr "java/lang/IllegalStateException") h') : gm_co mL_discard 12 [.ref n, .int (zI a), .ref o] h (.inl (some (.int (zI 2)))) h' := by
  refine gm_co_ofH _ (by decide +kernel) (List.cons_ne_nil _ _) (Nat.le_of_ble_eq_true rfl) rfl ?_
  refine gm_go.ru (gm_aload_n dL_discard_0 rfl (by first | exact Or.inl ⟨_, rfl⟩ | exact Or.inr ⟨_, rfl⟩)) ?_
  refine gm_go.ru (gi_const dL_discard_1) ?_
  refine gm_go.ru (gm_aload_n dL_discard_2 rfl (by first | exact Or.inl ⟨_, rfl⟩ | exact Or.inr ⟨_, rfl⟩)) ?_
  refine gm_go.ru (gm_iload_n dL_discard_3 rfl) ?_
  refine gm_go.ru (gm_catch_n (gm_runV (As := [.int (zI a)]) (rest := [.int (zI 0), .ref o]) dL_discard_4 hc mt_X10_discard mv_X10_discard (lk_L_32 rfl) (Or.inl ⟨_, 11, _, _, _, rfl, hB, rfl⟩) rfl (Nat.le_of_ble_eq_true rfl) hD) [⟨0, 9, 12, 21⟩] ⟨0, 9, 15, 15⟩ [] rfl (List.forall_mem_cons.mpr ⟨Or.inr ⟨by decide, _, lc_21, by decide +kernel⟩, fun z hz => absurd hz List.not_mem_nil⟩) (by decide) (by decide) lc_15 lt_15 dL_discard_15 (Nat.le_of_ble_eq_true rfl)) ?_
  refine gm_go.ru (gi_const dL_discard_16) ?_
  exact gm_iret dL_discard_17 rfl
set_option maxRecDepth 4000 in
theorem lm_discard {h h' : gm_H} {n o D : Nat} {hs ep fc : Int} {a : Int} (hB : h.1[n]? = some (by_c n hs ep fc)) (hD : D < 12) {y : Nat} (hy : y < 7) (h0 : ¬ zCd 4 y = 0) (hc : gm_co mX10_discard D [.ref n, .int (zI a)] h (.inr (zXc y)) h') : gm_co mL_discard 12 [.ref n, .int (zI a), .ref o] h (.inl (some (.int (zI (zCd 4 y))))) h' := by
  match y, hy, h0, hc with
  | 0, _, h0, hc => exact absurd rfl h0
  | 1, _, h0, hc => exact lx_discard_1 hB hD hc
  | 2, _, h0, hc => exact absurd rfl h0
  | 3, _, h0, hc => exact lx_discard_2 hB hD hc
  | 4, _, h0, hc => exact absurd rfl h0
  | 5, _, h0, hc => exact absurd rfl h0
  | 6, _, h0, hc => exact absurd rfl h0
  | y + 7, hy, _, _ => omega
set_option maxRecDepth 4000 in
theorem lh_setTolerance {h h' : gm_H} {n o D : Nat} {hs ep fc : Int} {a : Int} (hB : h.1[n]? = some (by_c n hs ep fc)) (hD : D < 12) {r : Int} (hr : zR r) (hc : gm_co mX10_setTolerance D [.ref n, .int (zI a)] h (.inl (some (.int (zI r)))) h') {f : Nat → Int64} (ho : h'.1[o]? = some (gLo f)) : ∃ f', gm_co mL_setTolerance 12 [.ref n, .int (zI a), .ref o] h (.inl (some (.int (zI 0)))) (h'.1.set o (gLo f'), h'.2) ∧ f' 0 = zL r := by
  refine ⟨vp_updL f (zI 0).toNatClampNeg (zL r), ?_, by rw [z_0cl]; exact if_pos rfl⟩
  refine gm_co_ofH _ (by decide +kernel) (List.cons_ne_nil _ _) (Nat.le_of_ble_eq_true rfl) rfl ?_
  refine gm_go.ru (gm_aload_n dL_setTolerance_0 rfl (by first | exact Or.inl ⟨_, rfl⟩ | exact Or.inr ⟨_, rfl⟩)) ?_
  refine gm_go.ru (gi_const dL_setTolerance_1) ?_
  refine gm_go.ru (gm_aload_n dL_setTolerance_2 rfl (by first | exact Or.inl ⟨_, rfl⟩ | exact Or.inr ⟨_, rfl⟩)) ?_
  refine gm_go.ru (gm_iload_n dL_setTolerance_3 rfl) ?_
  refine gm_go.ru (gm_cV dL_setTolerance_4 (hc) rfl mt_X10_setTolerance mv_X10_setTolerance (lk_L_35 rfl) (Or.inl ⟨_, 11, _, _, _, rfl, hB, rfl⟩) rfl (Nat.le_of_ble_eq_true rfl) hD) ?_
  refine gm_go.ru (gi_i2l dL_setTolerance_7 hr) ?_
  refine gm_go.ru (gm_last dL_setTolerance_8 ho z_0in) ?_
  refine gm_go.ru (gm_goto (tgt := 15) dL_setTolerance_9 (by decide)) ?_
  refine gm_go.ru (gi_const dL_setTolerance_15) ?_
  exact gm_iret dL_setTolerance_16 rfl
set_option maxRecDepth 4000 in
theorem lx_setTolerance_1 {h h' : gm_H} {n o D : Nat} {hs ep fc : Int} {a : Int} (hB : h.1[n]? = some (by_c n hs ep fc)) (hD : D < 12) (hc : gm_co mX10_setTolerance D [.ref n, .int (zI a)] h (.inr "java/lang/IllegalArgumentException") h') : gm_co mL_setTolerance 12 [.ref n, .int (zI a), .ref o] h (.inl (some (.int (zI 1)))) h' := by
  refine gm_co_ofH _ (by decide +kernel) (List.cons_ne_nil _ _) (Nat.le_of_ble_eq_true rfl) rfl ?_
  refine gm_go.ru (gm_aload_n dL_setTolerance_0 rfl (by first | exact Or.inl ⟨_, rfl⟩ | exact Or.inr ⟨_, rfl⟩)) ?_
  refine gm_go.ru (gi_const dL_setTolerance_1) ?_
  refine gm_go.ru (gm_aload_n dL_setTolerance_2 rfl (by first | exact Or.inl ⟨_, rfl⟩ | exact Or.inr ⟨_, rfl⟩)) ?_
  refine gm_go.ru (gm_iload_n dL_setTolerance_3 rfl) ?_
  refine gm_go.ru (gm_catch_n (gm_runV (As := [.int (zI a)]) (rest := [.int (zI 0), .ref o]) dL_setTolerance_4 hc mt_X10_setTolerance mv_X10_setTolerance (lk_L_35 rfl) (Or.inl ⟨_, 11, _, _, _, rfl, hB, rfl⟩) rfl (Nat.le_of_ble_eq_true rfl) hD) [] ⟨0, 9, 12, 13⟩ [] rfl (fun z hz => absurd hz List.not_mem_nil) (by decide) (by decide) lc_13 lt_13 dL_setTolerance_12 (Nat.le_of_ble_eq_true rfl)) ?_
  refine gm_go.ru (gi_const dL_setTolerance_13) ?_
  exact gm_iret dL_setTolerance_14 rfl
set_option maxRecDepth 4000 in
theorem lm_setTolerance {h h' : gm_H} {n o D : Nat} {hs ep fc : Int} {a : Int} (hB : h.1[n]? = some (by_c n hs ep fc)) (hD : D < 12) {y : Nat} (hy : y < 7) (h0 : ¬ zCd 5 y = 0) (hc : gm_co mX10_setTolerance D [.ref n, .int (zI a)] h (.inr (zXc y)) h') : gm_co mL_setTolerance 12 [.ref n, .int (zI a), .ref o] h (.inl (some (.int (zI (zCd 5 y))))) h' := by
  match y, hy, h0, hc with
  | 0, _, h0, hc => exact absurd rfl h0
  | 1, _, h0, hc => exact absurd rfl h0
  | 2, _, h0, hc => exact lx_setTolerance_1 hB hD hc
  | 3, _, h0, hc => exact absurd rfl h0
  | 4, _, h0, hc => exact absurd rfl h0
  | 5, _, h0, hc => exact absurd rfl h0
  | 6, _, h0, hc => exact absurd rfl h0
  | y + 7, hy, _, _ => omega
set_option maxRecDepth 4000 in
theorem lh_strengthOf {h h' : gm_H} {n o D : Nat} {hs ep fc : Int} {a : Int} (hB : h.1[n]? = some (by_c n hs ep fc)) (hD : D < 12) {r : Int} (hr : zR r) (hc : gm_co mX10_strengthOf D [.ref n, .int (zI a)] h (.inl (some (.int (zI r)))) h') {f : Nat → Int64} (ho : h'.1[o]? = some (gLo f)) : ∃ f', gm_co mL_strengthOf 12 [.ref n, .int (zI a), .ref o] h (.inl (some (.int (zI 0)))) (h'.1.set o (gLo f'), h'.2) ∧ f' 0 = zL r := by
  refine ⟨vp_updL f (zI 0).toNatClampNeg (zL r), ?_, by rw [z_0cl]; exact if_pos rfl⟩
  refine gm_co_ofH _ (by decide +kernel) (List.cons_ne_nil _ _) (Nat.le_of_ble_eq_true rfl) rfl ?_
  refine gm_go.ru (gm_aload_n dL_strengthOf_0 rfl (by first | exact Or.inl ⟨_, rfl⟩ | exact Or.inr ⟨_, rfl⟩)) ?_
  refine gm_go.ru (gi_const dL_strengthOf_1) ?_
  refine gm_go.ru (gm_aload_n dL_strengthOf_2 rfl (by first | exact Or.inl ⟨_, rfl⟩ | exact Or.inr ⟨_, rfl⟩)) ?_
  refine gm_go.ru (gm_iload_n dL_strengthOf_3 rfl) ?_
  refine gm_go.ru (gm_cV dL_strengthOf_4 (hc) rfl mt_X10_strengthOf mv_X10_strengthOf (lk_L_38 rfl) (Or.inl ⟨_, 11, _, _, _, rfl, hB, rfl⟩) rfl (Nat.le_of_ble_eq_true rfl) hD) ?_
  refine gm_go.ru (gi_i2l dL_strengthOf_7 hr) ?_
  refine gm_go.ru (gm_last dL_strengthOf_8 ho z_0in) ?_
  refine gm_go.ru (gm_goto (tgt := 15) dL_strengthOf_9 (by decide)) ?_
  refine gm_go.ru (gi_const dL_strengthOf_15) ?_
  exact gm_iret dL_strengthOf_16 rfl
set_option maxRecDepth 4000 in
theorem lx_strengthOf_1 {h h' : gm_H} {n o D : Nat} {hs ep fc : Int} {a : Int} (hB : h.1[n]? = some (by_c n hs ep fc)) (hD : D < 12) (hc : gm_co mX10_strengthOf D [.ref n, .int (zI a)] h (.inr "java/lang/IndexOutOfBoundsException") h') : gm_co mL_strengthOf 12 [.ref n, .int (zI a), .ref o] h (.inl (some (.int (zI 1)))) h' := by
  refine gm_co_ofH _ (by decide +kernel) (List.cons_ne_nil _ _) (Nat.le_of_ble_eq_true rfl) rfl ?_
  refine gm_go.ru (gm_aload_n dL_strengthOf_0 rfl (by first | exact Or.inl ⟨_, rfl⟩ | exact Or.inr ⟨_, rfl⟩)) ?_
  refine gm_go.ru (gi_const dL_strengthOf_1) ?_
  refine gm_go.ru (gm_aload_n dL_strengthOf_2 rfl (by first | exact Or.inl ⟨_, rfl⟩ | exact Or.inr ⟨_, rfl⟩)) ?_
  refine gm_go.ru (gm_iload_n dL_strengthOf_3 rfl) ?_
  refine gm_go.ru (gm_catch_n (gm_runV (As := [.int (zI a)]) (rest := [.int (zI 0), .ref o]) dL_strengthOf_4 hc mt_X10_strengthOf mv_X10_strengthOf (lk_L_38 rfl) (Or.inl ⟨_, 11, _, _, _, rfl, hB, rfl⟩) rfl (Nat.le_of_ble_eq_true rfl) hD) [] ⟨0, 9, 12, 21⟩ [] rfl (fun z hz => absurd hz List.not_mem_nil) (by decide) (by decide) lc_21 lt_21 dL_strengthOf_12 (Nat.le_of_ble_eq_true rfl)) ?_
  refine gm_go.ru (gi_const dL_strengthOf_13) ?_
  exact gm_iret dL_strengthOf_14 rfl
set_option maxRecDepth 4000 in
theorem lh_isDiscarded {h h' : gm_H} {n o D : Nat} {hs ep fc : Int} {a : Int} (hB : h.1[n]? = some (by_c n hs ep fc)) (hD : D < 12) {r : Bool} (hc : gm_co mX10_isDiscarded D [.ref n, .int (zI a)] h (.inl (some (.int (zI (zB r))))) h') {f : Nat → Int64} (ho : h'.1[o]? = some (gLo f)) : ∃ f', gm_co mL_isDiscarded 12 [.ref n, .int (zI a), .ref o] h (.inl (some (.int (zI 0)))) (h'.1.set o (gLo f'), h'.2) ∧ f' 0 = zL (zB r) := by
  refine ⟨vp_updL f (zI 0).toNatClampNeg (zL (zB r)), ?_, by rw [z_0cl]; exact if_pos rfl⟩
  refine gm_co_ofH _ (by decide +kernel) (List.cons_ne_nil _ _) (Nat.le_of_ble_eq_true rfl) rfl ?_
  refine gm_go.ru (gm_aload_n dL_isDiscarded_0 rfl (by first | exact Or.inl ⟨_, rfl⟩ | exact Or.inr ⟨_, rfl⟩)) ?_
  refine gm_go.ru (gi_const dL_isDiscarded_1) ?_
  refine gm_go.ru (gm_aload_n dL_isDiscarded_2 rfl (by first | exact Or.inl ⟨_, rfl⟩ | exact Or.inr ⟨_, rfl⟩)) ?_
  refine gm_go.ru (gm_iload_n dL_isDiscarded_3 rfl) ?_
  refine gm_go.ru (gm_cV dL_isDiscarded_4 (hc) rfl mt_X10_isDiscarded mv_X10_isDiscarded (lk_L_41 rfl) (Or.inl ⟨_, 11, _, _, _, rfl, hB, rfl⟩) rfl (Nat.le_of_ble_eq_true rfl) hD) ?_
  cases r
  ·
    refine gm_go.ru (gi_if_eq_t (tgt := 14) dL_isDiscarded_7 (by decide) (by decide) (by decide)) ?_
    refine gm_go.ru (gm_lconst (v := zL 0) (by decide) dL_isDiscarded_14) ?_
    refine gm_go.ru (gm_last dL_isDiscarded_15 ho z_0in) ?_
    refine gm_go.ru (gm_goto (tgt := 22) dL_isDiscarded_16 (by decide)) ?_
    refine gm_go.ru (gi_const dL_isDiscarded_22) ?_
    exact gm_iret dL_isDiscarded_23 rfl
  ·
    refine gm_go.ru (gi_if_eq_f 14 dL_isDiscarded_7 (by decide) (by decide) (by decide)) ?_
    refine gm_go.ru (gm_lconst (v := zL 1) (by decide) dL_isDiscarded_10) ?_
    refine gm_go.ru (gm_goto (tgt := 15) dL_isDiscarded_11 (by decide)) ?_
    refine gm_go.ru (gm_last dL_isDiscarded_15 ho z_0in) ?_
    refine gm_go.ru (gm_goto (tgt := 22) dL_isDiscarded_16 (by decide)) ?_
    refine gm_go.ru (gi_const dL_isDiscarded_22) ?_
    exact gm_iret dL_isDiscarded_23 rfl
set_option maxRecDepth 4000 in
theorem lx_isDiscarded_1 {h h' : gm_H} {n o D : Nat} {hs ep fc : Int} {a : Int} (hB : h.1[n]? = some (by_c n hs ep fc)) (hD : D < 12) (hc : gm_co mX10_isDiscarded D [.ref n, .int (zI a)] h (.inr "java/lang/IndexOutOfBoundsException") h') : gm_co mL_isDiscarded 12 [.ref n, .int (zI a), .ref o] h (.inl (some (.int (zI 1)))) h' := by
  refine gm_co_ofH _ (by decide +kernel) (List.cons_ne_nil _ _) (Nat.le_of_ble_eq_true rfl) rfl ?_
  refine gm_go.ru (gm_aload_n dL_isDiscarded_0 rfl (by first | exact Or.inl ⟨_, rfl⟩ | exact Or.inr ⟨_, rfl⟩)) ?_
  refine gm_go.ru (gi_const dL_isDiscarded_1) ?_
  refine gm_go.ru (gm_aload_n dL_isDiscarded_2 rfl (by first | exact Or.inl ⟨_, rfl⟩ | exact Or.inr ⟨_, rfl⟩)) ?_
  refine gm_go.ru (gm_iload_n dL_isDiscarded_3 rfl) ?_
  refine gm_go.ru (gm_catch_n (gm_runV (As := [.int (zI a)]) (rest := [.int (zI 0), .ref o]) dL_isDiscarded_4 hc mt_X10_isDiscarded mv_X10_isDiscarded (lk_L_41 rfl) (Or.inl ⟨_, 11, _, _, _, rfl, hB, rfl⟩) rfl (Nat.le_of_ble_eq_true rfl) hD) [] ⟨0, 16, 19, 21⟩ [] rfl (fun z hz => absurd hz List.not_mem_nil) (by decide) (by decide) lc_21 lt_21 dL_isDiscarded_19 (Nat.le_of_ble_eq_true rfl)) ?_
  refine gm_go.ru (gi_const dL_isDiscarded_20) ?_
  exact gm_iret dL_isDiscarded_21 rfl
set_option maxRecDepth 4000 in
theorem lh_isReject {h h' : gm_H} {n o D : Nat} {hs ep fc : Int} {a : Int} (hB : h.1[n]? = some (by_c n hs ep fc)) (hD : D < 12) {r : Bool} (hc : gm_co mX10_isReject D [.ref n, .int (zI a)] h (.inl (some (.int (zI (zB r))))) h') {f : Nat → Int64} (ho : h'.1[o]? = some (gLo f)) : ∃ f', gm_co mL_isReject 12 [.ref n, .int (zI a), .ref o] h (.inl (some (.int (zI 0)))) (h'.1.set o (gLo f'), h'.2) ∧ f' 0 = zL (zB r) := by
  refine ⟨vp_updL f (zI 0).toNatClampNeg (zL (zB r)), ?_, by rw [z_0cl]; exact if_pos rfl⟩
  refine gm_co_ofH _ (by decide +kernel) (List.cons_ne_nil _ _) (Nat.le_of_ble_eq_true rfl) rfl ?_
  refine gm_go.ru (gm_aload_n dL_isReject_0 rfl (by first | exact Or.inl ⟨_, rfl⟩ | exact Or.inr ⟨_, rfl⟩)) ?_
  refine gm_go.ru (gi_const dL_isReject_1) ?_
  refine gm_go.ru (gm_aload_n dL_isReject_2 rfl (by first | exact Or.inl ⟨_, rfl⟩ | exact Or.inr ⟨_, rfl⟩)) ?_
  refine gm_go.ru (gm_iload_n dL_isReject_3 rfl) ?_
  refine gm_go.ru (gm_cV dL_isReject_4 (hc) rfl mt_X10_isReject mv_X10_isReject (lk_L_45 rfl) (Or.inl ⟨_, 11, _, _, _, rfl, hB, rfl⟩) rfl (Nat.le_of_ble_eq_true rfl) hD) ?_
  cases r
  ·
    refine gm_go.ru (gi_if_eq_t (tgt := 14) dL_isReject_7 (by decide) (by decide) (by decide)) ?_
    refine gm_go.ru (gm_lconst (v := zL 0) (by decide) dL_isReject_14) ?_
    refine gm_go.ru (gm_last dL_isReject_15 ho z_0in) ?_
    refine gm_go.ru (gm_goto (tgt := 22) dL_isReject_16 (by decide)) ?_
    refine gm_go.ru (gi_const dL_isReject_22) ?_
    exact gm_iret dL_isReject_23 rfl
  ·
    refine gm_go.ru (gi_if_eq_f 14 dL_isReject_7 (by decide) (by decide) (by decide)) ?_
    refine gm_go.ru (gm_lconst (v := zL 1) (by decide) dL_isReject_10) ?_
    refine gm_go.ru (gm_goto (tgt := 15) dL_isReject_11 (by decide)) ?_
    refine gm_go.ru (gm_last dL_isReject_15 ho z_0in) ?_
    refine gm_go.ru (gm_goto (tgt := 22) dL_isReject_16 (by decide)) ?_
    refine gm_go.ru (gi_const dL_isReject_22) ?_
    exact gm_iret dL_isReject_23 rfl
set_option maxRecDepth 4000 in
theorem lx_isReject_1 {h h' : gm_H} {n o D : Nat} {hs ep fc : Int} {a : Int} (hB : h.1[n]? = some (by_c n hs ep fc)) (hD : D < 12) (hc : gm_co mX10_isReject D [.ref n, .int (zI a)] h (.inr "java/lang/IndexOutOfBoundsException") h') : gm_co mL_isReject 12 [.ref n, .int (zI a), .ref o] h (.inl (some (.int (zI 1)))) h' := by
  refine gm_co_ofH _ (by decide +kernel) (List.cons_ne_nil _ _) (Nat.le_of_ble_eq_true rfl) rfl ?_
  refine gm_go.ru (gm_aload_n dL_isReject_0 rfl (by first | exact Or.inl ⟨_, rfl⟩ | exact Or.inr ⟨_, rfl⟩)) ?_
  refine gm_go.ru (gi_const dL_isReject_1) ?_
  refine gm_go.ru (gm_aload_n dL_isReject_2 rfl (by first | exact Or.inl ⟨_, rfl⟩ | exact Or.inr ⟨_, rfl⟩)) ?_
  refine gm_go.ru (gm_iload_n dL_isReject_3 rfl) ?_
  refine gm_go.ru (gm_catch_n (gm_runV (As := [.int (zI a)]) (rest := [.int (zI 0), .ref o]) dL_isReject_4 hc mt_X10_isReject mv_X10_isReject (lk_L_45 rfl) (Or.inl ⟨_, 11, _, _, _, rfl, hB, rfl⟩) rfl (Nat.le_of_ble_eq_true rfl) hD) [] ⟨0, 16, 19, 21⟩ [] rfl (fun z hz => absurd hz List.not_mem_nil) (by decide) (by decide) lc_21 lt_21 dL_isReject_19 (Nat.le_of_ble_eq_true rfl)) ?_
  refine gm_go.ru (gi_const dL_isReject_20) ?_
  exact gm_iret dL_isReject_21 rfl
set_option maxRecDepth 4000 in
theorem lh_deviationAt {h h' : gm_H} {n o D : Nat} {hs ep fc : Int} {a b : Int} (hB : h.1[n]? = some (by_c n hs ep fc)) (hD : D < 12) {r : Int} (hr : zR r) (hc : gm_co mX10_deviationAt D [.ref n, .int (zI a), .int (zI b)] h (.inl (some (.int (zI r)))) h') {f : Nat → Int64} (ho : h'.1[o]? = some (gLo f)) : ∃ f', gm_co mL_deviationAt 12 [.ref n, .int (zI a), .int (zI b), .ref o] h (.inl (some (.int (zI 0)))) (h'.1.set o (gLo f'), h'.2) ∧ f' 0 = zL r := by
  refine ⟨vp_updL f (zI 0).toNatClampNeg (zL r), ?_, by rw [z_0cl]; exact if_pos rfl⟩
  refine gm_co_ofH _ (by decide +kernel) (List.cons_ne_nil _ _) (Nat.le_of_ble_eq_true rfl) rfl ?_
  refine gm_go.ru (gm_aload_n dL_deviationAt_0 rfl (by first | exact Or.inl ⟨_, rfl⟩ | exact Or.inr ⟨_, rfl⟩)) ?_
  refine gm_go.ru (gi_const dL_deviationAt_1) ?_
  refine gm_go.ru (gm_aload_n dL_deviationAt_2 rfl (by first | exact Or.inl ⟨_, rfl⟩ | exact Or.inr ⟨_, rfl⟩)) ?_
  refine gm_go.ru (gm_iload_n dL_deviationAt_3 rfl) ?_
  refine gm_go.ru (gm_iload_n dL_deviationAt_4 rfl) ?_
  refine gm_go.ru (gm_cV dL_deviationAt_5 (hc) rfl mt_X10_deviationAt mv_X10_deviationAt (lk_L_48 rfl) (Or.inl ⟨_, 11, _, _, _, rfl, hB, rfl⟩) rfl (Nat.le_of_ble_eq_true rfl) hD) ?_
  refine gm_go.ru (gi_i2l dL_deviationAt_8 hr) ?_
  refine gm_go.ru (gm_last dL_deviationAt_9 ho z_0in) ?_
  refine gm_go.ru (gm_goto (tgt := 21) dL_deviationAt_10 (by decide)) ?_
  refine gm_go.ru (gi_const dL_deviationAt_21) ?_
  exact gm_iret dL_deviationAt_22 rfl
set_option maxRecDepth 4000 in
theorem lx_deviationAt_1 {h h' : gm_H} {n o D : Nat} {hs ep fc : Int} {a b : Int} (hB : h.1[n]? = some (by_c n hs ep fc)) (hD : D < 12) (hc : gm_co mX10_deviationAt D [.ref n, .int (zI a), .int (zI b)] h (.inr "java/lang/IndexOutOfBoundsException") h') : gm_co mL_deviationAt 12 [.ref n, .int (zI a), .int (zI b), .ref o] h (.inl (some (.int (zI 1)))) h' := by
  refine gm_co_ofH _ (by decide +kernel) (List.cons_ne_nil _ _) (Nat.le_of_ble_eq_true rfl) rfl ?_
  refine gm_go.ru (gm_aload_n dL_deviationAt_0 rfl (by first | exact Or.inl ⟨_, rfl⟩ | exact Or.inr ⟨_, rfl⟩)) ?_
  refine gm_go.ru (gi_const dL_deviationAt_1) ?_
  refine gm_go.ru (gm_aload_n dL_deviationAt_2 rfl (by first | exact Or.inl ⟨_, rfl⟩ | exact Or.inr ⟨_, rfl⟩)) ?_
  refine gm_go.ru (gm_iload_n dL_deviationAt_3 rfl) ?_
  refine gm_go.ru (gm_iload_n dL_deviationAt_4 rfl) ?_
  refine gm_go.ru (gm_catch_w (gm_runV (As := [.int (zI a), .int (zI b)]) (rest := [.int (zI 0), .ref o]) dL_deviationAt_5 hc mt_X10_deviationAt mv_X10_deviationAt (lk_L_48 rfl) (Or.inl ⟨_, 11, _, _, _, rfl, hB, rfl⟩) rfl (Nat.le_of_ble_eq_true rfl) hD) [] ⟨0, 10, 13, 21⟩ [⟨0, 10, 17, 13⟩] rfl (fun z hz => absurd hz List.not_mem_nil) (by decide) (by decide) lc_21 lt_21 dL_deviationAt_13 (Nat.le_of_ble_eq_true rfl)) ?_
  refine gm_go.ru (gi_const dL_deviationAt_15) ?_
  exact gm_iret dL_deviationAt_16 rfl
set_option maxRecDepth 4000 in
theorem lx_deviationAt_2 {h h' : gm_H} {n o D : Nat} {hs ep fc : Int} {a b : Int} (hB : h.1[n]? = some (by_c n hs ep fc)) (hD : D < 12) (hc : gm_co mX10_deviationAt D [.ref n, .int (zI a), .int (zI b)] h (.inr "java/lang/IllegalArgumentException") h') : gm_co mL_deviationAt 12 [.ref n, .int (zI a), .int (zI b), .ref o] h (.inl (some (.int (zI 2)))) h' := by
  refine gm_co_ofH _ (by decide +kernel) (List.cons_ne_nil _ _) (Nat.le_of_ble_eq_true rfl) rfl ?_
  refine gm_go.ru (gm_aload_n dL_deviationAt_0 rfl (by first | exact Or.inl ⟨_, rfl⟩ | exact Or.inr ⟨_, rfl⟩)) ?_
  refine gm_go.ru (gi_const dL_deviationAt_1) ?_
  refine gm_go.ru (gm_aload_n dL_deviationAt_2 rfl (by first | exact Or.inl ⟨_, rfl⟩ | exact Or.inr ⟨_, rfl⟩)) ?_
  refine gm_go.ru (gm_iload_n dL_deviationAt_3 rfl) ?_
  refine gm_go.ru (gm_iload_n dL_deviationAt_4 rfl) ?_
  refine gm_go.ru (gm_catch_w (gm_runV (As := [.int (zI a), .int (zI b)]) (rest := [.int (zI 0), .ref o]) dL_deviationAt_5 hc mt_X10_deviationAt mv_X10_deviationAt (lk_L_48 rfl) (Or.inl ⟨_, 11, _, _, _, rfl, hB, rfl⟩) rfl (Nat.le_of_ble_eq_true rfl) hD) [⟨0, 10, 13, 21⟩] ⟨0, 10, 17, 13⟩ [] rfl (List.forall_mem_cons.mpr ⟨Or.inr ⟨by decide, _, lc_21, by decide +kernel⟩, fun z hz => absurd hz List.not_mem_nil⟩) (by decide) (by decide) lc_13 lt_13 dL_deviationAt_17 (Nat.le_of_ble_eq_true rfl)) ?_
  refine gm_go.ru (gi_const dL_deviationAt_19) ?_
  exact gm_iret dL_deviationAt_20 rfl
set_option maxRecDepth 4000 in
theorem lh_trueCourse {h h' : gm_H} {n o D : Nat} {hs ep fc : Int} {a b : Int} (hB : h.1[n]? = some (by_c n hs ep fc)) (hD : D < 12) {r : Int} (hr : zR r) (hc : gm_co mX10_trueCourse D [.ref n, .int (zI a), .int (zI b)] h (.inl (some (.int (zI r)))) h') {f : Nat → Int64} (ho : h'.1[o]? = some (gLo f)) : ∃ f', gm_co mL_trueCourse 12 [.ref n, .int (zI a), .int (zI b), .ref o] h (.inl (some (.int (zI 0)))) (h'.1.set o (gLo f'), h'.2) ∧ f' 0 = zL r := by
  refine ⟨vp_updL f (zI 0).toNatClampNeg (zL r), ?_, by rw [z_0cl]; exact if_pos rfl⟩
  refine gm_co_ofH _ (by decide +kernel) (List.cons_ne_nil _ _) (Nat.le_of_ble_eq_true rfl) rfl ?_
  refine gm_go.ru (gm_aload_n dL_trueCourse_0 rfl (by first | exact Or.inl ⟨_, rfl⟩ | exact Or.inr ⟨_, rfl⟩)) ?_
  refine gm_go.ru (gi_const dL_trueCourse_1) ?_
  refine gm_go.ru (gm_aload_n dL_trueCourse_2 rfl (by first | exact Or.inl ⟨_, rfl⟩ | exact Or.inr ⟨_, rfl⟩)) ?_
  refine gm_go.ru (gm_iload_n dL_trueCourse_3 rfl) ?_
  refine gm_go.ru (gm_iload_n dL_trueCourse_4 rfl) ?_
  refine gm_go.ru (gm_cV dL_trueCourse_5 (hc) rfl mt_X10_trueCourse mv_X10_trueCourse (lk_L_51 rfl) (Or.inl ⟨_, 11, _, _, _, rfl, hB, rfl⟩) rfl (Nat.le_of_ble_eq_true rfl) hD) ?_
  refine gm_go.ru (gi_i2l dL_trueCourse_8 hr) ?_
  refine gm_go.ru (gm_last dL_trueCourse_9 ho z_0in) ?_
  refine gm_go.ru (gm_goto (tgt := 21) dL_trueCourse_10 (by decide)) ?_
  refine gm_go.ru (gi_const dL_trueCourse_21) ?_
  exact gm_iret dL_trueCourse_22 rfl
set_option maxRecDepth 4000 in
theorem lx_trueCourse_1 {h h' : gm_H} {n o D : Nat} {hs ep fc : Int} {a b : Int} (hB : h.1[n]? = some (by_c n hs ep fc)) (hD : D < 12) (hc : gm_co mX10_trueCourse D [.ref n, .int (zI a), .int (zI b)] h (.inr "java/lang/IndexOutOfBoundsException") h') : gm_co mL_trueCourse 12 [.ref n, .int (zI a), .int (zI b), .ref o] h (.inl (some (.int (zI 1)))) h' := by
  refine gm_co_ofH _ (by decide +kernel) (List.cons_ne_nil _ _) (Nat.le_of_ble_eq_true rfl) rfl ?_
  refine gm_go.ru (gm_aload_n dL_trueCourse_0 rfl (by first | exact Or.inl ⟨_, rfl⟩ | exact Or.inr ⟨_, rfl⟩)) ?_
  refine gm_go.ru (gi_const dL_trueCourse_1) ?_
  refine gm_go.ru (gm_aload_n dL_trueCourse_2 rfl (by first | exact Or.inl ⟨_, rfl⟩ | exact Or.inr ⟨_, rfl⟩)) ?_
  refine gm_go.ru (gm_iload_n dL_trueCourse_3 rfl) ?_
  refine gm_go.ru (gm_iload_n dL_trueCourse_4 rfl) ?_
  refine gm_go.ru (gm_catch_w (gm_runV (As := [.int (zI a), .int (zI b)]) (rest := [.int (zI 0), .ref o]) dL_trueCourse_5 hc mt_X10_trueCourse mv_X10_trueCourse (lk_L_51 rfl) (Or.inl ⟨_, 11, _, _, _, rfl, hB, rfl⟩) rfl (Nat.le_of_ble_eq_true rfl) hD) [] ⟨0, 10, 13, 21⟩ [⟨0, 10, 17, 13⟩] rfl (fun z hz => absurd hz List.not_mem_nil) (by decide) (by decide) lc_21 lt_21 dL_trueCourse_13 (Nat.le_of_ble_eq_true rfl)) ?_
  refine gm_go.ru (gi_const dL_trueCourse_15) ?_
  exact gm_iret dL_trueCourse_16 rfl
set_option maxRecDepth 4000 in
theorem lx_trueCourse_2 {h h' : gm_H} {n o D : Nat} {hs ep fc : Int} {a b : Int} (hB : h.1[n]? = some (by_c n hs ep fc)) (hD : D < 12) (hc : gm_co mX10_trueCourse D [.ref n, .int (zI a), .int (zI b)] h (.inr "java/lang/IllegalArgumentException") h') : gm_co mL_trueCourse 12 [.ref n, .int (zI a), .int (zI b), .ref o] h (.inl (some (.int (zI 2)))) h' := by
  refine gm_co_ofH _ (by decide +kernel) (List.cons_ne_nil _ _) (Nat.le_of_ble_eq_true rfl) rfl ?_
  refine gm_go.ru (gm_aload_n dL_trueCourse_0 rfl (by first | exact Or.inl ⟨_, rfl⟩ | exact Or.inr ⟨_, rfl⟩)) ?_
  refine gm_go.ru (gi_const dL_trueCourse_1) ?_
  refine gm_go.ru (gm_aload_n dL_trueCourse_2 rfl (by first | exact Or.inl ⟨_, rfl⟩ | exact Or.inr ⟨_, rfl⟩)) ?_
  refine gm_go.ru (gm_iload_n dL_trueCourse_3 rfl) ?_
  refine gm_go.ru (gm_iload_n dL_trueCourse_4 rfl) ?_
  refine gm_go.ru (gm_catch_w (gm_runV (As := [.int (zI a), .int (zI b)]) (rest := [.int (zI 0), .ref o]) dL_trueCourse_5 hc mt_X10_trueCourse mv_X10_trueCourse (lk_L_51 rfl) (Or.inl ⟨_, 11, _, _, _, rfl, hB, rfl⟩) rfl (Nat.le_of_ble_eq_true rfl) hD) [⟨0, 10, 13, 21⟩] ⟨0, 10, 17, 13⟩ [] rfl (List.forall_mem_cons.mpr ⟨Or.inr ⟨by decide, _, lc_21, by decide +kernel⟩, fun z hz => absurd hz List.not_mem_nil⟩) (by decide) (by decide) lc_13 lt_13 dL_trueCourse_17 (Nat.le_of_ble_eq_true rfl)) ?_
  refine gm_go.ru (gi_const dL_trueCourse_19) ?_
  exact gm_iret dL_trueCourse_20 rfl
set_option maxRecDepth 4000 in
theorem lh_courseFor {h h' : gm_H} {n o D : Nat} {hs ep fc : Int} {a b : Int} (hB : h.1[n]? = some (by_c n hs ep fc)) (hD : D < 12) {r : Int} (hr : zR r) (hc : gm_co mX10_courseFor D [.ref n, .int (zI a), .int (zI b)] h (.inl (some (.int (zI r)))) h') {f : Nat → Int64} (ho : h'.1[o]? = some (gLo f)) : ∃ f', gm_co mL_courseFor 12 [.ref n, .int (zI a), .int (zI b), .ref o] h (.inl (some (.int (zI 0)))) (h'.1.set o (gLo f'), h'.2) ∧ f' 0 = zL r := by
  refine ⟨vp_updL f (zI 0).toNatClampNeg (zL r), ?_, by rw [z_0cl]; exact if_pos rfl⟩
  refine gm_co_ofH _ (by decide +kernel) (List.cons_ne_nil _ _) (Nat.le_of_ble_eq_true rfl) rfl ?_
  refine gm_go.ru (gm_aload_n dL_courseFor_0 rfl (by first | exact Or.inl ⟨_, rfl⟩ | exact Or.inr ⟨_, rfl⟩)) ?_
  refine gm_go.ru (gi_const dL_courseFor_1) ?_
  refine gm_go.ru (gm_aload_n dL_courseFor_2 rfl (by first | exact Or.inl ⟨_, rfl⟩ | exact Or.inr ⟨_, rfl⟩)) ?_
  refine gm_go.ru (gm_iload_n dL_courseFor_3 rfl) ?_
  refine gm_go.ru (gm_iload_n dL_courseFor_4 rfl) ?_
  refine gm_go.ru (gm_cV dL_courseFor_5 (hc) rfl mt_X10_courseFor mv_X10_courseFor (lk_L_54 rfl) (Or.inl ⟨_, 11, _, _, _, rfl, hB, rfl⟩) rfl (Nat.le_of_ble_eq_true rfl) hD) ?_
  refine gm_go.ru (gi_i2l dL_courseFor_8 hr) ?_
  refine gm_go.ru (gm_last dL_courseFor_9 ho z_0in) ?_
  refine gm_go.ru (gm_goto (tgt := 25) dL_courseFor_10 (by decide)) ?_
  refine gm_go.ru (gi_const dL_courseFor_25) ?_
  exact gm_iret dL_courseFor_26 rfl
set_option maxRecDepth 4000 in
theorem lx_courseFor_1 {h h' : gm_H} {n o D : Nat} {hs ep fc : Int} {a b : Int} (hB : h.1[n]? = some (by_c n hs ep fc)) (hD : D < 12) (hc : gm_co mX10_courseFor D [.ref n, .int (zI a), .int (zI b)] h (.inr "java/lang/IndexOutOfBoundsException") h') : gm_co mL_courseFor 12 [.ref n, .int (zI a), .int (zI b), .ref o] h (.inl (some (.int (zI 1)))) h' := by
  refine gm_co_ofH _ (by decide +kernel) (List.cons_ne_nil _ _) (Nat.le_of_ble_eq_true rfl) rfl ?_
  refine gm_go.ru (gm_aload_n dL_courseFor_0 rfl (by first | exact Or.inl ⟨_, rfl⟩ | exact Or.inr ⟨_, rfl⟩)) ?_
  refine gm_go.ru (gi_const dL_courseFor_1) ?_
  refine gm_go.ru (gm_aload_n dL_courseFor_2 rfl (by first | exact Or.inl ⟨_, rfl⟩ | exact Or.inr ⟨_, rfl⟩)) ?_
  refine gm_go.ru (gm_iload_n dL_courseFor_3 rfl) ?_
  refine gm_go.ru (gm_iload_n dL_courseFor_4 rfl) ?_
  refine gm_go.ru (gm_catch_w (gm_runV (As := [.int (zI a), .int (zI b)]) (rest := [.int (zI 0), .ref o]) dL_courseFor_5 hc mt_X10_courseFor mv_X10_courseFor (lk_L_54 rfl) (Or.inl ⟨_, 11, _, _, _, rfl, hB, rfl⟩) rfl (Nat.le_of_ble_eq_true rfl) hD) [] ⟨0, 10, 13, 21⟩ [⟨0, 10, 17, 13⟩, ⟨0, 10, 21, 57⟩] rfl (fun z hz => absurd hz List.not_mem_nil) (by decide) (by decide) lc_21 lt_21 dL_courseFor_13 (Nat.le_of_ble_eq_true rfl)) ?_
  refine gm_go.ru (gi_const dL_courseFor_15) ?_
  exact gm_iret dL_courseFor_16 rfl
set_option maxRecDepth 4000 in
theorem lx_courseFor_2 {h h' : gm_H} {n o D : Nat} {hs ep fc : Int} {a b : Int} (hB : h.1[n]? = some (by_c n hs ep fc)) (hD : D < 12) (hc : gm_co mX10_courseFor D [.ref n, .int (zI a), .int (zI b)] h (.inr "java/lang/IllegalArgumentException") h') : gm_co mL_courseFor 12 [.ref n, .int (zI a), .int (zI b), .ref o] h (.inl (some (.int (zI 2)))) h' := by
  refine gm_co_ofH _ (by decide +kernel) (List.cons_ne_nil _ _) (Nat.le_of_ble_eq_true rfl) rfl ?_
  refine gm_go.ru (gm_aload_n dL_courseFor_0 rfl (by first | exact Or.inl ⟨_, rfl⟩ | exact Or.inr ⟨_, rfl⟩)) ?_
  refine gm_go.ru (gi_const dL_courseFor_1) ?_
  refine gm_go.ru (gm_aload_n dL_courseFor_2 rfl (by first | exact Or.inl ⟨_, rfl⟩ | exact Or.inr ⟨_, rfl⟩)) ?_
  refine gm_go.ru (gm_iload_n dL_courseFor_3 rfl) ?_
  refine gm_go.ru (gm_iload_n dL_courseFor_4 rfl) ?_
  refine gm_go.ru (gm_catch_w (gm_runV (As := [.int (zI a), .int (zI b)]) (rest := [.int (zI 0), .ref o]) dL_courseFor_5 hc mt_X10_courseFor mv_X10_courseFor (lk_L_54 rfl) (Or.inl ⟨_, 11, _, _, _, rfl, hB, rfl⟩) rfl (Nat.le_of_ble_eq_true rfl) hD) [⟨0, 10, 13, 21⟩] ⟨0, 10, 17, 13⟩ [⟨0, 10, 21, 57⟩] rfl (List.forall_mem_cons.mpr ⟨Or.inr ⟨by decide, _, lc_21, by decide +kernel⟩, fun z hz => absurd hz List.not_mem_nil⟩) (by decide) (by decide) lc_13 lt_13 dL_courseFor_17 (Nat.le_of_ble_eq_true rfl)) ?_
  refine gm_go.ru (gi_const dL_courseFor_19) ?_
  exact gm_iret dL_courseFor_20 rfl
set_option maxRecDepth 4000 in
theorem lx_courseFor_3 {h h' : gm_H} {n o D : Nat} {hs ep fc : Int} {a b : Int} (hB : h.1[n]? = some (by_c n hs ep fc)) (hD : D < 12) (hc : gm_co mX10_courseFor D [.ref n, .int (zI a), .int (zI b)] h (.inr "java/util/NoSuchElementException") h') : gm_co mL_courseFor 12 [.ref n, .int (zI a), .int (zI b), .ref o] h (.inl (some (.int (zI 3)))) h' := by
  refine gm_co_ofH _ (by decide +kernel) (List.cons_ne_nil _ _) (Nat.le_of_ble_eq_true rfl) rfl ?_
  refine gm_go.ru (gm_aload_n dL_courseFor_0 rfl (by first | exact Or.inl ⟨_, rfl⟩ | exact Or.inr ⟨_, rfl⟩)) ?_
  refine gm_go.ru (gi_const dL_courseFor_1) ?_
  refine gm_go.ru (gm_aload_n dL_courseFor_2 rfl (by first | exact Or.inl ⟨_, rfl⟩ | exact Or.inr ⟨_, rfl⟩)) ?_
  refine gm_go.ru (gm_iload_n dL_courseFor_3 rfl) ?_
  refine gm_go.ru (gm_iload_n dL_courseFor_4 rfl) ?_
  refine gm_go.ru (gm_catch_w (gm_runV (As := [.int (zI a), .int (zI b)]) (rest := [.int (zI 0), .ref o]) dL_courseFor_5 hc mt_X10_courseFor mv_X10_courseFor (lk_L_54 rfl) (Or.inl ⟨_, 11, _, _, _, rfl, hB, rfl⟩) rfl (Nat.le_of_ble_eq_true rfl) hD) [⟨0, 10, 13, 21⟩, ⟨0, 10, 17, 13⟩] ⟨0, 10, 21, 57⟩ [] rfl (List.forall_mem_cons.mpr ⟨Or.inr ⟨by decide, _, lc_21, by decide +kernel⟩, List.forall_mem_cons.mpr ⟨Or.inr ⟨by decide, _, lc_13, by decide +kernel⟩, fun z hz => absurd hz List.not_mem_nil⟩⟩) (by decide) (by decide) lc_57 lt_57 dL_courseFor_21 (Nat.le_of_ble_eq_true rfl)) ?_
  refine gm_go.ru (gi_const dL_courseFor_23) ?_
  exact gm_iret dL_courseFor_24 rfl
set_option maxRecDepth 4000 in
theorem lh_courseForNearby {h h' : gm_H} {n o D : Nat} {hs ep fc : Int} {a b : Int} (hB : h.1[n]? = some (by_c n hs ep fc)) (hD : D < 12) {r : Int} (hr : zR r) (hc : gm_co mX10_courseForNearby D [.ref n, .int (zI a), .int (zI b)] h (.inl (some (.int (zI r)))) h') {f : Nat → Int64} (ho : h'.1[o]? = some (gLo f)) : ∃ f', gm_co mL_courseForNearby 12 [.ref n, .int (zI a), .int (zI b), .ref o] h (.inl (some (.int (zI 0)))) (h'.1.set o (gLo f'), h'.2) ∧ f' 0 = zL r := by
  refine ⟨vp_updL f (zI 0).toNatClampNeg (zL r), ?_, by rw [z_0cl]; exact if_pos rfl⟩
  refine gm_co_ofH _ (by decide +kernel) (List.cons_ne_nil _ _) (Nat.le_of_ble_eq_true rfl) rfl ?_
  refine gm_go.ru (gm_aload_n dL_courseForNearby_0 rfl (by first | exact Or.inl ⟨_, rfl⟩ | exact Or.inr ⟨_, rfl⟩)) ?_
  refine gm_go.ru (gi_const dL_courseForNearby_1) ?_
  refine gm_go.ru (gm_aload_n dL_courseForNearby_2 rfl (by first | exact Or.inl ⟨_, rfl⟩ | exact Or.inr ⟨_, rfl⟩)) ?_
  refine gm_go.ru (gm_iload_n dL_courseForNearby_3 rfl) ?_
  refine gm_go.ru (gm_iload_n dL_courseForNearby_4 rfl) ?_
  refine gm_go.ru (gm_cV dL_courseForNearby_5 (hc) rfl mt_X10_courseForNearby mv_X10_courseForNearby (lk_L_59 rfl) (Or.inl ⟨_, 11, _, _, _, rfl, hB, rfl⟩) rfl (Nat.le_of_ble_eq_true rfl) hD) ?_
  refine gm_go.ru (gi_i2l dL_courseForNearby_8 hr) ?_
  refine gm_go.ru (gm_last dL_courseForNearby_9 ho z_0in) ?_
  refine gm_go.ru (gm_goto (tgt := 25) dL_courseForNearby_10 (by decide)) ?_
  refine gm_go.ru (gi_const dL_courseForNearby_25) ?_
  exact gm_iret dL_courseForNearby_26 rfl
set_option maxRecDepth 4000 in
theorem lx_courseForNearby_1 {h h' : gm_H} {n o D : Nat} {hs ep fc : Int} {a b : Int} (hB : h.1[n]? = some (by_c n hs ep fc)) (hD : D < 12) (hc : gm_co mX10_courseForNearby D [.ref n, .int (zI a), .int (zI b)] h (.inr "java/lang/IndexOutOfBoundsException") h') : gm_co mL_courseForNearby 12 [.ref n, .int (zI a), .int (zI b), .ref o] h (.inl (some (.int (zI 1)))) h' := by
  refine gm_co_ofH _ (by decide +kernel) (List.cons_ne_nil _ _) (Nat.le_of_ble_eq_true rfl) rfl ?_
  refine gm_go.ru (gm_aload_n dL_courseForNearby_0 rfl (by first | exact Or.inl ⟨_, rfl⟩ | exact Or.inr ⟨_, rfl⟩)) ?_
  refine gm_go.ru (gi_const dL_courseForNearby_1) ?_
  refine gm_go.ru (gm_aload_n dL_courseForNearby_2 rfl (by first | exact Or.inl ⟨_, rfl⟩ | exact Or.inr ⟨_, rfl⟩)) ?_
  refine gm_go.ru (gm_iload_n dL_courseForNearby_3 rfl) ?_
  refine gm_go.ru (gm_iload_n dL_courseForNearby_4 rfl) ?_
  refine gm_go.ru (gm_catch_w (gm_runV (As := [.int (zI a), .int (zI b)]) (rest := [.int (zI 0), .ref o]) dL_courseForNearby_5 hc mt_X10_courseForNearby mv_X10_courseForNearby (lk_L_59 rfl) (Or.inl ⟨_, 11, _, _, _, rfl, hB, rfl⟩) rfl (Nat.le_of_ble_eq_true rfl) hD) [] ⟨0, 10, 13, 21⟩ [⟨0, 10, 17, 13⟩, ⟨0, 10, 21, 57⟩] rfl (fun z hz => absurd hz List.not_mem_nil) (by decide) (by decide) lc_21 lt_21 dL_courseForNearby_13 (Nat.le_of_ble_eq_true rfl)) ?_
  refine gm_go.ru (gi_const dL_courseForNearby_15) ?_
  exact gm_iret dL_courseForNearby_16 rfl
set_option maxRecDepth 4000 in
theorem lx_courseForNearby_2 {h h' : gm_H} {n o D : Nat} {hs ep fc : Int} {a b : Int} (hB : h.1[n]? = some (by_c n hs ep fc)) (hD : D < 12) (hc : gm_co mX10_courseForNearby D [.ref n, .int (zI a), .int (zI b)] h (.inr "java/lang/IllegalArgumentException") h') : gm_co mL_courseForNearby 12 [.ref n, .int (zI a), .int (zI b), .ref o] h (.inl (some (.int (zI 2)))) h' := by
  refine gm_co_ofH _ (by decide +kernel) (List.cons_ne_nil _ _) (Nat.le_of_ble_eq_true rfl) rfl ?_
  refine gm_go.ru (gm_aload_n dL_courseForNearby_0 rfl (by first | exact Or.inl ⟨_, rfl⟩ | exact Or.inr ⟨_, rfl⟩)) ?_
  refine gm_go.ru (gi_const dL_courseForNearby_1) ?_
  refine gm_go.ru (gm_aload_n dL_courseForNearby_2 rfl (by first | exact Or.inl ⟨_, rfl⟩ | exact Or.inr ⟨_, rfl⟩)) ?_
  refine gm_go.ru (gm_iload_n dL_courseForNearby_3 rfl) ?_
  refine gm_go.ru (gm_iload_n dL_courseForNearby_4 rfl) ?_
  refine gm_go.ru (gm_catch_w (gm_runV (As := [.int (zI a), .int (zI b)]) (rest := [.int (zI 0), .ref o]) dL_courseForNearby_5 hc mt_X10_courseForNearby mv_X10_courseForNearby (lk_L_59 rfl) (Or.inl ⟨_, 11, _, _, _, rfl, hB, rfl⟩) rfl (Nat.le_of_ble_eq_true rfl) hD) [⟨0, 10, 13, 21⟩] ⟨0, 10, 17, 13⟩ [⟨0, 10, 21, 57⟩] rfl (List.forall_mem_cons.mpr ⟨Or.inr ⟨by decide, _, lc_21, by decide +kernel⟩, fun z hz => absurd hz List.not_mem_nil⟩) (by decide) (by decide) lc_13 lt_13 dL_courseForNearby_17 (Nat.le_of_ble_eq_true rfl)) ?_
  refine gm_go.ru (gi_const dL_courseForNearby_19) ?_
  exact gm_iret dL_courseForNearby_20 rfl
set_option maxRecDepth 4000 in
theorem lx_courseForNearby_3 {h h' : gm_H} {n o D : Nat} {hs ep fc : Int} {a b : Int} (hB : h.1[n]? = some (by_c n hs ep fc)) (hD : D < 12) (hc : gm_co mX10_courseForNearby D [.ref n, .int (zI a), .int (zI b)] h (.inr "java/util/NoSuchElementException") h') : gm_co mL_courseForNearby 12 [.ref n, .int (zI a), .int (zI b), .ref o] h (.inl (some (.int (zI 3)))) h' := by
  refine gm_co_ofH _ (by decide +kernel) (List.cons_ne_nil _ _) (Nat.le_of_ble_eq_true rfl) rfl ?_
  refine gm_go.ru (gm_aload_n dL_courseForNearby_0 rfl (by first | exact Or.inl ⟨_, rfl⟩ | exact Or.inr ⟨_, rfl⟩)) ?_
  refine gm_go.ru (gi_const dL_courseForNearby_1) ?_
  refine gm_go.ru (gm_aload_n dL_courseForNearby_2 rfl (by first | exact Or.inl ⟨_, rfl⟩ | exact Or.inr ⟨_, rfl⟩)) ?_
  refine gm_go.ru (gm_iload_n dL_courseForNearby_3 rfl) ?_
  refine gm_go.ru (gm_iload_n dL_courseForNearby_4 rfl) ?_
  refine gm_go.ru (gm_catch_w (gm_runV (As := [.int (zI a), .int (zI b)]) (rest := [.int (zI 0), .ref o]) dL_courseForNearby_5 hc mt_X10_courseForNearby mv_X10_courseForNearby (lk_L_59 rfl) (Or.inl ⟨_, 11, _, _, _, rfl, hB, rfl⟩) rfl (Nat.le_of_ble_eq_true rfl) hD) [⟨0, 10, 13, 21⟩, ⟨0, 10, 17, 13⟩] ⟨0, 10, 21, 57⟩ [] rfl (List.forall_mem_cons.mpr ⟨Or.inr ⟨by decide, _, lc_21, by decide +kernel⟩, List.forall_mem_cons.mpr ⟨Or.inr ⟨by decide, _, lc_13, by decide +kernel⟩, fun z hz => absurd hz List.not_mem_nil⟩⟩) (by decide) (by decide) lc_57 lt_57 dL_courseForNearby_21 (Nat.le_of_ble_eq_true rfl)) ?_
  refine gm_go.ru (gi_const dL_courseForNearby_23) ?_
  exact gm_iret dL_courseForNearby_24 rfl
set_option maxRecDepth 4000 in
theorem lh_missedCourses {h h' : gm_H} {n o D : Nat} {hs ep fc : Int} {a : Int} (hB : h.1[n]? = some (by_c n hs ep fc)) (hD : D < 12) {r : Int} (hr : zR r) (hc : gm_co mX10_missedCourses D [.ref n, .int (zI a)] h (.inl (some (.int (zI r)))) h') {f : Nat → Int64} (ho : h'.1[o]? = some (gLo f)) : ∃ f', gm_co mL_missedCourses 12 [.ref n, .int (zI a), .ref o] h (.inl (some (.int (zI 0)))) (h'.1.set o (gLo f'), h'.2) ∧ f' 0 = zL r := by
  refine ⟨vp_updL f (zI 0).toNatClampNeg (zL r), ?_, by rw [z_0cl]; exact if_pos rfl⟩
  refine gm_co_ofH _ (by decide +kernel) (List.cons_ne_nil _ _) (Nat.le_of_ble_eq_true rfl) rfl ?_
  refine gm_go.ru (gm_aload_n dL_missedCourses_0 rfl (by first | exact Or.inl ⟨_, rfl⟩ | exact Or.inr ⟨_, rfl⟩)) ?_
  refine gm_go.ru (gi_const dL_missedCourses_1) ?_
  refine gm_go.ru (gm_aload_n dL_missedCourses_2 rfl (by first | exact Or.inl ⟨_, rfl⟩ | exact Or.inr ⟨_, rfl⟩)) ?_
  refine gm_go.ru (gm_iload_n dL_missedCourses_3 rfl) ?_
  refine gm_go.ru (gm_cV dL_missedCourses_4 (hc) rfl mt_X10_missedCourses mv_X10_missedCourses (lk_L_62 rfl) (Or.inl ⟨_, 11, _, _, _, rfl, hB, rfl⟩) rfl (Nat.le_of_ble_eq_true rfl) hD) ?_
  refine gm_go.ru (gi_i2l dL_missedCourses_7 hr) ?_
  refine gm_go.ru (gm_last dL_missedCourses_8 ho z_0in) ?_
  refine gm_go.ru (gm_goto (tgt := 15) dL_missedCourses_9 (by decide)) ?_
  refine gm_go.ru (gi_const dL_missedCourses_15) ?_
  exact gm_iret dL_missedCourses_16 rfl
set_option maxRecDepth 4000 in
theorem lx_missedCourses_1 {h h' : gm_H} {n o D : Nat} {hs ep fc : Int} {a : Int} (hB : h.1[n]? = some (by_c n hs ep fc)) (hD : D < 12) (hc : gm_co mX10_missedCourses D [.ref n, .int (zI a)] h (.inr "java/lang/IndexOutOfBoundsException") h') : gm_co mL_missedCourses 12 [.ref n, .int (zI a), .ref o] h (.inl (some (.int (zI 1)))) h' := by
  refine gm_co_ofH _ (by decide +kernel) (List.cons_ne_nil _ _) (Nat.le_of_ble_eq_true rfl) rfl ?_
  refine gm_go.ru (gm_aload_n dL_missedCourses_0 rfl (by first | exact Or.inl ⟨_, rfl⟩ | exact Or.inr ⟨_, rfl⟩)) ?_
  refine gm_go.ru (gi_const dL_missedCourses_1) ?_
  refine gm_go.ru (gm_aload_n dL_missedCourses_2 rfl (by first | exact Or.inl ⟨_, rfl⟩ | exact Or.inr ⟨_, rfl⟩)) ?_
  refine gm_go.ru (gm_iload_n dL_missedCourses_3 rfl) ?_
  refine gm_go.ru (gm_catch_n (gm_runV (As := [.int (zI a)]) (rest := [.int (zI 0), .ref o]) dL_missedCourses_4 hc mt_X10_missedCourses mv_X10_missedCourses (lk_L_62 rfl) (Or.inl ⟨_, 11, _, _, _, rfl, hB, rfl⟩) rfl (Nat.le_of_ble_eq_true rfl) hD) [] ⟨0, 9, 12, 21⟩ [] rfl (fun z hz => absurd hz List.not_mem_nil) (by decide) (by decide) lc_21 lt_21 dL_missedCourses_12 (Nat.le_of_ble_eq_true rfl)) ?_
  refine gm_go.ru (gi_const dL_missedCourses_13) ?_
  exact gm_iret dL_missedCourses_14 rfl
set_option maxRecDepth 4000 in
theorem lh_errorOf {h h' : gm_H} {n o D : Nat} {hs ep fc : Int} {a : Int} (hB : h.1[n]? = some (by_c n hs ep fc)) (hD : D < 12) {r : Int} (hr : zR r) (hc : gm_co mX10_errorOf D [.ref n, .int (zI a)] h (.inl (some (.int (zI r)))) h') {f : Nat → Int64} (ho : h'.1[o]? = some (gLo f)) : ∃ f', gm_co mL_errorOf 12 [.ref n, .int (zI a), .ref o] h (.inl (some (.int (zI 0)))) (h'.1.set o (gLo f'), h'.2) ∧ f' 0 = zL r := by
  refine ⟨vp_updL f (zI 0).toNatClampNeg (zL r), ?_, by rw [z_0cl]; exact if_pos rfl⟩
  refine gm_co_ofH _ (by decide +kernel) (List.cons_ne_nil _ _) (Nat.le_of_ble_eq_true rfl) rfl ?_
  refine gm_go.ru (gm_aload_n dL_errorOf_0 rfl (by first | exact Or.inl ⟨_, rfl⟩ | exact Or.inr ⟨_, rfl⟩)) ?_
  refine gm_go.ru (gi_const dL_errorOf_1) ?_
  refine gm_go.ru (gm_aload_n dL_errorOf_2 rfl (by first | exact Or.inl ⟨_, rfl⟩ | exact Or.inr ⟨_, rfl⟩)) ?_
  refine gm_go.ru (gm_iload_n dL_errorOf_3 rfl) ?_
  refine gm_go.ru (gm_cV dL_errorOf_4 (hc) rfl mt_X10_errorOf mv_X10_errorOf (lk_L_65 rfl) (Or.inl ⟨_, 11, _, _, _, rfl, hB, rfl⟩) rfl (Nat.le_of_ble_eq_true rfl) hD) ?_
  refine gm_go.ru (gi_i2l dL_errorOf_7 hr) ?_
  refine gm_go.ru (gm_last dL_errorOf_8 ho z_0in) ?_
  refine gm_go.ru (gm_goto (tgt := 15) dL_errorOf_9 (by decide)) ?_
  refine gm_go.ru (gi_const dL_errorOf_15) ?_
  exact gm_iret dL_errorOf_16 rfl
set_option maxRecDepth 4000 in
theorem lx_errorOf_1 {h h' : gm_H} {n o D : Nat} {hs ep fc : Int} {a : Int} (hB : h.1[n]? = some (by_c n hs ep fc)) (hD : D < 12) (hc : gm_co mX10_errorOf D [.ref n, .int (zI a)] h (.inr "java/lang/IndexOutOfBoundsException") h') : gm_co mL_errorOf 12 [.ref n, .int (zI a), .ref o] h (.inl (some (.int (zI 1)))) h' := by
  refine gm_co_ofH _ (by decide +kernel) (List.cons_ne_nil _ _) (Nat.le_of_ble_eq_true rfl) rfl ?_
  refine gm_go.ru (gm_aload_n dL_errorOf_0 rfl (by first | exact Or.inl ⟨_, rfl⟩ | exact Or.inr ⟨_, rfl⟩)) ?_
  refine gm_go.ru (gi_const dL_errorOf_1) ?_
  refine gm_go.ru (gm_aload_n dL_errorOf_2 rfl (by first | exact Or.inl ⟨_, rfl⟩ | exact Or.inr ⟨_, rfl⟩)) ?_
  refine gm_go.ru (gm_iload_n dL_errorOf_3 rfl) ?_
  refine gm_go.ru (gm_catch_n (gm_runV (As := [.int (zI a)]) (rest := [.int (zI 0), .ref o]) dL_errorOf_4 hc mt_X10_errorOf mv_X10_errorOf (lk_L_65 rfl) (Or.inl ⟨_, 11, _, _, _, rfl, hB, rfl⟩) rfl (Nat.le_of_ble_eq_true rfl) hD) [] ⟨0, 9, 12, 21⟩ [] rfl (fun z hz => absurd hz List.not_mem_nil) (by decide) (by decide) lc_21 lt_21 dL_errorOf_12 (Nat.le_of_ble_eq_true rfl)) ?_
  refine gm_go.ru (gi_const dL_errorOf_13) ?_
  exact gm_iret dL_errorOf_14 rfl
set_option maxRecDepth 4000 in
theorem lh_bestShift {h h' : gm_H} {n o D : Nat} {hs ep fc : Int} {a : Int} (hB : h.1[n]? = some (by_c n hs ep fc)) (hD : D < 12) {r : Int} (hr : zR r) (hc : gm_co mX10_bestShift D [.ref n, .int (zI a)] h (.inl (some (.int (zI r)))) h') {f : Nat → Int64} (ho : h'.1[o]? = some (gLo f)) : ∃ f', gm_co mL_bestShift 12 [.ref n, .int (zI a), .ref o] h (.inl (some (.int (zI 0)))) (h'.1.set o (gLo f'), h'.2) ∧ f' 0 = zL r := by
  refine ⟨vp_updL f (zI 0).toNatClampNeg (zL r), ?_, by rw [z_0cl]; exact if_pos rfl⟩
  refine gm_co_ofH _ (by decide +kernel) (List.cons_ne_nil _ _) (Nat.le_of_ble_eq_true rfl) rfl ?_
  refine gm_go.ru (gm_aload_n dL_bestShift_0 rfl (by first | exact Or.inl ⟨_, rfl⟩ | exact Or.inr ⟨_, rfl⟩)) ?_
  refine gm_go.ru (gi_const dL_bestShift_1) ?_
  refine gm_go.ru (gm_aload_n dL_bestShift_2 rfl (by first | exact Or.inl ⟨_, rfl⟩ | exact Or.inr ⟨_, rfl⟩)) ?_
  refine gm_go.ru (gm_iload_n dL_bestShift_3 rfl) ?_
  refine gm_go.ru (gm_cV dL_bestShift_4 (hc) rfl mt_X10_bestShift mv_X10_bestShift (lk_L_68 rfl) (Or.inl ⟨_, 11, _, _, _, rfl, hB, rfl⟩) rfl (Nat.le_of_ble_eq_true rfl) hD) ?_
  refine gm_go.ru (gi_i2l dL_bestShift_7 hr) ?_
  refine gm_go.ru (gm_last dL_bestShift_8 ho z_0in) ?_
  refine gm_go.ru (gm_goto (tgt := 15) dL_bestShift_9 (by decide)) ?_
  refine gm_go.ru (gi_const dL_bestShift_15) ?_
  exact gm_iret dL_bestShift_16 rfl
set_option maxRecDepth 4000 in
theorem lx_bestShift_1 {h h' : gm_H} {n o D : Nat} {hs ep fc : Int} {a : Int} (hB : h.1[n]? = some (by_c n hs ep fc)) (hD : D < 12) (hc : gm_co mX10_bestShift D [.ref n, .int (zI a)] h (.inr "java/lang/IndexOutOfBoundsException") h') : gm_co mL_bestShift 12 [.ref n, .int (zI a), .ref o] h (.inl (some (.int (zI 1)))) h' := by
  refine gm_co_ofH _ (by decide +kernel) (List.cons_ne_nil _ _) (Nat.le_of_ble_eq_true rfl) rfl ?_
  refine gm_go.ru (gm_aload_n dL_bestShift_0 rfl (by first | exact Or.inl ⟨_, rfl⟩ | exact Or.inr ⟨_, rfl⟩)) ?_
  refine gm_go.ru (gi_const dL_bestShift_1) ?_
  refine gm_go.ru (gm_aload_n dL_bestShift_2 rfl (by first | exact Or.inl ⟨_, rfl⟩ | exact Or.inr ⟨_, rfl⟩)) ?_
  refine gm_go.ru (gm_iload_n dL_bestShift_3 rfl) ?_
  refine gm_go.ru (gm_catch_n (gm_runV (As := [.int (zI a)]) (rest := [.int (zI 0), .ref o]) dL_bestShift_4 hc mt_X10_bestShift mv_X10_bestShift (lk_L_68 rfl) (Or.inl ⟨_, 11, _, _, _, rfl, hB, rfl⟩) rfl (Nat.le_of_ble_eq_true rfl) hD) [] ⟨0, 9, 12, 21⟩ [] rfl (fun z hz => absurd hz List.not_mem_nil) (by decide) (by decide) lc_21 lt_21 dL_bestShift_12 (Nat.le_of_ble_eq_true rfl)) ?_
  refine gm_go.ru (gi_const dL_bestShift_13) ?_
  exact gm_iret dL_bestShift_14 rfl
set_option maxRecDepth 4000 in
theorem lh_bestShiftBySum {h h' : gm_H} {n o D : Nat} {hs ep fc : Int} {a : Int} (hB : h.1[n]? = some (by_c n hs ep fc)) (hD : D < 12) {r : Int} (hr : zR r) (hc : gm_co mX10_bestShiftBySum D [.ref n, .int (zI a)] h (.inl (some (.int (zI r)))) h') {f : Nat → Int64} (ho : h'.1[o]? = some (gLo f)) : ∃ f', gm_co mL_bestShiftBySum 12 [.ref n, .int (zI a), .ref o] h (.inl (some (.int (zI 0)))) (h'.1.set o (gLo f'), h'.2) ∧ f' 0 = zL r := by
  refine ⟨vp_updL f (zI 0).toNatClampNeg (zL r), ?_, by rw [z_0cl]; exact if_pos rfl⟩
  refine gm_co_ofH _ (by decide +kernel) (List.cons_ne_nil _ _) (Nat.le_of_ble_eq_true rfl) rfl ?_
  refine gm_go.ru (gm_aload_n dL_bestShiftBySum_0 rfl (by first | exact Or.inl ⟨_, rfl⟩ | exact Or.inr ⟨_, rfl⟩)) ?_
  refine gm_go.ru (gi_const dL_bestShiftBySum_1) ?_
  refine gm_go.ru (gm_aload_n dL_bestShiftBySum_2 rfl (by first | exact Or.inl ⟨_, rfl⟩ | exact Or.inr ⟨_, rfl⟩)) ?_
  refine gm_go.ru (gm_iload_n dL_bestShiftBySum_3 rfl) ?_
  refine gm_go.ru (gm_cV dL_bestShiftBySum_4 (hc) rfl mt_X10_bestShiftBySum mv_X10_bestShiftBySum (lk_L_71 rfl) (Or.inl ⟨_, 11, _, _, _, rfl, hB, rfl⟩) rfl (Nat.le_of_ble_eq_true rfl) hD) ?_
  refine gm_go.ru (gi_i2l dL_bestShiftBySum_7 hr) ?_
  refine gm_go.ru (gm_last dL_bestShiftBySum_8 ho z_0in) ?_
  refine gm_go.ru (gm_goto (tgt := 15) dL_bestShiftBySum_9 (by decide)) ?_
  refine gm_go.ru (gi_const dL_bestShiftBySum_15) ?_
  exact gm_iret dL_bestShiftBySum_16 rfl
set_option maxRecDepth 4000 in
theorem lx_bestShiftBySum_1 {h h' : gm_H} {n o D : Nat} {hs ep fc : Int} {a : Int} (hB : h.1[n]? = some (by_c n hs ep fc)) (hD : D < 12) (hc : gm_co mX10_bestShiftBySum D [.ref n, .int (zI a)] h (.inr "java/lang/IndexOutOfBoundsException") h') : gm_co mL_bestShiftBySum 12 [.ref n, .int (zI a), .ref o] h (.inl (some (.int (zI 1)))) h' := by
  refine gm_co_ofH _ (by decide +kernel) (List.cons_ne_nil _ _) (Nat.le_of_ble_eq_true rfl) rfl ?_
  refine gm_go.ru (gm_aload_n dL_bestShiftBySum_0 rfl (by first | exact Or.inl ⟨_, rfl⟩ | exact Or.inr ⟨_, rfl⟩)) ?_
  refine gm_go.ru (gi_const dL_bestShiftBySum_1) ?_
  refine gm_go.ru (gm_aload_n dL_bestShiftBySum_2 rfl (by first | exact Or.inl ⟨_, rfl⟩ | exact Or.inr ⟨_, rfl⟩)) ?_
  refine gm_go.ru (gm_iload_n dL_bestShiftBySum_3 rfl) ?_
  refine gm_go.ru (gm_catch_n (gm_runV (As := [.int (zI a)]) (rest := [.int (zI 0), .ref o]) dL_bestShiftBySum_4 hc mt_X10_bestShiftBySum mv_X10_bestShiftBySum (lk_L_71 rfl) (Or.inl ⟨_, 11, _, _, _, rfl, hB, rfl⟩) rfl (Nat.le_of_ble_eq_true rfl) hD) [] ⟨0, 9, 12, 21⟩ [] rfl (fun z hz => absurd hz List.not_mem_nil) (by decide) (by decide) lc_21 lt_21 dL_bestShiftBySum_12 (Nat.le_of_ble_eq_true rfl)) ?_
  refine gm_go.ru (gi_const dL_bestShiftBySum_13) ?_
  exact gm_iret dL_bestShiftBySum_14 rfl
set_option maxRecDepth 4000 in
theorem lh_needleAtRank {h h' : gm_H} {n o D : Nat} {hs ep fc : Int} {a : Int} (hB : h.1[n]? = some (by_c n hs ep fc)) (hD : D < 12) {r : Int} (hr : zR r) (hc : gm_co mX10_needleAtRank D [.ref n, .int (zI a)] h (.inl (some (.int (zI r)))) h') {f : Nat → Int64} (ho : h'.1[o]? = some (gLo f)) : ∃ f', gm_co mL_needleAtRank 12 [.ref n, .int (zI a), .ref o] h (.inl (some (.int (zI 0)))) (h'.1.set o (gLo f'), h'.2) ∧ f' 0 = zL r := by
  refine ⟨vp_updL f (zI 0).toNatClampNeg (zL r), ?_, by rw [z_0cl]; exact if_pos rfl⟩
  refine gm_co_ofH _ (by decide +kernel) (List.cons_ne_nil _ _) (Nat.le_of_ble_eq_true rfl) rfl ?_
  refine gm_go.ru (gm_aload_n dL_needleAtRank_0 rfl (by first | exact Or.inl ⟨_, rfl⟩ | exact Or.inr ⟨_, rfl⟩)) ?_
  refine gm_go.ru (gi_const dL_needleAtRank_1) ?_
  refine gm_go.ru (gm_aload_n dL_needleAtRank_2 rfl (by first | exact Or.inl ⟨_, rfl⟩ | exact Or.inr ⟨_, rfl⟩)) ?_
  refine gm_go.ru (gm_iload_n dL_needleAtRank_3 rfl) ?_
  refine gm_go.ru (gm_cV dL_needleAtRank_4 (hc) rfl mt_X10_needleAtRank mv_X10_needleAtRank (lk_L_74 rfl) (Or.inl ⟨_, 11, _, _, _, rfl, hB, rfl⟩) rfl (Nat.le_of_ble_eq_true rfl) hD) ?_
  refine gm_go.ru (gi_i2l dL_needleAtRank_7 hr) ?_
  refine gm_go.ru (gm_last dL_needleAtRank_8 ho z_0in) ?_
  refine gm_go.ru (gm_goto (tgt := 15) dL_needleAtRank_9 (by decide)) ?_
  refine gm_go.ru (gi_const dL_needleAtRank_15) ?_
  exact gm_iret dL_needleAtRank_16 rfl
set_option maxRecDepth 4000 in
theorem lx_needleAtRank_1 {h h' : gm_H} {n o D : Nat} {hs ep fc : Int} {a : Int} (hB : h.1[n]? = some (by_c n hs ep fc)) (hD : D < 12) (hc : gm_co mX10_needleAtRank D [.ref n, .int (zI a)] h (.inr "java/util/NoSuchElementException") h') : gm_co mL_needleAtRank 12 [.ref n, .int (zI a), .ref o] h (.inl (some (.int (zI 1)))) h' := by
  refine gm_co_ofH _ (by decide +kernel) (List.cons_ne_nil _ _) (Nat.le_of_ble_eq_true rfl) rfl ?_
  refine gm_go.ru (gm_aload_n dL_needleAtRank_0 rfl (by first | exact Or.inl ⟨_, rfl⟩ | exact Or.inr ⟨_, rfl⟩)) ?_
  refine gm_go.ru (gi_const dL_needleAtRank_1) ?_
  refine gm_go.ru (gm_aload_n dL_needleAtRank_2 rfl (by first | exact Or.inl ⟨_, rfl⟩ | exact Or.inr ⟨_, rfl⟩)) ?_
  refine gm_go.ru (gm_iload_n dL_needleAtRank_3 rfl) ?_
  refine gm_go.ru (gm_catch_n (gm_runV (As := [.int (zI a)]) (rest := [.int (zI 0), .ref o]) dL_needleAtRank_4 hc mt_X10_needleAtRank mv_X10_needleAtRank (lk_L_74 rfl) (Or.inl ⟨_, 11, _, _, _, rfl, hB, rfl⟩) rfl (Nat.le_of_ble_eq_true rfl) hD) [] ⟨0, 9, 12, 57⟩ [] rfl (fun z hz => absurd hz List.not_mem_nil) (by decide) (by decide) lc_57 lt_57 dL_needleAtRank_12 (Nat.le_of_ble_eq_true rfl)) ?_
  refine gm_go.ru (gi_const dL_needleAtRank_13) ?_
  exact gm_iret dL_needleAtRank_14 rfl
set_option maxRecDepth 4000 in
theorem lh_meanError {h h' : gm_H} {n o D : Nat} {hs ep fc : Int} (hB : h.1[n]? = some (by_c n hs ep fc)) (hD : D < 12) {r : UInt64} (hc : gm_co mX10_meanError D [.ref n] h (.inl (some (.double r))) h') {f : Nat → UInt64} (ho : h'.1[o]? = some (gDo f)) : ∃ f', gm_co mL_meanError 12 [.ref n, .ref o] h (.inl (some (.int (zI 0)))) (h'.1.set o (gDo f'), h'.2) ∧ f' 0 = r := by
  refine ⟨va_up f (zI 0).toNatClampNeg (r), ?_, by rw [z_0cl]; exact if_pos rfl⟩
  refine gm_co_ofH _ (by decide +kernel) (List.cons_ne_nil _ _) (Nat.le_of_ble_eq_true rfl) rfl ?_
  refine gm_go.ru (gm_aload_n dL_meanError_0 rfl (by first | exact Or.inl ⟨_, rfl⟩ | exact Or.inr ⟨_, rfl⟩)) ?_
  refine gm_go.ru (gi_const dL_meanError_1) ?_
  refine gm_go.ru (gm_aload_n dL_meanError_2 rfl (by first | exact Or.inl ⟨_, rfl⟩ | exact Or.inr ⟨_, rfl⟩)) ?_
  refine gm_go.ru (gm_cV dL_meanError_3 (hc) rfl mt_X10_meanError mv_X10_meanError (lk_L_77 rfl) (Or.inl ⟨_, 11, _, _, _, rfl, hB, rfl⟩) rfl (Nat.le_of_ble_eq_true rfl) hD) ?_
  refine gm_go.ru (gm_dast dL_meanError_6 ho z_0in) ?_
  refine gm_go.ru (gm_goto (tgt := 13) dL_meanError_7 (by decide)) ?_
  refine gm_go.ru (gi_const dL_meanError_13) ?_
  exact gm_iret dL_meanError_14 rfl
set_option maxRecDepth 4000 in
theorem lx_meanError_1 {h h' : gm_H} {n o D : Nat} {hs ep fc : Int} (hB : h.1[n]? = some (by_c n hs ep fc)) (hD : D < 12) (hc : gm_co mX10_meanError D [.ref n] h (.inr "java/lang/ArithmeticException") h') : gm_co mL_meanError 12 [.ref n, .ref o] h (.inl (some (.int (zI 1)))) h' := by
  refine gm_co_ofH _ (by decide +kernel) (List.cons_ne_nil _ _) (Nat.le_of_ble_eq_true rfl) rfl ?_
  refine gm_go.ru (gm_aload_n dL_meanError_0 rfl (by first | exact Or.inl ⟨_, rfl⟩ | exact Or.inr ⟨_, rfl⟩)) ?_
  refine gm_go.ru (gi_const dL_meanError_1) ?_
  refine gm_go.ru (gm_aload_n dL_meanError_2 rfl (by first | exact Or.inl ⟨_, rfl⟩ | exact Or.inr ⟨_, rfl⟩)) ?_
  refine gm_go.ru (gm_catch_n (gm_runV (As := []) (rest := [.int (zI 0), .ref o]) dL_meanError_3 hc mt_X10_meanError mv_X10_meanError (lk_L_77 rfl) (Or.inl ⟨_, 11, _, _, _, rfl, hB, rfl⟩) rfl (Nat.le_of_ble_eq_true rfl) hD) [] ⟨0, 7, 10, 81⟩ [] rfl (fun z hz => absurd hz List.not_mem_nil) (by decide) (by decide) lc_81 lt_81 dL_meanError_10 (Nat.le_of_ble_eq_true rfl)) ?_
  refine gm_go.ru (gi_const dL_meanError_11) ?_
  exact gm_iret dL_meanError_12 rfl
set_option maxRecDepth 4000 in
theorem lh_partnerOf {h h' : gm_H} {n o D : Nat} {hs ep fc : Int} {a : Int} (hB : h.1[n]? = some (by_c n hs ep fc)) (hD : D < 12) {r : Int} (hr : zR r) (hc : gm_co mX10_partnerOf D [.ref n, .int (zI a)] h (.inl (some (.int (zI r)))) h') {f : Nat → Int64} (ho : h'.1[o]? = some (gLo f)) : ∃ f', gm_co mL_partnerOf 12 [.ref n, .int (zI a), .ref o] h (.inl (some (.int (zI 0)))) (h'.1.set o (gLo f'), h'.2) ∧ f' 0 = zL r := by
  refine ⟨vp_updL f (zI 0).toNatClampNeg (zL r), ?_, by rw [z_0cl]; exact if_pos rfl⟩
  refine gm_co_ofH _ (by decide +kernel) (List.cons_ne_nil _ _) (Nat.le_of_ble_eq_true rfl) rfl ?_
  refine gm_go.ru (gm_aload_n dL_partnerOf_0 rfl (by first | exact Or.inl ⟨_, rfl⟩ | exact Or.inr ⟨_, rfl⟩)) ?_
  refine gm_go.ru (gi_const dL_partnerOf_1) ?_
  refine gm_go.ru (gm_aload_n dL_partnerOf_2 rfl (by first | exact Or.inl ⟨_, rfl⟩ | exact Or.inr ⟨_, rfl⟩)) ?_
  refine gm_go.ru (gm_iload_n dL_partnerOf_3 rfl) ?_
  refine gm_go.ru (gm_cV dL_partnerOf_4 (hc) rfl mt_X10_partnerOf mv_X10_partnerOf (lk_L_83 rfl) (Or.inl ⟨_, 11, _, _, _, rfl, hB, rfl⟩) rfl (Nat.le_of_ble_eq_true rfl) hD) ?_
  refine gm_go.ru (gi_i2l dL_partnerOf_7 hr) ?_
  refine gm_go.ru (gm_last dL_partnerOf_8 ho z_0in) ?_
  refine gm_go.ru (gm_goto (tgt := 18) dL_partnerOf_9 (by decide)) ?_
  refine gm_go.ru (gi_const dL_partnerOf_18) ?_
  exact gm_iret dL_partnerOf_19 rfl
set_option maxRecDepth 4000 in
theorem lx_partnerOf_1 {h h' : gm_H} {n o D : Nat} {hs ep fc : Int} {a : Int} (hB : h.1[n]? = some (by_c n hs ep fc)) (hD : D < 12) (hc : gm_co mX10_partnerOf D [.ref n, .int (zI a)] h (.inr "java/lang/IndexOutOfBoundsException") h') : gm_co mL_partnerOf 12 [.ref n, .int (zI a), .ref o] h (.inl (some (.int (zI 1)))) h' := by
  refine gm_co_ofH _ (by decide +kernel) (List.cons_ne_nil _ _) (Nat.le_of_ble_eq_true rfl) rfl ?_
  refine gm_go.ru (gm_aload_n dL_partnerOf_0 rfl (by first | exact Or.inl ⟨_, rfl⟩ | exact Or.inr ⟨_, rfl⟩)) ?_
  refine gm_go.ru (gi_const dL_partnerOf_1) ?_
  refine gm_go.ru (gm_aload_n dL_partnerOf_2 rfl (by first | exact Or.inl ⟨_, rfl⟩ | exact Or.inr ⟨_, rfl⟩)) ?_
  refine gm_go.ru (gm_iload_n dL_partnerOf_3 rfl) ?_
  refine gm_go.ru (gm_catch_n (gm_runV (As := [.int (zI a)]) (rest := [.int (zI 0), .ref o]) dL_partnerOf_4 hc mt_X10_partnerOf mv_X10_partnerOf (lk_L_83 rfl) (Or.inl ⟨_, 11, _, _, _, rfl, hB, rfl⟩) rfl (Nat.le_of_ble_eq_true rfl) hD) [] ⟨0, 9, 12, 21⟩ [⟨0, 9, 15, 57⟩] rfl (fun z hz => absurd hz List.not_mem_nil) (by decide) (by decide) lc_21 lt_21 dL_partnerOf_12 (Nat.le_of_ble_eq_true rfl)) ?_
  refine gm_go.ru (gi_const dL_partnerOf_13) ?_
  exact gm_iret dL_partnerOf_14 rfl
set_option maxRecDepth 4000 in
theorem lx_partnerOf_2 {h h' : gm_H} {n o D : Nat} {hs ep fc : Int} {a : Int} (hB : h.1[n]? = some (by_c n hs ep fc)) (hD : D < 12) (hc : gm_co mX10_partnerOf D [.ref n, .int (zI a)] h (.inr "java/util/NoSuchElementException") h') : gm_co mL_partnerOf 12 [.ref n, .int (zI a), .ref o] h (.inl (some (.int (zI 2)))) h' := by
  refine gm_co_ofH _ (by decide +kernel) (List.cons_ne_nil _ _) (Nat.le_of_ble_eq_true rfl) rfl ?_
  refine gm_go.ru (gm_aload_n dL_partnerOf_0 rfl (by first | exact Or.inl ⟨_, rfl⟩ | exact Or.inr ⟨_, rfl⟩)) ?_
  refine gm_go.ru (gi_const dL_partnerOf_1) ?_
  refine gm_go.ru (gm_aload_n dL_partnerOf_2 rfl (by first | exact Or.inl ⟨_, rfl⟩ | exact Or.inr ⟨_, rfl⟩)) ?_
  refine gm_go.ru (gm_iload_n dL_partnerOf_3 rfl) ?_
  refine gm_go.ru (gm_catch_n (gm_runV (As := [.int (zI a)]) (rest := [.int (zI 0), .ref o]) dL_partnerOf_4 hc mt_X10_partnerOf mv_X10_partnerOf (lk_L_83 rfl) (Or.inl ⟨_, 11, _, _, _, rfl, hB, rfl⟩) rfl (Nat.le_of_ble_eq_true rfl) hD) [⟨0, 9, 12, 21⟩] ⟨0, 9, 15, 57⟩ [] rfl (List.forall_mem_cons.mpr ⟨Or.inr ⟨by decide, _, lc_21, by decide +kernel⟩, fun z hz => absurd hz List.not_mem_nil⟩) (by decide) (by decide) lc_57 lt_57 dL_partnerOf_15 (Nat.le_of_ble_eq_true rfl)) ?_
  refine gm_go.ru (gi_const dL_partnerOf_16) ?_
  exact gm_iret dL_partnerOf_17 rfl
set_option maxRecDepth 4000 in
theorem lh_addBatch {h h' : gm_H} {n o D : Nat} {hs ep fc : Int} {a b c : Int} (hB : h.1[n]? = some (by_c n hs ep fc)) (hD : D < 12) {r : Int} (hr : zR r) (hc : gm_co mX10_addBatch D [.ref n, .int (zI a), .int (zI b), .int (zI c)] h (.inl (some (.int (zI r)))) h') {f : Nat → Int64} (ho : h'.1[o]? = some (gLo f)) : ∃ f', gm_co mL_addBatch 12 [.ref n, .int (zI a), .int (zI b), .int (zI c), .ref o] h (.inl (some (.int (zI 0)))) (h'.1.set o (gLo f'), h'.2) ∧ f' 0 = zL r := by
  refine ⟨vp_updL f (zI 0).toNatClampNeg (zL r), ?_, by rw [z_0cl]; exact if_pos rfl⟩
  refine gm_co_ofH _ (by decide +kernel) (List.cons_ne_nil _ _) (Nat.le_of_ble_eq_true rfl) rfl ?_
  refine gm_go.ru (gm_aload dL_addBatch_0 rfl (by first | exact Or.inl ⟨_, rfl⟩ | exact Or.inr ⟨_, rfl⟩)) ?_
  refine gm_go.ru (gi_const dL_addBatch_2) ?_
  refine gm_go.ru (gm_aload_n dL_addBatch_3 rfl (by first | exact Or.inl ⟨_, rfl⟩ | exact Or.inr ⟨_, rfl⟩)) ?_
  refine gm_go.ru (gm_iload_n dL_addBatch_4 rfl) ?_
  refine gm_go.ru (gm_iload_n dL_addBatch_5 rfl) ?_
  refine gm_go.ru (gm_iload_n dL_addBatch_6 rfl) ?_
  refine gm_go.ru (gm_cV dL_addBatch_7 (hc) rfl mt_X10_addBatch mv_X10_addBatch (lk_L_86 rfl) (Or.inl ⟨_, 11, _, _, _, rfl, hB, rfl⟩) rfl (Nat.le_of_ble_eq_true rfl) hD) ?_
  refine gm_go.ru (gi_i2l dL_addBatch_10 hr) ?_
  refine gm_go.ru (gm_last dL_addBatch_11 ho z_0in) ?_
  refine gm_go.ru (gm_goto (tgt := 23) dL_addBatch_12 (by decide)) ?_
  refine gm_go.ru (gi_const dL_addBatch_23) ?_
  exact gm_iret dL_addBatch_24 rfl
set_option maxRecDepth 4000 in
theorem lx_addBatch_1 {h h' : gm_H} {n o D : Nat} {hs ep fc : Int} {a b c : Int} (hB : h.1[n]? = some (by_c n hs ep fc)) (hD : D < 12) (hc : gm_co mX10_addBatch D [.ref n, .int (zI a), .int (zI b), .int (zI c)] h (.inr "java/lang/IllegalArgumentException") h') : gm_co mL_addBatch 12 [.ref n, .int (zI a), .int (zI b), .int (zI c), .ref o] h (.inl (some (.int (zI 1)))) h' := by
  refine gm_co_ofH _ (by decide +kernel) (List.cons_ne_nil _ _) (Nat.le_of_ble_eq_true rfl) rfl ?_
  refine gm_go.ru (gm_aload dL_addBatch_0 rfl (by first | exact Or.inl ⟨_, rfl⟩ | exact Or.inr ⟨_, rfl⟩)) ?_
  refine gm_go.ru (gi_const dL_addBatch_2) ?_
  refine gm_go.ru (gm_aload_n dL_addBatch_3 rfl (by first | exact Or.inl ⟨_, rfl⟩ | exact Or.inr ⟨_, rfl⟩)) ?_
  refine gm_go.ru (gm_iload_n dL_addBatch_4 rfl) ?_
  refine gm_go.ru (gm_iload_n dL_addBatch_5 rfl) ?_
  refine gm_go.ru (gm_iload_n dL_addBatch_6 rfl) ?_
  refine gm_go.ru (gm_catch_w (gm_runV (As := [.int (zI a), .int (zI b), .int (zI c)]) (rest := [.int (zI 0), .ref o]) dL_addBatch_7 hc mt_X10_addBatch mv_X10_addBatch (lk_L_86 rfl) (Or.inl ⟨_, 11, _, _, _, rfl, hB, rfl⟩) rfl (Nat.le_of_ble_eq_true rfl) hD) [] ⟨0, 12, 15, 13⟩ [⟨0, 12, 19, 15⟩] rfl (fun z hz => absurd hz List.not_mem_nil) (by decide) (by decide) lc_13 lt_13 dL_addBatch_15 (Nat.le_of_ble_eq_true rfl)) ?_
  refine gm_go.ru (gi_const dL_addBatch_17) ?_
  exact gm_iret dL_addBatch_18 rfl
set_option maxRecDepth 4000 in
theorem lx_addBatch_2 {h h' : gm_H} {n o D : Nat} {hs ep fc : Int} {a b c : Int} (hB : h.1[n]? = some (by_c n hs ep fc)) (hD : D < 12) (hc : gm_co mX10_addBatch D [.ref n, .int (zI a), .int (zI b), .int (zI c)] h (.inr "java/lang/IllegalStateException") h') : gm_co mL_addBatch 12 [.ref n, .int (zI a), .int (zI b), .int (zI c), .ref o] h (.inl (some (.int (zI 2)))) h' := by
  refine gm_co_ofH _ (by decide +kernel) (List.cons_ne_nil _ _) (Nat.le_of_ble_eq_true rfl) rfl ?_
  refine gm_go.ru (gm_aload dL_addBatch_0 rfl (by first | exact Or.inl ⟨_, rfl⟩ | exact Or.inr ⟨_, rfl⟩)) ?_
  refine gm_go.ru (gi_const dL_addBatch_2) ?_
  refine gm_go.ru (gm_aload_n dL_addBatch_3 rfl (by first | exact Or.inl ⟨_, rfl⟩ | exact Or.inr ⟨_, rfl⟩)) ?_
  refine gm_go.ru (gm_iload_n dL_addBatch_4 rfl) ?_
  refine gm_go.ru (gm_iload_n dL_addBatch_5 rfl) ?_
  refine gm_go.ru (gm_iload_n dL_addBatch_6 rfl) ?_
  refine gm_go.ru (gm_catch_w (gm_runV (As := [.int (zI a), .int (zI b), .int (zI c)]) (rest := [.int (zI 0), .ref o]) dL_addBatch_7 hc mt_X10_addBatch mv_X10_addBatch (lk_L_86 rfl) (Or.inl ⟨_, 11, _, _, _, rfl, hB, rfl⟩) rfl (Nat.le_of_ble_eq_true rfl) hD) [⟨0, 12, 15, 13⟩] ⟨0, 12, 19, 15⟩ [] rfl (List.forall_mem_cons.mpr ⟨Or.inr ⟨by decide, _, lc_13, by decide +kernel⟩, fun z hz => absurd hz List.not_mem_nil⟩) (by decide) (by decide) lc_15 lt_15 dL_addBatch_19 (Nat.le_of_ble_eq_true rfl)) ?_
  refine gm_go.ru (gi_const dL_addBatch_21) ?_
  exact gm_iret dL_addBatch_22 rfl
set_option maxRecDepth 4000 in
theorem lm_addBatch {h h' : gm_H} {n o D : Nat} {hs ep fc : Int} {a b c : Int} (hB : h.1[n]? = some (by_c n hs ep fc)) (hD : D < 12) {y : Nat} (hy : y < 7) (h0 : ¬ zCd 6 y = 0) (hc : gm_co mX10_addBatch D [.ref n, .int (zI a), .int (zI b), .int (zI c)] h (.inr (zXc y)) h') : gm_co mL_addBatch 12 [.ref n, .int (zI a), .int (zI b), .int (zI c), .ref o] h (.inl (some (.int (zI (zCd 6 y))))) h' := by
  match y, hy, h0, hc with
  | 0, _, h0, hc => exact absurd rfl h0
  | 1, _, h0, hc => exact absurd rfl h0
  | 2, _, h0, hc => exact lx_addBatch_1 hB hD hc
  | 3, _, h0, hc => exact absurd rfl h0
  | 4, _, h0, hc => exact lx_addBatch_2 hB hD hc
  | 5, _, h0, hc => exact absurd rfl h0
  | 6, _, h0, hc => exact absurd rfl h0
  | y + 7, hy, _, _ => omega
set_option maxRecDepth 4000 in
theorem lh_dropBatch {h h' : gm_H} {n o D : Nat} {hs ep fc : Int} {a : Int} (hB : h.1[n]? = some (by_c n hs ep fc)) (hD : D < 12) {r : Int} (hr : zR r) (hc : gm_co mX10_dropBatch D [.ref n, .int (zI a)] h (.inl (some (.int (zI r)))) h') {f : Nat → Int64} (ho : h'.1[o]? = some (gLo f)) : ∃ f', gm_co mL_dropBatch 12 [.ref n, .int (zI a), .ref o] h (.inl (some (.int (zI 0)))) (h'.1.set o (gLo f'), h'.2) ∧ f' 0 = zL r := by
  refine ⟨vp_updL f (zI 0).toNatClampNeg (zL r), ?_, by rw [z_0cl]; exact if_pos rfl⟩
  refine gm_co_ofH _ (by decide +kernel) (List.cons_ne_nil _ _) (Nat.le_of_ble_eq_true rfl) rfl ?_
  refine gm_go.ru (gm_aload_n dL_dropBatch_0 rfl (by first | exact Or.inl ⟨_, rfl⟩ | exact Or.inr ⟨_, rfl⟩)) ?_
  refine gm_go.ru (gi_const dL_dropBatch_1) ?_
  refine gm_go.ru (gm_aload_n dL_dropBatch_2 rfl (by first | exact Or.inl ⟨_, rfl⟩ | exact Or.inr ⟨_, rfl⟩)) ?_
  refine gm_go.ru (gm_iload_n dL_dropBatch_3 rfl) ?_
  refine gm_go.ru (gm_cV dL_dropBatch_4 (hc) rfl mt_X10_dropBatch mv_X10_dropBatch (lk_L_89 rfl) (Or.inl ⟨_, 11, _, _, _, rfl, hB, rfl⟩) rfl (Nat.le_of_ble_eq_true rfl) hD) ?_
  refine gm_go.ru (gi_i2l dL_dropBatch_7 hr) ?_
  refine gm_go.ru (gm_last dL_dropBatch_8 ho z_0in) ?_
  refine gm_go.ru (gm_goto (tgt := 15) dL_dropBatch_9 (by decide)) ?_
  refine gm_go.ru (gi_const dL_dropBatch_15) ?_
  exact gm_iret dL_dropBatch_16 rfl
set_option maxRecDepth 4000 in
theorem lx_dropBatch_1 {h h' : gm_H} {n o D : Nat} {hs ep fc : Int} {a : Int} (hB : h.1[n]? = some (by_c n hs ep fc)) (hD : D < 12) (hc : gm_co mX10_dropBatch D [.ref n, .int (zI a)] h (.inr "java/util/NoSuchElementException") h') : gm_co mL_dropBatch 12 [.ref n, .int (zI a), .ref o] h (.inl (some (.int (zI 1)))) h' := by
  refine gm_co_ofH _ (by decide +kernel) (List.cons_ne_nil _ _) (Nat.le_of_ble_eq_true rfl) rfl ?_
  refine gm_go.ru (gm_aload_n dL_dropBatch_0 rfl (by first | exact Or.inl ⟨_, rfl⟩ | exact Or.inr ⟨_, rfl⟩)) ?_
  refine gm_go.ru (gi_const dL_dropBatch_1) ?_
  refine gm_go.ru (gm_aload_n dL_dropBatch_2 rfl (by first | exact Or.inl ⟨_, rfl⟩ | exact Or.inr ⟨_, rfl⟩)) ?_
  refine gm_go.ru (gm_iload_n dL_dropBatch_3 rfl) ?_
  refine gm_go.ru (gm_catch_n (gm_runV (As := [.int (zI a)]) (rest := [.int (zI 0), .ref o]) dL_dropBatch_4 hc mt_X10_dropBatch mv_X10_dropBatch (lk_L_89 rfl) (Or.inl ⟨_, 11, _, _, _, rfl, hB, rfl⟩) rfl (Nat.le_of_ble_eq_true rfl) hD) [] ⟨0, 9, 12, 57⟩ [] rfl (fun z hz => absurd hz List.not_mem_nil) (by decide) (by decide) lc_57 lt_57 dL_dropBatch_12 (Nat.le_of_ble_eq_true rfl)) ?_
  refine gm_go.ru (gi_const dL_dropBatch_13) ?_
  exact gm_iret dL_dropBatch_14 rfl
set_option maxRecDepth 4000 in
theorem lm_dropBatch {h h' : gm_H} {n o D : Nat} {hs ep fc : Int} {a : Int} (hB : h.1[n]? = some (by_c n hs ep fc)) (hD : D < 12) {y : Nat} (hy : y < 7) (h0 : ¬ zCd 7 y = 0) (hc : gm_co mX10_dropBatch D [.ref n, .int (zI a)] h (.inr (zXc y)) h') : gm_co mL_dropBatch 12 [.ref n, .int (zI a), .ref o] h (.inl (some (.int (zI (zCd 7 y))))) h' := by
  match y, hy, h0, hc with
  | 0, _, h0, hc => exact absurd rfl h0
  | 1, _, h0, hc => exact absurd rfl h0
  | 2, _, h0, hc => exact absurd rfl h0
  | 3, _, h0, hc => exact absurd rfl h0
  | 4, _, h0, hc => exact absurd rfl h0
  | 5, _, h0, hc => exact absurd rfl h0
  | 6, _, h0, hc => exact lx_dropBatch_1 hB hD hc
  | y + 7, hy, _, _ => omega
set_option maxRecDepth 4000 in
theorem lh_bake {h h' : gm_H} {n o D : Nat} {hs ep fc : Int} {a : Int} (hB : h.1[n]? = some (by_c n hs ep fc)) (hD : D < 12) {r : Int} (hr : zR r) (hc : gm_co mX10_bake D [.ref n, .int (zI a)] h (.inl (some (.int (zI r)))) h') {f : Nat → Int64} (ho : h'.1[o]? = some (gLo f)) : ∃ f', gm_co mL_bake 12 [.ref n, .int (zI a), .ref o] h (.inl (some (.int (zI 0)))) (h'.1.set o (gLo f'), h'.2) ∧ f' 0 = zL r := by
  refine ⟨vp_updL f (zI 0).toNatClampNeg (zL r), ?_, by rw [z_0cl]; exact if_pos rfl⟩
  refine gm_co_ofH _ (by decide +kernel) (List.cons_ne_nil _ _) (Nat.le_of_ble_eq_true rfl) rfl ?_
  refine gm_go.ru (gm_aload_n dL_bake_0 rfl (by first | exact Or.inl ⟨_, rfl⟩ | exact Or.inr ⟨_, rfl⟩)) ?_
  refine gm_go.ru (gi_const dL_bake_1) ?_
  refine gm_go.ru (gm_aload_n dL_bake_2 rfl (by first | exact Or.inl ⟨_, rfl⟩ | exact Or.inr ⟨_, rfl⟩)) ?_
  refine gm_go.ru (gm_iload_n dL_bake_3 rfl) ?_
  refine gm_go.ru (gm_cV dL_bake_4 (hc) rfl mt_X10_bake mv_X10_bake (lk_L_92 rfl) (Or.inl ⟨_, 11, _, _, _, rfl, hB, rfl⟩) rfl (Nat.le_of_ble_eq_true rfl) hD) ?_
  refine gm_go.ru (gi_i2l dL_bake_7 hr) ?_
  refine gm_go.ru (gm_last dL_bake_8 ho z_0in) ?_
  refine gm_go.ru (gm_goto (tgt := 15) dL_bake_9 (by decide)) ?_
  refine gm_go.ru (gi_const dL_bake_15) ?_
  exact gm_iret dL_bake_16 rfl
set_option maxRecDepth 4000 in
theorem lx_bake_1 {h h' : gm_H} {n o D : Nat} {hs ep fc : Int} {a : Int} (hB : h.1[n]? = some (by_c n hs ep fc)) (hD : D < 12) (hc : gm_co mX10_bake D [.ref n, .int (zI a)] h (.inr "java/util/NoSuchElementException") h') : gm_co mL_bake 12 [.ref n, .int (zI a), .ref o] h (.inl (some (.int (zI 1)))) h' := by
  refine gm_co_ofH _ (by decide +kernel) (List.cons_ne_nil _ _) (Nat.le_of_ble_eq_true rfl) rfl ?_
  refine gm_go.ru (gm_aload_n dL_bake_0 rfl (by first | exact Or.inl ⟨_, rfl⟩ | exact Or.inr ⟨_, rfl⟩)) ?_
  refine gm_go.ru (gi_const dL_bake_1) ?_
  refine gm_go.ru (gm_aload_n dL_bake_2 rfl (by first | exact Or.inl ⟨_, rfl⟩ | exact Or.inr ⟨_, rfl⟩)) ?_
  refine gm_go.ru (gm_iload_n dL_bake_3 rfl) ?_
  refine gm_go.ru (gm_catch_n (gm_runV (As := [.int (zI a)]) (rest := [.int (zI 0), .ref o]) dL_bake_4 hc mt_X10_bake mv_X10_bake (lk_L_92 rfl) (Or.inl ⟨_, 11, _, _, _, rfl, hB, rfl⟩) rfl (Nat.le_of_ble_eq_true rfl) hD) [] ⟨0, 9, 12, 57⟩ [] rfl (fun z hz => absurd hz List.not_mem_nil) (by decide) (by decide) lc_57 lt_57 dL_bake_12 (Nat.le_of_ble_eq_true rfl)) ?_
  refine gm_go.ru (gi_const dL_bake_13) ?_
  exact gm_iret dL_bake_14 rfl
set_option maxRecDepth 4000 in
theorem lm_bake {h h' : gm_H} {n o D : Nat} {hs ep fc : Int} {a : Int} (hB : h.1[n]? = some (by_c n hs ep fc)) (hD : D < 12) {y : Nat} (hy : y < 7) (h0 : ¬ zCd 8 y = 0) (hc : gm_co mX10_bake D [.ref n, .int (zI a)] h (.inr (zXc y)) h') : gm_co mL_bake 12 [.ref n, .int (zI a), .ref o] h (.inl (some (.int (zI (zCd 8 y))))) h' := by
  match y, hy, h0, hc with
  | 0, _, h0, hc => exact absurd rfl h0
  | 1, _, h0, hc => exact absurd rfl h0
  | 2, _, h0, hc => exact absurd rfl h0
  | 3, _, h0, hc => exact absurd rfl h0
  | 4, _, h0, hc => exact absurd rfl h0
  | 5, _, h0, hc => exact absurd rfl h0
  | 6, _, h0, hc => exact lx_bake_1 hB hD hc
  | y + 7, hy, _, _ => omega
set_option maxRecDepth 4000 in
theorem lh_rest {h h' : gm_H} {n o D : Nat} {hs ep fc : Int} {a : Int} (hB : h.1[n]? = some (by_c n hs ep fc)) (hD : D < 12) {r : Int} (hr : zR r) (hc : gm_co mX10_rest D [.ref n, .int (zI a)] h (.inl (some (.int (zI r)))) h') {f : Nat → Int64} (ho : h'.1[o]? = some (gLo f)) : ∃ f', gm_co mL_rest 12 [.ref n, .int (zI a), .ref o] h (.inl (some (.int (zI 0)))) (h'.1.set o (gLo f'), h'.2) ∧ f' 0 = zL r := by
  refine ⟨vp_updL f (zI 0).toNatClampNeg (zL r), ?_, by rw [z_0cl]; exact if_pos rfl⟩
  refine gm_co_ofH _ (by decide +kernel) (List.cons_ne_nil _ _) (Nat.le_of_ble_eq_true rfl) rfl ?_
  refine gm_go.ru (gm_aload_n dL_rest_0 rfl (by first | exact Or.inl ⟨_, rfl⟩ | exact Or.inr ⟨_, rfl⟩)) ?_
  refine gm_go.ru (gi_const dL_rest_1) ?_
  refine gm_go.ru (gm_aload_n dL_rest_2 rfl (by first | exact Or.inl ⟨_, rfl⟩ | exact Or.inr ⟨_, rfl⟩)) ?_
  refine gm_go.ru (gm_iload_n dL_rest_3 rfl) ?_
  refine gm_go.ru (gm_cV dL_rest_4 (hc) rfl mt_X10_rest mv_X10_rest (lk_L_95 rfl) (Or.inl ⟨_, 11, _, _, _, rfl, hB, rfl⟩) rfl (Nat.le_of_ble_eq_true rfl) hD) ?_
  refine gm_go.ru (gi_i2l dL_rest_7 hr) ?_
  refine gm_go.ru (gm_last dL_rest_8 ho z_0in) ?_
  refine gm_go.ru (gm_goto (tgt := 15) dL_rest_9 (by decide)) ?_
  refine gm_go.ru (gi_const dL_rest_15) ?_
  exact gm_iret dL_rest_16 rfl
set_option maxRecDepth 4000 in
theorem lx_rest_1 {h h' : gm_H} {n o D : Nat} {hs ep fc : Int} {a : Int} (hB : h.1[n]? = some (by_c n hs ep fc)) (hD : D < 12) (hc : gm_co mX10_rest D [.ref n, .int (zI a)] h (.inr "java/lang/IllegalArgumentException") h') : gm_co mL_rest 12 [.ref n, .int (zI a), .ref o] h (.inl (some (.int (zI 1)))) h' := by
  refine gm_co_ofH _ (by decide +kernel) (List.cons_ne_nil _ _) (Nat.le_of_ble_eq_true rfl) rfl ?_
  refine gm_go.ru (gm_aload_n dL_rest_0 rfl (by first | exact Or.inl ⟨_, rfl⟩ | exact Or.inr ⟨_, rfl⟩)) ?_
  refine gm_go.ru (gi_const dL_rest_1) ?_
  refine gm_go.ru (gm_aload_n dL_rest_2 rfl (by first | exact Or.inl ⟨_, rfl⟩ | exact Or.inr ⟨_, rfl⟩)) ?_
  refine gm_go.ru (gm_iload_n dL_rest_3 rfl) ?_
  refine gm_go.ru (gm_catch_n (gm_runV (As := [.int (zI a)]) (rest := [.int (zI 0), .ref o]) dL_rest_4 hc mt_X10_rest mv_X10_rest (lk_L_95 rfl) (Or.inl ⟨_, 11, _, _, _, rfl, hB, rfl⟩) rfl (Nat.le_of_ble_eq_true rfl) hD) [] ⟨0, 9, 12, 13⟩ [] rfl (fun z hz => absurd hz List.not_mem_nil) (by decide) (by decide) lc_13 lt_13 dL_rest_12 (Nat.le_of_ble_eq_true rfl)) ?_
  refine gm_go.ru (gi_const dL_rest_13) ?_
  exact gm_iret dL_rest_14 rfl
set_option maxRecDepth 4000 in
theorem lm_rest {h h' : gm_H} {n o D : Nat} {hs ep fc : Int} {a : Int} (hB : h.1[n]? = some (by_c n hs ep fc)) (hD : D < 12) {y : Nat} (hy : y < 7) (h0 : ¬ zCd 9 y = 0) (hc : gm_co mX10_rest D [.ref n, .int (zI a)] h (.inr (zXc y)) h') : gm_co mL_rest 12 [.ref n, .int (zI a), .ref o] h (.inl (some (.int (zI (zCd 9 y))))) h' := by
  match y, hy, h0, hc with
  | 0, _, h0, hc => exact absurd rfl h0
  | 1, _, h0, hc => exact absurd rfl h0
  | 2, _, h0, hc => exact lx_rest_1 hB hD hc
  | 3, _, h0, hc => exact absurd rfl h0
  | 4, _, h0, hc => exact absurd rfl h0
  | 5, _, h0, hc => exact absurd rfl h0
  | 6, _, h0, hc => exact absurd rfl h0
  | y + 7, hy, _, _ => omega
set_option maxRecDepth 4000 in
theorem lh_batchAt {h h' : gm_H} {n o D : Nat} {hs ep fc : Int} {a : Int} (hB : h.1[n]? = some (by_c n hs ep fc)) (hD : D < 12) {r : Int} (hr : zR r) (hc : gm_co mX10_batchAt D [.ref n, .int (zI a)] h (.inl (some (.int (zI r)))) h') {f : Nat → Int64} (ho : h'.1[o]? = some (gLo f)) : ∃ f', gm_co mL_batchAt 12 [.ref n, .int (zI a), .ref o] h (.inl (some (.int (zI 0)))) (h'.1.set o (gLo f'), h'.2) ∧ f' 0 = zL r := by
  refine ⟨vp_updL f (zI 0).toNatClampNeg (zL r), ?_, by rw [z_0cl]; exact if_pos rfl⟩
  refine gm_co_ofH _ (by decide +kernel) (List.cons_ne_nil _ _) (Nat.le_of_ble_eq_true rfl) rfl ?_
  refine gm_go.ru (gm_aload_n dL_batchAt_0 rfl (by first | exact Or.inl ⟨_, rfl⟩ | exact Or.inr ⟨_, rfl⟩)) ?_
  refine gm_go.ru (gi_const dL_batchAt_1) ?_
  refine gm_go.ru (gm_aload_n dL_batchAt_2 rfl (by first | exact Or.inl ⟨_, rfl⟩ | exact Or.inr ⟨_, rfl⟩)) ?_
  refine gm_go.ru (gm_iload_n dL_batchAt_3 rfl) ?_
  refine gm_go.ru (gm_cV dL_batchAt_4 (hc) rfl mt_X10_batchAt mv_X10_batchAt (lk_L_98 rfl) (Or.inl ⟨_, 11, _, _, _, rfl, hB, rfl⟩) rfl (Nat.le_of_ble_eq_true rfl) hD) ?_
  refine gm_go.ru (gi_i2l dL_batchAt_7 hr) ?_
  refine gm_go.ru (gm_last dL_batchAt_8 ho z_0in) ?_
  refine gm_go.ru (gm_goto (tgt := 15) dL_batchAt_9 (by decide)) ?_
  refine gm_go.ru (gi_const dL_batchAt_15) ?_
  exact gm_iret dL_batchAt_16 rfl
set_option maxRecDepth 4000 in
theorem lx_batchAt_1 {h h' : gm_H} {n o D : Nat} {hs ep fc : Int} {a : Int} (hB : h.1[n]? = some (by_c n hs ep fc)) (hD : D < 12) (hc : gm_co mX10_batchAt D [.ref n, .int (zI a)] h (.inr "java/lang/IndexOutOfBoundsException") h') : gm_co mL_batchAt 12 [.ref n, .int (zI a), .ref o] h (.inl (some (.int (zI 1)))) h' := by
  refine gm_co_ofH _ (by decide +kernel) (List.cons_ne_nil _ _) (Nat.le_of_ble_eq_true rfl) rfl ?_
  refine gm_go.ru (gm_aload_n dL_batchAt_0 rfl (by first | exact Or.inl ⟨_, rfl⟩ | exact Or.inr ⟨_, rfl⟩)) ?_
  refine gm_go.ru (gi_const dL_batchAt_1) ?_
  refine gm_go.ru (gm_aload_n dL_batchAt_2 rfl (by first | exact Or.inl ⟨_, rfl⟩ | exact Or.inr ⟨_, rfl⟩)) ?_
  refine gm_go.ru (gm_iload_n dL_batchAt_3 rfl) ?_
  refine gm_go.ru (gm_catch_n (gm_runV (As := [.int (zI a)]) (rest := [.int (zI 0), .ref o]) dL_batchAt_4 hc mt_X10_batchAt mv_X10_batchAt (lk_L_98 rfl) (Or.inl ⟨_, 11, _, _, _, rfl, hB, rfl⟩) rfl (Nat.le_of_ble_eq_true rfl) hD) [] ⟨0, 9, 12, 21⟩ [] rfl (fun z hz => absurd hz List.not_mem_nil) (by decide) (by decide) lc_21 lt_21 dL_batchAt_12 (Nat.le_of_ble_eq_true rfl)) ?_
  refine gm_go.ru (gi_const dL_batchAt_13) ?_
  exact gm_iret dL_batchAt_14 rfl
set_option maxRecDepth 4000 in
theorem lh_latenessNow {h h' : gm_H} {n o D : Nat} {hs ep fc : Int} {a : Int} (hB : h.1[n]? = some (by_c n hs ep fc)) (hD : D < 12) {r : Int} (hr : zR r) (hc : gm_co mX10_latenessNow D [.ref n, .int (zI a)] h (.inl (some (.int (zI r)))) h') {f : Nat → Int64} (ho : h'.1[o]? = some (gLo f)) : ∃ f', gm_co mL_latenessNow 12 [.ref n, .int (zI a), .ref o] h (.inl (some (.int (zI 0)))) (h'.1.set o (gLo f'), h'.2) ∧ f' 0 = zL r := by
  refine ⟨vp_updL f (zI 0).toNatClampNeg (zL r), ?_, by rw [z_0cl]; exact if_pos rfl⟩
  refine gm_co_ofH _ (by decide +kernel) (List.cons_ne_nil _ _) (Nat.le_of_ble_eq_true rfl) rfl ?_
  refine gm_go.ru (gm_aload_n dL_latenessNow_0 rfl (by first | exact Or.inl ⟨_, rfl⟩ | exact Or.inr ⟨_, rfl⟩)) ?_
  refine gm_go.ru (gi_const dL_latenessNow_1) ?_
  refine gm_go.ru (gm_aload_n dL_latenessNow_2 rfl (by first | exact Or.inl ⟨_, rfl⟩ | exact Or.inr ⟨_, rfl⟩)) ?_
  refine gm_go.ru (gm_iload_n dL_latenessNow_3 rfl) ?_
  refine gm_go.ru (gm_cV dL_latenessNow_4 (hc) rfl mt_X10_latenessNow mv_X10_latenessNow (lk_L_101 rfl) (Or.inl ⟨_, 11, _, _, _, rfl, hB, rfl⟩) rfl (Nat.le_of_ble_eq_true rfl) hD) ?_
  refine gm_go.ru (gi_i2l dL_latenessNow_7 hr) ?_
  refine gm_go.ru (gm_last dL_latenessNow_8 ho z_0in) ?_
  refine gm_go.ru (gm_goto (tgt := 15) dL_latenessNow_9 (by decide)) ?_
  refine gm_go.ru (gi_const dL_latenessNow_15) ?_
  exact gm_iret dL_latenessNow_16 rfl
set_option maxRecDepth 4000 in
theorem lx_latenessNow_1 {h h' : gm_H} {n o D : Nat} {hs ep fc : Int} {a : Int} (hB : h.1[n]? = some (by_c n hs ep fc)) (hD : D < 12) (hc : gm_co mX10_latenessNow D [.ref n, .int (zI a)] h (.inr "java/util/NoSuchElementException") h') : gm_co mL_latenessNow 12 [.ref n, .int (zI a), .ref o] h (.inl (some (.int (zI 1)))) h' := by
  refine gm_co_ofH _ (by decide +kernel) (List.cons_ne_nil _ _) (Nat.le_of_ble_eq_true rfl) rfl ?_
  refine gm_go.ru (gm_aload_n dL_latenessNow_0 rfl (by first | exact Or.inl ⟨_, rfl⟩ | exact Or.inr ⟨_, rfl⟩)) ?_
  refine gm_go.ru (gi_const dL_latenessNow_1) ?_
  refine gm_go.ru (gm_aload_n dL_latenessNow_2 rfl (by first | exact Or.inl ⟨_, rfl⟩ | exact Or.inr ⟨_, rfl⟩)) ?_
  refine gm_go.ru (gm_iload_n dL_latenessNow_3 rfl) ?_
  refine gm_go.ru (gm_catch_n (gm_runV (As := [.int (zI a)]) (rest := [.int (zI 0), .ref o]) dL_latenessNow_4 hc mt_X10_latenessNow mv_X10_latenessNow (lk_L_101 rfl) (Or.inl ⟨_, 11, _, _, _, rfl, hB, rfl⟩) rfl (Nat.le_of_ble_eq_true rfl) hD) [] ⟨0, 9, 12, 57⟩ [] rfl (fun z hz => absurd hz List.not_mem_nil) (by decide) (by decide) lc_57 lt_57 dL_latenessNow_12 (Nat.le_of_ble_eq_true rfl)) ?_
  refine gm_go.ru (gi_const dL_latenessNow_13) ?_
  exact gm_iret dL_latenessNow_14 rfl
set_option maxRecDepth 4000 in
theorem lh_bestFirst {h h' : gm_H} {n o D : Nat} {hs ep fc : Int} (hB : h.1[n]? = some (by_c n hs ep fc)) (hD : D < 12) {r : Int} (hr : zR r) (hc : gm_co mX10_bestFirst D [.ref n] h (.inl (some (.int (zI r)))) h') {f : Nat → Int64} (ho : h'.1[o]? = some (gLo f)) : ∃ f', gm_co mL_bestFirst 12 [.ref n, .ref o] h (.inl (some (.int (zI 0)))) (h'.1.set o (gLo f'), h'.2) ∧ f' 0 = zL r := by
  refine ⟨vp_updL f (zI 0).toNatClampNeg (zL r), ?_, by rw [z_0cl]; exact if_pos rfl⟩
  refine gm_co_ofH _ (by decide +kernel) (List.cons_ne_nil _ _) (Nat.le_of_ble_eq_true rfl) rfl ?_
  refine gm_go.ru (gm_aload_n dL_bestFirst_0 rfl (by first | exact Or.inl ⟨_, rfl⟩ | exact Or.inr ⟨_, rfl⟩)) ?_
  refine gm_go.ru (gi_const dL_bestFirst_1) ?_
  refine gm_go.ru (gm_aload_n dL_bestFirst_2 rfl (by first | exact Or.inl ⟨_, rfl⟩ | exact Or.inr ⟨_, rfl⟩)) ?_
  refine gm_go.ru (gm_cV dL_bestFirst_3 (hc) rfl mt_X10_bestFirst mv_X10_bestFirst (lk_L_104 rfl) (Or.inl ⟨_, 11, _, _, _, rfl, hB, rfl⟩) rfl (Nat.le_of_ble_eq_true rfl) hD) ?_
  refine gm_go.ru (gi_i2l dL_bestFirst_6 hr) ?_
  refine gm_go.ru (gm_last dL_bestFirst_7 ho z_0in) ?_
  refine gm_go.ru (gm_goto (tgt := 14) dL_bestFirst_8 (by decide)) ?_
  refine gm_go.ru (gi_const dL_bestFirst_14) ?_
  exact gm_iret dL_bestFirst_15 rfl
set_option maxRecDepth 4000 in
theorem lx_bestFirst_1 {h h' : gm_H} {n o D : Nat} {hs ep fc : Int} (hB : h.1[n]? = some (by_c n hs ep fc)) (hD : D < 12) (hc : gm_co mX10_bestFirst D [.ref n] h (.inr "java/util/NoSuchElementException") h') : gm_co mL_bestFirst 12 [.ref n, .ref o] h (.inl (some (.int (zI 1)))) h' := by
  refine gm_co_ofH _ (by decide +kernel) (List.cons_ne_nil _ _) (Nat.le_of_ble_eq_true rfl) rfl ?_
  refine gm_go.ru (gm_aload_n dL_bestFirst_0 rfl (by first | exact Or.inl ⟨_, rfl⟩ | exact Or.inr ⟨_, rfl⟩)) ?_
  refine gm_go.ru (gi_const dL_bestFirst_1) ?_
  refine gm_go.ru (gm_aload_n dL_bestFirst_2 rfl (by first | exact Or.inl ⟨_, rfl⟩ | exact Or.inr ⟨_, rfl⟩)) ?_
  refine gm_go.ru (gm_catch_n (gm_runV (As := []) (rest := [.int (zI 0), .ref o]) dL_bestFirst_3 hc mt_X10_bestFirst mv_X10_bestFirst (lk_L_104 rfl) (Or.inl ⟨_, 11, _, _, _, rfl, hB, rfl⟩) rfl (Nat.le_of_ble_eq_true rfl) hD) [] ⟨0, 8, 11, 57⟩ [] rfl (fun z hz => absurd hz List.not_mem_nil) (by decide) (by decide) lc_57 lt_57 dL_bestFirst_11 (Nat.le_of_ble_eq_true rfl)) ?_
  refine gm_go.ru (gi_const dL_bestFirst_12) ?_
  exact gm_iret dL_bestFirst_13 rfl
set_option maxRecDepth 4000 in
theorem lh_bakingShare {h h' : gm_H} {n o D : Nat} {hs ep fc : Int} (hB : h.1[n]? = some (by_c n hs ep fc)) (hD : D < 12) {r : UInt32} (hr : vf_n64 (FP.f2d r)) (hc : gm_co mX10_bakingShare D [.ref n] h (.inl (some (.float r))) h') {f : Nat → UInt64} (ho : h'.1[o]? = some (gDo f)) : ∃ f', gm_co mL_bakingShare 12 [.ref n, .ref o] h (.inl (some (.int (zI 0)))) (h'.1.set o (gDo f'), h'.2) ∧ f' 0 = FP.f2d r := by
  refine ⟨va_up f (zI 0).toNatClampNeg (FP.f2d r), ?_, by rw [z_0cl]; exact if_pos rfl⟩
  refine gm_co_ofH _ (by decide +kernel) (List.cons_ne_nil _ _) (Nat.le_of_ble_eq_true rfl) rfl ?_
  refine gm_go.ru (gm_aload_n dL_bakingShare_0 rfl (by first | exact Or.inl ⟨_, rfl⟩ | exact Or.inr ⟨_, rfl⟩)) ?_
  refine gm_go.ru (gi_const dL_bakingShare_1) ?_
  refine gm_go.ru (gm_aload_n dL_bakingShare_2 rfl (by first | exact Or.inl ⟨_, rfl⟩ | exact Or.inr ⟨_, rfl⟩)) ?_
  refine gm_go.ru (gm_cV dL_bakingShare_3 (hc) rfl mt_X10_bakingShare mv_X10_bakingShare (lk_L_108 rfl) (Or.inl ⟨_, 11, _, _, _, rfl, hB, rfl⟩) rfl (Nat.le_of_ble_eq_true rfl) hD) ?_
  refine gm_go.ru (gm_f2d hr dL_bakingShare_6) ?_
  refine gm_go.ru (gm_dast dL_bakingShare_7 ho z_0in) ?_
  refine gm_go.ru (gm_goto (tgt := 14) dL_bakingShare_8 (by decide)) ?_
  refine gm_go.ru (gi_const dL_bakingShare_14) ?_
  exact gm_iret dL_bakingShare_15 rfl
set_option maxRecDepth 4000 in
theorem lx_bakingShare_1 {h h' : gm_H} {n o D : Nat} {hs ep fc : Int} (hB : h.1[n]? = some (by_c n hs ep fc)) (hD : D < 12) (hc : gm_co mX10_bakingShare D [.ref n] h (.inr "java/lang/ArithmeticException") h') : gm_co mL_bakingShare 12 [.ref n, .ref o] h (.inl (some (.int (zI 1)))) h' := by
  refine gm_co_ofH _ (by decide +kernel) (List.cons_ne_nil _ _) (Nat.le_of_ble_eq_true rfl) rfl ?_
  refine gm_go.ru (gm_aload_n dL_bakingShare_0 rfl (by first | exact Or.inl ⟨_, rfl⟩ | exact Or.inr ⟨_, rfl⟩)) ?_
  refine gm_go.ru (gi_const dL_bakingShare_1) ?_
  refine gm_go.ru (gm_aload_n dL_bakingShare_2 rfl (by first | exact Or.inl ⟨_, rfl⟩ | exact Or.inr ⟨_, rfl⟩)) ?_
  refine gm_go.ru (gm_catch_n (gm_runV (As := []) (rest := [.int (zI 0), .ref o]) dL_bakingShare_3 hc mt_X10_bakingShare mv_X10_bakingShare (lk_L_108 rfl) (Or.inl ⟨_, 11, _, _, _, rfl, hB, rfl⟩) rfl (Nat.le_of_ble_eq_true rfl) hD) [] ⟨0, 8, 11, 81⟩ [] rfl (fun z hz => absurd hz List.not_mem_nil) (by decide) (by decide) lc_81 lt_81 dL_bakingShare_11 (Nat.le_of_ble_eq_true rfl)) ?_
  refine gm_go.ru (gi_const dL_bakingShare_12) ?_
  exact gm_iret dL_bakingShare_13 rfl
set_option maxRecDepth 4000 in
theorem lh_writeLabel {h h' : gm_H} {n o D : Nat} {hs ep fc : Int} {a : Int} (hB : h.1[n]? = some (by_c n hs ep fc)) (hD : D < 12) {r : Int} (hr : zR r) (hc : gm_co mX10_writeLabel D [.ref n, .int (zI a)] h (.inl (some (.int (zI r)))) h') {f : Nat → Int64} (ho : h'.1[o]? = some (gLo f)) : ∃ f', gm_co mL_writeLabel 12 [.ref n, .int (zI a), .ref o] h (.inl (some (.int (zI 0)))) (h'.1.set o (gLo f'), h'.2) ∧ f' 0 = zL r := by
  refine ⟨vp_updL f (zI 0).toNatClampNeg (zL r), ?_, by rw [z_0cl]; exact if_pos rfl⟩
  refine gm_co_ofH _ (by decide +kernel) (List.cons_ne_nil _ _) (Nat.le_of_ble_eq_true rfl) rfl ?_
  refine gm_go.ru (gm_aload_n dL_writeLabel_0 rfl (by first | exact Or.inl ⟨_, rfl⟩ | exact Or.inr ⟨_, rfl⟩)) ?_
  refine gm_go.ru (gi_const dL_writeLabel_1) ?_
  refine gm_go.ru (gm_aload_n dL_writeLabel_2 rfl (by first | exact Or.inl ⟨_, rfl⟩ | exact Or.inr ⟨_, rfl⟩)) ?_
  refine gm_go.ru (gm_iload_n dL_writeLabel_3 rfl) ?_
  refine gm_go.ru (gm_cV dL_writeLabel_4 (hc) rfl mt_X10_writeLabel mv_X10_writeLabel (lk_L_112 rfl) (Or.inl ⟨_, 11, _, _, _, rfl, hB, rfl⟩) rfl (Nat.le_of_ble_eq_true rfl) hD) ?_
  refine gm_go.ru (gi_i2l dL_writeLabel_7 hr) ?_
  refine gm_go.ru (gm_last dL_writeLabel_8 ho z_0in) ?_
  refine gm_go.ru (gm_goto (tgt := 15) dL_writeLabel_9 (by decide)) ?_
  refine gm_go.ru (gi_const dL_writeLabel_15) ?_
  exact gm_iret dL_writeLabel_16 rfl
set_option maxRecDepth 4000 in
theorem lx_writeLabel_1 {h h' : gm_H} {n o D : Nat} {hs ep fc : Int} {a : Int} (hB : h.1[n]? = some (by_c n hs ep fc)) (hD : D < 12) (hc : gm_co mX10_writeLabel D [.ref n, .int (zI a)] h (.inr "java/lang/IndexOutOfBoundsException") h') : gm_co mL_writeLabel 12 [.ref n, .int (zI a), .ref o] h (.inl (some (.int (zI 1)))) h' := by
  refine gm_co_ofH _ (by decide +kernel) (List.cons_ne_nil _ _) (Nat.le_of_ble_eq_true rfl) rfl ?_
  refine gm_go.ru (gm_aload_n dL_writeLabel_0 rfl (by first | exact Or.inl ⟨_, rfl⟩ | exact Or.inr ⟨_, rfl⟩)) ?_
  refine gm_go.ru (gi_const dL_writeLabel_1) ?_
  refine gm_go.ru (gm_aload_n dL_writeLabel_2 rfl (by first | exact Or.inl ⟨_, rfl⟩ | exact Or.inr ⟨_, rfl⟩)) ?_
  refine gm_go.ru (gm_iload_n dL_writeLabel_3 rfl) ?_
  refine gm_go.ru (gm_catch_n (gm_runV (As := [.int (zI a)]) (rest := [.int (zI 0), .ref o]) dL_writeLabel_4 hc mt_X10_writeLabel mv_X10_writeLabel (lk_L_112 rfl) (Or.inl ⟨_, 11, _, _, _, rfl, hB, rfl⟩) rfl (Nat.le_of_ble_eq_true rfl) hD) [] ⟨0, 9, 12, 21⟩ [] rfl (fun z hz => absurd hz List.not_mem_nil) (by decide) (by decide) lc_21 lt_21 dL_writeLabel_12 (Nat.le_of_ble_eq_true rfl)) ?_
  refine gm_go.ru (gi_const dL_writeLabel_13) ?_
  exact gm_iret dL_writeLabel_14 rfl
set_option maxRecDepth 4000 in
theorem lh_labelAt {h h' : gm_H} {n o D : Nat} {hs ep fc : Int} {a : Int} (hB : h.1[n]? = some (by_c n hs ep fc)) (hD : D < 12) {r : Int} (hr : zR r) (hc : gm_co mX10_labelAt D [.ref n, .int (zI a)] h (.inl (some (.int (zI r)))) h') {f : Nat → Int64} (ho : h'.1[o]? = some (gLo f)) : ∃ f', gm_co mL_labelAt 12 [.ref n, .int (zI a), .ref o] h (.inl (some (.int (zI 0)))) (h'.1.set o (gLo f'), h'.2) ∧ f' 0 = zL r := by
  refine ⟨vp_updL f (zI 0).toNatClampNeg (zL r), ?_, by rw [z_0cl]; exact if_pos rfl⟩
  refine gm_co_ofH _ (by decide +kernel) (List.cons_ne_nil _ _) (Nat.le_of_ble_eq_true rfl) rfl ?_
  refine gm_go.ru (gm_aload_n dL_labelAt_0 rfl (by first | exact Or.inl ⟨_, rfl⟩ | exact Or.inr ⟨_, rfl⟩)) ?_
  refine gm_go.ru (gi_const dL_labelAt_1) ?_
  refine gm_go.ru (gm_aload_n dL_labelAt_2 rfl (by first | exact Or.inl ⟨_, rfl⟩ | exact Or.inr ⟨_, rfl⟩)) ?_
  refine gm_go.ru (gm_iload_n dL_labelAt_3 rfl) ?_
  refine gm_go.ru (gm_cV dL_labelAt_4 (hc) rfl mt_X10_labelAt mv_X10_labelAt (lk_L_115 rfl) (Or.inl ⟨_, 11, _, _, _, rfl, hB, rfl⟩) rfl (Nat.le_of_ble_eq_true rfl) hD) ?_
  refine gm_go.ru (gi_i2l dL_labelAt_7 hr) ?_
  refine gm_go.ru (gm_last dL_labelAt_8 ho z_0in) ?_
  refine gm_go.ru (gm_goto (tgt := 15) dL_labelAt_9 (by decide)) ?_
  refine gm_go.ru (gi_const dL_labelAt_15) ?_
  exact gm_iret dL_labelAt_16 rfl
set_option maxRecDepth 4000 in
theorem lx_labelAt_1 {h h' : gm_H} {n o D : Nat} {hs ep fc : Int} {a : Int} (hB : h.1[n]? = some (by_c n hs ep fc)) (hD : D < 12) (hc : gm_co mX10_labelAt D [.ref n, .int (zI a)] h (.inr "java/lang/IndexOutOfBoundsException") h') : gm_co mL_labelAt 12 [.ref n, .int (zI a), .ref o] h (.inl (some (.int (zI 1)))) h' := by
  refine gm_co_ofH _ (by decide +kernel) (List.cons_ne_nil _ _) (Nat.le_of_ble_eq_true rfl) rfl ?_
  refine gm_go.ru (gm_aload_n dL_labelAt_0 rfl (by first | exact Or.inl ⟨_, rfl⟩ | exact Or.inr ⟨_, rfl⟩)) ?_
  refine gm_go.ru (gi_const dL_labelAt_1) ?_
  refine gm_go.ru (gm_aload_n dL_labelAt_2 rfl (by first | exact Or.inl ⟨_, rfl⟩ | exact Or.inr ⟨_, rfl⟩)) ?_
  refine gm_go.ru (gm_iload_n dL_labelAt_3 rfl) ?_
  refine gm_go.ru (gm_catch_n (gm_runV (As := [.int (zI a)]) (rest := [.int (zI 0), .ref o]) dL_labelAt_4 hc mt_X10_labelAt mv_X10_labelAt (lk_L_115 rfl) (Or.inl ⟨_, 11, _, _, _, rfl, hB, rfl⟩) rfl (Nat.le_of_ble_eq_true rfl) hD) [] ⟨0, 9, 12, 21⟩ [] rfl (fun z hz => absurd hz List.not_mem_nil) (by decide) (by decide) lc_21 lt_21 dL_labelAt_12 (Nat.le_of_ble_eq_true rfl)) ?_
  refine gm_go.ru (gi_const dL_labelAt_13) ?_
  exact gm_iret dL_labelAt_14 rfl
set_option maxRecDepth 4000 in
theorem lh_type {h h' : gm_H} {n o D : Nat} {hs ep fc : Int} {a : Int} (hB : h.1[n]? = some (by_c n hs ep fc)) (hD : D < 12) {r : Int} (hr : zR r) (hc : gm_co mX10_type D [.ref n, .int (zI a)] h (.inl (some (.int (zI r)))) h') {f : Nat → Int64} (ho : h'.1[o]? = some (gLo f)) : ∃ f', gm_co mL_type 12 [.ref n, .int (zI a), .ref o] h (.inl (some (.int (zI 0)))) (h'.1.set o (gLo f'), h'.2) ∧ f' 0 = zL r := by
  refine ⟨vp_updL f (zI 0).toNatClampNeg (zL r), ?_, by rw [z_0cl]; exact if_pos rfl⟩
  refine gm_co_ofH _ (by decide +kernel) (List.cons_ne_nil _ _) (Nat.le_of_ble_eq_true rfl) rfl ?_
  refine gm_go.ru (gm_aload_n dL_type_0 rfl (by first | exact Or.inl ⟨_, rfl⟩ | exact Or.inr ⟨_, rfl⟩)) ?_
  refine gm_go.ru (gi_const dL_type_1) ?_
  refine gm_go.ru (gm_aload_n dL_type_2 rfl (by first | exact Or.inl ⟨_, rfl⟩ | exact Or.inr ⟨_, rfl⟩)) ?_
  refine gm_go.ru (gm_iload_n dL_type_3 rfl) ?_
  refine gm_go.ru (gm_cV dL_type_4 (hc) rfl mt_X10_type mv_X10_type (lk_L_119 rfl) (Or.inl ⟨_, 11, _, _, _, rfl, hB, rfl⟩) rfl (Nat.le_of_ble_eq_true rfl) hD) ?_
  refine gm_go.ru (gi_i2l dL_type_7 hr) ?_
  refine gm_go.ru (gm_last dL_type_8 ho z_0in) ?_
  refine gm_go.ru (gm_goto (tgt := 18) dL_type_9 (by decide)) ?_
  refine gm_go.ru (gi_const dL_type_18) ?_
  exact gm_iret dL_type_19 rfl
set_option maxRecDepth 4000 in
theorem lx_type_1 {h h' : gm_H} {n o D : Nat} {hs ep fc : Int} {a : Int} (hB : h.1[n]? = some (by_c n hs ep fc)) (hD : D < 12) (hc : gm_co mX10_type D [.ref n, .int (zI a)] h (.inr "java/lang/IllegalArgumentException") h') : gm_co mL_type 12 [.ref n, .int (zI a), .ref o] h (.inl (some (.int (zI 1)))) h' := by
  refine gm_co_ofH _ (by decide +kernel) (List.cons_ne_nil _ _) (Nat.le_of_ble_eq_true rfl) rfl ?_
  refine gm_go.ru (gm_aload_n dL_type_0 rfl (by first | exact Or.inl ⟨_, rfl⟩ | exact Or.inr ⟨_, rfl⟩)) ?_
  refine gm_go.ru (gi_const dL_type_1) ?_
  refine gm_go.ru (gm_aload_n dL_type_2 rfl (by first | exact Or.inl ⟨_, rfl⟩ | exact Or.inr ⟨_, rfl⟩)) ?_
  refine gm_go.ru (gm_iload_n dL_type_3 rfl) ?_
  refine gm_go.ru (gm_catch_n (gm_runV (As := [.int (zI a)]) (rest := [.int (zI 0), .ref o]) dL_type_4 hc mt_X10_type mv_X10_type (lk_L_119 rfl) (Or.inl ⟨_, 11, _, _, _, rfl, hB, rfl⟩) rfl (Nat.le_of_ble_eq_true rfl) hD) [] ⟨0, 9, 12, 13⟩ [⟨0, 9, 15, 15⟩] rfl (fun z hz => absurd hz List.not_mem_nil) (by decide) (by decide) lc_13 lt_13 dL_type_12 (Nat.le_of_ble_eq_true rfl)) ?_
  refine gm_go.ru (gi_const dL_type_13) ?_
  exact gm_iret dL_type_14 rfl
set_option maxRecDepth 4000 in
theorem lx_type_2 {h h' : gm_H} {n o D : Nat} {hs ep fc : Int} {a : Int} (hB : h.1[n]? = some (by_c n hs ep fc)) (hD : D < 12) (hc : gm_co mX10_type D [.ref n, .int (zI a)] h (.inr "java/lang/IllegalStateException") h') : gm_co mL_type 12 [.ref n, .int (zI a), .ref o] h (.inl (some (.int (zI 2)))) h' := by
  refine gm_co_ofH _ (by decide +kernel) (List.cons_ne_nil _ _) (Nat.le_of_ble_eq_true rfl) rfl ?_
  refine gm_go.ru (gm_aload_n dL_type_0 rfl (by first | exact Or.inl ⟨_, rfl⟩ | exact Or.inr ⟨_, rfl⟩)) ?_
  refine gm_go.ru (gi_const dL_type_1) ?_
  refine gm_go.ru (gm_aload_n dL_type_2 rfl (by first | exact Or.inl ⟨_, rfl⟩ | exact Or.inr ⟨_, rfl⟩)) ?_
  refine gm_go.ru (gm_iload_n dL_type_3 rfl) ?_
  refine gm_go.ru (gm_catch_n (gm_runV (As := [.int (zI a)]) (rest := [.int (zI 0), .ref o]) dL_type_4 hc mt_X10_type mv_X10_type (lk_L_119 rfl) (Or.inl ⟨_, 11, _, _, _, rfl, hB, rfl⟩) rfl (Nat.le_of_ble_eq_true rfl) hD) [⟨0, 9, 12, 13⟩] ⟨0, 9, 15, 15⟩ [] rfl (List.forall_mem_cons.mpr ⟨Or.inr ⟨by decide, _, lc_13, by decide +kernel⟩, fun z hz => absurd hz List.not_mem_nil⟩) (by decide) (by decide) lc_15 lt_15 dL_type_15 (Nat.le_of_ble_eq_true rfl)) ?_
  refine gm_go.ru (gi_const dL_type_16) ?_
  exact gm_iret dL_type_17 rfl
set_option maxRecDepth 4000 in
theorem lh_execute {h h' : gm_H} {n o D : Nat} {hs ep fc : Int} (hB : h.1[n]? = some (by_c n hs ep fc)) (hD : D < 12) {r : Int} (hr : zR r) (hc : gm_co mX10_execute D [.ref n] h (.inl (some (.int (zI r)))) h') {f : Nat → Int64} (ho : h'.1[o]? = some (gLo f)) : ∃ f', gm_co mL_execute 12 [.ref n, .ref o] h (.inl (some (.int (zI 0)))) (h'.1.set o (gLo f'), h'.2) ∧ f' 0 = zL r := by
  refine ⟨vp_updL f (zI 0).toNatClampNeg (zL r), ?_, by rw [z_0cl]; exact if_pos rfl⟩
  refine gm_co_ofH _ (by decide +kernel) (List.cons_ne_nil _ _) (Nat.le_of_ble_eq_true rfl) rfl ?_
  refine gm_go.ru (gm_aload_n dL_execute_0 rfl (by first | exact Or.inl ⟨_, rfl⟩ | exact Or.inr ⟨_, rfl⟩)) ?_
  refine gm_go.ru (gi_const dL_execute_1) ?_
  refine gm_go.ru (gm_aload_n dL_execute_2 rfl (by first | exact Or.inl ⟨_, rfl⟩ | exact Or.inr ⟨_, rfl⟩)) ?_
  refine gm_go.ru (gm_cV dL_execute_3 (hc) rfl mt_X10_execute mv_X10_execute (lk_L_123 rfl) (Or.inl ⟨_, 11, _, _, _, rfl, hB, rfl⟩) rfl (Nat.le_of_ble_eq_true rfl) hD) ?_
  refine gm_go.ru (gi_i2l dL_execute_6 hr) ?_
  refine gm_go.ru (gm_last dL_execute_7 ho z_0in) ?_
  refine gm_go.ru (gm_goto (tgt := 17) dL_execute_8 (by decide)) ?_
  refine gm_go.ru (gi_const dL_execute_17) ?_
  exact gm_iret dL_execute_18 rfl
set_option maxRecDepth 4000 in
theorem lx_execute_1 {h h' : gm_H} {n o D : Nat} {hs ep fc : Int} (hB : h.1[n]? = some (by_c n hs ep fc)) (hD : D < 12) (hc : gm_co mX10_execute D [.ref n] h (.inr "java/lang/IllegalArgumentException") h') : gm_co mL_execute 12 [.ref n, .ref o] h (.inl (some (.int (zI 1)))) h' := by
  refine gm_co_ofH _ (by decide +kernel) (List.cons_ne_nil _ _) (Nat.le_of_ble_eq_true rfl) rfl ?_
  refine gm_go.ru (gm_aload_n dL_execute_0 rfl (by first | exact Or.inl ⟨_, rfl⟩ | exact Or.inr ⟨_, rfl⟩)) ?_
  refine gm_go.ru (gi_const dL_execute_1) ?_
  refine gm_go.ru (gm_aload_n dL_execute_2 rfl (by first | exact Or.inl ⟨_, rfl⟩ | exact Or.inr ⟨_, rfl⟩)) ?_
  refine gm_go.ru (gm_catch_n (gm_runV (As := []) (rest := [.int (zI 0), .ref o]) dL_execute_3 hc mt_X10_execute mv_X10_execute (lk_L_123 rfl) (Or.inl ⟨_, 11, _, _, _, rfl, hB, rfl⟩) rfl (Nat.le_of_ble_eq_true rfl) hD) [] ⟨0, 8, 11, 13⟩ [⟨0, 8, 14, 15⟩] rfl (fun z hz => absurd hz List.not_mem_nil) (by decide) (by decide) lc_13 lt_13 dL_execute_11 (Nat.le_of_ble_eq_true rfl)) ?_
  refine gm_go.ru (gi_const dL_execute_12) ?_
  exact gm_iret dL_execute_13 rfl
set_option maxRecDepth 4000 in
theorem lx_execute_2 {h h' : gm_H} {n o D : Nat} {hs ep fc : Int} (hB : h.1[n]? = some (by_c n hs ep fc)) (hD : D < 12) (hc : gm_co mX10_execute D [.ref n] h (.inr "java/lang/IllegalStateException") h') : gm_co mL_execute 12 [.ref n, .ref o] h (.inl (some (.int (zI 2)))) h' := by
  refine gm_co_ofH _ (by decide +kernel) (List.cons_ne_nil _ _) (Nat.le_of_ble_eq_true rfl) rfl ?_
  refine gm_go.ru (gm_aload_n dL_execute_0 rfl (by first | exact Or.inl ⟨_, rfl⟩ | exact Or.inr ⟨_, rfl⟩)) ?_
  refine gm_go.ru (gi_const dL_execute_1) ?_
  refine gm_go.ru (gm_aload_n dL_execute_2 rfl (by first | exact Or.inl ⟨_, rfl⟩ | exact Or.inr ⟨_, rfl⟩)) ?_
  refine gm_go.ru (gm_catch_n (gm_runV (As := []) (rest := [.int (zI 0), .ref o]) dL_execute_3 hc mt_X10_execute mv_X10_execute (lk_L_123 rfl) (Or.inl ⟨_, 11, _, _, _, rfl, hB, rfl⟩) rfl (Nat.le_of_ble_eq_true rfl) hD) [⟨0, 8, 11, 13⟩] ⟨0, 8, 14, 15⟩ [] rfl (List.forall_mem_cons.mpr ⟨Or.inr ⟨by decide, _, lc_13, by decide +kernel⟩, fun z hz => absurd hz List.not_mem_nil⟩) (by decide) (by decide) lc_15 lt_15 dL_execute_14 (Nat.le_of_ble_eq_true rfl)) ?_
  refine gm_go.ru (gi_const dL_execute_15) ?_
  exact gm_iret dL_execute_16 rfl
set_option maxRecDepth 4000 in
theorem lh_errorPosition {h h' : gm_H} {n o D : Nat} {hs ep fc : Int} (hB : h.1[n]? = some (by_c n hs ep fc)) (hD : D < 12) {r : Int} (hr : zR r) (hc : gm_co mX10_errorPosition D [.ref n] h (.inl (some (.int (zI r)))) h') {f : Nat → Int64} (ho : h'.1[o]? = some (gLo f)) : ∃ f', gm_co mL_errorPosition 12 [.ref n, .ref o] h (.inl (some (.int (zI 0)))) (h'.1.set o (gLo f'), h'.2) ∧ f' 0 = zL r := by
  refine ⟨vp_updL f (zI 0).toNatClampNeg (zL r), ?_, by rw [z_0cl]; exact if_pos rfl⟩
  refine gm_co_ofH _ (by decide +kernel) (List.cons_ne_nil _ _) (Nat.le_of_ble_eq_true rfl) rfl ?_
  refine gm_go.ru (gm_aload_n dL_errorPosition_0 rfl (by first | exact Or.inl ⟨_, rfl⟩ | exact Or.inr ⟨_, rfl⟩)) ?_
  refine gm_go.ru (gi_const dL_errorPosition_1) ?_
  refine gm_go.ru (gm_aload_n dL_errorPosition_2 rfl (by first | exact Or.inl ⟨_, rfl⟩ | exact Or.inr ⟨_, rfl⟩)) ?_
  refine gm_go.ru (gm_cV dL_errorPosition_3 (hc) rfl mt_X10_errorPosition mv_X10_errorPosition (lk_L_126 rfl) (Or.inl ⟨_, 11, _, _, _, rfl, hB, rfl⟩) rfl (Nat.le_of_ble_eq_true rfl) hD) ?_
  refine gm_go.ru (gi_i2l dL_errorPosition_6 hr) ?_
  refine gm_go.ru (gm_last dL_errorPosition_7 ho z_0in) ?_
  refine gm_go.ru (gm_goto (tgt := 14) dL_errorPosition_8 (by decide)) ?_
  refine gm_go.ru (gi_const dL_errorPosition_14) ?_
  exact gm_iret dL_errorPosition_15 rfl
set_option maxRecDepth 4000 in
theorem lx_errorPosition_1 {h h' : gm_H} {n o D : Nat} {hs ep fc : Int} (hB : h.1[n]? = some (by_c n hs ep fc)) (hD : D < 12) (hc : gm_co mX10_errorPosition D [.ref n] h (.inr "java/util/NoSuchElementException") h') : gm_co mL_errorPosition 12 [.ref n, .ref o] h (.inl (some (.int (zI 1)))) h' := by
  refine gm_co_ofH _ (by decide +kernel) (List.cons_ne_nil _ _) (Nat.le_of_ble_eq_true rfl) rfl ?_
  refine gm_go.ru (gm_aload_n dL_errorPosition_0 rfl (by first | exact Or.inl ⟨_, rfl⟩ | exact Or.inr ⟨_, rfl⟩)) ?_
  refine gm_go.ru (gi_const dL_errorPosition_1) ?_
  refine gm_go.ru (gm_aload_n dL_errorPosition_2 rfl (by first | exact Or.inl ⟨_, rfl⟩ | exact Or.inr ⟨_, rfl⟩)) ?_
  refine gm_go.ru (gm_catch_n (gm_runV (As := []) (rest := [.int (zI 0), .ref o]) dL_errorPosition_3 hc mt_X10_errorPosition mv_X10_errorPosition (lk_L_126 rfl) (Or.inl ⟨_, 11, _, _, _, rfl, hB, rfl⟩) rfl (Nat.le_of_ble_eq_true rfl) hD) [] ⟨0, 8, 11, 57⟩ [] rfl (fun z hz => absurd hz List.not_mem_nil) (by decide) (by decide) lc_57 lt_57 dL_errorPosition_11 (Nat.le_of_ble_eq_true rfl)) ?_
  refine gm_go.ru (gi_const dL_errorPosition_12) ?_
  exact gm_iret dL_errorPosition_13 rfl
set_option maxRecDepth 4000 in
theorem lh_failedCommand {h h' : gm_H} {n o D : Nat} {hs ep fc : Int} (hB : h.1[n]? = some (by_c n hs ep fc)) (hD : D < 12) {r : Int} (hr : zR r) (hc : gm_co mX10_failedCommand D [.ref n] h (.inl (some (.int (zI r)))) h') {f : Nat → Int64} (ho : h'.1[o]? = some (gLo f)) : ∃ f', gm_co mL_failedCommand 12 [.ref n, .ref o] h (.inl (some (.int (zI 0)))) (h'.1.set o (gLo f'), h'.2) ∧ f' 0 = zL r := by
  refine ⟨vp_updL f (zI 0).toNatClampNeg (zL r), ?_, by rw [z_0cl]; exact if_pos rfl⟩
  refine gm_co_ofH _ (by decide +kernel) (List.cons_ne_nil _ _) (Nat.le_of_ble_eq_true rfl) rfl ?_
  refine gm_go.ru (gm_aload_n dL_failedCommand_0 rfl (by first | exact Or.inl ⟨_, rfl⟩ | exact Or.inr ⟨_, rfl⟩)) ?_
  refine gm_go.ru (gi_const dL_failedCommand_1) ?_
  refine gm_go.ru (gm_aload_n dL_failedCommand_2 rfl (by first | exact Or.inl ⟨_, rfl⟩ | exact Or.inr ⟨_, rfl⟩)) ?_
  refine gm_go.ru (gm_cV dL_failedCommand_3 (hc) rfl mt_X10_failedCommand mv_X10_failedCommand (lk_L_129 rfl) (Or.inl ⟨_, 11, _, _, _, rfl, hB, rfl⟩) rfl (Nat.le_of_ble_eq_true rfl) hD) ?_
  refine gm_go.ru (gi_i2l dL_failedCommand_6 hr) ?_
  refine gm_go.ru (gm_last dL_failedCommand_7 ho z_0in) ?_
  refine gm_go.ru (gm_goto (tgt := 14) dL_failedCommand_8 (by decide)) ?_
  refine gm_go.ru (gi_const dL_failedCommand_14) ?_
  exact gm_iret dL_failedCommand_15 rfl
set_option maxRecDepth 4000 in
theorem lx_failedCommand_1 {h h' : gm_H} {n o D : Nat} {hs ep fc : Int} (hB : h.1[n]? = some (by_c n hs ep fc)) (hD : D < 12) (hc : gm_co mX10_failedCommand D [.ref n] h (.inr "java/util/NoSuchElementException") h') : gm_co mL_failedCommand 12 [.ref n, .ref o] h (.inl (some (.int (zI 1)))) h' := by
  refine gm_co_ofH _ (by decide +kernel) (List.cons_ne_nil _ _) (Nat.le_of_ble_eq_true rfl) rfl ?_
  refine gm_go.ru (gm_aload_n dL_failedCommand_0 rfl (by first | exact Or.inl ⟨_, rfl⟩ | exact Or.inr ⟨_, rfl⟩)) ?_
  refine gm_go.ru (gi_const dL_failedCommand_1) ?_
  refine gm_go.ru (gm_aload_n dL_failedCommand_2 rfl (by first | exact Or.inl ⟨_, rfl⟩ | exact Or.inr ⟨_, rfl⟩)) ?_
  refine gm_go.ru (gm_catch_n (gm_runV (As := []) (rest := [.int (zI 0), .ref o]) dL_failedCommand_3 hc mt_X10_failedCommand mv_X10_failedCommand (lk_L_129 rfl) (Or.inl ⟨_, 11, _, _, _, rfl, hB, rfl⟩) rfl (Nat.le_of_ble_eq_true rfl) hD) [] ⟨0, 8, 11, 57⟩ [] rfl (fun z hz => absurd hz List.not_mem_nil) (by decide) (by decide) lc_57 lt_57 dL_failedCommand_11 (Nat.le_of_ble_eq_true rfl)) ?_
  refine gm_go.ru (gi_const dL_failedCommand_12) ?_
  exact gm_iret dL_failedCommand_13 rfl
set_option maxRecDepth 4000 in
theorem lh_undo {h h' : gm_H} {n o D : Nat} {hs ep fc : Int} (hB : h.1[n]? = some (by_c n hs ep fc)) (hD : D < 12) {r : Int} (hr : zR r) (hc : gm_co mX10_undo D [.ref n] h (.inl (some (.int (zI r)))) h') {f : Nat → Int64} (ho : h'.1[o]? = some (gLo f)) : ∃ f', gm_co mL_undo 12 [.ref n, .ref o] h (.inl (some (.int (zI 0)))) (h'.1.set o (gLo f'), h'.2) ∧ f' 0 = zL r := by
  refine ⟨vp_updL f (zI 0).toNatClampNeg (zL r), ?_, by rw [z_0cl]; exact if_pos rfl⟩
  refine gm_co_ofH _ (by decide +kernel) (List.cons_ne_nil _ _) (Nat.le_of_ble_eq_true rfl) rfl ?_
  refine gm_go.ru (gm_aload_n dL_undo_0 rfl (by first | exact Or.inl ⟨_, rfl⟩ | exact Or.inr ⟨_, rfl⟩)) ?_
  refine gm_go.ru (gi_const dL_undo_1) ?_
  refine gm_go.ru (gm_aload_n dL_undo_2 rfl (by first | exact Or.inl ⟨_, rfl⟩ | exact Or.inr ⟨_, rfl⟩)) ?_
  refine gm_go.ru (gm_cV dL_undo_3 (hc) rfl mt_X10_undo mv_X10_undo (lk_L_132 rfl) (Or.inl ⟨_, 11, _, _, _, rfl, hB, rfl⟩) rfl (Nat.le_of_ble_eq_true rfl) hD) ?_
  refine gm_go.ru (gi_i2l dL_undo_6 hr) ?_
  refine gm_go.ru (gm_last dL_undo_7 ho z_0in) ?_
  refine gm_go.ru (gm_goto (tgt := 14) dL_undo_8 (by decide)) ?_
  refine gm_go.ru (gi_const dL_undo_14) ?_
  exact gm_iret dL_undo_15 rfl
set_option maxRecDepth 4000 in
theorem lx_undo_1 {h h' : gm_H} {n o D : Nat} {hs ep fc : Int} (hB : h.1[n]? = some (by_c n hs ep fc)) (hD : D < 12) (hc : gm_co mX10_undo D [.ref n] h (.inr "java/lang/IllegalStateException") h') : gm_co mL_undo 12 [.ref n, .ref o] h (.inl (some (.int (zI 1)))) h' := by
  refine gm_co_ofH _ (by decide +kernel) (List.cons_ne_nil _ _) (Nat.le_of_ble_eq_true rfl) rfl ?_
  refine gm_go.ru (gm_aload_n dL_undo_0 rfl (by first | exact Or.inl ⟨_, rfl⟩ | exact Or.inr ⟨_, rfl⟩)) ?_
  refine gm_go.ru (gi_const dL_undo_1) ?_
  refine gm_go.ru (gm_aload_n dL_undo_2 rfl (by first | exact Or.inl ⟨_, rfl⟩ | exact Or.inr ⟨_, rfl⟩)) ?_
  refine gm_go.ru (gm_catch_n (gm_runV (As := []) (rest := [.int (zI 0), .ref o]) dL_undo_3 hc mt_X10_undo mv_X10_undo (lk_L_132 rfl) (Or.inl ⟨_, 11, _, _, _, rfl, hB, rfl⟩) rfl (Nat.le_of_ble_eq_true rfl) hD) [] ⟨0, 8, 11, 15⟩ [] rfl (fun z hz => absurd hz List.not_mem_nil) (by decide) (by decide) lc_15 lt_15 dL_undo_11 (Nat.le_of_ble_eq_true rfl)) ?_
  refine gm_go.ru (gi_const dL_undo_12) ?_
  exact gm_iret dL_undo_13 rfl
set_option maxRecDepth 4000 in
theorem lh_restore {h h' : gm_H} {n o D : Nat} {hs ep fc : Int} (hB : h.1[n]? = some (by_c n hs ep fc)) (hD : D < 12) {r : Int} (hr : zR r) (hc : gm_co mX10_restore D [.ref n] h (.inl (some (.int (zI r)))) h') {f : Nat → Int64} (ho : h'.1[o]? = some (gLo f)) : ∃ f', gm_co mL_restore 12 [.ref n, .ref o] h (.inl (some (.int (zI 0)))) (h'.1.set o (gLo f'), h'.2) ∧ f' 0 = zL r := by
  refine ⟨vp_updL f (zI 0).toNatClampNeg (zL r), ?_, by rw [z_0cl]; exact if_pos rfl⟩
  refine gm_co_ofH _ (by decide +kernel) (List.cons_ne_nil _ _) (Nat.le_of_ble_eq_true rfl) rfl ?_
  refine gm_go.ru (gm_aload_n dL_restore_0 rfl (by first | exact Or.inl ⟨_, rfl⟩ | exact Or.inr ⟨_, rfl⟩)) ?_
  refine gm_go.ru (gi_const dL_restore_1) ?_
  refine gm_go.ru (gm_aload_n dL_restore_2 rfl (by first | exact Or.inl ⟨_, rfl⟩ | exact Or.inr ⟨_, rfl⟩)) ?_
  refine gm_go.ru (gm_cV dL_restore_3 (hc) rfl mt_X10_restore mv_X10_restore (lk_L_135 rfl) (Or.inl ⟨_, 11, _, _, _, rfl, hB, rfl⟩) rfl (Nat.le_of_ble_eq_true rfl) hD) ?_
  refine gm_go.ru (gi_i2l dL_restore_6 hr) ?_
  refine gm_go.ru (gm_last dL_restore_7 ho z_0in) ?_
  refine gm_go.ru (gm_goto (tgt := 14) dL_restore_8 (by decide)) ?_
  refine gm_go.ru (gi_const dL_restore_14) ?_
  exact gm_iret dL_restore_15 rfl
set_option maxRecDepth 4000 in
theorem lx_restore_1 {h h' : gm_H} {n o D : Nat} {hs ep fc : Int} (hB : h.1[n]? = some (by_c n hs ep fc)) (hD : D < 12) (hc : gm_co mX10_restore D [.ref n] h (.inr "java/lang/IllegalStateException") h') : gm_co mL_restore 12 [.ref n, .ref o] h (.inl (some (.int (zI 1)))) h' := by
  refine gm_co_ofH _ (by decide +kernel) (List.cons_ne_nil _ _) (Nat.le_of_ble_eq_true rfl) rfl ?_
  refine gm_go.ru (gm_aload_n dL_restore_0 rfl (by first | exact Or.inl ⟨_, rfl⟩ | exact Or.inr ⟨_, rfl⟩)) ?_
  refine gm_go.ru (gi_const dL_restore_1) ?_
  refine gm_go.ru (gm_aload_n dL_restore_2 rfl (by first | exact Or.inl ⟨_, rfl⟩ | exact Or.inr ⟨_, rfl⟩)) ?_
  refine gm_go.ru (gm_catch_n (gm_runV (As := []) (rest := [.int (zI 0), .ref o]) dL_restore_3 hc mt_X10_restore mv_X10_restore (lk_L_135 rfl) (Or.inl ⟨_, 11, _, _, _, rfl, hB, rfl⟩) rfl (Nat.le_of_ble_eq_true rfl) hD) [] ⟨0, 8, 11, 15⟩ [] rfl (fun z hz => absurd hz List.not_mem_nil) (by decide) (by decide) lc_15 lt_15 dL_restore_11 (Nat.le_of_ble_eq_true rfl)) ?_
  refine gm_go.ru (gi_const dL_restore_12) ?_
  exact gm_iret dL_restore_13 rfl
