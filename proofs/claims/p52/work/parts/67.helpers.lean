theorem lc_13 : Cond.classLink RL 13 "java/lang/IllegalArgumentException" ∈ gm_big := gm_in (i := 473) (by decide +kernel) (by decide +kernel)
theorem lt_13 : Cond.castable "java/lang/IllegalArgumentException" "java/lang/IllegalArgumentException" ∈ gm_big := gm_in (i := 641) (by decide +kernel) (by decide +kernel)
theorem lc_15 : Cond.classLink RL 15 "java/lang/IllegalStateException" ∈ gm_big := gm_in (i := 474) (by decide +kernel) (by decide +kernel)
theorem lt_15 : Cond.castable "java/lang/IllegalStateException" "java/lang/IllegalStateException" ∈ gm_big := gm_in (i := 657) (by decide +kernel) (by decide +kernel)
theorem lc_21 : Cond.classLink RL 21 "java/lang/IndexOutOfBoundsException" ∈ gm_big := gm_in (i := 779) (by decide +kernel) (by decide +kernel)
theorem lt_21 : Cond.castable "java/lang/IndexOutOfBoundsException" "java/lang/IndexOutOfBoundsException" ∈ gm_big := gm_in (i := 568) (by decide +kernel) (by decide +kernel)
theorem lc_27 : Cond.classLink RL 27 "java/lang/UnsupportedOperationException" ∈ gm_big := gm_in (i := 809) (by decide +kernel) (by decide +kernel)
theorem lt_27 : Cond.castable "java/lang/UnsupportedOperationException" "java/lang/UnsupportedOperationException" ∈ gm_big := gm_in (i := 674) (by decide +kernel) (by decide +kernel)
theorem lc_57 : Cond.classLink RL 57 "java/util/NoSuchElementException" ∈ gm_big := gm_in (i := 846) (by decide +kernel) (by decide +kernel)
theorem lt_57 : Cond.castable "java/util/NoSuchElementException" "java/util/NoSuchElementException" ∈ gm_big := gm_in (i := 690) (by decide +kernel) (by decide +kernel)
theorem lc_81 : Cond.classLink RL 81 "java/lang/ArithmeticException" ∈ gm_big := gm_in (i := 864) (by decide +kernel) (by decide +kernel)
theorem lt_81 : Cond.castable "java/lang/ArithmeticException" "java/lang/ArithmeticException" ∈ gm_big := gm_in (i := 876) (by decide +kernel) (by decide +kernel)
set_option maxRecDepth 4000 in
theorem lh_addNeedle {h h' : gm_H} {n D : Nat} {hs ep fc : Int} {a : Int} (hB : h.1[n]? = some (by_c n hs ep fc)) (hD : D < 14) {r : Int} (hc : gm_co mX10_addNeedle D [.ref n, .int (zI a)] h (.inl (some (.int (zI r)))) h') : gm_co mL_addNeedle 14 [.ref n, .int (zI a)] h (.inl (some (.int (zI r)))) h' := by
  refine gm_co_ofH _ (by decide +kernel) (List.cons_ne_nil _ _) (Nat.le_of_ble_eq_true rfl) rfl ?_
  refine gm_go.ru (gm_aload_n dL_addNeedle_0 rfl (by first | exact Or.inl ⟨_, rfl⟩ | exact Or.inr ⟨_, rfl⟩)) ?_
  refine gm_go.ru (gm_iload_n dL_addNeedle_1 rfl) ?_
  refine gm_go.ru (gm_cV dL_addNeedle_2 (hc) rfl mt_X10_addNeedle mv_X10_addNeedle (lk_L_7 rfl) (Or.inl ⟨_, 11, _, _, _, rfl, hB, rfl⟩) rfl (Nat.le_of_ble_eq_true rfl) hD) ?_
  exact gm_iret dL_addNeedle_5 rfl
set_option maxRecDepth 4000 in
theorem lx_addNeedle_1 {h h' : gm_H} {n D : Nat} {hs ep fc : Int} {a : Int} (hB : h.1[n]? = some (by_c n hs ep fc)) (hD : D < 14) (hc : gm_co mX10_addNeedle D [.ref n, .int (zI a)] h (.inr "java/lang/IllegalArgumentException") h') : gm_co mL_addNeedle 14 [.ref n, .int (zI a)] h (.inl (some (.int (zI (-1))))) h' := by
  refine gm_co_ofH _ (by decide +kernel) (List.cons_ne_nil _ _) (Nat.le_of_ble_eq_true rfl) rfl ?_
  refine gm_go.ru (gm_aload_n dL_addNeedle_0 rfl (by first | exact Or.inl ⟨_, rfl⟩ | exact Or.inr ⟨_, rfl⟩)) ?_
  refine gm_go.ru (gm_iload_n dL_addNeedle_1 rfl) ?_
  refine gm_go.ru (gm_catch_n (gm_runV (As := [.int (zI a)]) (rest := []) dL_addNeedle_2 hc mt_X10_addNeedle mv_X10_addNeedle (lk_L_7 rfl) (Or.inl ⟨_, 11, _, _, _, rfl, hB, rfl⟩) rfl (Nat.le_of_ble_eq_true rfl) hD) [] ⟨0, 5, 6, 13⟩ [⟨0, 5, 9, 15⟩] rfl (fun z hz => absurd hz List.not_mem_nil) (by decide) (by decide) lc_13 lt_13 dL_addNeedle_6 (Nat.le_of_ble_eq_true rfl)) ?_
  refine gm_go.ru (gi_const dL_addNeedle_7) ?_
  exact gm_iret dL_addNeedle_8 rfl
set_option maxRecDepth 4000 in
theorem lx_addNeedle_2 {h h' : gm_H} {n D : Nat} {hs ep fc : Int} {a : Int} (hB : h.1[n]? = some (by_c n hs ep fc)) (hD : D < 14) (hc : gm_co mX10_addNeedle D [.ref n, .int (zI a)] h (.inr "java/lang/IllegalStateException") h') : gm_co mL_addNeedle 14 [.ref n, .int (zI a)] h (.inl (some (.int (zI (-2))))) h' := by
  refine gm_co_ofH _ (by decide +kernel) (List.cons_ne_nil _ _) (Nat.le_of_ble_eq_true rfl) rfl ?_
  refine gm_go.ru (gm_aload_n dL_addNeedle_0 rfl (by first | exact Or.inl ⟨_, rfl⟩ | exact Or.inr ⟨_, rfl⟩)) ?_
  refine gm_go.ru (gm_iload_n dL_addNeedle_1 rfl) ?_
  refine gm_go.ru (gm_catch_n (gm_runV (As := [.int (zI a)]) (rest := []) dL_addNeedle_2 hc mt_X10_addNeedle mv_X10_addNeedle (lk_L_7 rfl) (Or.inl ⟨_, 11, _, _, _, rfl, hB, rfl⟩) rfl (Nat.le_of_ble_eq_true rfl) hD) [⟨0, 5, 6, 13⟩] ⟨0, 5, 9, 15⟩ [] rfl (List.forall_mem_cons.mpr ⟨Or.inr ⟨by decide, _, lc_13, by decide +kernel⟩, fun z hz => absurd hz List.not_mem_nil⟩) (by decide) (by decide) lc_15 lt_15 dL_addNeedle_9 (Nat.le_of_ble_eq_true rfl)) ?_
  refine gm_go.ru (gi_bipush dL_addNeedle_10 (by decide +kernel)) ?_
  exact gm_iret dL_addNeedle_12 rfl
set_option maxRecDepth 4000 in
theorem lh_setDeviation {h h' : gm_H} {n D : Nat} {hs ep fc : Int} {a b c : Int} (hB : h.1[n]? = some (by_c n hs ep fc)) (hD : D < 14) {r : Int} (hc : gm_co mX10_setDeviation D [.ref n, .int (zI a), .int (zI b), .int (zI c)] h (.inl (some (.int (zI r)))) h') : gm_co mL_setDeviation 14 [.ref n, .int (zI a), .int (zI b), .int (zI c)] h (.inl (some (.int (zI (100 + r))))) h' := by
  refine gm_co_ofH _ (by decide +kernel) (List.cons_ne_nil _ _) (Nat.le_of_ble_eq_true rfl) rfl ?_
  refine gm_go.ru (gi_bipush dL_setDeviation_0 (by decide +kernel)) ?_
  refine gm_go.ru (gm_aload_n dL_setDeviation_2 rfl (by first | exact Or.inl ⟨_, rfl⟩ | exact Or.inr ⟨_, rfl⟩)) ?_
  refine gm_go.ru (gm_iload_n dL_setDeviation_3 rfl) ?_
  refine gm_go.ru (gm_iload_n dL_setDeviation_4 rfl) ?_
  refine gm_go.ru (gm_iload_n dL_setDeviation_5 rfl) ?_
  refine gm_go.ru (gm_cV dL_setDeviation_6 (hc) rfl mt_X10_setDeviation mv_X10_setDeviation (lk_L_17 rfl) (Or.inl ⟨_, 11, _, _, _, rfl, hB, rfl⟩) rfl (Nat.le_of_ble_eq_true rfl) hD) ?_
  refine gm_go.ru (gi_add dL_setDeviation_9) ?_
  exact gm_iret dL_setDeviation_10 rfl
set_option maxRecDepth 4000 in
theorem lx_setDeviation_1 {h h' : gm_H} {n D : Nat} {hs ep fc : Int} {a b c : Int} (hB : h.1[n]? = some (by_c n hs ep fc)) (hD : D < 14) (hc : gm_co mX10_setDeviation D [.ref n, .int (zI a), .int (zI b), .int (zI c)] h (.inr "java/lang/IndexOutOfBoundsException") h') : gm_co mL_setDeviation 14 [.ref n, .int (zI a), .int (zI b), .int (zI c)] h (.inl (some (.int (zI (-1))))) h' := by
  refine gm_co_ofH _ (by decide +kernel) (List.cons_ne_nil _ _) (Nat.le_of_ble_eq_true rfl) rfl ?_
  refine gm_go.ru (gi_bipush dL_setDeviation_0 (by decide +kernel)) ?_
  refine gm_go.ru (gm_aload_n dL_setDeviation_2 rfl (by first | exact Or.inl ⟨_, rfl⟩ | exact Or.inr ⟨_, rfl⟩)) ?_
  refine gm_go.ru (gm_iload_n dL_setDeviation_3 rfl) ?_
  refine gm_go.ru (gm_iload_n dL_setDeviation_4 rfl) ?_
  refine gm_go.ru (gm_iload_n dL_setDeviation_5 rfl) ?_
  refine gm_go.ru (gm_catch_w (gm_runV (As := [.int (zI a), .int (zI b), .int (zI c)]) (rest := [.int (zI 100)]) dL_setDeviation_6 hc mt_X10_setDeviation mv_X10_setDeviation (lk_L_17 rfl) (Or.inl ⟨_, 11, _, _, _, rfl, hB, rfl⟩) rfl (Nat.le_of_ble_eq_true rfl) hD) [] ⟨0, 10, 11, 21⟩ [⟨0, 10, 15, 13⟩, ⟨0, 10, 20, 15⟩] rfl (fun z hz => absurd hz List.not_mem_nil) (by decide) (by decide) lc_21 lt_21 dL_setDeviation_11 (Nat.le_of_ble_eq_true rfl)) ?_
  refine gm_go.ru (gi_const dL_setDeviation_13) ?_
  exact gm_iret dL_setDeviation_14 rfl
set_option maxRecDepth 4000 in
theorem lx_setDeviation_2 {h h' : gm_H} {n D : Nat} {hs ep fc : Int} {a b c : Int} (hB : h.1[n]? = some (by_c n hs ep fc)) (hD : D < 14) (hc : gm_co mX10_setDeviation D [.ref n, .int (zI a), .int (zI b), .int (zI c)] h (.inr "java/lang/IllegalArgumentException") h') : gm_co mL_setDeviation 14 [.ref n, .int (zI a), .int (zI b), .int (zI c)] h (.inl (some (.int (zI (-2))))) h' := by
  refine gm_co_ofH _ (by decide +kernel) (List.cons_ne_nil _ _) (Nat.le_of_ble_eq_true rfl) rfl ?_
  refine gm_go.ru (gi_bipush dL_setDeviation_0 (by decide +kernel)) ?_
  refine gm_go.ru (gm_aload_n dL_setDeviation_2 rfl (by first | exact Or.inl ⟨_, rfl⟩ | exact Or.inr ⟨_, rfl⟩)) ?_
  refine gm_go.ru (gm_iload_n dL_setDeviation_3 rfl) ?_
  refine gm_go.ru (gm_iload_n dL_setDeviation_4 rfl) ?_
  refine gm_go.ru (gm_iload_n dL_setDeviation_5 rfl) ?_
  refine gm_go.ru (gm_catch_w (gm_runV (As := [.int (zI a), .int (zI b), .int (zI c)]) (rest := [.int (zI 100)]) dL_setDeviation_6 hc mt_X10_setDeviation mv_X10_setDeviation (lk_L_17 rfl) (Or.inl ⟨_, 11, _, _, _, rfl, hB, rfl⟩) rfl (Nat.le_of_ble_eq_true rfl) hD) [⟨0, 10, 11, 21⟩] ⟨0, 10, 15, 13⟩ [⟨0, 10, 20, 15⟩] rfl (List.forall_mem_cons.mpr ⟨Or.inr ⟨by decide, _, lc_21, by decide +kernel⟩, fun z hz => absurd hz List.not_mem_nil⟩) (by decide) (by decide) lc_13 lt_13 dL_setDeviation_15 (Nat.le_of_ble_eq_true rfl)) ?_
  refine gm_go.ru (gi_bipush dL_setDeviation_17 (by decide +kernel)) ?_
  exact gm_iret dL_setDeviation_19 rfl
set_option maxRecDepth 4000 in
theorem lx_setDeviation_3 {h h' : gm_H} {n D : Nat} {hs ep fc : Int} {a b c : Int} (hB : h.1[n]? = some (by_c n hs ep fc)) (hD : D < 14) (hc : gm_co mX10_setDeviation D [.ref n, .int (zI a), .int (zI b), .int (zI c)] h (.inr "java/lang/IllegalStateException") h') : gm_co mL_setDeviation 14 [.ref n, .int (zI a), .int (zI b), .int (zI c)] h (.inl (some (.int (zI (-3))))) h' := by
  refine gm_co_ofH _ (by decide +kernel) (List.cons_ne_nil _ _) (Nat.le_of_ble_eq_true rfl) rfl ?_
  refine gm_go.ru (gi_bipush dL_setDeviation_0 (by decide +kernel)) ?_
  refine gm_go.ru (gm_aload_n dL_setDeviation_2 rfl (by first | exact Or.inl ⟨_, rfl⟩ | exact Or.inr ⟨_, rfl⟩)) ?_
  refine gm_go.ru (gm_iload_n dL_setDeviation_3 rfl) ?_
  refine gm_go.ru (gm_iload_n dL_setDeviation_4 rfl) ?_
  refine gm_go.ru (gm_iload_n dL_setDeviation_5 rfl) ?_
  refine gm_go.ru (gm_catch_w (gm_runV (As := [.int (zI a), .int (zI b), .int (zI c)]) (rest := [.int (zI 100)]) dL_setDeviation_6 hc mt_X10_setDeviation mv_X10_setDeviation (lk_L_17 rfl) (Or.inl ⟨_, 11, _, _, _, rfl, hB, rfl⟩) rfl (Nat.le_of_ble_eq_true rfl) hD) [⟨0, 10, 11, 21⟩, ⟨0, 10, 15, 13⟩] ⟨0, 10, 20, 15⟩ [] rfl (List.forall_mem_cons.mpr ⟨Or.inr ⟨by decide, _, lc_21, by decide +kernel⟩, List.forall_mem_cons.mpr ⟨Or.inr ⟨by decide, _, lc_13, by decide +kernel⟩, fun z hz => absurd hz List.not_mem_nil⟩⟩) (by decide) (by decide) lc_15 lt_15 dL_setDeviation_20 (Nat.le_of_ble_eq_true rfl)) ?_
  refine gm_go.ru (gi_bipush dL_setDeviation_22 (by decide +kernel)) ?_
  exact gm_iret dL_setDeviation_24 rfl
set_option maxRecDepth 4000 in
theorem lh_shift {h h' : gm_H} {n D : Nat} {hs ep fc : Int} {a b : Int} (hB : h.1[n]? = some (by_c n hs ep fc)) (hD : D < 14) {r : Int} (hc : gm_co mX10_shift D [.ref n, .int (zI a), .int (zI b)] h (.inl (some (.int (zI r)))) h') : gm_co mL_shift 14 [.ref n, .int (zI a), .int (zI b)] h (.inl (some (.int (zI r)))) h' := by
  refine gm_co_ofH _ (by decide +kernel) (List.cons_ne_nil _ _) (Nat.le_of_ble_eq_true rfl) rfl ?_
  refine gm_go.ru (gm_aload_n dL_shift_0 rfl (by first | exact Or.inl ⟨_, rfl⟩ | exact Or.inr ⟨_, rfl⟩)) ?_
  refine gm_go.ru (gm_iload_n dL_shift_1 rfl) ?_
  refine gm_go.ru (gm_iload_n dL_shift_2 rfl) ?_
  refine gm_go.ru (gm_cV dL_shift_3 (hc) rfl mt_X10_shift mv_X10_shift (lk_L_23 rfl) (Or.inl ⟨_, 11, _, _, _, rfl, hB, rfl⟩) rfl (Nat.le_of_ble_eq_true rfl) hD) ?_
  exact gm_iret dL_shift_6 rfl
set_option maxRecDepth 4000 in
theorem lx_shift_1 {h h' : gm_H} {n D : Nat} {hs ep fc : Int} {a b : Int} (hB : h.1[n]? = some (by_c n hs ep fc)) (hD : D < 14) (hc : gm_co mX10_shift D [.ref n, .int (zI a), .int (zI b)] h (.inr "java/lang/IndexOutOfBoundsException") h') : gm_co mL_shift 14 [.ref n, .int (zI a), .int (zI b)] h (.inl (some (.int (zI (-1))))) h' := by
  refine gm_co_ofH _ (by decide +kernel) (List.cons_ne_nil _ _) (Nat.le_of_ble_eq_true rfl) rfl ?_
  refine gm_go.ru (gm_aload_n dL_shift_0 rfl (by first | exact Or.inl ⟨_, rfl⟩ | exact Or.inr ⟨_, rfl⟩)) ?_
  refine gm_go.ru (gm_iload_n dL_shift_1 rfl) ?_
  refine gm_go.ru (gm_iload_n dL_shift_2 rfl) ?_
  refine gm_go.ru (gm_catch_n (gm_runV (As := [.int (zI a), .int (zI b)]) (rest := []) dL_shift_3 hc mt_X10_shift mv_X10_shift (lk_L_23 rfl) (Or.inl ⟨_, 11, _, _, _, rfl, hB, rfl⟩) rfl (Nat.le_of_ble_eq_true rfl) hD) [] ⟨0, 6, 7, 21⟩ [⟨0, 6, 10, 13⟩, ⟨0, 6, 14, 15⟩, ⟨0, 6, 18, 27⟩] rfl (fun z hz => absurd hz List.not_mem_nil) (by decide) (by decide) lc_21 lt_21 dL_shift_7 (Nat.le_of_ble_eq_true rfl)) ?_
  refine gm_go.ru (gi_const dL_shift_8) ?_
  exact gm_iret dL_shift_9 rfl
set_option maxRecDepth 4000 in
theorem lx_shift_2 {h h' : gm_H} {n D : Nat} {hs ep fc : Int} {a b : Int} (hB : h.1[n]? = some (by_c n hs ep fc)) (hD : D < 14) (hc : gm_co mX10_shift D [.ref n, .int (zI a), .int (zI b)] h (.inr "java/lang/IllegalArgumentException") h') : gm_co mL_shift 14 [.ref n, .int (zI a), .int (zI b)] h (.inl (some (.int (zI (-2))))) h' := by
  refine gm_co_ofH _ (by decide +kernel) (List.cons_ne_nil _ _) (Nat.le_of_ble_eq_true rfl) rfl ?_
  refine gm_go.ru (gm_aload_n dL_shift_0 rfl (by first | exact Or.inl ⟨_, rfl⟩ | exact Or.inr ⟨_, rfl⟩)) ?_
  refine gm_go.ru (gm_iload_n dL_shift_1 rfl) ?_
  refine gm_go.ru (gm_iload_n dL_shift_2 rfl) ?_
  refine gm_go.ru (gm_catch_n (gm_runV (As := [.int (zI a), .int (zI b)]) (rest := []) dL_shift_3 hc mt_X10_shift mv_X10_shift (lk_L_23 rfl) (Or.inl ⟨_, 11, _, _, _, rfl, hB, rfl⟩) rfl (Nat.le_of_ble_eq_true rfl) hD) [⟨0, 6, 7, 21⟩] ⟨0, 6, 10, 13⟩ [⟨0, 6, 14, 15⟩, ⟨0, 6, 18, 27⟩] rfl (List.forall_mem_cons.mpr ⟨Or.inr ⟨by decide, _, lc_21, by decide +kernel⟩, fun z hz => absurd hz List.not_mem_nil⟩) (by decide) (by decide) lc_13 lt_13 dL_shift_10 (Nat.le_of_ble_eq_true rfl)) ?_
  refine gm_go.ru (gi_bipush dL_shift_11 (by decide +kernel)) ?_
  exact gm_iret dL_shift_13 rfl
set_option maxRecDepth 4000 in
theorem lx_shift_3 {h h' : gm_H} {n D : Nat} {hs ep fc : Int} {a b : Int} (hB : h.1[n]? = some (by_c n hs ep fc)) (hD : D < 14) (hc : gm_co mX10_shift D [.ref n, .int (zI a), .int (zI b)] h (.inr "java/lang/IllegalStateException") h') : gm_co mL_shift 14 [.ref n, .int (zI a), .int (zI b)] h (.inl (some (.int (zI (-3))))) h' := by
  refine gm_co_ofH _ (by decide +kernel) (List.cons_ne_nil _ _) (Nat.le_of_ble_eq_true rfl) rfl ?_
  refine gm_go.ru (gm_aload_n dL_shift_0 rfl (by first | exact Or.inl ⟨_, rfl⟩ | exact Or.inr ⟨_, rfl⟩)) ?_
  refine gm_go.ru (gm_iload_n dL_shift_1 rfl) ?_
  refine gm_go.ru (gm_iload_n dL_shift_2 rfl) ?_
  refine gm_go.ru (gm_catch_n (gm_runV (As := [.int (zI a), .int (zI b)]) (rest := []) dL_shift_3 hc mt_X10_shift mv_X10_shift (lk_L_23 rfl) (Or.inl ⟨_, 11, _, _, _, rfl, hB, rfl⟩) rfl (Nat.le_of_ble_eq_true rfl) hD) [⟨0, 6, 7, 21⟩, ⟨0, 6, 10, 13⟩] ⟨0, 6, 14, 15⟩ [⟨0, 6, 18, 27⟩] rfl (List.forall_mem_cons.mpr ⟨Or.inr ⟨by decide, _, lc_21, by decide +kernel⟩, List.forall_mem_cons.mpr ⟨Or.inr ⟨by decide, _, lc_13, by decide +kernel⟩, fun z hz => absurd hz List.not_mem_nil⟩⟩) (by decide) (by decide) lc_15 lt_15 dL_shift_14 (Nat.le_of_ble_eq_true rfl)) ?_
  refine gm_go.ru (gi_bipush dL_shift_15 (by decide +kernel)) ?_
  exact gm_iret dL_shift_17 rfl
set_option maxRecDepth 4000 in
theorem lx_shift_4 {h h' : gm_H} {n D : Nat} {hs ep fc : Int} {a b : Int} (hB : h.1[n]? = some (by_c n hs ep fc)) (hD : D < 14) (hc : gm_co mX10_shift D [.ref n, .int (zI a), .int (zI b)] h (.inr "java/lang/UnsupportedOperationException") h') : gm_co mL_shift 14 [.ref n, .int (zI a), .int (zI b)] h (.inl (some (.int (zI (-4))))) h' := by
  refine gm_co_ofH _ (by decide +kernel) (List.cons_ne_nil _ _) (Nat.le_of_ble_eq_true rfl) rfl ?_
  refine gm_go.ru (gm_aload_n dL_shift_0 rfl (by first | exact Or.inl ⟨_, rfl⟩ | exact Or.inr ⟨_, rfl⟩)) ?_
  refine gm_go.ru (gm_iload_n dL_shift_1 rfl) ?_
  refine gm_go.ru (gm_iload_n dL_shift_2 rfl) ?_
  refine gm_go.ru (gm_catch_n (gm_runV (As := [.int (zI a), .int (zI b)]) (rest := []) dL_shift_3 hc mt_X10_shift mv_X10_shift (lk_L_23 rfl) (Or.inl ⟨_, 11, _, _, _, rfl, hB, rfl⟩) rfl (Nat.le_of_ble_eq_true rfl) hD) [⟨0, 6, 7, 21⟩, ⟨0, 6, 10, 13⟩, ⟨0, 6, 14, 15⟩] ⟨0, 6, 18, 27⟩ [] rfl (List.forall_mem_cons.mpr ⟨Or.inr ⟨by decide, _, lc_21, by decide +kernel⟩, List.forall_mem_cons.mpr ⟨Or.inr ⟨by decide, _, lc_13, by decide +kernel⟩, List.forall_mem_cons.mpr ⟨Or.inr ⟨by decide, _, lc_15, by decide +kernel⟩, fun z hz => absurd hz List.not_mem_nil⟩⟩⟩) (by decide) (by decide) lc_27 lt_27 dL_shift_18 (Nat.le_of_ble_eq_true rfl)) ?_
  refine gm_go.ru (gi_bipush dL_shift_19 (by decide +kernel)) ?_
  exact gm_iret dL_shift_21 rfl
set_option maxRecDepth 4000 in
theorem lh_correct {h h' : gm_H} {n D : Nat} {hs ep fc : Int} {a : Int} (hB : h.1[n]? = some (by_c n hs ep fc)) (hD : D < 14) {r : Int} (hc : gm_co mX10_correct D [.ref n, .int (zI a)] h (.inl (some (.int (zI r)))) h') : gm_co mL_correct 14 [.ref n, .int (zI a)] h (.inl (some (.int (zI (100 + r))))) h' := by
  refine gm_co_ofH _ (by decide +kernel) (List.cons_ne_nil _ _) (Nat.le_of_ble_eq_true rfl) rfl ?_
  refine gm_go.ru (gi_bipush dL_correct_0 (by decide +kernel)) ?_
  refine gm_go.ru (gm_aload_n dL_correct_2 rfl (by first | exact Or.inl ⟨_, rfl⟩ | exact Or.inr ⟨_, rfl⟩)) ?_
  refine gm_go.ru (gm_iload_n dL_correct_3 rfl) ?_
  refine gm_go.ru (gm_cV dL_correct_4 (hc) rfl mt_X10_correct mv_X10_correct (lk_L_29 rfl) (Or.inl ⟨_, 11, _, _, _, rfl, hB, rfl⟩) rfl (Nat.le_of_ble_eq_true rfl) hD) ?_
  refine gm_go.ru (gi_add dL_correct_7) ?_
  exact gm_iret dL_correct_8 rfl
set_option maxRecDepth 4000 in
theorem lx_correct_1 {h h' : gm_H} {n D : Nat} {hs ep fc : Int} {a : Int} (hB : h.1[n]? = some (by_c n hs ep fc)) (hD : D < 14) (hc : gm_co mX10_correct D [.ref n, .int (zI a)] h (.inr "java/lang/IndexOutOfBoundsException") h') : gm_co mL_correct 14 [.ref n, .int (zI a)] h (.inl (some (.int (zI (-1))))) h' := by
  refine gm_co_ofH _ (by decide +kernel) (List.cons_ne_nil _ _) (Nat.le_of_ble_eq_true rfl) rfl ?_
  refine gm_go.ru (gi_bipush dL_correct_0 (by decide +kernel)) ?_
  refine gm_go.ru (gm_aload_n dL_correct_2 rfl (by first | exact Or.inl ⟨_, rfl⟩ | exact Or.inr ⟨_, rfl⟩)) ?_
  refine gm_go.ru (gm_iload_n dL_correct_3 rfl) ?_
  refine gm_go.ru (gm_catch_n (gm_runV (As := [.int (zI a)]) (rest := [.int (zI 100)]) dL_correct_4 hc mt_X10_correct mv_X10_correct (lk_L_29 rfl) (Or.inl ⟨_, 11, _, _, _, rfl, hB, rfl⟩) rfl (Nat.le_of_ble_eq_true rfl) hD) [] ⟨0, 8, 9, 21⟩ [⟨0, 8, 12, 15⟩, ⟨0, 8, 16, 27⟩] rfl (fun z hz => absurd hz List.not_mem_nil) (by decide) (by decide) lc_21 lt_21 dL_correct_9 (Nat.le_of_ble_eq_true rfl)) ?_
  refine gm_go.ru (gi_const dL_correct_10) ?_
  exact gm_iret dL_correct_11 rfl
set_option maxRecDepth 4000 in
theorem lx_correct_2 {h h' : gm_H} {n D : Nat} {hs ep fc : Int} {a : Int} (hB : h.1[n]? = some (by_c n hs ep fc)) (hD : D < 14) (hc : gm_co mX10_correct D [.ref n, .int (zI a)] h (.inr "java/lang/IllegalStateException") h') : gm_co mL_correct 14 [.ref n, .int (zI a)] h (.inl (some (.int (zI (-2))))) h' := by
  refine gm_co_ofH _ (by decide +kernel) (List.cons_ne_nil _ _) (Nat.le_of_ble_eq_true rfl) rfl ?_
  refine gm_go.ru (gi_bipush dL_correct_0 (by decide +kernel)) ?_
  refine gm_go.ru (gm_aload_n dL_correct_2 rfl (by first | exact Or.inl ⟨_, rfl⟩ | exact Or.inr ⟨_, rfl⟩)) ?_
  refine gm_go.ru (gm_iload_n dL_correct_3 rfl) ?_
  refine gm_go.ru (gm_catch_n (gm_runV (As := [.int (zI a)]) (rest := [.int (zI 100)]) dL_correct_4 hc mt_X10_correct mv_X10_correct (lk_L_29 rfl) (Or.inl ⟨_, 11, _, _, _, rfl, hB, rfl⟩) rfl (Nat.le_of_ble_eq_true rfl) hD) [⟨0, 8, 9, 21⟩] ⟨0, 8, 12, 15⟩ [⟨0, 8, 16, 27⟩] rfl (List.forall_mem_cons.mpr ⟨Or.inr ⟨by decide, _, lc_21, by decide +kernel⟩, fun z hz => absurd hz List.not_mem_nil⟩) (by decide) (by decide) lc_15 lt_15 dL_correct_12 (Nat.le_of_ble_eq_true rfl)) ?_
  refine gm_go.ru (gi_bipush dL_correct_13 (by decide +kernel)) ?_
  exact gm_iret dL_correct_15 rfl
set_option maxRecDepth 4000 in
theorem lx_correct_3 {h h' : gm_H} {n D : Nat} {hs ep fc : Int} {a : Int} (hB : h.1[n]? = some (by_c n hs ep fc)) (hD : D < 14) (hc : gm_co mX10_correct D [.ref n, .int (zI a)] h (.inr "java/lang/UnsupportedOperationException") h') : gm_co mL_correct 14 [.ref n, .int (zI a)] h (.inl (some (.int (zI (-3))))) h' := by
  refine gm_co_ofH _ (by decide +kernel) (List.cons_ne_nil _ _) (Nat.le_of_ble_eq_true rfl) rfl ?_
  refine gm_go.ru (gi_bipush dL_correct_0 (by decide +kernel)) ?_
  refine gm_go.ru (gm_aload_n dL_correct_2 rfl (by first | exact Or.inl ⟨_, rfl⟩ | exact Or.inr ⟨_, rfl⟩)) ?_
  refine gm_go.ru (gm_iload_n dL_correct_3 rfl) ?_
  refine gm_go.ru (gm_catch_n (gm_runV (As := [.int (zI a)]) (rest := [.int (zI 100)]) dL_correct_4 hc mt_X10_correct mv_X10_correct (lk_L_29 rfl) (Or.inl ⟨_, 11, _, _, _, rfl, hB, rfl⟩) rfl (Nat.le_of_ble_eq_true rfl) hD) [⟨0, 8, 9, 21⟩, ⟨0, 8, 12, 15⟩] ⟨0, 8, 16, 27⟩ [] rfl (List.forall_mem_cons.mpr ⟨Or.inr ⟨by decide, _, lc_21, by decide +kernel⟩, List.forall_mem_cons.mpr ⟨Or.inr ⟨by decide, _, lc_15, by decide +kernel⟩, fun z hz => absurd hz List.not_mem_nil⟩⟩) (by decide) (by decide) lc_27 lt_27 dL_correct_16 (Nat.le_of_ble_eq_true rfl)) ?_
  refine gm_go.ru (gi_bipush dL_correct_17 (by decide +kernel)) ?_
  exact gm_iret dL_correct_19 rfl
set_option maxRecDepth 4000 in
theorem lh_discard {h h' : gm_H} {n D : Nat} {hs ep fc : Int} {a : Int} (hB : h.1[n]? = some (by_c n hs ep fc)) (hD : D < 14) {r : Int} (hc : gm_co mX10_discard D [.ref n, .int (zI a)] h (.inl (some (.int (zI r)))) h') : gm_co mL_discard 14 [.ref n, .int (zI a)] h (.inl (some (.int (zI r)))) h' := by
  refine gm_co_ofH _ (by decide +kernel) (List.cons_ne_nil _ _) (Nat.le_of_ble_eq_true rfl) rfl ?_
  refine gm_go.ru (gm_aload_n dL_discard_0 rfl (by first | exact Or.inl ⟨_, rfl⟩ | exact Or.inr ⟨_, rfl⟩)) ?_
  refine gm_go.ru (gm_iload_n dL_discard_1 rfl) ?_
  refine gm_go.ru (gm_cV dL_discard_2 (hc) rfl mt_X10_discard mv_X10_discard (lk_L_32 rfl) (Or.inl ⟨_, 11, _, _, _, rfl, hB, rfl⟩) rfl (Nat.le_of_ble_eq_true rfl) hD) ?_
  exact gm_iret dL_discard_5 rfl
set_option maxRecDepth 4000 in
theorem lx_discard_1 {h h' : gm_H} {n D : Nat} {hs ep fc : Int} {a : Int} (hB : h.1[n]? = some (by_c n hs ep fc)) (hD : D < 14) (hc : gm_co mX10_discard D [.ref n, .int (zI a)] h (.inr "java/lang/IndexOutOfBoundsException") h') : gm_co mL_discard 14 [.ref n, .int (zI a)] h (.inl (some (.int (zI (-1))))) h' := by
  refine gm_co_ofH _ (by decide +kernel) (List.cons_ne_nil _ _) (Nat.le_of_ble_eq_true rfl) rfl ?_
  refine gm_go.ru (gm_aload_n dL_discard_0 rfl (by first | exact Or.inl ⟨_, rfl⟩ | exact Or.inr ⟨_, rfl⟩)) ?_
  refine gm_go.ru (gm_iload_n dL_discard_1 rfl) ?_
  refine gm_go.ru (gm_catch_n (gm_runV (As := [.int (zI a)]) (rest := []) dL_discard_2 hc mt_X10_discard mv_X10_discard (lk_L_32 rfl) (Or.inl ⟨_, 11, _, _, _, rfl, hB, rfl⟩) rfl (Nat.le_of_ble_eq_true rfl) hD) [] ⟨0, 5, 6, 21⟩ [⟨0, 5, 9, 15⟩] rfl (fun z hz => absurd hz List.not_mem_nil) (by decide) (by decide) lc_21 lt_21 dL_discard_6 (Nat.le_of_ble_eq_true rfl)) ?_
  refine gm_go.ru (gi_const dL_discard_7) ?_
  exact gm_iret dL_discard_8 rfl
set_option maxRecDepth 4000 in
theorem lx_discard_2 {h h' : gm_H} {n D : Nat} {hs ep fc : Int} {a : Int} (hB : h.1[n]? = some (by_c n hs ep fc)) (hD : D < 14) (hc : gm_co mX10_discard D [.ref n, .int (zI a)] h (.inr "java/lang/IllegalStateException") h') : gm_co mL_discard 14 [.ref n, .int (zI a)] h (.inl (some (.int (zI (-2))))) h' := by
  refine gm_co_ofH _ (by decide +kernel) (List.cons_ne_nil _ _) (Nat.le_of_ble_eq_true rfl) rfl ?_
  refine gm_go.ru (gm_aload_n dL_discard_0 rfl (by first | exact Or.inl ⟨_, rfl⟩ | exact Or.inr ⟨_, rfl⟩)) ?_
  refine gm_go.ru (gm_iload_n dL_discard_1 rfl) ?_
  refine gm_go.ru (gm_catch_n (gm_runV (As := [.int (zI a)]) (rest := []) dL_discard_2 hc mt_X10_discard mv_X10_discard (lk_L_32 rfl) (Or.inl ⟨_, 11, _, _, _, rfl, hB, rfl⟩) rfl (Nat.le_of_ble_eq_true rfl) hD) [⟨0, 5, 6, 21⟩] ⟨0, 5, 9, 15⟩ [] rfl (List.forall_mem_cons.mpr ⟨Or.inr ⟨by decide, _, lc_21, by decide +kernel⟩, fun z hz => absurd hz List.not_mem_nil⟩) (by decide) (by decide) lc_15 lt_15 dL_discard_9 (Nat.le_of_ble_eq_true rfl)) ?_
  refine gm_go.ru (gi_bipush dL_discard_10 (by decide +kernel)) ?_
  exact gm_iret dL_discard_12 rfl
set_option maxRecDepth 4000 in
theorem lh_setTolerance {h h' : gm_H} {n D : Nat} {hs ep fc : Int} {a : Int} (hB : h.1[n]? = some (by_c n hs ep fc)) (hD : D < 14) {r : Int} (hc : gm_co mX10_setTolerance D [.ref n, .int (zI a)] h (.inl (some (.int (zI r)))) h') : gm_co mL_setTolerance 14 [.ref n, .int (zI a)] h (.inl (some (.int (zI r)))) h' := by
  refine gm_co_ofH _ (by decide +kernel) (List.cons_ne_nil _ _) (Nat.le_of_ble_eq_true rfl) rfl ?_
  refine gm_go.ru (gm_aload_n dL_setTolerance_0 rfl (by first | exact Or.inl ⟨_, rfl⟩ | exact Or.inr ⟨_, rfl⟩)) ?_
  refine gm_go.ru (gm_iload_n dL_setTolerance_1 rfl) ?_
  refine gm_go.ru (gm_cV dL_setTolerance_2 (hc) rfl mt_X10_setTolerance mv_X10_setTolerance (lk_L_35 rfl) (Or.inl ⟨_, 11, _, _, _, rfl, hB, rfl⟩) rfl (Nat.le_of_ble_eq_true rfl) hD) ?_
  exact gm_iret dL_setTolerance_5 rfl
set_option maxRecDepth 4000 in
theorem lx_setTolerance_1 {h h' : gm_H} {n D : Nat} {hs ep fc : Int} {a : Int} (hB : h.1[n]? = some (by_c n hs ep fc)) (hD : D < 14) (hc : gm_co mX10_setTolerance D [.ref n, .int (zI a)] h (.inr "java/lang/IllegalArgumentException") h') : gm_co mL_setTolerance 14 [.ref n, .int (zI a)] h (.inl (some (.int (zI (-1))))) h' := by
  refine gm_co_ofH _ (by decide +kernel) (List.cons_ne_nil _ _) (Nat.le_of_ble_eq_true rfl) rfl ?_
  refine gm_go.ru (gm_aload_n dL_setTolerance_0 rfl (by first | exact Or.inl ⟨_, rfl⟩ | exact Or.inr ⟨_, rfl⟩)) ?_
  refine gm_go.ru (gm_iload_n dL_setTolerance_1 rfl) ?_
  refine gm_go.ru (gm_catch_n (gm_runV (As := [.int (zI a)]) (rest := []) dL_setTolerance_2 hc mt_X10_setTolerance mv_X10_setTolerance (lk_L_35 rfl) (Or.inl ⟨_, 11, _, _, _, rfl, hB, rfl⟩) rfl (Nat.le_of_ble_eq_true rfl) hD) [] ⟨0, 5, 6, 13⟩ [] rfl (fun z hz => absurd hz List.not_mem_nil) (by decide) (by decide) lc_13 lt_13 dL_setTolerance_6 (Nat.le_of_ble_eq_true rfl)) ?_
  refine gm_go.ru (gi_const dL_setTolerance_7) ?_
  exact gm_iret dL_setTolerance_8 rfl
set_option maxRecDepth 4000 in
theorem lh_strengthOf {h h' : gm_H} {n D : Nat} {hs ep fc : Int} {a : Int} (hB : h.1[n]? = some (by_c n hs ep fc)) (hD : D < 14) {r : Int} (hc : gm_co mX10_strengthOf D [.ref n, .int (zI a)] h (.inl (some (.int (zI r)))) h') : gm_co mL_strengthOf 14 [.ref n, .int (zI a)] h (.inl (some (.int (zI r)))) h' := by
  refine gm_co_ofH _ (by decide +kernel) (List.cons_ne_nil _ _) (Nat.le_of_ble_eq_true rfl) rfl ?_
  refine gm_go.ru (gm_aload_n dL_strengthOf_0 rfl (by first | exact Or.inl ⟨_, rfl⟩ | exact Or.inr ⟨_, rfl⟩)) ?_
  refine gm_go.ru (gm_iload_n dL_strengthOf_1 rfl) ?_
  refine gm_go.ru (gm_cV dL_strengthOf_2 (hc) rfl mt_X10_strengthOf mv_X10_strengthOf (lk_L_38 rfl) (Or.inl ⟨_, 11, _, _, _, rfl, hB, rfl⟩) rfl (Nat.le_of_ble_eq_true rfl) hD) ?_
  exact gm_iret dL_strengthOf_5 rfl
set_option maxRecDepth 4000 in
theorem lx_strengthOf_1 {h h' : gm_H} {n D : Nat} {hs ep fc : Int} {a : Int} (hB : h.1[n]? = some (by_c n hs ep fc)) (hD : D < 14) (hc : gm_co mX10_strengthOf D [.ref n, .int (zI a)] h (.inr "java/lang/IndexOutOfBoundsException") h') : gm_co mL_strengthOf 14 [.ref n, .int (zI a)] h (.inl (some (.int (zI (-1))))) h' := by
  refine gm_co_ofH _ (by decide +kernel) (List.cons_ne_nil _ _) (Nat.le_of_ble_eq_true rfl) rfl ?_
  refine gm_go.ru (gm_aload_n dL_strengthOf_0 rfl (by first | exact Or.inl ⟨_, rfl⟩ | exact Or.inr ⟨_, rfl⟩)) ?_
  refine gm_go.ru (gm_iload_n dL_strengthOf_1 rfl) ?_
  refine gm_go.ru (gm_catch_n (gm_runV (As := [.int (zI a)]) (rest := []) dL_strengthOf_2 hc mt_X10_strengthOf mv_X10_strengthOf (lk_L_38 rfl) (Or.inl ⟨_, 11, _, _, _, rfl, hB, rfl⟩) rfl (Nat.le_of_ble_eq_true rfl) hD) [] ⟨0, 5, 6, 21⟩ [] rfl (fun z hz => absurd hz List.not_mem_nil) (by decide) (by decide) lc_21 lt_21 dL_strengthOf_6 (Nat.le_of_ble_eq_true rfl)) ?_
  refine gm_go.ru (gi_const dL_strengthOf_7) ?_
  exact gm_iret dL_strengthOf_8 rfl
set_option maxRecDepth 4000 in
theorem lh_isDiscarded {h h' : gm_H} {n D : Nat} {hs ep fc : Int} {a : Int} (hB : h.1[n]? = some (by_c n hs ep fc)) (hD : D < 14) {r : Bool} (hc : gm_co mX10_isDiscarded D [.ref n, .int (zI a)] h (.inl (some (.int (zI (zB r))))) h') : gm_co mL_isDiscarded 14 [.ref n, .int (zI a)] h (.inl (some (.int (zI (zB r))))) h' := by
  refine gm_co_ofH _ (by decide +kernel) (List.cons_ne_nil _ _) (Nat.le_of_ble_eq_true rfl) rfl ?_
  refine gm_go.ru (gm_aload_n dL_isDiscarded_0 rfl (by first | exact Or.inl ⟨_, rfl⟩ | exact Or.inr ⟨_, rfl⟩)) ?_
  refine gm_go.ru (gm_iload_n dL_isDiscarded_1 rfl) ?_
  refine gm_go.ru (gm_cV dL_isDiscarded_2 (hc) rfl mt_X10_isDiscarded mv_X10_isDiscarded (lk_L_41 rfl) (Or.inl ⟨_, 11, _, _, _, rfl, hB, rfl⟩) rfl (Nat.le_of_ble_eq_true rfl) hD) ?_
  cases r
  ·
    refine gm_go.ru (gi_if_eq_t (tgt := 12) dL_isDiscarded_5 (by decide) (by decide) (by decide)) ?_
    refine gm_go.ru (gi_const dL_isDiscarded_12) ?_
    exact gm_iret dL_isDiscarded_13 rfl
  ·
    refine gm_go.ru (gi_if_eq_f 12 dL_isDiscarded_5 (by decide) (by decide) (by decide)) ?_
    refine gm_go.ru (gi_const dL_isDiscarded_8) ?_
    refine gm_go.ru (gm_goto (tgt := 13) dL_isDiscarded_9 (by decide)) ?_
    exact gm_iret dL_isDiscarded_13 rfl
set_option maxRecDepth 4000 in
theorem lx_isDiscarded_1 {h h' : gm_H} {n D : Nat} {hs ep fc : Int} {a : Int} (hB : h.1[n]? = some (by_c n hs ep fc)) (hD : D < 14) (hc : gm_co mX10_isDiscarded D [.ref n, .int (zI a)] h (.inr "java/lang/IndexOutOfBoundsException") h') : gm_co mL_isDiscarded 14 [.ref n, .int (zI a)] h (.inl (some (.int (zI (-1))))) h' := by
  refine gm_co_ofH _ (by decide +kernel) (List.cons_ne_nil _ _) (Nat.le_of_ble_eq_true rfl) rfl ?_
  refine gm_go.ru (gm_aload_n dL_isDiscarded_0 rfl (by first | exact Or.inl ⟨_, rfl⟩ | exact Or.inr ⟨_, rfl⟩)) ?_
  refine gm_go.ru (gm_iload_n dL_isDiscarded_1 rfl) ?_
  refine gm_go.ru (gm_catch_n (gm_runV (As := [.int (zI a)]) (rest := []) dL_isDiscarded_2 hc mt_X10_isDiscarded mv_X10_isDiscarded (lk_L_41 rfl) (Or.inl ⟨_, 11, _, _, _, rfl, hB, rfl⟩) rfl (Nat.le_of_ble_eq_true rfl) hD) [] ⟨0, 13, 14, 21⟩ [] rfl (fun z hz => absurd hz List.not_mem_nil) (by decide) (by decide) lc_21 lt_21 dL_isDiscarded_14 (Nat.le_of_ble_eq_true rfl)) ?_
  refine gm_go.ru (gi_const dL_isDiscarded_15) ?_
  exact gm_iret dL_isDiscarded_16 rfl
set_option maxRecDepth 4000 in
theorem lh_isReject {h h' : gm_H} {n D : Nat} {hs ep fc : Int} {a : Int} (hB : h.1[n]? = some (by_c n hs ep fc)) (hD : D < 14) {r : Bool} (hc : gm_co mX10_isReject D [.ref n, .int (zI a)] h (.inl (some (.int (zI (zB r))))) h') : gm_co mL_isReject 14 [.ref n, .int (zI a)] h (.inl (some (.int (zI (zB r))))) h' := by
  refine gm_co_ofH _ (by decide +kernel) (List.cons_ne_nil _ _) (Nat.le_of_ble_eq_true rfl) rfl ?_
  refine gm_go.ru (gm_aload_n dL_isReject_0 rfl (by first | exact Or.inl ⟨_, rfl⟩ | exact Or.inr ⟨_, rfl⟩)) ?_
  refine gm_go.ru (gm_iload_n dL_isReject_1 rfl) ?_
  refine gm_go.ru (gm_cV dL_isReject_2 (hc) rfl mt_X10_isReject mv_X10_isReject (lk_L_45 rfl) (Or.inl ⟨_, 11, _, _, _, rfl, hB, rfl⟩) rfl (Nat.le_of_ble_eq_true rfl) hD) ?_
  cases r
  ·
    refine gm_go.ru (gi_if_eq_t (tgt := 12) dL_isReject_5 (by decide) (by decide) (by decide)) ?_
    refine gm_go.ru (gi_const dL_isReject_12) ?_
    exact gm_iret dL_isReject_13 rfl
  ·
    refine gm_go.ru (gi_if_eq_f 12 dL_isReject_5 (by decide) (by decide) (by decide)) ?_
    refine gm_go.ru (gi_const dL_isReject_8) ?_
    refine gm_go.ru (gm_goto (tgt := 13) dL_isReject_9 (by decide)) ?_
    exact gm_iret dL_isReject_13 rfl
set_option maxRecDepth 4000 in
theorem lx_isReject_1 {h h' : gm_H} {n D : Nat} {hs ep fc : Int} {a : Int} (hB : h.1[n]? = some (by_c n hs ep fc)) (hD : D < 14) (hc : gm_co mX10_isReject D [.ref n, .int (zI a)] h (.inr "java/lang/IndexOutOfBoundsException") h') : gm_co mL_isReject 14 [.ref n, .int (zI a)] h (.inl (some (.int (zI (-1))))) h' := by
  refine gm_co_ofH _ (by decide +kernel) (List.cons_ne_nil _ _) (Nat.le_of_ble_eq_true rfl) rfl ?_
  refine gm_go.ru (gm_aload_n dL_isReject_0 rfl (by first | exact Or.inl ⟨_, rfl⟩ | exact Or.inr ⟨_, rfl⟩)) ?_
  refine gm_go.ru (gm_iload_n dL_isReject_1 rfl) ?_
  refine gm_go.ru (gm_catch_n (gm_runV (As := [.int (zI a)]) (rest := []) dL_isReject_2 hc mt_X10_isReject mv_X10_isReject (lk_L_45 rfl) (Or.inl ⟨_, 11, _, _, _, rfl, hB, rfl⟩) rfl (Nat.le_of_ble_eq_true rfl) hD) [] ⟨0, 13, 14, 21⟩ [] rfl (fun z hz => absurd hz List.not_mem_nil) (by decide) (by decide) lc_21 lt_21 dL_isReject_14 (Nat.le_of_ble_eq_true rfl)) ?_
  refine gm_go.ru (gi_const dL_isReject_15) ?_
  exact gm_iret dL_isReject_16 rfl
set_option maxRecDepth 4000 in
theorem lh_deviationAt {h h' : gm_H} {n D : Nat} {hs ep fc : Int} {a b : Int} (hB : h.1[n]? = some (by_c n hs ep fc)) (hD : D < 14) {r : Int} (hc : gm_co mX10_deviationAt D [.ref n, .int (zI a), .int (zI b)] h (.inl (some (.int (zI r)))) h') : gm_co mL_deviationAt 14 [.ref n, .int (zI a), .int (zI b)] h (.inl (some (.int (zI (100 + r))))) h' := by
  refine gm_co_ofH _ (by decide +kernel) (List.cons_ne_nil _ _) (Nat.le_of_ble_eq_true rfl) rfl ?_
  refine gm_go.ru (gi_bipush dL_deviationAt_0 (by decide +kernel)) ?_
  refine gm_go.ru (gm_aload_n dL_deviationAt_2 rfl (by first | exact Or.inl ⟨_, rfl⟩ | exact Or.inr ⟨_, rfl⟩)) ?_
  refine gm_go.ru (gm_iload_n dL_deviationAt_3 rfl) ?_
  refine gm_go.ru (gm_iload_n dL_deviationAt_4 rfl) ?_
  refine gm_go.ru (gm_cV dL_deviationAt_5 (hc) rfl mt_X10_deviationAt mv_X10_deviationAt (lk_L_48 rfl) (Or.inl ⟨_, 11, _, _, _, rfl, hB, rfl⟩) rfl (Nat.le_of_ble_eq_true rfl) hD) ?_
  refine gm_go.ru (gi_add dL_deviationAt_8) ?_
  exact gm_iret dL_deviationAt_9 rfl
set_option maxRecDepth 4000 in
theorem lx_deviationAt_1 {h h' : gm_H} {n D : Nat} {hs ep fc : Int} {a b : Int} (hB : h.1[n]? = some (by_c n hs ep fc)) (hD : D < 14) (hc : gm_co mX10_deviationAt D [.ref n, .int (zI a), .int (zI b)] h (.inr "java/lang/IndexOutOfBoundsException") h') : gm_co mL_deviationAt 14 [.ref n, .int (zI a), .int (zI b)] h (.inl (some (.int (zI (-1))))) h' := by
  refine gm_co_ofH _ (by decide +kernel) (List.cons_ne_nil _ _) (Nat.le_of_ble_eq_true rfl) rfl ?_
  refine gm_go.ru (gi_bipush dL_deviationAt_0 (by decide +kernel)) ?_
  refine gm_go.ru (gm_aload_n dL_deviationAt_2 rfl (by first | exact Or.inl ⟨_, rfl⟩ | exact Or.inr ⟨_, rfl⟩)) ?_
  refine gm_go.ru (gm_iload_n dL_deviationAt_3 rfl) ?_
  refine gm_go.ru (gm_iload_n dL_deviationAt_4 rfl) ?_
  refine gm_go.ru (gm_catch_n (gm_runV (As := [.int (zI a), .int (zI b)]) (rest := [.int (zI 100)]) dL_deviationAt_5 hc mt_X10_deviationAt mv_X10_deviationAt (lk_L_48 rfl) (Or.inl ⟨_, 11, _, _, _, rfl, hB, rfl⟩) rfl (Nat.le_of_ble_eq_true rfl) hD) [] ⟨0, 9, 10, 21⟩ [⟨0, 9, 13, 13⟩] rfl (fun z hz => absurd hz List.not_mem_nil) (by decide) (by decide) lc_21 lt_21 dL_deviationAt_10 (Nat.le_of_ble_eq_true rfl)) ?_
  refine gm_go.ru (gi_const dL_deviationAt_11) ?_
  exact gm_iret dL_deviationAt_12 rfl
set_option maxRecDepth 4000 in
theorem lx_deviationAt_2 {h h' : gm_H} {n D : Nat} {hs ep fc : Int} {a b : Int} (hB : h.1[n]? = some (by_c n hs ep fc)) (hD : D < 14) (hc : gm_co mX10_deviationAt D [.ref n, .int (zI a), .int (zI b)] h (.inr "java/lang/IllegalArgumentException") h') : gm_co mL_deviationAt 14 [.ref n, .int (zI a), .int (zI b)] h (.inl (some (.int (zI (-2))))) h' := by
  refine gm_co_ofH _ (by decide +kernel) (List.cons_ne_nil _ _) (Nat.le_of_ble_eq_true rfl) rfl ?_
  refine gm_go.ru (gi_bipush dL_deviationAt_0 (by decide +kernel)) ?_
  refine gm_go.ru (gm_aload_n dL_deviationAt_2 rfl (by first | exact Or.inl ⟨_, rfl⟩ | exact Or.inr ⟨_, rfl⟩)) ?_
  refine gm_go.ru (gm_iload_n dL_deviationAt_3 rfl) ?_
  refine gm_go.ru (gm_iload_n dL_deviationAt_4 rfl) ?_
  refine gm_go.ru (gm_catch_n (gm_runV (As := [.int (zI a), .int (zI b)]) (rest := [.int (zI 100)]) dL_deviationAt_5 hc mt_X10_deviationAt mv_X10_deviationAt (lk_L_48 rfl) (Or.inl ⟨_, 11, _, _, _, rfl, hB, rfl⟩) rfl (Nat.le_of_ble_eq_true rfl) hD) [⟨0, 9, 10, 21⟩] ⟨0, 9, 13, 13⟩ [] rfl (List.forall_mem_cons.mpr ⟨Or.inr ⟨by decide, _, lc_21, by decide +kernel⟩, fun z hz => absurd hz List.not_mem_nil⟩) (by decide) (by decide) lc_13 lt_13 dL_deviationAt_13 (Nat.le_of_ble_eq_true rfl)) ?_
  refine gm_go.ru (gi_bipush dL_deviationAt_14 (by decide +kernel)) ?_
  exact gm_iret dL_deviationAt_16 rfl
set_option maxRecDepth 4000 in
theorem lh_trueCourse {h h' : gm_H} {n D : Nat} {hs ep fc : Int} {a b : Int} (hB : h.1[n]? = some (by_c n hs ep fc)) (hD : D < 14) {r : Int} (hc : gm_co mX10_trueCourse D [.ref n, .int (zI a), .int (zI b)] h (.inl (some (.int (zI r)))) h') : gm_co mL_trueCourse 14 [.ref n, .int (zI a), .int (zI b)] h (.inl (some (.int (zI r)))) h' := by
  refine gm_co_ofH _ (by decide +kernel) (List.cons_ne_nil _ _) (Nat.le_of_ble_eq_true rfl) rfl ?_
  refine gm_go.ru (gm_aload_n dL_trueCourse_0 rfl (by first | exact Or.inl ⟨_, rfl⟩ | exact Or.inr ⟨_, rfl⟩)) ?_
  refine gm_go.ru (gm_iload_n dL_trueCourse_1 rfl) ?_
  refine gm_go.ru (gm_iload_n dL_trueCourse_2 rfl) ?_
  refine gm_go.ru (gm_cV dL_trueCourse_3 (hc) rfl mt_X10_trueCourse mv_X10_trueCourse (lk_L_51 rfl) (Or.inl ⟨_, 11, _, _, _, rfl, hB, rfl⟩) rfl (Nat.le_of_ble_eq_true rfl) hD) ?_
  exact gm_iret dL_trueCourse_6 rfl
set_option maxRecDepth 4000 in
theorem lx_trueCourse_1 {h h' : gm_H} {n D : Nat} {hs ep fc : Int} {a b : Int} (hB : h.1[n]? = some (by_c n hs ep fc)) (hD : D < 14) (hc : gm_co mX10_trueCourse D [.ref n, .int (zI a), .int (zI b)] h (.inr "java/lang/IndexOutOfBoundsException") h') : gm_co mL_trueCourse 14 [.ref n, .int (zI a), .int (zI b)] h (.inl (some (.int (zI (-1))))) h' := by
  refine gm_co_ofH _ (by decide +kernel) (List.cons_ne_nil _ _) (Nat.le_of_ble_eq_true rfl) rfl ?_
  refine gm_go.ru (gm_aload_n dL_trueCourse_0 rfl (by first | exact Or.inl ⟨_, rfl⟩ | exact Or.inr ⟨_, rfl⟩)) ?_
  refine gm_go.ru (gm_iload_n dL_trueCourse_1 rfl) ?_
  refine gm_go.ru (gm_iload_n dL_trueCourse_2 rfl) ?_
  refine gm_go.ru (gm_catch_n (gm_runV (As := [.int (zI a), .int (zI b)]) (rest := []) dL_trueCourse_3 hc mt_X10_trueCourse mv_X10_trueCourse (lk_L_51 rfl) (Or.inl ⟨_, 11, _, _, _, rfl, hB, rfl⟩) rfl (Nat.le_of_ble_eq_true rfl) hD) [] ⟨0, 6, 7, 21⟩ [⟨0, 6, 10, 13⟩] rfl (fun z hz => absurd hz List.not_mem_nil) (by decide) (by decide) lc_21 lt_21 dL_trueCourse_7 (Nat.le_of_ble_eq_true rfl)) ?_
  refine gm_go.ru (gi_const dL_trueCourse_8) ?_
  exact gm_iret dL_trueCourse_9 rfl
set_option maxRecDepth 4000 in
theorem lx_trueCourse_2 {h h' : gm_H} {n D : Nat} {hs ep fc : Int} {a b : Int} (hB : h.1[n]? = some (by_c n hs ep fc)) (hD : D < 14) (hc : gm_co mX10_trueCourse D [.ref n, .int (zI a), .int (zI b)] h (.inr "java/lang/IllegalArgumentException") h') : gm_co mL_trueCourse 14 [.ref n, .int (zI a), .int (zI b)] h (.inl (some (.int (zI (-2))))) h' := by
  refine gm_co_ofH _ (by decide +kernel) (List.cons_ne_nil _ _) (Nat.le_of_ble_eq_true rfl) rfl ?_
  refine gm_go.ru (gm_aload_n dL_trueCourse_0 rfl (by first | exact Or.inl ⟨_, rfl⟩ | exact Or.inr ⟨_, rfl⟩)) ?_
  refine gm_go.ru (gm_iload_n dL_trueCourse_1 rfl) ?_
  refine gm_go.ru (gm_iload_n dL_trueCourse_2 rfl) ?_
  refine gm_go.ru (gm_catch_n (gm_runV (As := [.int (zI a), .int (zI b)]) (rest := []) dL_trueCourse_3 hc mt_X10_trueCourse mv_X10_trueCourse (lk_L_51 rfl) (Or.inl ⟨_, 11, _, _, _, rfl, hB, rfl⟩) rfl (Nat.le_of_ble_eq_true rfl) hD) [⟨0, 6, 7, 21⟩] ⟨0, 6, 10, 13⟩ [] rfl (List.forall_mem_cons.mpr ⟨Or.inr ⟨by decide, _, lc_21, by decide +kernel⟩, fun z hz => absurd hz List.not_mem_nil⟩) (by decide) (by decide) lc_13 lt_13 dL_trueCourse_10 (Nat.le_of_ble_eq_true rfl)) ?_
  refine gm_go.ru (gi_bipush dL_trueCourse_11 (by decide +kernel)) ?_
  exact gm_iret dL_trueCourse_13 rfl
set_option maxRecDepth 4000 in
theorem lh_courseFor {h h' : gm_H} {n D : Nat} {hs ep fc : Int} {a b : Int} (hB : h.1[n]? = some (by_c n hs ep fc)) (hD : D < 14) {r : Int} (hc : gm_co mX10_courseFor D [.ref n, .int (zI a), .int (zI b)] h (.inl (some (.int (zI r)))) h') : gm_co mL_courseFor 14 [.ref n, .int (zI a), .int (zI b)] h (.inl (some (.int (zI r)))) h' := by
  refine gm_co_ofH _ (by decide +kernel) (List.cons_ne_nil _ _) (Nat.le_of_ble_eq_true rfl) rfl ?_
  refine gm_go.ru (gm_aload_n dL_courseFor_0 rfl (by first | exact Or.inl ⟨_, rfl⟩ | exact Or.inr ⟨_, rfl⟩)) ?_
  refine gm_go.ru (gm_iload_n dL_courseFor_1 rfl) ?_
  refine gm_go.ru (gm_iload_n dL_courseFor_2 rfl) ?_
  refine gm_go.ru (gm_cV dL_courseFor_3 (hc) rfl mt_X10_courseFor mv_X10_courseFor (lk_L_54 rfl) (Or.inl ⟨_, 11, _, _, _, rfl, hB, rfl⟩) rfl (Nat.le_of_ble_eq_true rfl) hD) ?_
  exact gm_iret dL_courseFor_6 rfl
set_option maxRecDepth 4000 in
theorem lx_courseFor_1 {h h' : gm_H} {n D : Nat} {hs ep fc : Int} {a b : Int} (hB : h.1[n]? = some (by_c n hs ep fc)) (hD : D < 14) (hc : gm_co mX10_courseFor D [.ref n, .int (zI a), .int (zI b)] h (.inr "java/lang/IndexOutOfBoundsException") h') : gm_co mL_courseFor 14 [.ref n, .int (zI a), .int (zI b)] h (.inl (some (.int (zI (-1))))) h' := by
  refine gm_co_ofH _ (by decide +kernel) (List.cons_ne_nil _ _) (Nat.le_of_ble_eq_true rfl) rfl ?_
  refine gm_go.ru (gm_aload_n dL_courseFor_0 rfl (by first | exact Or.inl ⟨_, rfl⟩ | exact Or.inr ⟨_, rfl⟩)) ?_
  refine gm_go.ru (gm_iload_n dL_courseFor_1 rfl) ?_
  refine gm_go.ru (gm_iload_n dL_courseFor_2 rfl) ?_
  refine gm_go.ru (gm_catch_n (gm_runV (As := [.int (zI a), .int (zI b)]) (rest := []) dL_courseFor_3 hc mt_X10_courseFor mv_X10_courseFor (lk_L_54 rfl) (Or.inl ⟨_, 11, _, _, _, rfl, hB, rfl⟩) rfl (Nat.le_of_ble_eq_true rfl) hD) [] ⟨0, 6, 7, 21⟩ [⟨0, 6, 10, 13⟩, ⟨0, 6, 14, 57⟩] rfl (fun z hz => absurd hz List.not_mem_nil) (by decide) (by decide) lc_21 lt_21 dL_courseFor_7 (Nat.le_of_ble_eq_true rfl)) ?_
  refine gm_go.ru (gi_const dL_courseFor_8) ?_
  exact gm_iret dL_courseFor_9 rfl
set_option maxRecDepth 4000 in
theorem lx_courseFor_2 {h h' : gm_H} {n D : Nat} {hs ep fc : Int} {a b : Int} (hB : h.1[n]? = some (by_c n hs ep fc)) (hD : D < 14) (hc : gm_co mX10_courseFor D [.ref n, .int (zI a), .int (zI b)] h (.inr "java/lang/IllegalArgumentException") h') : gm_co mL_courseFor 14 [.ref n, .int (zI a), .int (zI b)] h (.inl (some (.int (zI (-2))))) h' := by
  refine gm_co_ofH _ (by decide +kernel) (List.cons_ne_nil _ _) (Nat.le_of_ble_eq_true rfl) rfl ?_
  refine gm_go.ru (gm_aload_n dL_courseFor_0 rfl (by first | exact Or.inl ⟨_, rfl⟩ | exact Or.inr ⟨_, rfl⟩)) ?_
  refine gm_go.ru (gm_iload_n dL_courseFor_1 rfl) ?_
  refine gm_go.ru (gm_iload_n dL_courseFor_2 rfl) ?_
  refine gm_go.ru (gm_catch_n (gm_runV (As := [.int (zI a), .int (zI b)]) (rest := []) dL_courseFor_3 hc mt_X10_courseFor mv_X10_courseFor (lk_L_54 rfl) (Or.inl ⟨_, 11, _, _, _, rfl, hB, rfl⟩) rfl (Nat.le_of_ble_eq_true rfl) hD) [⟨0, 6, 7, 21⟩] ⟨0, 6, 10, 13⟩ [⟨0, 6, 14, 57⟩] rfl (List.forall_mem_cons.mpr ⟨Or.inr ⟨by decide, _, lc_21, by decide +kernel⟩, fun z hz => absurd hz List.not_mem_nil⟩) (by decide) (by decide) lc_13 lt_13 dL_courseFor_10 (Nat.le_of_ble_eq_true rfl)) ?_
  refine gm_go.ru (gi_bipush dL_courseFor_11 (by decide +kernel)) ?_
  exact gm_iret dL_courseFor_13 rfl
set_option maxRecDepth 4000 in
theorem lx_courseFor_3 {h h' : gm_H} {n D : Nat} {hs ep fc : Int} {a b : Int} (hB : h.1[n]? = some (by_c n hs ep fc)) (hD : D < 14) (hc : gm_co mX10_courseFor D [.ref n, .int (zI a), .int (zI b)] h (.inr "java/util/NoSuchElementException") h') : gm_co mL_courseFor 14 [.ref n, .int (zI a), .int (zI b)] h (.inl (some (.int (zI (-3))))) h' := by
  refine gm_co_ofH _ (by decide +kernel) (List.cons_ne_nil _ _) (Nat.le_of_ble_eq_true rfl) rfl ?_
  refine gm_go.ru (gm_aload_n dL_courseFor_0 rfl (by first | exact Or.inl ⟨_, rfl⟩ | exact Or.inr ⟨_, rfl⟩)) ?_
  refine gm_go.ru (gm_iload_n dL_courseFor_1 rfl) ?_
  refine gm_go.ru (gm_iload_n dL_courseFor_2 rfl) ?_
  refine gm_go.ru (gm_catch_n (gm_runV (As := [.int (zI a), .int (zI b)]) (rest := []) dL_courseFor_3 hc mt_X10_courseFor mv_X10_courseFor (lk_L_54 rfl) (Or.inl ⟨_, 11, _, _, _, rfl, hB, rfl⟩) rfl (Nat.le_of_ble_eq_true rfl) hD) [⟨0, 6, 7, 21⟩, ⟨0, 6, 10, 13⟩] ⟨0, 6, 14, 57⟩ [] rfl (List.forall_mem_cons.mpr ⟨Or.inr ⟨by decide, _, lc_21, by decide +kernel⟩, List.forall_mem_cons.mpr ⟨Or.inr ⟨by decide, _, lc_13, by decide +kernel⟩, fun z hz => absurd hz List.not_mem_nil⟩⟩) (by decide) (by decide) lc_57 lt_57 dL_courseFor_14 (Nat.le_of_ble_eq_true rfl)) ?_
  refine gm_go.ru (gi_bipush dL_courseFor_15 (by decide +kernel)) ?_
  exact gm_iret dL_courseFor_17 rfl
set_option maxRecDepth 4000 in
theorem lh_courseForNearby {h h' : gm_H} {n D : Nat} {hs ep fc : Int} {a b : Int} (hB : h.1[n]? = some (by_c n hs ep fc)) (hD : D < 14) {r : Int} (hc : gm_co mX10_courseForNearby D [.ref n, .int (zI a), .int (zI b)] h (.inl (some (.int (zI r)))) h') : gm_co mL_courseForNearby 14 [.ref n, .int (zI a), .int (zI b)] h (.inl (some (.int (zI r)))) h' := by
  refine gm_co_ofH _ (by decide +kernel) (List.cons_ne_nil _ _) (Nat.le_of_ble_eq_true rfl) rfl ?_
  refine gm_go.ru (gm_aload_n dL_courseForNearby_0 rfl (by first | exact Or.inl ⟨_, rfl⟩ | exact Or.inr ⟨_, rfl⟩)) ?_
  refine gm_go.ru (gm_iload_n dL_courseForNearby_1 rfl) ?_
  refine gm_go.ru (gm_iload_n dL_courseForNearby_2 rfl) ?_
  refine gm_go.ru (gm_cV dL_courseForNearby_3 (hc) rfl mt_X10_courseForNearby mv_X10_courseForNearby (lk_L_59 rfl) (Or.inl ⟨_, 11, _, _, _, rfl, hB, rfl⟩) rfl (Nat.le_of_ble_eq_true rfl) hD) ?_
  exact gm_iret dL_courseForNearby_6 rfl
set_option maxRecDepth 4000 in
theorem lx_courseForNearby_1 {h h' : gm_H} {n D : Nat} {hs ep fc : Int} {a b : Int} (hB : h.1[n]? = some (by_c n hs ep fc)) (hD : D < 14) (hc : gm_co mX10_courseForNearby D [.ref n, .int (zI a), .int (zI b)] h (.inr "java/lang/IndexOutOfBoundsException") h') : gm_co mL_courseForNearby 14 [.ref n, .int (zI a), .int (zI b)] h (.inl (some (.int (zI (-1))))) h' := by
  refine gm_co_ofH _ (by decide +kernel) (List.cons_ne_nil _ _) (Nat.le_of_ble_eq_true rfl) rfl ?_
  refine gm_go.ru (gm_aload_n dL_courseForNearby_0 rfl (by first | exact Or.inl ⟨_, rfl⟩ | exact Or.inr ⟨_, rfl⟩)) ?_
  refine gm_go.ru (gm_iload_n dL_courseForNearby_1 rfl) ?_
  refine gm_go.ru (gm_iload_n dL_courseForNearby_2 rfl) ?_
  refine gm_go.ru (gm_catch_n (gm_runV (As := [.int (zI a), .int (zI b)]) (rest := []) dL_courseForNearby_3 hc mt_X10_courseForNearby mv_X10_courseForNearby (lk_L_59 rfl) (Or.inl ⟨_, 11, _, _, _, rfl, hB, rfl⟩) rfl (Nat.le_of_ble_eq_true rfl) hD) [] ⟨0, 6, 7, 21⟩ [⟨0, 6, 10, 13⟩, ⟨0, 6, 14, 57⟩] rfl (fun z hz => absurd hz List.not_mem_nil) (by decide) (by decide) lc_21 lt_21 dL_courseForNearby_7 (Nat.le_of_ble_eq_true rfl)) ?_
  refine gm_go.ru (gi_const dL_courseForNearby_8) ?_
  exact gm_iret dL_courseForNearby_9 rfl
set_option maxRecDepth 4000 in
theorem lx_courseForNearby_2 {h h' : gm_H} {n D : Nat} {hs ep fc : Int} {a b : Int} (hB : h.1[n]? = some (by_c n hs ep fc)) (hD : D < 14) (hc : gm_co mX10_courseForNearby D [.ref n, .int (zI a), .int (zI b)] h (.inr "java/lang/IllegalArgumentException") h') : gm_co mL_courseForNearby 14 [.ref n, .int (zI a), .int (zI b)] h (.inl (some (.int (zI (-2))))) h' := by
  refine gm_co_ofH _ (by decide +kernel) (List.cons_ne_nil _ _) (Nat.le_of_ble_eq_true rfl) rfl ?_
  refine gm_go.ru (gm_aload_n dL_courseForNearby_0 rfl (by first | exact Or.inl ⟨_, rfl⟩ | exact Or.inr ⟨_, rfl⟩)) ?_
  refine gm_go.ru (gm_iload_n dL_courseForNearby_1 rfl) ?_
  refine gm_go.ru (gm_iload_n dL_courseForNearby_2 rfl) ?_
  refine gm_go.ru (gm_catch_n (gm_runV (As := [.int (zI a), .int (zI b)]) (rest := []) dL_courseForNearby_3 hc mt_X10_courseForNearby mv_X10_courseForNearby (lk_L_59 rfl) (Or.inl ⟨_, 11, _, _, _, rfl, hB, rfl⟩) rfl (Nat.le_of_ble_eq_true rfl) hD) [⟨0, 6, 7, 21⟩] ⟨0, 6, 10, 13⟩ [⟨0, 6, 14, 57⟩] rfl (List.forall_mem_cons.mpr ⟨Or.inr ⟨by decide, _, lc_21, by decide +kernel⟩, fun z hz => absurd hz List.not_mem_nil⟩) (by decide) (by decide) lc_13 lt_13 dL_courseForNearby_10 (Nat.le_of_ble_eq_true rfl)) ?_
  refine gm_go.ru (gi_bipush dL_courseForNearby_11 (by decide +kernel)) ?_
  exact gm_iret dL_courseForNearby_13 rfl
set_option maxRecDepth 4000 in
theorem lx_courseForNearby_3 {h h' : gm_H} {n D : Nat} {hs ep fc : Int} {a b : Int} (hB : h.1[n]? = some (by_c n hs ep fc)) (hD : D < 14) (hc : gm_co mX10_courseForNearby D [.ref n, .int (zI a), .int (zI b)] h (.inr "java/util/NoSuchElementException") h') : gm_co mL_courseForNearby 14 [.ref n, .int (zI a), .int (zI b)] h (.inl (some (.int (zI (-3))))) h' := by
  refine gm_co_ofH _ (by decide +kernel) (List.cons_ne_nil _ _) (Nat.le_of_ble_eq_true rfl) rfl ?_
  refine gm_go.ru (gm_aload_n dL_courseForNearby_0 rfl (by first | exact Or.inl ⟨_, rfl⟩ | exact Or.inr ⟨_, rfl⟩)) ?_
  refine gm_go.ru (gm_iload_n dL_courseForNearby_1 rfl) ?_
  refine gm_go.ru (gm_iload_n dL_courseForNearby_2 rfl) ?_
  refine gm_go.ru (gm_catch_n (gm_runV (As := [.int (zI a), .int (zI b)]) (rest := []) dL_courseForNearby_3 hc mt_X10_courseForNearby mv_X10_courseForNearby (lk_L_59 rfl) (Or.inl ⟨_, 11, _, _, _, rfl, hB, rfl⟩) rfl (Nat.le_of_ble_eq_true rfl) hD) [⟨0, 6, 7, 21⟩, ⟨0, 6, 10, 13⟩] ⟨0, 6, 14, 57⟩ [] rfl (List.forall_mem_cons.mpr ⟨Or.inr ⟨by decide, _, lc_21, by decide +kernel⟩, List.forall_mem_cons.mpr ⟨Or.inr ⟨by decide, _, lc_13, by decide +kernel⟩, fun z hz => absurd hz List.not_mem_nil⟩⟩) (by decide) (by decide) lc_57 lt_57 dL_courseForNearby_14 (Nat.le_of_ble_eq_true rfl)) ?_
  refine gm_go.ru (gi_bipush dL_courseForNearby_15 (by decide +kernel)) ?_
  exact gm_iret dL_courseForNearby_17 rfl
set_option maxRecDepth 4000 in
theorem lh_missedCourses {h h' : gm_H} {n D : Nat} {hs ep fc : Int} {a : Int} (hB : h.1[n]? = some (by_c n hs ep fc)) (hD : D < 14) {r : Int} (hc : gm_co mX10_missedCourses D [.ref n, .int (zI a)] h (.inl (some (.int (zI r)))) h') : gm_co mL_missedCourses 14 [.ref n, .int (zI a)] h (.inl (some (.int (zI r)))) h' := by
  refine gm_co_ofH _ (by decide +kernel) (List.cons_ne_nil _ _) (Nat.le_of_ble_eq_true rfl) rfl ?_
  refine gm_go.ru (gm_aload_n dL_missedCourses_0 rfl (by first | exact Or.inl ⟨_, rfl⟩ | exact Or.inr ⟨_, rfl⟩)) ?_
  refine gm_go.ru (gm_iload_n dL_missedCourses_1 rfl) ?_
  refine gm_go.ru (gm_cV dL_missedCourses_2 (hc) rfl mt_X10_missedCourses mv_X10_missedCourses (lk_L_62 rfl) (Or.inl ⟨_, 11, _, _, _, rfl, hB, rfl⟩) rfl (Nat.le_of_ble_eq_true rfl) hD) ?_
  exact gm_iret dL_missedCourses_5 rfl
set_option maxRecDepth 4000 in
theorem lx_missedCourses_1 {h h' : gm_H} {n D : Nat} {hs ep fc : Int} {a : Int} (hB : h.1[n]? = some (by_c n hs ep fc)) (hD : D < 14) (hc : gm_co mX10_missedCourses D [.ref n, .int (zI a)] h (.inr "java/lang/IndexOutOfBoundsException") h') : gm_co mL_missedCourses 14 [.ref n, .int (zI a)] h (.inl (some (.int (zI (-1))))) h' := by
  refine gm_co_ofH _ (by decide +kernel) (List.cons_ne_nil _ _) (Nat.le_of_ble_eq_true rfl) rfl ?_
  refine gm_go.ru (gm_aload_n dL_missedCourses_0 rfl (by first | exact Or.inl ⟨_, rfl⟩ | exact Or.inr ⟨_, rfl⟩)) ?_
  refine gm_go.ru (gm_iload_n dL_missedCourses_1 rfl) ?_
  refine gm_go.ru (gm_catch_n (gm_runV (As := [.int (zI a)]) (rest := []) dL_missedCourses_2 hc mt_X10_missedCourses mv_X10_missedCourses (lk_L_62 rfl) (Or.inl ⟨_, 11, _, _, _, rfl, hB, rfl⟩) rfl (Nat.le_of_ble_eq_true rfl) hD) [] ⟨0, 5, 6, 21⟩ [] rfl (fun z hz => absurd hz List.not_mem_nil) (by decide) (by decide) lc_21 lt_21 dL_missedCourses_6 (Nat.le_of_ble_eq_true rfl)) ?_
  refine gm_go.ru (gi_const dL_missedCourses_7) ?_
  exact gm_iret dL_missedCourses_8 rfl
set_option maxRecDepth 4000 in
theorem lh_errorOf {h h' : gm_H} {n D : Nat} {hs ep fc : Int} {a : Int} (hB : h.1[n]? = some (by_c n hs ep fc)) (hD : D < 14) {r : Int} (hc : gm_co mX10_errorOf D [.ref n, .int (zI a)] h (.inl (some (.int (zI r)))) h') : gm_co mL_errorOf 14 [.ref n, .int (zI a)] h (.inl (some (.int (zI r)))) h' := by
  refine gm_co_ofH _ (by decide +kernel) (List.cons_ne_nil _ _) (Nat.le_of_ble_eq_true rfl) rfl ?_
  refine gm_go.ru (gm_aload_n dL_errorOf_0 rfl (by first | exact Or.inl ⟨_, rfl⟩ | exact Or.inr ⟨_, rfl⟩)) ?_
  refine gm_go.ru (gm_iload_n dL_errorOf_1 rfl) ?_
  refine gm_go.ru (gm_cV dL_errorOf_2 (hc) rfl mt_X10_errorOf mv_X10_errorOf (lk_L_65 rfl) (Or.inl ⟨_, 11, _, _, _, rfl, hB, rfl⟩) rfl (Nat.le_of_ble_eq_true rfl) hD) ?_
  exact gm_iret dL_errorOf_5 rfl
set_option maxRecDepth 4000 in
theorem lx_errorOf_1 {h h' : gm_H} {n D : Nat} {hs ep fc : Int} {a : Int} (hB : h.1[n]? = some (by_c n hs ep fc)) (hD : D < 14) (hc : gm_co mX10_errorOf D [.ref n, .int (zI a)] h (.inr "java/lang/IndexOutOfBoundsException") h') : gm_co mL_errorOf 14 [.ref n, .int (zI a)] h (.inl (some (.int (zI (-1))))) h' := by
  refine gm_co_ofH _ (by decide +kernel) (List.cons_ne_nil _ _) (Nat.le_of_ble_eq_true rfl) rfl ?_
  refine gm_go.ru (gm_aload_n dL_errorOf_0 rfl (by first | exact Or.inl ⟨_, rfl⟩ | exact Or.inr ⟨_, rfl⟩)) ?_
  refine gm_go.ru (gm_iload_n dL_errorOf_1 rfl) ?_
  refine gm_go.ru (gm_catch_n (gm_runV (As := [.int (zI a)]) (rest := []) dL_errorOf_2 hc mt_X10_errorOf mv_X10_errorOf (lk_L_65 rfl) (Or.inl ⟨_, 11, _, _, _, rfl, hB, rfl⟩) rfl (Nat.le_of_ble_eq_true rfl) hD) [] ⟨0, 5, 6, 21⟩ [] rfl (fun z hz => absurd hz List.not_mem_nil) (by decide) (by decide) lc_21 lt_21 dL_errorOf_6 (Nat.le_of_ble_eq_true rfl)) ?_
  refine gm_go.ru (gi_const dL_errorOf_7) ?_
  exact gm_iret dL_errorOf_8 rfl
set_option maxRecDepth 4000 in
theorem lh_bestShift {h h' : gm_H} {n D : Nat} {hs ep fc : Int} {a : Int} (hB : h.1[n]? = some (by_c n hs ep fc)) (hD : D < 14) {r : Int} (hc : gm_co mX10_bestShift D [.ref n, .int (zI a)] h (.inl (some (.int (zI r)))) h') : gm_co mL_bestShift 14 [.ref n, .int (zI a)] h (.inl (some (.int (zI (100 + r))))) h' := by
  refine gm_co_ofH _ (by decide +kernel) (List.cons_ne_nil _ _) (Nat.le_of_ble_eq_true rfl) rfl ?_
  refine gm_go.ru (gi_bipush dL_bestShift_0 (by decide +kernel)) ?_
  refine gm_go.ru (gm_aload_n dL_bestShift_2 rfl (by first | exact Or.inl ⟨_, rfl⟩ | exact Or.inr ⟨_, rfl⟩)) ?_
  refine gm_go.ru (gm_iload_n dL_bestShift_3 rfl) ?_
  refine gm_go.ru (gm_cV dL_bestShift_4 (hc) rfl mt_X10_bestShift mv_X10_bestShift (lk_L_68 rfl) (Or.inl ⟨_, 11, _, _, _, rfl, hB, rfl⟩) rfl (Nat.le_of_ble_eq_true rfl) hD) ?_
  refine gm_go.ru (gi_add dL_bestShift_7) ?_
  exact gm_iret dL_bestShift_8 rfl
set_option maxRecDepth 4000 in
theorem lx_bestShift_1 {h h' : gm_H} {n D : Nat} {hs ep fc : Int} {a : Int} (hB : h.1[n]? = some (by_c n hs ep fc)) (hD : D < 14) (hc : gm_co mX10_bestShift D [.ref n, .int (zI a)] h (.inr "java/lang/IndexOutOfBoundsException") h') : gm_co mL_bestShift 14 [.ref n, .int (zI a)] h (.inl (some (.int (zI (-1))))) h' := by
  refine gm_co_ofH _ (by decide +kernel) (List.cons_ne_nil _ _) (Nat.le_of_ble_eq_true rfl) rfl ?_
  refine gm_go.ru (gi_bipush dL_bestShift_0 (by decide +kernel)) ?_
  refine gm_go.ru (gm_aload_n dL_bestShift_2 rfl (by first | exact Or.inl ⟨_, rfl⟩ | exact Or.inr ⟨_, rfl⟩)) ?_
  refine gm_go.ru (gm_iload_n dL_bestShift_3 rfl) ?_
  refine gm_go.ru (gm_catch_n (gm_runV (As := [.int (zI a)]) (rest := [.int (zI 100)]) dL_bestShift_4 hc mt_X10_bestShift mv_X10_bestShift (lk_L_68 rfl) (Or.inl ⟨_, 11, _, _, _, rfl, hB, rfl⟩) rfl (Nat.le_of_ble_eq_true rfl) hD) [] ⟨0, 8, 9, 21⟩ [] rfl (fun z hz => absurd hz List.not_mem_nil) (by decide) (by decide) lc_21 lt_21 dL_bestShift_9 (Nat.le_of_ble_eq_true rfl)) ?_
  refine gm_go.ru (gi_const dL_bestShift_10) ?_
  exact gm_iret dL_bestShift_11 rfl
set_option maxRecDepth 4000 in
theorem lh_bestShiftBySum {h h' : gm_H} {n D : Nat} {hs ep fc : Int} {a : Int} (hB : h.1[n]? = some (by_c n hs ep fc)) (hD : D < 14) {r : Int} (hc : gm_co mX10_bestShiftBySum D [.ref n, .int (zI a)] h (.inl (some (.int (zI r)))) h') : gm_co mL_bestShiftBySum 14 [.ref n, .int (zI a)] h (.inl (some (.int (zI (100 + r))))) h' := by
  refine gm_co_ofH _ (by decide +kernel) (List.cons_ne_nil _ _) (Nat.le_of_ble_eq_true rfl) rfl ?_
  refine gm_go.ru (gi_bipush dL_bestShiftBySum_0 (by decide +kernel)) ?_
  refine gm_go.ru (gm_aload_n dL_bestShiftBySum_2 rfl (by first | exact Or.inl ⟨_, rfl⟩ | exact Or.inr ⟨_, rfl⟩)) ?_
  refine gm_go.ru (gm_iload_n dL_bestShiftBySum_3 rfl) ?_
  refine gm_go.ru (gm_cV dL_bestShiftBySum_4 (hc) rfl mt_X10_bestShiftBySum mv_X10_bestShiftBySum (lk_L_71 rfl) (Or.inl ⟨_, 11, _, _, _, rfl, hB, rfl⟩) rfl (Nat.le_of_ble_eq_true rfl) hD) ?_
  refine gm_go.ru (gi_add dL_bestShiftBySum_7) ?_
  exact gm_iret dL_bestShiftBySum_8 rfl
set_option maxRecDepth 4000 in
theorem lx_bestShiftBySum_1 {h h' : gm_H} {n D : Nat} {hs ep fc : Int} {a : Int} (hB : h.1[n]? = some (by_c n hs ep fc)) (hD : D < 14) (hc : gm_co mX10_bestShiftBySum D [.ref n, .int (zI a)] h (.inr "java/lang/IndexOutOfBoundsException") h') : gm_co mL_bestShiftBySum 14 [.ref n, .int (zI a)] h (.inl (some (.int (zI (-1))))) h' := by
  refine gm_co_ofH _ (by decide +kernel) (List.cons_ne_nil _ _) (Nat.le_of_ble_eq_true rfl) rfl ?_
  refine gm_go.ru (gi_bipush dL_bestShiftBySum_0 (by decide +kernel)) ?_
  refine gm_go.ru (gm_aload_n dL_bestShiftBySum_2 rfl (by first | exact Or.inl ⟨_, rfl⟩ | exact Or.inr ⟨_, rfl⟩)) ?_
  refine gm_go.ru (gm_iload_n dL_bestShiftBySum_3 rfl) ?_
  refine gm_go.ru (gm_catch_n (gm_runV (As := [.int (zI a)]) (rest := [.int (zI 100)]) dL_bestShiftBySum_4 hc mt_X10_bestShiftBySum mv_X10_bestShiftBySum (lk_L_71 rfl) (Or.inl ⟨_, 11, _, _, _, rfl, hB, rfl⟩) rfl (Nat.le_of_ble_eq_true rfl) hD) [] ⟨0, 8, 9, 21⟩ [] rfl (fun z hz => absurd hz List.not_mem_nil) (by decide) (by decide) lc_21 lt_21 dL_bestShiftBySum_9 (Nat.le_of_ble_eq_true rfl)) ?_
  refine gm_go.ru (gi_const dL_bestShiftBySum_10) ?_
  exact gm_iret dL_bestShiftBySum_11 rfl
set_option maxRecDepth 4000 in
theorem lh_needleAtRank {h h' : gm_H} {n D : Nat} {hs ep fc : Int} {a : Int} (hB : h.1[n]? = some (by_c n hs ep fc)) (hD : D < 14) {r : Int} (hc : gm_co mX10_needleAtRank D [.ref n, .int (zI a)] h (.inl (some (.int (zI r)))) h') : gm_co mL_needleAtRank 14 [.ref n, .int (zI a)] h (.inl (some (.int (zI r)))) h' := by
  refine gm_co_ofH _ (by decide +kernel) (List.cons_ne_nil _ _) (Nat.le_of_ble_eq_true rfl) rfl ?_
  refine gm_go.ru (gm_aload_n dL_needleAtRank_0 rfl (by first | exact Or.inl ⟨_, rfl⟩ | exact Or.inr ⟨_, rfl⟩)) ?_
  refine gm_go.ru (gm_iload_n dL_needleAtRank_1 rfl) ?_
  refine gm_go.ru (gm_cV dL_needleAtRank_2 (hc) rfl mt_X10_needleAtRank mv_X10_needleAtRank (lk_L_74 rfl) (Or.inl ⟨_, 11, _, _, _, rfl, hB, rfl⟩) rfl (Nat.le_of_ble_eq_true rfl) hD) ?_
  exact gm_iret dL_needleAtRank_5 rfl
set_option maxRecDepth 4000 in
theorem lx_needleAtRank_1 {h h' : gm_H} {n D : Nat} {hs ep fc : Int} {a : Int} (hB : h.1[n]? = some (by_c n hs ep fc)) (hD : D < 14) (hc : gm_co mX10_needleAtRank D [.ref n, .int (zI a)] h (.inr "java/util/NoSuchElementException") h') : gm_co mL_needleAtRank 14 [.ref n, .int (zI a)] h (.inl (some (.int (zI (-1))))) h' := by
  refine gm_co_ofH _ (by decide +kernel) (List.cons_ne_nil _ _) (Nat.le_of_ble_eq_true rfl) rfl ?_
  refine gm_go.ru (gm_aload_n dL_needleAtRank_0 rfl (by first | exact Or.inl ⟨_, rfl⟩ | exact Or.inr ⟨_, rfl⟩)) ?_
  refine gm_go.ru (gm_iload_n dL_needleAtRank_1 rfl) ?_
  refine gm_go.ru (gm_catch_n (gm_runV (As := [.int (zI a)]) (rest := []) dL_needleAtRank_2 hc mt_X10_needleAtRank mv_X10_needleAtRank (lk_L_74 rfl) (Or.inl ⟨_, 11, _, _, _, rfl, hB, rfl⟩) rfl (Nat.le_of_ble_eq_true rfl) hD) [] ⟨0, 5, 6, 57⟩ [] rfl (fun z hz => absurd hz List.not_mem_nil) (by decide) (by decide) lc_57 lt_57 dL_needleAtRank_6 (Nat.le_of_ble_eq_true rfl)) ?_
  refine gm_go.ru (gi_const dL_needleAtRank_7) ?_
  exact gm_iret dL_needleAtRank_8 rfl
set_option maxRecDepth 4000 in
theorem lh_meanError {h h' : gm_H} {n D : Nat} {hs ep fc : Int} (hB : h.1[n]? = some (by_c n hs ep fc)) (hD : D < 14) {r : UInt64} (hc : gm_co mX10_meanError D [.ref n] h (.inl (some (.double r))) h') : gm_co mL_meanError 14 [.ref n] h (.inl (some (.double r))) h' := by
  refine gm_co_ofH _ (by decide +kernel) (List.cons_ne_nil _ _) (Nat.le_of_ble_eq_true rfl) rfl ?_
  refine gm_go.ru (gm_aload_n dL_meanError_0 rfl (by first | exact Or.inl ⟨_, rfl⟩ | exact Or.inr ⟨_, rfl⟩)) ?_
  refine gm_go.ru (gm_cV dL_meanError_1 (hc) rfl mt_X10_meanError mv_X10_meanError (lk_L_77 rfl) (Or.inl ⟨_, 11, _, _, _, rfl, hB, rfl⟩) rfl (Nat.le_of_ble_eq_true rfl) hD) ?_
  exact gm_dret dL_meanError_4 rfl
set_option maxRecDepth 4000 in
theorem lx_meanError_1 {h h' : gm_H} {n D : Nat} {hs ep fc : Int} (hB : h.1[n]? = some (by_c n hs ep fc)) (hD : D < 14) (hc : gm_co mX10_meanError D [.ref n] h (.inr "java/lang/ArithmeticException") h') : gm_co mL_meanError 14 [.ref n] h (.inl (some (.double 13830554455654793216))) h' := by
  refine gm_co_ofH _ (by decide +kernel) (List.cons_ne_nil _ _) (Nat.le_of_ble_eq_true rfl) rfl ?_
  refine gm_go.ru (gm_aload_n dL_meanError_0 rfl (by first | exact Or.inl ⟨_, rfl⟩ | exact Or.inr ⟨_, rfl⟩)) ?_
  refine gm_go.ru (gm_catch_n (gm_runV (As := []) (rest := []) dL_meanError_1 hc mt_X10_meanError mv_X10_meanError (lk_L_77 rfl) (Or.inl ⟨_, 11, _, _, _, rfl, hB, rfl⟩) rfl (Nat.le_of_ble_eq_true rfl) hD) [] ⟨0, 4, 5, 81⟩ [] rfl (fun z hz => absurd hz List.not_mem_nil) (by decide) (by decide) lc_81 lt_81 dL_meanError_5 (Nat.le_of_ble_eq_true rfl)) ?_
  refine gm_go.ru (gm_ldc2d dL_meanError_6 (kd_L_83 rfl)) ?_
  exact gm_dret dL_meanError_9 rfl
set_option maxRecDepth 4000 in
theorem lh_partnerOf {h h' : gm_H} {n D : Nat} {hs ep fc : Int} {a : Int} (hB : h.1[n]? = some (by_c n hs ep fc)) (hD : D < 14) {r : Int} (hc : gm_co mX10_partnerOf D [.ref n, .int (zI a)] h (.inl (some (.int (zI r)))) h') : gm_co mL_partnerOf 14 [.ref n, .int (zI a)] h (.inl (some (.int (zI r)))) h' := by
  refine gm_co_ofH _ (by decide +kernel) (List.cons_ne_nil _ _) (Nat.le_of_ble_eq_true rfl) rfl ?_
  refine gm_go.ru (gm_aload_n dL_partnerOf_0 rfl (by first | exact Or.inl ⟨_, rfl⟩ | exact Or.inr ⟨_, rfl⟩)) ?_
  refine gm_go.ru (gm_iload_n dL_partnerOf_1 rfl) ?_
  refine gm_go.ru (gm_cV dL_partnerOf_2 (hc) rfl mt_X10_partnerOf mv_X10_partnerOf (lk_L_85 rfl) (Or.inl ⟨_, 11, _, _, _, rfl, hB, rfl⟩) rfl (Nat.le_of_ble_eq_true rfl) hD) ?_
  exact gm_iret dL_partnerOf_5 rfl
set_option maxRecDepth 4000 in
theorem lx_partnerOf_1 {h h' : gm_H} {n D : Nat} {hs ep fc : Int} {a : Int} (hB : h.1[n]? = some (by_c n hs ep fc)) (hD : D < 14) (hc : gm_co mX10_partnerOf D [.ref n, .int (zI a)] h (.inr "java/lang/IndexOutOfBoundsException") h') : gm_co mL_partnerOf 14 [.ref n, .int (zI a)] h (.inl (some (.int (zI (-1))))) h' := by
  refine gm_co_ofH _ (by decide +kernel) (List.cons_ne_nil _ _) (Nat.le_of_ble_eq_true rfl) rfl ?_
  refine gm_go.ru (gm_aload_n dL_partnerOf_0 rfl (by first | exact Or.inl ⟨_, rfl⟩ | exact Or.inr ⟨_, rfl⟩)) ?_
  refine gm_go.ru (gm_iload_n dL_partnerOf_1 rfl) ?_
  refine gm_go.ru (gm_catch_n (gm_runV (As := [.int (zI a)]) (rest := []) dL_partnerOf_2 hc mt_X10_partnerOf mv_X10_partnerOf (lk_L_85 rfl) (Or.inl ⟨_, 11, _, _, _, rfl, hB, rfl⟩) rfl (Nat.le_of_ble_eq_true rfl) hD) [] ⟨0, 5, 6, 21⟩ [⟨0, 5, 9, 57⟩] rfl (fun z hz => absurd hz List.not_mem_nil) (by decide) (by decide) lc_21 lt_21 dL_partnerOf_6 (Nat.le_of_ble_eq_true rfl)) ?_
  refine gm_go.ru (gi_const dL_partnerOf_7) ?_
  exact gm_iret dL_partnerOf_8 rfl
set_option maxRecDepth 4000 in
theorem lx_partnerOf_2 {h h' : gm_H} {n D : Nat} {hs ep fc : Int} {a : Int} (hB : h.1[n]? = some (by_c n hs ep fc)) (hD : D < 14) (hc : gm_co mX10_partnerOf D [.ref n, .int (zI a)] h (.inr "java/util/NoSuchElementException") h') : gm_co mL_partnerOf 14 [.ref n, .int (zI a)] h (.inl (some (.int (zI (-2))))) h' := by
  refine gm_co_ofH _ (by decide +kernel) (List.cons_ne_nil _ _) (Nat.le_of_ble_eq_true rfl) rfl ?_
  refine gm_go.ru (gm_aload_n dL_partnerOf_0 rfl (by first | exact Or.inl ⟨_, rfl⟩ | exact Or.inr ⟨_, rfl⟩)) ?_
  refine gm_go.ru (gm_iload_n dL_partnerOf_1 rfl) ?_
  refine gm_go.ru (gm_catch_n (gm_runV (As := [.int (zI a)]) (rest := []) dL_partnerOf_2 hc mt_X10_partnerOf mv_X10_partnerOf (lk_L_85 rfl) (Or.inl ⟨_, 11, _, _, _, rfl, hB, rfl⟩) rfl (Nat.le_of_ble_eq_true rfl) hD) [⟨0, 5, 6, 21⟩] ⟨0, 5, 9, 57⟩ [] rfl (List.forall_mem_cons.mpr ⟨Or.inr ⟨by decide, _, lc_21, by decide +kernel⟩, fun z hz => absurd hz List.not_mem_nil⟩) (by decide) (by decide) lc_57 lt_57 dL_partnerOf_9 (Nat.le_of_ble_eq_true rfl)) ?_
  refine gm_go.ru (gi_bipush dL_partnerOf_10 (by decide +kernel)) ?_
  exact gm_iret dL_partnerOf_12 rfl
set_option maxRecDepth 4000 in
theorem lh_addBatch {h h' : gm_H} {n D : Nat} {hs ep fc : Int} {a b c : Int} (hB : h.1[n]? = some (by_c n hs ep fc)) (hD : D < 14) {r : Int} (hc : gm_co mX10_addBatch D [.ref n, .int (zI a), .int (zI b), .int (zI c)] h (.inl (some (.int (zI r)))) h') : gm_co mL_addBatch 14 [.ref n, .int (zI a), .int (zI b), .int (zI c)] h (.inl (some (.int (zI r)))) h' := by
  refine gm_co_ofH _ (by decide +kernel) (List.cons_ne_nil _ _) (Nat.le_of_ble_eq_true rfl) rfl ?_
  refine gm_go.ru (gm_aload_n dL_addBatch_0 rfl (by first | exact Or.inl ⟨_, rfl⟩ | exact Or.inr ⟨_, rfl⟩)) ?_
  refine gm_go.ru (gm_iload_n dL_addBatch_1 rfl) ?_
  refine gm_go.ru (gm_iload_n dL_addBatch_2 rfl) ?_
  refine gm_go.ru (gm_iload_n dL_addBatch_3 rfl) ?_
  refine gm_go.ru (gm_cV dL_addBatch_4 (hc) rfl mt_X10_addBatch mv_X10_addBatch (lk_L_88 rfl) (Or.inl ⟨_, 11, _, _, _, rfl, hB, rfl⟩) rfl (Nat.le_of_ble_eq_true rfl) hD) ?_
  exact gm_iret dL_addBatch_7 rfl
set_option maxRecDepth 4000 in
theorem lx_addBatch_1 {h h' : gm_H} {n D : Nat} {hs ep fc : Int} {a b c : Int} (hB : h.1[n]? = some (by_c n hs ep fc)) (hD : D < 14) (hc : gm_co mX10_addBatch D [.ref n, .int (zI a), .int (zI b), .int (zI c)] h (.inr "java/lang/IllegalArgumentException") h') : gm_co mL_addBatch 14 [.ref n, .int (zI a), .int (zI b), .int (zI c)] h (.inl (some (.int (zI (-1))))) h' := by
  refine gm_co_ofH _ (by decide +kernel) (List.cons_ne_nil _ _) (Nat.le_of_ble_eq_true rfl) rfl ?_
  refine gm_go.ru (gm_aload_n dL_addBatch_0 rfl (by first | exact Or.inl ⟨_, rfl⟩ | exact Or.inr ⟨_, rfl⟩)) ?_
  refine gm_go.ru (gm_iload_n dL_addBatch_1 rfl) ?_
  refine gm_go.ru (gm_iload_n dL_addBatch_2 rfl) ?_
  refine gm_go.ru (gm_iload_n dL_addBatch_3 rfl) ?_
  refine gm_go.ru (gm_catch_w (gm_runV (As := [.int (zI a), .int (zI b), .int (zI c)]) (rest := []) dL_addBatch_4 hc mt_X10_addBatch mv_X10_addBatch (lk_L_88 rfl) (Or.inl ⟨_, 11, _, _, _, rfl, hB, rfl⟩) rfl (Nat.le_of_ble_eq_true rfl) hD) [] ⟨0, 7, 8, 13⟩ [⟨0, 7, 12, 15⟩] rfl (fun z hz => absurd hz List.not_mem_nil) (by decide) (by decide) lc_13 lt_13 dL_addBatch_8 (Nat.le_of_ble_eq_true rfl)) ?_
  refine gm_go.ru (gi_const dL_addBatch_10) ?_
  exact gm_iret dL_addBatch_11 rfl
set_option maxRecDepth 4000 in
theorem lx_addBatch_2 {h h' : gm_H} {n D : Nat} {hs ep fc : Int} {a b c : Int} (hB : h.1[n]? = some (by_c n hs ep fc)) (hD : D < 14) (hc : gm_co mX10_addBatch D [.ref n, .int (zI a), .int (zI b), .int (zI c)] h (.inr "java/lang/IllegalStateException") h') : gm_co mL_addBatch 14 [.ref n, .int (zI a), .int (zI b), .int (zI c)] h (.inl (some (.int (zI (-2))))) h' := by
  refine gm_co_ofH _ (by decide +kernel) (List.cons_ne_nil _ _) (Nat.le_of_ble_eq_true rfl) rfl ?_
  refine gm_go.ru (gm_aload_n dL_addBatch_0 rfl (by first | exact Or.inl ⟨_, rfl⟩ | exact Or.inr ⟨_, rfl⟩)) ?_
  refine gm_go.ru (gm_iload_n dL_addBatch_1 rfl) ?_
  refine gm_go.ru (gm_iload_n dL_addBatch_2 rfl) ?_
  refine gm_go.ru (gm_iload_n dL_addBatch_3 rfl) ?_
  refine gm_go.ru (gm_catch_w (gm_runV (As := [.int (zI a), .int (zI b), .int (zI c)]) (rest := []) dL_addBatch_4 hc mt_X10_addBatch mv_X10_addBatch (lk_L_88 rfl) (Or.inl ⟨_, 11, _, _, _, rfl, hB, rfl⟩) rfl (Nat.le_of_ble_eq_true rfl) hD) [⟨0, 7, 8, 13⟩] ⟨0, 7, 12, 15⟩ [] rfl (List.forall_mem_cons.mpr ⟨Or.inr ⟨by decide, _, lc_13, by decide +kernel⟩, fun z hz => absurd hz List.not_mem_nil⟩) (by decide) (by decide) lc_15 lt_15 dL_addBatch_12 (Nat.le_of_ble_eq_true rfl)) ?_
  refine gm_go.ru (gi_bipush dL_addBatch_14 (by decide +kernel)) ?_
  exact gm_iret dL_addBatch_16 rfl
set_option maxRecDepth 4000 in
theorem lh_dropBatch {h h' : gm_H} {n D : Nat} {hs ep fc : Int} {a : Int} (hB : h.1[n]? = some (by_c n hs ep fc)) (hD : D < 14) {r : Int} (hc : gm_co mX10_dropBatch D [.ref n, .int (zI a)] h (.inl (some (.int (zI r)))) h') : gm_co mL_dropBatch 14 [.ref n, .int (zI a)] h (.inl (some (.int (zI r)))) h' := by
  refine gm_co_ofH _ (by decide +kernel) (List.cons_ne_nil _ _) (Nat.le_of_ble_eq_true rfl) rfl ?_
  refine gm_go.ru (gm_aload_n dL_dropBatch_0 rfl (by first | exact Or.inl ⟨_, rfl⟩ | exact Or.inr ⟨_, rfl⟩)) ?_
  refine gm_go.ru (gm_iload_n dL_dropBatch_1 rfl) ?_
  refine gm_go.ru (gm_cV dL_dropBatch_2 (hc) rfl mt_X10_dropBatch mv_X10_dropBatch (lk_L_91 rfl) (Or.inl ⟨_, 11, _, _, _, rfl, hB, rfl⟩) rfl (Nat.le_of_ble_eq_true rfl) hD) ?_
  exact gm_iret dL_dropBatch_5 rfl
set_option maxRecDepth 4000 in
theorem lx_dropBatch_1 {h h' : gm_H} {n D : Nat} {hs ep fc : Int} {a : Int} (hB : h.1[n]? = some (by_c n hs ep fc)) (hD : D < 14) (hc : gm_co mX10_dropBatch D [.ref n, .int (zI a)] h (.inr "java/util/NoSuchElementException") h') : gm_co mL_dropBatch 14 [.ref n, .int (zI a)] h (.inl (some (.int (zI (-1))))) h' := by
  refine gm_co_ofH _ (by decide +kernel) (List.cons_ne_nil _ _) (Nat.le_of_ble_eq_true rfl) rfl ?_
  refine gm_go.ru (gm_aload_n dL_dropBatch_0 rfl (by first | exact Or.inl ⟨_, rfl⟩ | exact Or.inr ⟨_, rfl⟩)) ?_
  refine gm_go.ru (gm_iload_n dL_dropBatch_1 rfl) ?_
  refine gm_go.ru (gm_catch_n (gm_runV (As := [.int (zI a)]) (rest := []) dL_dropBatch_2 hc mt_X10_dropBatch mv_X10_dropBatch (lk_L_91 rfl) (Or.inl ⟨_, 11, _, _, _, rfl, hB, rfl⟩) rfl (Nat.le_of_ble_eq_true rfl) hD) [] ⟨0, 5, 6, 57⟩ [] rfl (fun z hz => absurd hz List.not_mem_nil) (by decide) (by decide) lc_57 lt_57 dL_dropBatch_6 (Nat.le_of_ble_eq_true rfl)) ?_
  refine gm_go.ru (gi_const dL_dropBatch_7) ?_
  exact gm_iret dL_dropBatch_8 rfl
set_option maxRecDepth 4000 in
theorem lh_bake {h h' : gm_H} {n D : Nat} {hs ep fc : Int} {a : Int} (hB : h.1[n]? = some (by_c n hs ep fc)) (hD : D < 14) {r : Int} (hc : gm_co mX10_bake D [.ref n, .int (zI a)] h (.inl (some (.int (zI r)))) h') : gm_co mL_bake 14 [.ref n, .int (zI a)] h (.inl (some (.int (zI r)))) h' := by
  refine gm_co_ofH _ (by decide +kernel) (List.cons_ne_nil _ _) (Nat.le_of_ble_eq_true rfl) rfl ?_
  refine gm_go.ru (gm_aload_n dL_bake_0 rfl (by first | exact Or.inl ⟨_, rfl⟩ | exact Or.inr ⟨_, rfl⟩)) ?_
  refine gm_go.ru (gm_iload_n dL_bake_1 rfl) ?_
  refine gm_go.ru (gm_cV dL_bake_2 (hc) rfl mt_X10_bake mv_X10_bake (lk_L_94 rfl) (Or.inl ⟨_, 11, _, _, _, rfl, hB, rfl⟩) rfl (Nat.le_of_ble_eq_true rfl) hD) ?_
  exact gm_iret dL_bake_5 rfl
set_option maxRecDepth 4000 in
theorem lx_bake_1 {h h' : gm_H} {n D : Nat} {hs ep fc : Int} {a : Int} (hB : h.1[n]? = some (by_c n hs ep fc)) (hD : D < 14) (hc : gm_co mX10_bake D [.ref n, .int (zI a)] h (.inr "java/util/NoSuchElementException") h') : gm_co mL_bake 14 [.ref n, .int (zI a)] h (.inl (some (.int (zI (-1))))) h' := by
  refine gm_co_ofH _ (by decide +kernel) (List.cons_ne_nil _ _) (Nat.le_of_ble_eq_true rfl) rfl ?_
  refine gm_go.ru (gm_aload_n dL_bake_0 rfl (by first | exact Or.inl ⟨_, rfl⟩ | exact Or.inr ⟨_, rfl⟩)) ?_
  refine gm_go.ru (gm_iload_n dL_bake_1 rfl) ?_
  refine gm_go.ru (gm_catch_n (gm_runV (As := [.int (zI a)]) (rest := []) dL_bake_2 hc mt_X10_bake mv_X10_bake (lk_L_94 rfl) (Or.inl ⟨_, 11, _, _, _, rfl, hB, rfl⟩) rfl (Nat.le_of_ble_eq_true rfl) hD) [] ⟨0, 5, 6, 57⟩ [] rfl (fun z hz => absurd hz List.not_mem_nil) (by decide) (by decide) lc_57 lt_57 dL_bake_6 (Nat.le_of_ble_eq_true rfl)) ?_
  refine gm_go.ru (gi_const dL_bake_7) ?_
  exact gm_iret dL_bake_8 rfl
set_option maxRecDepth 4000 in
theorem lh_rest {h h' : gm_H} {n D : Nat} {hs ep fc : Int} {a : Int} (hB : h.1[n]? = some (by_c n hs ep fc)) (hD : D < 14) {r : Int} (hc : gm_co mX10_rest D [.ref n, .int (zI a)] h (.inl (some (.int (zI r)))) h') : gm_co mL_rest 14 [.ref n, .int (zI a)] h (.inl (some (.int (zI r)))) h' := by
  refine gm_co_ofH _ (by decide +kernel) (List.cons_ne_nil _ _) (Nat.le_of_ble_eq_true rfl) rfl ?_
  refine gm_go.ru (gm_aload_n dL_rest_0 rfl (by first | exact Or.inl ⟨_, rfl⟩ | exact Or.inr ⟨_, rfl⟩)) ?_
  refine gm_go.ru (gm_iload_n dL_rest_1 rfl) ?_
  refine gm_go.ru (gm_cV dL_rest_2 (hc) rfl mt_X10_rest mv_X10_rest (lk_L_97 rfl) (Or.inl ⟨_, 11, _, _, _, rfl, hB, rfl⟩) rfl (Nat.le_of_ble_eq_true rfl) hD) ?_
  exact gm_iret dL_rest_5 rfl
set_option maxRecDepth 4000 in
theorem lx_rest_1 {h h' : gm_H} {n D : Nat} {hs ep fc : Int} {a : Int} (hB : h.1[n]? = some (by_c n hs ep fc)) (hD : D < 14) (hc : gm_co mX10_rest D [.ref n, .int (zI a)] h (.inr "java/lang/IllegalArgumentException") h') : gm_co mL_rest 14 [.ref n, .int (zI a)] h (.inl (some (.int (zI (-1))))) h' := by
  refine gm_co_ofH _ (by decide +kernel) (List.cons_ne_nil _ _) (Nat.le_of_ble_eq_true rfl) rfl ?_
  refine gm_go.ru (gm_aload_n dL_rest_0 rfl (by first | exact Or.inl ⟨_, rfl⟩ | exact Or.inr ⟨_, rfl⟩)) ?_
  refine gm_go.ru (gm_iload_n dL_rest_1 rfl) ?_
  refine gm_go.ru (gm_catch_n (gm_runV (As := [.int (zI a)]) (rest := []) dL_rest_2 hc mt_X10_rest mv_X10_rest (lk_L_97 rfl) (Or.inl ⟨_, 11, _, _, _, rfl, hB, rfl⟩) rfl (Nat.le_of_ble_eq_true rfl) hD) [] ⟨0, 5, 6, 13⟩ [] rfl (fun z hz => absurd hz List.not_mem_nil) (by decide) (by decide) lc_13 lt_13 dL_rest_6 (Nat.le_of_ble_eq_true rfl)) ?_
  refine gm_go.ru (gi_const dL_rest_7) ?_
  exact gm_iret dL_rest_8 rfl
set_option maxRecDepth 4000 in
theorem lh_batchAt {h h' : gm_H} {n D : Nat} {hs ep fc : Int} {a : Int} (hB : h.1[n]? = some (by_c n hs ep fc)) (hD : D < 14) {r : Int} (hc : gm_co mX10_batchAt D [.ref n, .int (zI a)] h (.inl (some (.int (zI r)))) h') : gm_co mL_batchAt 14 [.ref n, .int (zI a)] h (.inl (some (.int (zI r)))) h' := by
  refine gm_co_ofH _ (by decide +kernel) (List.cons_ne_nil _ _) (Nat.le_of_ble_eq_true rfl) rfl ?_
  refine gm_go.ru (gm_aload_n dL_batchAt_0 rfl (by first | exact Or.inl ⟨_, rfl⟩ | exact Or.inr ⟨_, rfl⟩)) ?_
  refine gm_go.ru (gm_iload_n dL_batchAt_1 rfl) ?_
  refine gm_go.ru (gm_cV dL_batchAt_2 (hc) rfl mt_X10_batchAt mv_X10_batchAt (lk_L_100 rfl) (Or.inl ⟨_, 11, _, _, _, rfl, hB, rfl⟩) rfl (Nat.le_of_ble_eq_true rfl) hD) ?_
  exact gm_iret dL_batchAt_5 rfl
set_option maxRecDepth 4000 in
theorem lx_batchAt_1 {h h' : gm_H} {n D : Nat} {hs ep fc : Int} {a : Int} (hB : h.1[n]? = some (by_c n hs ep fc)) (hD : D < 14) (hc : gm_co mX10_batchAt D [.ref n, .int (zI a)] h (.inr "java/lang/IndexOutOfBoundsException") h') : gm_co mL_batchAt 14 [.ref n, .int (zI a)] h (.inl (some (.int (zI (-1))))) h' := by
  refine gm_co_ofH _ (by decide +kernel) (List.cons_ne_nil _ _) (Nat.le_of_ble_eq_true rfl) rfl ?_
  refine gm_go.ru (gm_aload_n dL_batchAt_0 rfl (by first | exact Or.inl ⟨_, rfl⟩ | exact Or.inr ⟨_, rfl⟩)) ?_
  refine gm_go.ru (gm_iload_n dL_batchAt_1 rfl) ?_
  refine gm_go.ru (gm_catch_n (gm_runV (As := [.int (zI a)]) (rest := []) dL_batchAt_2 hc mt_X10_batchAt mv_X10_batchAt (lk_L_100 rfl) (Or.inl ⟨_, 11, _, _, _, rfl, hB, rfl⟩) rfl (Nat.le_of_ble_eq_true rfl) hD) [] ⟨0, 5, 6, 21⟩ [] rfl (fun z hz => absurd hz List.not_mem_nil) (by decide) (by decide) lc_21 lt_21 dL_batchAt_6 (Nat.le_of_ble_eq_true rfl)) ?_
  refine gm_go.ru (gi_const dL_batchAt_7) ?_
  exact gm_iret dL_batchAt_8 rfl
set_option maxRecDepth 4000 in
theorem lh_latenessNow {h h' : gm_H} {n D : Nat} {hs ep fc : Int} {a : Int} (hB : h.1[n]? = some (by_c n hs ep fc)) (hD : D < 14) {r : Int} (hc : gm_co mX10_latenessNow D [.ref n, .int (zI a)] h (.inl (some (.int (zI r)))) h') : gm_co mL_latenessNow 14 [.ref n, .int (zI a)] h (.inl (some (.int (zI r)))) h' := by
  refine gm_co_ofH _ (by decide +kernel) (List.cons_ne_nil _ _) (Nat.le_of_ble_eq_true rfl) rfl ?_
  refine gm_go.ru (gm_aload_n dL_latenessNow_0 rfl (by first | exact Or.inl ⟨_, rfl⟩ | exact Or.inr ⟨_, rfl⟩)) ?_
  refine gm_go.ru (gm_iload_n dL_latenessNow_1 rfl) ?_
  refine gm_go.ru (gm_cV dL_latenessNow_2 (hc) rfl mt_X10_latenessNow mv_X10_latenessNow (lk_L_103 rfl) (Or.inl ⟨_, 11, _, _, _, rfl, hB, rfl⟩) rfl (Nat.le_of_ble_eq_true rfl) hD) ?_
  exact gm_iret dL_latenessNow_5 rfl
set_option maxRecDepth 4000 in
theorem lx_latenessNow_1 {h h' : gm_H} {n D : Nat} {hs ep fc : Int} {a : Int} (hB : h.1[n]? = some (by_c n hs ep fc)) (hD : D < 14) (hc : gm_co mX10_latenessNow D [.ref n, .int (zI a)] h (.inr "java/util/NoSuchElementException") h') : gm_co mL_latenessNow 14 [.ref n, .int (zI a)] h (.inl (some (.int (zI (-1))))) h' := by
  refine gm_co_ofH _ (by decide +kernel) (List.cons_ne_nil _ _) (Nat.le_of_ble_eq_true rfl) rfl ?_
  refine gm_go.ru (gm_aload_n dL_latenessNow_0 rfl (by first | exact Or.inl ⟨_, rfl⟩ | exact Or.inr ⟨_, rfl⟩)) ?_
  refine gm_go.ru (gm_iload_n dL_latenessNow_1 rfl) ?_
  refine gm_go.ru (gm_catch_n (gm_runV (As := [.int (zI a)]) (rest := []) dL_latenessNow_2 hc mt_X10_latenessNow mv_X10_latenessNow (lk_L_103 rfl) (Or.inl ⟨_, 11, _, _, _, rfl, hB, rfl⟩) rfl (Nat.le_of_ble_eq_true rfl) hD) [] ⟨0, 5, 6, 57⟩ [] rfl (fun z hz => absurd hz List.not_mem_nil) (by decide) (by decide) lc_57 lt_57 dL_latenessNow_6 (Nat.le_of_ble_eq_true rfl)) ?_
  refine gm_go.ru (gi_const dL_latenessNow_7) ?_
  exact gm_iret dL_latenessNow_8 rfl
set_option maxRecDepth 4000 in
theorem lh_bestFirst {h h' : gm_H} {n D : Nat} {hs ep fc : Int} (hB : h.1[n]? = some (by_c n hs ep fc)) (hD : D < 14) {r : Int} (hc : gm_co mX10_bestFirst D [.ref n] h (.inl (some (.int (zI r)))) h') : gm_co mL_bestFirst 14 [.ref n] h (.inl (some (.int (zI r)))) h' := by
  refine gm_co_ofH _ (by decide +kernel) (List.cons_ne_nil _ _) (Nat.le_of_ble_eq_true rfl) rfl ?_
  refine gm_go.ru (gm_aload_n dL_bestFirst_0 rfl (by first | exact Or.inl ⟨_, rfl⟩ | exact Or.inr ⟨_, rfl⟩)) ?_
  refine gm_go.ru (gm_cV dL_bestFirst_1 (hc) rfl mt_X10_bestFirst mv_X10_bestFirst (lk_L_106 rfl) (Or.inl ⟨_, 11, _, _, _, rfl, hB, rfl⟩) rfl (Nat.le_of_ble_eq_true rfl) hD) ?_
  exact gm_iret dL_bestFirst_4 rfl
set_option maxRecDepth 4000 in
theorem lx_bestFirst_1 {h h' : gm_H} {n D : Nat} {hs ep fc : Int} (hB : h.1[n]? = some (by_c n hs ep fc)) (hD : D < 14) (hc : gm_co mX10_bestFirst D [.ref n] h (.inr "java/util/NoSuchElementException") h') : gm_co mL_bestFirst 14 [.ref n] h (.inl (some (.int (zI (-1))))) h' := by
  refine gm_co_ofH _ (by decide +kernel) (List.cons_ne_nil _ _) (Nat.le_of_ble_eq_true rfl) rfl ?_
  refine gm_go.ru (gm_aload_n dL_bestFirst_0 rfl (by first | exact Or.inl ⟨_, rfl⟩ | exact Or.inr ⟨_, rfl⟩)) ?_
  refine gm_go.ru (gm_catch_n (gm_runV (As := []) (rest := []) dL_bestFirst_1 hc mt_X10_bestFirst mv_X10_bestFirst (lk_L_106 rfl) (Or.inl ⟨_, 11, _, _, _, rfl, hB, rfl⟩) rfl (Nat.le_of_ble_eq_true rfl) hD) [] ⟨0, 4, 5, 57⟩ [] rfl (fun z hz => absurd hz List.not_mem_nil) (by decide) (by decide) lc_57 lt_57 dL_bestFirst_5 (Nat.le_of_ble_eq_true rfl)) ?_
  refine gm_go.ru (gi_const dL_bestFirst_6) ?_
  exact gm_iret dL_bestFirst_7 rfl
set_option maxRecDepth 4000 in
theorem lh_bakingShare {h h' : gm_H} {n D : Nat} {hs ep fc : Int} (hB : h.1[n]? = some (by_c n hs ep fc)) (hD : D < 14) {r : UInt32} (hc : gm_co mX10_bakingShare D [.ref n] h (.inl (some (.float r))) h') : gm_co mL_bakingShare 14 [.ref n] h (.inl (some (.float r))) h' := by
  refine gm_co_ofH _ (by decide +kernel) (List.cons_ne_nil _ _) (Nat.le_of_ble_eq_true rfl) rfl ?_
  refine gm_go.ru (gm_aload_n dL_bakingShare_0 rfl (by first | exact Or.inl ⟨_, rfl⟩ | exact Or.inr ⟨_, rfl⟩)) ?_
  refine gm_go.ru (gm_cV dL_bakingShare_1 (hc) rfl mt_X10_bakingShare mv_X10_bakingShare (lk_L_110 rfl) (Or.inl ⟨_, 11, _, _, _, rfl, hB, rfl⟩) rfl (Nat.le_of_ble_eq_true rfl) hD) ?_
  exact gm_fret dL_bakingShare_4 rfl
set_option maxRecDepth 4000 in
theorem lx_bakingShare_1 {h h' : gm_H} {n D : Nat} {hs ep fc : Int} (hB : h.1[n]? = some (by_c n hs ep fc)) (hD : D < 14) (hc : gm_co mX10_bakingShare D [.ref n] h (.inr "java/lang/ArithmeticException") h') : gm_co mL_bakingShare 14 [.ref n] h (.inl (some (.float 3212836864))) h' := by
  refine gm_co_ofH _ (by decide +kernel) (List.cons_ne_nil _ _) (Nat.le_of_ble_eq_true rfl) rfl ?_
  refine gm_go.ru (gm_aload_n dL_bakingShare_0 rfl (by first | exact Or.inl ⟨_, rfl⟩ | exact Or.inr ⟨_, rfl⟩)) ?_
  refine gm_go.ru (gm_catch_n (gm_runV (As := []) (rest := []) dL_bakingShare_1 hc mt_X10_bakingShare mv_X10_bakingShare (lk_L_110 rfl) (Or.inl ⟨_, 11, _, _, _, rfl, hB, rfl⟩) rfl (Nat.le_of_ble_eq_true rfl) hD) [] ⟨0, 4, 5, 81⟩ [] rfl (fun z hz => absurd hz List.not_mem_nil) (by decide) (by decide) lc_81 lt_81 dL_bakingShare_5 (Nat.le_of_ble_eq_true rfl)) ?_
  refine gm_go.ru (gm_ldcf dL_bakingShare_6 (kf_L_114 rfl)) ?_
  exact gm_fret dL_bakingShare_8 rfl
set_option maxRecDepth 4000 in
theorem lh_writeLabel {h h' : gm_H} {n D : Nat} {hs ep fc : Int} {a : Int} (hB : h.1[n]? = some (by_c n hs ep fc)) (hD : D < 14) {r : Int} (hc : gm_co mX10_writeLabel D [.ref n, .int (zI a)] h (.inl (some (.int (zI r)))) h') : gm_co mL_writeLabel 14 [.ref n, .int (zI a)] h (.inl (some (.int (zI r)))) h' := by
  refine gm_co_ofH _ (by decide +kernel) (List.cons_ne_nil _ _) (Nat.le_of_ble_eq_true rfl) rfl ?_
  refine gm_go.ru (gm_aload_n dL_writeLabel_0 rfl (by first | exact Or.inl ⟨_, rfl⟩ | exact Or.inr ⟨_, rfl⟩)) ?_
  refine gm_go.ru (gm_iload_n dL_writeLabel_1 rfl) ?_
  refine gm_go.ru (gm_cV dL_writeLabel_2 (hc) rfl mt_X10_writeLabel mv_X10_writeLabel (lk_L_115 rfl) (Or.inl ⟨_, 11, _, _, _, rfl, hB, rfl⟩) rfl (Nat.le_of_ble_eq_true rfl) hD) ?_
  exact gm_iret dL_writeLabel_5 rfl
set_option maxRecDepth 4000 in
theorem lx_writeLabel_1 {h h' : gm_H} {n D : Nat} {hs ep fc : Int} {a : Int} (hB : h.1[n]? = some (by_c n hs ep fc)) (hD : D < 14) (hc : gm_co mX10_writeLabel D [.ref n, .int (zI a)] h (.inr "java/lang/IndexOutOfBoundsException") h') : gm_co mL_writeLabel 14 [.ref n, .int (zI a)] h (.inl (some (.int (zI (-1))))) h' := by
  refine gm_co_ofH _ (by decide +kernel) (List.cons_ne_nil _ _) (Nat.le_of_ble_eq_true rfl) rfl ?_
  refine gm_go.ru (gm_aload_n dL_writeLabel_0 rfl (by first | exact Or.inl ⟨_, rfl⟩ | exact Or.inr ⟨_, rfl⟩)) ?_
  refine gm_go.ru (gm_iload_n dL_writeLabel_1 rfl) ?_
  refine gm_go.ru (gm_catch_n (gm_runV (As := [.int (zI a)]) (rest := []) dL_writeLabel_2 hc mt_X10_writeLabel mv_X10_writeLabel (lk_L_115 rfl) (Or.inl ⟨_, 11, _, _, _, rfl, hB, rfl⟩) rfl (Nat.le_of_ble_eq_true rfl) hD) [] ⟨0, 5, 6, 21⟩ [] rfl (fun z hz => absurd hz List.not_mem_nil) (by decide) (by decide) lc_21 lt_21 dL_writeLabel_6 (Nat.le_of_ble_eq_true rfl)) ?_
  refine gm_go.ru (gi_const dL_writeLabel_7) ?_
  exact gm_iret dL_writeLabel_8 rfl
set_option maxRecDepth 4000 in
theorem lh_labelAt {h h' : gm_H} {n D : Nat} {hs ep fc : Int} {a : Int} (hB : h.1[n]? = some (by_c n hs ep fc)) (hD : D < 14) {r : Int} (hc : gm_co mX10_labelAt D [.ref n, .int (zI a)] h (.inl (some (.int (zI r)))) h') : gm_co mL_labelAt 14 [.ref n, .int (zI a)] h (.inl (some (.int (zI r)))) h' := by
  refine gm_co_ofH _ (by decide +kernel) (List.cons_ne_nil _ _) (Nat.le_of_ble_eq_true rfl) rfl ?_
  refine gm_go.ru (gm_aload_n dL_labelAt_0 rfl (by first | exact Or.inl ⟨_, rfl⟩ | exact Or.inr ⟨_, rfl⟩)) ?_
  refine gm_go.ru (gm_iload_n dL_labelAt_1 rfl) ?_
  refine gm_go.ru (gm_cV dL_labelAt_2 (hc) rfl mt_X10_labelAt mv_X10_labelAt (lk_L_118 rfl) (Or.inl ⟨_, 11, _, _, _, rfl, hB, rfl⟩) rfl (Nat.le_of_ble_eq_true rfl) hD) ?_
  exact gm_iret dL_labelAt_5 rfl
set_option maxRecDepth 4000 in
theorem lx_labelAt_1 {h h' : gm_H} {n D : Nat} {hs ep fc : Int} {a : Int} (hB : h.1[n]? = some (by_c n hs ep fc)) (hD : D < 14) (hc : gm_co mX10_labelAt D [.ref n, .int (zI a)] h (.inr "java/lang/IndexOutOfBoundsException") h') : gm_co mL_labelAt 14 [.ref n, .int (zI a)] h (.inl (some (.int (zI (-1))))) h' := by
  refine gm_co_ofH _ (by decide +kernel) (List.cons_ne_nil _ _) (Nat.le_of_ble_eq_true rfl) rfl ?_
  refine gm_go.ru (gm_aload_n dL_labelAt_0 rfl (by first | exact Or.inl ⟨_, rfl⟩ | exact Or.inr ⟨_, rfl⟩)) ?_
  refine gm_go.ru (gm_iload_n dL_labelAt_1 rfl) ?_
  refine gm_go.ru (gm_catch_n (gm_runV (As := [.int (zI a)]) (rest := []) dL_labelAt_2 hc mt_X10_labelAt mv_X10_labelAt (lk_L_118 rfl) (Or.inl ⟨_, 11, _, _, _, rfl, hB, rfl⟩) rfl (Nat.le_of_ble_eq_true rfl) hD) [] ⟨0, 5, 6, 21⟩ [] rfl (fun z hz => absurd hz List.not_mem_nil) (by decide) (by decide) lc_21 lt_21 dL_labelAt_6 (Nat.le_of_ble_eq_true rfl)) ?_
  refine gm_go.ru (gi_const dL_labelAt_7) ?_
  exact gm_iret dL_labelAt_8 rfl
set_option maxRecDepth 4000 in
theorem lh_type {h h' : gm_H} {n D : Nat} {hs ep fc : Int} {a : Int} (hB : h.1[n]? = some (by_c n hs ep fc)) (hD : D < 14) {r : Int} (hc : gm_co mX10_type D [.ref n, .int (zI a)] h (.inl (some (.int (zI r)))) h') : gm_co mL_type 14 [.ref n, .int (zI a)] h (.inl (some (.int (zI r)))) h' := by
  refine gm_co_ofH _ (by decide +kernel) (List.cons_ne_nil _ _) (Nat.le_of_ble_eq_true rfl) rfl ?_
  refine gm_go.ru (gm_aload_n dL_type_0 rfl (by first | exact Or.inl ⟨_, rfl⟩ | exact Or.inr ⟨_, rfl⟩)) ?_
  refine gm_go.ru (gm_iload_n dL_type_1 rfl) ?_
  refine gm_go.ru (gm_cV dL_type_2 (hc) rfl mt_X10_type mv_X10_type (lk_L_122 rfl) (Or.inl ⟨_, 11, _, _, _, rfl, hB, rfl⟩) rfl (Nat.le_of_ble_eq_true rfl) hD) ?_
  exact gm_iret dL_type_5 rfl
set_option maxRecDepth 4000 in
theorem lx_type_1 {h h' : gm_H} {n D : Nat} {hs ep fc : Int} {a : Int} (hB : h.1[n]? = some (by_c n hs ep fc)) (hD : D < 14) (hc : gm_co mX10_type D [.ref n, .int (zI a)] h (.inr "java/lang/IllegalArgumentException") h') : gm_co mL_type 14 [.ref n, .int (zI a)] h (.inl (some (.int (zI (-1))))) h' := by
  refine gm_co_ofH _ (by decide +kernel) (List.cons_ne_nil _ _) (Nat.le_of_ble_eq_true rfl) rfl ?_
  refine gm_go.ru (gm_aload_n dL_type_0 rfl (by first | exact Or.inl ⟨_, rfl⟩ | exact Or.inr ⟨_, rfl⟩)) ?_
  refine gm_go.ru (gm_iload_n dL_type_1 rfl) ?_
  refine gm_go.ru (gm_catch_n (gm_runV (As := [.int (zI a)]) (rest := []) dL_type_2 hc mt_X10_type mv_X10_type (lk_L_122 rfl) (Or.inl ⟨_, 11, _, _, _, rfl, hB, rfl⟩) rfl (Nat.le_of_ble_eq_true rfl) hD) [] ⟨0, 5, 6, 13⟩ [⟨0, 5, 9, 15⟩] rfl (fun z hz => absurd hz List.not_mem_nil) (by decide) (by decide) lc_13 lt_13 dL_type_6 (Nat.le_of_ble_eq_true rfl)) ?_
  refine gm_go.ru (gi_const dL_type_7) ?_
  exact gm_iret dL_type_8 rfl
set_option maxRecDepth 4000 in
theorem lx_type_2 {h h' : gm_H} {n D : Nat} {hs ep fc : Int} {a : Int} (hB : h.1[n]? = some (by_c n hs ep fc)) (hD : D < 14) (hc : gm_co mX10_type D [.ref n, .int (zI a)] h (.inr "java/lang/IllegalStateException") h') : gm_co mL_type 14 [.ref n, .int (zI a)] h (.inl (some (.int (zI (-2))))) h' := by
  refine gm_co_ofH _ (by decide +kernel) (List.cons_ne_nil _ _) (Nat.le_of_ble_eq_true rfl) rfl ?_
  refine gm_go.ru (gm_aload_n dL_type_0 rfl (by first | exact Or.inl ⟨_, rfl⟩ | exact Or.inr ⟨_, rfl⟩)) ?_
  refine gm_go.ru (gm_iload_n dL_type_1 rfl) ?_
  refine gm_go.ru (gm_catch_n (gm_runV (As := [.int (zI a)]) (rest := []) dL_type_2 hc mt_X10_type mv_X10_type (lk_L_122 rfl) (Or.inl ⟨_, 11, _, _, _, rfl, hB, rfl⟩) rfl (Nat.le_of_ble_eq_true rfl) hD) [⟨0, 5, 6, 13⟩] ⟨0, 5, 9, 15⟩ [] rfl (List.forall_mem_cons.mpr ⟨Or.inr ⟨by decide, _, lc_13, by decide +kernel⟩, fun z hz => absurd hz List.not_mem_nil⟩) (by decide) (by decide) lc_15 lt_15 dL_type_9 (Nat.le_of_ble_eq_true rfl)) ?_
  refine gm_go.ru (gi_bipush dL_type_10 (by decide +kernel)) ?_
  exact gm_iret dL_type_12 rfl
set_option maxRecDepth 4000 in
theorem lh_execute {h h' : gm_H} {n D : Nat} {hs ep fc : Int} (hB : h.1[n]? = some (by_c n hs ep fc)) (hD : D < 14) {r : Int} (hc : gm_co mX10_execute D [.ref n] h (.inl (some (.int (zI r)))) h') : gm_co mL_execute 14 [.ref n] h (.inl (some (.int (zI r)))) h' := by
  refine gm_co_ofH _ (by decide +kernel) (List.cons_ne_nil _ _) (Nat.le_of_ble_eq_true rfl) rfl ?_
  refine gm_go.ru (gm_aload_n dL_execute_0 rfl (by first | exact Or.inl ⟨_, rfl⟩ | exact Or.inr ⟨_, rfl⟩)) ?_
  refine gm_go.ru (gm_cV dL_execute_1 (hc) rfl mt_X10_execute mv_X10_execute (lk_L_126 rfl) (Or.inl ⟨_, 11, _, _, _, rfl, hB, rfl⟩) rfl (Nat.le_of_ble_eq_true rfl) hD) ?_
  exact gm_iret dL_execute_4 rfl
set_option maxRecDepth 4000 in
theorem lx_execute_1 {h h' : gm_H} {n D : Nat} {hs ep fc : Int} (hB : h.1[n]? = some (by_c n hs ep fc)) (hD : D < 14) (hc : gm_co mX10_execute D [.ref n] h (.inr "java/lang/IllegalArgumentException") h') : gm_co mL_execute 14 [.ref n] h (.inl (some (.int (zI (-1))))) h' := by
  refine gm_co_ofH _ (by decide +kernel) (List.cons_ne_nil _ _) (Nat.le_of_ble_eq_true rfl) rfl ?_
  refine gm_go.ru (gm_aload_n dL_execute_0 rfl (by first | exact Or.inl ⟨_, rfl⟩ | exact Or.inr ⟨_, rfl⟩)) ?_
  refine gm_go.ru (gm_catch_n (gm_runV (As := []) (rest := []) dL_execute_1 hc mt_X10_execute mv_X10_execute (lk_L_126 rfl) (Or.inl ⟨_, 11, _, _, _, rfl, hB, rfl⟩) rfl (Nat.le_of_ble_eq_true rfl) hD) [] ⟨0, 4, 5, 13⟩ [⟨0, 4, 8, 15⟩] rfl (fun z hz => absurd hz List.not_mem_nil) (by decide) (by decide) lc_13 lt_13 dL_execute_5 (Nat.le_of_ble_eq_true rfl)) ?_
  refine gm_go.ru (gi_const dL_execute_6) ?_
  exact gm_iret dL_execute_7 rfl
set_option maxRecDepth 4000 in
theorem lx_execute_2 {h h' : gm_H} {n D : Nat} {hs ep fc : Int} (hB : h.1[n]? = some (by_c n hs ep fc)) (hD : D < 14) (hc : gm_co mX10_execute D [.ref n] h (.inr "java/lang/IllegalStateException") h') : gm_co mL_execute 14 [.ref n] h (.inl (some (.int (zI (-2))))) h' := by
  refine gm_co_ofH _ (by decide +kernel) (List.cons_ne_nil _ _) (Nat.le_of_ble_eq_true rfl) rfl ?_
  refine gm_go.ru (gm_aload_n dL_execute_0 rfl (by first | exact Or.inl ⟨_, rfl⟩ | exact Or.inr ⟨_, rfl⟩)) ?_
  refine gm_go.ru (gm_catch_n (gm_runV (As := []) (rest := []) dL_execute_1 hc mt_X10_execute mv_X10_execute (lk_L_126 rfl) (Or.inl ⟨_, 11, _, _, _, rfl, hB, rfl⟩) rfl (Nat.le_of_ble_eq_true rfl) hD) [⟨0, 4, 5, 13⟩] ⟨0, 4, 8, 15⟩ [] rfl (List.forall_mem_cons.mpr ⟨Or.inr ⟨by decide, _, lc_13, by decide +kernel⟩, fun z hz => absurd hz List.not_mem_nil⟩) (by decide) (by decide) lc_15 lt_15 dL_execute_8 (Nat.le_of_ble_eq_true rfl)) ?_
  refine gm_go.ru (gi_bipush dL_execute_9 (by decide +kernel)) ?_
  exact gm_iret dL_execute_11 rfl
set_option maxRecDepth 4000 in
theorem lh_errorPosition {h h' : gm_H} {n D : Nat} {hs ep fc : Int} (hB : h.1[n]? = some (by_c n hs ep fc)) (hD : D < 14) {r : Int} (hc : gm_co mX10_errorPosition D [.ref n] h (.inl (some (.int (zI r)))) h') : gm_co mL_errorPosition 14 [.ref n] h (.inl (some (.int (zI r)))) h' := by
  refine gm_co_ofH _ (by decide +kernel) (List.cons_ne_nil _ _) (Nat.le_of_ble_eq_true rfl) rfl ?_
  refine gm_go.ru (gm_aload_n dL_errorPosition_0 rfl (by first | exact Or.inl ⟨_, rfl⟩ | exact Or.inr ⟨_, rfl⟩)) ?_
  refine gm_go.ru (gm_cV dL_errorPosition_1 (hc) rfl mt_X10_errorPosition mv_X10_errorPosition (lk_L_129 rfl) (Or.inl ⟨_, 11, _, _, _, rfl, hB, rfl⟩) rfl (Nat.le_of_ble_eq_true rfl) hD) ?_
  exact gm_iret dL_errorPosition_4 rfl
set_option maxRecDepth 4000 in
theorem lx_errorPosition_1 {h h' : gm_H} {n D : Nat} {hs ep fc : Int} (hB : h.1[n]? = some (by_c n hs ep fc)) (hD : D < 14) (hc : gm_co mX10_errorPosition D [.ref n] h (.inr "java/util/NoSuchElementException") h') : gm_co mL_errorPosition 14 [.ref n] h (.inl (some (.int (zI (-1))))) h' := by
  refine gm_co_ofH _ (by decide +kernel) (List.cons_ne_nil _ _) (Nat.le_of_ble_eq_true rfl) rfl ?_
  refine gm_go.ru (gm_aload_n dL_errorPosition_0 rfl (by first | exact Or.inl ⟨_, rfl⟩ | exact Or.inr ⟨_, rfl⟩)) ?_
  refine gm_go.ru (gm_catch_n (gm_runV (As := []) (rest := []) dL_errorPosition_1 hc mt_X10_errorPosition mv_X10_errorPosition (lk_L_129 rfl) (Or.inl ⟨_, 11, _, _, _, rfl, hB, rfl⟩) rfl (Nat.le_of_ble_eq_true rfl) hD) [] ⟨0, 4, 5, 57⟩ [] rfl (fun z hz => absurd hz List.not_mem_nil) (by decide) (by decide) lc_57 lt_57 dL_errorPosition_5 (Nat.le_of_ble_eq_true rfl)) ?_
  refine gm_go.ru (gi_const dL_errorPosition_6) ?_
  exact gm_iret dL_errorPosition_7 rfl
set_option maxRecDepth 4000 in
theorem lh_failedCommand {h h' : gm_H} {n D : Nat} {hs ep fc : Int} (hB : h.1[n]? = some (by_c n hs ep fc)) (hD : D < 14) {r : Int} (hc : gm_co mX10_failedCommand D [.ref n] h (.inl (some (.int (zI r)))) h') : gm_co mL_failedCommand 14 [.ref n] h (.inl (some (.int (zI r)))) h' := by
  refine gm_co_ofH _ (by decide +kernel) (List.cons_ne_nil _ _) (Nat.le_of_ble_eq_true rfl) rfl ?_
  refine gm_go.ru (gm_aload_n dL_failedCommand_0 rfl (by first | exact Or.inl ⟨_, rfl⟩ | exact Or.inr ⟨_, rfl⟩)) ?_
  refine gm_go.ru (gm_cV dL_failedCommand_1 (hc) rfl mt_X10_failedCommand mv_X10_failedCommand (lk_L_132 rfl) (Or.inl ⟨_, 11, _, _, _, rfl, hB, rfl⟩) rfl (Nat.le_of_ble_eq_true rfl) hD) ?_
  exact gm_iret dL_failedCommand_4 rfl
set_option maxRecDepth 4000 in
theorem lx_failedCommand_1 {h h' : gm_H} {n D : Nat} {hs ep fc : Int} (hB : h.1[n]? = some (by_c n hs ep fc)) (hD : D < 14) (hc : gm_co mX10_failedCommand D [.ref n] h (.inr "java/util/NoSuchElementException") h') : gm_co mL_failedCommand 14 [.ref n] h (.inl (some (.int (zI (-1))))) h' := by
  refine gm_co_ofH _ (by decide +kernel) (List.cons_ne_nil _ _) (Nat.le_of_ble_eq_true rfl) rfl ?_
  refine gm_go.ru (gm_aload_n dL_failedCommand_0 rfl (by first | exact Or.inl ⟨_, rfl⟩ | exact Or.inr ⟨_, rfl⟩)) ?_
  refine gm_go.ru (gm_catch_n (gm_runV (As := []) (rest := []) dL_failedCommand_1 hc mt_X10_failedCommand mv_X10_failedCommand (lk_L_132 rfl) (Or.inl ⟨_, 11, _, _, _, rfl, hB, rfl⟩) rfl (Nat.le_of_ble_eq_true rfl) hD) [] ⟨0, 4, 5, 57⟩ [] rfl (fun z hz => absurd hz List.not_mem_nil) (by decide) (by decide) lc_57 lt_57 dL_failedCommand_5 (Nat.le_of_ble_eq_true rfl)) ?_
  refine gm_go.ru (gi_const dL_failedCommand_6) ?_
  exact gm_iret dL_failedCommand_7 rfl
set_option maxRecDepth 4000 in
theorem lh_undo {h h' : gm_H} {n D : Nat} {hs ep fc : Int} (hB : h.1[n]? = some (by_c n hs ep fc)) (hD : D < 14) {r : Int} (hc : gm_co mX10_undo D [.ref n] h (.inl (some (.int (zI r)))) h') : gm_co mL_undo 14 [.ref n] h (.inl (some (.int (zI r)))) h' := by
  refine gm_co_ofH _ (by decide +kernel) (List.cons_ne_nil _ _) (Nat.le_of_ble_eq_true rfl) rfl ?_
  refine gm_go.ru (gm_aload_n dL_undo_0 rfl (by first | exact Or.inl ⟨_, rfl⟩ | exact Or.inr ⟨_, rfl⟩)) ?_
  refine gm_go.ru (gm_cV dL_undo_1 (hc) rfl mt_X10_undo mv_X10_undo (lk_L_135 rfl) (Or.inl ⟨_, 11, _, _, _, rfl, hB, rfl⟩) rfl (Nat.le_of_ble_eq_true rfl) hD) ?_
  exact gm_iret dL_undo_4 rfl
set_option maxRecDepth 4000 in
theorem lx_undo_1 {h h' : gm_H} {n D : Nat} {hs ep fc : Int} (hB : h.1[n]? = some (by_c n hs ep fc)) (hD : D < 14) (hc : gm_co mX10_undo D [.ref n] h (.inr "java/lang/IllegalStateException") h') : gm_co mL_undo 14 [.ref n] h (.inl (some (.int (zI (-1))))) h' := by
  refine gm_co_ofH _ (by decide +kernel) (List.cons_ne_nil _ _) (Nat.le_of_ble_eq_true rfl) rfl ?_
  refine gm_go.ru (gm_aload_n dL_undo_0 rfl (by first | exact Or.inl ⟨_, rfl⟩ | exact Or.inr ⟨_, rfl⟩)) ?_
  refine gm_go.ru (gm_catch_n (gm_runV (As := []) (rest := []) dL_undo_1 hc mt_X10_undo mv_X10_undo (lk_L_135 rfl) (Or.inl ⟨_, 11, _, _, _, rfl, hB, rfl⟩) rfl (Nat.le_of_ble_eq_true rfl) hD) [] ⟨0, 4, 5, 15⟩ [] rfl (fun z hz => absurd hz List.not_mem_nil) (by decide) (by decide) lc_15 lt_15 dL_undo_5 (Nat.le_of_ble_eq_true rfl)) ?_
  refine gm_go.ru (gi_const dL_undo_6) ?_
  exact gm_iret dL_undo_7 rfl
set_option maxRecDepth 4000 in
theorem lh_restore {h h' : gm_H} {n D : Nat} {hs ep fc : Int} (hB : h.1[n]? = some (by_c n hs ep fc)) (hD : D < 14) {r : Int} (hc : gm_co mX10_restore D [.ref n] h (.inl (some (.int (zI r)))) h') : gm_co mL_restore 14 [.ref n] h (.inl (some (.int (zI r)))) h' := by
  refine gm_co_ofH _ (by decide +kernel) (List.cons_ne_nil _ _) (Nat.le_of_ble_eq_true rfl) rfl ?_
  refine gm_go.ru (gm_aload_n dL_restore_0 rfl (by first | exact Or.inl ⟨_, rfl⟩ | exact Or.inr ⟨_, rfl⟩)) ?_
  refine gm_go.ru (gm_cV dL_restore_1 (hc) rfl mt_X10_restore mv_X10_restore (lk_L_138 rfl) (Or.inl ⟨_, 11, _, _, _, rfl, hB, rfl⟩) rfl (Nat.le_of_ble_eq_true rfl) hD) ?_
  exact gm_iret dL_restore_4 rfl
set_option maxRecDepth 4000 in
theorem lx_restore_1 {h h' : gm_H} {n D : Nat} {hs ep fc : Int} (hB : h.1[n]? = some (by_c n hs ep fc)) (hD : D < 14) (hc : gm_co mX10_restore D [.ref n] h (.inr "java/lang/IllegalStateException") h') : gm_co mL_restore 14 [.ref n] h (.inl (some (.int (zI (-1))))) h' := by
  refine gm_co_ofH _ (by decide +kernel) (List.cons_ne_nil _ _) (Nat.le_of_ble_eq_true rfl) rfl ?_
  refine gm_go.ru (gm_aload_n dL_restore_0 rfl (by first | exact Or.inl ⟨_, rfl⟩ | exact Or.inr ⟨_, rfl⟩)) ?_
  refine gm_go.ru (gm_catch_n (gm_runV (As := []) (rest := []) dL_restore_1 hc mt_X10_restore mv_X10_restore (lk_L_138 rfl) (Or.inl ⟨_, 11, _, _, _, rfl, hB, rfl⟩) rfl (Nat.le_of_ble_eq_true rfl) hD) [] ⟨0, 4, 5, 15⟩ [] rfl (fun z hz => absurd hz List.not_mem_nil) (by decide) (by decide) lc_15 lt_15 dL_restore_5 (Nat.le_of_ble_eq_true rfl)) ?_
  refine gm_go.ru (gi_const dL_restore_6) ?_
  exact gm_iret dL_restore_7 rfl
