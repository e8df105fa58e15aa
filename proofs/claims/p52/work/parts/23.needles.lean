/-! what changes: the vector behind it -/
def nd_K (n : Nat) : Nat → Prop := fun k => n ≤ k ∧ k < n + 3
theorem nd_fr {h h' : gm_H} {K : Nat → Prop} {n : Nat} {v : Nat → Int} (f : gh_fr h h' K) (hK : ∀ k, nd_K n k → ¬ K k) (hN : nd_at h n v) : nd_at h' n v := by
  obtain ⟨h1, S, D, h2, h3, h4⟩ := hN
  exact ⟨gh_at f h1 (hK n ⟨by omega, by omega⟩), S, D, gh_at f h2 (hK _ ⟨by omega, by omega⟩), gh_at f h3 (hK _ ⟨by omega, by omega⟩), h4⟩
theorem zG_eq {v w : Nat → Int} : ∀ n, (∀ i, i < n → w (11 + 10 * i) = v (11 + 10 * i)) → zG w n = zG v n
  | 0, _ => rfl
  | n + 1, h => by rw [zG, zG, zG_eq n (fun i hi => h i (by omega)), h n (by omega)]
theorem zG_in (v : Nat → Int) {i : Nat} (hi : i < 8) : zG (zU v (11 + 10 * i) 1) 8 = zG v 8 ||| 2 ^ i := by
  apply Nat.eq_of_testBit_eq
  intro j
  rw [Nat.testBit_or, Nat.testBit_two_pow]
  by_cases hj : j < 8
  · rw [zG_bit _ 8 j hj, zG_bit _ 8 j hj]
    unfold zU
    by_cases e : i = j
    · subst e; simp
    · rw [if_neg (by omega)]; simp [e]
  · have h1 : ∀ w, (zG w 8).testBit j = false := fun w => Nat.testBit_lt_two_pow (Nat.lt_of_lt_of_le (zG_lt w 8) (Nat.pow_le_pow_right (by decide) (by omega)))
    rw [h1, h1]
    simp; omega
set_option maxRecDepth 4000 in
theorem ct_put {h : gm_H} {n i j : Nat} {k : Int} {v : Nat → Int} (hN : nd_at h n v) (hi : i < 8) (hj : j < 8) : ∃ h', gm_co mX3_put 2 [.ref n, .int (zI i), .int (zI j), .int (zI k)] h (.inl (some (.int (zI (v (12 + 10 * i + j)))))) h' ∧ nd_at h' n (zU v (12 + 10 * i + j) k) ∧ gh_fr h h' (nd_K n) := by
  obtain ⟨h1, S, D, h2, h3, h4, h5⟩ := id hN
  refine ⟨(h.1.set (n + 2) (gA 64 (zU D ((i : Int) * 8 + j).toNat k)), h.2), ?_, ⟨?_, S, _, gs_n h2 (by omega), gs_s h3, ?_, ?_⟩, gh_set gh_rf ⟨by omega, by omega⟩ _⟩
  · refine gm_co_of _ (by decide +kernel) rfl (Nat.le_of_ble_eq_true rfl) rfl ?_
    refine gm_go.ru (gm_aload_n dX3_put_0 rfl (by first | exact Or.inl ⟨_, rfl⟩ | exact Or.inr ⟨_, rfl⟩)) ?_
    refine gm_go.ru (gm_iload_n dX3_put_1 rfl) ?_
    refine gm_go.ru (gm_iload_n dX3_put_2 rfl) ?_
    refine gm_go.ru (gm_cV dX3_put_3 (ct_at hN hi hj) rfl mt_X3_at mv_X3_at (lk_X3_38 rfl) (Or.inl ⟨_, 5, _, _, _, rfl, (by assumption), rfl⟩) rfl (Nat.le_of_ble_eq_true rfl) (by decide)) ?_
    refine gm_go.ru (gm_istore (ls' := [_, _, _, _, _]) dX3_put_6 (by decide) rfl) ?_
    refine gm_go.ru (gm_aload_n dX3_put_8 rfl (by first | exact Or.inl ⟨_, rfl⟩ | exact Or.inr ⟨_, rfl⟩)) ?_
    refine gm_go.ru (gm_get dX3_put_9 (fl_X3_19 rfl) (by assumption) rfl) ?_
    refine gm_go.ru (gm_iload_n dX3_put_12 rfl) ?_
    refine gm_go.ru (gi_bipush dX3_put_13 (by decide +kernel)) ?_
    refine gm_go.ru (gi_mul dX3_put_15) ?_
    refine gm_go.ru (gm_iload_n dX3_put_16 rfl) ?_
    refine gm_go.ru (gi_add dX3_put_17) ?_
    refine gm_go.ru (gm_iload_n dX3_put_18 rfl) ?_
    refine gm_go.ru (gi_ast dX3_put_19 (by assumption) (by omega) (by omega) (by decide)) ?_
    refine gm_go.ru (gm_iload dX3_put_20 rfl) ?_
    exact gm_iret dX3_put_22 rfl
  · rw [zG_eq (v := v) 8 (fun a ha => by unfold zU; rw [if_neg (by omega)])]
    have e0 : zU v (12 + 10 * i + j) k 0 = v 0 := by unfold zU; rw [if_neg (by omega)]
    have e1 : zU v (12 + 10 * i + j) k 1 = v 1 := by unfold zU; rw [if_neg (by omega)]
    rw [e0, e1]
    exact gs_n h1 (by omega)
  · intro a ha
    rw [h4 a ha]
    unfold zU; rw [if_neg (by omega)]
  · intro a ha b hb
    unfold zU
    by_cases e : a = i ∧ b = j
    · rw [if_pos (by omega), if_pos (by omega)]
    · rw [if_neg (by omega), if_neg (by omega)]
      exact h5 a ha b hb
/-- the table of i, its first j deviations shifted by k -/
def zMv (v : Nat → Int) (i : Nat) (k : Int) (j : Nat) : Nat → Int := fun m => if 12 + 10 * i ≤ m ∧ m < 12 + 10 * i + j then v m + k else v m
theorem zMv_0 (v : Nat → Int) (i : Nat) (k : Int) : zMv v i k 0 = v := by funext m; unfold zMv; rw [if_neg (by omega)]
theorem zMv_s (v : Nat → Int) (i : Nat) (k : Int) (j : Nat) : zMv v i k (j + 1) = zU (zMv v i k j) (12 + 10 * i + j) (v (12 + 10 * i + j) + k) := by
  funext m
  unfold zMv zU
  by_cases e : m = 12 + 10 * i + j
  · subst e; rw [if_pos (by omega), if_pos rfl]
  · rw [if_neg e]
    by_cases c : 12 + 10 * i ≤ m ∧ m < 12 + 10 * i + j
    · rw [if_pos (by omega)]; exact (if_pos c).symm
    · rw [if_neg (by omega)]; exact (if_neg c).symm
theorem zMv_at (v : Nat → Int) (i : Nat) (k : Int) (j : Nat) : zMv v i k j (12 + 10 * i + j) = v (12 + 10 * i + j) := by unfold zMv; rw [if_neg (by omega)]
theorem nd_put {h : gm_H} {n i j : Nat} {k : Int} {v S D : Nat → Int} (h1 : h.1[n]? = some (.inr (5, [.int (zI (v 0)), .int (zI (v 1)), .int (zI (zG v 8 : Nat)), .ref (n + 1), .ref (n + 2)]))) (h2 : h.1[n + 1]? = some (gA 8 S)) (h3 : h.1[n + 2]? = some (gA 64 D)) (h4 : nd_S v S) (h5 : nd_D v D) (hi : i < 8) (hj : j < 8) {x : Nat} (hx : x = 8 * i + j) : nd_at (h.1.set (n + 2) (gA 64 (zU D x k)), h.2) n (zU v (12 + 10 * i + j) k) := by
  subst hx
  refine ⟨?_, S, _, gs_n h2 (by omega), gs_s h3, ?_, ?_⟩
  · rw [zG_eq (v := v) 8 (fun a ha => by unfold zU; rw [if_neg (by omega)])]
    have e0 : zU v (12 + 10 * i + j) k 0 = v 0 := by unfold zU; rw [if_neg (by omega)]
    have e1 : zU v (12 + 10 * i + j) k 1 = v 1 := by unfold zU; rw [if_neg (by omega)]
    rw [e0, e1]
    exact gs_n h1 (by omega)
  · intro a ha
    rw [h4 a ha]
    unfold zU; rw [if_neg (by omega)]
  · intro a ha b hb
    unfold zU
    by_cases e : a = i ∧ b = j
    · rw [if_pos (by omega), if_pos (by omega)]
    · rw [if_neg (by omega), if_neg (by omega)]
      exact h5 a ha b hb
set_option maxRecDepth 4000 in
theorem ct_move {h : gm_H} {n i : Nat} {k : Int} {v : Nat → Int} (hN : nd_at h n v) (hi : i < 8) : ∃ h', gm_co mX3_move 2 [.ref n, .int (zI i), .int (zI k)] h (.inl none) h' ∧ nd_at h' n (zMv v i k 8) ∧ gh_fr h h' (nd_K n) := by
  obtain ⟨f', hgo, g, rfl, hN', hF⟩ := gl_up (M := mX3_move) (d := 2) (fun j f => ∃ g, f = (2, [some (.ref n), some (.int (zI i)), some (.int (zI k)), some (.int (zI (j : Nat)))], [], g) ∧ nd_at g n (zMv v i k j) ∧ gh_fr h g (nd_K n)) 8 (by
    rintro j f hj ⟨g, rfl, hN, hF⟩
    obtain ⟨h1, S, D, h2, h3, h4, h5⟩ := id hN
    have hDj : D ((i : Int) * 8 + j).toNat = v (12 + 10 * i + j) := by rw [show ((i : Int) * 8 + j).toNat = 8 * i + j by omega, h5 i hi j hj, zMv_at]
    refine ⟨(2, [some (.ref n), some (.int (zI i)), some (.int (zI k)), some (.int (zI (j + 1 : Nat)))], [], (g.1.set (n + 2) (gA 64 (zU D ((i : Int) * 8 + j).toNat (v (12 + 10 * i + j) + k))), g.2)), ?_, _, rfl, ?_, gh_set hF ⟨by omega, by omega⟩ _⟩
    ·
      refine gm_go_tr (gm_iload_n dX3_move_2 rfl) ?_
      refine gm_go_tr (gi_bipush dX3_move_3 (by decide +kernel)) ?_
      refine gm_go_tr (gi_icmp_ge_f 29 dX3_move_5 (by decide) (by omega) (by omega) (by omega)) ?_
      refine gm_go_tr (gm_aload_n dX3_move_8 rfl (by first | exact Or.inl ⟨_, rfl⟩ | exact Or.inr ⟨_, rfl⟩)) ?_
      refine gm_go_tr (gm_get dX3_move_9 (fl_X3_19 rfl) (by assumption) rfl) ?_
      refine gm_go_tr (gm_iload_n dX3_move_12 rfl) ?_
      refine gm_go_tr (gi_bipush dX3_move_13 (by decide +kernel)) ?_
      refine gm_go_tr (gi_mul dX3_move_15) ?_
      refine gm_go_tr (gm_iload_n dX3_move_16 rfl) ?_
      refine gm_go_tr (gi_add dX3_move_17) ?_
      refine gm_go_tr (gm_dup2 dX3_move_18 rfl rfl) ?_
      refine gm_go_tr (gi_ald dX3_move_19 (by assumption) (by omega) (by omega) (by decide)) ?_
      rw [hDj]
      refine gm_go_tr (gm_iload_n dX3_move_20 rfl) ?_
      refine gm_go_tr (gi_add dX3_move_21) ?_
      refine gm_go_tr (gi_ast dX3_move_22 (by assumption) (by omega) (by omega) (by decide)) ?_
      refine gm_go_tr (gi_iinc (ls' := [_, _, _, _]) dX3_move_23 rfl (by decide) rfl) ?_
      exact gm_goto (tgt := 2) dX3_move_26 (by decide)
    · rw [zMv_s]
      exact nd_put h1 h2 h3 h4 h5 hi hj (by omega)
    ) 0 (2, [some (.ref n), some (.int (zI i)), some (.int (zI k)), some (.int (zI (0 : Nat)))], [], h) (by omega) ⟨h, rfl, by rw [zMv_0]; exact hN, gh_rf⟩
  refine ⟨g, ?_, hN', hF⟩
  refine gm_co_of _ (by decide +kernel) rfl (Nat.le_of_ble_eq_true rfl) rfl ?_

  refine gm_go.ru (gi_const dX3_move_0) ?_
  refine gm_go.ru (gm_istore_n (ls' := [_, _, _, _]) dX3_move_1 (by decide) rfl) ?_
  refine gm_go.ru hgo ?_
  refine gm_go.ru (gm_iload_n dX3_move_2 rfl) ?_
  refine gm_go.ru (gi_bipush dX3_move_3 (by decide +kernel)) ?_
  refine gm_go.ru (gi_icmp_ge_t (tgt := 29) dX3_move_5 (by decide) (by omega) (by omega) (by omega)) ?_
  exact gm_vret dX3_move_29 rfl
set_option maxRecDepth 4000 in
theorem ct_moveByBest {h : gm_H} {n i : Nat} {v : Nat → Int} (hN : nd_at h n v) (hv : nd_iv v) (hi : i < 8) : ∃ h', gm_co mX3_moveByBest 3 [.ref n, .int (zI i)] h (.inl (some (.int (zI (zSS v i))))) h' ∧ nd_at h' n (zMv v i (zSS v i) 8) ∧ gh_fr h h' (nd_K n) := by
  obtain ⟨h1, h2⟩ := id hN
  obtain ⟨h', hc, hN', hF⟩ := ct_move (k := zSS v i) hN hi
  refine ⟨h', ?_, hN', hF⟩
  refine gm_co_of _ (by decide +kernel) rfl (Nat.le_of_ble_eq_true rfl) rfl ?_
  refine gm_go.ru (gm_aload_n dX3_moveByBest_0 rfl (by first | exact Or.inl ⟨_, rfl⟩ | exact Or.inr ⟨_, rfl⟩)) ?_
  refine gm_go.ru (gm_iload_n dX3_moveByBest_1 rfl) ?_
  refine gm_go.ru (gm_cV dX3_moveByBest_2 (ct_shiftFromSum hN hv hi) rfl mt_X3_shiftFromSum mv_X3_shiftFromSum (lk_X3_78 rfl) (Or.inl ⟨_, 5, _, _, _, rfl, (by assumption), rfl⟩) rfl (Nat.le_of_ble_eq_true rfl) (by decide)) ?_
  refine gm_go.ru (gm_istore_n (ls' := [_, _, _]) dX3_moveByBest_5 (by decide) rfl) ?_
  refine gm_go.ru (gm_aload_n dX3_moveByBest_6 rfl (by first | exact Or.inl ⟨_, rfl⟩ | exact Or.inr ⟨_, rfl⟩)) ?_
  refine gm_go.ru (gm_iload_n dX3_moveByBest_7 rfl) ?_
  refine gm_go.ru (gm_iload_n dX3_moveByBest_8 rfl) ?_
  refine gm_go.ru (gm_cV0 dX3_moveByBest_9 (hc) rfl mt_X3_move mv_X3_move (lk_X3_85 rfl) (Or.inl ⟨_, 5, _, _, _, rfl, (by assumption), rfl⟩) rfl (Nat.le_of_ble_eq_true rfl) (by decide)) ?_
  refine gm_go.ru (gm_iload_n dX3_moveByBest_12 rfl) ?_
  exact gm_iret dX3_moveByBest_13 rfl
set_option maxRecDepth 4000 in
theorem ct_throwOut {h : gm_H} {n i : Nat} {v : Nat → Int} (hN : nd_at h n v) (hi : i < 8) : ∃ h', gm_co mX3_throwOut 2 [.ref n, .int (zI i)] h (.inl (some (.int (zI ((zPC (zG (zU v (11 + 10 * i) 1) 8) : Nat) : Int))))) h' ∧ nd_at h' n (zU v (11 + 10 * i) 1) ∧ gh_fr h h' (nd_K n) := by
  obtain ⟨h1, S, D, h2, h3, h4, h5⟩ := id hN
  have e0 : zU v (11 + 10 * i) 1 0 = v 0 := by unfold zU; rw [if_neg (by omega)]
  have e1 : zU v (11 + 10 * i) 1 1 = v 1 := by unfold zU; rw [if_neg (by omega)]
  have eG := zG_in v hi
  have hGl := zG_lt (zU v (11 + 10 * i) 1) 8
  have hn : (h.1.set n (.inr (5, [.int (zI (v 0)), .int (zI (v 1)), .int (zI ((zG v 8 ||| 2 ^ i : Nat) : Int)), .ref (n + 1), .ref (n + 2)])), h.2).1[n]? = some (.inr (5, [.int (zI (v 0)), .int (zI (v 1)), .int (zI ((zG v 8 ||| 2 ^ i : Nat) : Int)), .ref (n + 1), .ref (n + 2)])) := gs_s h1
  refine ⟨(h.1.set n (.inr (5, [.int (zI (v 0)), .int (zI (v 1)), .int (zI ((zG v 8 ||| 2 ^ i : Nat) : Int)), .ref (n + 1), .ref (n + 2)])), h.2), ?_, ⟨?_, S, D, gs_n h2 (by omega), gs_n h3 (by omega), ?_, ?_⟩, gh_set gh_rf ⟨by omega, by omega⟩ _⟩
  · refine gm_co_of _ (by decide +kernel) rfl (Nat.le_of_ble_eq_true rfl) rfl ?_
    refine gm_go.ru (gm_aload_n dX3_throwOut_0 rfl (by first | exact Or.inl ⟨_, rfl⟩ | exact Or.inr ⟨_, rfl⟩)) ?_
    refine gm_go.ru (gm_dup dX3_throwOut_1 rfl) ?_
    refine gm_go.ru (gm_get dX3_throwOut_2 (fl_X3_25 rfl) (by assumption) rfl) ?_
    refine gm_go.ru (gi_const dX3_throwOut_5) ?_
    refine gm_go.ru (gm_iload_n dX3_throwOut_6 rfl) ?_
    refine gm_go.ru (gi_shl1 dX3_throwOut_7 (by omega)) ?_
    refine gm_go.ru (gi_or dX3_throwOut_8) ?_
    refine gm_go.ru (gm_put dX3_throwOut_9 (fp_X3_25 rfl) (by assumption) (Nat.le_of_ble_eq_true rfl) (by first | exact ⟨rfl, rfl⟩ | exact trivial)) ?_
    refine gm_go.ru (gm_aload_n dX3_throwOut_12 rfl (by first | exact Or.inl ⟨_, rfl⟩ | exact Or.inr ⟨_, rfl⟩)) ?_
    refine gm_go.ru (gm_get dX3_throwOut_13 (fl_X3_25 rfl) hn rfl) ?_
    refine gm_go.ru (gm_cS dX3_throwOut_16 (ct_bitCount (n := zG v 8 ||| 2 ^ i) (by rw [← eG]; exact hGl)) rfl mt_J6_bitCount_0f7a4 ms_J6_bitCount_0f7a4 (lk_X3_89 rfl) rfl (Nat.le_of_ble_eq_true rfl) (by decide)) ?_
    rw [eG]; exact gm_iret dX3_throwOut_19 rfl
  · rw [e0, e1, eG]; exact hn
  · intro a ha; rw [h4 a ha]; unfold zU; rw [if_neg (by omega)]
  · intro a ha b hb; rw [h5 a ha b hb]; unfold zU; rw [if_neg (by omega)]
def zAdd (v : Nat → Int) (s : Int) : Nat → Int := zU (zU v (10 + 10 * (v 0).toNat) s) 0 (v 0 + 1)
theorem zAdd_at (v : Nat → Int) (s : Int) (m : Nat) : zAdd v s m = if m = 0 then v 0 + 1 else if m = 10 + 10 * (v 0).toNat then s else v m := rfl
theorem nd_iv0 {v : Nat → Int} (hv : nd_iv v) : ∃ c : Nat, v 0 = (c : Int) ∧ c ≤ 8 := nd_cnt hv
set_option maxRecDepth 4000 in
theorem ct_add {h : gm_H} {n : Nat} {s : Int} {v : Nat → Int} (hN : nd_at h n v) (hv : nd_iv v) (h8 : v 0 < 8) : ∃ h', gm_co mX3_add 2 [.ref n, .int (zI s)] h (.inl (some (.int (zI (v 0))))) h' ∧ nd_at h' n (zAdd v s) ∧ gh_fr h h' (nd_K n) := by
  obtain ⟨cn, hc, hc8⟩ := nd_cnt hv
  obtain ⟨h1, S, D0, h2, h3, h4, h5⟩ := id hN
  have hz : ∀ b, b < 8 → v (12 + 10 * cn + b) = 0 := fun b hb => by have := hv.2.2.2.2.2 cn (by omega) (by omega) (b + 2) (by omega); rw [show 12 + 10 * cn + b = 10 + 10 * cn + (b + 2) by omega]; exact this
  rw [hc] at h1
  obtain ⟨f', hgo, g, rfl, g1, g2, D, g3, g5, hF⟩ := gl_up (M := mX3_add) (d := 2) (fun j f => ∃ g, f = (12, [some (.ref n), some (.int (zI s)), some (.int (zI (j : Nat)))], [], g) ∧ g.1[n]? = some (.inr (5, [.int (zI (cn : Int)), .int (zI (v 1)), .int (zI (zG v 8 : Nat)), .ref (n + 1), .ref (n + 2)])) ∧ g.1[n + 1]? = some (gA 8 (zU S cn s)) ∧ ∃ D, g.1[n + 2]? = some (gA 64 D) ∧ nd_D v D ∧ gh_fr h g (nd_K n)) 8 (by
    rintro j f hj ⟨g, rfl, g1, g2, D, g3, h5, hF⟩
    refine ⟨(12, [some (.ref n), some (.int (zI s)), some (.int (zI (j + 1 : Nat)))], [], (g.1.set (n + 2) (gA 64 (zU D ((cn : Int) * 8 + j).toNat 0)), g.2)), ?_, _, rfl, gs_n g1 (by omega), gs_n g2 (by omega), _, gs_s g3, ?_, gh_set hF ⟨by omega, by omega⟩ _⟩
    ·
      refine gm_go_tr (gm_iload_n dX3_add_12 rfl) ?_
      refine gm_go_tr (gi_bipush dX3_add_13 (by decide +kernel)) ?_
      refine gm_go_tr (gi_icmp_ge_f 39 dX3_add_15 (by decide) (by omega) (by omega) (by omega)) ?_
      refine gm_go_tr (gm_aload_n dX3_add_18 rfl (by first | exact Or.inl ⟨_, rfl⟩ | exact Or.inr ⟨_, rfl⟩)) ?_
      refine gm_go_tr (gm_get dX3_add_19 (fl_X3_19 rfl) (by assumption) rfl) ?_
      refine gm_go_tr (gm_aload_n dX3_add_22 rfl (by first | exact Or.inl ⟨_, rfl⟩ | exact Or.inr ⟨_, rfl⟩)) ?_
      refine gm_go_tr (gm_get dX3_add_23 (fl_X3_22 rfl) (by assumption) rfl) ?_
      refine gm_go_tr (gi_bipush dX3_add_26 (by decide +kernel)) ?_
      refine gm_go_tr (gi_mul dX3_add_28) ?_
      refine gm_go_tr (gm_iload_n dX3_add_29 rfl) ?_
      refine gm_go_tr (gi_add dX3_add_30) ?_
      refine gm_go_tr (gi_const dX3_add_31) ?_
      refine gm_go_tr (gi_ast dX3_add_32 (by assumption) (by omega) (by omega) (by decide)) ?_
      refine gm_go_tr (gi_iinc (ls' := [_, _, _]) dX3_add_33 rfl (by decide) rfl) ?_
      exact gm_goto (tgt := 12) dX3_add_36 (by decide)
    · intro a ha b hb
      unfold zU
      by_cases e : a = cn ∧ b = j
      · rw [if_pos (by omega), e.1]; exact (hz b hb).symm
      · rw [if_neg (by omega)]; exact h5 a ha b hb
    ) 0 (12, [some (.ref n), some (.int (zI s)), some (.int (zI (0 : Nat)))], [], (h.1.set (n + 1) (gA 8 (zU S (cn : Int).toNat s)), h.2)) (by omega) ⟨_, rfl, gs_n h1 (by omega), by rw [Int.toNat_natCast]; exact gs_s h2, D0, gs_n h3 (by omega), h5, gh_set gh_rf ⟨by omega, by omega⟩ _⟩
  have hn : (g.1.set n (.inr (5, [.int (zI ((cn : Int) + 1)), .int (zI (v 1)), .int (zI (zG v 8 : Nat)), .ref (n + 1), .ref (n + 2)])), g.2).1[n]? = some (.inr (5, [.int (zI ((cn : Int) + 1)), .int (zI (v 1)), .int (zI (zG v 8 : Nat)), .ref (n + 1), .ref (n + 2)])) := gs_s g1
  refine ⟨(g.1.set n (.inr (5, [.int (zI ((cn : Int) + 1)), .int (zI (v 1)), .int (zI (zG v 8 : Nat)), .ref (n + 1), .ref (n + 2)])), g.2), ?_, ⟨?_, _, D, gs_n g2 (by omega), gs_n g3 (by omega), ?_, ?_⟩, gh_set hF ⟨by omega, by omega⟩ _⟩
  · refine gm_co_of _ (by decide +kernel) rfl (Nat.le_of_ble_eq_true rfl) rfl ?_
    refine gm_go.ru (gm_aload_n dX3_add_0 rfl (by first | exact Or.inl ⟨_, rfl⟩ | exact Or.inr ⟨_, rfl⟩)) ?_
    refine gm_go.ru (gm_get dX3_add_1 (fl_X3_15 rfl) (by assumption) rfl) ?_
    refine gm_go.ru (gm_aload_n dX3_add_4 rfl (by first | exact Or.inl ⟨_, rfl⟩ | exact Or.inr ⟨_, rfl⟩)) ?_
    refine gm_go.ru (gm_get dX3_add_5 (fl_X3_22 rfl) (by assumption) rfl) ?_
    refine gm_go.ru (gm_iload_n dX3_add_8 rfl) ?_
    refine gm_go.ru (gi_ast dX3_add_9 (by assumption) (by omega) (by omega) (by decide)) ?_
    refine gm_go.ru (gi_const dX3_add_10) ?_
    refine gm_go.ru (gm_istore_n (ls' := [_, _, _]) dX3_add_11 (by decide) rfl) ?_
    refine gm_go.ru hgo ?_
    refine gm_go.ru (gm_iload_n dX3_add_12 rfl) ?_
    refine gm_go.ru (gi_bipush dX3_add_13 (by decide +kernel)) ?_
    refine gm_go.ru (gi_icmp_ge_t (tgt := 39) dX3_add_15 (by decide) (by omega) (by omega) (by omega)) ?_
    refine gm_go.ru (gm_aload_n dX3_add_39 rfl (by first | exact Or.inl ⟨_, rfl⟩ | exact Or.inr ⟨_, rfl⟩)) ?_
    refine gm_go.ru (gm_dup dX3_add_40 rfl) ?_
    refine gm_go.ru (gm_get dX3_add_41 (fl_X3_22 rfl) (by assumption) rfl) ?_
    refine gm_go.ru (gi_const dX3_add_44) ?_
    refine gm_go.ru (gi_add dX3_add_45) ?_
    refine gm_go.ru (gm_put dX3_add_46 (fp_X3_22 rfl) (by assumption) (Nat.le_of_ble_eq_true rfl) (by first | exact ⟨rfl, rfl⟩ | exact trivial)) ?_
    refine gm_go.ru (gm_aload_n dX3_add_49 rfl (by first | exact Or.inl ⟨_, rfl⟩ | exact Or.inr ⟨_, rfl⟩)) ?_
    refine gm_go.ru (gm_get dX3_add_50 (fl_X3_22 rfl) hn rfl) ?_
    refine gm_go.ru (gi_const dX3_add_53) ?_
    refine gm_go.ru (gi_sub dX3_add_54) ?_
    exact gm_iret' dX3_add_55 rfl (congrArg zI (by omega)) rfl
  · rw [zG_eq (v := v) (w := zAdd v s) 8 (fun a ha => by rw [zAdd_at, if_neg (by omega), if_neg (by omega)])]
    rw [zAdd_at, zAdd_at, if_pos rfl, if_neg (by omega), if_neg (by omega), hc]
    exact hn
  · intro a ha
    rw [zAdd_at, if_neg (by omega), hc, Int.toNat_natCast]
    by_cases e : a = cn
    · subst e; rw [if_pos rfl]; exact zU_s
    · rw [if_neg (by omega), zU_n e]
      exact h4 a ha
  · intro a ha b hb
    rw [g5 a ha b hb, zAdd_at, if_neg (by omega), hc, Int.toNat_natCast, if_neg (by omega)]
set_option maxRecDepth 4000 in
theorem ct_ndcopy {h : gm_H} {n m : Nat} {v u : Nat → Int} (hN : nd_at h n v) (hM : nd_at h m u) (hd : n + 3 ≤ m ∨ m + 3 ≤ n) : ∃ h', gm_co mX3_copyFrom 1 [.ref n, .ref m] h (.inl none) h' ∧ nd_at h' n u ∧ gh_fr h h' (nd_K n) := by
  obtain ⟨h1, S, D, h2, h3, h4, h5⟩ := id hN
  obtain ⟨k1, T, E, k2, k3, k4, k5⟩ := id hM
  obtain ⟨a1, ha1⟩ : ∃ x : gm_H, x = (h.1.set n (.inr (5, [.int (zI (u 0)), .int (zI (v 1)), .int (zI (zG v 8 : Nat)), .ref (n + 1), .ref (n + 2)])), h.2) := ⟨_, rfl⟩
  obtain ⟨a2, ha2⟩ : ∃ x : gm_H, x = (a1.1.set n (.inr (5, [.int (zI (u 0)), .int (zI (u 1)), .int (zI (zG v 8 : Nat)), .ref (n + 1), .ref (n + 2)])), a1.2) := ⟨_, rfl⟩
  obtain ⟨a3, ha3⟩ : ∃ x : gm_H, x = (a2.1.set n (.inr (5, [.int (zI (u 0)), .int (zI (u 1)), .int (zI (zG u 8 : Nat)), .ref (n + 1), .ref (n + 2)])), a2.2) := ⟨_, rfl⟩
  obtain ⟨a4, ha4⟩ : ∃ x : gm_H, x = (a3.1.set (n + 1) (gA 8 (zCp T S 8)), a3.2) := ⟨_, rfl⟩
  obtain ⟨a5, ha5⟩ : ∃ x : gm_H, x = (a4.1.set (n + 2) (gA 64 (zCp E D 64)), a4.2) := ⟨_, rfl⟩
  have fn_1 := gs_s (c' := (.inr (5, [.int (zI (u 0)), .int (zI (v 1)), .int (zI (zG v 8 : Nat)), .ref (n + 1), .ref (n + 2)]))) h1
  have fn1_1 := gs_n (c' := (.inr (5, [.int (zI (u 0)), .int (zI (v 1)), .int (zI (zG v 8 : Nat)), .ref (n + 1), .ref (n + 2)]))) h2 (show n ≠ n + 1 by omega)
  have fn2_1 := gs_n (c' := (.inr (5, [.int (zI (u 0)), .int (zI (v 1)), .int (zI (zG v 8 : Nat)), .ref (n + 1), .ref (n + 2)]))) h3 (show n ≠ n + 2 by omega)
  have fm_1 := gs_n (c' := (.inr (5, [.int (zI (u 0)), .int (zI (v 1)), .int (zI (zG v 8 : Nat)), .ref (n + 1), .ref (n + 2)]))) k1 (show n ≠ m by omega)
  have fm1_1 := gs_n (c' := (.inr (5, [.int (zI (u 0)), .int (zI (v 1)), .int (zI (zG v 8 : Nat)), .ref (n + 1), .ref (n + 2)]))) k2 (show n ≠ m + 1 by omega)
  have fm2_1 := gs_n (c' := (.inr (5, [.int (zI (u 0)), .int (zI (v 1)), .int (zI (zG v 8 : Nat)), .ref (n + 1), .ref (n + 2)]))) k3 (show n ≠ m + 2 by omega)
  rw [← ha1] at fn_1 fn1_1 fn2_1 fm_1 fm1_1 fm2_1
  have fn_2 := gs_s (c' := (.inr (5, [.int (zI (u 0)), .int (zI (u 1)), .int (zI (zG v 8 : Nat)), .ref (n + 1), .ref (n + 2)]))) fn_1
  have fn1_2 := gs_n (c' := (.inr (5, [.int (zI (u 0)), .int (zI (u 1)), .int (zI (zG v 8 : Nat)), .ref (n + 1), .ref (n + 2)]))) fn1_1 (show n ≠ n + 1 by omega)
  have fn2_2 := gs_n (c' := (.inr (5, [.int (zI (u 0)), .int (zI (u 1)), .int (zI (zG v 8 : Nat)), .ref (n + 1), .ref (n + 2)]))) fn2_1 (show n ≠ n + 2 by omega)
  have fm_2 := gs_n (c' := (.inr (5, [.int (zI (u 0)), .int (zI (u 1)), .int (zI (zG v 8 : Nat)), .ref (n + 1), .ref (n + 2)]))) fm_1 (show n ≠ m by omega)
  have fm1_2 := gs_n (c' := (.inr (5, [.int (zI (u 0)), .int (zI (u 1)), .int (zI (zG v 8 : Nat)), .ref (n + 1), .ref (n + 2)]))) fm1_1 (show n ≠ m + 1 by omega)
  have fm2_2 := gs_n (c' := (.inr (5, [.int (zI (u 0)), .int (zI (u 1)), .int (zI (zG v 8 : Nat)), .ref (n + 1), .ref (n + 2)]))) fm2_1 (show n ≠ m + 2 by omega)
  rw [← ha2] at fn_2 fn1_2 fn2_2 fm_2 fm1_2 fm2_2
  have fn_3 := gs_s (c' := (.inr (5, [.int (zI (u 0)), .int (zI (u 1)), .int (zI (zG u 8 : Nat)), .ref (n + 1), .ref (n + 2)]))) fn_2
  have fn1_3 := gs_n (c' := (.inr (5, [.int (zI (u 0)), .int (zI (u 1)), .int (zI (zG u 8 : Nat)), .ref (n + 1), .ref (n + 2)]))) fn1_2 (show n ≠ n + 1 by omega)
  have fn2_3 := gs_n (c' := (.inr (5, [.int (zI (u 0)), .int (zI (u 1)), .int (zI (zG u 8 : Nat)), .ref (n + 1), .ref (n + 2)]))) fn2_2 (show n ≠ n + 2 by omega)
  have fm_3 := gs_n (c' := (.inr (5, [.int (zI (u 0)), .int (zI (u 1)), .int (zI (zG u 8 : Nat)), .ref (n + 1), .ref (n + 2)]))) fm_2 (show n ≠ m by omega)
  have fm1_3 := gs_n (c' := (.inr (5, [.int (zI (u 0)), .int (zI (u 1)), .int (zI (zG u 8 : Nat)), .ref (n + 1), .ref (n + 2)]))) fm1_2 (show n ≠ m + 1 by omega)
  have fm2_3 := gs_n (c' := (.inr (5, [.int (zI (u 0)), .int (zI (u 1)), .int (zI (zG u 8 : Nat)), .ref (n + 1), .ref (n + 2)]))) fm2_2 (show n ≠ m + 2 by omega)
  rw [← ha3] at fn_3 fn1_3 fn2_3 fm_3 fm1_3 fm2_3
  have fn_4 := gs_n (c' := (gA 8 (zCp T S 8))) fn_3 (show n + 1 ≠ n by omega)
  have fn1_4 := gs_s (c' := (gA 8 (zCp T S 8))) fn1_3
  have fn2_4 := gs_n (c' := (gA 8 (zCp T S 8))) fn2_3 (show n + 1 ≠ n + 2 by omega)
  have fm_4 := gs_n (c' := (gA 8 (zCp T S 8))) fm_3 (show n + 1 ≠ m by omega)
  have fm1_4 := gs_n (c' := (gA 8 (zCp T S 8))) fm1_3 (show n + 1 ≠ m + 1 by omega)
  have fm2_4 := gs_n (c' := (gA 8 (zCp T S 8))) fm2_3 (show n + 1 ≠ m + 2 by omega)
  rw [← ha4] at fn_4 fn1_4 fn2_4 fm_4 fm1_4 fm2_4
  have fn_5 := gs_n (c' := (gA 64 (zCp E D 64))) fn_4 (show n + 2 ≠ n by omega)
  have fn1_5 := gs_n (c' := (gA 64 (zCp E D 64))) fn1_4 (show n + 2 ≠ n + 1 by omega)
  have fn2_5 := gs_s (c' := (gA 64 (zCp E D 64))) fn2_4
  have fm_5 := gs_n (c' := (gA 64 (zCp E D 64))) fm_4 (show n + 2 ≠ m by omega)
  have fm1_5 := gs_n (c' := (gA 64 (zCp E D 64))) fm1_4 (show n + 2 ≠ m + 1 by omega)
  have fm2_5 := gs_n (c' := (gA 64 (zCp E D 64))) fm2_4 (show n + 2 ≠ m + 2 by omega)
  rw [← ha5] at fn_5 fn1_5 fn2_5 fm_5 fm1_5 fm2_5
  refine ⟨a5, ?_, ⟨fn_5, _, _, fn1_5, fn2_5, ?_, ?_⟩, ?_⟩
  · refine gm_co_of _ (by decide +kernel) rfl (Nat.le_of_ble_eq_true rfl) rfl ?_
    refine gm_go.ru (gm_aload_n dX3_copyFrom_0 rfl (by first | exact Or.inl ⟨_, rfl⟩ | exact Or.inr ⟨_, rfl⟩)) ?_
    refine gm_go.ru (gm_aload_n dX3_copyFrom_1 rfl (by first | exact Or.inl ⟨_, rfl⟩ | exact Or.inr ⟨_, rfl⟩)) ?_
    refine gm_go.ru (gm_get dX3_copyFrom_2 (fl_X3_22 rfl) (by assumption) rfl) ?_
    refine gm_go.ru (gm_put dX3_copyFrom_5 (fp_X3_22 rfl) (by assumption) (Nat.le_of_ble_eq_true rfl) (by first | exact ⟨rfl, rfl⟩ | exact trivial)) ?_
    simp only [List.set]; rw [← ha1]
    refine gm_go.ru (gm_aload_n dX3_copyFrom_8 rfl (by first | exact Or.inl ⟨_, rfl⟩ | exact Or.inr ⟨_, rfl⟩)) ?_
    refine gm_go.ru (gm_aload_n dX3_copyFrom_9 rfl (by first | exact Or.inl ⟨_, rfl⟩ | exact Or.inr ⟨_, rfl⟩)) ?_
    refine gm_go.ru (gm_get dX3_copyFrom_10 (fl_X3_9 rfl) (by assumption) rfl) ?_
    refine gm_go.ru (gm_put dX3_copyFrom_13 (fp_X3_9 rfl) (by assumption) (Nat.le_of_ble_eq_true rfl) (by first | exact ⟨rfl, rfl⟩ | exact trivial)) ?_
    simp only [List.set]; rw [← ha2]
    refine gm_go.ru (gm_aload_n dX3_copyFrom_16 rfl (by first | exact Or.inl ⟨_, rfl⟩ | exact Or.inr ⟨_, rfl⟩)) ?_
    refine gm_go.ru (gm_aload_n dX3_copyFrom_17 rfl (by first | exact Or.inl ⟨_, rfl⟩ | exact Or.inr ⟨_, rfl⟩)) ?_
    refine gm_go.ru (gm_get dX3_copyFrom_18 (fl_X3_25 rfl) (by assumption) rfl) ?_
    refine gm_go.ru (gm_put dX3_copyFrom_21 (fp_X3_25 rfl) (by assumption) (Nat.le_of_ble_eq_true rfl) (by first | exact ⟨rfl, rfl⟩ | exact trivial)) ?_
    simp only [List.set]; rw [← ha3]
    refine gm_go.ru (gm_aload_n dX3_copyFrom_24 rfl (by first | exact Or.inl ⟨_, rfl⟩ | exact Or.inr ⟨_, rfl⟩)) ?_
    refine gm_go.ru (gm_get dX3_copyFrom_25 (fl_X3_15 rfl) (by assumption) rfl) ?_
    refine gm_go.ru (gi_const dX3_copyFrom_28) ?_
    refine gm_go.ru (gm_aload_n dX3_copyFrom_29 rfl (by first | exact Or.inl ⟨_, rfl⟩ | exact Or.inr ⟨_, rfl⟩)) ?_
    refine gm_go.ru (gm_get dX3_copyFrom_30 (fl_X3_15 rfl) (by assumption) rfl) ?_
    refine gm_go.ru (gi_const dX3_copyFrom_33) ?_
    refine gm_go.ru (gi_bipush dX3_copyFrom_34 (by decide +kernel)) ?_
    refine gm_go.ru (gi_copy (n := 8) dX3_copyFrom_36 (cp_X3_28 rfl) fm1_3 fn1_3 (by decide) (by decide) (by decide) (Nat.le_of_ble_eq_true rfl) (by decide)) ?_
    rw [← ha4]
    refine gm_go.ru (gm_aload_n dX3_copyFrom_39 rfl (by first | exact Or.inl ⟨_, rfl⟩ | exact Or.inr ⟨_, rfl⟩)) ?_
    refine gm_go.ru (gm_get dX3_copyFrom_40 (fl_X3_19 rfl) (by assumption) rfl) ?_
    refine gm_go.ru (gi_const dX3_copyFrom_43) ?_
    refine gm_go.ru (gm_aload_n dX3_copyFrom_44 rfl (by first | exact Or.inl ⟨_, rfl⟩ | exact Or.inr ⟨_, rfl⟩)) ?_
    refine gm_go.ru (gm_get dX3_copyFrom_45 (fl_X3_19 rfl) (by assumption) rfl) ?_
    refine gm_go.ru (gi_const dX3_copyFrom_48) ?_
    refine gm_go.ru (gi_bipush dX3_copyFrom_49 (by decide +kernel)) ?_
    refine gm_go.ru (gi_copy (n := 64) dX3_copyFrom_51 (cp_X3_28 rfl) fm2_4 fn2_4 (by decide) (by decide) (by decide) (Nat.le_of_ble_eq_true rfl) (by decide)) ?_
    rw [← ha5]
    exact gm_vret dX3_copyFrom_54 rfl
  · intro a ha; rw [← k4 a ha]; unfold zCp; rw [if_pos (by omega)]
  · intro a ha b hb; rw [← k5 a ha b hb]; unfold zCp; rw [if_pos (by omega)]
  · subst ha5; subst ha4; subst ha3; subst ha2; subst ha1
    exact gh_set (gh_set (gh_set (gh_set (gh_set gh_rf ⟨by omega, by omega⟩ _) ⟨by omega, by omega⟩ _) ⟨by omega, by omega⟩ _) ⟨by omega, by omega⟩ _) ⟨by omega, by omega⟩ _
