/-! Orders: its two cells -/
def or_at (h : gm_H) (q : Nat) (F : Nat → Int) : Prop := h.1[q]? = some (.inr (6, [.ref (q + 1)])) ∧ h.1[q + 1]? = some (gA 128 F)
theorem or_fr {h h' : gm_H} {K : Nat → Prop} {q : Nat} {F : Nat → Int} (f : gh_fr h h' K) (h0 : ¬ K q) (h1 : ¬ K (q + 1)) (hN : or_at h q F) : or_at h' q F := ⟨gh_at f hN.1 h0, gh_at f hN.2 h1⟩
set_option maxRecDepth 4000 in
theorem ct_minutesOf {h : gm_H} {r T : Nat} {v : Nat → Int} (hN : ov_at h r v) (hv : ov_iv T v) {S : Nat} (hS : S < 256) : gm_co mX4_minutesOf 2 [.ref r, .int (zI S)] h (.inl (some (.int (zI (zMi v S (v 4).toNat))))) h := by
  refine gm_co_of _ (by decide +kernel) rfl (Nat.le_of_ble_eq_true rfl) rfl ?_
  obtain ⟨cn, hc, hc7⟩ := ov_cnt hv
  obtain ⟨h1, I, M, D, W, h2, h3, h4, h5, h6⟩ := id hN
  obtain ⟨q2, q3, q4, q5, q6, q7, q8, qT, qB⟩ := id hv
  have key : ∀ (m j : Nat), j + m = cn → gm_ru mX4_minutesOf 2 (4, [some (.ref r), some (.int (zI S)), some (.int (zI (zMi v S j))), some (.int (zI j))], [], h) (.inl (some (.int (zI (zMi v S cn))))) h := by
    intro m
    induction m with
    | zero =>
      intro j hj
      obtain rfl : j = cn := by omega
      refine gm_go.ru (gm_iload_n dX4_minutesOf_4 rfl) ?_
      refine gm_go.ru (gm_aload_n dX4_minutesOf_5 rfl (by first | exact Or.inl ⟨_, rfl⟩ | exact Or.inr ⟨_, rfl⟩)) ?_
      refine gm_go.ru (gm_get dX4_minutesOf_6 (fl_X4_15 rfl) h1 rfl) ?_
      refine gm_go.ru (gi_icmp_ge_t (tgt := 35) dX4_minutesOf_9 (by decide) (by omega) (by omega) (by omega)) ?_
      refine gm_go.ru (gm_iload_n dX4_minutesOf_35 rfl) ?_
      exact gm_iret dX4_minutesOf_36 rfl
    | succ m ih =>
      intro j hj
      have e := ih (j + 1) (by omega)
      rw [zMi] at e
      have ej := (h6 j (by omega)).2.1
      refine gm_go.ru (gm_iload_n dX4_minutesOf_4 rfl) ?_
      refine gm_go.ru (gm_aload_n dX4_minutesOf_5 rfl (by first | exact Or.inl ⟨_, rfl⟩ | exact Or.inr ⟨_, rfl⟩)) ?_
      refine gm_go.ru (gm_get dX4_minutesOf_6 (fl_X4_15 rfl) h1 rfl) ?_
      refine gm_go.ru (gi_icmp_ge_f 35 dX4_minutesOf_9 (by decide) (by omega) (by omega) (by omega)) ?_
      refine gm_go.ru (gm_iload_n dX4_minutesOf_12 rfl) ?_
      refine gm_go.ru (gm_iload_n dX4_minutesOf_13 rfl) ?_
      refine gm_go.ru (gm_cS dX4_minutesOf_14 (ct_holds (by omega) (by omega)) rfl mt_X10_holds ms_X10_holds (lk_X4_29 rfl) rfl (Nat.le_of_ble_eq_true rfl) (by decide)) ?_
      cases hb : S.testBit j
      ·
        rw [hb, if_neg (by decide), Int.add_zero] at e
        refine gm_go.ru (gi_if_eq_t (tgt := 29) dX4_minutesOf_17 (by decide) (by decide) rfl) ?_
        refine gm_go.ru (gi_iinc (ls' := [_, _, _, _]) dX4_minutesOf_29 rfl (by decide) rfl) ?_
        refine gm_go.ru (gm_goto (tgt := 4) dX4_minutesOf_32 (by decide)) ?_
        exact e
      ·
        rw [hb, if_pos rfl] at e
        refine gm_go.ru (gi_if_eq_f 29 dX4_minutesOf_17 (by decide) (by decide) (by decide)) ?_
        refine gm_go.ru (gm_iload_n dX4_minutesOf_20 rfl) ?_
        refine gm_go.ru (gm_aload_n dX4_minutesOf_21 rfl (by first | exact Or.inl ⟨_, rfl⟩ | exact Or.inr ⟨_, rfl⟩)) ?_
        refine gm_go.ru (gm_get dX4_minutesOf_22 (fl_X4_46 rfl) h1 rfl) ?_
        refine gm_go.ru (gm_iload_n dX4_minutesOf_25 rfl) ?_
        refine gm_go.ru (gi_ald dX4_minutesOf_26 h3 (by omega) (by omega) (by decide)) ?_
        rw [Int.toNat_natCast, ej]
        refine gm_go.ru (gi_add dX4_minutesOf_27) ?_
        refine gm_go.ru (gm_istore_n (ls' := [_, _, _, _]) dX4_minutesOf_28 (by decide) rfl) ?_
        refine gm_go.ru (gi_iinc (ls' := [_, _, _, _]) dX4_minutesOf_29 rfl (by decide) rfl) ?_
        refine gm_go.ru (gm_goto (tgt := 4) dX4_minutesOf_32 (by decide)) ?_
        exact e
  refine gm_go.ru (gi_const dX4_minutesOf_0) ?_
  refine gm_go.ru (gm_istore_n (ls' := [_, _, _, _]) dX4_minutesOf_1 (by decide) rfl) ?_
  refine gm_go.ru (gi_const dX4_minutesOf_2) ?_
  refine gm_go.ru (gm_istore_n (ls' := [_, _, _, _]) dX4_minutesOf_3 (by decide) rfl) ?_
  rw [hc, Int.toNat_natCast]
  exact key cn 0 (by omega)
set_option maxRecDepth 4000 in
theorem ct_beginningWith {h : gm_H} {r T : Nat} {v : Nat → Int} (hN : ov_at h r v) (hv : ov_iv T v) {q : Nat} {F : Nat → Int} (hO : or_at h q F) {S b : Nat} {s : Int} (hS : S < 128) (hb : b < 8) (hb4 : (b : Int) < v 4) (hs : 0 ≤ s ∧ s ≤ 1000000) : gm_co mX4_beginningWith 2 [.ref q, .ref r, .int (zI S), .int (zI b), .int (zI s)] h (.inl (some (.int (zI (zLt v b s + F (zC S b)))))) h := by
  refine gm_co_of _ (by decide +kernel) rfl (Nat.le_of_ble_eq_true rfl) rfl ?_
  obtain ⟨h1, I, M, D, W, h2, h3, h4, h5, h6⟩ := id hN
  obtain ⟨p1, p2⟩ := id hO
  have hl := zC_lt S (by omega) b hb
  refine gm_go.ru (gm_aload_n dX4_beginningWith_0 rfl (by first | exact Or.inl ⟨_, rfl⟩ | exact Or.inr ⟨_, rfl⟩)) ?_
  refine gm_go.ru (gm_iload_n dX4_beginningWith_1 rfl) ?_
  refine gm_go.ru (gm_iload dX4_beginningWith_2 rfl) ?_
  refine gm_go.ru (gm_cV dX4_beginningWith_4 (ct_latenessFrom hN hv hb4 hs) rfl mt_X5_latenessFrom mv_X5_latenessFrom (lk_X4_43 rfl) (Or.inl ⟨_, 7, _, _, _, rfl, h1, rfl⟩) rfl (Nat.le_of_ble_eq_true rfl) (by decide)) ?_
  refine gm_go.ru (gm_aload_n dX4_beginningWith_7 rfl (by first | exact Or.inl ⟨_, rfl⟩ | exact Or.inr ⟨_, rfl⟩)) ?_
  refine gm_go.ru (gm_get dX4_beginningWith_8 (fl_X4_9 rfl) p1 rfl) ?_
  refine gm_go.ru (gm_iload_n dX4_beginningWith_11 rfl) ?_
  refine gm_go.ru (gi_const dX4_beginningWith_12) ?_
  refine gm_go.ru (gm_iload_n dX4_beginningWith_13 rfl) ?_
  refine gm_go.ru (gi_shl1 dX4_beginningWith_14 (by omega)) ?_
  refine gm_go.ru (gi_const dX4_beginningWith_15) ?_
  refine gm_go.ru (gi_not dX4_beginningWith_16) ?_
  refine gm_go.ru (gi_clr dX4_beginningWith_17 (by omega) hb) ?_
  refine gm_go.ru (gi_ald dX4_beginningWith_18 p2 (by omega) (by omega) (by decide)) ?_
  refine gm_go.ru (gi_add dX4_beginningWith_19) ?_
  exact gm_iret dX4_beginningWith_20 rfl
