set_option maxRecDepth 4000 in
theorem ct_strengthOfX {h : gm_H} {n : Nat} {v : Nat → Int} {hs ep fc : Int} (hB : h.1[n]? = some (by_c n hs ep fc)) (hS : st_at h (n + 1) v) {i : Int} (hv : nd_iv v) (hi : zR i) (hq : ¬ (0 ≤ i ∧ i < v 0)) : gm_co mX10_strengthOf 10 [.ref n, .int (zI i)] h (.inr "java/lang/IndexOutOfBoundsException") (zTh h) := by
  refine gm_co_of _ (by decide +kernel) rfl (Nat.le_of_ble_eq_true rfl) rfl ?_
  refine gm_go.ru (gm_aload_n dX10_strengthOf_0 rfl (by first | exact Or.inl ⟨_, rfl⟩ | exact Or.inr ⟨_, rfl⟩)) ?_
  refine gm_go.ru (gm_iload_n dX10_strengthOf_1 rfl) ?_
  exact gm_pV dX10_strengthOf_2 (ct_needNeedleX hB hS hv hi hq) rfl rfl mt_X10_needNeedle mv_X10_needNeedle (lk_X10_99 rfl) (Or.inl ⟨_, 11, _, _, _, rfl, hB, rfl⟩) rfl (Nat.le_of_ble_eq_true rfl) (by decide)
set_option maxRecDepth 4000 in
theorem ct_strengthOf {h : gm_H} {n : Nat} {v : Nat → Int} {hs ep fc : Int} (hB : h.1[n]? = some (by_c n hs ep fc)) (hS : st_at h (n + 1) v) {i : Int} (hv : nd_iv v) (hi : zR i) (hq : 0 ≤ i ∧ i < v 0) : gm_co mX10_strengthOf 10 [.ref n, .int (zI i)] h (.inl (some (.int (zI (v (10 + 10 * i.toNat)))))) h := by
  refine gm_co_of _ (by decide +kernel) rfl (Nat.le_of_ble_eq_true rfl) rfl ?_
  obtain ⟨s0, sN, sO⟩ := id hS
  obtain ⟨h1, S, D, h2, h3, nS, nD⟩ := id sN
  obtain ⟨o1, I, M, U, Y, o2, o3, o4, o5, oD⟩ := id sO
  obtain ⟨i, rfl⟩ : ∃ k : Nat, i = (k : Int) := ⟨i.toNat, by omega⟩
  have h8 : i < 8 := by have := hv.1; omega
  simp only [Int.toNat_natCast]
  rw [← nS i h8]
  refine gm_go.ru (gm_aload_n dX10_strengthOf_0 rfl (by first | exact Or.inl ⟨_, rfl⟩ | exact Or.inr ⟨_, rfl⟩)) ?_
  refine gm_go.ru (gm_iload_n dX10_strengthOf_1 rfl) ?_
  refine gm_go.ru (gm_cV0 dX10_strengthOf_2 (ct_needNeedle hB hS hv hi hq) rfl mt_X10_needNeedle mv_X10_needNeedle (lk_X10_99 rfl) (Or.inl ⟨_, 11, _, _, _, rfl, hB, rfl⟩) rfl (Nat.le_of_ble_eq_true rfl) (by decide)) ?_
  refine gm_go.ru (gm_aload_n dX10_strengthOf_5 rfl (by first | exact Or.inl ⟨_, rfl⟩ | exact Or.inr ⟨_, rfl⟩)) ?_
  refine gm_go.ru (gm_get dX10_strengthOf_6 (fl_X10_10 rfl) hB rfl) ?_
  refine gm_go.ru (gm_get dX10_strengthOf_9 (fl_X10_90 rfl) s0 rfl) ?_
  refine gm_go.ru (gm_get dX10_strengthOf_12 (fl_X10_103 rfl) h1 rfl) ?_
  refine gm_go.ru (gm_iload_n dX10_strengthOf_15 rfl) ?_
  refine gm_go.ru (gi_ald dX10_strengthOf_16 h2 (by omega) (by omega) (by decide)) ?_
  exact gm_iret dX10_strengthOf_17 rfl
set_option maxRecDepth 4000 in
theorem ct_goodCount {h : gm_H} {n : Nat} {v : Nat → Int} {hs ep fc : Int} (hB : h.1[n]? = some (by_c n hs ep fc)) (hS : st_at h (n + 1) v) (hv : nd_iv v) : gm_co mX10_goodCount 6 [.ref n] h (.inl (some (.int (zI ((zPC (zGd v) : Nat) : Int))))) h := by
  refine gm_co_of _ (by decide +kernel) rfl (Nat.le_of_ble_eq_true rfl) rfl ?_
  unfold zGd
  obtain ⟨s0, sN, sO⟩ := id hS
  obtain ⟨h1, S, D, h2, h3, nS, nD⟩ := id sN
  obtain ⟨o1, I, M, U, Y, o2, o3, o4, o5, oD⟩ := id sO
  have g8 := zGS_lt v (v 0).toNat
  have g9 : zGS v (v 0).toNat < 256 := Nat.lt_of_lt_of_le g8 (Nat.pow_le_pow_right (by decide) (show (v 0).toNat ≤ 8 by have := hv.1; omega))
  refine gm_go.ru (gm_aload_n dX10_goodCount_0 rfl (by first | exact Or.inl ⟨_, rfl⟩ | exact Or.inr ⟨_, rfl⟩)) ?_
  refine gm_go.ru (gm_get dX10_goodCount_1 (fl_X10_10 rfl) hB rfl) ?_
  refine gm_go.ru (gm_get dX10_goodCount_4 (fl_X10_90 rfl) s0 rfl) ?_
  refine gm_go.ru (gm_cV dX10_goodCount_7 (ct_goodSet sN hv) rfl mt_X3_goodSet mv_X3_goodSet (lk_X10_161 rfl) (Or.inl ⟨_, 5, _, _, _, rfl, h1, rfl⟩) rfl (Nat.le_of_ble_eq_true rfl) (by decide)) ?_
  refine gm_go.ru (gm_cS dX10_goodCount_10 (ct_bitCount g9) rfl mt_J6_bitCount_0f7a4 ms_J6_bitCount_0f7a4 (lk_X10_165 rfl) rfl (Nat.le_of_ble_eq_true rfl) (by decide)) ?_
  exact gm_iret dX10_goodCount_13 rfl
/-- the first needle from j on that so many are ahead of -/
def zRk (v : Nat → Int) (r : Int) : Nat → Nat → Int
  | 0, _ => -1
  | m + 1, j => if ((zCA v j (v 0).toNat : Nat) : Int) = r then (j : Int) else zRk v r m (j + 1)
set_option maxRecDepth 4000 in
theorem ct_needleAtRank {h : gm_H} {n : Nat} {v : Nat → Int} {hs ep fc : Int} (hB : h.1[n]? = some (by_c n hs ep fc)) (hS : st_at h (n + 1) v) {r : Int} (hv : nd_iv v) (hr : zR r) (hq : 0 ≤ zRk v r (v 0).toNat 0) : gm_co mX10_needleAtRank 10 [.ref n, .int (zI r)] h (.inl (some (.int (zI (zRk v r (v 0).toNat 0))))) h := by
  refine gm_co_of _ (by decide +kernel) rfl (Nat.le_of_ble_eq_true rfl) rfl ?_
  obtain ⟨s0, sN, sO⟩ := id hS
  obtain ⟨h1, S, D, h2, h3, nS, nD⟩ := id sN
  obtain ⟨o1, I, M, U, Y, o2, o3, o4, o5, oD⟩ := id sO
  have key : ∀ (m j : Nat), j + m = (v 0).toNat → 0 ≤ zRk v r m j → gm_ru mX10_needleAtRank 10 (10, [some (.ref n), some (.int (zI r)), some (.ref (n + 1 + 1)), some (.int (zI j))], [], h) (.inl (some (.int (zI (zRk v r m j))))) h := by
    intro m
    induction m with
    | zero =>
      intro j hj hz
      exact absurd hz (by simp [zRk])
    | succ m ih =>
      intro j hj hz
      rw [zRk] at hz
      rw [zRk]
      have j8 : j < 8 := by have := hv.1; omega
      have j9 : (j : Int) < v 0 := by have := hv.1; omega
      have c9 := zCA_le v j (v 0).toNat
      have v8 := hv.1
      refine gm_go.ru (gm_iload_n dX10_needleAtRank_10 rfl) ?_
      refine gm_go.ru (gm_aload_n dX10_needleAtRank_11 rfl (by first | exact Or.inl ⟨_, rfl⟩ | exact Or.inr ⟨_, rfl⟩)) ?_
      refine gm_go.ru (gm_get dX10_needleAtRank_12 (fl_X10_94 rfl) h1 rfl) ?_
      refine gm_go.ru (gi_icmp_ge_f 35 dX10_needleAtRank_15 (by decide) (by omega) (by omega) (by omega)) ?_
      refine gm_go.ru (gm_aload_n dX10_needleAtRank_18 rfl (by first | exact Or.inl ⟨_, rfl⟩ | exact Or.inr ⟨_, rfl⟩)) ?_
      refine gm_go.ru (gm_iload_n dX10_needleAtRank_19 rfl) ?_
      refine gm_go.ru (gm_cV dX10_needleAtRank_20 (ct_countAheadOf sN hv j8) rfl mt_X3_countAheadOf mv_X3_countAheadOf (lk_X10_151 rfl) (Or.inl ⟨_, 5, _, _, _, rfl, h1, rfl⟩) rfl (Nat.le_of_ble_eq_true rfl) (by decide)) ?_
      refine gm_go.ru (gm_iload_n dX10_needleAtRank_23 rfl) ?_
      by_cases c : ((zCA v j (v 0).toNat : Nat) : Int) = r
      ·
        rw [if_pos c]
        refine gm_go.ru (gi_icmp_ne_f 29 dX10_needleAtRank_24 (by decide) (by omega) (by omega) (by omega)) ?_
        refine gm_go.ru (gm_iload_n dX10_needleAtRank_27 rfl) ?_
        exact gm_iret dX10_needleAtRank_28 rfl
      ·
        rw [if_neg c] at *
        refine gm_go.ru (gi_icmp_ne_t (tgt := 29) dX10_needleAtRank_24 (by decide) (by omega) (by omega) (by omega)) ?_
        refine gm_go.ru (gi_iinc (ls' := [_, _, _, _]) dX10_needleAtRank_29 rfl (by decide) rfl) ?_
        refine gm_go.ru (gm_goto (tgt := 10) dX10_needleAtRank_32 (by decide)) ?_
        exact ih (j + 1) (by omega) hz
  refine gm_go.ru (gm_aload_n dX10_needleAtRank_0 rfl (by first | exact Or.inl ⟨_, rfl⟩ | exact Or.inr ⟨_, rfl⟩)) ?_
  refine gm_go.ru (gm_get dX10_needleAtRank_1 (fl_X10_10 rfl) hB rfl) ?_
  refine gm_go.ru (gm_get dX10_needleAtRank_4 (fl_X10_90 rfl) s0 rfl) ?_
  refine gm_go.ru (gm_astore_n (ls' := [_, _, _, _]) dX10_needleAtRank_7 (by first | exact Or.inl ⟨_, rfl⟩ | exact Or.inr ⟨_, rfl⟩) (by decide) rfl) ?_
  refine gm_go.ru (gi_const dX10_needleAtRank_8) ?_
  refine gm_go.ru (gm_istore_n (ls' := [_, _, _, _]) dX10_needleAtRank_9 (by decide) rfl) ?_
  exact key (v 0).toNat 0 (by omega) hq
set_option maxRecDepth 4000 in
theorem ct_needleAtRankX {h : gm_H} {n : Nat} {v : Nat → Int} {hs ep fc : Int} (hB : h.1[n]? = some (by_c n hs ep fc)) (hS : st_at h (n + 1) v) {r : Int} (hv : nd_iv v) (hr : zR r) (hq : zRk v r (v 0).toNat 0 < 0) : gm_co mX10_needleAtRank 10 [.ref n, .int (zI r)] h (.inr "java/util/NoSuchElementException") (zTh h) := by
  refine gm_co_of _ (by decide +kernel) rfl (Nat.le_of_ble_eq_true rfl) rfl ?_
  obtain ⟨s0, sN, sO⟩ := id hS
  obtain ⟨h1, S, D, h2, h3, nS, nD⟩ := id sN
  obtain ⟨o1, I, M, U, Y, o2, o3, o4, o5, oD⟩ := id sO
  have key : ∀ (m j : Nat), j + m = (v 0).toNat → zRk v r m j < 0 → gm_ru mX10_needleAtRank 10 (10, [some (.ref n), some (.int (zI r)), some (.ref (n + 1 + 1)), some (.int (zI j))], [], h) (.inr "java/util/NoSuchElementException") (zTh h) := by
    intro m
    induction m with
    | zero =>
      intro j hj hz
      obtain rfl : j = (v 0).toNat := by omega
      refine gm_go.ru (gm_iload_n dX10_needleAtRank_10 rfl) ?_
      refine gm_go.ru (gm_aload_n dX10_needleAtRank_11 rfl (by first | exact Or.inl ⟨_, rfl⟩ | exact Or.inr ⟨_, rfl⟩)) ?_
      refine gm_go.ru (gm_get dX10_needleAtRank_12 (fl_X10_94 rfl) h1 rfl) ?_
      refine gm_go.ru (gi_icmp_ge_t (tgt := 35) dX10_needleAtRank_15 (by decide) (by have := hv.1; omega) (by have := hv.1; omega) (by have := hv.1; omega)) ?_
      exact gm_throwX (tf_X10_154_156 rfl) rfl dX10_needleAtRank_35 dX10_needleAtRank_38 dX10_needleAtRank_39 dX10_needleAtRank_41 dX10_needleAtRank_44 (Nat.le_of_ble_eq_true rfl) (by decide) (by decide)
    | succ m ih =>
      intro j hj hz
      rw [zRk] at hz
      have j8 : j < 8 := by have := hv.1; omega
      have j9 : (j : Int) < v 0 := by have := hv.1; omega
      have c9 := zCA_le v j (v 0).toNat
      have v8 := hv.1
      refine gm_go.ru (gm_iload_n dX10_needleAtRank_10 rfl) ?_
      refine gm_go.ru (gm_aload_n dX10_needleAtRank_11 rfl (by first | exact Or.inl ⟨_, rfl⟩ | exact Or.inr ⟨_, rfl⟩)) ?_
      refine gm_go.ru (gm_get dX10_needleAtRank_12 (fl_X10_94 rfl) h1 rfl) ?_
      refine gm_go.ru (gi_icmp_ge_f 35 dX10_needleAtRank_15 (by decide) (by omega) (by omega) (by omega)) ?_
      refine gm_go.ru (gm_aload_n dX10_needleAtRank_18 rfl (by first | exact Or.inl ⟨_, rfl⟩ | exact Or.inr ⟨_, rfl⟩)) ?_
      refine gm_go.ru (gm_iload_n dX10_needleAtRank_19 rfl) ?_
      refine gm_go.ru (gm_cV dX10_needleAtRank_20 (ct_countAheadOf sN hv j8) rfl mt_X3_countAheadOf mv_X3_countAheadOf (lk_X10_151 rfl) (Or.inl ⟨_, 5, _, _, _, rfl, h1, rfl⟩) rfl (Nat.le_of_ble_eq_true rfl) (by decide)) ?_
      refine gm_go.ru (gm_iload_n dX10_needleAtRank_23 rfl) ?_
      by_cases c : ((zCA v j (v 0).toNat : Nat) : Int) = r
      ·
        rw [if_pos c] at hz; omega
      ·
        rw [if_neg c] at hz
        refine gm_go.ru (gi_icmp_ne_t (tgt := 29) dX10_needleAtRank_24 (by decide) (by omega) (by omega) (by omega)) ?_
        refine gm_go.ru (gi_iinc (ls' := [_, _, _, _]) dX10_needleAtRank_29 rfl (by decide) rfl) ?_
        refine gm_go.ru (gm_goto (tgt := 10) dX10_needleAtRank_32 (by decide)) ?_
        exact ih (j + 1) (by omega) hz
  refine gm_go.ru (gm_aload_n dX10_needleAtRank_0 rfl (by first | exact Or.inl ⟨_, rfl⟩ | exact Or.inr ⟨_, rfl⟩)) ?_
  refine gm_go.ru (gm_get dX10_needleAtRank_1 (fl_X10_10 rfl) hB rfl) ?_
  refine gm_go.ru (gm_get dX10_needleAtRank_4 (fl_X10_90 rfl) s0 rfl) ?_
  refine gm_go.ru (gm_astore_n (ls' := [_, _, _, _]) dX10_needleAtRank_7 (by first | exact Or.inl ⟨_, rfl⟩ | exact Or.inr ⟨_, rfl⟩) (by decide) rfl) ?_
  refine gm_go.ru (gi_const dX10_needleAtRank_8) ?_
  refine gm_go.ru (gm_istore_n (ls' := [_, _, _, _]) dX10_needleAtRank_9 (by decide) rfl) ?_
  exact key (v 0).toNat 0 (by omega) hq
set_option maxRecDepth 4000 in
theorem ct_batchAt {h : gm_H} {n : Nat} {v : Nat → Int} {hs ep fc : Int} (hB : h.1[n]? = some (by_c n hs ep fc)) (hS : st_at h (n + 1) v) {T : Nat} {i : Int} (hv : ov_iv T v) (hi : zR i) (hq : 0 ≤ i ∧ i < v 4) : gm_co mX10_batchAt 10 [.ref n, .int (zI i)] h (.inl (some (.int (zI (v (90 + 4 * i.toNat)))))) h := by
  refine gm_co_of _ (by decide +kernel) rfl (Nat.le_of_ble_eq_true rfl) rfl ?_
  obtain ⟨s0, sN, sO⟩ := id hS
  obtain ⟨h1, S, D, h2, h3, nS, nD⟩ := id sN
  obtain ⟨o1, I, M, U, Y, o2, o3, o4, o5, oD⟩ := id sO
  obtain ⟨i, rfl⟩ : ∃ k : Nat, i = (k : Int) := ⟨i.toNat, by omega⟩
  have v4 := hv.2.2.1
  simp only [Int.toNat_natCast]
  rw [← (oD i hq.2).1]
  refine gm_go.ru (gm_iload_n dX10_batchAt_0 rfl) ?_
  refine gm_go.ru (gi_if_lt_f 18 dX10_batchAt_1 (by decide) (by omega) (by omega)) ?_
  refine gm_go.ru (gm_iload_n dX10_batchAt_4 rfl) ?_
  refine gm_go.ru (gm_aload_n dX10_batchAt_5 rfl (by first | exact Or.inl ⟨_, rfl⟩ | exact Or.inr ⟨_, rfl⟩)) ?_
  refine gm_go.ru (gm_get dX10_batchAt_6 (fl_X10_10 rfl) hB rfl) ?_
  refine gm_go.ru (gm_get dX10_batchAt_9 (fl_X10_204 rfl) s0 rfl) ?_
  refine gm_go.ru (gm_get dX10_batchAt_12 (fl_X10_213 rfl) o1 rfl) ?_
  refine gm_go.ru (gi_icmp_lt_t (tgt := 28) dX10_batchAt_15 (by decide) (by omega) (by omega) hq.2) ?_
  refine gm_go.ru (gm_aload_n dX10_batchAt_28 rfl (by first | exact Or.inl ⟨_, rfl⟩ | exact Or.inr ⟨_, rfl⟩)) ?_
  refine gm_go.ru (gm_get dX10_batchAt_29 (fl_X10_10 rfl) hB rfl) ?_
  refine gm_go.ru (gm_get dX10_batchAt_32 (fl_X10_204 rfl) s0 rfl) ?_
  refine gm_go.ru (gm_get dX10_batchAt_35 (fl_X10_219 rfl) o1 rfl) ?_
  refine gm_go.ru (gm_iload_n dX10_batchAt_38 rfl) ?_
  refine gm_go.ru (gi_ald dX10_batchAt_39 o2 (by omega) (by omega) (by decide)) ?_
  exact gm_iret dX10_batchAt_40 rfl
set_option maxRecDepth 4000 in
theorem ct_batchAtX {h : gm_H} {n : Nat} {v : Nat → Int} {hs ep fc : Int} (hB : h.1[n]? = some (by_c n hs ep fc)) (hS : st_at h (n + 1) v) {T : Nat} {i : Int} (hv : ov_iv T v) (hi : zR i) (hq : ¬ (0 ≤ i ∧ i < v 4)) : gm_co mX10_batchAt 10 [.ref n, .int (zI i)] h (.inr "java/lang/IndexOutOfBoundsException") (zTh h) := by
  refine gm_co_of _ (by decide +kernel) rfl (Nat.le_of_ble_eq_true rfl) rfl ?_
  obtain ⟨s0, sN, sO⟩ := id hS
  obtain ⟨h1, S, D, h2, h3, nS, nD⟩ := id sN
  obtain ⟨o1, I, M, U, Y, o2, o3, o4, o5, oD⟩ := id sO
  have v4 := hv.2.2.1
  by_cases c : i < 0
  ·
    refine gm_go.ru (gm_iload_n dX10_batchAt_0 rfl) ?_
    refine gm_go.ru (gi_if_lt_t (tgt := 18) dX10_batchAt_1 (by decide) (by omega) c) ?_
    exact gm_throw (tf_X10_214_216 rfl) rfl dX10_batchAt_18 dX10_batchAt_21 dX10_batchAt_22 dX10_batchAt_24 dX10_batchAt_27 (Nat.le_of_ble_eq_true rfl) (by decide) (by decide)
  ·
    refine gm_go.ru (gm_iload_n dX10_batchAt_0 rfl) ?_
    refine gm_go.ru (gi_if_lt_f 18 dX10_batchAt_1 (by decide) (by omega) c) ?_
    refine gm_go.ru (gm_iload_n dX10_batchAt_4 rfl) ?_
    refine gm_go.ru (gm_aload_n dX10_batchAt_5 rfl (by first | exact Or.inl ⟨_, rfl⟩ | exact Or.inr ⟨_, rfl⟩)) ?_
    refine gm_go.ru (gm_get dX10_batchAt_6 (fl_X10_10 rfl) hB rfl) ?_
    refine gm_go.ru (gm_get dX10_batchAt_9 (fl_X10_204 rfl) s0 rfl) ?_
    refine gm_go.ru (gm_get dX10_batchAt_12 (fl_X10_213 rfl) o1 rfl) ?_
    refine gm_go.ru (gi_icmp_lt_f 28 dX10_batchAt_15 (by decide) (by omega) (by omega) (by omega)) ?_
    exact gm_throw (tf_X10_214_216 rfl) rfl dX10_batchAt_18 dX10_batchAt_21 dX10_batchAt_22 dX10_batchAt_24 dX10_batchAt_27 (Nat.le_of_ble_eq_true rfl) (by decide) (by decide)
set_option maxRecDepth 4000 in
theorem ct_latenessNow {h : gm_H} {n : Nat} {v : Nat → Int} {hs ep fc : Int} (hB : h.1[n]? = some (by_c n hs ep fc)) (hS : st_at h (n + 1) v) {T : Nat} {b : Int} (hv : ov_iv T v) (hb : zR b) (hq : 0 ≤ zFind v b) : gm_co mX10_latenessNow 10 [.ref n, .int (zI b)] h (.inl (some (.int (zI (zLt v (zFind v b).toNat (v 2)))))) h := by
  refine gm_co_of _ (by decide +kernel) rfl (Nat.le_of_ble_eq_true rfl) rfl ?_
  obtain ⟨s0, sN, sO⟩ := id hS
  obtain ⟨h1, S, D, h2, h3, nS, nD⟩ := id sN
  obtain ⟨o1, I, M, U, Y, o2, o3, o4, o5, oD⟩ := id sO
  obtain ⟨k, hk, hk4⟩ := (zFind_r hv b).resolve_left (by omega)
  have v2 := hv.1
  have vT := hv.2.2.2.2.2.2.2.1
  have hcp := ct_placeOf sO hv hb
  rw [hk] at hcp hq ⊢
  simp only [Int.toNat_natCast]
  have q4 := hv.2.2.1
  refine gm_go.ru (gm_aload_n dX10_latenessNow_0 rfl (by first | exact Or.inl ⟨_, rfl⟩ | exact Or.inr ⟨_, rfl⟩)) ?_
  refine gm_go.ru (gm_get dX10_latenessNow_1 (fl_X10_10 rfl) hB rfl) ?_
  refine gm_go.ru (gm_get dX10_latenessNow_4 (fl_X10_204 rfl) s0 rfl) ?_
  refine gm_go.ru (gm_iload_n dX10_latenessNow_7 rfl) ?_
  refine gm_go.ru (gm_cV dX10_latenessNow_8 (hcp) rfl mt_X5_placeOf mv_X5_placeOf (lk_X10_222 rfl) (Or.inl ⟨_, 7, _, _, _, rfl, o1, rfl⟩) rfl (Nat.le_of_ble_eq_true rfl) (by decide)) ?_
  refine gm_go.ru (gm_istore_n (ls' := [_, _, _]) dX10_latenessNow_11 (by decide) rfl) ?_
  refine gm_go.ru (gm_iload_n dX10_latenessNow_12 rfl) ?_
  refine gm_go.ru (gi_if_ge_t (tgt := 26) dX10_latenessNow_13 (by decide) (by omega) hq) ?_
  refine gm_go.ru (gm_aload_n dX10_latenessNow_26 rfl (by first | exact Or.inl ⟨_, rfl⟩ | exact Or.inr ⟨_, rfl⟩)) ?_
  refine gm_go.ru (gm_get dX10_latenessNow_27 (fl_X10_10 rfl) hB rfl) ?_
  refine gm_go.ru (gm_get dX10_latenessNow_30 (fl_X10_204 rfl) s0 rfl) ?_
  refine gm_go.ru (gm_iload_n dX10_latenessNow_33 rfl) ?_
  refine gm_go.ru (gm_aload_n dX10_latenessNow_34 rfl (by first | exact Or.inl ⟨_, rfl⟩ | exact Or.inr ⟨_, rfl⟩)) ?_
  refine gm_go.ru (gm_get dX10_latenessNow_35 (fl_X10_10 rfl) hB rfl) ?_
  refine gm_go.ru (gm_get dX10_latenessNow_38 (fl_X10_204 rfl) s0 rfl) ?_
  refine gm_go.ru (gm_get dX10_latenessNow_41 (fl_X10_208 rfl) o1 rfl) ?_
  refine gm_go.ru (gm_cV dX10_latenessNow_44 (ct_latenessFrom sO hv (by omega) (by omega)) rfl mt_X5_latenessFrom mv_X5_latenessFrom (lk_X10_227 rfl) (Or.inl ⟨_, 7, _, _, _, rfl, o1, rfl⟩) rfl (Nat.le_of_ble_eq_true rfl) (by decide)) ?_
  exact gm_iret dX10_latenessNow_47 rfl
set_option maxRecDepth 4000 in
theorem ct_latenessNowX {h : gm_H} {n : Nat} {v : Nat → Int} {hs ep fc : Int} (hB : h.1[n]? = some (by_c n hs ep fc)) (hS : st_at h (n + 1) v) {T : Nat} {b : Int} (hv : ov_iv T v) (hb : zR b) (hq : zFind v b < 0) : gm_co mX10_latenessNow 10 [.ref n, .int (zI b)] h (.inr "java/util/NoSuchElementException") (zTh h) := by
  refine gm_co_of _ (by decide +kernel) rfl (Nat.le_of_ble_eq_true rfl) rfl ?_
  obtain ⟨s0, sN, sO⟩ := id hS
  obtain ⟨h1, S, D, h2, h3, nS, nD⟩ := id sN
  obtain ⟨o1, I, M, U, Y, o2, o3, o4, o5, oD⟩ := id sO
  have z8 := zFind_r hv b
  have z9 : zR (zFind v b) := by have := hv.2.2.1; rcases z8 with e | ⟨k, hk, hk4⟩ <;> omega
  refine gm_go.ru (gm_aload_n dX10_latenessNow_0 rfl (by first | exact Or.inl ⟨_, rfl⟩ | exact Or.inr ⟨_, rfl⟩)) ?_
  refine gm_go.ru (gm_get dX10_latenessNow_1 (fl_X10_10 rfl) hB rfl) ?_
  refine gm_go.ru (gm_get dX10_latenessNow_4 (fl_X10_204 rfl) s0 rfl) ?_
  refine gm_go.ru (gm_iload_n dX10_latenessNow_7 rfl) ?_
  refine gm_go.ru (gm_cV dX10_latenessNow_8 (ct_placeOf sO hv hb) rfl mt_X5_placeOf mv_X5_placeOf (lk_X10_222 rfl) (Or.inl ⟨_, 7, _, _, _, rfl, o1, rfl⟩) rfl (Nat.le_of_ble_eq_true rfl) (by decide)) ?_
  refine gm_go.ru (gm_istore_n (ls' := [_, _, _]) dX10_latenessNow_11 (by decide) rfl) ?_
  refine gm_go.ru (gm_iload_n dX10_latenessNow_12 rfl) ?_
  refine gm_go.ru (gi_if_ge_f 26 dX10_latenessNow_13 (by decide) (by omega) (by omega)) ?_
  exact gm_throwX (tf_X10_154_225 rfl) rfl dX10_latenessNow_16 dX10_latenessNow_19 dX10_latenessNow_20 dX10_latenessNow_22 dX10_latenessNow_25 (Nat.le_of_ble_eq_true rfl) (by decide) (by decide)
set_option maxRecDepth 4000 in
theorem ct_latenessTotal {h : gm_H} {n : Nat} {v : Nat → Int} {hs ep fc : Int} (hB : h.1[n]? = some (by_c n hs ep fc)) (hS : st_at h (n + 1) v) : gm_co mX10_latenessTotal 1 [.ref n] h (.inl (some (.long (zL (v 8 * 1000000 + v 7))))) h := by
  refine gm_co_of _ (by decide +kernel) rfl (Nat.le_of_ble_eq_true rfl) rfl ?_
  obtain ⟨s0, sN, sO⟩ := id hS
  obtain ⟨h1, S, D, h2, h3, nS, nD⟩ := id sN
  obtain ⟨o1, I, M, U, Y, o2, o3, o4, o5, oD⟩ := id sO
  refine gm_go.ru (gm_aload_n dX10_latenessTotal_0 rfl (by first | exact Or.inl ⟨_, rfl⟩ | exact Or.inr ⟨_, rfl⟩)) ?_
  refine gm_go.ru (gm_get dX10_latenessTotal_1 (fl_X10_10 rfl) hB rfl) ?_
  refine gm_go.ru (gm_get dX10_latenessTotal_4 (fl_X10_204 rfl) s0 rfl) ?_
  refine gm_go.ru (gm_get dX10_latenessTotal_7 (fl_X10_247 rfl) o1 rfl) ?_
  exact gm_lret dX10_latenessTotal_10 rfl
set_option maxRecDepth 4000 in
theorem ct_leastLatenessByOrders {h : gm_H} {n : Nat} {v : Nat → Int} {hs ep fc : Int} (hB : h.1[n]? = some (by_c n hs ep fc)) (hS : st_at h (n + 1) v) {T : Nat} {F : Nat → Int} (hv : ov_iv T v) (hO : or_at h (n + 105) F) : gm_co mX10_leastLatenessByOrders 12 [.ref n] h (.inl (some (.int (zI (zL' v (zAl v)))))) h := by
  refine gm_co_of _ (by decide +kernel) rfl (Nat.le_of_ble_eq_true rfl) rfl ?_
  obtain ⟨s0, sN, sO⟩ := id hS
  obtain ⟨h1, S, D, h2, h3, nS, nD⟩ := id sN
  obtain ⟨o1, I, M, U, Y, o2, o3, o4, o5, oD⟩ := id sO
  refine gm_go.ru (gm_aload_n dX10_leastLatenessByOrders_0 rfl (by first | exact Or.inl ⟨_, rfl⟩ | exact Or.inr ⟨_, rfl⟩)) ?_
  refine gm_go.ru (gm_get dX10_leastLatenessByOrders_1 (fl_X10_36 rfl) hB rfl) ?_
  refine gm_go.ru (gm_aload_n dX10_leastLatenessByOrders_4 rfl (by first | exact Or.inl ⟨_, rfl⟩ | exact Or.inr ⟨_, rfl⟩)) ?_
  refine gm_go.ru (gm_get dX10_leastLatenessByOrders_5 (fl_X10_10 rfl) hB rfl) ?_
  refine gm_go.ru (gm_get dX10_leastLatenessByOrders_8 (fl_X10_204 rfl) s0 rfl) ?_
  refine gm_go.ru (gm_cV dX10_leastLatenessByOrders_11 (ct_leastByTrying sO hv) rfl mt_X4_leastByTrying mv_X4_leastByTrying (lk_X10_233 rfl) (Or.inl ⟨_, 6, _, _, _, rfl, hO.1, rfl⟩) rfl (Nat.le_of_ble_eq_true rfl) (by decide)) ?_
  exact gm_iret dX10_leastLatenessByOrders_14 rfl
set_option maxRecDepth 4000 in
theorem ct_latenessByIds {h : gm_H} {n : Nat} {v : Nat → Int} {hs ep fc : Int} (hB : h.1[n]? = some (by_c n hs ep fc)) (hS : st_at h (n + 1) v) {T : Nat} {F : Nat → Int} (hv : ov_iv T v) (hO : or_at h (n + 105) F) : gm_co mX10_latenessByIds 4 [.ref n] h (.inl (some (.int (zI (zLi v (v 4).toNat))))) h := by
  refine gm_co_of _ (by decide +kernel) rfl (Nat.le_of_ble_eq_true rfl) rfl ?_
  obtain ⟨s0, sN, sO⟩ := id hS
  obtain ⟨h1, S, D, h2, h3, nS, nD⟩ := id sN
  obtain ⟨o1, I, M, U, Y, o2, o3, o4, o5, oD⟩ := id sO
  refine gm_go.ru (gm_aload_n dX10_latenessByIds_0 rfl (by first | exact Or.inl ⟨_, rfl⟩ | exact Or.inr ⟨_, rfl⟩)) ?_
  refine gm_go.ru (gm_get dX10_latenessByIds_1 (fl_X10_36 rfl) hB rfl) ?_
  refine gm_go.ru (gm_aload_n dX10_latenessByIds_4 rfl (by first | exact Or.inl ⟨_, rfl⟩ | exact Or.inr ⟨_, rfl⟩)) ?_
  refine gm_go.ru (gm_get dX10_latenessByIds_5 (fl_X10_10 rfl) hB rfl) ?_
  refine gm_go.ru (gm_get dX10_latenessByIds_8 (fl_X10_204 rfl) s0 rfl) ?_
  refine gm_go.ru (gm_cV dX10_latenessByIds_11 (ct_latenessInOrderOfIds sO hv) rfl mt_X4_latenessInOrderOfIds mv_X4_latenessInOrderOfIds (lk_X10_241 rfl) (Or.inl ⟨_, 6, _, _, _, rfl, hO.1, rfl⟩) rfl (Nat.le_of_ble_eq_true rfl) (by decide)) ?_
  exact gm_iret dX10_latenessByIds_14 rfl
