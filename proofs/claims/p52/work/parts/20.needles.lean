/-! Needles: its three cells, by the vector of the state -/
def nd_S (v S : Nat → Int) : Prop := ∀ i, i < 8 → S i = v (10 + 10 * i)
def nd_D (v D : Nat → Int) : Prop := ∀ i, i < 8 → ∀ j, j < 8 → D (8 * i + j) = v (12 + 10 * i + j)
/-- the discarded ones, as a set -/
def zG (v : Nat → Int) : Nat → Nat
  | 0 => 0
  | n + 1 => zG v n + (if v (11 + 10 * n) = 1 then 2 ^ n else 0)
def nd_at (h : gm_H) (n : Nat) (v : Nat → Int) : Prop :=
  h.1[n]? = some (.inr (5, [.int (zI (v 0)), .int (zI (v 1)), .int (zI (zG v 8 : Nat)), .ref (n + 1), .ref (n + 2)])) ∧ ∃ S D, h.1[n + 1]? = some (gA 8 S) ∧ h.1[n + 2]? = some (gA 64 D) ∧ nd_S v S ∧ nd_D v D
/-- what the needles' part of a state keeps -/
def nd_iv (v : Nat → Int) : Prop := (0 ≤ v 0 ∧ v 0 ≤ 8) ∧ (0 ≤ v 1 ∧ v 1 ≤ 20) ∧ (∀ i, i < 8 → 0 ≤ v (10 + 10 * i) ∧ v (10 + 10 * i) ≤ 99) ∧ (∀ i, i < 8 → v (11 + 10 * i) = 0 ∨ v (11 + 10 * i) = 1) ∧ (∀ i, i < 8 → ∀ j, j < 8 → -20 ≤ v (12 + 10 * i + j) ∧ v (12 + 10 * i + j) ≤ 20) ∧ ∀ i : Nat, v 0 ≤ i → i < 8 → ∀ j, j < 10 → v (10 + 10 * i + j) = 0
theorem zG_lt (v : Nat → Int) : ∀ n, zG v n < 2 ^ n
  | 0 => by simp [zG]
  | n + 1 => by
    have h := zG_lt v n
    simp only [zG, Nat.pow_succ]
    split <;> omega
theorem zG_bit (v : Nat → Int) : ∀ n i, i < n → (zG v n).testBit i = decide (v (11 + 10 * i) = 1)
  | 0, i, h => by omega
  | n + 1, i, h => by
    have hl := zG_lt v n
    simp only [zG]
    by_cases hi : i = n
    · subst hi
      by_cases hv : v (11 + 10 * i) = 1
      · rw [if_pos hv, Nat.add_comm, Nat.testBit_two_pow_add_eq, Nat.testBit_lt_two_pow hl]
        simp [hv]
      · rw [if_neg hv, Nat.add_zero, Nat.testBit_lt_two_pow hl]
        simp [hv]
    · by_cases hv : v (11 + 10 * n) = 1
      · rw [if_pos hv, Nat.add_comm, Nat.testBit_two_pow_add_gt (by omega)]
        exact zG_bit v n i (by omega)
      · rw [if_neg hv, Nat.add_zero]
        exact zG_bit v n i (by omega)
set_option maxRecDepth 4000 in
theorem ct_at {h : gm_H} {n i j : Nat} {v : Nat → Int} (hN : nd_at h n v) (hi : i < 8) (hj : j < 8) : gm_co mX3_at 1 [.ref n, .int (zI i), .int (zI j)] h (.inl (some (.int (zI (v (12 + 10 * i + j)))))) h := by
  refine gm_co_of _ (by decide +kernel) rfl (Nat.le_of_ble_eq_true rfl) rfl ?_
  obtain ⟨h1, S, D, h2, h3, h4, h5⟩ := hN
  refine gm_go.ru (gm_aload_n dX3_at_0 rfl (by first | exact Or.inl ⟨_, rfl⟩ | exact Or.inr ⟨_, rfl⟩)) ?_
  refine gm_go.ru (gm_get dX3_at_1 (fl_X3_19 rfl) (by assumption) rfl) ?_
  refine gm_go.ru (gm_iload_n dX3_at_4 rfl) ?_
  refine gm_go.ru (gi_bipush dX3_at_5 (by decide +kernel)) ?_
  refine gm_go.ru (gi_mul dX3_at_7) ?_
  refine gm_go.ru (gm_iload_n dX3_at_8 rfl) ?_
  refine gm_go.ru (gi_add dX3_at_9) ?_
  refine gm_go.ru (gi_ald dX3_at_10 (by assumption) (by omega) (by omega) (by decide)) ?_
  refine gm_iret' dX3_at_11 rfl ?_ rfl
  rw [← h5 i hi j hj]; congr 2; omega
set_option maxRecDepth 4000 in
theorem ct_outside {h : gm_H} {a lo hi : Int} (ha : zR a) (hlo : zR lo) (hhi : zR hi) : gm_co mX10_outside 1 [.int (zI a), .int (zI lo), .int (zI hi)] h (.inl (some (.int (zI (zB (decide (a < lo ∨ hi < a))))))) h := by
  refine gm_co_of _ (by decide +kernel) rfl (Nat.le_of_ble_eq_true rfl) rfl ?_
  by_cases c : a < lo
  · rw [show decide (a < lo ∨ hi < a) = true from decide_eq_true (Or.inl c)]
    refine gm_go.ru (gm_iload_n dX10_outside_0 rfl) ?_
    refine gm_go.ru (gm_iload_n dX10_outside_1 rfl) ?_
    refine gm_go.ru (gi_icmp_lt_t (tgt := 10) dX10_outside_2 (by decide) ha hlo c) ?_
    refine gm_go.ru (gi_const dX10_outside_10) ?_
    refine gm_go.ru (gm_goto (tgt := 15) dX10_outside_11 (by decide)) ?_
    exact gm_zret' dX10_outside_15 rfl rfl
  · by_cases c2 : hi < a
    · rw [show decide (a < lo ∨ hi < a) = true from decide_eq_true (Or.inr c2)]
      refine gm_go.ru (gm_iload_n dX10_outside_0 rfl) ?_
      refine gm_go.ru (gm_iload_n dX10_outside_1 rfl) ?_
      refine gm_go.ru (gi_icmp_lt_f 10 dX10_outside_2 (by decide) ha hlo c) ?_
      refine gm_go.ru (gm_iload_n dX10_outside_5 rfl) ?_
      refine gm_go.ru (gm_iload_n dX10_outside_6 rfl) ?_
      refine gm_go.ru (gi_icmp_le_f 14 dX10_outside_7 (by decide) ha hhi (by omega)) ?_
      refine gm_go.ru (gi_const dX10_outside_10) ?_
      refine gm_go.ru (gm_goto (tgt := 15) dX10_outside_11 (by decide)) ?_
      exact gm_zret' dX10_outside_15 rfl rfl
    · rw [show decide (a < lo ∨ hi < a) = false from decide_eq_false (by omega)]
      refine gm_go.ru (gm_iload_n dX10_outside_0 rfl) ?_
      refine gm_go.ru (gm_iload_n dX10_outside_1 rfl) ?_
      refine gm_go.ru (gi_icmp_lt_f 10 dX10_outside_2 (by decide) ha hlo c) ?_
      refine gm_go.ru (gm_iload_n dX10_outside_5 rfl) ?_
      refine gm_go.ru (gm_iload_n dX10_outside_6 rfl) ?_
      refine gm_go.ru (gi_icmp_le_t (tgt := 14) dX10_outside_7 (by decide) ha hhi (by omega)) ?_
      refine gm_go.ru (gi_const dX10_outside_14) ?_
      exact gm_zret' dX10_outside_15 rfl rfl
set_option maxRecDepth 4000 in
theorem ct_holds {h : gm_H} {s k : Nat} (hs : s < 2147483648) (hk : k < 32) : gm_co mX10_holds 1 [.int (zI s), .int (zI k)] h (.inl (some (.int (zI (zB (s.testBit k)))))) h := by
  refine gm_co_of _ (by decide +kernel) rfl (Nat.le_of_ble_eq_true rfl) rfl ?_
  have hb : s.testBit k = decide (s / 2 ^ k % 2 = 1) := Nat.testBit_eq_decide_div_mod_eq
  rw [hb]
  by_cases c : s / 2 ^ k % 2 = 1
  · rw [decide_eq_true c]
    refine gm_go.ru (gm_iload_n dX10_holds_0 rfl) ?_
    refine gm_go.ru (gm_iload_n dX10_holds_1 rfl) ?_
    refine gm_go.ru (gi_shr dX10_holds_2 hs hk) ?_
    refine gm_go.ru (gi_const dX10_holds_3) ?_
    refine gm_go.ru (gi_and1 dX10_holds_4) ?_
    refine gm_go.ru (gi_if_eq_f 12 dX10_holds_5 (by decide) (by omega) (by omega)) ?_
    refine gm_go.ru (gi_const dX10_holds_8) ?_
    refine gm_go.ru (gm_goto (tgt := 13) dX10_holds_9 (by decide)) ?_
    exact gm_zret' dX10_holds_13 rfl rfl
  · rw [decide_eq_false c]
    refine gm_go.ru (gm_iload_n dX10_holds_0 rfl) ?_
    refine gm_go.ru (gm_iload_n dX10_holds_1 rfl) ?_
    refine gm_go.ru (gi_shr dX10_holds_2 hs hk) ?_
    refine gm_go.ru (gi_const dX10_holds_3) ?_
    refine gm_go.ru (gi_and1 dX10_holds_4) ?_
    refine gm_go.ru (gi_if_eq_t (tgt := 12) dX10_holds_5 (by decide) (by omega) (by omega)) ?_
    refine gm_go.ru (gi_const dX10_holds_12) ?_
    exact gm_zret' dX10_holds_13 rfl rfl
set_option maxRecDepth 4000 in
theorem ct_has {h : gm_H} {n : Nat} {i : Int} {v : Nat → Int} (hN : nd_at h n v) (hv : 0 ≤ v 0 ∧ v 0 ≤ 8) (hr : zR i) : gm_co mX3_has 1 [.ref n, .int (zI i)] h (.inl (some (.int (zI (zB (decide (0 ≤ i ∧ i < v 0))))))) h := by
  refine gm_co_of _ (by decide +kernel) rfl (Nat.le_of_ble_eq_true rfl) rfl ?_
  obtain ⟨h1, -⟩ := hN
  by_cases c : i < 0
  · rw [show decide (0 ≤ i ∧ i < v 0) = false from decide_eq_false (by omega)]
    refine gm_go.ru (gm_iload_n dX3_has_0 rfl) ?_
    refine gm_go.ru (gi_if_lt_t (tgt := 16) dX3_has_1 (by decide) hr c) ?_
    refine gm_go.ru (gi_const dX3_has_16) ?_
    exact gm_zret' dX3_has_17 rfl rfl
  · by_cases c2 : i < v 0
    · rw [show decide (0 ≤ i ∧ i < v 0) = true from decide_eq_true (by omega)]
      refine gm_go.ru (gm_iload_n dX3_has_0 rfl) ?_
      refine gm_go.ru (gi_if_lt_f 16 dX3_has_1 (by decide) hr c) ?_
      refine gm_go.ru (gm_iload_n dX3_has_4 rfl) ?_
      refine gm_go.ru (gm_aload_n dX3_has_5 rfl (by first | exact Or.inl ⟨_, rfl⟩ | exact Or.inr ⟨_, rfl⟩)) ?_
      refine gm_go.ru (gm_get dX3_has_6 (fl_X3_22 rfl) (by assumption) rfl) ?_
      refine gm_go.ru (gi_icmp_ge_f 16 dX3_has_9 (by decide) hr (by omega) (by omega)) ?_
      refine gm_go.ru (gi_const dX3_has_12) ?_
      refine gm_go.ru (gm_goto (tgt := 17) dX3_has_13 (by decide)) ?_
      exact gm_zret' dX3_has_17 rfl rfl
    · rw [show decide (0 ≤ i ∧ i < v 0) = false from decide_eq_false (by omega)]
      refine gm_go.ru (gm_iload_n dX3_has_0 rfl) ?_
      refine gm_go.ru (gi_if_lt_f 16 dX3_has_1 (by decide) hr c) ?_
      refine gm_go.ru (gm_iload_n dX3_has_4 rfl) ?_
      refine gm_go.ru (gm_aload_n dX3_has_5 rfl (by first | exact Or.inl ⟨_, rfl⟩ | exact Or.inr ⟨_, rfl⟩)) ?_
      refine gm_go.ru (gm_get dX3_has_6 (fl_X3_22 rfl) (by assumption) rfl) ?_
      refine gm_go.ru (gi_icmp_ge_t (tgt := 16) dX3_has_9 (by decide) hr (by omega) (by omega)) ?_
      refine gm_go.ru (gi_const dX3_has_16) ?_
      exact gm_zret' dX3_has_17 rfl rfl
set_option maxRecDepth 4000 in
theorem ct_isOut {h : gm_H} {n i : Nat} {v : Nat → Int} (hN : nd_at h n v) (hi : i < 8) : gm_co mX3_isOut 2 [.ref n, .int (zI i)] h (.inl (some (.int (zI (zB (decide (v (11 + 10 * i) = 1))))))) h := by
  refine gm_co_of _ (by decide +kernel) rfl (Nat.le_of_ble_eq_true rfl) rfl ?_
  obtain ⟨h1, -⟩ := hN
  have hz := zG_lt v 8
  rw [← zG_bit v 8 i hi]
  refine gm_go.ru (gm_aload_n dX3_isOut_0 rfl (by first | exact Or.inl ⟨_, rfl⟩ | exact Or.inr ⟨_, rfl⟩)) ?_
  refine gm_go.ru (gm_get dX3_isOut_1 (fl_X3_25 rfl) (by assumption) rfl) ?_
  refine gm_go.ru (gm_iload_n dX3_isOut_4 rfl) ?_
  refine gm_go.ru (gm_cS dX3_isOut_5 (ct_holds (s := zG v 8) (k := i) (by omega) (by omega)) rfl mt_X10_holds ms_X10_holds (lk_X3_34 rfl) rfl (Nat.le_of_ble_eq_true rfl) (by decide)) ?_
  exact gm_zret' dX3_isOut_8 rfl rfl
/-- a deviation of the needle i is beyond the tolerance -/
def zWf (v : Nat → Int) (i : Nat) : Nat → Bool
  | 0 => false
  | n + 1 => zWf v i n || decide (v (12 + 10 * i + n) < -v 1 ∨ v 1 < v (12 + 10 * i + n))
def zW (v : Nat → Int) (i : Nat) : Bool := zWf v i 8
theorem zWf_up {v : Nat → Int} {i j : Nat} (h : zWf v i j = true) : ∀ m, j ≤ m → zWf v i m = true := by
  intro m hm
  induction m with
  | zero => rw [show j = 0 by omega] at h; exact h
  | succ m ih =>
    by_cases hj : j = m + 1
    · rw [← hj]; exact h
    · rw [zWf, ih (by omega)]; rfl
set_option maxRecDepth 4000 in
theorem ct_isTooWide {h : gm_H} {n i : Nat} {v : Nat → Int} (hN : nd_at h n v) (hv : nd_iv v) (hi : i < 8) : gm_co mX3_isTooWide 3 [.ref n, .int (zI i)] h (.inl (some (.int (zI (zB (zW v i)))))) h := by
  refine gm_co_of _ (by decide +kernel) rfl (Nat.le_of_ble_eq_true rfl) rfl ?_
  have hd1 := hv.2.1
  have key : ∀ (m j : Nat), j + m = 8 → zWf v i j = false → gm_ru mX3_isTooWide 3 (2, [some (.ref n), some (.int (zI i)), some (.int (zI j))], [], h) (.inl (some (.int (zI (zB (zW v i)))))) h := by
    intro m
    induction m with
    | zero =>
      intro j hj hz
      rw [show zW v i = false by rw [← hz, show j = 8 by omega]; rfl]
      refine gm_go.ru (gm_iload_n dX3_isTooWide_2 rfl) ?_
      refine gm_go.ru (gi_bipush dX3_isTooWide_3 (by decide +kernel)) ?_
      refine gm_go.ru (gi_icmp_ge_t (tgt := 37) dX3_isTooWide_5 (by decide) (by omega) (by omega) (by omega)) ?_
      refine gm_go.ru (gi_const dX3_isTooWide_37) ?_
      exact gm_zret' dX3_isTooWide_38 rfl rfl
    | succ m ih =>
      intro j hj hz
      have hd := hv.2.2.2.2.1 i hi j (by omega)
      obtain ⟨h1, h2⟩ := id hN
      refine gm_go.ru (gm_iload_n dX3_isTooWide_2 rfl) ?_
      refine gm_go.ru (gi_bipush dX3_isTooWide_3 (by decide +kernel)) ?_
      refine gm_go.ru (gi_icmp_ge_f 37 dX3_isTooWide_5 (by decide) (by omega) (by omega) (by omega)) ?_
      refine gm_go.ru (gm_aload_n dX3_isTooWide_8 rfl (by first | exact Or.inl ⟨_, rfl⟩ | exact Or.inr ⟨_, rfl⟩)) ?_
      refine gm_go.ru (gm_iload_n dX3_isTooWide_9 rfl) ?_
      refine gm_go.ru (gm_iload_n dX3_isTooWide_10 rfl) ?_
      refine gm_go.ru (gm_cV dX3_isTooWide_11 (ct_at hN hi (by omega)) rfl mt_X3_at mv_X3_at (lk_X3_38 rfl) (Or.inl ⟨_, 5, _, _, _, rfl, (by assumption), rfl⟩) rfl (Nat.le_of_ble_eq_true rfl) (by decide)) ?_
      refine gm_go.ru (gm_aload_n dX3_isTooWide_14 rfl (by first | exact Or.inl ⟨_, rfl⟩ | exact Or.inr ⟨_, rfl⟩)) ?_
      refine gm_go.ru (gm_get dX3_isTooWide_15 (fl_X3_9 rfl) (by assumption) rfl) ?_
      refine gm_go.ru (gi_neg dX3_isTooWide_18) ?_
      refine gm_go.ru (gm_aload_n dX3_isTooWide_19 rfl (by first | exact Or.inl ⟨_, rfl⟩ | exact Or.inr ⟨_, rfl⟩)) ?_
      refine gm_go.ru (gm_get dX3_isTooWide_20 (fl_X3_9 rfl) (by assumption) rfl) ?_
      refine gm_go.ru (gm_cS dX3_isTooWide_23 (ct_outside (by omega) (by omega) (by omega)) rfl mt_X10_outside ms_X10_outside (lk_X3_42 rfl) rfl (Nat.le_of_ble_eq_true rfl) (by decide)) ?_
      by_cases c : v (12 + 10 * i + j) < -v 1 ∨ v 1 < v (12 + 10 * i + j)
      · have hw : zW v i = true := zWf_up (j := j + 1) (by simp [zWf, c]) 8 (by omega)
        rw [hw, decide_eq_true c]
        refine gm_go.ru (gi_if_eq_f 31 dX3_isTooWide_26 (by decide) (by decide) (by decide)) ?_
        refine gm_go.ru (gi_const dX3_isTooWide_29) ?_
        exact gm_zret' dX3_isTooWide_30 rfl rfl
      · rw [decide_eq_false c]
        refine gm_go.ru (gi_if_eq_t (tgt := 31) dX3_isTooWide_26 (by decide) (by decide) rfl) ?_
        refine gm_go.ru (gi_iinc (ls' := [_, _, _]) dX3_isTooWide_31 rfl (by decide) rfl) ?_
        refine gm_go.ru (gm_goto (tgt := 2) dX3_isTooWide_34 (by decide)) ?_
        exact ih (j + 1) (by omega) (by simp [zWf, hz, c])
  refine gm_go.ru (gi_const dX3_isTooWide_0) ?_
  refine gm_go.ru (gm_istore_n (ls' := [_, _, _]) dX3_isTooWide_1 (by decide) rfl) ?_
  exact key 8 0 (by omega) rfl
/-- the error of the table, shifted by k; its first j squares -/
def zEf (v : Nat → Int) (i : Nat) (k : Int) : Nat → Int
  | 0 => 0
  | n + 1 => zEf v i k n + (v (12 + 10 * i + n) + k) * (v (12 + 10 * i + n) + k)
def zE (v : Nat → Int) (i : Nat) (k : Int) : Int := zEf v i k 8
set_option maxRecDepth 4000 in
theorem ct_errorShiftedBy {h : gm_H} {n i : Nat} {k : Int} {v : Nat → Int} (hN : nd_at h n v) (hi : i < 8) : gm_co mX3_errorShiftedBy 2 [.ref n, .int (zI i), .int (zI k)] h (.inl (some (.int (zI (zE v i k))))) h := by
  refine gm_co_of _ (by decide +kernel) rfl (Nat.le_of_ble_eq_true rfl) rfl ?_
  have key : ∀ (m j : Nat) (x : Option Value), j + m = 8 → gm_ru mX3_errorShiftedBy 2 (5, [some (.ref n), some (.int (zI i)), some (.int (zI k)), some (.int (zI (zEf v i k j))), some (.int (zI j)), x], [], h) (.inl (some (.int (zI (zE v i k))))) h := by
    intro m
    induction m with
    | zero =>
      intro j x hj
      rw [show zE v i k = zEf v i k j by rw [show j = 8 by omega]; rfl]
      refine gm_go.ru (gm_iload dX3_errorShiftedBy_5 rfl) ?_
      refine gm_go.ru (gi_bipush dX3_errorShiftedBy_7 (by decide +kernel)) ?_
      refine gm_go.ru (gi_icmp_ge_t (tgt := 37) dX3_errorShiftedBy_9 (by decide) (by omega) (by omega) (by omega)) ?_
      refine gm_go.ru (gm_iload_n dX3_errorShiftedBy_37 rfl) ?_
      exact gm_iret dX3_errorShiftedBy_38 rfl
    | succ m ih =>
      intro j x hj
      obtain ⟨h1, h2⟩ := id hN
      refine gm_go.ru (gm_iload dX3_errorShiftedBy_5 rfl) ?_
      refine gm_go.ru (gi_bipush dX3_errorShiftedBy_7 (by decide +kernel)) ?_
      refine gm_go.ru (gi_icmp_ge_f 37 dX3_errorShiftedBy_9 (by decide) (by omega) (by omega) (by omega)) ?_
      refine gm_go.ru (gm_aload_n dX3_errorShiftedBy_12 rfl (by first | exact Or.inl ⟨_, rfl⟩ | exact Or.inr ⟨_, rfl⟩)) ?_
      refine gm_go.ru (gm_iload_n dX3_errorShiftedBy_13 rfl) ?_
      refine gm_go.ru (gm_iload dX3_errorShiftedBy_14 rfl) ?_
      refine gm_go.ru (gm_cV dX3_errorShiftedBy_16 (ct_at hN hi (by omega)) rfl mt_X3_at mv_X3_at (lk_X3_38 rfl) (Or.inl ⟨_, 5, _, _, _, rfl, (by assumption), rfl⟩) rfl (Nat.le_of_ble_eq_true rfl) (by decide)) ?_
      refine gm_go.ru (gm_iload_n dX3_errorShiftedBy_19 rfl) ?_
      refine gm_go.ru (gi_add dX3_errorShiftedBy_20) ?_
      refine gm_go.ru (gm_istore (ls' := [_, _, _, _, _, _]) dX3_errorShiftedBy_21 (by decide) rfl) ?_
      refine gm_go.ru (gm_iload_n dX3_errorShiftedBy_23 rfl) ?_
      refine gm_go.ru (gm_iload dX3_errorShiftedBy_24 rfl) ?_
      refine gm_go.ru (gm_iload dX3_errorShiftedBy_26 rfl) ?_
      refine gm_go.ru (gi_mul dX3_errorShiftedBy_28) ?_
      refine gm_go.ru (gi_add dX3_errorShiftedBy_29) ?_
      refine gm_go.ru (gm_istore_n (ls' := [_, _, _, _, _, _]) dX3_errorShiftedBy_30 (by decide) rfl) ?_
      refine gm_go.ru (gi_iinc (ls' := [_, _, _, _, _, _]) dX3_errorShiftedBy_31 rfl (by decide) rfl) ?_
      refine gm_go.ru (gm_goto (tgt := 5) dX3_errorShiftedBy_34 (by decide)) ?_
      exact ih (j + 1) _ (by omega)
  refine gm_go.ru (gi_const dX3_errorShiftedBy_0) ?_
  refine gm_go.ru (gm_istore_n (ls' := [_, _, _, _, _, _]) dX3_errorShiftedBy_1 (by decide) rfl) ?_
  refine gm_go.ru (gi_const dX3_errorShiftedBy_2) ?_
  refine gm_go.ru (gm_istore (ls' := [_, _, _, _, _, _]) dX3_errorShiftedBy_3 (by decide) rfl) ?_
  exact key 8 0 _ (by omega)
