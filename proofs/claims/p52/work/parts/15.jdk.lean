/-! the JDK's own: abs, min, max, floorDiv, floorMod, bitCount, fill -/
set_option maxRecDepth 4000 in
theorem ct_abs {h : gm_H} {a : Int} (ha : zR a) : gm_co mJ9_abs_0f7a4 1 [.int (zI a)] h (.inl (some (.int (zI (if 0 ≤ a then a else -a))))) h := by
  refine gm_co_ofF _ (by decide +kernel) rfl (Nat.le_of_ble_eq_true rfl) rfl ?_
  refine gm_go.ru (gm_iload_n dJ9_abs_0f7a4_0 rfl) ?_
  by_cases c1_1 : 0 ≤ a
  ·
    refine gm_go.ru (gi_if_ge_t (tgt := 9) dJ9_abs_0f7a4_1 (by decide) ha c1_1) ?_
    refine gm_go.ru (gm_iload_n dJ9_abs_0f7a4_9 rfl) ?_
    exact gm_iret' dJ9_abs_0f7a4_10 rfl (congrArg zI (by omega)) rfl
  ·
    refine gm_go.ru (gi_if_ge_f 9 dJ9_abs_0f7a4_1 (by decide) ha c1_1) ?_
    refine gm_go.ru (gm_iload_n dJ9_abs_0f7a4_4 rfl) ?_
    refine gm_go.ru (gi_neg dJ9_abs_0f7a4_5) ?_
    refine gm_go.ru (gm_goto (tgt := 10) dJ9_abs_0f7a4_6 (by decide)) ?_
    exact gm_iret' dJ9_abs_0f7a4_10 rfl (congrArg zI (by omega)) rfl
set_option maxRecDepth 4000 in
theorem ct_max {h : gm_H} {a b : Int} (ha : zR a) (hb : zR b) : gm_co mJ9_max_7cf53 1 [.int (zI a), .int (zI b)] h (.inl (some (.int (zI (max a b))))) h := by
  refine gm_co_ofF _ (by decide +kernel) rfl (Nat.le_of_ble_eq_true rfl) rfl ?_
  refine gm_go.ru (gm_iload_n dJ9_max_7cf53_0 rfl) ?_
  refine gm_go.ru (gm_iload_n dJ9_max_7cf53_1 rfl) ?_
  by_cases c1_2 : a < b
  ·
    refine gm_go.ru (gi_icmp_lt_t (tgt := 9) dJ9_max_7cf53_2 (by decide) ha hb c1_2) ?_
    refine gm_go.ru (gm_iload_n dJ9_max_7cf53_9 rfl) ?_
    exact gm_iret' dJ9_max_7cf53_10 rfl (congrArg zI (by omega)) rfl
  ·
    refine gm_go.ru (gi_icmp_lt_f 9 dJ9_max_7cf53_2 (by decide) ha hb c1_2) ?_
    refine gm_go.ru (gm_iload_n dJ9_max_7cf53_5 rfl) ?_
    refine gm_go.ru (gm_goto (tgt := 10) dJ9_max_7cf53_6 (by decide)) ?_
    exact gm_iret' dJ9_max_7cf53_10 rfl (congrArg zI (by omega)) rfl
set_option maxRecDepth 4000 in
theorem ct_min {h : gm_H} {a b : Int} (ha : zR a) (hb : zR b) : gm_co mJ9_min_7cf53 1 [.int (zI a), .int (zI b)] h (.inl (some (.int (zI (min a b))))) h := by
  refine gm_co_ofF _ (by decide +kernel) rfl (Nat.le_of_ble_eq_true rfl) rfl ?_
  refine gm_go.ru (gm_iload_n dJ9_min_7cf53_0 rfl) ?_
  refine gm_go.ru (gm_iload_n dJ9_min_7cf53_1 rfl) ?_
  by_cases c1_2 : b < a
  ·
    refine gm_go.ru (gi_icmp_gt_t (tgt := 9) dJ9_min_7cf53_2 (by decide) ha hb c1_2) ?_
    refine gm_go.ru (gm_iload_n dJ9_min_7cf53_9 rfl) ?_
    exact gm_iret' dJ9_min_7cf53_10 rfl (congrArg zI (by omega)) rfl
  ·
    refine gm_go.ru (gi_icmp_gt_f 9 dJ9_min_7cf53_2 (by decide) ha hb c1_2) ?_
    refine gm_go.ru (gm_iload_n dJ9_min_7cf53_5 rfl) ?_
    refine gm_go.ru (gm_goto (tgt := 10) dJ9_min_7cf53_6 (by decide)) ?_
    exact gm_iret' dJ9_min_7cf53_10 rfl (congrArg zI (by omega)) rfl
theorem zI_msb (x : Int32) : 0 ≤ x ↔ x.toBitVec.msb = false := by
  rw [Int32.le_iff_toInt_le, BitVec.msb_eq_toInt]
  show (0 : Int) ≤ x.toInt ↔ decide (x.toInt < 0) = false
  simp
theorem zI_xs {a b : Int} (ha : zR a) (hb : zR b) (h0 : 0 ≤ b) : 0 ≤ zI a ^^^ zI b ↔ 0 ≤ a := by
  have h1 : (zI b).toBitVec.msb = false := (zI_msb _).mp (by rw [zI_0, zI_le zR_0 hb]; exact h0)
  rw [zI_msb, Int32.toBitVec_xor, BitVec.msb_xor, h1, Bool.xor_false, ← zI_msb, zI_0, zI_le zR_0 ha]
theorem z_tdiv {a b : Int} (hb : 0 < b) : a.tdiv b = if 0 ≤ a then a / b else -((-a) / b) := by
  split
  · exact Int.tdiv_eq_ediv_of_nonneg (by omega)
  · have h1 : a = -(-a) := by omega
    rw [h1, Int.neg_tdiv, Int.tdiv_eq_ediv_of_nonneg (by omega)]
    simp
theorem z_tmod {a b : Int} (hb : 0 < b) : a.tmod b = if 0 ≤ a then a % b else -((-a) % b) := by
  split
  · exact Int.tmod_eq_emod_of_nonneg (by omega)
  · have h1 : a = -(-a) := by omega
    rw [h1, Int.neg_tmod, Int.tmod_eq_emod_of_nonneg (by omega)]
    simp
set_option maxRecDepth 4000 in
theorem ct_floorDiv45 {h : gm_H} {a : Int} (ha : zR a) : gm_co mJ9_floorDiv_7cf53 1 [.int (zI a), .int (zI 45)] h (.inl (some (.int (zI (a / 45))))) h := by
  refine gm_co_ofF _ (by decide +kernel) rfl (Nat.le_of_ble_eq_true rfl) rfl ?_
  have hT := z_tdiv (a := a) (b := 45) (by decide)
  by_cases c : 0 ≤ a
  · rw [if_pos c] at hT
    refine gm_go.ru (gm_iload_n dJ9_floorDiv_7cf53_0 rfl) ?_
    refine gm_go.ru (gm_iload_n dJ9_floorDiv_7cf53_1 rfl) ?_
    refine gm_go.ru (gi_div dJ9_floorDiv_7cf53_2 ha (by decide) (by decide)) ?_
    refine gm_go.ru (gm_istore_n (ls' := [_, _, _]) dJ9_floorDiv_7cf53_3 (by decide) rfl) ?_
    refine gm_go.ru (gm_iload_n dJ9_floorDiv_7cf53_4 rfl) ?_
    refine gm_go.ru (gm_iload_n dJ9_floorDiv_7cf53_5 rfl) ?_
    refine gm_go.ru (gm_ixor dJ9_floorDiv_7cf53_6) ?_
    refine gm_go.ru (gm_if_ge_t (tgt := 21) dJ9_floorDiv_7cf53_7 (by decide) ((zI_xs ha (by decide) (by decide)).mpr c)) ?_
    refine gm_go.ru (gm_iload_n dJ9_floorDiv_7cf53_21 rfl) ?_
    exact gm_iret' dJ9_floorDiv_7cf53_22 rfl (congrArg zI (by omega)) rfl
  · rw [if_neg c] at hT
    by_cases c2 : a.tdiv 45 * 45 = a
    ·
      refine gm_go.ru (gm_iload_n dJ9_floorDiv_7cf53_0 rfl) ?_
      refine gm_go.ru (gm_iload_n dJ9_floorDiv_7cf53_1 rfl) ?_
      refine gm_go.ru (gi_div dJ9_floorDiv_7cf53_2 ha (by decide) (by decide)) ?_
      refine gm_go.ru (gm_istore_n (ls' := [_, _, _]) dJ9_floorDiv_7cf53_3 (by decide) rfl) ?_
      refine gm_go.ru (gm_iload_n dJ9_floorDiv_7cf53_4 rfl) ?_
      refine gm_go.ru (gm_iload_n dJ9_floorDiv_7cf53_5 rfl) ?_
      refine gm_go.ru (gm_ixor dJ9_floorDiv_7cf53_6) ?_
      refine gm_go.ru (gm_if_ge_f 21 dJ9_floorDiv_7cf53_7 (by decide) (fun z => c ((zI_xs ha (by decide) (by decide)).mp z))) ?_
      refine gm_go.ru (gm_iload_n dJ9_floorDiv_7cf53_10 rfl) ?_
      refine gm_go.ru (gm_iload_n dJ9_floorDiv_7cf53_11 rfl) ?_
      refine gm_go.ru (gi_mul dJ9_floorDiv_7cf53_12) ?_
      refine gm_go.ru (gm_iload_n dJ9_floorDiv_7cf53_13 rfl) ?_
      refine gm_go.ru (gi_icmp_eq_t (tgt := 21) dJ9_floorDiv_7cf53_14 (by decide) (by omega) ha c2) ?_
      refine gm_go.ru (gm_iload_n dJ9_floorDiv_7cf53_21 rfl) ?_
      exact gm_iret' dJ9_floorDiv_7cf53_22 rfl (congrArg zI (by omega)) rfl
    ·
      refine gm_go.ru (gm_iload_n dJ9_floorDiv_7cf53_0 rfl) ?_
      refine gm_go.ru (gm_iload_n dJ9_floorDiv_7cf53_1 rfl) ?_
      refine gm_go.ru (gi_div dJ9_floorDiv_7cf53_2 ha (by decide) (by decide)) ?_
      refine gm_go.ru (gm_istore_n (ls' := [_, _, _]) dJ9_floorDiv_7cf53_3 (by decide) rfl) ?_
      refine gm_go.ru (gm_iload_n dJ9_floorDiv_7cf53_4 rfl) ?_
      refine gm_go.ru (gm_iload_n dJ9_floorDiv_7cf53_5 rfl) ?_
      refine gm_go.ru (gm_ixor dJ9_floorDiv_7cf53_6) ?_
      refine gm_go.ru (gm_if_ge_f 21 dJ9_floorDiv_7cf53_7 (by decide) (fun z => c ((zI_xs ha (by decide) (by decide)).mp z))) ?_
      refine gm_go.ru (gm_iload_n dJ9_floorDiv_7cf53_10 rfl) ?_
      refine gm_go.ru (gm_iload_n dJ9_floorDiv_7cf53_11 rfl) ?_
      refine gm_go.ru (gi_mul dJ9_floorDiv_7cf53_12) ?_
      refine gm_go.ru (gm_iload_n dJ9_floorDiv_7cf53_13 rfl) ?_
      refine gm_go.ru (gi_icmp_eq_f 21 dJ9_floorDiv_7cf53_14 (by decide) (by omega) ha c2) ?_
      refine gm_go.ru (gm_iload_n dJ9_floorDiv_7cf53_17 rfl) ?_
      refine gm_go.ru (gi_const dJ9_floorDiv_7cf53_18) ?_
      refine gm_go.ru (gi_sub dJ9_floorDiv_7cf53_19) ?_
      exact gm_iret' dJ9_floorDiv_7cf53_20 rfl (congrArg zI (by omega)) rfl
set_option maxRecDepth 4000 in
theorem ct_floorMod360 {h : gm_H} {a : Int} (ha : zR a) : gm_co mJ9_floorMod_7cf53 1 [.int (zI a), .int (zI 360)] h (.inl (some (.int (zI (a % 360))))) h := by
  refine gm_co_ofF _ (by decide +kernel) rfl (Nat.le_of_ble_eq_true rfl) rfl ?_
  have hT := z_tmod (a := a) (b := 360) (by decide)
  by_cases c : 0 ≤ a
  · rw [if_pos c] at hT
    refine gm_go.ru (gm_iload_n dJ9_floorMod_7cf53_0 rfl) ?_
    refine gm_go.ru (gm_iload_n dJ9_floorMod_7cf53_1 rfl) ?_
    refine gm_go.ru (gi_rem dJ9_floorMod_7cf53_2 ha (by decide) (by decide)) ?_
    refine gm_go.ru (gm_istore_n (ls' := [_, _, _]) dJ9_floorMod_7cf53_3 (by decide) rfl) ?_
    refine gm_go.ru (gm_iload_n dJ9_floorMod_7cf53_4 rfl) ?_
    refine gm_go.ru (gm_iload_n dJ9_floorMod_7cf53_5 rfl) ?_
    refine gm_go.ru (gm_ixor dJ9_floorMod_7cf53_6) ?_
    refine gm_go.ru (gm_if_ge_t (tgt := 18) dJ9_floorMod_7cf53_7 (by decide) ((zI_xs ha (by decide) (by decide)).mpr c)) ?_
    refine gm_go.ru (gm_iload_n dJ9_floorMod_7cf53_18 rfl) ?_
    exact gm_iret' dJ9_floorMod_7cf53_19 rfl (congrArg zI (by omega)) rfl
  · rw [if_neg c] at hT
    by_cases c2 : a.tmod 360 = 0
    ·
      refine gm_go.ru (gm_iload_n dJ9_floorMod_7cf53_0 rfl) ?_
      refine gm_go.ru (gm_iload_n dJ9_floorMod_7cf53_1 rfl) ?_
      refine gm_go.ru (gi_rem dJ9_floorMod_7cf53_2 ha (by decide) (by decide)) ?_
      refine gm_go.ru (gm_istore_n (ls' := [_, _, _]) dJ9_floorMod_7cf53_3 (by decide) rfl) ?_
      refine gm_go.ru (gm_iload_n dJ9_floorMod_7cf53_4 rfl) ?_
      refine gm_go.ru (gm_iload_n dJ9_floorMod_7cf53_5 rfl) ?_
      refine gm_go.ru (gm_ixor dJ9_floorMod_7cf53_6) ?_
      refine gm_go.ru (gm_if_ge_f 18 dJ9_floorMod_7cf53_7 (by decide) (fun z => c ((zI_xs ha (by decide) (by decide)).mp z))) ?_
      refine gm_go.ru (gm_iload_n dJ9_floorMod_7cf53_10 rfl) ?_
      refine gm_go.ru (gi_if_eq_t (tgt := 18) dJ9_floorMod_7cf53_11 (by decide) (by omega) c2) ?_
      refine gm_go.ru (gm_iload_n dJ9_floorMod_7cf53_18 rfl) ?_
      exact gm_iret' dJ9_floorMod_7cf53_19 rfl (congrArg zI (by omega)) rfl
    ·
      refine gm_go.ru (gm_iload_n dJ9_floorMod_7cf53_0 rfl) ?_
      refine gm_go.ru (gm_iload_n dJ9_floorMod_7cf53_1 rfl) ?_
      refine gm_go.ru (gi_rem dJ9_floorMod_7cf53_2 ha (by decide) (by decide)) ?_
      refine gm_go.ru (gm_istore_n (ls' := [_, _, _]) dJ9_floorMod_7cf53_3 (by decide) rfl) ?_
      refine gm_go.ru (gm_iload_n dJ9_floorMod_7cf53_4 rfl) ?_
      refine gm_go.ru (gm_iload_n dJ9_floorMod_7cf53_5 rfl) ?_
      refine gm_go.ru (gm_ixor dJ9_floorMod_7cf53_6) ?_
      refine gm_go.ru (gm_if_ge_f 18 dJ9_floorMod_7cf53_7 (by decide) (fun z => c ((zI_xs ha (by decide) (by decide)).mp z))) ?_
      refine gm_go.ru (gm_iload_n dJ9_floorMod_7cf53_10 rfl) ?_
      refine gm_go.ru (gi_if_eq_f 18 dJ9_floorMod_7cf53_11 (by decide) (by omega) c2) ?_
      refine gm_go.ru (gm_iload_n dJ9_floorMod_7cf53_14 rfl) ?_
      refine gm_go.ru (gm_iload_n dJ9_floorMod_7cf53_15 rfl) ?_
      refine gm_go.ru (gi_add dJ9_floorMod_7cf53_16) ?_
      exact gm_iret' dJ9_floorMod_7cf53_17 rfl (congrArg zI (by omega)) rfl
/-- how many of the first k places are in the set -/
def zPf (n : Nat) : Nat → Nat
  | 0 => 0
  | k + 1 => zPf n k + (if n.testBit k then 1 else 0)
def zPC (n : Nat) : Nat := zPf n 8
def z_bc (x : Int32) : Int32 :=
  let us := fun (x : Int32) (k : Int32) => (x.toUInt32 >>> (k.toUInt32 &&& Int32.toUInt32 31)).toInt32
  let x1 := x - (us x (zI 1) &&& 1431655765)
  let x2 := (x1 &&& 858993459) + (us x1 (zI 2) &&& 858993459)
  let x3 := (x2 + us x2 (zI 4)) &&& 252645135
  let x4 := x3 + us x3 (zI 8)
  let x5 := x4 + us x4 (zI 16)
  x5 &&& zI 63
theorem z_bc_all : ∀ n : Nat, n < 256 → z_bc (zI (n : Int)) = zI ((zPC n : Nat) : Int) := by decide +kernel
set_option maxRecDepth 4000 in
theorem ct_bitCount {h : gm_H} {n : Nat} (hn : n < 256) : gm_co mJ6_bitCount_0f7a4 1 [.int (zI n)] h (.inl (some (.int (zI ((zPC n : Nat) : Int))))) h := by
  refine gm_co_ofF _ (by decide +kernel) rfl (Nat.le_of_ble_eq_true rfl) rfl ?_
  refine gm_go.ru (gm_iload_n dJ6_bitCount_0f7a4_0 rfl) ?_
  refine gm_go.ru (gm_iload_n dJ6_bitCount_0f7a4_1 rfl) ?_
  refine gm_go.ru (gi_const dJ6_bitCount_0f7a4_2) ?_
  refine gm_go.ru (gm_iushr rfl dJ6_bitCount_0f7a4_3) ?_
  refine gm_go.ru (gm_ldcw dJ6_bitCount_0f7a4_4 (kc_J6_265 rfl)) ?_
  refine gm_go.ru (gm_iand dJ6_bitCount_0f7a4_7) ?_
  refine gm_go.ru (gm_isub dJ6_bitCount_0f7a4_8) ?_
  refine gm_go.ru (gm_istore_n (ls' := [_]) dJ6_bitCount_0f7a4_9 (by decide) rfl) ?_
  refine gm_go.ru (gm_iload_n dJ6_bitCount_0f7a4_10 rfl) ?_
  refine gm_go.ru (gm_ldcw dJ6_bitCount_0f7a4_11 (kc_J6_266 rfl)) ?_
  refine gm_go.ru (gm_iand dJ6_bitCount_0f7a4_14) ?_
  refine gm_go.ru (gm_iload_n dJ6_bitCount_0f7a4_15 rfl) ?_
  refine gm_go.ru (gi_const dJ6_bitCount_0f7a4_16) ?_
  refine gm_go.ru (gm_iushr rfl dJ6_bitCount_0f7a4_17) ?_
  refine gm_go.ru (gm_ldcw dJ6_bitCount_0f7a4_18 (kc_J6_266 rfl)) ?_
  refine gm_go.ru (gm_iand dJ6_bitCount_0f7a4_21) ?_
  refine gm_go.ru (gm_iadd dJ6_bitCount_0f7a4_22) ?_
  refine gm_go.ru (gm_istore_n (ls' := [_]) dJ6_bitCount_0f7a4_23 (by decide) rfl) ?_
  refine gm_go.ru (gm_iload_n dJ6_bitCount_0f7a4_24 rfl) ?_
  refine gm_go.ru (gm_iload_n dJ6_bitCount_0f7a4_25 rfl) ?_
  refine gm_go.ru (gi_const dJ6_bitCount_0f7a4_26) ?_
  refine gm_go.ru (gm_iushr rfl dJ6_bitCount_0f7a4_27) ?_
  refine gm_go.ru (gm_iadd dJ6_bitCount_0f7a4_28) ?_
  refine gm_go.ru (gm_ldcw dJ6_bitCount_0f7a4_29 (kc_J6_267 rfl)) ?_
  refine gm_go.ru (gm_iand dJ6_bitCount_0f7a4_32) ?_
  refine gm_go.ru (gm_istore_n (ls' := [_]) dJ6_bitCount_0f7a4_33 (by decide) rfl) ?_
  refine gm_go.ru (gm_iload_n dJ6_bitCount_0f7a4_34 rfl) ?_
  refine gm_go.ru (gm_iload_n dJ6_bitCount_0f7a4_35 rfl) ?_
  refine gm_go.ru (gi_bipush dJ6_bitCount_0f7a4_36 (by decide +kernel)) ?_
  refine gm_go.ru (gm_iushr rfl dJ6_bitCount_0f7a4_38) ?_
  refine gm_go.ru (gm_iadd dJ6_bitCount_0f7a4_39) ?_
  refine gm_go.ru (gm_istore_n (ls' := [_]) dJ6_bitCount_0f7a4_40 (by decide) rfl) ?_
  refine gm_go.ru (gm_iload_n dJ6_bitCount_0f7a4_41 rfl) ?_
  refine gm_go.ru (gm_iload_n dJ6_bitCount_0f7a4_42 rfl) ?_
  refine gm_go.ru (gi_bipush dJ6_bitCount_0f7a4_43 (by decide +kernel)) ?_
  refine gm_go.ru (gm_iushr rfl dJ6_bitCount_0f7a4_45) ?_
  refine gm_go.ru (gm_iadd dJ6_bitCount_0f7a4_46) ?_
  refine gm_go.ru (gm_istore_n (ls' := [_]) dJ6_bitCount_0f7a4_47 (by decide) rfl) ?_
  refine gm_go.ru (gm_iload_n dJ6_bitCount_0f7a4_48 rfl) ?_
  refine gm_go.ru (gi_bipush dJ6_bitCount_0f7a4_49 (by decide +kernel)) ?_
  refine gm_go.ru (gm_iand dJ6_bitCount_0f7a4_51) ?_
  exact gm_iret' dJ6_bitCount_0f7a4_52 rfl (z_bc_all n hn) rfl
