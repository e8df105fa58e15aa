theorem zE0f {v : Nat → Int} (hv : nd_iv v) {i : Nat} (hi : i < 8) : ∀ n : Nat, n ≤ 8 → 0 ≤ zEf v i 0 n ∧ zEf v i 0 n ≤ 400 * n := by
  intro n
  induction n with
  | zero => intro _; simp [zEf]
  | succ n ih =>
    intro hn
    have h1 := ih (by omega)
    have h2 := hv.2.2.2.2.1 i hi n (by omega)
    simp only [zEf]
    generalize v (12 + 10 * i + n) = a at *
    have h3 : 0 ≤ (a + 0) * (a + 0) ∧ (a + 0) * (a + 0) ≤ 400 := by
      have e : ((a + 0).natAbs : Int) * ((a + 0).natAbs : Int) = (a + 0) * (a + 0) := Int.natAbs_mul_self' _
      rw [← e]
      have : (a + 0).natAbs ≤ 20 := by omega
      have h5 := Nat.mul_le_mul this this
      omega
    omega
theorem zE0 {v : Nat → Int} (hv : nd_iv v) {i : Nat} (hi : i < 8) : 0 ≤ zE v i 0 ∧ zE v i 0 ≤ 3200 := zE0f hv hi 8 (Nat.le_refl 8)
/-- the errors of the good ones below n -/
def zMs (v : Nat → Int) : Nat → Int
  | 0 => 0
  | n + 1 => zMs v n + (if (zGd v).testBit n then zE v n 0 else 0)
theorem zMs_r {v : Nat → Int} (hv : nd_iv v) : ∀ n : Nat, n ≤ 8 → 0 ≤ zMs v n ∧ zMs v n ≤ 3200 * n := by
  intro n
  induction n with
  | zero => intro _; simp [zMs]
  | succ n ih =>
    intro hn
    have h1 := ih (by omega)
    have h2 := zE0 hv (i := n) (by omega)
    rw [zMs]
    split <;> omega
theorem zPC_8 : ∀ S : Nat, S < 256 → zPC S ≤ 8 ∧ (zPC S = 0 ↔ S = 0) := by decide +kernel
/-- what meanError answers -/
def zMean (v : Nat → Int) : UInt64 := FP.ddiv (FP.i2d (zI (zMs v (v 0).toNat))) (FP.i2d (zI ((zPC (zGd v) : Nat) : Int)))
theorem zMean_e {v : Nat → Int} (hv : nd_iv v) : zMean v = zMe (zMs v (v 0).toNat).toNat (zPC (zGd v)) := by
  have := zMs_r hv (v 0).toNat (by have := hv.1; omega)
  unfold zMean zMe
  rw [Int.toNat_of_nonneg this.1]
theorem zMean_n {v : Nat → Int} (hv : nd_iv v) (h0 : zGd v ≠ 0) : vf_n64 (zMean v) ∧ FP.dcmp (zMean v) (zMean v) = some .eq := by
  have h1 := zMs_r hv (v 0).toNat (by have := hv.1; omega)
  have h2 := zPC_8 _ (zGd_lt hv)
  have h3 := hv.1
  rw [zMean_e hv]
  exact ⟨zMe_n (by omega) (by omega) (by omega), zMe_c (by omega) (by omega) (by omega)⟩
/-- what bakingShare answers -/
def zShare (v : Nat → Int) : UInt32 := FP.fdiv (FP.i2f (zI (v 6))) (FP.i2f (zI (v 2)))
theorem zShare_e {T : Nat} {v : Nat → Int} (hv : ov_iv T v) : zShare v = zSh (v 6).toNat (v 2).toNat := by
  unfold zShare zSh
  rw [Int.toNat_of_nonneg hv.1.1, Int.toNat_of_nonneg hv.2.2.2.2.1.1]
theorem zShare_n {T : Nat} {v : Nat → Int} (hv : ov_iv T v) (h0 : v 2 ≠ 0) : vf_n32 (zShare v) ∧ vf_n64 (FP.f2d (zShare v)) ∧ FP.dcmp (FP.f2d (zShare v)) (FP.f2d (zShare v)) = some .eq := by
  have h1 := hv.1
  have h2 := hv.2.2.2.2.1
  have h3 := hv.2.2.2.2.2.2.2.1
  rw [zShare_e hv]
  exact ⟨zSh_n (by omega) (by omega) (by omega), zSh_d (by omega) (by omega) (by omega)⟩
set_option maxRecDepth 4000 in
theorem ct_meanError {h : gm_H} {n : Nat} {v : Nat → Int} {hs ep fc : Int} (hB : h.1[n]? = some (by_c n hs ep fc)) (hS : st_at h (n + 1) v) (hv : nd_iv v) (hq : zGd v ≠ 0) : gm_co mX10_meanError 10 [.ref n] h (.inl (some (.double (zMean v)))) h := by
  refine gm_co_of _ (by decide +kernel) rfl (Nat.le_of_ble_eq_true rfl) rfl ?_
  obtain ⟨s0, sN, sO⟩ := id hS
  obtain ⟨h1, S, D, h2, h3, nS, nD⟩ := id sN
  obtain ⟨o1, I, M, U, Y, o2, o3, o4, o5, oD⟩ := id sO
  have g8 := zGd_lt hv
  have p8 := zPC_8 _ g8
  have v8 := hv.1
  have key : ∀ (m j : Nat), j + m = (v 0).toNat → gm_ru mX10_meanError 10 (38, [some (.ref n), some (.ref (n + 1 + 1)), some (.int (zI ((zGd v : Nat) : Int))), some (.int (zI ((zPC (zGd v) : Nat) : Int))), some (.int (zI (zMs v j))), some (.int (zI (j : Int)))], [], h) (.inl (some (.double (zMean v)))) h := by
    intro m
    induction m with
    | zero =>
      intro j hj
      obtain rfl : j = (v 0).toNat := by omega
      have m8 := zMs_r hv (v 0).toNat (by omega)
      have nn := (zMean_n hv hq).1
      refine gm_go.ru (gm_iload dX10_meanError_38 rfl) ?_
      refine gm_go.ru (gm_aload_n dX10_meanError_40 rfl (by first | exact Or.inl ⟨_, rfl⟩ | exact Or.inr ⟨_, rfl⟩)) ?_
      refine gm_go.ru (gm_get dX10_meanError_41 (fl_X10_94 rfl) h1 rfl) ?_
      refine gm_go.ru (gi_icmp_ge_t (tgt := 74) dX10_meanError_44 (by decide) (by omega) (by omega) (by omega)) ?_
      refine gm_go.ru (gm_iload dX10_meanError_74 rfl) ?_
      refine gm_go.ru (gm_i2d dX10_meanError_76) ?_
      refine gm_go.ru (gm_iload_n dX10_meanError_77 rfl) ?_
      refine gm_go.ru (gm_i2d dX10_meanError_78) ?_
      refine gm_go.ru (gm_ddiv nn dX10_meanError_79) ?_
      exact gm_dret dX10_meanError_80 rfl
    | succ m ih =>
      intro j hj
      have m8 := zMs_r hv j (by omega)
      have j8 : j < 8 := by omega
      have e8 := zE0 hv j8
      have hn := ih (j + 1) (by omega)
      rw [zMs] at hn
      refine gm_go.ru (gm_iload dX10_meanError_38 rfl) ?_
      refine gm_go.ru (gm_aload_n dX10_meanError_40 rfl (by first | exact Or.inl ⟨_, rfl⟩ | exact Or.inr ⟨_, rfl⟩)) ?_
      refine gm_go.ru (gm_get dX10_meanError_41 (fl_X10_94 rfl) h1 rfl) ?_
      refine gm_go.ru (gi_icmp_ge_f 74 dX10_meanError_44 (by decide) (by omega) (by omega) (by omega)) ?_
      refine gm_go.ru (gm_iload_n dX10_meanError_47 rfl) ?_
      refine gm_go.ru (gm_iload dX10_meanError_48 rfl) ?_
      refine gm_go.ru (gm_cS dX10_meanError_50 (ct_holds (by omega) (by omega)) rfl mt_X10_holds ms_X10_holds (lk_X10_175 rfl) rfl (Nat.le_of_ble_eq_true rfl) (by decide)) ?_
      cases hb : (zGd v).testBit j
      ·
        rw [hb, if_neg (by decide)] at hn
        rw [Int.add_zero] at hn
        refine gm_go.ru (gi_if_eq_t (tgt := 68) dX10_meanError_53 (by decide) (by decide) rfl) ?_
        refine gm_go.ru (gi_iinc (ls' := [_, _, _, _, _, _]) dX10_meanError_68 rfl (by decide) rfl) ?_
        refine gm_go.ru (gm_goto (tgt := 38) dX10_meanError_71 (by decide)) ?_
        exact hn
      ·
        rw [hb, if_pos rfl] at hn
        refine gm_go.ru (gi_if_eq_f 68 dX10_meanError_53 (by decide) (by decide) (by decide)) ?_
        refine gm_go.ru (gm_iload dX10_meanError_56 rfl) ?_
        refine gm_go.ru (gm_aload_n dX10_meanError_58 rfl (by first | exact Or.inl ⟨_, rfl⟩ | exact Or.inr ⟨_, rfl⟩)) ?_
        refine gm_go.ru (gm_iload dX10_meanError_59 rfl) ?_
        refine gm_go.ru (gi_const dX10_meanError_61) ?_
        refine gm_go.ru (gm_cV dX10_meanError_62 (ct_errorShiftedBy sN j8) rfl mt_X3_errorShiftedBy mv_X3_errorShiftedBy (lk_X10_142 rfl) (Or.inl ⟨_, 5, _, _, _, rfl, h1, rfl⟩) rfl (Nat.le_of_ble_eq_true rfl) (by decide)) ?_
        refine gm_go.ru (gi_add dX10_meanError_65) ?_
        refine gm_go.ru (gm_istore (ls' := [_, _, _, _, _, _]) dX10_meanError_66 (by decide) rfl) ?_
        refine gm_go.ru (gi_iinc (ls' := [_, _, _, _, _, _]) dX10_meanError_68 rfl (by decide) rfl) ?_
        refine gm_go.ru (gm_goto (tgt := 38) dX10_meanError_71 (by decide)) ?_
        exact hn
  refine gm_go.ru (gm_aload_n dX10_meanError_0 rfl (by first | exact Or.inl ⟨_, rfl⟩ | exact Or.inr ⟨_, rfl⟩)) ?_
  refine gm_go.ru (gm_get dX10_meanError_1 (fl_X10_10 rfl) hB rfl) ?_
  refine gm_go.ru (gm_get dX10_meanError_4 (fl_X10_90 rfl) s0 rfl) ?_
  refine gm_go.ru (gm_astore_n (ls' := [_, _, _, _, _, _]) dX10_meanError_7 (by first | exact Or.inl ⟨_, rfl⟩ | exact Or.inr ⟨_, rfl⟩) (by decide) rfl) ?_
  refine gm_go.ru (gm_aload_n dX10_meanError_8 rfl (by first | exact Or.inl ⟨_, rfl⟩ | exact Or.inr ⟨_, rfl⟩)) ?_
  refine gm_go.ru (gm_cV dX10_meanError_9 (ct_goodSet sN hv) rfl mt_X3_goodSet mv_X3_goodSet (lk_X10_161 rfl) (Or.inl ⟨_, 5, _, _, _, rfl, h1, rfl⟩) rfl (Nat.le_of_ble_eq_true rfl) (by decide)) ?_
  refine gm_go.ru (gm_istore_n (ls' := [_, _, _, _, _, _]) dX10_meanError_12 (by decide) rfl) ?_
  refine gm_go.ru (gm_iload_n dX10_meanError_13 rfl) ?_
  refine gm_go.ru (gm_cS dX10_meanError_14 (ct_bitCount g8) rfl mt_J6_bitCount_0f7a4 ms_J6_bitCount_0f7a4 (lk_X10_165 rfl) rfl (Nat.le_of_ble_eq_true rfl) (by decide)) ?_
  refine gm_go.ru (gm_istore_n (ls' := [_, _, _, _, _, _]) dX10_meanError_17 (by decide) rfl) ?_
  refine gm_go.ru (gm_iload_n dX10_meanError_18 rfl) ?_
  refine gm_go.ru (gi_if_ne_t (tgt := 32) dX10_meanError_19 (by decide) (by omega) (by omega)) ?_
  refine gm_go.ru (gi_const dX10_meanError_32) ?_
  refine gm_go.ru (gm_istore (ls' := [_, _, _, _, _, _]) dX10_meanError_33 (by decide) rfl) ?_
  refine gm_go.ru (gi_const dX10_meanError_35) ?_
  refine gm_go.ru (gm_istore (ls' := [_, _, _, _, _, _]) dX10_meanError_36 (by decide) rfl) ?_
  exact key (v 0).toNat 0 (by omega)
set_option maxRecDepth 4000 in
theorem ct_meanErrorX {h : gm_H} {n : Nat} {v : Nat → Int} {hs ep fc : Int} (hB : h.1[n]? = some (by_c n hs ep fc)) (hS : st_at h (n + 1) v) (hv : nd_iv v) (hq : zGd v = 0) : gm_co mX10_meanError 10 [.ref n] h (.inr "java/lang/ArithmeticException") (zTh h) := by
  refine gm_co_of _ (by decide +kernel) rfl (Nat.le_of_ble_eq_true rfl) rfl ?_
  obtain ⟨s0, sN, sO⟩ := id hS
  obtain ⟨h1, S, D, h2, h3, nS, nD⟩ := id sN
  obtain ⟨o1, I, M, U, Y, o2, o3, o4, o5, oD⟩ := id sO
  have g8 := zGd_lt hv
  have p8 := zPC_8 _ g8
  have v8 := hv.1
  refine gm_go.ru (gm_aload_n dX10_meanError_0 rfl (by first | exact Or.inl ⟨_, rfl⟩ | exact Or.inr ⟨_, rfl⟩)) ?_
  refine gm_go.ru (gm_get dX10_meanError_1 (fl_X10_10 rfl) hB rfl) ?_
  refine gm_go.ru (gm_get dX10_meanError_4 (fl_X10_90 rfl) s0 rfl) ?_
  refine gm_go.ru (gm_astore_n (ls' := [_, _, _, _, _, _]) dX10_meanError_7 (by first | exact Or.inl ⟨_, rfl⟩ | exact Or.inr ⟨_, rfl⟩) (by decide) rfl) ?_
  refine gm_go.ru (gm_aload_n dX10_meanError_8 rfl (by first | exact Or.inl ⟨_, rfl⟩ | exact Or.inr ⟨_, rfl⟩)) ?_
  refine gm_go.ru (gm_cV dX10_meanError_9 (ct_goodSet sN hv) rfl mt_X3_goodSet mv_X3_goodSet (lk_X10_161 rfl) (Or.inl ⟨_, 5, _, _, _, rfl, h1, rfl⟩) rfl (Nat.le_of_ble_eq_true rfl) (by decide)) ?_
  refine gm_go.ru (gm_istore_n (ls' := [_, _, _, _, _, _]) dX10_meanError_12 (by decide) rfl) ?_
  refine gm_go.ru (gm_iload_n dX10_meanError_13 rfl) ?_
  refine gm_go.ru (gm_cS dX10_meanError_14 (ct_bitCount g8) rfl mt_J6_bitCount_0f7a4 ms_J6_bitCount_0f7a4 (lk_X10_165 rfl) rfl (Nat.le_of_ble_eq_true rfl) (by decide)) ?_
  refine gm_go.ru (gm_istore_n (ls' := [_, _, _, _, _, _]) dX10_meanError_17 (by decide) rfl) ?_
  refine gm_go.ru (gm_iload_n dX10_meanError_18 rfl) ?_
  refine gm_go.ru (gi_if_ne_f 32 dX10_meanError_19 (by decide) (by omega) (by omega)) ?_
  exact gm_throw (tf_X10_170_172 rfl) rfl dX10_meanError_22 dX10_meanError_25 dX10_meanError_26 dX10_meanError_28 dX10_meanError_31 (Nat.le_of_ble_eq_true rfl) (by decide) (by decide)
set_option maxRecDepth 4000 in
theorem ct_bakingShare {h : gm_H} {n : Nat} {v : Nat → Int} {hs ep fc : Int} (hB : h.1[n]? = some (by_c n hs ep fc)) (hS : st_at h (n + 1) v) {T : Nat} (hv : ov_iv T v) (hq : v 2 ≠ 0) : gm_co mX10_bakingShare 10 [.ref n] h (.inl (some (.float (zShare v)))) h := by
  refine gm_co_of _ (by decide +kernel) rfl (Nat.le_of_ble_eq_true rfl) rfl ?_
  obtain ⟨s0, sN, sO⟩ := id hS
  obtain ⟨h1, S, D, h2, h3, nS, nD⟩ := id sN
  obtain ⟨o1, I, M, U, Y, o2, o3, o4, o5, oD⟩ := id sO
  have n1 := (zShare_n hv hq).1
  have v2 := hv.1
  have vT := hv.2.2.2.2.2.2.2.1
  refine gm_go.ru (gm_aload_n dX10_bakingShare_0 rfl (by first | exact Or.inl ⟨_, rfl⟩ | exact Or.inr ⟨_, rfl⟩)) ?_
  refine gm_go.ru (gm_get dX10_bakingShare_1 (fl_X10_10 rfl) hB rfl) ?_
  refine gm_go.ru (gm_get dX10_bakingShare_4 (fl_X10_204 rfl) s0 rfl) ?_
  refine gm_go.ru (gm_get dX10_bakingShare_7 (fl_X10_208 rfl) o1 rfl) ?_
  refine gm_go.ru (gi_if_ne_t (tgt := 23) dX10_bakingShare_10 (by decide) (by omega) (by omega)) ?_
  refine gm_go.ru (gm_aload_n dX10_bakingShare_23 rfl (by first | exact Or.inl ⟨_, rfl⟩ | exact Or.inr ⟨_, rfl⟩)) ?_
  refine gm_go.ru (gm_get dX10_bakingShare_24 (fl_X10_10 rfl) hB rfl) ?_
  refine gm_go.ru (gm_get dX10_bakingShare_27 (fl_X10_204 rfl) s0 rfl) ?_
  refine gm_go.ru (gm_get dX10_bakingShare_30 (fl_X10_253 rfl) o1 rfl) ?_
  refine gm_go.ru (gm_i2f dX10_bakingShare_33) ?_
  refine gm_go.ru (gm_aload_n dX10_bakingShare_34 rfl (by first | exact Or.inl ⟨_, rfl⟩ | exact Or.inr ⟨_, rfl⟩)) ?_
  refine gm_go.ru (gm_get dX10_bakingShare_35 (fl_X10_10 rfl) hB rfl) ?_
  refine gm_go.ru (gm_get dX10_bakingShare_38 (fl_X10_204 rfl) s0 rfl) ?_
  refine gm_go.ru (gm_get dX10_bakingShare_41 (fl_X10_208 rfl) o1 rfl) ?_
  refine gm_go.ru (gm_i2f dX10_bakingShare_44) ?_
  refine gm_go.ru (gm_fdiv n1 dX10_bakingShare_45) ?_
  exact gm_fret dX10_bakingShare_46 rfl
set_option maxRecDepth 4000 in
theorem ct_bakingShareX {h : gm_H} {n : Nat} {v : Nat → Int} {hs ep fc : Int} (hB : h.1[n]? = some (by_c n hs ep fc)) (hS : st_at h (n + 1) v) {T : Nat} (hv : ov_iv T v) (hq : v 2 = 0) : gm_co mX10_bakingShare 10 [.ref n] h (.inr "java/lang/ArithmeticException") (zTh h) := by
  refine gm_co_of _ (by decide +kernel) rfl (Nat.le_of_ble_eq_true rfl) rfl ?_
  obtain ⟨s0, sN, sO⟩ := id hS
  obtain ⟨h1, S, D, h2, h3, nS, nD⟩ := id sN
  obtain ⟨o1, I, M, U, Y, o2, o3, o4, o5, oD⟩ := id sO
  have v2 := hv.1
  have vT := hv.2.2.2.2.2.2.2.1
  refine gm_go.ru (gm_aload_n dX10_bakingShare_0 rfl (by first | exact Or.inl ⟨_, rfl⟩ | exact Or.inr ⟨_, rfl⟩)) ?_
  refine gm_go.ru (gm_get dX10_bakingShare_1 (fl_X10_10 rfl) hB rfl) ?_
  refine gm_go.ru (gm_get dX10_bakingShare_4 (fl_X10_204 rfl) s0 rfl) ?_
  refine gm_go.ru (gm_get dX10_bakingShare_7 (fl_X10_208 rfl) o1 rfl) ?_
  refine gm_go.ru (gi_if_ne_f 23 dX10_bakingShare_10 (by decide) (by omega) (by omega)) ?_
  exact gm_throw (tf_X10_170_251 rfl) rfl dX10_bakingShare_13 dX10_bakingShare_16 dX10_bakingShare_17 dX10_bakingShare_19 dX10_bakingShare_22 (Nat.le_of_ble_eq_true rfl) (by decide) (by decide)
