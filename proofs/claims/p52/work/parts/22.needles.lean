set_option maxRecDepth 4000 in
theorem ct_whyNotMove {h : gm_H} {n i : Nat} {k : Int} {v : Nat → Int} (hN : nd_at h n v) (hv : nd_iv v) (hi : i < 8) (hk : -200 ≤ k ∧ k ≤ 200) : gm_co mX3_whyNotMove 4 [.ref n, .int (zI i), .int (zI k)] h (.inl (some (.retAddr (zqMove v i k)))) h := by
  refine gm_co_of _ (by decide +kernel) rfl (Nat.le_of_ble_eq_true rfl) rfl ?_
  obtain ⟨h1, h2⟩ := id hN
  by_cases hg : v (11 + 10 * i) = 1
  ·
    refine gm_go.ru (gm_aload_n dX3_whyNotMove_0 rfl (by first | exact Or.inl ⟨_, rfl⟩ | exact Or.inr ⟨_, rfl⟩)) ?_
    refine gm_go.ru (gm_iload_n dX3_whyNotMove_1 rfl) ?_
    refine gm_go.ru (gm_cV dX3_whyNotMove_2 (ct_isOut hN hi) rfl mt_X3_isOut mv_X3_isOut (lk_X3_50 rfl) (Or.inl ⟨_, 5, _, _, _, rfl, (by assumption), rfl⟩) rfl (Nat.le_of_ble_eq_true rfl) (by decide)) ?_
    rw [zB_t hg]
    refine gm_go.ru (gi_if_eq_f 12 dX3_whyNotMove_5 (by decide) (by decide) (by decide)) ?_
    refine gm_go.ru (gm_gets (v := .retAddr 3) dX3_whyNotMove_8 (by decide +kernel) (sl_X3_71 rfl) rfl) ?_
    exact gm_kret dX3_whyNotMove_11 rfl (by unfold zqMove; simp [hg])
  ·
    have key : ∀ (m j : Nat), j + m = 8 → zOf v i k j = false → gm_ru mX3_whyNotMove 4 (14, [some (.ref n), some (.int (zI i)), some (.int (zI k)), some (.int (zI j))], [], h) (.inl (some (.retAddr (zqMove v i k)))) h := by
      intro m
      induction m with
      | zero =>
        intro j hj hz
        obtain rfl : j = 8 := by omega
        refine gm_go.ru (gm_iload_n dX3_whyNotMove_14 rfl) ?_
        refine gm_go.ru (gi_bipush dX3_whyNotMove_15 (by decide +kernel)) ?_
        refine gm_go.ru (gi_icmp_ge_t (tgt := 48) dX3_whyNotMove_17 (by decide) (by omega) (by omega) (by omega)) ?_
        refine gm_go.ru (gm_gets (v := .retAddr 0) dX3_whyNotMove_48 (by decide +kernel) (sl_X3_62 rfl) rfl) ?_
        exact gm_kret dX3_whyNotMove_51 rfl (by unfold zqMove; simp [hg, hz])
      | succ m ih =>
        intro j hj hz
        have hd := hv.2.2.2.2.1 i hi j (by omega)
        obtain ⟨h1, h2⟩ := id hN
        refine gm_go.ru (gm_iload_n dX3_whyNotMove_14 rfl) ?_
        refine gm_go.ru (gi_bipush dX3_whyNotMove_15 (by decide +kernel)) ?_
        refine gm_go.ru (gi_icmp_ge_f 48 dX3_whyNotMove_17 (by decide) (by omega) (by omega) (by omega)) ?_
        refine gm_go.ru (gm_aload_n dX3_whyNotMove_20 rfl (by first | exact Or.inl ⟨_, rfl⟩ | exact Or.inr ⟨_, rfl⟩)) ?_
        refine gm_go.ru (gm_iload_n dX3_whyNotMove_21 rfl) ?_
        refine gm_go.ru (gm_iload_n dX3_whyNotMove_22 rfl) ?_
        refine gm_go.ru (gm_cV dX3_whyNotMove_23 (ct_at hN hi (by omega)) rfl mt_X3_at mv_X3_at (lk_X3_38 rfl) (Or.inl ⟨_, 5, _, _, _, rfl, (by assumption), rfl⟩) rfl (Nat.le_of_ble_eq_true rfl) (by decide)) ?_
        refine gm_go.ru (gm_iload_n dX3_whyNotMove_26 rfl) ?_
        refine gm_go.ru (gi_add dX3_whyNotMove_27) ?_
        refine gm_go.ru (gi_bipush dX3_whyNotMove_28 (by decide +kernel)) ?_
        refine gm_go.ru (gi_bipush dX3_whyNotMove_30 (by decide +kernel)) ?_
        refine gm_go.ru (gm_cS dX3_whyNotMove_32 (ct_outside (by omega) (by omega) (by omega)) rfl mt_X10_outside ms_X10_outside (lk_X3_42 rfl) rfl (Nat.le_of_ble_eq_true rfl) (by decide)) ?_
        by_cases c : v (12 + 10 * i + j) + k < -20 ∨ 20 < v (12 + 10 * i + j) + k
        · have hw : zOf v i k 8 = true := zOf_up (j := j + 1) (by simp [zOf, c]) 8 (by omega)
          rw [zB_t c]
          refine gm_go.ru (gi_if_eq_f 42 dX3_whyNotMove_35 (by decide) (by decide) (by decide)) ?_
          refine gm_go.ru (gm_gets (v := .retAddr 5) dX3_whyNotMove_38 (by decide +kernel) (sl_X3_82 rfl) rfl) ?_
          exact gm_kret dX3_whyNotMove_41 rfl (by unfold zqMove; simp [hg, hw])
        · rw [zB_f c]
          refine gm_go.ru (gi_if_eq_t (tgt := 42) dX3_whyNotMove_35 (by decide) (by decide) (by decide)) ?_
          refine gm_go.ru (gi_iinc (ls' := [_, _, _, _]) dX3_whyNotMove_42 rfl (by decide) rfl) ?_
          refine gm_go.ru (gm_goto (tgt := 14) dX3_whyNotMove_45 (by decide)) ?_
          exact ih (j + 1) (by omega) (by simp [zOf, hz, c])
    refine gm_go.ru (gm_aload_n dX3_whyNotMove_0 rfl (by first | exact Or.inl ⟨_, rfl⟩ | exact Or.inr ⟨_, rfl⟩)) ?_
    refine gm_go.ru (gm_iload_n dX3_whyNotMove_1 rfl) ?_
    refine gm_go.ru (gm_cV dX3_whyNotMove_2 (ct_isOut hN hi) rfl mt_X3_isOut mv_X3_isOut (lk_X3_50 rfl) (Or.inl ⟨_, 5, _, _, _, rfl, (by assumption), rfl⟩) rfl (Nat.le_of_ble_eq_true rfl) (by decide)) ?_
    rw [zB_f hg]
    refine gm_go.ru (gi_if_eq_t (tgt := 12) dX3_whyNotMove_5 (by decide) (by decide) (by decide)) ?_
    refine gm_go.ru (gi_const dX3_whyNotMove_12) ?_
    refine gm_go.ru (gm_istore_n (ls' := [_, _, _, _]) dX3_whyNotMove_13 (by decide) rfl) ?_
    exact key 8 0 (by omega) rfl
set_option maxRecDepth 4000 in
theorem ct_whyNotShift {h : gm_H} {n : Nat} {i k : Int} {v : Nat → Int} (hN : nd_at h n v) (hv : nd_iv v) (hi : zR i) (hk : zR k) : gm_co mX3_whyNotShift 5 [.ref n, .int (zI i), .int (zI k)] h (.inl (some (.retAddr (zqShift v i k)))) h := by
  refine gm_co_of _ (by decide +kernel) rfl (Nat.le_of_ble_eq_true rfl) rfl ?_
  have hv0 := hv.1
  obtain ⟨h1, h2⟩ := id hN
  refine gm_go.ru (gm_aload_n dX3_whyNotShift_0 rfl (by first | exact Or.inl ⟨_, rfl⟩ | exact Or.inr ⟨_, rfl⟩)) ?_
  refine gm_go.ru (gm_iload_n dX3_whyNotShift_1 rfl) ?_
  refine gm_go.ru (gm_cV dX3_whyNotShift_2 (ct_has hN ⟨hv.1.1, hv.1.2⟩ (by omega)) rfl mt_X3_has mv_X3_has (lk_X3_65 rfl) (Or.inl ⟨_, 5, _, _, _, rfl, (by assumption), rfl⟩) rfl (Nat.le_of_ble_eq_true rfl) (by decide)) ?_
  by_cases c1_5 : 0 ≤ i ∧ i < v 0
  ·
    rw [zB_t c1_5]
    refine gm_go.ru (gi_if_ne_t (tgt := 12) dX3_whyNotShift_5 (by decide) (by decide) (by decide)) ?_
    refine gm_go.ru (gm_iload_n dX3_whyNotShift_12 rfl) ?_
    refine gm_go.ru (gi_bipush dX3_whyNotShift_13 (by decide +kernel)) ?_
    refine gm_go.ru (gi_bipush dX3_whyNotShift_15 (by decide +kernel)) ?_
    refine gm_go.ru (gm_cS dX3_whyNotShift_17 (ct_outside (by omega) (by omega) (by omega)) rfl mt_X10_outside ms_X10_outside (lk_X3_42 rfl) rfl (Nat.le_of_ble_eq_true rfl) (by decide)) ?_
    by_cases c2_20 : k < (-40) ∨ 40 < k
    ·
      rw [zB_t c2_20]
      refine gm_go.ru (gi_if_eq_f 27 dX3_whyNotShift_20 (by decide) (by decide) (by decide)) ?_
      refine gm_go.ru (gm_gets (v := .retAddr 2) dX3_whyNotShift_23 (by decide +kernel) (sl_X3_53 rfl) rfl) ?_
      exact gm_kret dX3_whyNotShift_26 rfl (by unfold zqShift; (repeat' split) <;> first | omega | (simp_all; done) | (simp_all; omega))
    ·
      rw [zB_f c2_20]
      refine gm_go.ru (gi_if_eq_t (tgt := 27) dX3_whyNotShift_20 (by decide) (by decide) (by decide)) ?_
      obtain ⟨iN, rfl⟩ : ∃ iN : Nat, i = (iN : Int) := ⟨i.toNat, by omega⟩
      refine gm_go.ru (gm_aload_n dX3_whyNotShift_27 rfl (by first | exact Or.inl ⟨_, rfl⟩ | exact Or.inr ⟨_, rfl⟩)) ?_
      refine gm_go.ru (gm_iload_n dX3_whyNotShift_28 rfl) ?_
      refine gm_go.ru (gm_iload_n dX3_whyNotShift_29 rfl) ?_
      refine gm_go.ru (gm_cV dX3_whyNotShift_30 (ct_whyNotMove hN hv (i := iN) (by omega) (by omega)) rfl mt_X3_whyNotMove mv_X3_whyNotMove (lk_X3_74 rfl) (Or.inl ⟨_, 5, _, _, _, rfl, (by assumption), rfl⟩) rfl (Nat.le_of_ble_eq_true rfl) (by decide)) ?_
      exact gm_kret dX3_whyNotShift_33 rfl (by unfold zqShift; (repeat' split) <;> first | omega | (simp_all; done) | (simp_all; omega))
  ·
    rw [zB_f c1_5]
    refine gm_go.ru (gi_if_ne_f 12 dX3_whyNotShift_5 (by decide) (by decide) (by decide)) ?_
    refine gm_go.ru (gm_gets (v := .retAddr 1) dX3_whyNotShift_8 (by decide +kernel) (sl_X3_68 rfl) rfl) ?_
    exact gm_kret dX3_whyNotShift_11 rfl (by unfold zqShift; (repeat' split) <;> first | omega | (simp_all; done) | (simp_all; omega))
def zSmf (v : Nat → Int) (i : Nat) : Nat → Int
  | 0 => 0
  | n + 1 => zSmf v i n + v (12 + 10 * i + n)
theorem zSmf_r {v : Nat → Int} {i : Nat} (hv : nd_iv v) (hi : i < 8) : ∀ n : Nat, n ≤ 8 → -(20 * (n : Int)) ≤ zSmf v i n ∧ zSmf v i n ≤ 20 * n := by
  intro n
  induction n with
  | zero => intro _; simp [zSmf]
  | succ n ih =>
    intro hn
    have h1 := ih (by omega)
    have h2 := hv.2.2.2.2.1 i hi n (by omega)
    simp only [zSmf]
    omega
/-- the best shift, from the sum -/
def zSS (v : Nat → Int) (i : Nat) : Int := if 0 < zSmf v i 8 then -((zSmf v i 8 + 3) / 8) else (-zSmf v i 8 + 3) / 8
theorem zSS_r {v : Nat → Int} {i : Nat} (hv : nd_iv v) (hi : i < 8) : -20 ≤ zSS v i ∧ zSS v i ≤ 20 := by
  have h1 := zSmf_r hv hi 8 (by omega)
  unfold zSS
  split <;> omega
def zqCorrect (v : Nat → Int) (i : Int) : Nat := if ¬ (0 ≤ i ∧ i < v 0) then 1 else zqMove v i.toNat (zSS v i.toNat)
set_option maxRecDepth 4000 in
theorem ct_shiftFromSum {h : gm_H} {n i : Nat} {v : Nat → Int} (hN : nd_at h n v) (hv : nd_iv v) (hi : i < 8) : gm_co mX3_shiftFromSum 2 [.ref n, .int (zI i)] h (.inl (some (.int (zI (zSS v i))))) h := by
  refine gm_co_of _ (by decide +kernel) rfl (Nat.le_of_ble_eq_true rfl) rfl ?_
  have hS := zSmf_r hv hi 8 (by omega)
  have hT := z_tdiv (a := (if 0 ≤ zSmf v i 8 then zSmf v i 8 else -zSmf v i 8) + 4 - 1) (b := 8) (by decide)
  have key : ∀ (m j : Nat), j + m = 8 → gm_ru mX3_shiftFromSum 2 (4, [some (.ref n), some (.int (zI i)), some (.int (zI (zSmf v i j))), some (.int (zI j))], [], h) (.inl (some (.int (zI (zSS v i))))) h := by
    intro m
    induction m with
    | zero =>
      intro j hj
      obtain rfl : j = 8 := by omega
      refine gm_go.ru (gm_iload_n dX3_shiftFromSum_4 rfl) ?_
      refine gm_go.ru (gi_bipush dX3_shiftFromSum_5 (by decide +kernel)) ?_
      refine gm_go.ru (gi_icmp_ge_t (tgt := 25) dX3_shiftFromSum_7 (by decide) (by omega) (by omega) (by omega)) ?_
      refine gm_go.ru (gm_iload_n dX3_shiftFromSum_25 rfl) ?_
      refine gm_go.ru (gm_cS dX3_shiftFromSum_26 (ct_abs (by omega)) rfl mt_J9_abs_0f7a4 ms_J9_abs_0f7a4 (lk_X3_111 rfl) rfl (Nat.le_of_ble_eq_true rfl) (by decide)) ?_
      refine gm_go.ru (gi_const dX3_shiftFromSum_29) ?_
      refine gm_go.ru (gi_add dX3_shiftFromSum_30) ?_
      refine gm_go.ru (gi_const dX3_shiftFromSum_31) ?_
      refine gm_go.ru (gi_sub dX3_shiftFromSum_32) ?_
      refine gm_go.ru (gi_bipush dX3_shiftFromSum_33 (by decide +kernel)) ?_
      refine gm_go.ru (gi_div dX3_shiftFromSum_35 (by omega) (by omega) (by omega)) ?_
      refine gm_go.ru (gm_istore_n (ls' := [_, _, _, _]) dX3_shiftFromSum_36 (by decide) rfl) ?_
      refine gm_go.ru (gm_iload_n dX3_shiftFromSum_37 rfl) ?_
      by_cases c : zSmf v i 8 ≤ 0
      ·
        refine gm_go.ru (gi_if_le_t (tgt := 46) dX3_shiftFromSum_38 (by decide) (by omega) c) ?_
        refine gm_go.ru (gm_iload_n dX3_shiftFromSum_46 rfl) ?_
        exact gm_iret' dX3_shiftFromSum_47 rfl (congrArg zI (by unfold zSS; (repeat' split at hT) <;> (repeat' split) <;> omega)) rfl
      ·
        refine gm_go.ru (gi_if_le_f 46 dX3_shiftFromSum_38 (by decide) (by omega) c) ?_
        refine gm_go.ru (gm_iload_n dX3_shiftFromSum_41 rfl) ?_
        refine gm_go.ru (gi_neg dX3_shiftFromSum_42) ?_
        refine gm_go.ru (gm_goto (tgt := 47) dX3_shiftFromSum_43 (by decide)) ?_
        exact gm_iret' dX3_shiftFromSum_47 rfl (congrArg zI (by unfold zSS; (repeat' split at hT) <;> (repeat' split) <;> omega)) rfl
    | succ m ih =>
      intro j hj
      obtain ⟨h1, h2⟩ := id hN
      refine gm_go.ru (gm_iload_n dX3_shiftFromSum_4 rfl) ?_
      refine gm_go.ru (gi_bipush dX3_shiftFromSum_5 (by decide +kernel)) ?_
      refine gm_go.ru (gi_icmp_ge_f 25 dX3_shiftFromSum_7 (by decide) (by omega) (by omega) (by omega)) ?_
      refine gm_go.ru (gm_iload_n dX3_shiftFromSum_10 rfl) ?_
      refine gm_go.ru (gm_aload_n dX3_shiftFromSum_11 rfl (by first | exact Or.inl ⟨_, rfl⟩ | exact Or.inr ⟨_, rfl⟩)) ?_
      refine gm_go.ru (gm_iload_n dX3_shiftFromSum_12 rfl) ?_
      refine gm_go.ru (gm_iload_n dX3_shiftFromSum_13 rfl) ?_
      refine gm_go.ru (gm_cV dX3_shiftFromSum_14 (ct_at hN hi (by omega)) rfl mt_X3_at mv_X3_at (lk_X3_38 rfl) (Or.inl ⟨_, 5, _, _, _, rfl, (by assumption), rfl⟩) rfl (Nat.le_of_ble_eq_true rfl) (by decide)) ?_
      refine gm_go.ru (gi_add dX3_shiftFromSum_17) ?_
      refine gm_go.ru (gm_istore_n (ls' := [_, _, _, _]) dX3_shiftFromSum_18 (by decide) rfl) ?_
      refine gm_go.ru (gi_iinc (ls' := [_, _, _, _]) dX3_shiftFromSum_19 rfl (by decide) rfl) ?_
      refine gm_go.ru (gm_goto (tgt := 4) dX3_shiftFromSum_22 (by decide)) ?_
      exact ih (j + 1) (by omega)
  refine gm_go.ru (gi_const dX3_shiftFromSum_0) ?_
  refine gm_go.ru (gm_istore_n (ls' := [_, _, _, _]) dX3_shiftFromSum_1 (by decide) rfl) ?_
  refine gm_go.ru (gi_const dX3_shiftFromSum_2) ?_
  refine gm_go.ru (gm_istore_n (ls' := [_, _, _, _]) dX3_shiftFromSum_3 (by decide) rfl) ?_
  exact key 8 0 (by omega)
set_option maxRecDepth 4000 in
theorem ct_whyNotCorrect {h : gm_H} {n : Nat} {i : Int} {v : Nat → Int} (hN : nd_at h n v) (hv : nd_iv v) (hi : zR i) : gm_co mX3_whyNotCorrect 5 [.ref n, .int (zI i)] h (.inl (some (.retAddr (zqCorrect v i)))) h := by
  refine gm_co_of _ (by decide +kernel) rfl (Nat.le_of_ble_eq_true rfl) rfl ?_
  have hv0 := hv.1
  obtain ⟨h1, h2⟩ := id hN
  refine gm_go.ru (gm_aload_n dX3_whyNotCorrect_0 rfl (by first | exact Or.inl ⟨_, rfl⟩ | exact Or.inr ⟨_, rfl⟩)) ?_
  refine gm_go.ru (gm_iload_n dX3_whyNotCorrect_1 rfl) ?_
  refine gm_go.ru (gm_cV dX3_whyNotCorrect_2 (ct_has hN ⟨hv.1.1, hv.1.2⟩ (by omega)) rfl mt_X3_has mv_X3_has (lk_X3_65 rfl) (Or.inl ⟨_, 5, _, _, _, rfl, (by assumption), rfl⟩) rfl (Nat.le_of_ble_eq_true rfl) (by decide)) ?_
  by_cases c1_5 : 0 ≤ i ∧ i < v 0
  ·
    rw [zB_t c1_5]
    refine gm_go.ru (gi_if_ne_t (tgt := 12) dX3_whyNotCorrect_5 (by decide) (by decide) (by decide)) ?_
    obtain ⟨iN, rfl⟩ : ∃ iN : Nat, i = (iN : Int) := ⟨i.toNat, by omega⟩
    have hss := zSS_r hv (i := iN) (by omega)
    refine gm_go.ru (gm_aload_n dX3_whyNotCorrect_12 rfl (by first | exact Or.inl ⟨_, rfl⟩ | exact Or.inr ⟨_, rfl⟩)) ?_
    refine gm_go.ru (gm_iload_n dX3_whyNotCorrect_13 rfl) ?_
    refine gm_go.ru (gm_aload_n dX3_whyNotCorrect_14 rfl (by first | exact Or.inl ⟨_, rfl⟩ | exact Or.inr ⟨_, rfl⟩)) ?_
    refine gm_go.ru (gm_iload_n dX3_whyNotCorrect_15 rfl) ?_
    refine gm_go.ru (gm_cV dX3_whyNotCorrect_16 (ct_shiftFromSum hN hv (i := iN) (by omega)) rfl mt_X3_shiftFromSum mv_X3_shiftFromSum (lk_X3_78 rfl) (Or.inl ⟨_, 5, _, _, _, rfl, (by assumption), rfl⟩) rfl (Nat.le_of_ble_eq_true rfl) (by decide)) ?_
    refine gm_go.ru (gm_cV dX3_whyNotCorrect_19 (ct_whyNotMove hN hv (i := iN) (by omega) (by omega)) rfl mt_X3_whyNotMove mv_X3_whyNotMove (lk_X3_74 rfl) (Or.inl ⟨_, 5, _, _, _, rfl, (by assumption), rfl⟩) rfl (Nat.le_of_ble_eq_true rfl) (by decide)) ?_
    exact gm_kret dX3_whyNotCorrect_22 rfl (by unfold zqCorrect; (repeat' split) <;> first | omega | (simp_all; done) | (simp_all; omega))
  ·
    rw [zB_f c1_5]
    refine gm_go.ru (gi_if_ne_f 12 dX3_whyNotCorrect_5 (by decide) (by decide) (by decide)) ?_
    refine gm_go.ru (gm_gets (v := .retAddr 1) dX3_whyNotCorrect_8 (by decide +kernel) (sl_X3_68 rfl) rfl) ?_
    exact gm_kret dX3_whyNotCorrect_11 rfl (by unfold zqCorrect; (repeat' split) <;> first | omega | (simp_all; done) | (simp_all; omega))
def zqDiscard (v : Nat → Int) (i : Int) : Nat := if ¬ (0 ≤ i ∧ i < v 0) then 1 else if v (11 + 10 * i.toNat) = 1 then 3 else 0
set_option maxRecDepth 4000 in
theorem ct_whyNotThrowOut {h : gm_H} {n : Nat} {i : Int} {v : Nat → Int} (hN : nd_at h n v) (hv : nd_iv v) (hi : zR i) : gm_co mX3_whyNotThrowOut 3 [.ref n, .int (zI i)] h (.inl (some (.retAddr (zqDiscard v i)))) h := by
  refine gm_co_of _ (by decide +kernel) rfl (Nat.le_of_ble_eq_true rfl) rfl ?_
  have hv0 := hv.1
  obtain ⟨h1, h2⟩ := id hN
  refine gm_go.ru (gm_aload_n dX3_whyNotThrowOut_0 rfl (by first | exact Or.inl ⟨_, rfl⟩ | exact Or.inr ⟨_, rfl⟩)) ?_
  refine gm_go.ru (gm_iload_n dX3_whyNotThrowOut_1 rfl) ?_
  refine gm_go.ru (gm_cV dX3_whyNotThrowOut_2 (ct_has hN ⟨hv.1.1, hv.1.2⟩ (by omega)) rfl mt_X3_has mv_X3_has (lk_X3_65 rfl) (Or.inl ⟨_, 5, _, _, _, rfl, (by assumption), rfl⟩) rfl (Nat.le_of_ble_eq_true rfl) (by decide)) ?_
  by_cases c1_5 : 0 ≤ i ∧ i < v 0
  ·
    rw [zB_t c1_5]
    refine gm_go.ru (gi_if_ne_t (tgt := 12) dX3_whyNotThrowOut_5 (by decide) (by decide) (by decide)) ?_
    obtain ⟨iN, rfl⟩ : ∃ iN : Nat, i = (iN : Int) := ⟨i.toNat, by omega⟩
    refine gm_go.ru (gm_aload_n dX3_whyNotThrowOut_12 rfl (by first | exact Or.inl ⟨_, rfl⟩ | exact Or.inr ⟨_, rfl⟩)) ?_
    refine gm_go.ru (gm_iload_n dX3_whyNotThrowOut_13 rfl) ?_
    refine gm_go.ru (gm_cV dX3_whyNotThrowOut_14 (ct_isOut hN (i := iN) (by omega)) rfl mt_X3_isOut mv_X3_isOut (lk_X3_50 rfl) (Or.inl ⟨_, 5, _, _, _, rfl, (by assumption), rfl⟩) rfl (Nat.le_of_ble_eq_true rfl) (by decide)) ?_
    by_cases c2_17 : v (11 + 10 * iN) = 1
    ·
      rw [zB_t c2_17]
      refine gm_go.ru (gi_if_eq_f 26 dX3_whyNotThrowOut_17 (by decide) (by decide) (by decide)) ?_
      refine gm_go.ru (gm_gets (v := .retAddr 3) dX3_whyNotThrowOut_20 (by decide +kernel) (sl_X3_71 rfl) rfl) ?_
      refine gm_go.ru (gm_goto (tgt := 29) dX3_whyNotThrowOut_23 (by decide)) ?_
      exact gm_kret dX3_whyNotThrowOut_29 rfl (by unfold zqDiscard; (repeat' split) <;> first | omega | (simp_all; done) | (simp_all; omega))
    ·
      rw [zB_f c2_17]
      refine gm_go.ru (gi_if_eq_t (tgt := 26) dX3_whyNotThrowOut_17 (by decide) (by decide) (by decide)) ?_
      refine gm_go.ru (gm_gets (v := .retAddr 0) dX3_whyNotThrowOut_26 (by decide +kernel) (sl_X3_62 rfl) rfl) ?_
      exact gm_kret dX3_whyNotThrowOut_29 rfl (by unfold zqDiscard; (repeat' split) <;> first | omega | (simp_all; done) | (simp_all; omega))
  ·
    rw [zB_f c1_5]
    refine gm_go.ru (gi_if_ne_f 12 dX3_whyNotThrowOut_5 (by decide) (by decide) (by decide)) ?_
    refine gm_go.ru (gm_gets (v := .retAddr 1) dX3_whyNotThrowOut_8 (by decide +kernel) (sl_X3_68 rfl) rfl) ?_
    exact gm_kret dX3_whyNotThrowOut_11 rfl (by unfold zqDiscard; (repeat' split) <;> first | omega | (simp_all; done) | (simp_all; omega))
