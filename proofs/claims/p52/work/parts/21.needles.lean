theorem gm_kret {M : gm_M} {d pc : Nat} {ls : List (Option Value)} {h : gm_H} {k k' : Nat} {n : String} (hd : decode M.2.1 pc = .ok (.areturn, 1)) (hr : M.2.2.2.1 = some (.object n)) (e : k = k') : gm_ru M d (pc, ls, [.retAddr k], h) (.inl (some (.retAddr k'))) h := by
  subst e
  exact gm_aret hd hr (Or.inl ⟨_, rfl⟩) (Or.inr ⟨_, rfl⟩)
theorem zB_r (b : Bool) : 0 ≤ zB b ∧ zB b ≤ 1 := by cases b <;> decide
/-! how many rejects, which are good -/
def zNW (v : Nat → Int) : Nat → Nat
  | 0 => 0
  | n + 1 => zNW v n + (if zW v n then 1 else 0)
def zgood (v : Nat → Int) (i : Nat) : Bool := !(decide (v (11 + 10 * i) = 1)) && !(zW v i)
def zGS (v : Nat → Int) : Nat → Nat
  | 0 => 0
  | n + 1 => zGS v n + (if zgood v n then 2 ^ n else 0)
theorem zGS_lt (v : Nat → Int) : ∀ n, zGS v n < 2 ^ n
  | 0 => by simp [zGS]
  | n + 1 => by
    have h := zGS_lt v n
    simp only [zGS, Nat.pow_succ]
    split <;> omega
theorem zNW_le (v : Nat → Int) : ∀ n, zNW v n ≤ n
  | 0 => Nat.le_refl 0
  | n + 1 => by
    have h := zNW_le v n
    simp only [zNW]
    split <;> omega
theorem nd_cnt {v : Nat → Int} (hv : nd_iv v) : ∃ c : Nat, v 0 = (c : Int) ∧ c ≤ 8 := ⟨(v 0).toNat, by have := hv.1; omega, by have := hv.1; omega⟩
set_option maxRecDepth 4000 in
theorem ct_countTooWide {h : gm_H} {n : Nat} {v : Nat → Int} (hN : nd_at h n v) (hv : nd_iv v) : gm_co mX3_countTooWide 4 [.ref n] h (.inl (some (.int (zI ((zNW v (v 0).toNat : Nat) : Int))))) h := by
  refine gm_co_of _ (by decide +kernel) rfl (Nat.le_of_ble_eq_true rfl) rfl ?_
  obtain ⟨cn, hc, hc8⟩ := nd_cnt hv
  have key : ∀ (m j : Nat), j + m = cn → gm_ru mX3_countTooWide 4 (4, [some (.ref n), some (.int (zI (zNW v j : Nat))), some (.int (zI j))], [], h) (.inl (some (.int (zI (zNW v cn : Nat))))) h := by
    intro m
    induction m with
    | zero =>
      intro j hj
      obtain rfl : j = cn := by omega
      obtain ⟨h1, h2⟩ := id hN
      refine gm_go.ru (gm_iload_n dX3_countTooWide_4 rfl) ?_
      refine gm_go.ru (gm_aload_n dX3_countTooWide_5 rfl (by first | exact Or.inl ⟨_, rfl⟩ | exact Or.inr ⟨_, rfl⟩)) ?_
      refine gm_go.ru (gm_get dX3_countTooWide_6 (fl_X3_22 rfl) (by assumption) rfl) ?_
      refine gm_go.ru (gi_icmp_ge_t (tgt := 34) dX3_countTooWide_9 (by decide) (by omega) (by omega) (by omega)) ?_
      refine gm_go.ru (gm_iload_n dX3_countTooWide_34 rfl) ?_
      exact gm_iret dX3_countTooWide_35 rfl
    | succ m ih =>
      intro j hj
      have hle := zNW_le v j
      obtain ⟨h1, h2⟩ := id hN
      refine gm_go.ru (gm_iload_n dX3_countTooWide_4 rfl) ?_
      refine gm_go.ru (gm_aload_n dX3_countTooWide_5 rfl (by first | exact Or.inl ⟨_, rfl⟩ | exact Or.inr ⟨_, rfl⟩)) ?_
      refine gm_go.ru (gm_get dX3_countTooWide_6 (fl_X3_22 rfl) (by assumption) rfl) ?_
      refine gm_go.ru (gi_icmp_ge_f 34 dX3_countTooWide_9 (by decide) (by omega) (by omega) (by omega)) ?_
      refine gm_go.ru (gm_iload_n dX3_countTooWide_12 rfl) ?_
      refine gm_go.ru (gm_aload_n dX3_countTooWide_13 rfl (by first | exact Or.inl ⟨_, rfl⟩ | exact Or.inr ⟨_, rfl⟩)) ?_
      refine gm_go.ru (gm_iload_n dX3_countTooWide_14 rfl) ?_
      refine gm_go.ru (gm_cV dX3_countTooWide_15 (ct_isTooWide hN hv (i := j) (by omega)) rfl mt_X3_isTooWide mv_X3_isTooWide (lk_X3_46 rfl) (Or.inl ⟨_, 5, _, _, _, rfl, (by assumption), rfl⟩) rfl (Nat.le_of_ble_eq_true rfl) (by decide)) ?_
      cases hw : zW v j
      ·
        refine gm_go.ru (gi_if_eq_t (tgt := 25) dX3_countTooWide_18 (by decide) (by decide) rfl) ?_
        refine gm_go.ru (gi_const dX3_countTooWide_25) ?_
        refine gm_go.ru (gi_add dX3_countTooWide_26) ?_
        refine gm_go.ru (gm_istore_n (ls' := [_, _, _]) dX3_countTooWide_27 (by decide) rfl) ?_
        refine gm_go.ru (gi_iinc (ls' := [_, _, _]) dX3_countTooWide_28 rfl (by decide) rfl) ?_
        refine gm_go.ru (gm_goto (tgt := 4) dX3_countTooWide_31 (by decide)) ?_
        have e := ih (j + 1) (by omega)
        rw [zNW, hw] at e
        exact e
      ·
        refine gm_go.ru (gi_if_eq_f 25 dX3_countTooWide_18 (by decide) (by decide) (by decide)) ?_
        refine gm_go.ru (gi_const dX3_countTooWide_21) ?_
        refine gm_go.ru (gm_goto (tgt := 26) dX3_countTooWide_22 (by decide)) ?_
        refine gm_go.ru (gi_add dX3_countTooWide_26) ?_
        refine gm_go.ru (gm_istore_n (ls' := [_, _, _]) dX3_countTooWide_27 (by decide) rfl) ?_
        refine gm_go.ru (gi_iinc (ls' := [_, _, _]) dX3_countTooWide_28 rfl (by decide) rfl) ?_
        refine gm_go.ru (gm_goto (tgt := 4) dX3_countTooWide_31 (by decide)) ?_
        have e := ih (j + 1) (by omega)
        rw [zNW, hw] at e
        exact e
  refine gm_go.ru (gi_const dX3_countTooWide_0) ?_
  refine gm_go.ru (gm_istore_n (ls' := [_, _, _]) dX3_countTooWide_1 (by decide) rfl) ?_
  refine gm_go.ru (gi_const dX3_countTooWide_2) ?_
  refine gm_go.ru (gm_istore_n (ls' := [_, _, _]) dX3_countTooWide_3 (by decide) rfl) ?_
  rw [hc, Int.toNat_natCast]
  exact key cn 0 (by omega)
set_option maxRecDepth 4000 in
theorem ct_goodSet {h : gm_H} {n : Nat} {v : Nat → Int} (hN : nd_at h n v) (hv : nd_iv v) : gm_co mX3_goodSet 4 [.ref n] h (.inl (some (.int (zI ((zGS v (v 0).toNat : Nat) : Int))))) h := by
  refine gm_co_of _ (by decide +kernel) rfl (Nat.le_of_ble_eq_true rfl) rfl ?_
  obtain ⟨cn, hc, hc8⟩ := nd_cnt hv
  have key : ∀ (m j : Nat), j + m = cn → gm_ru mX3_goodSet 4 (4, [some (.ref n), some (.int (zI (zGS v j : Nat))), some (.int (zI j))], [], h) (.inl (some (.int (zI (zGS v cn : Nat))))) h := by
    intro m
    induction m with
    | zero =>
      intro j hj
      obtain rfl : j = cn := by omega
      obtain ⟨h1, h2⟩ := id hN
      refine gm_go.ru (gm_iload_n dX3_goodSet_4 rfl) ?_
      refine gm_go.ru (gm_aload_n dX3_goodSet_5 rfl (by first | exact Or.inl ⟨_, rfl⟩ | exact Or.inr ⟨_, rfl⟩)) ?_
      refine gm_go.ru (gm_get dX3_goodSet_6 (fl_X3_22 rfl) (by assumption) rfl) ?_
      refine gm_go.ru (gi_icmp_ge_t (tgt := 40) dX3_goodSet_9 (by decide) (by omega) (by omega) (by omega)) ?_
      refine gm_go.ru (gm_iload_n dX3_goodSet_40 rfl) ?_
      exact gm_iret dX3_goodSet_41 rfl
    | succ m ih =>
      intro j hj
      have hlt := zGS_lt v j
      obtain ⟨h1, h2⟩ := id hN
      have e := ih (j + 1) (by omega)
      rw [zGS] at e
      refine gm_go.ru (gm_iload_n dX3_goodSet_4 rfl) ?_
      refine gm_go.ru (gm_aload_n dX3_goodSet_5 rfl (by first | exact Or.inl ⟨_, rfl⟩ | exact Or.inr ⟨_, rfl⟩)) ?_
      refine gm_go.ru (gm_get dX3_goodSet_6 (fl_X3_22 rfl) (by assumption) rfl) ?_
      refine gm_go.ru (gi_icmp_ge_f 40 dX3_goodSet_9 (by decide) (by omega) (by omega) (by omega)) ?_
      refine gm_go.ru (gm_aload_n dX3_goodSet_12 rfl (by first | exact Or.inl ⟨_, rfl⟩ | exact Or.inr ⟨_, rfl⟩)) ?_
      refine gm_go.ru (gm_iload_n dX3_goodSet_13 rfl) ?_
      refine gm_go.ru (gm_cV dX3_goodSet_14 (ct_isOut hN (i := j) (by omega)) rfl mt_X3_isOut mv_X3_isOut (lk_X3_50 rfl) (Or.inl ⟨_, 5, _, _, _, rfl, (by assumption), rfl⟩) rfl (Nat.le_of_ble_eq_true rfl) (by decide)) ?_
      by_cases c1 : v (11 + 10 * j) = 1
      ·
        rw [zB_t c1]
        refine gm_go.ru (gi_if_ne_t (tgt := 34) dX3_goodSet_17 (by decide) (by decide) (by decide)) ?_
        refine gm_go.ru (gi_iinc (ls' := [_, _, _]) dX3_goodSet_34 rfl (by decide) rfl) ?_
        refine gm_go.ru (gm_goto (tgt := 4) dX3_goodSet_37 (by decide)) ?_
        rw [show zgood v j = false by simp [zgood, c1]] at e
        exact e
      ·
        rw [zB_f c1]
        refine gm_go.ru (gi_if_ne_f 34 dX3_goodSet_17 (by decide) (by decide) (by decide)) ?_
        refine gm_go.ru (gm_aload_n dX3_goodSet_20 rfl (by first | exact Or.inl ⟨_, rfl⟩ | exact Or.inr ⟨_, rfl⟩)) ?_
        refine gm_go.ru (gm_iload_n dX3_goodSet_21 rfl) ?_
        refine gm_go.ru (gm_cV dX3_goodSet_22 (ct_isTooWide hN hv (i := j) (by omega)) rfl mt_X3_isTooWide mv_X3_isTooWide (lk_X3_46 rfl) (Or.inl ⟨_, 5, _, _, _, rfl, (by assumption), rfl⟩) rfl (Nat.le_of_ble_eq_true rfl) (by decide)) ?_
        cases hw : zW v j
        ·
          refine gm_go.ru (gi_if_ne_f 34 dX3_goodSet_25 (by decide) (by decide) (by decide)) ?_
          refine gm_go.ru (gm_iload_n dX3_goodSet_28 rfl) ?_
          refine gm_go.ru (gi_const dX3_goodSet_29) ?_
          refine gm_go.ru (gm_iload_n dX3_goodSet_30 rfl) ?_
          refine gm_go.ru (gi_shl1 dX3_goodSet_31 (by omega)) ?_
          refine gm_go.ru (gi_or dX3_goodSet_32) ?_
          refine gm_go.ru (gm_istore_n (ls' := [_, _, _]) dX3_goodSet_33 (by decide) rfl) ?_
          refine gm_go.ru (gi_iinc (ls' := [_, _, _]) dX3_goodSet_34 rfl (by decide) rfl) ?_
          refine gm_go.ru (gm_goto (tgt := 4) dX3_goodSet_37 (by decide)) ?_
          rw [show zgood v j = true by simp [zgood, c1, hw], if_pos rfl] at e
          have e2 : zGS v j ||| 2 ^ j = zGS v j + 2 ^ j := by have := Nat.two_pow_add_eq_or_of_lt hlt 1; rw [Nat.mul_one] at this; rw [Nat.or_comm, ← this, Nat.add_comm]
          rw [e2]
          exact e
        ·
          refine gm_go.ru (gi_if_ne_t (tgt := 34) dX3_goodSet_25 (by decide) (by decide) (by decide)) ?_
          refine gm_go.ru (gi_iinc (ls' := [_, _, _]) dX3_goodSet_34 rfl (by decide) rfl) ?_
          refine gm_go.ru (gm_goto (tgt := 4) dX3_goodSet_37 (by decide)) ?_
          rw [show zgood v j = false by simp [zgood, hw]] at e
          exact e
  refine gm_go.ru (gi_const dX3_goodSet_0) ?_
  refine gm_go.ru (gm_istore_n (ls' := [_, _, _]) dX3_goodSet_1 (by decide) rfl) ?_
  refine gm_go.ru (gi_const dX3_goodSet_2) ?_
  refine gm_go.ru (gm_istore_n (ls' := [_, _, _]) dX3_goodSet_3 (by decide) rfl) ?_
  rw [hc, Int.toNat_natCast]
  exact key cn 0 (by omega)
/-! why not: 0 none, 1 no needle, 2 out of range, 3 discarded, 4 no room, 5 off the table, 6 no batch -/
def zqAdd (v : Nat → Int) (s : Int) : Nat := if s < 1 ∨ 99 < s then 2 else if 8 ≤ v 0 then 4 else 0
def zqPut (v : Nat → Int) (i j k : Int) : Nat := if ¬ (0 ≤ i ∧ i < v 0) then 1 else if (j < 0 ∨ 7 < j) ∨ (k < -20 ∨ 20 < k) then 2 else if v (11 + 10 * i.toNat) = 1 then 3 else 0
/-- a deviation of the needle i would leave the table -/
def zOf (v : Nat → Int) (i : Nat) (k : Int) : Nat → Bool
  | 0 => false
  | n + 1 => zOf v i k n || decide (v (12 + 10 * i + n) + k < -20 ∨ 20 < v (12 + 10 * i + n) + k)
def zqMove (v : Nat → Int) (i : Nat) (k : Int) : Nat := if v (11 + 10 * i) = 1 then 3 else if zOf v i k 8 then 5 else 0
def zqShift (v : Nat → Int) (i k : Int) : Nat := if ¬ (0 ≤ i ∧ i < v 0) then 1 else if k < -40 ∨ 40 < k then 2 else zqMove v i.toNat k
theorem zOf_up {v : Nat → Int} {i j : Nat} {k : Int} (h : zOf v i k j = true) : ∀ m, j ≤ m → zOf v i k m = true := by
  intro m hm
  induction m with
  | zero => rw [show j = 0 by omega] at h; exact h
  | succ m ih =>
    by_cases hj : j = m + 1
    · rw [← hj]; exact h
    · rw [zOf, ih (by omega)]; rfl
set_option maxRecDepth 4000 in
theorem ct_whyNotAdd {h : gm_H} {n : Nat} {s : Int} {v : Nat → Int} (hN : nd_at h n v) (hv : nd_iv v) (hs : zR s) : gm_co mX3_whyNotAdd 3 [.ref n, .int (zI s)] h (.inl (some (.retAddr (zqAdd v s)))) h := by
  refine gm_co_of _ (by decide +kernel) rfl (Nat.le_of_ble_eq_true rfl) rfl ?_
  have hv0 := hv.1
  obtain ⟨h1, h2⟩ := id hN
  refine gm_go.ru (gm_iload_n dX3_whyNotAdd_0 rfl) ?_
  refine gm_go.ru (gi_const dX3_whyNotAdd_1) ?_
  refine gm_go.ru (gi_bipush dX3_whyNotAdd_2 (by decide +kernel)) ?_
  refine gm_go.ru (gm_cS dX3_whyNotAdd_4 (ct_outside (by omega) (by omega) (by omega)) rfl mt_X10_outside ms_X10_outside (lk_X3_42 rfl) rfl (Nat.le_of_ble_eq_true rfl) (by decide)) ?_
  by_cases c1_7 : s < 1 ∨ 99 < s
  ·
    rw [zB_t c1_7]
    refine gm_go.ru (gi_if_eq_f 14 dX3_whyNotAdd_7 (by decide) (by decide) (by decide)) ?_
    refine gm_go.ru (gm_gets (v := .retAddr 2) dX3_whyNotAdd_10 (by decide +kernel) (sl_X3_53 rfl) rfl) ?_
    exact gm_kret dX3_whyNotAdd_13 rfl (by unfold zqAdd; (repeat' split) <;> omega)
  ·
    rw [zB_f c1_7]
    refine gm_go.ru (gi_if_eq_t (tgt := 14) dX3_whyNotAdd_7 (by decide) (by decide) (by decide)) ?_
    refine gm_go.ru (gm_aload_n dX3_whyNotAdd_14 rfl (by first | exact Or.inl ⟨_, rfl⟩ | exact Or.inr ⟨_, rfl⟩)) ?_
    refine gm_go.ru (gm_get dX3_whyNotAdd_15 (fl_X3_22 rfl) (by assumption) rfl) ?_
    refine gm_go.ru (gi_bipush dX3_whyNotAdd_18 (by decide +kernel)) ?_
    by_cases c2_20 : v 0 < 8
    ·
      refine gm_go.ru (gi_icmp_lt_t (tgt := 29) dX3_whyNotAdd_20 (by decide) (by omega) (by omega) c2_20) ?_
      refine gm_go.ru (gm_gets (v := .retAddr 0) dX3_whyNotAdd_29 (by decide +kernel) (sl_X3_62 rfl) rfl) ?_
      exact gm_kret dX3_whyNotAdd_32 rfl (by unfold zqAdd; (repeat' split) <;> omega)
    ·
      refine gm_go.ru (gi_icmp_lt_f 29 dX3_whyNotAdd_20 (by decide) (by omega) (by omega) c2_20) ?_
      refine gm_go.ru (gm_gets (v := .retAddr 4) dX3_whyNotAdd_23 (by decide +kernel) (sl_X3_59 rfl) rfl) ?_
      refine gm_go.ru (gm_goto (tgt := 32) dX3_whyNotAdd_26 (by decide)) ?_
      exact gm_kret dX3_whyNotAdd_32 rfl (by unfold zqAdd; (repeat' split) <;> omega)
set_option maxRecDepth 4000 in
theorem ct_whyNotPut {h : gm_H} {n : Nat} {i j k : Int} {v : Nat → Int} (hN : nd_at h n v) (hv : nd_iv v) (hi : zR i) (hj : zR j) (hk : zR k) : gm_co mX3_whyNotPut 3 [.ref n, .int (zI i), .int (zI j), .int (zI k)] h (.inl (some (.retAddr (zqPut v i j k)))) h := by
  refine gm_co_of _ (by decide +kernel) rfl (Nat.le_of_ble_eq_true rfl) rfl ?_
  have hv0 := hv.1
  obtain ⟨h1, h2⟩ := id hN
  refine gm_go.ru (gm_aload_n dX3_whyNotPut_0 rfl (by first | exact Or.inl ⟨_, rfl⟩ | exact Or.inr ⟨_, rfl⟩)) ?_
  refine gm_go.ru (gm_iload_n dX3_whyNotPut_1 rfl) ?_
  refine gm_go.ru (gm_cV dX3_whyNotPut_2 (ct_has hN ⟨hv.1.1, hv.1.2⟩ (by omega)) rfl mt_X3_has mv_X3_has (lk_X3_65 rfl) (Or.inl ⟨_, 5, _, _, _, rfl, (by assumption), rfl⟩) rfl (Nat.le_of_ble_eq_true rfl) (by decide)) ?_
  by_cases c1_5 : 0 ≤ i ∧ i < v 0
  ·
    rw [zB_t c1_5]
    refine gm_go.ru (gi_if_ne_t (tgt := 12) dX3_whyNotPut_5 (by decide) (by decide) (by decide)) ?_
    refine gm_go.ru (gm_iload_n dX3_whyNotPut_12 rfl) ?_
    refine gm_go.ru (gi_const dX3_whyNotPut_13) ?_
    refine gm_go.ru (gi_bipush dX3_whyNotPut_14 (by decide +kernel)) ?_
    refine gm_go.ru (gm_cS dX3_whyNotPut_16 (ct_outside (by omega) (by omega) (by omega)) rfl mt_X10_outside ms_X10_outside (lk_X3_42 rfl) rfl (Nat.le_of_ble_eq_true rfl) (by decide)) ?_
    by_cases c2_19 : j < 0 ∨ 7 < j
    ·
      rw [zB_t c2_19]
      refine gm_go.ru (gi_if_ne_t (tgt := 33) dX3_whyNotPut_19 (by decide) (by decide) (by decide)) ?_
      refine gm_go.ru (gm_gets (v := .retAddr 2) dX3_whyNotPut_33 (by decide +kernel) (sl_X3_53 rfl) rfl) ?_
      exact gm_kret dX3_whyNotPut_36 rfl (by unfold zqPut; (repeat' split) <;> first | omega | (simp_all; done) | (simp_all; omega))
    ·
      rw [zB_f c2_19]
      refine gm_go.ru (gi_if_ne_f 33 dX3_whyNotPut_19 (by decide) (by decide) (by decide)) ?_
      refine gm_go.ru (gm_iload_n dX3_whyNotPut_22 rfl) ?_
      refine gm_go.ru (gi_bipush dX3_whyNotPut_23 (by decide +kernel)) ?_
      refine gm_go.ru (gi_bipush dX3_whyNotPut_25 (by decide +kernel)) ?_
      refine gm_go.ru (gm_cS dX3_whyNotPut_27 (ct_outside (by omega) (by omega) (by omega)) rfl mt_X10_outside ms_X10_outside (lk_X3_42 rfl) rfl (Nat.le_of_ble_eq_true rfl) (by decide)) ?_
      by_cases c3_30 : k < (-20) ∨ 20 < k
      ·
        rw [zB_t c3_30]
        refine gm_go.ru (gi_if_eq_f 37 dX3_whyNotPut_30 (by decide) (by decide) (by decide)) ?_
        refine gm_go.ru (gm_gets (v := .retAddr 2) dX3_whyNotPut_33 (by decide +kernel) (sl_X3_53 rfl) rfl) ?_
        exact gm_kret dX3_whyNotPut_36 rfl (by unfold zqPut; (repeat' split) <;> first | omega | (simp_all; done) | (simp_all; omega))
      ·
        rw [zB_f c3_30]
        refine gm_go.ru (gi_if_eq_t (tgt := 37) dX3_whyNotPut_30 (by decide) (by decide) (by decide)) ?_
        obtain ⟨iN, rfl⟩ : ∃ iN : Nat, i = (iN : Int) := ⟨i.toNat, by omega⟩
        refine gm_go.ru (gm_aload_n dX3_whyNotPut_37 rfl (by first | exact Or.inl ⟨_, rfl⟩ | exact Or.inr ⟨_, rfl⟩)) ?_
        refine gm_go.ru (gm_iload_n dX3_whyNotPut_38 rfl) ?_
        refine gm_go.ru (gm_cV dX3_whyNotPut_39 (ct_isOut hN (i := iN) (by omega)) rfl mt_X3_isOut mv_X3_isOut (lk_X3_50 rfl) (Or.inl ⟨_, 5, _, _, _, rfl, (by assumption), rfl⟩) rfl (Nat.le_of_ble_eq_true rfl) (by decide)) ?_
        by_cases c4_42 : v (11 + 10 * iN) = 1
        ·
          rw [zB_t c4_42]
          refine gm_go.ru (gi_if_eq_f 51 dX3_whyNotPut_42 (by decide) (by decide) (by decide)) ?_
          refine gm_go.ru (gm_gets (v := .retAddr 3) dX3_whyNotPut_45 (by decide +kernel) (sl_X3_71 rfl) rfl) ?_
          refine gm_go.ru (gm_goto (tgt := 54) dX3_whyNotPut_48 (by decide)) ?_
          exact gm_kret dX3_whyNotPut_54 rfl (by unfold zqPut; (repeat' split) <;> first | omega | (simp_all; done) | (simp_all; omega))
        ·
          rw [zB_f c4_42]
          refine gm_go.ru (gi_if_eq_t (tgt := 51) dX3_whyNotPut_42 (by decide) (by decide) (by decide)) ?_
          refine gm_go.ru (gm_gets (v := .retAddr 0) dX3_whyNotPut_51 (by decide +kernel) (sl_X3_62 rfl) rfl) ?_
          exact gm_kret dX3_whyNotPut_54 rfl (by unfold zqPut; (repeat' split) <;> first | omega | (simp_all; done) | (simp_all; omega))
  ·
    rw [zB_f c1_5]
    refine gm_go.ru (gi_if_ne_f 12 dX3_whyNotPut_5 (by decide) (by decide) (by decide)) ?_
    refine gm_go.ru (gm_gets (v := .retAddr 1) dX3_whyNotPut_8 (by decide +kernel) (sl_X3_68 rfl) rfl) ?_
    exact gm_kret dX3_whyNotPut_11 rfl (by unfold zqPut; (repeat' split) <;> first | omega | (simp_all; done) | (simp_all; omega))
