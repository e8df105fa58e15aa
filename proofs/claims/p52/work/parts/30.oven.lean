theorem gm_hp {M : gm_M} {d pc : Nat} {ls : List (Option Value)} {st : List Value} {h a h' : gm_H} {o : Option Value ⊕ String} (e : a = h) (k : gm_ru M d (pc, ls, st, a) o h') : gm_ru M d (pc, ls, st, h) o h' := e ▸ k
theorem gm_hq {M : gm_M} {d pc : Nat} {ls : List (Option Value)} {st : List Value} {h a : gm_H} {f : gm_fr} (e : a = h) (k : gm_go M d (pc, ls, st, a) f) : gm_go M d (pc, ls, st, h) f := e ▸ k
/-! Oven: its five cells, by the vector of the state -/
def ov_D (v I M D W : Nat → Int) : Prop := ∀ k : Nat, (k : Int) < v 4 → I k = v (90 + 4 * k) ∧ M k = v (91 + 4 * k) ∧ D k = v (92 + 4 * k) ∧ W k = v (93 + 4 * k)
abbrev ov_c (a b c d e f : Int) (r : Nat) : gm_cl := .inr (7, [.int (zI a), .int (zI b), .int (zI c), .int (zI d), .int (zI e), .long (zL f), .ref (r + 1), .ref (r + 2), .ref (r + 3), .ref (r + 4)])
def ov_at (h : gm_H) (r : Nat) (v : Nat → Int) : Prop :=
  h.1[r]? = some (ov_c (v 2) (v 4) (v 3) (v 5) (v 6) (v 8 * 1000000 + v 7) r) ∧ ∃ I M D W, h.1[r + 1]? = some (gA 7 I) ∧ h.1[r + 2]? = some (gA 7 M) ∧ h.1[r + 3]? = some (gA 7 D) ∧ h.1[r + 4]? = some (gA 7 W) ∧ ov_D v I M D W
def ov_K (r : Nat) : Nat → Prop := fun k => r ≤ k ∧ k < r + 5
/-- what the oven's part of a state keeps, T calls in -/
def ov_iv (T : Nat) (v : Nat → Int) : Prop := (0 ≤ v 2 ∧ v 2 ≤ 60 * T) ∧ (0 ≤ v 3 ∧ v 3 ≤ T) ∧ (0 ≤ v 4 ∧ v 4 ≤ 7) ∧ (0 ≤ v 5 ∧ v 5 ≤ T) ∧ (0 ≤ v 6 ∧ v 6 ≤ 60 * T) ∧ (0 ≤ v 7 ∧ v 7 < 1000000) ∧ (0 ≤ v 8 ∧ v 8 ≤ T) ∧ T ≤ 1000 ∧ ∀ k : Nat, (k : Int) < v 4 → (0 ≤ v (90 + 4 * k) ∧ v (90 + 4 * k) < v 3) ∧ (1 ≤ v (91 + 4 * k) ∧ v (91 + 4 * k) ≤ 60) ∧ (1 ≤ v (92 + 4 * k) ∧ v (92 + 4 * k) ≤ 999) ∧ (1 ≤ v (93 + 4 * k) ∧ v (93 + 4 * k) ≤ 9)
theorem ov_cnt {T : Nat} {v : Nat → Int} (hv : ov_iv T v) : ∃ c : Nat, v 4 = (c : Int) ∧ c ≤ 7 := ⟨(v 4).toNat, by have := hv.2.2.1; omega, by have := hv.2.2.1; omega⟩
theorem ov_fr {h h' : gm_H} {K : Nat → Prop} {r : Nat} {v : Nat → Int} (f : gh_fr h h' K) (hK : ∀ k, ov_K r k → ¬ K k) (hN : ov_at h r v) : ov_at h' r v := by
  obtain ⟨h1, I, M, D, W, h2, h3, h4, h5, h6⟩ := hN
  exact ⟨gh_at f h1 (hK r ⟨by omega, by omega⟩), I, M, D, W, gh_at f h2 (hK _ ⟨by omega, by omega⟩), gh_at f h3 (hK _ ⟨by omega, by omega⟩), gh_at f h4 (hK _ ⟨by omega, by omega⟩), gh_at f h5 (hK _ ⟨by omega, by omega⟩), h6⟩
/-- the place of the batch b, of the next m from k on -/
def zFi (v : Nat → Int) (b : Int) : Nat → Nat → Int
  | 0, _ => -1
  | m + 1, k => if v (90 + 4 * k) = b then (k : Int) else zFi v b m (k + 1)
def zFind (v : Nat → Int) (b : Int) : Int := zFi v b (v 4).toNat 0
theorem zFi_r (v : Nat → Int) (b : Int) : ∀ m k : Nat, zFi v b m k = -1 ∨ ∃ j : Nat, zFi v b m k = (j : Int) ∧ k ≤ j ∧ j < k + m
  | 0, k => Or.inl rfl
  | m + 1, k => by
    rw [zFi]
    by_cases e : v (90 + 4 * k) = b
    · rw [if_pos e]; exact Or.inr ⟨k, rfl, Nat.le_refl _, by omega⟩
    · rw [if_neg e]
      rcases zFi_r v b m (k + 1) with h | ⟨j, h, h1, h2⟩
      · exact Or.inl h
      · exact Or.inr ⟨j, h, by omega, by omega⟩
theorem zFind_r {T : Nat} {v : Nat → Int} (hv : ov_iv T v) (b : Int) : zFind v b = -1 ∨ ∃ j : Nat, zFind v b = (j : Int) ∧ (j : Int) < v 4 := by
  obtain ⟨c, hc, _⟩ := ov_cnt hv
  rcases zFi_r v b (v 4).toNat 0 with h | ⟨j, h, h1, h2⟩
  · exact Or.inl h
  · exact Or.inr ⟨j, h, by omega⟩
/-- the lateness of the batch at k, begun at s -/
def zLt (v : Nat → Int) (k : Nat) (s : Int) : Int := if 0 < s + v (91 + 4 * k) - v (92 + 4 * k) then v (93 + 4 * k) * (s + v (91 + 4 * k) - v (92 + 4 * k)) else 0
theorem z_m9 {a b B : Int} (ha : 0 ≤ a ∧ a ≤ 9) (hb : 0 ≤ b ∧ b ≤ B) : 0 ≤ a * b ∧ a * b ≤ 9 * B := by
  have h1 := Int.mul_nonneg ha.1 hb.1
  have h2 := Int.mul_le_mul ha.2 hb.2 hb.1 (by omega)
  exact ⟨h1, h2⟩
theorem zLt_r {T : Nat} {v : Nat → Int} (hv : ov_iv T v) {k : Nat} (hk : (k : Int) < v 4) {s B : Int} (hs : 0 ≤ s ∧ s ≤ B) : 0 ≤ zLt v k s ∧ zLt v k s ≤ 9 * (B + 60) := by
  have hb := hv.2.2.2.2.2.2.2.2 k hk
  unfold zLt
  split
  · exact z_m9 ⟨by omega, by omega⟩ ⟨by omega, by omega⟩
  · omega
/-- 0 none, 2 out of range, 4 no room -/
def zqBatch (v : Nat → Int) (a b c : Int) : Nat := if (a < 1 ∨ 60 < a) ∨ (b < 1 ∨ 999 < b) ∨ (c < 1 ∨ 9 < c) then 2 else if 7 ≤ v 4 then 4 else 0
def zAddB (v : Nat → Int) (a b c : Int) : Nat → Int := zU (zU (zU (zU (zU (zU v (90 + 4 * (v 4).toNat) (v 3)) (91 + 4 * (v 4).toNat) a) (92 + 4 * (v 4).toNat) b) (93 + 4 * (v 4).toNat) c) 4 (v 4 + 1)) 3 (v 3 + 1)
/-- without the batch at p -/
def zOutB (v : Nat → Int) (p : Nat) : Nat → Int := fun j => if j = 4 then v 4 - 1 else if 90 + 4 * p ≤ j ∧ j < 118 then (if j + 4 < 118 then v (j + 4) else 0) else v j
theorem zOutB_hi {v : Nat → Int} {p j : Nat} (h : 90 + 4 * p ≤ j) (h2 : j + 4 < 118) : zOutB v p j = v (j + 4) := by unfold zOutB; rw [if_neg (by omega), if_pos (by omega), if_pos h2]
theorem zOutB_lo {v : Nat → Int} {p j : Nat} (h : j < 90 + 4 * p) (h2 : j ≠ 4) : zOutB v p j = v j := by unfold zOutB; rw [if_neg h2, if_neg (by omega)]
def zBk (v : Nat → Int) (p : Nat) : Nat → Int := zU (zU (zU (zU (zU v 2 (v 2 + v (91 + 4 * p))) 5 (v 5 + 1)) 6 (v 6 + v (91 + 4 * p))) 8 (v 8 + (v 7 + zLt v p (v 2)) / 1000000)) 7 ((v 7 + zLt v p (v 2)) % 1000000)
def zBake (v : Nat → Int) (p : Nat) : Nat → Int := zOutB (zBk v p) p
set_option maxRecDepth 4000 in
theorem ct_placeOf {h : gm_H} {r T : Nat} {v : Nat → Int} (hN : ov_at h r v) (hv : ov_iv T v) {b : Int} (hb : zR b) : gm_co mX5_placeOf 1 [.ref r, .int (zI b)] h (.inl (some (.int (zI (zFind v b))))) h := by
  refine gm_co_of _ (by decide +kernel) rfl (Nat.le_of_ble_eq_true rfl) rfl ?_
  obtain ⟨cn, hc, hc7⟩ := ov_cnt hv
  obtain ⟨h1, I, M, D, W, h2, h3, h4, h5, h6⟩ := id hN
  obtain ⟨q2, q3, q4, q5, q6, q7, q8, qT, qB⟩ := id hv
  have key : ∀ (m j : Nat), j + m = cn → gm_ru mX5_placeOf 1 (2, [some (.ref r), some (.int (zI b)), some (.int (zI j))], [], h) (.inl (some (.int (zI (zFi v b m j))))) h := by
    intro m
    induction m with
    | zero =>
      intro j hj
      obtain rfl : j = cn := by omega
      refine gm_go.ru (gm_iload_n dX5_placeOf_2 rfl) ?_
      refine gm_go.ru (gm_aload_n dX5_placeOf_3 rfl (by first | exact Or.inl ⟨_, rfl⟩ | exact Or.inr ⟨_, rfl⟩)) ?_
      refine gm_go.ru (gm_get dX5_placeOf_4 (fl_X5_28 rfl) (by assumption) rfl) ?_
      refine gm_go.ru (gi_icmp_ge_t (tgt := 28) dX5_placeOf_7 (by decide) (by omega) (by omega) (by omega)) ?_
      refine gm_go.ru (gi_const dX5_placeOf_28) ?_
      exact gm_iret dX5_placeOf_29 rfl
    | succ m ih =>
      intro j hj
      have qj := qB j (by omega)
      have ej := (h6 j (by omega)).1
      refine gm_go.ru (gm_iload_n dX5_placeOf_2 rfl) ?_
      refine gm_go.ru (gm_aload_n dX5_placeOf_3 rfl (by first | exact Or.inl ⟨_, rfl⟩ | exact Or.inr ⟨_, rfl⟩)) ?_
      refine gm_go.ru (gm_get dX5_placeOf_4 (fl_X5_28 rfl) (by assumption) rfl) ?_
      refine gm_go.ru (gi_icmp_ge_f 28 dX5_placeOf_7 (by decide) (by omega) (by omega) (by omega)) ?_
      refine gm_go.ru (gm_aload_n dX5_placeOf_10 rfl (by first | exact Or.inl ⟨_, rfl⟩ | exact Or.inr ⟨_, rfl⟩)) ?_
      refine gm_go.ru (gm_get dX5_placeOf_11 (fl_X5_9 rfl) (by assumption) rfl) ?_
      refine gm_go.ru (gm_iload_n dX5_placeOf_14 rfl) ?_
      refine gm_go.ru (gi_ald dX5_placeOf_15 (by assumption) (by omega) (by omega) (by decide)) ?_
      rw [Int.toNat_natCast, ej]
      refine gm_go.ru (gm_iload_n dX5_placeOf_16 rfl) ?_
      rw [zFi]
      by_cases c : v (90 + 4 * j) = b
      ·
        rw [if_pos c]
        refine gm_go.ru (gi_icmp_ne_f 22 dX5_placeOf_17 (by decide) (by omega) (by omega) c) ?_
        refine gm_go.ru (gm_iload_n dX5_placeOf_20 rfl) ?_
        exact gm_iret dX5_placeOf_21 rfl
      ·
        rw [if_neg c]
        refine gm_go.ru (gi_icmp_ne_t (tgt := 22) dX5_placeOf_17 (by decide) (by omega) (by omega) c) ?_
        refine gm_go.ru (gi_iinc (ls' := [_, _, _]) dX5_placeOf_22 rfl (by decide) rfl) ?_
        refine gm_go.ru (gm_goto (tgt := 2) dX5_placeOf_25 (by decide)) ?_
        exact ih (j + 1) (by omega)
  refine gm_go.ru (gi_const dX5_placeOf_0) ?_
  refine gm_go.ru (gm_istore_n (ls' := [_, _, _]) dX5_placeOf_1 (by decide) rfl) ?_
  unfold zFind; rw [hc, Int.toNat_natCast]
  exact key cn 0 (by omega)
set_option maxRecDepth 4000 in
theorem ct_latenessFrom {h : gm_H} {r T : Nat} {v : Nat → Int} (hN : ov_at h r v) (hv : ov_iv T v) {k : Nat} {s : Int} (hk : (k : Int) < v 4) (hs : 0 ≤ s ∧ s ≤ 1000000) : gm_co mX5_latenessFrom 1 [.ref r, .int (zI k), .int (zI s)] h (.inl (some (.int (zI (zLt v k s))))) h := by
  refine gm_co_of _ (by decide +kernel) rfl (Nat.le_of_ble_eq_true rfl) rfl ?_
  obtain ⟨h1, I, M, D, W, h2, h3, h4, h5, h6⟩ := id hN
  obtain ⟨q2, q3, q4, q5, q6, q7, q8, qT, qB⟩ := id hv
  have qk := qB k hk
  obtain ⟨e1, e2, e3, e4⟩ := h6 k hk
  refine gm_go.ru (gm_iload_n dX5_latenessFrom_0 rfl) ?_
  refine gm_go.ru (gm_aload_n dX5_latenessFrom_1 rfl (by first | exact Or.inl ⟨_, rfl⟩ | exact Or.inr ⟨_, rfl⟩)) ?_
  refine gm_go.ru (gm_get dX5_latenessFrom_2 (fl_X5_15 rfl) (by assumption) rfl) ?_
  refine gm_go.ru (gm_iload_n dX5_latenessFrom_5 rfl) ?_
  refine gm_go.ru (gi_ald dX5_latenessFrom_6 (by assumption) (by omega) (by omega) (by decide)) ?_
  rw [Int.toNat_natCast, e2]
  refine gm_go.ru (gi_add dX5_latenessFrom_7) ?_
  refine gm_go.ru (gm_aload_n dX5_latenessFrom_8 rfl (by first | exact Or.inl ⟨_, rfl⟩ | exact Or.inr ⟨_, rfl⟩)) ?_
  refine gm_go.ru (gm_get dX5_latenessFrom_9 (fl_X5_18 rfl) (by assumption) rfl) ?_
  refine gm_go.ru (gm_iload_n dX5_latenessFrom_12 rfl) ?_
  refine gm_go.ru (gi_ald dX5_latenessFrom_13 (by assumption) (by omega) (by omega) (by decide)) ?_
  rw [Int.toNat_natCast, e3]
  refine gm_go.ru (gi_sub dX5_latenessFrom_14) ?_
  refine gm_go.ru (gm_istore_n (ls' := [_, _, _, _]) dX5_latenessFrom_15 (by decide) rfl) ?_
  refine gm_go.ru (gm_iload_n dX5_latenessFrom_16 rfl) ?_
  unfold zLt
  by_cases c : 0 < s + v (91 + 4 * k) - v (92 + 4 * k)
  ·
    rw [if_pos c]
    refine gm_go.ru (gi_if_le_f 31 dX5_latenessFrom_17 (by decide) (by omega) (by omega)) ?_
    refine gm_go.ru (gm_aload_n dX5_latenessFrom_20 rfl (by first | exact Or.inl ⟨_, rfl⟩ | exact Or.inr ⟨_, rfl⟩)) ?_
    refine gm_go.ru (gm_get dX5_latenessFrom_21 (fl_X5_21 rfl) (by assumption) rfl) ?_
    refine gm_go.ru (gm_iload_n dX5_latenessFrom_24 rfl) ?_
    refine gm_go.ru (gi_ald dX5_latenessFrom_25 (by assumption) (by omega) (by omega) (by decide)) ?_
    rw [Int.toNat_natCast, e4]
    refine gm_go.ru (gm_iload_n dX5_latenessFrom_26 rfl) ?_
    refine gm_go.ru (gi_mul dX5_latenessFrom_27) ?_
    refine gm_go.ru (gm_goto (tgt := 32) dX5_latenessFrom_28 (by decide)) ?_
    exact gm_iret dX5_latenessFrom_32 rfl
  ·
    rw [if_neg c]
    refine gm_go.ru (gi_if_le_t (tgt := 31) dX5_latenessFrom_17 (by decide) (by omega) (by omega)) ?_
    refine gm_go.ru (gi_const dX5_latenessFrom_31) ?_
    exact gm_iret dX5_latenessFrom_32 rfl
set_option maxRecDepth 4000 in
theorem ct_ovWhyNotAdd {h : gm_H} {r T : Nat} {v : Nat → Int} (hN : ov_at h r v) (hv : ov_iv T v) {a b c : Int} (ha : zR a) (hb : zR b) (hc : zR c) : gm_co mX5_whyNotAdd 3 [.ref r, .int (zI a), .int (zI b), .int (zI c)] h (.inl (some (.retAddr (zqBatch v a b c)))) h := by
  refine gm_co_of _ (by decide +kernel) rfl (Nat.le_of_ble_eq_true rfl) rfl ?_
  obtain ⟨h1, I, M, D, W, h2, h3, h4, h5, h6⟩ := id hN
  obtain ⟨q2, q3, q4, q5, q6, q7, q8, qT, qB⟩ := id hv
  refine gm_go.ru (gm_iload_n dX5_whyNotAdd_0 rfl) ?_
  refine gm_go.ru (gi_const dX5_whyNotAdd_1) ?_
  refine gm_go.ru (gi_bipush dX5_whyNotAdd_2 (by decide +kernel)) ?_
  refine gm_go.ru (gm_cS dX5_whyNotAdd_4 (ct_outside (by omega) (by omega) (by omega)) rfl mt_X10_outside ms_X10_outside (lk_X5_50 rfl) rfl (Nat.le_of_ble_eq_true rfl) (by decide)) ?_
  by_cases c1_7 : a < 1 ∨ 60 < a
  ·
    rw [zB_t c1_7]
    refine gm_go.ru (gi_if_ne_t (tgt := 31) dX5_whyNotAdd_7 (by decide) (by decide) (by decide)) ?_
    refine gm_go.ru (gm_gets (v := .retAddr 2) dX5_whyNotAdd_31 (by decide +kernel) (sl_X5_54 rfl) rfl) ?_
    exact gm_kret dX5_whyNotAdd_34 rfl (by unfold zqBatch; (repeat' split) <;> omega)
  ·
    rw [zB_f c1_7]
    refine gm_go.ru (gi_if_ne_f 31 dX5_whyNotAdd_7 (by decide) (by decide) (by decide)) ?_
    refine gm_go.ru (gm_iload_n dX5_whyNotAdd_10 rfl) ?_
    refine gm_go.ru (gi_const dX5_whyNotAdd_11) ?_
    refine gm_go.ru (gi_sipush dX5_whyNotAdd_12 (by decide +kernel)) ?_
    refine gm_go.ru (gm_cS dX5_whyNotAdd_15 (ct_outside (by omega) (by omega) (by omega)) rfl mt_X10_outside ms_X10_outside (lk_X5_50 rfl) rfl (Nat.le_of_ble_eq_true rfl) (by decide)) ?_
    by_cases c2_18 : b < 1 ∨ 999 < b
    ·
      rw [zB_t c2_18]
      refine gm_go.ru (gi_if_ne_t (tgt := 31) dX5_whyNotAdd_18 (by decide) (by decide) (by decide)) ?_
      refine gm_go.ru (gm_gets (v := .retAddr 2) dX5_whyNotAdd_31 (by decide +kernel) (sl_X5_54 rfl) rfl) ?_
      exact gm_kret dX5_whyNotAdd_34 rfl (by unfold zqBatch; (repeat' split) <;> omega)
    ·
      rw [zB_f c2_18]
      refine gm_go.ru (gi_if_ne_f 31 dX5_whyNotAdd_18 (by decide) (by decide) (by decide)) ?_
      refine gm_go.ru (gm_iload_n dX5_whyNotAdd_21 rfl) ?_
      refine gm_go.ru (gi_const dX5_whyNotAdd_22) ?_
      refine gm_go.ru (gi_bipush dX5_whyNotAdd_23 (by decide +kernel)) ?_
      refine gm_go.ru (gm_cS dX5_whyNotAdd_25 (ct_outside (by omega) (by omega) (by omega)) rfl mt_X10_outside ms_X10_outside (lk_X5_50 rfl) rfl (Nat.le_of_ble_eq_true rfl) (by decide)) ?_
      by_cases c3_28 : c < 1 ∨ 9 < c
      ·
        rw [zB_t c3_28]
        refine gm_go.ru (gi_if_eq_f 35 dX5_whyNotAdd_28 (by decide) (by decide) (by decide)) ?_
        refine gm_go.ru (gm_gets (v := .retAddr 2) dX5_whyNotAdd_31 (by decide +kernel) (sl_X5_54 rfl) rfl) ?_
        exact gm_kret dX5_whyNotAdd_34 rfl (by unfold zqBatch; (repeat' split) <;> omega)
      ·
        rw [zB_f c3_28]
        refine gm_go.ru (gi_if_eq_t (tgt := 35) dX5_whyNotAdd_28 (by decide) (by decide) (by decide)) ?_
        refine gm_go.ru (gm_aload_n dX5_whyNotAdd_35 rfl (by first | exact Or.inl ⟨_, rfl⟩ | exact Or.inr ⟨_, rfl⟩)) ?_
        refine gm_go.ru (gm_get dX5_whyNotAdd_36 (fl_X5_28 rfl) (by assumption) rfl) ?_
        refine gm_go.ru (gi_bipush dX5_whyNotAdd_39 (by decide +kernel)) ?_
        by_cases c4_41 : v 4 < 7
        ·
          refine gm_go.ru (gi_icmp_lt_t (tgt := 50) dX5_whyNotAdd_41 (by decide) (by omega) (by omega) c4_41) ?_
          refine gm_go.ru (gm_gets (v := .retAddr 0) dX5_whyNotAdd_50 (by decide +kernel) (sl_X5_63 rfl) rfl) ?_
          exact gm_kret dX5_whyNotAdd_53 rfl (by unfold zqBatch; (repeat' split) <;> omega)
        ·
          refine gm_go.ru (gi_icmp_lt_f 50 dX5_whyNotAdd_41 (by decide) (by omega) (by omega) c4_41) ?_
          refine gm_go.ru (gm_gets (v := .retAddr 4) dX5_whyNotAdd_44 (by decide +kernel) (sl_X5_60 rfl) rfl) ?_
          refine gm_go.ru (gm_goto (tgt := 53) dX5_whyNotAdd_47 (by decide)) ?_
          exact gm_kret dX5_whyNotAdd_53 rfl (by unfold zqBatch; (repeat' split) <;> omega)
set_option maxRecDepth 4000 in
theorem ct_ovAdd {h : gm_H} {r T : Nat} {v : Nat → Int} (hN : ov_at h r v) (hv : ov_iv T v) {a b c : Int} (h7 : v 4 < 7) : ∃ h', gm_co mX5_add 1 [.ref r, .int (zI a), .int (zI b), .int (zI c)] h (.inl (some (.int (zI (v 3))))) h' ∧ ov_at h' r (zAddB v a b c) ∧ gh_fr h h' (ov_K r) := by
  obtain ⟨cn, hc, hc7⟩ := ov_cnt hv
  obtain ⟨h1, I, M, D, W, h2, h3, h4, h5, h6⟩ := id hN
  obtain ⟨q2, q3, q4, q5, q6, q7, q8, qT, qB⟩ := id hv
  rw [hc] at h1
  obtain ⟨a1, ha1⟩ : ∃ x : gm_H, x = (h.1.set (r + 1) (gA 7 (zU I cn (v 3))), h.2) := ⟨_, rfl⟩
  have fr_a1 := gs_n (c' := gA 7 (zU I cn (v 3))) h1 (show r + 1 ≠ r by omega); rw [← ha1] at fr_a1
  have fi_a1 : a1.1[r + 1]? = some (gA 7 (zU I cn (v 3))) := by rw [ha1]; exact gs_s h2
  have fm_a1 := gs_n (c' := gA 7 (zU I cn (v 3))) h3 (show r + 1 ≠ r + 2 by omega); rw [← ha1] at fm_a1
  have fd_a1 := gs_n (c' := gA 7 (zU I cn (v 3))) h4 (show r + 1 ≠ r + 3 by omega); rw [← ha1] at fd_a1
  have fw_a1 := gs_n (c' := gA 7 (zU I cn (v 3))) h5 (show r + 1 ≠ r + 4 by omega); rw [← ha1] at fw_a1
  obtain ⟨a2, ha2⟩ : ∃ x : gm_H, x = (a1.1.set (r + 2) (gA 7 (zU M cn a)), a1.2) := ⟨_, rfl⟩
  have fr_a2 := gs_n (c' := gA 7 (zU M cn a)) fr_a1 (show r + 2 ≠ r by omega); rw [← ha2] at fr_a2
  have fi_a2 := gs_n (c' := gA 7 (zU M cn a)) fi_a1 (show r + 2 ≠ r + 1 by omega); rw [← ha2] at fi_a2
  have fm_a2 : a2.1[r + 2]? = some (gA 7 (zU M cn a)) := by rw [ha2]; exact gs_s fm_a1
  have fd_a2 := gs_n (c' := gA 7 (zU M cn a)) fd_a1 (show r + 2 ≠ r + 3 by omega); rw [← ha2] at fd_a2
  have fw_a2 := gs_n (c' := gA 7 (zU M cn a)) fw_a1 (show r + 2 ≠ r + 4 by omega); rw [← ha2] at fw_a2
  obtain ⟨a3, ha3⟩ : ∃ x : gm_H, x = (a2.1.set (r + 3) (gA 7 (zU D cn b)), a2.2) := ⟨_, rfl⟩
  have fr_a3 := gs_n (c' := gA 7 (zU D cn b)) fr_a2 (show r + 3 ≠ r by omega); rw [← ha3] at fr_a3
  have fi_a3 := gs_n (c' := gA 7 (zU D cn b)) fi_a2 (show r + 3 ≠ r + 1 by omega); rw [← ha3] at fi_a3
  have fm_a3 := gs_n (c' := gA 7 (zU D cn b)) fm_a2 (show r + 3 ≠ r + 2 by omega); rw [← ha3] at fm_a3
  have fd_a3 : a3.1[r + 3]? = some (gA 7 (zU D cn b)) := by rw [ha3]; exact gs_s fd_a2
  have fw_a3 := gs_n (c' := gA 7 (zU D cn b)) fw_a2 (show r + 3 ≠ r + 4 by omega); rw [← ha3] at fw_a3
  obtain ⟨a4, ha4⟩ : ∃ x : gm_H, x = (a3.1.set (r + 4) (gA 7 (zU W cn c)), a3.2) := ⟨_, rfl⟩
  have fr_a4 := gs_n (c' := gA 7 (zU W cn c)) fr_a3 (show r + 4 ≠ r by omega); rw [← ha4] at fr_a4
  have fi_a4 := gs_n (c' := gA 7 (zU W cn c)) fi_a3 (show r + 4 ≠ r + 1 by omega); rw [← ha4] at fi_a4
  have fm_a4 := gs_n (c' := gA 7 (zU W cn c)) fm_a3 (show r + 4 ≠ r + 2 by omega); rw [← ha4] at fm_a4
  have fd_a4 := gs_n (c' := gA 7 (zU W cn c)) fd_a3 (show r + 4 ≠ r + 3 by omega); rw [← ha4] at fd_a4
  have fw_a4 : a4.1[r + 4]? = some (gA 7 (zU W cn c)) := by rw [ha4]; exact gs_s fw_a3
  obtain ⟨a5, ha5⟩ : ∃ x : gm_H, x = (a4.1.set (r) (ov_c (v 2) ((cn : Int) + 1) (v 3) (v 5) (v 6) (v 8 * 1000000 + v 7) r), a4.2) := ⟨_, rfl⟩
  have fr_a5 : a5.1[r]? = some (ov_c (v 2) ((cn : Int) + 1) (v 3) (v 5) (v 6) (v 8 * 1000000 + v 7) r) := by rw [ha5]; exact gs_s fr_a4
  have fi_a5 := gs_n (c' := ov_c (v 2) ((cn : Int) + 1) (v 3) (v 5) (v 6) (v 8 * 1000000 + v 7) r) fi_a4 (show r ≠ r + 1 by omega); rw [← ha5] at fi_a5
  have fm_a5 := gs_n (c' := ov_c (v 2) ((cn : Int) + 1) (v 3) (v 5) (v 6) (v 8 * 1000000 + v 7) r) fm_a4 (show r ≠ r + 2 by omega); rw [← ha5] at fm_a5
  have fd_a5 := gs_n (c' := ov_c (v 2) ((cn : Int) + 1) (v 3) (v 5) (v 6) (v 8 * 1000000 + v 7) r) fd_a4 (show r ≠ r + 3 by omega); rw [← ha5] at fd_a5
  have fw_a5 := gs_n (c' := ov_c (v 2) ((cn : Int) + 1) (v 3) (v 5) (v 6) (v 8 * 1000000 + v 7) r) fw_a4 (show r ≠ r + 4 by omega); rw [← ha5] at fw_a5
  obtain ⟨a6, ha6⟩ : ∃ x : gm_H, x = (a5.1.set (r) (ov_c (v 2) ((cn : Int) + 1) (v 3 + 1) (v 5) (v 6) (v 8 * 1000000 + v 7) r), a5.2) := ⟨_, rfl⟩
  have fr_a6 : a6.1[r]? = some (ov_c (v 2) ((cn : Int) + 1) (v 3 + 1) (v 5) (v 6) (v 8 * 1000000 + v 7) r) := by rw [ha6]; exact gs_s fr_a5
  have fi_a6 := gs_n (c' := ov_c (v 2) ((cn : Int) + 1) (v 3 + 1) (v 5) (v 6) (v 8 * 1000000 + v 7) r) fi_a5 (show r ≠ r + 1 by omega); rw [← ha6] at fi_a6
  have fm_a6 := gs_n (c' := ov_c (v 2) ((cn : Int) + 1) (v 3 + 1) (v 5) (v 6) (v 8 * 1000000 + v 7) r) fm_a5 (show r ≠ r + 2 by omega); rw [← ha6] at fm_a6
  have fd_a6 := gs_n (c' := ov_c (v 2) ((cn : Int) + 1) (v 3 + 1) (v 5) (v 6) (v 8 * 1000000 + v 7) r) fd_a5 (show r ≠ r + 3 by omega); rw [← ha6] at fd_a6
  have fw_a6 := gs_n (c' := ov_c (v 2) ((cn : Int) + 1) (v 3 + 1) (v 5) (v 6) (v 8 * 1000000 + v 7) r) fw_a5 (show r ≠ r + 4 by omega); rw [← ha6] at fw_a6
  refine ⟨a6, ?_, ⟨?_, _, _, _, _, fi_a6, fm_a6, fd_a6, fw_a6, ?_⟩, ?_⟩
  · refine gm_co_of _ (by decide +kernel) rfl (Nat.le_of_ble_eq_true rfl) rfl ?_
    refine gm_go.ru (gm_aload_n dX5_add_0 rfl (by first | exact Or.inl ⟨_, rfl⟩ | exact Or.inr ⟨_, rfl⟩)) ?_
    refine gm_go.ru (gm_get dX5_add_1 (fl_X5_9 rfl) (by assumption) rfl) ?_
    refine gm_go.ru (gm_aload_n dX5_add_4 rfl (by first | exact Or.inl ⟨_, rfl⟩ | exact Or.inr ⟨_, rfl⟩)) ?_
    refine gm_go.ru (gm_get dX5_add_5 (fl_X5_28 rfl) (by assumption) rfl) ?_
    refine gm_go.ru (gm_aload_n dX5_add_8 rfl (by first | exact Or.inl ⟨_, rfl⟩ | exact Or.inr ⟨_, rfl⟩)) ?_
    refine gm_go.ru (gm_get dX5_add_9 (fl_X5_31 rfl) (by assumption) rfl) ?_
    refine gm_go.ru (gi_ast dX5_add_12 (by assumption) (by omega) (by omega) (by decide)) ?_
    refine gm_hp ha1 ?_
    refine gm_go.ru (gm_aload_n dX5_add_13 rfl (by first | exact Or.inl ⟨_, rfl⟩ | exact Or.inr ⟨_, rfl⟩)) ?_
    refine gm_go.ru (gm_get dX5_add_14 (fl_X5_15 rfl) (by assumption) rfl) ?_
    refine gm_go.ru (gm_aload_n dX5_add_17 rfl (by first | exact Or.inl ⟨_, rfl⟩ | exact Or.inr ⟨_, rfl⟩)) ?_
    refine gm_go.ru (gm_get dX5_add_18 (fl_X5_28 rfl) (by assumption) rfl) ?_
    refine gm_go.ru (gm_iload_n dX5_add_21 rfl) ?_
    refine gm_go.ru (gi_ast dX5_add_22 (by assumption) (by omega) (by omega) (by decide)) ?_
    refine gm_hp ha2 ?_
    refine gm_go.ru (gm_aload_n dX5_add_23 rfl (by first | exact Or.inl ⟨_, rfl⟩ | exact Or.inr ⟨_, rfl⟩)) ?_
    refine gm_go.ru (gm_get dX5_add_24 (fl_X5_18 rfl) (by assumption) rfl) ?_
    refine gm_go.ru (gm_aload_n dX5_add_27 rfl (by first | exact Or.inl ⟨_, rfl⟩ | exact Or.inr ⟨_, rfl⟩)) ?_
    refine gm_go.ru (gm_get dX5_add_28 (fl_X5_28 rfl) (by assumption) rfl) ?_
    refine gm_go.ru (gm_iload_n dX5_add_31 rfl) ?_
    refine gm_go.ru (gi_ast dX5_add_32 (by assumption) (by omega) (by omega) (by decide)) ?_
    refine gm_hp ha3 ?_
    refine gm_go.ru (gm_aload_n dX5_add_33 rfl (by first | exact Or.inl ⟨_, rfl⟩ | exact Or.inr ⟨_, rfl⟩)) ?_
    refine gm_go.ru (gm_get dX5_add_34 (fl_X5_21 rfl) (by assumption) rfl) ?_
    refine gm_go.ru (gm_aload_n dX5_add_37 rfl (by first | exact Or.inl ⟨_, rfl⟩ | exact Or.inr ⟨_, rfl⟩)) ?_
    refine gm_go.ru (gm_get dX5_add_38 (fl_X5_28 rfl) (by assumption) rfl) ?_
    refine gm_go.ru (gm_iload_n dX5_add_41 rfl) ?_
    refine gm_go.ru (gi_ast dX5_add_42 (by assumption) (by omega) (by omega) (by decide)) ?_
    refine gm_hp ha4 ?_
    refine gm_go.ru (gm_aload_n dX5_add_43 rfl (by first | exact Or.inl ⟨_, rfl⟩ | exact Or.inr ⟨_, rfl⟩)) ?_
    refine gm_go.ru (gm_dup dX5_add_44 rfl) ?_
    refine gm_go.ru (gm_get dX5_add_45 (fl_X5_28 rfl) (by assumption) rfl) ?_
    refine gm_go.ru (gi_const dX5_add_48) ?_
    refine gm_go.ru (gi_add dX5_add_49) ?_
    refine gm_go.ru (gm_put dX5_add_50 (fp_X5_28 rfl) (by assumption) (Nat.le_of_ble_eq_true rfl) (by first | exact ⟨rfl, rfl⟩ | exact trivial)) ?_
    refine gm_hp ha5 ?_
    refine gm_go.ru (gm_aload_n dX5_add_53 rfl (by first | exact Or.inl ⟨_, rfl⟩ | exact Or.inr ⟨_, rfl⟩)) ?_
    refine gm_go.ru (gm_dup dX5_add_54 rfl) ?_
    refine gm_go.ru (gm_get dX5_add_55 (fl_X5_31 rfl) (by assumption) rfl) ?_
    refine gm_go.ru (gi_const dX5_add_58) ?_
    refine gm_go.ru (gi_add dX5_add_59) ?_
    refine gm_go.ru (gm_put dX5_add_60 (fp_X5_31 rfl) (by assumption) (Nat.le_of_ble_eq_true rfl) (by first | exact ⟨rfl, rfl⟩ | exact trivial)) ?_
    refine gm_hp ha6 ?_
    refine gm_go.ru (gm_aload_n dX5_add_63 rfl (by first | exact Or.inl ⟨_, rfl⟩ | exact Or.inr ⟨_, rfl⟩)) ?_
    refine gm_go.ru (gm_get dX5_add_64 (fl_X5_31 rfl) (by assumption) rfl) ?_
    refine gm_go.ru (gi_const dX5_add_67) ?_
    refine gm_go.ru (gi_sub dX5_add_68) ?_
    exact gm_iret' dX5_add_69 rfl (congrArg zI (by omega)) rfl
  · have e : ∀ j, j < 9 → zAddB v a b c j = if j = 3 then v 3 + 1 else if j = 4 then v 4 + 1 else v j := fun j hj => by unfold zAddB zU; rw [if_neg (show ¬ j = 93 + 4 * (v 4).toNat by omega), if_neg (show ¬ j = 92 + 4 * (v 4).toNat by omega), if_neg (show ¬ j = 91 + 4 * (v 4).toNat by omega), if_neg (show ¬ j = 90 + 4 * (v 4).toNat by omega)]
    rw [e 2 (by omega), e 3 (by omega), e 4 (by omega), e 5 (by omega), e 6 (by omega), e 7 (by omega), e 8 (by omega)]
    simp only [hc]; exact fr_a6
  · intro k hk
    have e4 : zAddB v a b c 4 = v 4 + 1 := by unfold zAddB; rw [zU_n (by omega), zU_s]
    rw [e4] at hk
    unfold zAddB; rw [hc, Int.toNat_natCast]
    by_cases e : k = cn
    · subst e
      refine ⟨?_, ?_, ?_, ?_⟩ <;> (unfold zU; simp <;> omega)
    · obtain ⟨g1, g2, g3, g4⟩ := h6 k (by omega)
      rw [zU_n e, zU_n e, zU_n e, zU_n e, g1, g2, g3, g4]
      refine ⟨?_, ?_, ?_, ?_⟩ <;> (rw [zU_n (by omega), zU_n (by omega), zU_n (by omega), zU_n (by omega), zU_n (by omega), zU_n (by omega)])
  · subst ha6 ; subst ha5 ; subst ha4 ; subst ha3 ; subst ha2 ; subst ha1
    exact gh_set (gh_set (gh_set (gh_set (gh_set (gh_set (gh_rf) ⟨by omega, by omega⟩ _) ⟨by omega, by omega⟩ _) ⟨by omega, by omega⟩ _) ⟨by omega, by omega⟩ _) ⟨by omega, by omega⟩ _) ⟨by omega, by omega⟩ _
def zShf (F : Nat → Int) (p j : Nat) : Nat → Int := fun x => if p ≤ x ∧ x < p + j then F (x + 1) else F x
theorem zShf_s (F : Nat → Int) (p j : Nat) : zShf F p (j + 1) = zU (zShf F p j) (p + j) (zShf F p j (p + j + 1)) := by
  funext x
  unfold zShf zU
  by_cases e : x = p + j
  · subst e; rw [if_pos (by omega), if_pos rfl, if_neg (by omega)]
  · rw [if_neg e]
    by_cases c : p ≤ x ∧ x < p + j
    · rw [if_pos (by omega)]; exact (if_pos c).symm
    · rw [if_neg (by omega)]; exact (if_neg c).symm
theorem zShf_0 (F : Nat → Int) (p : Nat) : zShf F p 0 = F := by funext x; unfold zShf; rw [if_neg (by omega)]
set_option maxRecDepth 4000 in
theorem ct_takeOut {h : gm_H} {r T p : Nat} {v : Nat → Int} (hN : ov_at h r v) (hv : ov_iv T v) (hp : (p : Int) < v 4) : ∃ h', gm_co mX5_takeOut 1 [.ref r, .int (zI p)] h (.inl none) h' ∧ ov_at h' r (zOutB v p) ∧ gh_fr h h' (ov_K r) := by
  obtain ⟨cn, hc, hc7⟩ := ov_cnt hv
  obtain ⟨h1, I, M, D, W, h2, h3, h4, h5, h6⟩ := id hN
  rw [hc] at h1 hp
  obtain ⟨f', hgo, g, rfl, g1, g2, g3, g4, g5, hF⟩ := gl_up (M := mX5_takeOut) (d := 1) (fun j f => ∃ g, f = (12, [some (.ref r), some (.int (zI p)), some (.int (zI ((p + j : Nat) : Int)))], [], g) ∧ g.1[r]? = some (ov_c (v 2) ((cn : Int) - 1) (v 3) (v 5) (v 6) (v 8 * 1000000 + v 7) r) ∧ g.1[r + 1]? = some (gA 7 (zShf I p j)) ∧ g.1[r + 2]? = some (gA 7 (zShf M p j)) ∧ g.1[r + 3]? = some (gA 7 (zShf D p j)) ∧ g.1[r + 4]? = some (gA 7 (zShf W p j)) ∧ gh_fr h g (ov_K r)) (cn - 1 - p) (by
    rintro j f hj ⟨g, rfl, g1, g2, g3, g4, g5, hF⟩
    obtain ⟨a1, ha1⟩ : ∃ x : gm_H, x = (g.1.set (r + 1) (gA 7 (zU (zShf I p j) (p + j) (zShf I p j (p + j + 1)))), g.2) := ⟨_, rfl⟩
    have fr_a1 := gs_n (c' := gA 7 (zU (zShf I p j) (p + j) (zShf I p j (p + j + 1)))) g1 (show r + 1 ≠ r by omega); rw [← ha1] at fr_a1
    have fi_a1 : a1.1[r + 1]? = some (gA 7 (zU (zShf I p j) (p + j) (zShf I p j (p + j + 1)))) := by rw [ha1]; exact gs_s g2
    have fm_a1 := gs_n (c' := gA 7 (zU (zShf I p j) (p + j) (zShf I p j (p + j + 1)))) g3 (show r + 1 ≠ r + 2 by omega); rw [← ha1] at fm_a1
    have fd_a1 := gs_n (c' := gA 7 (zU (zShf I p j) (p + j) (zShf I p j (p + j + 1)))) g4 (show r + 1 ≠ r + 3 by omega); rw [← ha1] at fd_a1
    have fw_a1 := gs_n (c' := gA 7 (zU (zShf I p j) (p + j) (zShf I p j (p + j + 1)))) g5 (show r + 1 ≠ r + 4 by omega); rw [← ha1] at fw_a1
    obtain ⟨a2, ha2⟩ : ∃ x : gm_H, x = (a1.1.set (r + 2) (gA 7 (zU (zShf M p j) (p + j) (zShf M p j (p + j + 1)))), a1.2) := ⟨_, rfl⟩
    have fr_a2 := gs_n (c' := gA 7 (zU (zShf M p j) (p + j) (zShf M p j (p + j + 1)))) fr_a1 (show r + 2 ≠ r by omega); rw [← ha2] at fr_a2
    have fi_a2 := gs_n (c' := gA 7 (zU (zShf M p j) (p + j) (zShf M p j (p + j + 1)))) fi_a1 (show r + 2 ≠ r + 1 by omega); rw [← ha2] at fi_a2
    have fm_a2 : a2.1[r + 2]? = some (gA 7 (zU (zShf M p j) (p + j) (zShf M p j (p + j + 1)))) := by rw [ha2]; exact gs_s fm_a1
    have fd_a2 := gs_n (c' := gA 7 (zU (zShf M p j) (p + j) (zShf M p j (p + j + 1)))) fd_a1 (show r + 2 ≠ r + 3 by omega); rw [← ha2] at fd_a2
    have fw_a2 := gs_n (c' := gA 7 (zU (zShf M p j) (p + j) (zShf M p j (p + j + 1)))) fw_a1 (show r + 2 ≠ r + 4 by omega); rw [← ha2] at fw_a2
    obtain ⟨a3, ha3⟩ : ∃ x : gm_H, x = (a2.1.set (r + 3) (gA 7 (zU (zShf D p j) (p + j) (zShf D p j (p + j + 1)))), a2.2) := ⟨_, rfl⟩
    have fr_a3 := gs_n (c' := gA 7 (zU (zShf D p j) (p + j) (zShf D p j (p + j + 1)))) fr_a2 (show r + 3 ≠ r by omega); rw [← ha3] at fr_a3
    have fi_a3 := gs_n (c' := gA 7 (zU (zShf D p j) (p + j) (zShf D p j (p + j + 1)))) fi_a2 (show r + 3 ≠ r + 1 by omega); rw [← ha3] at fi_a3
    have fm_a3 := gs_n (c' := gA 7 (zU (zShf D p j) (p + j) (zShf D p j (p + j + 1)))) fm_a2 (show r + 3 ≠ r + 2 by omega); rw [← ha3] at fm_a3
    have fd_a3 : a3.1[r + 3]? = some (gA 7 (zU (zShf D p j) (p + j) (zShf D p j (p + j + 1)))) := by rw [ha3]; exact gs_s fd_a2
    have fw_a3 := gs_n (c' := gA 7 (zU (zShf D p j) (p + j) (zShf D p j (p + j + 1)))) fw_a2 (show r + 3 ≠ r + 4 by omega); rw [← ha3] at fw_a3
    obtain ⟨a4, ha4⟩ : ∃ x : gm_H, x = (a3.1.set (r + 4) (gA 7 (zU (zShf W p j) (p + j) (zShf W p j (p + j + 1)))), a3.2) := ⟨_, rfl⟩
    have fr_a4 := gs_n (c' := gA 7 (zU (zShf W p j) (p + j) (zShf W p j (p + j + 1)))) fr_a3 (show r + 4 ≠ r by omega); rw [← ha4] at fr_a4
    have fi_a4 := gs_n (c' := gA 7 (zU (zShf W p j) (p + j) (zShf W p j (p + j + 1)))) fi_a3 (show r + 4 ≠ r + 1 by omega); rw [← ha4] at fi_a4
    have fm_a4 := gs_n (c' := gA 7 (zU (zShf W p j) (p + j) (zShf W p j (p + j + 1)))) fm_a3 (show r + 4 ≠ r + 2 by omega); rw [← ha4] at fm_a4
    have fd_a4 := gs_n (c' := gA 7 (zU (zShf W p j) (p + j) (zShf W p j (p + j + 1)))) fd_a3 (show r + 4 ≠ r + 3 by omega); rw [← ha4] at fd_a4
    have fw_a4 : a4.1[r + 4]? = some (gA 7 (zU (zShf W p j) (p + j) (zShf W p j (p + j + 1)))) := by rw [ha4]; exact gs_s fw_a3
    refine ⟨(12, [some (.ref r), some (.int (zI p)), some (.int (zI ((p + (j + 1) : Nat) : Int)))], [], a4), ?_, a4, rfl, fr_a4, ?_, ?_, ?_, ?_, ?_⟩
    ·
      refine gm_go_tr (gm_iload_n dX5_takeOut_12 rfl) ?_
      refine gm_go_tr (gm_aload_n dX5_takeOut_13 rfl (by first | exact Or.inl ⟨_, rfl⟩ | exact Or.inr ⟨_, rfl⟩)) ?_
      refine gm_go_tr (gm_get dX5_takeOut_14 (fl_X5_28 rfl) (by assumption) rfl) ?_
      refine gm_go_tr (gi_icmp_ge_f 82 dX5_takeOut_17 (by decide) (by omega) (by omega) (by omega)) ?_
      refine gm_go_tr (gm_aload_n dX5_takeOut_20 rfl (by first | exact Or.inl ⟨_, rfl⟩ | exact Or.inr ⟨_, rfl⟩)) ?_
      refine gm_go_tr (gm_get dX5_takeOut_21 (fl_X5_9 rfl) (by assumption) rfl) ?_
      refine gm_go_tr (gm_iload_n dX5_takeOut_24 rfl) ?_
      refine gm_go_tr (gm_aload_n dX5_takeOut_25 rfl (by first | exact Or.inl ⟨_, rfl⟩ | exact Or.inr ⟨_, rfl⟩)) ?_
      refine gm_go_tr (gm_get dX5_takeOut_26 (fl_X5_9 rfl) (by assumption) rfl) ?_
      refine gm_go_tr (gm_iload_n dX5_takeOut_29 rfl) ?_
      refine gm_go_tr (gi_const dX5_takeOut_30) ?_
      refine gm_go_tr (gi_add dX5_takeOut_31) ?_
      refine gm_go_tr (gi_ald dX5_takeOut_32 (by assumption) (by omega) (by omega) (by decide)) ?_
      refine gm_go_tr (gi_ast dX5_takeOut_33 (by assumption) (by omega) (by omega) (by decide)) ?_
      refine gm_hq ha1 ?_
      refine gm_go_tr (gm_aload_n dX5_takeOut_34 rfl (by first | exact Or.inl ⟨_, rfl⟩ | exact Or.inr ⟨_, rfl⟩)) ?_
      refine gm_go_tr (gm_get dX5_takeOut_35 (fl_X5_15 rfl) (by assumption) rfl) ?_
      refine gm_go_tr (gm_iload_n dX5_takeOut_38 rfl) ?_
      refine gm_go_tr (gm_aload_n dX5_takeOut_39 rfl (by first | exact Or.inl ⟨_, rfl⟩ | exact Or.inr ⟨_, rfl⟩)) ?_
      refine gm_go_tr (gm_get dX5_takeOut_40 (fl_X5_15 rfl) (by assumption) rfl) ?_
      refine gm_go_tr (gm_iload_n dX5_takeOut_43 rfl) ?_
      refine gm_go_tr (gi_const dX5_takeOut_44) ?_
      refine gm_go_tr (gi_add dX5_takeOut_45) ?_
      refine gm_go_tr (gi_ald dX5_takeOut_46 (by assumption) (by omega) (by omega) (by decide)) ?_
      refine gm_go_tr (gi_ast dX5_takeOut_47 (by assumption) (by omega) (by omega) (by decide)) ?_
      refine gm_hq ha2 ?_
      refine gm_go_tr (gm_aload_n dX5_takeOut_48 rfl (by first | exact Or.inl ⟨_, rfl⟩ | exact Or.inr ⟨_, rfl⟩)) ?_
      refine gm_go_tr (gm_get dX5_takeOut_49 (fl_X5_18 rfl) (by assumption) rfl) ?_
      refine gm_go_tr (gm_iload_n dX5_takeOut_52 rfl) ?_
      refine gm_go_tr (gm_aload_n dX5_takeOut_53 rfl (by first | exact Or.inl ⟨_, rfl⟩ | exact Or.inr ⟨_, rfl⟩)) ?_
      refine gm_go_tr (gm_get dX5_takeOut_54 (fl_X5_18 rfl) (by assumption) rfl) ?_
      refine gm_go_tr (gm_iload_n dX5_takeOut_57 rfl) ?_
      refine gm_go_tr (gi_const dX5_takeOut_58) ?_
      refine gm_go_tr (gi_add dX5_takeOut_59) ?_
      refine gm_go_tr (gi_ald dX5_takeOut_60 (by assumption) (by omega) (by omega) (by decide)) ?_
      refine gm_go_tr (gi_ast dX5_takeOut_61 (by assumption) (by omega) (by omega) (by decide)) ?_
      refine gm_hq ha3 ?_
      refine gm_go_tr (gm_aload_n dX5_takeOut_62 rfl (by first | exact Or.inl ⟨_, rfl⟩ | exact Or.inr ⟨_, rfl⟩)) ?_
      refine gm_go_tr (gm_get dX5_takeOut_63 (fl_X5_21 rfl) (by assumption) rfl) ?_
      refine gm_go_tr (gm_iload_n dX5_takeOut_66 rfl) ?_
      refine gm_go_tr (gm_aload_n dX5_takeOut_67 rfl (by first | exact Or.inl ⟨_, rfl⟩ | exact Or.inr ⟨_, rfl⟩)) ?_
      refine gm_go_tr (gm_get dX5_takeOut_68 (fl_X5_21 rfl) (by assumption) rfl) ?_
      refine gm_go_tr (gm_iload_n dX5_takeOut_71 rfl) ?_
      refine gm_go_tr (gi_const dX5_takeOut_72) ?_
      refine gm_go_tr (gi_add dX5_takeOut_73) ?_
      refine gm_go_tr (gi_ald dX5_takeOut_74 (by assumption) (by omega) (by omega) (by decide)) ?_
      refine gm_go_tr (gi_ast dX5_takeOut_75 (by assumption) (by omega) (by omega) (by decide)) ?_
      refine gm_hq ha4 ?_
      refine gm_go_tr (gi_iinc (ls' := [_, _, _]) dX5_takeOut_76 rfl (by decide) rfl) ?_
      exact gm_goto (tgt := 12) dX5_takeOut_79 (by decide)
    · rw [zShf_s]; exact fi_a4
    · rw [zShf_s]; exact fm_a4
    · rw [zShf_s]; exact fd_a4
    · rw [zShf_s]; exact fw_a4
    · subst ha4 ; subst ha3 ; subst ha2 ; subst ha1
      exact gh_set (gh_set (gh_set (gh_set (hF) ⟨by omega, by omega⟩ _) ⟨by omega, by omega⟩ _) ⟨by omega, by omega⟩ _) ⟨by omega, by omega⟩ _
    ) 0 (12, [some (.ref r), some (.int (zI p)), some (.int (zI ((p + 0 : Nat) : Int)))], [], (h.1.set r (ov_c (v 2) ((cn : Int) - 1) (v 3) (v 5) (v 6) (v 8 * 1000000 + v 7) r), h.2)) (by omega) ⟨_, rfl, gs_s h1, by rw [zShf_0]; exact gs_n h2 (by omega), by rw [zShf_0]; exact gs_n h3 (by omega), by rw [zShf_0]; exact gs_n h4 (by omega), by rw [zShf_0]; exact gs_n h5 (by omega), gh_set gh_rf ⟨by omega, by omega⟩ _⟩
  refine ⟨g, ?_, ⟨?_, _, _, _, _, g2, g3, g4, g5, ?_⟩, hF⟩
  · refine gm_co_of _ (by decide +kernel) rfl (Nat.le_of_ble_eq_true rfl) rfl ?_
    refine gm_go.ru (gm_aload_n dX5_takeOut_0 rfl (by first | exact Or.inl ⟨_, rfl⟩ | exact Or.inr ⟨_, rfl⟩)) ?_
    refine gm_go.ru (gm_dup dX5_takeOut_1 rfl) ?_
    refine gm_go.ru (gm_get dX5_takeOut_2 (fl_X5_28 rfl) (by assumption) rfl) ?_
    refine gm_go.ru (gi_const dX5_takeOut_5) ?_
    refine gm_go.ru (gi_sub dX5_takeOut_6) ?_
    refine gm_go.ru (gm_put dX5_takeOut_7 (fp_X5_28 rfl) (by assumption) (Nat.le_of_ble_eq_true rfl) (by first | exact ⟨rfl, rfl⟩ | exact trivial)) ?_
    refine gm_go.ru (gm_iload_n dX5_takeOut_10 rfl) ?_
    refine gm_go.ru (gm_istore_n (ls' := [_, _, _]) dX5_takeOut_11 (by decide) rfl) ?_
    refine gm_go.ru hgo ?_
    refine gm_go.ru (gm_iload_n dX5_takeOut_12 rfl) ?_
    refine gm_go.ru (gm_aload_n dX5_takeOut_13 rfl (by first | exact Or.inl ⟨_, rfl⟩ | exact Or.inr ⟨_, rfl⟩)) ?_
    refine gm_go.ru (gm_get dX5_takeOut_14 (fl_X5_28 rfl) (by assumption) rfl) ?_
    refine gm_go.ru (gi_icmp_ge_t (tgt := 82) dX5_takeOut_17 (by decide) (by omega) (by omega) (by omega)) ?_
    exact gm_vret dX5_takeOut_82 rfl
  · have e : ∀ j, j < 9 → zOutB v p j = if j = 4 then v 4 - 1 else v j := fun j hj => by unfold zOutB; rw [if_neg (show ¬ (90 + 4 * p ≤ j ∧ j < 118) by omega)]
    rw [e 2 (by omega), e 3 (by omega), e 4 (by omega), e 5 (by omega), e 6 (by omega), e 7 (by omega), e 8 (by omega)]
    simp only [hc]; exact g1
  · intro k hk
    have e4 : zOutB v p 4 = v 4 - 1 := rfl
    rw [e4] at hk
    have hs1 : ∀ F : Nat → Int, zShf F p (cn - 1 - p) k = if p ≤ k then F (k + 1) else F k := fun F => by
      unfold zShf
      by_cases c : p ≤ k
      · rw [if_pos (by omega), if_pos c]
      · rw [if_neg (by omega), if_neg c]
    rw [hs1, hs1, hs1, hs1]
    by_cases c : p ≤ k
    · obtain ⟨e1, e2, e3, e4⟩ := h6 (k + 1) (by omega)
      rw [if_pos c, if_pos c, if_pos c, if_pos c, zOutB_hi (j := 90 + 4 * k) (by omega) (by omega), zOutB_hi (j := 91 + 4 * k) (by omega) (by omega), zOutB_hi (j := 92 + 4 * k) (by omega) (by omega), zOutB_hi (j := 93 + 4 * k) (by omega) (by omega)]
      exact ⟨e1, e2, e3, e4⟩
    · obtain ⟨e1, e2, e3, e4⟩ := h6 k (by omega)
      rw [if_neg c, if_neg c, if_neg c, if_neg c, zOutB_lo (j := 90 + 4 * k) (by omega) (by omega), zOutB_lo (j := 91 + 4 * k) (by omega) (by omega), zOutB_lo (j := 92 + 4 * k) (by omega) (by omega), zOutB_lo (j := 93 + 4 * k) (by omega) (by omega)]
      exact ⟨e1, e2, e3, e4⟩
theorem zL_add (a b : Int) : zL a + zL b = zL (a + b) := (Int64.ofInt_add a b).symm
theorem gi_ladd {M : gm_M} {d pc : Nat} {ls : List (Option Value)} {st : List Value} {h : gm_H} {a b : Int} (hd : decode M.2.1 pc = .ok (.ladd, 1)) : gm_go M d (pc, ls, .long (zL b) :: .long (zL a) :: st, h) (pc + 1, ls, .long (zL (a + b)) :: st, h) := by rw [← zL_add]; exact gm_ladd hd
set_option maxRecDepth 4000 in
theorem ct_finish {h : gm_H} {r T : Nat} {v : Nat → Int} (hN : ov_at h r v) (hv : ov_iv T v) {p : Nat} (hp : (p : Int) < v 4) (hT : T < 1000) : ∃ h', gm_co mX5_finish 2 [.ref r, .int (zI p)] h (.inl (some (.int (zI (zLt v p (v 2)))))) h' ∧ ov_at h' r (zBake v p) ∧ gh_fr h h' (ov_K r) := by
  obtain ⟨cn, hc, hc7⟩ := ov_cnt hv
  obtain ⟨h1, I, M, D, W, h2, h3, h4, h5, h6⟩ := id hN
  obtain ⟨q2, q3, q4, q5, q6, q7, q8, qT, qB⟩ := id hv
  obtain ⟨e1, e2, e3, e4⟩ := h6 p hp
  have qp := qB p hp
  have hL := zLt_r hv hp q2
  generalize hl : zLt v p (v 2) = l at *
  obtain ⟨a1, ha1⟩ : ∃ x : gm_H, x = (h.1.set (r) (ov_c (v 2 + v (91 + 4 * p)) (v 4) (v 3) (v 5) (v 6) (v 8 * 1000000 + v 7) r), h.2) := ⟨_, rfl⟩
  have fr_a1 : a1.1[r]? = some (ov_c (v 2 + v (91 + 4 * p)) (v 4) (v 3) (v 5) (v 6) (v 8 * 1000000 + v 7) r) := by rw [ha1]; exact gs_s h1
  have fi_a1 := gs_n (c' := ov_c (v 2 + v (91 + 4 * p)) (v 4) (v 3) (v 5) (v 6) (v 8 * 1000000 + v 7) r) h2 (show r ≠ r + 1 by omega); rw [← ha1] at fi_a1
  have fm_a1 := gs_n (c' := ov_c (v 2 + v (91 + 4 * p)) (v 4) (v 3) (v 5) (v 6) (v 8 * 1000000 + v 7) r) h3 (show r ≠ r + 2 by omega); rw [← ha1] at fm_a1
  have fd_a1 := gs_n (c' := ov_c (v 2 + v (91 + 4 * p)) (v 4) (v 3) (v 5) (v 6) (v 8 * 1000000 + v 7) r) h4 (show r ≠ r + 3 by omega); rw [← ha1] at fd_a1
  have fw_a1 := gs_n (c' := ov_c (v 2 + v (91 + 4 * p)) (v 4) (v 3) (v 5) (v 6) (v 8 * 1000000 + v 7) r) h5 (show r ≠ r + 4 by omega); rw [← ha1] at fw_a1
  obtain ⟨a2, ha2⟩ : ∃ x : gm_H, x = (a1.1.set (r) (ov_c (v 2 + v (91 + 4 * p)) (v 4) (v 3) (v 5 + 1) (v 6) (v 8 * 1000000 + v 7) r), a1.2) := ⟨_, rfl⟩
  have fr_a2 : a2.1[r]? = some (ov_c (v 2 + v (91 + 4 * p)) (v 4) (v 3) (v 5 + 1) (v 6) (v 8 * 1000000 + v 7) r) := by rw [ha2]; exact gs_s fr_a1
  have fi_a2 := gs_n (c' := ov_c (v 2 + v (91 + 4 * p)) (v 4) (v 3) (v 5 + 1) (v 6) (v 8 * 1000000 + v 7) r) fi_a1 (show r ≠ r + 1 by omega); rw [← ha2] at fi_a2
  have fm_a2 := gs_n (c' := ov_c (v 2 + v (91 + 4 * p)) (v 4) (v 3) (v 5 + 1) (v 6) (v 8 * 1000000 + v 7) r) fm_a1 (show r ≠ r + 2 by omega); rw [← ha2] at fm_a2
  have fd_a2 := gs_n (c' := ov_c (v 2 + v (91 + 4 * p)) (v 4) (v 3) (v 5 + 1) (v 6) (v 8 * 1000000 + v 7) r) fd_a1 (show r ≠ r + 3 by omega); rw [← ha2] at fd_a2
  have fw_a2 := gs_n (c' := ov_c (v 2 + v (91 + 4 * p)) (v 4) (v 3) (v 5 + 1) (v 6) (v 8 * 1000000 + v 7) r) fw_a1 (show r ≠ r + 4 by omega); rw [← ha2] at fw_a2
  obtain ⟨a3, ha3⟩ : ∃ x : gm_H, x = (a2.1.set (r) (ov_c (v 2 + v (91 + 4 * p)) (v 4) (v 3) (v 5 + 1) (v 6 + v (91 + 4 * p)) (v 8 * 1000000 + v 7) r), a2.2) := ⟨_, rfl⟩
  have fr_a3 : a3.1[r]? = some (ov_c (v 2 + v (91 + 4 * p)) (v 4) (v 3) (v 5 + 1) (v 6 + v (91 + 4 * p)) (v 8 * 1000000 + v 7) r) := by rw [ha3]; exact gs_s fr_a2
  have fi_a3 := gs_n (c' := ov_c (v 2 + v (91 + 4 * p)) (v 4) (v 3) (v 5 + 1) (v 6 + v (91 + 4 * p)) (v 8 * 1000000 + v 7) r) fi_a2 (show r ≠ r + 1 by omega); rw [← ha3] at fi_a3
  have fm_a3 := gs_n (c' := ov_c (v 2 + v (91 + 4 * p)) (v 4) (v 3) (v 5 + 1) (v 6 + v (91 + 4 * p)) (v 8 * 1000000 + v 7) r) fm_a2 (show r ≠ r + 2 by omega); rw [← ha3] at fm_a3
  have fd_a3 := gs_n (c' := ov_c (v 2 + v (91 + 4 * p)) (v 4) (v 3) (v 5 + 1) (v 6 + v (91 + 4 * p)) (v 8 * 1000000 + v 7) r) fd_a2 (show r ≠ r + 3 by omega); rw [← ha3] at fd_a3
  have fw_a3 := gs_n (c' := ov_c (v 2 + v (91 + 4 * p)) (v 4) (v 3) (v 5 + 1) (v 6 + v (91 + 4 * p)) (v 8 * 1000000 + v 7) r) fw_a2 (show r ≠ r + 4 by omega); rw [← ha3] at fw_a3
  obtain ⟨a4, ha4⟩ : ∃ x : gm_H, x = (a3.1.set (r) (ov_c (v 2 + v (91 + 4 * p)) (v 4) (v 3) (v 5 + 1) (v 6 + v (91 + 4 * p)) (v 8 * 1000000 + v 7 + l) r), a3.2) := ⟨_, rfl⟩
  have fr_a4 : a4.1[r]? = some (ov_c (v 2 + v (91 + 4 * p)) (v 4) (v 3) (v 5 + 1) (v 6 + v (91 + 4 * p)) (v 8 * 1000000 + v 7 + l) r) := by rw [ha4]; exact gs_s fr_a3
  have fi_a4 := gs_n (c' := ov_c (v 2 + v (91 + 4 * p)) (v 4) (v 3) (v 5 + 1) (v 6 + v (91 + 4 * p)) (v 8 * 1000000 + v 7 + l) r) fi_a3 (show r ≠ r + 1 by omega); rw [← ha4] at fi_a4
  have fm_a4 := gs_n (c' := ov_c (v 2 + v (91 + 4 * p)) (v 4) (v 3) (v 5 + 1) (v 6 + v (91 + 4 * p)) (v 8 * 1000000 + v 7 + l) r) fm_a3 (show r ≠ r + 2 by omega); rw [← ha4] at fm_a4
  have fd_a4 := gs_n (c' := ov_c (v 2 + v (91 + 4 * p)) (v 4) (v 3) (v 5 + 1) (v 6 + v (91 + 4 * p)) (v 8 * 1000000 + v 7 + l) r) fd_a3 (show r ≠ r + 3 by omega); rw [← ha4] at fd_a4
  have fw_a4 := gs_n (c' := ov_c (v 2 + v (91 + 4 * p)) (v 4) (v 3) (v 5 + 1) (v 6 + v (91 + 4 * p)) (v 8 * 1000000 + v 7 + l) r) fw_a3 (show r ≠ r + 4 by omega); rw [← ha4] at fw_a4
  have eB : ∀ j, 9 ≤ j → zBk v p j = v j := fun j hj => by unfold zBk; rw [zU_n (by omega), zU_n (by omega), zU_n (by omega), zU_n (by omega), zU_n (by omega)]
  have e2' : zBk v p 2 = v 2 + v (91 + 4 * p) := rfl
  have e3' : zBk v p 3 = v 3 := rfl
  have e4' : zBk v p 4 = v 4 := rfl
  have e5' : zBk v p 5 = v 5 + 1 := rfl
  have e6' : zBk v p 6 = v 6 + v (91 + 4 * p) := rfl
  have e7' : zBk v p 7 = (v 7 + l) % 1000000 := by rw [← hl]; rfl
  have e8' : zBk v p 8 = v 8 + (v 7 + l) / 1000000 := by rw [← hl]; rfl
  have n1 : ov_at a4 r (zBk v p) := by
    refine ⟨?_, I, M, D, W, fi_a4, fm_a4, fd_a4, fw_a4, fun k hk => ?_⟩
    · rw [e2', e3', e4', e5', e6', e7', e8']
      rw [show (v 8 + (v 7 + l) / 1000000) * 1000000 + (v 7 + l) % 1000000 = v 8 * 1000000 + v 7 + l by omega]; exact fr_a4
    · rw [eB (90 + 4 * k) (by omega), eB (91 + 4 * k) (by omega), eB (92 + 4 * k) (by omega), eB (93 + 4 * k) (by omega)]; exact h6 k (by omega)
  have n2 : ov_iv (T + 1) (zBk v p) := by
    refine ⟨by rw [e2']; omega, by rw [e3']; omega, by rw [e4']; omega, by rw [e5']; omega, by rw [e6']; omega, by rw [e7']; omega, by rw [e8']; omega, by omega, fun k hk => ?_⟩
    rw [eB (90 + 4 * k) (by omega), eB (91 + 4 * k) (by omega), eB (92 + 4 * k) (by omega), eB (93 + 4 * k) (by omega), e3']; exact qB k (by omega)
  obtain ⟨h', hc', ha', hf'⟩ := ct_takeOut n1 n2 (p := p) (by rw [e4']; exact hp)
  refine ⟨h', ?_, ha', ?_⟩
  · refine gm_co_of _ (by decide +kernel) rfl (Nat.le_of_ble_eq_true rfl) rfl ?_
    refine gm_go.ru (gm_aload_n dX5_finish_0 rfl (by first | exact Or.inl ⟨_, rfl⟩ | exact Or.inr ⟨_, rfl⟩)) ?_
    refine gm_go.ru (gm_iload_n dX5_finish_1 rfl) ?_
    refine gm_go.ru (gm_aload_n dX5_finish_2 rfl (by first | exact Or.inl ⟨_, rfl⟩ | exact Or.inr ⟨_, rfl⟩)) ?_
    refine gm_go.ru (gm_get dX5_finish_3 (fl_X5_24 rfl) (by assumption) rfl) ?_
    refine gm_go.ru (gm_cV dX5_finish_6 (ct_latenessFrom hN hv hp ⟨by omega, by omega⟩) rfl mt_X5_latenessFrom mv_X5_latenessFrom (lk_X5_66 rfl) (Or.inl ⟨_, 7, _, _, _, rfl, (by assumption), rfl⟩) rfl (Nat.le_of_ble_eq_true rfl) (by decide)) ?_
    rw [hl]
    refine gm_go.ru (gm_istore_n (ls' := [_, _, _]) dX5_finish_9 (by decide) rfl) ?_
    refine gm_go.ru (gm_aload_n dX5_finish_10 rfl (by first | exact Or.inl ⟨_, rfl⟩ | exact Or.inr ⟨_, rfl⟩)) ?_
    refine gm_go.ru (gm_dup dX5_finish_11 rfl) ?_
    refine gm_go.ru (gm_get dX5_finish_12 (fl_X5_24 rfl) (by assumption) rfl) ?_
    refine gm_go.ru (gm_aload_n dX5_finish_15 rfl (by first | exact Or.inl ⟨_, rfl⟩ | exact Or.inr ⟨_, rfl⟩)) ?_
    refine gm_go.ru (gm_get dX5_finish_16 (fl_X5_15 rfl) (by assumption) rfl) ?_
    refine gm_go.ru (gm_iload_n dX5_finish_19 rfl) ?_
    refine gm_go.ru (gi_ald dX5_finish_20 (by assumption) (by omega) (by omega) (by decide)) ?_
    rw [Int.toNat_natCast, e2]
    refine gm_go.ru (gi_add dX5_finish_21) ?_
    refine gm_go.ru (gm_put dX5_finish_22 (fp_X5_24 rfl) (by assumption) (Nat.le_of_ble_eq_true rfl) (by first | exact ⟨rfl, rfl⟩ | exact trivial)) ?_
    refine gm_hp ha1 ?_
    refine gm_go.ru (gm_aload_n dX5_finish_25 rfl (by first | exact Or.inl ⟨_, rfl⟩ | exact Or.inr ⟨_, rfl⟩)) ?_
    refine gm_go.ru (gm_dup dX5_finish_26 rfl) ?_
    refine gm_go.ru (gm_get dX5_finish_27 (fl_X5_34 rfl) (by assumption) rfl) ?_
    refine gm_go.ru (gi_const dX5_finish_30) ?_
    refine gm_go.ru (gi_add dX5_finish_31) ?_
    refine gm_go.ru (gm_put dX5_finish_32 (fp_X5_34 rfl) (by assumption) (Nat.le_of_ble_eq_true rfl) (by first | exact ⟨rfl, rfl⟩ | exact trivial)) ?_
    refine gm_hp ha2 ?_
    refine gm_go.ru (gm_aload_n dX5_finish_35 rfl (by first | exact Or.inl ⟨_, rfl⟩ | exact Or.inr ⟨_, rfl⟩)) ?_
    refine gm_go.ru (gm_dup dX5_finish_36 rfl) ?_
    refine gm_go.ru (gm_get dX5_finish_37 (fl_X5_37 rfl) (by assumption) rfl) ?_
    refine gm_go.ru (gm_aload_n dX5_finish_40 rfl (by first | exact Or.inl ⟨_, rfl⟩ | exact Or.inr ⟨_, rfl⟩)) ?_
    refine gm_go.ru (gm_get dX5_finish_41 (fl_X5_15 rfl) (by assumption) rfl) ?_
    refine gm_go.ru (gm_iload_n dX5_finish_44 rfl) ?_
    refine gm_go.ru (gi_ald dX5_finish_45 (by assumption) (by omega) (by omega) (by decide)) ?_
    rw [Int.toNat_natCast, e2]
    refine gm_go.ru (gi_add dX5_finish_46) ?_
    refine gm_go.ru (gm_put dX5_finish_47 (fp_X5_37 rfl) (by assumption) (Nat.le_of_ble_eq_true rfl) (by first | exact ⟨rfl, rfl⟩ | exact trivial)) ?_
    refine gm_hp ha3 ?_
    refine gm_go.ru (gm_aload_n dX5_finish_50 rfl (by first | exact Or.inl ⟨_, rfl⟩ | exact Or.inr ⟨_, rfl⟩)) ?_
    refine gm_go.ru (gm_dup dX5_finish_51 rfl) ?_
    refine gm_go.ru (gm_get dX5_finish_52 (fl_X5_40 rfl) (by assumption) rfl) ?_
    refine gm_go.ru (gm_iload_n dX5_finish_55 rfl) ?_
    refine gm_go.ru (gi_i2l dX5_finish_56 (by omega)) ?_
    refine gm_go.ru (gi_ladd dX5_finish_57) ?_
    refine gm_go.ru (gm_put dX5_finish_58 (fp_X5_40 rfl) (by assumption) (Nat.le_of_ble_eq_true rfl) (by first | exact ⟨rfl, rfl⟩ | exact trivial)) ?_
    refine gm_hp ha4 ?_
    refine gm_go.ru (gm_aload_n dX5_finish_61 rfl (by first | exact Or.inl ⟨_, rfl⟩ | exact Or.inr ⟨_, rfl⟩)) ?_
    refine gm_go.ru (gm_iload_n dX5_finish_62 rfl) ?_
    refine gm_go.ru (gm_cV0 dX5_finish_63 (hc') rfl mt_X5_takeOut mv_X5_takeOut (lk_X5_70 rfl) (Or.inl ⟨_, 7, _, _, _, rfl, (by assumption), rfl⟩) rfl (Nat.le_of_ble_eq_true rfl) (by decide)) ?_
    refine gm_go.ru (gm_iload_n dX5_finish_66 rfl) ?_
    exact gm_iret dX5_finish_67 rfl
  · refine gh_tr ?_ hf'
    subst ha4 ; subst ha3 ; subst ha2 ; subst ha1
    exact gh_set (gh_set (gh_set (gh_set (gh_rf) ⟨by omega, by omega⟩ _) ⟨by omega, by omega⟩ _) ⟨by omega, by omega⟩ _) ⟨by omega, by omega⟩ _
set_option maxRecDepth 4000 in
theorem ct_ovcopy {h : gm_H} {r s : Nat} {v u : Nat → Int} (hN : ov_at h r v) (hM : ov_at h s u) (hd : r + 5 ≤ s ∨ s + 5 ≤ r) (hu : u 4 ≤ 7) : ∃ h', gm_co mX5_copyFrom 1 [.ref r, .ref s] h (.inl none) h' ∧ ov_at h' r u ∧ gh_fr h h' (ov_K r) := by
  obtain ⟨h1, I, M, D, W, h2, h3, h4, h5, h6⟩ := id hN
  obtain ⟨k1, I', M', D', W', k2, k3, k4, k5, k6⟩ := id hM
  obtain ⟨a1, ha1⟩ : ∃ x : gm_H, x = (h.1.set (r) (ov_c (u 2) (v 4) (v 3) (v 5) (v 6) (v 8 * 1000000 + v 7) r), h.2) := ⟨_, rfl⟩
  have fr_a1 : a1.1[r]? = some (ov_c (u 2) (v 4) (v 3) (v 5) (v 6) (v 8 * 1000000 + v 7) r) := by rw [ha1]; exact gs_s h1
  have fi_a1 := gs_n (c' := ov_c (u 2) (v 4) (v 3) (v 5) (v 6) (v 8 * 1000000 + v 7) r) h2 (show r ≠ r + 1 by omega); rw [← ha1] at fi_a1
  have fm_a1 := gs_n (c' := ov_c (u 2) (v 4) (v 3) (v 5) (v 6) (v 8 * 1000000 + v 7) r) h3 (show r ≠ r + 2 by omega); rw [← ha1] at fm_a1
  have fd_a1 := gs_n (c' := ov_c (u 2) (v 4) (v 3) (v 5) (v 6) (v 8 * 1000000 + v 7) r) h4 (show r ≠ r + 3 by omega); rw [← ha1] at fd_a1
  have fw_a1 := gs_n (c' := ov_c (u 2) (v 4) (v 3) (v 5) (v 6) (v 8 * 1000000 + v 7) r) h5 (show r ≠ r + 4 by omega); rw [← ha1] at fw_a1
  have fs_a1 := gs_n (c' := ov_c (u 2) (v 4) (v 3) (v 5) (v 6) (v 8 * 1000000 + v 7) r) k1 (show r ≠ s by omega); rw [← ha1] at fs_a1
  have fsi_a1 := gs_n (c' := ov_c (u 2) (v 4) (v 3) (v 5) (v 6) (v 8 * 1000000 + v 7) r) k2 (show r ≠ s + 1 by omega); rw [← ha1] at fsi_a1
  have fsm_a1 := gs_n (c' := ov_c (u 2) (v 4) (v 3) (v 5) (v 6) (v 8 * 1000000 + v 7) r) k3 (show r ≠ s + 2 by omega); rw [← ha1] at fsm_a1
  have fsd_a1 := gs_n (c' := ov_c (u 2) (v 4) (v 3) (v 5) (v 6) (v 8 * 1000000 + v 7) r) k4 (show r ≠ s + 3 by omega); rw [← ha1] at fsd_a1
  have fsw_a1 := gs_n (c' := ov_c (u 2) (v 4) (v 3) (v 5) (v 6) (v 8 * 1000000 + v 7) r) k5 (show r ≠ s + 4 by omega); rw [← ha1] at fsw_a1
  obtain ⟨a2, ha2⟩ : ∃ x : gm_H, x = (a1.1.set (r) (ov_c (u 2) (u 4) (v 3) (v 5) (v 6) (v 8 * 1000000 + v 7) r), a1.2) := ⟨_, rfl⟩
  have fr_a2 : a2.1[r]? = some (ov_c (u 2) (u 4) (v 3) (v 5) (v 6) (v 8 * 1000000 + v 7) r) := by rw [ha2]; exact gs_s fr_a1
  have fi_a2 := gs_n (c' := ov_c (u 2) (u 4) (v 3) (v 5) (v 6) (v 8 * 1000000 + v 7) r) fi_a1 (show r ≠ r + 1 by omega); rw [← ha2] at fi_a2
  have fm_a2 := gs_n (c' := ov_c (u 2) (u 4) (v 3) (v 5) (v 6) (v 8 * 1000000 + v 7) r) fm_a1 (show r ≠ r + 2 by omega); rw [← ha2] at fm_a2
  have fd_a2 := gs_n (c' := ov_c (u 2) (u 4) (v 3) (v 5) (v 6) (v 8 * 1000000 + v 7) r) fd_a1 (show r ≠ r + 3 by omega); rw [← ha2] at fd_a2
  have fw_a2 := gs_n (c' := ov_c (u 2) (u 4) (v 3) (v 5) (v 6) (v 8 * 1000000 + v 7) r) fw_a1 (show r ≠ r + 4 by omega); rw [← ha2] at fw_a2
  have fs_a2 := gs_n (c' := ov_c (u 2) (u 4) (v 3) (v 5) (v 6) (v 8 * 1000000 + v 7) r) fs_a1 (show r ≠ s by omega); rw [← ha2] at fs_a2
  have fsi_a2 := gs_n (c' := ov_c (u 2) (u 4) (v 3) (v 5) (v 6) (v 8 * 1000000 + v 7) r) fsi_a1 (show r ≠ s + 1 by omega); rw [← ha2] at fsi_a2
  have fsm_a2 := gs_n (c' := ov_c (u 2) (u 4) (v 3) (v 5) (v 6) (v 8 * 1000000 + v 7) r) fsm_a1 (show r ≠ s + 2 by omega); rw [← ha2] at fsm_a2
  have fsd_a2 := gs_n (c' := ov_c (u 2) (u 4) (v 3) (v 5) (v 6) (v 8 * 1000000 + v 7) r) fsd_a1 (show r ≠ s + 3 by omega); rw [← ha2] at fsd_a2
  have fsw_a2 := gs_n (c' := ov_c (u 2) (u 4) (v 3) (v 5) (v 6) (v 8 * 1000000 + v 7) r) fsw_a1 (show r ≠ s + 4 by omega); rw [← ha2] at fsw_a2
  obtain ⟨a3, ha3⟩ : ∃ x : gm_H, x = (a2.1.set (r) (ov_c (u 2) (u 4) (u 3) (v 5) (v 6) (v 8 * 1000000 + v 7) r), a2.2) := ⟨_, rfl⟩
  have fr_a3 : a3.1[r]? = some (ov_c (u 2) (u 4) (u 3) (v 5) (v 6) (v 8 * 1000000 + v 7) r) := by rw [ha3]; exact gs_s fr_a2
  have fi_a3 := gs_n (c' := ov_c (u 2) (u 4) (u 3) (v 5) (v 6) (v 8 * 1000000 + v 7) r) fi_a2 (show r ≠ r + 1 by omega); rw [← ha3] at fi_a3
  have fm_a3 := gs_n (c' := ov_c (u 2) (u 4) (u 3) (v 5) (v 6) (v 8 * 1000000 + v 7) r) fm_a2 (show r ≠ r + 2 by omega); rw [← ha3] at fm_a3
  have fd_a3 := gs_n (c' := ov_c (u 2) (u 4) (u 3) (v 5) (v 6) (v 8 * 1000000 + v 7) r) fd_a2 (show r ≠ r + 3 by omega); rw [← ha3] at fd_a3
  have fw_a3 := gs_n (c' := ov_c (u 2) (u 4) (u 3) (v 5) (v 6) (v 8 * 1000000 + v 7) r) fw_a2 (show r ≠ r + 4 by omega); rw [← ha3] at fw_a3
  have fs_a3 := gs_n (c' := ov_c (u 2) (u 4) (u 3) (v 5) (v 6) (v 8 * 1000000 + v 7) r) fs_a2 (show r ≠ s by omega); rw [← ha3] at fs_a3
  have fsi_a3 := gs_n (c' := ov_c (u 2) (u 4) (u 3) (v 5) (v 6) (v 8 * 1000000 + v 7) r) fsi_a2 (show r ≠ s + 1 by omega); rw [← ha3] at fsi_a3
  have fsm_a3 := gs_n (c' := ov_c (u 2) (u 4) (u 3) (v 5) (v 6) (v 8 * 1000000 + v 7) r) fsm_a2 (show r ≠ s + 2 by omega); rw [← ha3] at fsm_a3
  have fsd_a3 := gs_n (c' := ov_c (u 2) (u 4) (u 3) (v 5) (v 6) (v 8 * 1000000 + v 7) r) fsd_a2 (show r ≠ s + 3 by omega); rw [← ha3] at fsd_a3
  have fsw_a3 := gs_n (c' := ov_c (u 2) (u 4) (u 3) (v 5) (v 6) (v 8 * 1000000 + v 7) r) fsw_a2 (show r ≠ s + 4 by omega); rw [← ha3] at fsw_a3
  obtain ⟨a4, ha4⟩ : ∃ x : gm_H, x = (a3.1.set (r) (ov_c (u 2) (u 4) (u 3) (u 5) (v 6) (v 8 * 1000000 + v 7) r), a3.2) := ⟨_, rfl⟩
  have fr_a4 : a4.1[r]? = some (ov_c (u 2) (u 4) (u 3) (u 5) (v 6) (v 8 * 1000000 + v 7) r) := by rw [ha4]; exact gs_s fr_a3
  have fi_a4 := gs_n (c' := ov_c (u 2) (u 4) (u 3) (u 5) (v 6) (v 8 * 1000000 + v 7) r) fi_a3 (show r ≠ r + 1 by omega); rw [← ha4] at fi_a4
  have fm_a4 := gs_n (c' := ov_c (u 2) (u 4) (u 3) (u 5) (v 6) (v 8 * 1000000 + v 7) r) fm_a3 (show r ≠ r + 2 by omega); rw [← ha4] at fm_a4
  have fd_a4 := gs_n (c' := ov_c (u 2) (u 4) (u 3) (u 5) (v 6) (v 8 * 1000000 + v 7) r) fd_a3 (show r ≠ r + 3 by omega); rw [← ha4] at fd_a4
  have fw_a4 := gs_n (c' := ov_c (u 2) (u 4) (u 3) (u 5) (v 6) (v 8 * 1000000 + v 7) r) fw_a3 (show r ≠ r + 4 by omega); rw [← ha4] at fw_a4
  have fs_a4 := gs_n (c' := ov_c (u 2) (u 4) (u 3) (u 5) (v 6) (v 8 * 1000000 + v 7) r) fs_a3 (show r ≠ s by omega); rw [← ha4] at fs_a4
  have fsi_a4 := gs_n (c' := ov_c (u 2) (u 4) (u 3) (u 5) (v 6) (v 8 * 1000000 + v 7) r) fsi_a3 (show r ≠ s + 1 by omega); rw [← ha4] at fsi_a4
  have fsm_a4 := gs_n (c' := ov_c (u 2) (u 4) (u 3) (u 5) (v 6) (v 8 * 1000000 + v 7) r) fsm_a3 (show r ≠ s + 2 by omega); rw [← ha4] at fsm_a4
  have fsd_a4 := gs_n (c' := ov_c (u 2) (u 4) (u 3) (u 5) (v 6) (v 8 * 1000000 + v 7) r) fsd_a3 (show r ≠ s + 3 by omega); rw [← ha4] at fsd_a4
  have fsw_a4 := gs_n (c' := ov_c (u 2) (u 4) (u 3) (u 5) (v 6) (v 8 * 1000000 + v 7) r) fsw_a3 (show r ≠ s + 4 by omega); rw [← ha4] at fsw_a4
  obtain ⟨a5, ha5⟩ : ∃ x : gm_H, x = (a4.1.set (r) (ov_c (u 2) (u 4) (u 3) (u 5) (u 6) (v 8 * 1000000 + v 7) r), a4.2) := ⟨_, rfl⟩
  have fr_a5 : a5.1[r]? = some (ov_c (u 2) (u 4) (u 3) (u 5) (u 6) (v 8 * 1000000 + v 7) r) := by rw [ha5]; exact gs_s fr_a4
  have fi_a5 := gs_n (c' := ov_c (u 2) (u 4) (u 3) (u 5) (u 6) (v 8 * 1000000 + v 7) r) fi_a4 (show r ≠ r + 1 by omega); rw [← ha5] at fi_a5
  have fm_a5 := gs_n (c' := ov_c (u 2) (u 4) (u 3) (u 5) (u 6) (v 8 * 1000000 + v 7) r) fm_a4 (show r ≠ r + 2 by omega); rw [← ha5] at fm_a5
  have fd_a5 := gs_n (c' := ov_c (u 2) (u 4) (u 3) (u 5) (u 6) (v 8 * 1000000 + v 7) r) fd_a4 (show r ≠ r + 3 by omega); rw [← ha5] at fd_a5
  have fw_a5 := gs_n (c' := ov_c (u 2) (u 4) (u 3) (u 5) (u 6) (v 8 * 1000000 + v 7) r) fw_a4 (show r ≠ r + 4 by omega); rw [← ha5] at fw_a5
  have fs_a5 := gs_n (c' := ov_c (u 2) (u 4) (u 3) (u 5) (u 6) (v 8 * 1000000 + v 7) r) fs_a4 (show r ≠ s by omega); rw [← ha5] at fs_a5
  have fsi_a5 := gs_n (c' := ov_c (u 2) (u 4) (u 3) (u 5) (u 6) (v 8 * 1000000 + v 7) r) fsi_a4 (show r ≠ s + 1 by omega); rw [← ha5] at fsi_a5
  have fsm_a5 := gs_n (c' := ov_c (u 2) (u 4) (u 3) (u 5) (u 6) (v 8 * 1000000 + v 7) r) fsm_a4 (show r ≠ s + 2 by omega); rw [← ha5] at fsm_a5
  have fsd_a5 := gs_n (c' := ov_c (u 2) (u 4) (u 3) (u 5) (u 6) (v 8 * 1000000 + v 7) r) fsd_a4 (show r ≠ s + 3 by omega); rw [← ha5] at fsd_a5
  have fsw_a5 := gs_n (c' := ov_c (u 2) (u 4) (u 3) (u 5) (u 6) (v 8 * 1000000 + v 7) r) fsw_a4 (show r ≠ s + 4 by omega); rw [← ha5] at fsw_a5
  obtain ⟨a6, ha6⟩ : ∃ x : gm_H, x = (a5.1.set (r) (ov_c (u 2) (u 4) (u 3) (u 5) (u 6) (u 8 * 1000000 + u 7) r), a5.2) := ⟨_, rfl⟩
  have fr_a6 : a6.1[r]? = some (ov_c (u 2) (u 4) (u 3) (u 5) (u 6) (u 8 * 1000000 + u 7) r) := by rw [ha6]; exact gs_s fr_a5
  have fi_a6 := gs_n (c' := ov_c (u 2) (u 4) (u 3) (u 5) (u 6) (u 8 * 1000000 + u 7) r) fi_a5 (show r ≠ r + 1 by omega); rw [← ha6] at fi_a6
  have fm_a6 := gs_n (c' := ov_c (u 2) (u 4) (u 3) (u 5) (u 6) (u 8 * 1000000 + u 7) r) fm_a5 (show r ≠ r + 2 by omega); rw [← ha6] at fm_a6
  have fd_a6 := gs_n (c' := ov_c (u 2) (u 4) (u 3) (u 5) (u 6) (u 8 * 1000000 + u 7) r) fd_a5 (show r ≠ r + 3 by omega); rw [← ha6] at fd_a6
  have fw_a6 := gs_n (c' := ov_c (u 2) (u 4) (u 3) (u 5) (u 6) (u 8 * 1000000 + u 7) r) fw_a5 (show r ≠ r + 4 by omega); rw [← ha6] at fw_a6
  have fs_a6 := gs_n (c' := ov_c (u 2) (u 4) (u 3) (u 5) (u 6) (u 8 * 1000000 + u 7) r) fs_a5 (show r ≠ s by omega); rw [← ha6] at fs_a6
  have fsi_a6 := gs_n (c' := ov_c (u 2) (u 4) (u 3) (u 5) (u 6) (u 8 * 1000000 + u 7) r) fsi_a5 (show r ≠ s + 1 by omega); rw [← ha6] at fsi_a6
  have fsm_a6 := gs_n (c' := ov_c (u 2) (u 4) (u 3) (u 5) (u 6) (u 8 * 1000000 + u 7) r) fsm_a5 (show r ≠ s + 2 by omega); rw [← ha6] at fsm_a6
  have fsd_a6 := gs_n (c' := ov_c (u 2) (u 4) (u 3) (u 5) (u 6) (u 8 * 1000000 + u 7) r) fsd_a5 (show r ≠ s + 3 by omega); rw [← ha6] at fsd_a6
  have fsw_a6 := gs_n (c' := ov_c (u 2) (u 4) (u 3) (u 5) (u 6) (u 8 * 1000000 + u 7) r) fsw_a5 (show r ≠ s + 4 by omega); rw [← ha6] at fsw_a6
  obtain ⟨a7, ha7⟩ : ∃ x : gm_H, x = (a6.1.set (r + 1) (gA 7 (zCp I' I 7)), a6.2) := ⟨_, rfl⟩
  have fr_a7 := gs_n (c' := gA 7 (zCp I' I 7)) fr_a6 (show r + 1 ≠ r by omega); rw [← ha7] at fr_a7
  have fi_a7 : a7.1[r + 1]? = some (gA 7 (zCp I' I 7)) := by rw [ha7]; exact gs_s fi_a6
  have fm_a7 := gs_n (c' := gA 7 (zCp I' I 7)) fm_a6 (show r + 1 ≠ r + 2 by omega); rw [← ha7] at fm_a7
  have fd_a7 := gs_n (c' := gA 7 (zCp I' I 7)) fd_a6 (show r + 1 ≠ r + 3 by omega); rw [← ha7] at fd_a7
  have fw_a7 := gs_n (c' := gA 7 (zCp I' I 7)) fw_a6 (show r + 1 ≠ r + 4 by omega); rw [← ha7] at fw_a7
  have fs_a7 := gs_n (c' := gA 7 (zCp I' I 7)) fs_a6 (show r + 1 ≠ s by omega); rw [← ha7] at fs_a7
  have fsi_a7 := gs_n (c' := gA 7 (zCp I' I 7)) fsi_a6 (show r + 1 ≠ s + 1 by omega); rw [← ha7] at fsi_a7
  have fsm_a7 := gs_n (c' := gA 7 (zCp I' I 7)) fsm_a6 (show r + 1 ≠ s + 2 by omega); rw [← ha7] at fsm_a7
  have fsd_a7 := gs_n (c' := gA 7 (zCp I' I 7)) fsd_a6 (show r + 1 ≠ s + 3 by omega); rw [← ha7] at fsd_a7
  have fsw_a7 := gs_n (c' := gA 7 (zCp I' I 7)) fsw_a6 (show r + 1 ≠ s + 4 by omega); rw [← ha7] at fsw_a7
  obtain ⟨a8, ha8⟩ : ∃ x : gm_H, x = (a7.1.set (r + 2) (gA 7 (zCp M' M 7)), a7.2) := ⟨_, rfl⟩
  have fr_a8 := gs_n (c' := gA 7 (zCp M' M 7)) fr_a7 (show r + 2 ≠ r by omega); rw [← ha8] at fr_a8
  have fi_a8 := gs_n (c' := gA 7 (zCp M' M 7)) fi_a7 (show r + 2 ≠ r + 1 by omega); rw [← ha8] at fi_a8
  have fm_a8 : a8.1[r + 2]? = some (gA 7 (zCp M' M 7)) := by rw [ha8]; exact gs_s fm_a7
  have fd_a8 := gs_n (c' := gA 7 (zCp M' M 7)) fd_a7 (show r + 2 ≠ r + 3 by omega); rw [← ha8] at fd_a8
  have fw_a8 := gs_n (c' := gA 7 (zCp M' M 7)) fw_a7 (show r + 2 ≠ r + 4 by omega); rw [← ha8] at fw_a8
  have fs_a8 := gs_n (c' := gA 7 (zCp M' M 7)) fs_a7 (show r + 2 ≠ s by omega); rw [← ha8] at fs_a8
  have fsi_a8 := gs_n (c' := gA 7 (zCp M' M 7)) fsi_a7 (show r + 2 ≠ s + 1 by omega); rw [← ha8] at fsi_a8
  have fsm_a8 := gs_n (c' := gA 7 (zCp M' M 7)) fsm_a7 (show r + 2 ≠ s + 2 by omega); rw [← ha8] at fsm_a8
  have fsd_a8 := gs_n (c' := gA 7 (zCp M' M 7)) fsd_a7 (show r + 2 ≠ s + 3 by omega); rw [← ha8] at fsd_a8
  have fsw_a8 := gs_n (c' := gA 7 (zCp M' M 7)) fsw_a7 (show r + 2 ≠ s + 4 by omega); rw [← ha8] at fsw_a8
  obtain ⟨a9, ha9⟩ : ∃ x : gm_H, x = (a8.1.set (r + 3) (gA 7 (zCp D' D 7)), a8.2) := ⟨_, rfl⟩
  have fr_a9 := gs_n (c' := gA 7 (zCp D' D 7)) fr_a8 (show r + 3 ≠ r by omega); rw [← ha9] at fr_a9
  have fi_a9 := gs_n (c' := gA 7 (zCp D' D 7)) fi_a8 (show r + 3 ≠ r + 1 by omega); rw [← ha9] at fi_a9
  have fm_a9 := gs_n (c' := gA 7 (zCp D' D 7)) fm_a8 (show r + 3 ≠ r + 2 by omega); rw [← ha9] at fm_a9
  have fd_a9 : a9.1[r + 3]? = some (gA 7 (zCp D' D 7)) := by rw [ha9]; exact gs_s fd_a8
  have fw_a9 := gs_n (c' := gA 7 (zCp D' D 7)) fw_a8 (show r + 3 ≠ r + 4 by omega); rw [← ha9] at fw_a9
  have fs_a9 := gs_n (c' := gA 7 (zCp D' D 7)) fs_a8 (show r + 3 ≠ s by omega); rw [← ha9] at fs_a9
  have fsi_a9 := gs_n (c' := gA 7 (zCp D' D 7)) fsi_a8 (show r + 3 ≠ s + 1 by omega); rw [← ha9] at fsi_a9
  have fsm_a9 := gs_n (c' := gA 7 (zCp D' D 7)) fsm_a8 (show r + 3 ≠ s + 2 by omega); rw [← ha9] at fsm_a9
  have fsd_a9 := gs_n (c' := gA 7 (zCp D' D 7)) fsd_a8 (show r + 3 ≠ s + 3 by omega); rw [← ha9] at fsd_a9
  have fsw_a9 := gs_n (c' := gA 7 (zCp D' D 7)) fsw_a8 (show r + 3 ≠ s + 4 by omega); rw [← ha9] at fsw_a9
  obtain ⟨a10, ha10⟩ : ∃ x : gm_H, x = (a9.1.set (r + 4) (gA 7 (zCp W' W 7)), a9.2) := ⟨_, rfl⟩
  have fr_a10 := gs_n (c' := gA 7 (zCp W' W 7)) fr_a9 (show r + 4 ≠ r by omega); rw [← ha10] at fr_a10
  have fi_a10 := gs_n (c' := gA 7 (zCp W' W 7)) fi_a9 (show r + 4 ≠ r + 1 by omega); rw [← ha10] at fi_a10
  have fm_a10 := gs_n (c' := gA 7 (zCp W' W 7)) fm_a9 (show r + 4 ≠ r + 2 by omega); rw [← ha10] at fm_a10
  have fd_a10 := gs_n (c' := gA 7 (zCp W' W 7)) fd_a9 (show r + 4 ≠ r + 3 by omega); rw [← ha10] at fd_a10
  have fw_a10 : a10.1[r + 4]? = some (gA 7 (zCp W' W 7)) := by rw [ha10]; exact gs_s fw_a9
  have fs_a10 := gs_n (c' := gA 7 (zCp W' W 7)) fs_a9 (show r + 4 ≠ s by omega); rw [← ha10] at fs_a10
  have fsi_a10 := gs_n (c' := gA 7 (zCp W' W 7)) fsi_a9 (show r + 4 ≠ s + 1 by omega); rw [← ha10] at fsi_a10
  have fsm_a10 := gs_n (c' := gA 7 (zCp W' W 7)) fsm_a9 (show r + 4 ≠ s + 2 by omega); rw [← ha10] at fsm_a10
  have fsd_a10 := gs_n (c' := gA 7 (zCp W' W 7)) fsd_a9 (show r + 4 ≠ s + 3 by omega); rw [← ha10] at fsd_a10
  have fsw_a10 := gs_n (c' := gA 7 (zCp W' W 7)) fsw_a9 (show r + 4 ≠ s + 4 by omega); rw [← ha10] at fsw_a10
  refine ⟨a10, ?_, ⟨fr_a10, _, _, _, _, fi_a10, fm_a10, fd_a10, fw_a10, ?_⟩, ?_⟩
  · refine gm_co_of _ (by decide +kernel) rfl (Nat.le_of_ble_eq_true rfl) rfl ?_
    refine gm_go.ru (gm_aload_n dX5_copyFrom_0 rfl (by first | exact Or.inl ⟨_, rfl⟩ | exact Or.inr ⟨_, rfl⟩)) ?_
    refine gm_go.ru (gm_aload_n dX5_copyFrom_1 rfl (by first | exact Or.inl ⟨_, rfl⟩ | exact Or.inr ⟨_, rfl⟩)) ?_
    refine gm_go.ru (gm_get dX5_copyFrom_2 (fl_X5_24 rfl) (by assumption) rfl) ?_
    refine gm_go.ru (gm_put dX5_copyFrom_5 (fp_X5_24 rfl) (by assumption) (Nat.le_of_ble_eq_true rfl) (by first | exact ⟨rfl, rfl⟩ | exact trivial)) ?_
    refine gm_hp ha1 ?_
    refine gm_go.ru (gm_aload_n dX5_copyFrom_8 rfl (by first | exact Or.inl ⟨_, rfl⟩ | exact Or.inr ⟨_, rfl⟩)) ?_
    refine gm_go.ru (gm_aload_n dX5_copyFrom_9 rfl (by first | exact Or.inl ⟨_, rfl⟩ | exact Or.inr ⟨_, rfl⟩)) ?_
    refine gm_go.ru (gm_get dX5_copyFrom_10 (fl_X5_28 rfl) (by assumption) rfl) ?_
    refine gm_go.ru (gm_put dX5_copyFrom_13 (fp_X5_28 rfl) (by assumption) (Nat.le_of_ble_eq_true rfl) (by first | exact ⟨rfl, rfl⟩ | exact trivial)) ?_
    refine gm_hp ha2 ?_
    refine gm_go.ru (gm_aload_n dX5_copyFrom_16 rfl (by first | exact Or.inl ⟨_, rfl⟩ | exact Or.inr ⟨_, rfl⟩)) ?_
    refine gm_go.ru (gm_aload_n dX5_copyFrom_17 rfl (by first | exact Or.inl ⟨_, rfl⟩ | exact Or.inr ⟨_, rfl⟩)) ?_
    refine gm_go.ru (gm_get dX5_copyFrom_18 (fl_X5_31 rfl) (by assumption) rfl) ?_
    refine gm_go.ru (gm_put dX5_copyFrom_21 (fp_X5_31 rfl) (by assumption) (Nat.le_of_ble_eq_true rfl) (by first | exact ⟨rfl, rfl⟩ | exact trivial)) ?_
    refine gm_hp ha3 ?_
    refine gm_go.ru (gm_aload_n dX5_copyFrom_24 rfl (by first | exact Or.inl ⟨_, rfl⟩ | exact Or.inr ⟨_, rfl⟩)) ?_
    refine gm_go.ru (gm_aload_n dX5_copyFrom_25 rfl (by first | exact Or.inl ⟨_, rfl⟩ | exact Or.inr ⟨_, rfl⟩)) ?_
    refine gm_go.ru (gm_get dX5_copyFrom_26 (fl_X5_34 rfl) (by assumption) rfl) ?_
    refine gm_go.ru (gm_put dX5_copyFrom_29 (fp_X5_34 rfl) (by assumption) (Nat.le_of_ble_eq_true rfl) (by first | exact ⟨rfl, rfl⟩ | exact trivial)) ?_
    refine gm_hp ha4 ?_
    refine gm_go.ru (gm_aload_n dX5_copyFrom_32 rfl (by first | exact Or.inl ⟨_, rfl⟩ | exact Or.inr ⟨_, rfl⟩)) ?_
    refine gm_go.ru (gm_aload_n dX5_copyFrom_33 rfl (by first | exact Or.inl ⟨_, rfl⟩ | exact Or.inr ⟨_, rfl⟩)) ?_
    refine gm_go.ru (gm_get dX5_copyFrom_34 (fl_X5_37 rfl) (by assumption) rfl) ?_
    refine gm_go.ru (gm_put dX5_copyFrom_37 (fp_X5_37 rfl) (by assumption) (Nat.le_of_ble_eq_true rfl) (by first | exact ⟨rfl, rfl⟩ | exact trivial)) ?_
    refine gm_hp ha5 ?_
    refine gm_go.ru (gm_aload_n dX5_copyFrom_40 rfl (by first | exact Or.inl ⟨_, rfl⟩ | exact Or.inr ⟨_, rfl⟩)) ?_
    refine gm_go.ru (gm_aload_n dX5_copyFrom_41 rfl (by first | exact Or.inl ⟨_, rfl⟩ | exact Or.inr ⟨_, rfl⟩)) ?_
    refine gm_go.ru (gm_get dX5_copyFrom_42 (fl_X5_40 rfl) (by assumption) rfl) ?_
    refine gm_go.ru (gm_put dX5_copyFrom_45 (fp_X5_40 rfl) (by assumption) (Nat.le_of_ble_eq_true rfl) (by first | exact ⟨rfl, rfl⟩ | exact trivial)) ?_
    refine gm_hp ha6 ?_
    refine gm_go.ru (gm_aload_n dX5_copyFrom_48 rfl (by first | exact Or.inl ⟨_, rfl⟩ | exact Or.inr ⟨_, rfl⟩)) ?_
    refine gm_go.ru (gm_get dX5_copyFrom_49 (fl_X5_9 rfl) (by assumption) rfl) ?_
    refine gm_go.ru (gi_const dX5_copyFrom_52) ?_
    refine gm_go.ru (gm_aload_n dX5_copyFrom_53 rfl (by first | exact Or.inl ⟨_, rfl⟩ | exact Or.inr ⟨_, rfl⟩)) ?_
    refine gm_go.ru (gm_get dX5_copyFrom_54 (fl_X5_9 rfl) (by assumption) rfl) ?_
    refine gm_go.ru (gi_const dX5_copyFrom_57) ?_
    refine gm_go.ru (gi_bipush dX5_copyFrom_58 (by decide +kernel)) ?_
    refine gm_go.ru (gi_copy (n := 7) dX5_copyFrom_60 (cp_X5_44 rfl) fsi_a6 fi_a6 (by decide) (by decide) (by decide) (Nat.le_of_ble_eq_true rfl) (by decide)) ?_
    refine gm_hp ha7 ?_
    refine gm_go.ru (gm_aload_n dX5_copyFrom_63 rfl (by first | exact Or.inl ⟨_, rfl⟩ | exact Or.inr ⟨_, rfl⟩)) ?_
    refine gm_go.ru (gm_get dX5_copyFrom_64 (fl_X5_15 rfl) (by assumption) rfl) ?_
    refine gm_go.ru (gi_const dX5_copyFrom_67) ?_
    refine gm_go.ru (gm_aload_n dX5_copyFrom_68 rfl (by first | exact Or.inl ⟨_, rfl⟩ | exact Or.inr ⟨_, rfl⟩)) ?_
    refine gm_go.ru (gm_get dX5_copyFrom_69 (fl_X5_15 rfl) (by assumption) rfl) ?_
    refine gm_go.ru (gi_const dX5_copyFrom_72) ?_
    refine gm_go.ru (gi_bipush dX5_copyFrom_73 (by decide +kernel)) ?_
    refine gm_go.ru (gi_copy (n := 7) dX5_copyFrom_75 (cp_X5_44 rfl) fsm_a7 fm_a7 (by decide) (by decide) (by decide) (Nat.le_of_ble_eq_true rfl) (by decide)) ?_
    refine gm_hp ha8 ?_
    refine gm_go.ru (gm_aload_n dX5_copyFrom_78 rfl (by first | exact Or.inl ⟨_, rfl⟩ | exact Or.inr ⟨_, rfl⟩)) ?_
    refine gm_go.ru (gm_get dX5_copyFrom_79 (fl_X5_18 rfl) (by assumption) rfl) ?_
    refine gm_go.ru (gi_const dX5_copyFrom_82) ?_
    refine gm_go.ru (gm_aload_n dX5_copyFrom_83 rfl (by first | exact Or.inl ⟨_, rfl⟩ | exact Or.inr ⟨_, rfl⟩)) ?_
    refine gm_go.ru (gm_get dX5_copyFrom_84 (fl_X5_18 rfl) (by assumption) rfl) ?_
    refine gm_go.ru (gi_const dX5_copyFrom_87) ?_
    refine gm_go.ru (gi_bipush dX5_copyFrom_88 (by decide +kernel)) ?_
    refine gm_go.ru (gi_copy (n := 7) dX5_copyFrom_90 (cp_X5_44 rfl) fsd_a8 fd_a8 (by decide) (by decide) (by decide) (Nat.le_of_ble_eq_true rfl) (by decide)) ?_
    refine gm_hp ha9 ?_
    refine gm_go.ru (gm_aload_n dX5_copyFrom_93 rfl (by first | exact Or.inl ⟨_, rfl⟩ | exact Or.inr ⟨_, rfl⟩)) ?_
    refine gm_go.ru (gm_get dX5_copyFrom_94 (fl_X5_21 rfl) (by assumption) rfl) ?_
    refine gm_go.ru (gi_const dX5_copyFrom_97) ?_
    refine gm_go.ru (gm_aload_n dX5_copyFrom_98 rfl (by first | exact Or.inl ⟨_, rfl⟩ | exact Or.inr ⟨_, rfl⟩)) ?_
    refine gm_go.ru (gm_get dX5_copyFrom_99 (fl_X5_21 rfl) (by assumption) rfl) ?_
    refine gm_go.ru (gi_const dX5_copyFrom_102) ?_
    refine gm_go.ru (gi_bipush dX5_copyFrom_103 (by decide +kernel)) ?_
    refine gm_go.ru (gi_copy (n := 7) dX5_copyFrom_105 (cp_X5_44 rfl) fsw_a9 fw_a9 (by decide) (by decide) (by decide) (Nat.le_of_ble_eq_true rfl) (by decide)) ?_
    refine gm_hp ha10 ?_
    exact gm_vret dX5_copyFrom_108 rfl
  · intro k hk
    obtain ⟨e1, e2, e3, e4⟩ := k6 k hk
    have h7 : u 4 ≤ 7 := hu
    unfold zCp; rw [if_pos (by omega), if_pos (by omega), if_pos (by omega), if_pos (by omega)]; exact ⟨e1, e2, e3, e4⟩
  · subst ha10 ; subst ha9 ; subst ha8 ; subst ha7 ; subst ha6 ; subst ha5 ; subst ha4 ; subst ha3 ; subst ha2 ; subst ha1
    exact gh_set (gh_set (gh_set (gh_set (gh_set (gh_set (gh_set (gh_set (gh_set (gh_set (gh_rf) ⟨by omega, by omega⟩ _) ⟨by omega, by omega⟩ _) ⟨by omega, by omega⟩ _) ⟨by omega, by omega⟩ _) ⟨by omega, by omega⟩ _) ⟨by omega, by omega⟩ _) ⟨by omega, by omega⟩ _) ⟨by omega, by omega⟩ _) ⟨by omega, by omega⟩ _) ⟨by omega, by omega⟩ _
