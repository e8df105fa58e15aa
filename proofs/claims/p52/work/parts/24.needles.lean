/-! between headings -/
def zIp (v : Nat → Int) (i c : Nat) : Int := (v (12 + 10 * i + c / 45) * (45 - ((c % 45 : Nat) : Int)) + v (12 + 10 * i + (c / 45 + 1) % 8) * ((c % 45 : Nat) : Int)) / 45
theorem z_ipb {a b : Int} {r : Nat} (ha : -20 ≤ a ∧ a ≤ 20) (hb : -20 ≤ b ∧ b ≤ 20) (hr : r < 45) : -900 ≤ a * (45 - (r : Int)) + b * (r : Int) ∧ a * (45 - (r : Int)) + b * (r : Int) ≤ 900 := by
  have h1 := Int.mul_le_mul_of_nonneg_right ha.1 (show (0 : Int) ≤ 45 - (r : Int) by omega)
  have h2 := Int.mul_le_mul_of_nonneg_right ha.2 (show (0 : Int) ≤ 45 - (r : Int) by omega)
  have h3 := Int.mul_le_mul_of_nonneg_right hb.1 (show (0 : Int) ≤ (r : Int) by omega)
  have h4 := Int.mul_le_mul_of_nonneg_right hb.2 (show (0 : Int) ≤ (r : Int) by omega)
  omega
theorem zIp_b {v : Nat → Int} (hv : nd_iv v) {i c : Nat} (hi : i < 8) (hc : c < 360) : -900 ≤ v (12 + 10 * i + c / 45) * (45 - ((c % 45 : Nat) : Int)) + v (12 + 10 * i + (c / 45 + 1) % 8) * ((c % 45 : Nat) : Int) ∧ v (12 + 10 * i + c / 45) * (45 - ((c % 45 : Nat) : Int)) + v (12 + 10 * i + (c / 45 + 1) % 8) * ((c % 45 : Nat) : Int) ≤ 900 :=
  z_ipb (hv.2.2.2.2.1 i hi _ (by omega)) (hv.2.2.2.2.1 i hi _ (by omega)) (by omega)
theorem zIp_r {v : Nat → Int} (hv : nd_iv v) {i c : Nat} (hi : i < 8) (hc : c < 360) : -20 ≤ zIp v i c ∧ zIp v i c ≤ 20 := by
  have h := zIp_b hv hi hc
  unfold zIp
  omega
/-- the true course -/
def zTc (v : Nat → Int) (i c : Nat) : Int := ((c : Int) + zIp v i c) % 360
theorem zTc_r (v : Nat → Int) (i c : Nat) : 0 ≤ zTc v i c ∧ zTc v i c < 360 := by unfold zTc; omega
set_option maxRecDepth 4000 in
theorem ct_interpolated {h : gm_H} {n i c : Nat} {v : Nat → Int} (hN : nd_at h n v) (hv : nd_iv v) (hi : i < 8) (hc : c < 360) : gm_co mX3_interpolated 2 [.ref n, .int (zI i), .int (zI c)] h (.inl (some (.int (zI (zIp v i c))))) h := by
  refine gm_co_of _ (by decide +kernel) rfl (Nat.le_of_ble_eq_true rfl) rfl ?_
  obtain ⟨h1, h2⟩ := id hN
  have e1 : (c : Int).tdiv 45 = ((c / 45 : Nat) : Int) := by rw [z_tdiv (by decide), if_pos (by omega)]; omega
  have e2 : (c : Int).tmod 45 = ((c % 45 : Nat) : Int) := by rw [z_tmod (by decide), if_pos (by omega)]; omega
  have e3 : (((c / 45 : Nat) : Int) + 1).tmod 8 = (((c / 45 + 1) % 8 : Nat) : Int) := by rw [z_tmod (by decide), if_pos (by omega)]; omega
  have hb := zIp_b hv hi hc
  refine gm_go.ru (gm_iload_n dX3_interpolated_0 rfl) ?_
  refine gm_go.ru (gi_bipush dX3_interpolated_1 (by decide +kernel)) ?_
  refine gm_go.ru (gi_div dX3_interpolated_3 (by omega) (by omega) (by omega)) ?_
  rw [e1]
  refine gm_go.ru (gm_istore_n (ls' := [_, _, _, _, _, _]) dX3_interpolated_4 (by decide) rfl) ?_
  refine gm_go.ru (gm_iload_n dX3_interpolated_5 rfl) ?_
  refine gm_go.ru (gi_bipush dX3_interpolated_6 (by decide +kernel)) ?_
  refine gm_go.ru (gi_rem dX3_interpolated_8 (by omega) (by omega) (by omega)) ?_
  rw [e2]
  refine gm_go.ru (gm_istore (ls' := [_, _, _, _, _, _]) dX3_interpolated_9 (by decide) rfl) ?_
  refine gm_go.ru (gm_aload_n dX3_interpolated_11 rfl (by first | exact Or.inl ⟨_, rfl⟩ | exact Or.inr ⟨_, rfl⟩)) ?_
  refine gm_go.ru (gm_iload_n dX3_interpolated_12 rfl) ?_
  refine gm_go.ru (gm_iload_n dX3_interpolated_13 rfl) ?_
  refine gm_go.ru (gm_cV dX3_interpolated_14 (ct_at hN hi (by omega)) rfl mt_X3_at mv_X3_at (lk_X3_38 rfl) (Or.inl ⟨_, 5, _, _, _, rfl, (by assumption), rfl⟩) rfl (Nat.le_of_ble_eq_true rfl) (by decide)) ?_
  refine gm_go.ru (gi_bipush dX3_interpolated_17 (by decide +kernel)) ?_
  refine gm_go.ru (gm_iload dX3_interpolated_19 rfl) ?_
  refine gm_go.ru (gi_sub dX3_interpolated_21) ?_
  refine gm_go.ru (gi_mul dX3_interpolated_22) ?_
  refine gm_go.ru (gm_aload_n dX3_interpolated_23 rfl (by first | exact Or.inl ⟨_, rfl⟩ | exact Or.inr ⟨_, rfl⟩)) ?_
  refine gm_go.ru (gm_iload_n dX3_interpolated_24 rfl) ?_
  refine gm_go.ru (gm_iload_n dX3_interpolated_25 rfl) ?_
  refine gm_go.ru (gi_const dX3_interpolated_26) ?_
  refine gm_go.ru (gi_add dX3_interpolated_27) ?_
  refine gm_go.ru (gi_bipush dX3_interpolated_28 (by decide +kernel)) ?_
  refine gm_go.ru (gi_rem dX3_interpolated_30 (by omega) (by omega) (by omega)) ?_
  rw [e3]
  refine gm_go.ru (gm_cV dX3_interpolated_31 (ct_at hN hi (by omega)) rfl mt_X3_at mv_X3_at (lk_X3_38 rfl) (Or.inl ⟨_, 5, _, _, _, rfl, (by assumption), rfl⟩) rfl (Nat.le_of_ble_eq_true rfl) (by decide)) ?_
  refine gm_go.ru (gm_iload dX3_interpolated_34 rfl) ?_
  refine gm_go.ru (gi_mul dX3_interpolated_36) ?_
  refine gm_go.ru (gi_add dX3_interpolated_37) ?_
  refine gm_go.ru (gm_istore (ls' := [_, _, _, _, _, _]) dX3_interpolated_38 (by decide) rfl) ?_
  refine gm_go.ru (gm_iload dX3_interpolated_40 rfl) ?_
  refine gm_go.ru (gi_bipush dX3_interpolated_42 (by decide +kernel)) ?_
  refine gm_go.ru (gm_cS dX3_interpolated_44 (ct_floorDiv45 (by omega)) rfl mt_J9_floorDiv_7cf53 ms_J9_floorDiv_7cf53 (lk_X3_94 rfl) rfl (Nat.le_of_ble_eq_true rfl) (by decide)) ?_
  exact gm_iret dX3_interpolated_47 rfl
set_option maxRecDepth 4000 in
theorem ct_corrected {h : gm_H} {n i c : Nat} {v : Nat → Int} (hN : nd_at h n v) (hv : nd_iv v) (hi : i < 8) (hc : c < 360) : gm_co mX3_corrected 3 [.ref n, .int (zI i), .int (zI c)] h (.inl (some (.int (zI (zTc v i c))))) h := by
  refine gm_co_of _ (by decide +kernel) rfl (Nat.le_of_ble_eq_true rfl) rfl ?_
  obtain ⟨h1, h2⟩ := id hN
  have hb := zIp_r hv hi hc
  refine gm_go.ru (gm_iload_n dX3_corrected_0 rfl) ?_
  refine gm_go.ru (gm_aload_n dX3_corrected_1 rfl (by first | exact Or.inl ⟨_, rfl⟩ | exact Or.inr ⟨_, rfl⟩)) ?_
  refine gm_go.ru (gm_iload_n dX3_corrected_2 rfl) ?_
  refine gm_go.ru (gm_iload_n dX3_corrected_3 rfl) ?_
  refine gm_go.ru (gm_cV dX3_corrected_4 (ct_interpolated hN hv hi hc) rfl mt_X3_interpolated mv_X3_interpolated (lk_X3_99 rfl) (Or.inl ⟨_, 5, _, _, _, rfl, (by assumption), rfl⟩) rfl (Nat.le_of_ble_eq_true rfl) (by decide)) ?_
  refine gm_go.ru (gi_add dX3_corrected_7) ?_
  refine gm_go.ru (gi_sipush dX3_corrected_8 (by decide +kernel)) ?_
  refine gm_go.ru (gm_cS dX3_corrected_11 (ct_floorMod360 (by omega)) rfl mt_J9_floorMod_7cf53 ms_J9_floorMod_7cf53 (lk_X3_102 rfl) rfl (Nat.le_of_ble_eq_true rfl) (by decide)) ?_
  exact gm_iret dX3_corrected_14 rfl
/-- the lowest course from c on, within the next ones, with the true course w -/
def zLow (v : Nat → Int) (i : Nat) (w : Int) : Nat → Nat → Int
  | 0, _ => -1
  | m + 1, c => if zTc v i c = w then (c : Int) else zLow v i w m (c + 1)
set_option maxRecDepth 4000 in
theorem ct_lowestCourse {h : gm_H} {n i : Nat} {v : Nat → Int} (hN : nd_at h n v) (hv : nd_iv v) (hi : i < 8) {w : Int} (hw : 0 ≤ w ∧ w < 360) : gm_co mX3_lowestCourse 4 [.ref n, .int (zI i), .int (zI w)] h (.inl (some (.int (zI (zLow v i w 360 0))))) h := by
  refine gm_co_of _ (by decide +kernel) rfl (Nat.le_of_ble_eq_true rfl) rfl ?_
  obtain ⟨h1, h2⟩ := id hN
  have key : ∀ (m j : Nat), j + m = 360 → gm_ru mX3_lowestCourse 4 (2, [some (.ref n), some (.int (zI i)), some (.int (zI w)), some (.int (zI j))], [], h) (.inl (some (.int (zI (zLow v i w m j))))) h := by
    intro m
    induction m with
    | zero =>
      intro j hj
      obtain rfl : j = 360 := by omega
      refine gm_go.ru (gm_iload_n dX3_lowestCourse_2 rfl) ?_
      refine gm_go.ru (gi_sipush dX3_lowestCourse_3 (by decide +kernel)) ?_
      refine gm_go.ru (gi_icmp_ge_t (tgt := 27) dX3_lowestCourse_6 (by decide) (by omega) (by omega) (by omega)) ?_
      refine gm_go.ru (gi_const dX3_lowestCourse_27) ?_
      exact gm_iret dX3_lowestCourse_28 rfl
    | succ m ih =>
      intro j hj
      have ht := zTc_r v i j
      refine gm_go.ru (gm_iload_n dX3_lowestCourse_2 rfl) ?_
      refine gm_go.ru (gi_sipush dX3_lowestCourse_3 (by decide +kernel)) ?_
      refine gm_go.ru (gi_icmp_ge_f 27 dX3_lowestCourse_6 (by decide) (by omega) (by omega) (by omega)) ?_
      refine gm_go.ru (gm_aload_n dX3_lowestCourse_9 rfl (by first | exact Or.inl ⟨_, rfl⟩ | exact Or.inr ⟨_, rfl⟩)) ?_
      refine gm_go.ru (gm_iload_n dX3_lowestCourse_10 rfl) ?_
      refine gm_go.ru (gm_iload_n dX3_lowestCourse_11 rfl) ?_
      refine gm_go.ru (gm_cV dX3_lowestCourse_12 (ct_corrected hN hv hi (by omega)) rfl mt_X3_corrected mv_X3_corrected (lk_X3_105 rfl) (Or.inl ⟨_, 5, _, _, _, rfl, (by assumption), rfl⟩) rfl (Nat.le_of_ble_eq_true rfl) (by decide)) ?_
      refine gm_go.ru (gm_iload_n dX3_lowestCourse_15 rfl) ?_
      rw [zLow]
      by_cases c : zTc v i j = w
      · rw [if_pos c]
        refine gm_go.ru (gi_icmp_ne_f 21 dX3_lowestCourse_16 (by decide) (by omega) (by omega) c) ?_
        refine gm_go.ru (gm_iload_n dX3_lowestCourse_19 rfl) ?_
        exact gm_iret dX3_lowestCourse_20 rfl
      · rw [if_neg c]
        refine gm_go.ru (gi_icmp_ne_t (tgt := 21) dX3_lowestCourse_16 (by decide) (by omega) (by omega) c) ?_
        refine gm_go.ru (gi_iinc (ls' := [_, _, _, _]) dX3_lowestCourse_21 rfl (by decide) rfl) ?_
        refine gm_go.ru (gm_goto (tgt := 2) dX3_lowestCourse_24 (by decide)) ?_
        exact ih (j + 1) (by omega)
  refine gm_go.ru (gi_const dX3_lowestCourse_0) ?_
  refine gm_go.ru (gm_istore_n (ls' := [_, _, _, _]) dX3_lowestCourse_1 (by decide) rfl) ?_
  exact key 360 0 (by omega)
def zIsL (v : Nat → Int) (i : Nat) (w : Int) (P : Nat → Prop) (x : Int) : Prop := (x = -1 ∧ ∀ c : Nat, c < 360 → P c → zTc v i c ≠ w) ∨ ∃ c : Nat, x = (c : Int) ∧ c < 360 ∧ P c ∧ zTc v i c = w ∧ ∀ c' : Nat, c' < 360 → P c' → zTc v i c' = w → c ≤ c'
theorem zLow_is (v : Nat → Int) (i : Nat) (w : Int) : ∀ m c : Nat, c + m = 360 → zIsL v i w (fun k => c ≤ k) (zLow v i w m c)
  | 0, c, h => Or.inl ⟨rfl, fun k hk hc => by omega⟩
  | m + 1, c, h => by
    rw [zLow]
    by_cases hw : zTc v i c = w
    · rw [if_pos hw]
      exact Or.inr ⟨c, rfl, by omega, Nat.le_refl _, hw, fun k _ hk _ => hk⟩
    · rw [if_neg hw]
      rcases zLow_is v i w m (c + 1) (by omega) with ⟨e, hn⟩ | ⟨k, e, h1, h2, h3, h4⟩
      · refine Or.inl ⟨e, fun k hk hc => ?_⟩
        by_cases e2 : k = c
        · subst e2; exact hw
        · exact hn k hk (by omega)
      · refine Or.inr ⟨k, e, h1, by omega, h3, fun k' hk hc ht => ?_⟩
        by_cases e2 : k' = c
        · subst e2; exact absurd ht hw
        · exact h4 k' hk (by omega) ht
theorem zIsL_eq {v : Nat → Int} {i : Nat} {w : Int} {x y : Int} {P Q : Nat → Prop} (hP : ∀ c : Nat, c < 360 → zTc v i c = w → (P c ↔ Q c)) (h : zIsL v i w P x) (g : zIsL v i w Q y) : x = y := by
  rcases h with ⟨e, hn⟩ | ⟨k, e, h1, h2, h3, h4⟩
  · rcases g with ⟨e', hn'⟩ | ⟨k', e', h1', h2', h3', h4'⟩
    · rw [e, e']
    · exact absurd h3' (hn k' h1' ((hP k' h1' h3').mpr h2'))
  · rcases g with ⟨e', hn'⟩ | ⟨k', e', h1', h2', h3', h4'⟩
    · exact absurd h3 (hn' k h1 ((hP k h1 h3).mp h2))
    · have a := h4 k' h1' ((hP k' h1' h3').mpr h2') h3'
      have b := h4' k h1 ((hP k h1 h3).mp h2) h3
      omega
theorem zIsL_to {v : Nat → Int} {i : Nat} {w x : Int} {P Q : Nat → Prop} (h : zIsL v i w P x) (e : ∀ c, P c ↔ Q c) : zIsL v i w Q x := by
  have : P = Q := funext fun c => propext (e c)
  rw [← this]; exact h
/-- the courses with j tries from -20 on -/
def zTr (w : Int) (j : Nat) (c : Nat) : Prop := ∃ a : Nat, a < j ∧ (c : Int) = (w + ((a : Int) - 20)) % 360
theorem zTr_s {w : Int} {j c : Nat} : zTr w (j + 1) c ↔ zTr w j c ∨ (c : Int) = (w + ((j : Int) - 20)) % 360 := by
  constructor
  · rintro ⟨a, ha, e⟩
    by_cases h : a = j
    · subst h; exact Or.inr e
    · exact Or.inl ⟨a, by omega, e⟩
  · rintro (⟨a, ha, e⟩ | e)
    · exact ⟨a, by omega, e⟩
    · exact ⟨j, by omega, e⟩
theorem zTr_all {v : Nat → Int} (hv : nd_iv v) {i : Nat} (hi : i < 8) {w : Int} (c : Nat) (hc : c < 360) (h : zTc v i c = w) : zTr w 41 c := by
  have hb := zIp_r hv hi hc
  unfold zTc at h
  exact ⟨(20 - zIp v i c).toNat, by omega, by omega⟩
theorem zIsL_r {v : Nat → Int} {i : Nat} {w x : Int} {P : Nat → Prop} (h : zIsL v i w P x) : -1 ≤ x ∧ x < 360 := by
  rcases h with ⟨e, hn⟩ | ⟨k, e, h1, h2, h3, h4⟩ <;> omega
theorem zIsL_no {v : Nat → Int} {i : Nat} {w x : Int} {P : Nat → Prop} {c : Nat} (h : zIsL v i w P x) (hc : ¬ (x = -1 ∨ (c : Int) < x) ∨ zTc v i c ≠ w) : zIsL v i w (fun k => P k ∨ k = c) x := by
  rcases h with ⟨e, hn⟩ | ⟨k, e, h1, h2, h3, h4⟩
  · refine Or.inl ⟨e, fun k hk hp => ?_⟩
    rcases hp with hp | rfl
    · exact hn k hk hp
    · rcases hc with hc | hc
      · omega
      · exact hc
  · refine Or.inr ⟨k, e, h1, Or.inl h2, h3, fun k' hk hp ht => ?_⟩
    rcases hp with hp | rfl
    · exact h4 k' hk hp ht
    · rcases hc with hc | hc
      · omega
      · exact absurd ht hc
theorem zIsL_yes {v : Nat → Int} {i : Nat} {w x : Int} {P : Nat → Prop} {c : Nat} (h : zIsL v i w P x) (h1 : x = -1 ∨ (c : Int) < x) (h2 : zTc v i c = w) (h3 : c < 360) : zIsL v i w (fun k => P k ∨ k = c) (c : Int) := by
  refine Or.inr ⟨c, rfl, h3, Or.inr rfl, h2, fun k hk hp ht => ?_⟩
  rcases hp with hp | rfl
  · rcases h with ⟨e, hn⟩ | ⟨k', e, h1', h2', h3', h4'⟩
    · exact absurd ht (hn k hk hp)
    · have := h4' k hk hp ht; omega
  · exact Nat.le_refl _
set_option maxRecDepth 4000 in
theorem ct_lowestNearbyCourse {h : gm_H} {n i : Nat} {v : Nat → Int} (hN : nd_at h n v) (hv : nd_iv v) (hi : i < 8) {w : Int} (hw : 0 ≤ w ∧ w < 360) : gm_co mX3_lowestNearbyCourse 4 [.ref n, .int (zI i), .int (zI w)] h (.inl (some (.int (zI (zLow v i w 360 0))))) h := by
  refine gm_co_of _ (by decide +kernel) rfl (Nat.le_of_ble_eq_true rfl) rfl ?_
  obtain ⟨h1, h2⟩ := id hN
  have key : ∀ (m j : Nat) (lo : Int) (x y : Option Value), j + m = 41 → zIsL v i w (zTr w j) lo → gm_ru mX3_lowestNearbyCourse 4 (6, [some (.ref n), some (.int (zI i)), some (.int (zI w)), some (.int (zI lo)), some (.int (zI ((j : Int) - 20))), x, y], [], h) (.inl (some (.int (zI (zLow v i w 360 0))))) h := by
    intro m
    induction m with
    | zero =>
      intro j lo x y hj hl
      obtain rfl : j = 41 := by omega
      have hr := zIsL_r hl
      rw [← zIsL_eq (fun c hc ht => iff_of_true (zTr_all hv hi c hc ht) (Nat.zero_le c)) hl (zLow_is v i w 360 0 rfl)]
      refine gm_go.ru (gm_iload dX3_lowestNearbyCourse_6 rfl) ?_
      refine gm_go.ru (gi_bipush dX3_lowestNearbyCourse_8 (by decide +kernel)) ?_
      refine gm_go.ru (gi_icmp_gt_t (tgt := 68) dX3_lowestNearbyCourse_10 (by decide) (by omega) (by omega) (by omega)) ?_
      refine gm_go.ru (gm_iload_n dX3_lowestNearbyCourse_68 rfl) ?_
      exact gm_iret dX3_lowestNearbyCourse_69 rfl
    | succ m ih =>
      intro j lo x y hj hl
      have hr := zIsL_r hl
      obtain ⟨c, hc⟩ : ∃ c : Nat, (w + ((j : Int) - 20)) % 360 = (c : Int) := ⟨((w + ((j : Int) - 20)) % 360).toNat, by omega⟩
      have hc3 : c < 360 := by omega
      have ht := zTc_r v i c
      have hS : ∀ k, (zTr w j k ∨ k = c) ↔ zTr w (j + 1) k := fun k => by rw [zTr_s, hc]; exact ⟨fun z => z.imp id (fun e => by omega), fun z => z.imp id (fun e => by omega)⟩
      have nx : ∀ lo' x', zIsL v i w (fun k => zTr w j k ∨ k = c) lo' → gm_ru mX3_lowestNearbyCourse 4 (62, [some (.ref n), some (.int (zI i)), some (.int (zI w)), some (.int (zI lo')), some (.int (zI ((j : Int) - 20))), some (.int (zI (c : Int))), x'], [], h) (.inl (some (.int (zI (zLow v i w 360 0))))) h := by
        intro lo' x' hl'
        refine gm_go.ru (gi_iinc (ls' := [_, _, _, _, _, _, _]) dX3_lowestNearbyCourse_62 rfl (by decide) rfl) ?_
        refine gm_go.ru (gm_goto (tgt := 6) dX3_lowestNearbyCourse_65 (by decide)) ?_
        rw [show (j : Int) - 20 + 1 = ((j + 1 : Nat) : Int) - 20 by omega]
        exact ih (j + 1) lo' _ _ (by omega) (zIsL_to hl' hS)
      refine gm_go.ru (gm_iload dX3_lowestNearbyCourse_6 rfl) ?_
      refine gm_go.ru (gi_bipush dX3_lowestNearbyCourse_8 (by decide +kernel)) ?_
      refine gm_go.ru (gi_icmp_gt_f 68 dX3_lowestNearbyCourse_10 (by decide) (by omega) (by omega) (by omega)) ?_
      refine gm_go.ru (gm_iload_n dX3_lowestNearbyCourse_13 rfl) ?_
      refine gm_go.ru (gm_iload dX3_lowestNearbyCourse_14 rfl) ?_
      refine gm_go.ru (gi_add dX3_lowestNearbyCourse_16) ?_
      refine gm_go.ru (gi_sipush dX3_lowestNearbyCourse_17 (by decide +kernel)) ?_
      refine gm_go.ru (gm_cS dX3_lowestNearbyCourse_20 (ct_floorMod360 (by omega)) rfl mt_J9_floorMod_7cf53 ms_J9_floorMod_7cf53 (lk_X3_102 rfl) rfl (Nat.le_of_ble_eq_true rfl) (by decide)) ?_
      rw [hc]
      refine gm_go.ru (gm_istore (ls' := [_, _, _, _, _, _, _]) dX3_lowestNearbyCourse_23 (by decide) rfl) ?_
      refine gm_go.ru (gm_iload_n dX3_lowestNearbyCourse_25 rfl) ?_
      refine gm_go.ru (gi_const dX3_lowestNearbyCourse_26) ?_
      by_cases c1 : lo = -1
      ·
        refine gm_go.ru (gi_icmp_eq_t (tgt := 36) dX3_lowestNearbyCourse_27 (by decide) (by omega) (by omega) c1) ?_
        refine gm_go.ru (gi_const dX3_lowestNearbyCourse_36) ?_
        refine gm_go.ru (gm_goto (tgt := 41) dX3_lowestNearbyCourse_37 (by decide)) ?_
        refine gm_go.ru (gm_istore (ls' := [_, _, _, _, _, _, _]) dX3_lowestNearbyCourse_41 (by decide) rfl) ?_
        refine gm_go.ru (gm_iload dX3_lowestNearbyCourse_43 rfl) ?_
        refine gm_go.ru (gi_if_eq_f 62 dX3_lowestNearbyCourse_45 (by decide) (by decide) (by decide)) ?_
        refine gm_go.ru (gm_aload_n dX3_lowestNearbyCourse_48 rfl (by first | exact Or.inl ⟨_, rfl⟩ | exact Or.inr ⟨_, rfl⟩)) ?_
        refine gm_go.ru (gm_iload_n dX3_lowestNearbyCourse_49 rfl) ?_
        refine gm_go.ru (gm_iload dX3_lowestNearbyCourse_50 rfl) ?_
        refine gm_go.ru (gm_cV dX3_lowestNearbyCourse_52 (ct_corrected hN hv hi hc3) rfl mt_X3_corrected mv_X3_corrected (lk_X3_105 rfl) (Or.inl ⟨_, 5, _, _, _, rfl, (by assumption), rfl⟩) rfl (Nat.le_of_ble_eq_true rfl) (by decide)) ?_
        refine gm_go.ru (gm_iload_n dX3_lowestNearbyCourse_55 rfl) ?_
        by_cases c3 : zTc v i c = w
        ·
          refine gm_go.ru (gi_icmp_ne_f 62 dX3_lowestNearbyCourse_56 (by decide) (by omega) (by omega) c3) ?_
          refine gm_go.ru (gm_iload dX3_lowestNearbyCourse_59 rfl) ?_
          refine gm_go.ru (gm_istore_n (ls' := [_, _, _, _, _, _, _]) dX3_lowestNearbyCourse_61 (by decide) rfl) ?_
          exact nx _ _ (zIsL_yes hl (Or.inl c1) c3 hc3)
        ·
          refine gm_go.ru (gi_icmp_ne_t (tgt := 62) dX3_lowestNearbyCourse_56 (by decide) (by omega) (by omega) c3) ?_
          exact nx _ _ (zIsL_no hl (Or.inr c3))
      ·
        refine gm_go.ru (gi_icmp_eq_f 36 dX3_lowestNearbyCourse_27 (by decide) (by omega) (by omega) c1) ?_
        refine gm_go.ru (gm_iload dX3_lowestNearbyCourse_30 rfl) ?_
        refine gm_go.ru (gm_iload_n dX3_lowestNearbyCourse_32 rfl) ?_
        by_cases c2 : (c : Int) < lo
        ·
          refine gm_go.ru (gi_icmp_ge_f 40 dX3_lowestNearbyCourse_33 (by decide) (by omega) (by omega) (by omega)) ?_
          refine gm_go.ru (gi_const dX3_lowestNearbyCourse_36) ?_
          refine gm_go.ru (gm_goto (tgt := 41) dX3_lowestNearbyCourse_37 (by decide)) ?_
          refine gm_go.ru (gm_istore (ls' := [_, _, _, _, _, _, _]) dX3_lowestNearbyCourse_41 (by decide) rfl) ?_
          refine gm_go.ru (gm_iload dX3_lowestNearbyCourse_43 rfl) ?_
          refine gm_go.ru (gi_if_eq_f 62 dX3_lowestNearbyCourse_45 (by decide) (by decide) (by decide)) ?_
          refine gm_go.ru (gm_aload_n dX3_lowestNearbyCourse_48 rfl (by first | exact Or.inl ⟨_, rfl⟩ | exact Or.inr ⟨_, rfl⟩)) ?_
          refine gm_go.ru (gm_iload_n dX3_lowestNearbyCourse_49 rfl) ?_
          refine gm_go.ru (gm_iload dX3_lowestNearbyCourse_50 rfl) ?_
          refine gm_go.ru (gm_cV dX3_lowestNearbyCourse_52 (ct_corrected hN hv hi hc3) rfl mt_X3_corrected mv_X3_corrected (lk_X3_105 rfl) (Or.inl ⟨_, 5, _, _, _, rfl, (by assumption), rfl⟩) rfl (Nat.le_of_ble_eq_true rfl) (by decide)) ?_
          refine gm_go.ru (gm_iload_n dX3_lowestNearbyCourse_55 rfl) ?_
          by_cases c3 : zTc v i c = w
          ·
            refine gm_go.ru (gi_icmp_ne_f 62 dX3_lowestNearbyCourse_56 (by decide) (by omega) (by omega) c3) ?_
            refine gm_go.ru (gm_iload dX3_lowestNearbyCourse_59 rfl) ?_
            refine gm_go.ru (gm_istore_n (ls' := [_, _, _, _, _, _, _]) dX3_lowestNearbyCourse_61 (by decide) rfl) ?_
            exact nx _ _ (zIsL_yes hl (Or.inr c2) c3 hc3)
          ·
            refine gm_go.ru (gi_icmp_ne_t (tgt := 62) dX3_lowestNearbyCourse_56 (by decide) (by omega) (by omega) c3) ?_
            exact nx _ _ (zIsL_no hl (Or.inr c3))
        ·
          refine gm_go.ru (gi_icmp_ge_t (tgt := 40) dX3_lowestNearbyCourse_33 (by decide) (by omega) (by omega) (by omega)) ?_
          refine gm_go.ru (gi_const dX3_lowestNearbyCourse_40) ?_
          refine gm_go.ru (gm_istore (ls' := [_, _, _, _, _, _, _]) dX3_lowestNearbyCourse_41 (by decide) rfl) ?_
          refine gm_go.ru (gm_iload dX3_lowestNearbyCourse_43 rfl) ?_
          refine gm_go.ru (gi_if_eq_t (tgt := 62) dX3_lowestNearbyCourse_45 (by decide) (by decide) (by decide)) ?_
          exact nx _ _ (zIsL_no hl (Or.inl (by omega)))
  refine gm_go.ru (gi_const dX3_lowestNearbyCourse_0) ?_
  refine gm_go.ru (gm_istore_n (ls' := [_, _, _, _, _, _, _]) dX3_lowestNearbyCourse_1 (by decide) rfl) ?_
  refine gm_go.ru (gi_bipush dX3_lowestNearbyCourse_2 (by decide +kernel)) ?_
  refine gm_go.ru (gm_istore (ls' := [_, _, _, _, _, _, _]) dX3_lowestNearbyCourse_4 (by decide) rfl) ?_
  exact key 41 0 (-1) _ _ (by omega) (Or.inl ⟨rfl, fun c _ ⟨a, ha, _⟩ => absurd ha (by omega)⟩)
theorem zEf_lin (v : Nat → Int) (i : Nat) (k : Int) : ∀ n : Nat, zEf v i k n = zEf v i 0 n + 2 * (k * zSmf v i n) + n * (k * k)
  | 0 => by simp [zEf, zSmf]
  | n + 1 => by
    rw [zEf, zEf, zSmf, zEf_lin v i k n]
    generalize v (12 + 10 * i + n) = a
    generalize zEf v i 0 n = b
    generalize zSmf v i n = s
    grind
theorem zE_lin (v : Nat → Int) (i : Nat) (k : Int) : zE v i k = zE v i 0 + 2 * (k * zSmf v i 8) + 8 * (k * k) := zEf_lin v i k 8
theorem zEf_r {v : Nat → Int} (hv : nd_iv v) {i : Nat} (hi : i < 8) {k : Int} (hk : -20 ≤ k ∧ k ≤ 20) : ∀ n : Nat, n ≤ 8 → 0 ≤ zEf v i k n ∧ zEf v i k n ≤ 1600 * n := by
  intro n
  induction n with
  | zero => intro _; simp [zEf]
  | succ n ih =>
    intro hn
    have h1 := ih (by omega)
    have h2 := hv.2.2.2.2.1 i hi n (by omega)
    simp only [zEf]
    generalize v (12 + 10 * i + n) = a at *
    have h3 : 0 ≤ (a + k) * (a + k) ∧ (a + k) * (a + k) ≤ 1600 := by
      have e : ((a + k).natAbs : Int) * ((a + k).natAbs : Int) = (a + k) * (a + k) := Int.natAbs_mul_self' _
      rw [← e]
      have : (a + k).natAbs ≤ 40 := by omega
      have h5 := Nat.mul_le_mul this this
      omega
    omega
theorem zE_r {v : Nat → Int} (hv : nd_iv v) {i : Nat} (hi : i < 8) {k : Int} (hk : -20 ≤ k ∧ k ≤ 20) : 0 ≤ zE v i k ∧ zE v i k ≤ 12800 := by
  have := zEf_r hv hi hk 8 (by omega)
  unfold zE; omega
/-- the best of the shifts from -s to s, of the sum S -/
def zBs (S : Int) (s : Nat) : Int := if 0 < S then -(min (s : Int) ((S + 3) / 8)) else min (s : Int) ((-S + 3) / 8)
def zBq (S : Int) (s : Nat) : Bool :=
  let f := fun k : Int => 2 * (k * S) + 8 * (k * k)
  let b := zBs S s
  let t : Int := (s : Int) + 1
  let b1 := if f (-t) < f b then -t else b
  let b2 := if f t < f b1 then t else b1
  decide (b2 = zBs S (s + 1))
theorem zBq_all : ∀ (s : Nat), s < 20 → ∀ (S : Nat), S < 321 → zBq ((S : Int) - 160) s = true := by decide +kernel
/-- as the model tries: first up, then down -/
def zBm (S : Int) (s : Nat) : Bool :=
  let f := fun k : Int => 2 * (k * S) + 8 * (k * k)
  let b := zBs S s
  let t : Int := (s : Int) + 1
  let b1 := if f t < f b then t else b
  let b2 := if f (-t) < f b1 then -t else b1
  decide (b2 = zBs S (s + 1))
theorem zBm_all : ∀ (s : Nat), s < 20 → ∀ (S : Nat), S < 321 → zBm ((S : Int) - 160) s = true := by decide +kernel
theorem zBs_step {v : Nat → Int} (hv : nd_iv v) {i s : Nat} (hi : i < 8) (hs : s < 20) :
    (if zE v i ((s : Int) + 1) < zE v i (if zE v i (-((s : Int) + 1)) < zE v i (zBs (zSmf v i 8) s) then -((s : Int) + 1) else zBs (zSmf v i 8) s) then (s : Int) + 1 else (if zE v i (-((s : Int) + 1)) < zE v i (zBs (zSmf v i 8) s) then -((s : Int) + 1) else zBs (zSmf v i 8) s)) = zBs (zSmf v i 8) (s + 1) := by
  have hr := zSmf_r hv hi 8 (by omega)
  have hq := zBq_all s hs (zSmf v i 8 + 160).toNat (by omega)
  rw [show (((zSmf v i 8 + 160).toNat : Nat) : Int) - 160 = zSmf v i 8 by omega] at hq
  have hq := of_decide_eq_true hq
  simp only [zE_lin v i ((s : Int) + 1), zE_lin v i (-((s : Int) + 1)), zE_lin v i (zBs (zSmf v i 8) s), zE_lin v i (ite _ _ _), Int.add_assoc, Int.add_lt_add_iff_left] at *
  exact hq
theorem zBm_step {v : Nat → Int} (hv : nd_iv v) {i s : Nat} (hi : i < 8) (hs : s < 20) :
    (if zE v i (-((s : Int) + 1)) < zE v i (if zE v i ((s : Int) + 1) < zE v i (zBs (zSmf v i 8) s) then (s : Int) + 1 else zBs (zSmf v i 8) s) then -((s : Int) + 1) else (if zE v i ((s : Int) + 1) < zE v i (zBs (zSmf v i 8) s) then (s : Int) + 1 else zBs (zSmf v i 8) s)) = zBs (zSmf v i 8) (s + 1) := by
  have hr := zSmf_r hv hi 8 (by omega)
  have hq := zBm_all s hs (zSmf v i 8 + 160).toNat (by omega)
  rw [show (((zSmf v i 8 + 160).toNat : Nat) : Int) - 160 = zSmf v i 8 by omega] at hq
  have hq := of_decide_eq_true hq
  simp only [zE_lin v i ((s : Int) + 1), zE_lin v i (-((s : Int) + 1)), zE_lin v i (zBs (zSmf v i 8) s), zE_lin v i (ite _ _ _), Int.add_assoc, Int.add_lt_add_iff_left] at *
  exact hq
theorem zBs_r {S : Int} {s : Nat} (hs : s ≤ 20) (hS : -160 ≤ S ∧ S ≤ 160) : -20 ≤ zBs S s ∧ zBs S s ≤ 20 := by unfold zBs; split <;> omega
theorem zBs_0 {S : Int} (hS : -160 ≤ S ∧ S ≤ 160) : zBs S 0 = 0 := by unfold zBs; split <;> omega
theorem zBs_20 {v : Nat → Int} (hv : nd_iv v) {i : Nat} (hi : i < 8) : zBs (zSmf v i 8) 20 = zSS v i := by
  have hr := zSmf_r hv hi 8 (by omega)
  unfold zBs zSS; split <;> omega
set_option maxRecDepth 4000 in
theorem ct_shiftByTrying {h : gm_H} {n i : Nat} {v : Nat → Int} (hN : nd_at h n v) (hv : nd_iv v) (hi : i < 8) : gm_co mX3_shiftByTrying 3 [.ref n, .int (zI i)] h (.inl (some (.int (zI (zSS v i))))) h := by
  refine gm_co_of _ (by decide +kernel) rfl (Nat.le_of_ble_eq_true rfl) rfl ?_
  obtain ⟨h1, h2⟩ := id hN
  have hS : -160 ≤ zSmf v i 8 ∧ zSmf v i 8 ≤ 160 := by have := zSmf_r hv hi 8 (by omega); omega
  have key : ∀ (m j : Nat) (x y : Option Value), j + m = 20 → gm_ru mX3_shiftByTrying 3 (12, [some (.ref n), some (.int (zI i)), some (.int (zI (zBs (zSmf v i 8) j))), some (.int (zI (zE v i (zBs (zSmf v i 8) j)))), some (.int (zI ((j : Int) + 1))), x, y], [], h) (.inl (some (.int (zI (zSS v i))))) h := by
    intro m
    induction m with
    | zero =>
      intro j x y hj
      obtain rfl : j = 20 := by omega
      refine gm_go.ru (gm_iload dX3_shiftByTrying_12 rfl) ?_
      refine gm_go.ru (gi_bipush dX3_shiftByTrying_14 (by decide +kernel)) ?_
      refine gm_go.ru (gi_icmp_gt_t (tgt := 70) dX3_shiftByTrying_16 (by decide) (by omega) (by omega) (by omega)) ?_
      refine gm_go.ru (gm_iload_n dX3_shiftByTrying_70 rfl) ?_
      exact gm_iret' dX3_shiftByTrying_71 rfl (congrArg zI (zBs_20 hv hi)) rfl
    | succ m ih =>
      intro j x y hj
      have hs := zBs_step hv hi (s := j) (by omega)
      have hB := zBs_r (s := j) (by omega) hS
      have hEb := zE_r hv hi hB
      have hEn := zE_r hv hi (k := -((j : Int) + 1)) (by omega)
      have hEp := zE_r hv hi (k := (j : Int) + 1) (by omega)
      have eB := ih (j + 1)
      refine gm_go.ru (gm_iload dX3_shiftByTrying_12 rfl) ?_
      refine gm_go.ru (gi_bipush dX3_shiftByTrying_14 (by decide +kernel)) ?_
      refine gm_go.ru (gi_icmp_gt_f 70 dX3_shiftByTrying_16 (by decide) (by omega) (by omega) (by omega)) ?_
      refine gm_go.ru (gm_iload dX3_shiftByTrying_19 rfl) ?_
      refine gm_go.ru (gi_neg dX3_shiftByTrying_21) ?_
      refine gm_go.ru (gm_istore (ls' := [_, _, _, _, _, _, _]) dX3_shiftByTrying_22 (by decide) rfl) ?_
      generalize hb : zBs (zSmf v i 8) j = b at *
      by_cases c1 : zE v i (-((j : Int) + 1)) < zE v i b
      ·
        rw [if_pos c1] at hs
        refine gm_go.ru (gm_iload dX3_shiftByTrying_24 rfl) ?_
        refine gm_go.ru (gm_iload dX3_shiftByTrying_26 rfl) ?_
        refine gm_go.ru (gi_icmp_gt_f 64 dX3_shiftByTrying_28 (by decide) (by omega) (by omega) (by omega)) ?_
        refine gm_go.ru (gm_aload_n dX3_shiftByTrying_31 rfl (by first | exact Or.inl ⟨_, rfl⟩ | exact Or.inr ⟨_, rfl⟩)) ?_
        refine gm_go.ru (gm_iload_n dX3_shiftByTrying_32 rfl) ?_
        refine gm_go.ru (gm_iload dX3_shiftByTrying_33 rfl) ?_
        refine gm_go.ru (gm_cV dX3_shiftByTrying_35 (ct_errorShiftedBy hN hi) rfl mt_X3_errorShiftedBy mv_X3_errorShiftedBy (lk_X3_108 rfl) (Or.inl ⟨_, 5, _, _, _, rfl, (by assumption), rfl⟩) rfl (Nat.le_of_ble_eq_true rfl) (by decide)) ?_
        refine gm_go.ru (gm_istore (ls' := [_, _, _, _, _, _, _]) dX3_shiftByTrying_38 (by decide) rfl) ?_
        refine gm_go.ru (gm_iload dX3_shiftByTrying_40 rfl) ?_
        refine gm_go.ru (gm_iload_n dX3_shiftByTrying_42 rfl) ?_
        refine gm_go.ru (gi_icmp_ge_f 52 dX3_shiftByTrying_43 (by decide) (by omega) (by omega) (by omega)) ?_
        refine gm_go.ru (gm_iload dX3_shiftByTrying_46 rfl) ?_
        refine gm_go.ru (gm_istore_n (ls' := [_, _, _, _, _, _, _]) dX3_shiftByTrying_48 (by decide) rfl) ?_
        refine gm_go.ru (gm_iload dX3_shiftByTrying_49 rfl) ?_
        refine gm_go.ru (gm_istore_n (ls' := [_, _, _, _, _, _, _]) dX3_shiftByTrying_51 (by decide) rfl) ?_
        refine gm_go.ru (gm_iload dX3_shiftByTrying_52 rfl) ?_
        refine gm_go.ru (gi_const dX3_shiftByTrying_54) ?_
        refine gm_go.ru (gm_iload dX3_shiftByTrying_55 rfl) ?_
        refine gm_go.ru (gi_mul dX3_shiftByTrying_57) ?_
        refine gm_go.ru (gi_add dX3_shiftByTrying_58) ?_
        refine gm_go.ru (gm_istore (ls' := [_, _, _, _, _, _, _]) dX3_shiftByTrying_59 (by decide) rfl) ?_
        refine gm_go.ru (gm_goto (tgt := 24) dX3_shiftByTrying_61 (by decide)) ?_
        rw [show -((j : Int) + 1) + 2 * ((j : Int) + 1) = (j : Int) + 1 by omega]
        by_cases c2 : zE v i ((j : Int) + 1) < zE v i (-((j : Int) + 1))
        ·
          rw [if_pos c2] at hs
          refine gm_go.ru (gm_iload dX3_shiftByTrying_24 rfl) ?_
          refine gm_go.ru (gm_iload dX3_shiftByTrying_26 rfl) ?_
          refine gm_go.ru (gi_icmp_gt_f 64 dX3_shiftByTrying_28 (by decide) (by omega) (by omega) (by omega)) ?_
          refine gm_go.ru (gm_aload_n dX3_shiftByTrying_31 rfl (by first | exact Or.inl ⟨_, rfl⟩ | exact Or.inr ⟨_, rfl⟩)) ?_
          refine gm_go.ru (gm_iload_n dX3_shiftByTrying_32 rfl) ?_
          refine gm_go.ru (gm_iload dX3_shiftByTrying_33 rfl) ?_
          refine gm_go.ru (gm_cV dX3_shiftByTrying_35 (ct_errorShiftedBy hN hi) rfl mt_X3_errorShiftedBy mv_X3_errorShiftedBy (lk_X3_108 rfl) (Or.inl ⟨_, 5, _, _, _, rfl, (by assumption), rfl⟩) rfl (Nat.le_of_ble_eq_true rfl) (by decide)) ?_
          refine gm_go.ru (gm_istore (ls' := [_, _, _, _, _, _, _]) dX3_shiftByTrying_38 (by decide) rfl) ?_
          refine gm_go.ru (gm_iload dX3_shiftByTrying_40 rfl) ?_
          refine gm_go.ru (gm_iload_n dX3_shiftByTrying_42 rfl) ?_
          refine gm_go.ru (gi_icmp_ge_f 52 dX3_shiftByTrying_43 (by decide) (by omega) (by omega) (by omega)) ?_
          refine gm_go.ru (gm_iload dX3_shiftByTrying_46 rfl) ?_
          refine gm_go.ru (gm_istore_n (ls' := [_, _, _, _, _, _, _]) dX3_shiftByTrying_48 (by decide) rfl) ?_
          refine gm_go.ru (gm_iload dX3_shiftByTrying_49 rfl) ?_
          refine gm_go.ru (gm_istore_n (ls' := [_, _, _, _, _, _, _]) dX3_shiftByTrying_51 (by decide) rfl) ?_
          refine gm_go.ru (gm_iload dX3_shiftByTrying_52 rfl) ?_
          refine gm_go.ru (gi_const dX3_shiftByTrying_54) ?_
          refine gm_go.ru (gm_iload dX3_shiftByTrying_55 rfl) ?_
          refine gm_go.ru (gi_mul dX3_shiftByTrying_57) ?_
          refine gm_go.ru (gi_add dX3_shiftByTrying_58) ?_
          refine gm_go.ru (gm_istore (ls' := [_, _, _, _, _, _, _]) dX3_shiftByTrying_59 (by decide) rfl) ?_
          refine gm_go.ru (gm_goto (tgt := 24) dX3_shiftByTrying_61 (by decide)) ?_
          refine gm_go.ru (gm_iload dX3_shiftByTrying_24 rfl) ?_
          refine gm_go.ru (gm_iload dX3_shiftByTrying_26 rfl) ?_
          refine gm_go.ru (gi_icmp_gt_t (tgt := 64) dX3_shiftByTrying_28 (by decide) (by omega) (by omega) (by omega)) ?_
          refine gm_go.ru (gi_iinc (ls' := [_, _, _, _, _, _, _]) dX3_shiftByTrying_64 rfl (by decide) rfl) ?_
          refine gm_go.ru (gm_goto (tgt := 12) dX3_shiftByTrying_67 (by decide)) ?_
          rw [← hs] at eB
          exact eB _ _ (by omega)
        ·
          rw [if_neg c2] at hs
          refine gm_go.ru (gm_iload dX3_shiftByTrying_24 rfl) ?_
          refine gm_go.ru (gm_iload dX3_shiftByTrying_26 rfl) ?_
          refine gm_go.ru (gi_icmp_gt_f 64 dX3_shiftByTrying_28 (by decide) (by omega) (by omega) (by omega)) ?_
          refine gm_go.ru (gm_aload_n dX3_shiftByTrying_31 rfl (by first | exact Or.inl ⟨_, rfl⟩ | exact Or.inr ⟨_, rfl⟩)) ?_
          refine gm_go.ru (gm_iload_n dX3_shiftByTrying_32 rfl) ?_
          refine gm_go.ru (gm_iload dX3_shiftByTrying_33 rfl) ?_
          refine gm_go.ru (gm_cV dX3_shiftByTrying_35 (ct_errorShiftedBy hN hi) rfl mt_X3_errorShiftedBy mv_X3_errorShiftedBy (lk_X3_108 rfl) (Or.inl ⟨_, 5, _, _, _, rfl, (by assumption), rfl⟩) rfl (Nat.le_of_ble_eq_true rfl) (by decide)) ?_
          refine gm_go.ru (gm_istore (ls' := [_, _, _, _, _, _, _]) dX3_shiftByTrying_38 (by decide) rfl) ?_
          refine gm_go.ru (gm_iload dX3_shiftByTrying_40 rfl) ?_
          refine gm_go.ru (gm_iload_n dX3_shiftByTrying_42 rfl) ?_
          refine gm_go.ru (gi_icmp_ge_t (tgt := 52) dX3_shiftByTrying_43 (by decide) (by omega) (by omega) (by omega)) ?_
          refine gm_go.ru (gm_iload dX3_shiftByTrying_52 rfl) ?_
          refine gm_go.ru (gi_const dX3_shiftByTrying_54) ?_
          refine gm_go.ru (gm_iload dX3_shiftByTrying_55 rfl) ?_
          refine gm_go.ru (gi_mul dX3_shiftByTrying_57) ?_
          refine gm_go.ru (gi_add dX3_shiftByTrying_58) ?_
          refine gm_go.ru (gm_istore (ls' := [_, _, _, _, _, _, _]) dX3_shiftByTrying_59 (by decide) rfl) ?_
          refine gm_go.ru (gm_goto (tgt := 24) dX3_shiftByTrying_61 (by decide)) ?_
          refine gm_go.ru (gm_iload dX3_shiftByTrying_24 rfl) ?_
          refine gm_go.ru (gm_iload dX3_shiftByTrying_26 rfl) ?_
          refine gm_go.ru (gi_icmp_gt_t (tgt := 64) dX3_shiftByTrying_28 (by decide) (by omega) (by omega) (by omega)) ?_
          refine gm_go.ru (gi_iinc (ls' := [_, _, _, _, _, _, _]) dX3_shiftByTrying_64 rfl (by decide) rfl) ?_
          refine gm_go.ru (gm_goto (tgt := 12) dX3_shiftByTrying_67 (by decide)) ?_
          rw [← hs] at eB
          exact eB _ _ (by omega)
      ·
        rw [if_neg c1] at hs
        refine gm_go.ru (gm_iload dX3_shiftByTrying_24 rfl) ?_
        refine gm_go.ru (gm_iload dX3_shiftByTrying_26 rfl) ?_
        refine gm_go.ru (gi_icmp_gt_f 64 dX3_shiftByTrying_28 (by decide) (by omega) (by omega) (by omega)) ?_
        refine gm_go.ru (gm_aload_n dX3_shiftByTrying_31 rfl (by first | exact Or.inl ⟨_, rfl⟩ | exact Or.inr ⟨_, rfl⟩)) ?_
        refine gm_go.ru (gm_iload_n dX3_shiftByTrying_32 rfl) ?_
        refine gm_go.ru (gm_iload dX3_shiftByTrying_33 rfl) ?_
        refine gm_go.ru (gm_cV dX3_shiftByTrying_35 (ct_errorShiftedBy hN hi) rfl mt_X3_errorShiftedBy mv_X3_errorShiftedBy (lk_X3_108 rfl) (Or.inl ⟨_, 5, _, _, _, rfl, (by assumption), rfl⟩) rfl (Nat.le_of_ble_eq_true rfl) (by decide)) ?_
        refine gm_go.ru (gm_istore (ls' := [_, _, _, _, _, _, _]) dX3_shiftByTrying_38 (by decide) rfl) ?_
        refine gm_go.ru (gm_iload dX3_shiftByTrying_40 rfl) ?_
        refine gm_go.ru (gm_iload_n dX3_shiftByTrying_42 rfl) ?_
        refine gm_go.ru (gi_icmp_ge_t (tgt := 52) dX3_shiftByTrying_43 (by decide) (by omega) (by omega) (by omega)) ?_
        refine gm_go.ru (gm_iload dX3_shiftByTrying_52 rfl) ?_
        refine gm_go.ru (gi_const dX3_shiftByTrying_54) ?_
        refine gm_go.ru (gm_iload dX3_shiftByTrying_55 rfl) ?_
        refine gm_go.ru (gi_mul dX3_shiftByTrying_57) ?_
        refine gm_go.ru (gi_add dX3_shiftByTrying_58) ?_
        refine gm_go.ru (gm_istore (ls' := [_, _, _, _, _, _, _]) dX3_shiftByTrying_59 (by decide) rfl) ?_
        refine gm_go.ru (gm_goto (tgt := 24) dX3_shiftByTrying_61 (by decide)) ?_
        rw [show -((j : Int) + 1) + 2 * ((j : Int) + 1) = (j : Int) + 1 by omega]
        by_cases c2 : zE v i ((j : Int) + 1) < zE v i b
        ·
          rw [if_pos c2] at hs
          refine gm_go.ru (gm_iload dX3_shiftByTrying_24 rfl) ?_
          refine gm_go.ru (gm_iload dX3_shiftByTrying_26 rfl) ?_
          refine gm_go.ru (gi_icmp_gt_f 64 dX3_shiftByTrying_28 (by decide) (by omega) (by omega) (by omega)) ?_
          refine gm_go.ru (gm_aload_n dX3_shiftByTrying_31 rfl (by first | exact Or.inl ⟨_, rfl⟩ | exact Or.inr ⟨_, rfl⟩)) ?_
          refine gm_go.ru (gm_iload_n dX3_shiftByTrying_32 rfl) ?_
          refine gm_go.ru (gm_iload dX3_shiftByTrying_33 rfl) ?_
          refine gm_go.ru (gm_cV dX3_shiftByTrying_35 (ct_errorShiftedBy hN hi) rfl mt_X3_errorShiftedBy mv_X3_errorShiftedBy (lk_X3_108 rfl) (Or.inl ⟨_, 5, _, _, _, rfl, (by assumption), rfl⟩) rfl (Nat.le_of_ble_eq_true rfl) (by decide)) ?_
          refine gm_go.ru (gm_istore (ls' := [_, _, _, _, _, _, _]) dX3_shiftByTrying_38 (by decide) rfl) ?_
          refine gm_go.ru (gm_iload dX3_shiftByTrying_40 rfl) ?_
          refine gm_go.ru (gm_iload_n dX3_shiftByTrying_42 rfl) ?_
          refine gm_go.ru (gi_icmp_ge_f 52 dX3_shiftByTrying_43 (by decide) (by omega) (by omega) (by omega)) ?_
          refine gm_go.ru (gm_iload dX3_shiftByTrying_46 rfl) ?_
          refine gm_go.ru (gm_istore_n (ls' := [_, _, _, _, _, _, _]) dX3_shiftByTrying_48 (by decide) rfl) ?_
          refine gm_go.ru (gm_iload dX3_shiftByTrying_49 rfl) ?_
          refine gm_go.ru (gm_istore_n (ls' := [_, _, _, _, _, _, _]) dX3_shiftByTrying_51 (by decide) rfl) ?_
          refine gm_go.ru (gm_iload dX3_shiftByTrying_52 rfl) ?_
          refine gm_go.ru (gi_const dX3_shiftByTrying_54) ?_
          refine gm_go.ru (gm_iload dX3_shiftByTrying_55 rfl) ?_
          refine gm_go.ru (gi_mul dX3_shiftByTrying_57) ?_
          refine gm_go.ru (gi_add dX3_shiftByTrying_58) ?_
          refine gm_go.ru (gm_istore (ls' := [_, _, _, _, _, _, _]) dX3_shiftByTrying_59 (by decide) rfl) ?_
          refine gm_go.ru (gm_goto (tgt := 24) dX3_shiftByTrying_61 (by decide)) ?_
          refine gm_go.ru (gm_iload dX3_shiftByTrying_24 rfl) ?_
          refine gm_go.ru (gm_iload dX3_shiftByTrying_26 rfl) ?_
          refine gm_go.ru (gi_icmp_gt_t (tgt := 64) dX3_shiftByTrying_28 (by decide) (by omega) (by omega) (by omega)) ?_
          refine gm_go.ru (gi_iinc (ls' := [_, _, _, _, _, _, _]) dX3_shiftByTrying_64 rfl (by decide) rfl) ?_
          refine gm_go.ru (gm_goto (tgt := 12) dX3_shiftByTrying_67 (by decide)) ?_
          rw [← hs] at eB
          exact eB _ _ (by omega)
        ·
          rw [if_neg c2] at hs
          refine gm_go.ru (gm_iload dX3_shiftByTrying_24 rfl) ?_
          refine gm_go.ru (gm_iload dX3_shiftByTrying_26 rfl) ?_
          refine gm_go.ru (gi_icmp_gt_f 64 dX3_shiftByTrying_28 (by decide) (by omega) (by omega) (by omega)) ?_
          refine gm_go.ru (gm_aload_n dX3_shiftByTrying_31 rfl (by first | exact Or.inl ⟨_, rfl⟩ | exact Or.inr ⟨_, rfl⟩)) ?_
          refine gm_go.ru (gm_iload_n dX3_shiftByTrying_32 rfl) ?_
          refine gm_go.ru (gm_iload dX3_shiftByTrying_33 rfl) ?_
          refine gm_go.ru (gm_cV dX3_shiftByTrying_35 (ct_errorShiftedBy hN hi) rfl mt_X3_errorShiftedBy mv_X3_errorShiftedBy (lk_X3_108 rfl) (Or.inl ⟨_, 5, _, _, _, rfl, (by assumption), rfl⟩) rfl (Nat.le_of_ble_eq_true rfl) (by decide)) ?_
          refine gm_go.ru (gm_istore (ls' := [_, _, _, _, _, _, _]) dX3_shiftByTrying_38 (by decide) rfl) ?_
          refine gm_go.ru (gm_iload dX3_shiftByTrying_40 rfl) ?_
          refine gm_go.ru (gm_iload_n dX3_shiftByTrying_42 rfl) ?_
          refine gm_go.ru (gi_icmp_ge_t (tgt := 52) dX3_shiftByTrying_43 (by decide) (by omega) (by omega) (by omega)) ?_
          refine gm_go.ru (gm_iload dX3_shiftByTrying_52 rfl) ?_
          refine gm_go.ru (gi_const dX3_shiftByTrying_54) ?_
          refine gm_go.ru (gm_iload dX3_shiftByTrying_55 rfl) ?_
          refine gm_go.ru (gi_mul dX3_shiftByTrying_57) ?_
          refine gm_go.ru (gi_add dX3_shiftByTrying_58) ?_
          refine gm_go.ru (gm_istore (ls' := [_, _, _, _, _, _, _]) dX3_shiftByTrying_59 (by decide) rfl) ?_
          refine gm_go.ru (gm_goto (tgt := 24) dX3_shiftByTrying_61 (by decide)) ?_
          refine gm_go.ru (gm_iload dX3_shiftByTrying_24 rfl) ?_
          refine gm_go.ru (gm_iload dX3_shiftByTrying_26 rfl) ?_
          refine gm_go.ru (gi_icmp_gt_t (tgt := 64) dX3_shiftByTrying_28 (by decide) (by omega) (by omega) (by omega)) ?_
          refine gm_go.ru (gi_iinc (ls' := [_, _, _, _, _, _, _]) dX3_shiftByTrying_64 rfl (by decide) rfl) ?_
          refine gm_go.ru (gm_goto (tgt := 12) dX3_shiftByTrying_67 (by decide)) ?_
          rw [← hs] at eB
          exact eB _ _ (by omega)
  have k0 := key 20 0
  rw [zBs_0 hS] at k0
  refine gm_go.ru (gi_const dX3_shiftByTrying_0) ?_
  refine gm_go.ru (gm_istore_n (ls' := [_, _, _, _, _, _, _]) dX3_shiftByTrying_1 (by decide) rfl) ?_
  refine gm_go.ru (gm_aload_n dX3_shiftByTrying_2 rfl (by first | exact Or.inl ⟨_, rfl⟩ | exact Or.inr ⟨_, rfl⟩)) ?_
  refine gm_go.ru (gm_iload_n dX3_shiftByTrying_3 rfl) ?_
  refine gm_go.ru (gi_const dX3_shiftByTrying_4) ?_
  refine gm_go.ru (gm_cV dX3_shiftByTrying_5 (ct_errorShiftedBy hN hi) rfl mt_X3_errorShiftedBy mv_X3_errorShiftedBy (lk_X3_108 rfl) (Or.inl ⟨_, 5, _, _, _, rfl, (by assumption), rfl⟩) rfl (Nat.le_of_ble_eq_true rfl) (by decide)) ?_
  refine gm_go.ru (gm_istore_n (ls' := [_, _, _, _, _, _, _]) dX3_shiftByTrying_8 (by decide) rfl) ?_
  refine gm_go.ru (gi_const dX3_shiftByTrying_9) ?_
  refine gm_go.ru (gm_istore (ls' := [_, _, _, _, _, _, _]) dX3_shiftByTrying_10 (by decide) rfl) ?_
  exact k0 _ _ (by omega)
def zAh (v : Nat → Int) (a b : Nat) : Bool := if zE v a 0 ≠ zE v b 0 then decide (zE v a 0 < zE v b 0) else if v (10 + 10 * a) ≠ v (10 + 10 * b) then decide (v (10 + 10 * b) < v (10 + 10 * a)) else decide (a < b)
def zCA (v : Nat → Int) (b : Nat) : Nat → Nat
  | 0 => 0
  | n + 1 => zCA v b n + (if zAh v n b then 1 else 0)
theorem zCA_le (v : Nat → Int) (b : Nat) : ∀ n, zCA v b n ≤ n
  | 0 => Nat.le_refl 0
  | n + 1 => by have := zCA_le v b n; rw [zCA]; split <;> omega
set_option maxRecDepth 4000 in
theorem ct_isAhead {h : gm_H} {n a b : Nat} {v : Nat → Int} (hN : nd_at h n v) (hv : nd_iv v) (ha : a < 8) (hb : b < 8) : gm_co mX3_isAhead 3 [.ref n, .int (zI a), .int (zI b)] h (.inl (some (.int (zI (zB (zAh v a b)))))) h := by
  refine gm_co_of _ (by decide +kernel) rfl (Nat.le_of_ble_eq_true rfl) rfl ?_
  have hEa := zE_r hv ha (k := 0) (by omega)
  have hEb := zE_r hv hb (k := 0) (by omega)
  have hsa := hv.2.2.1 a ha
  have hsb := hv.2.2.1 b hb
  obtain ⟨h1, S, D, h2, h3, h4, h5⟩ := id hN
  have qa := h4 a ha
  have qb := h4 b hb
  refine gm_go.ru (gm_aload_n dX3_isAhead_0 rfl (by first | exact Or.inl ⟨_, rfl⟩ | exact Or.inr ⟨_, rfl⟩)) ?_
  refine gm_go.ru (gm_iload_n dX3_isAhead_1 rfl) ?_
  refine gm_go.ru (gi_const dX3_isAhead_2) ?_
  refine gm_go.ru (gm_cV dX3_isAhead_3 (ct_errorShiftedBy hN ha) rfl mt_X3_errorShiftedBy mv_X3_errorShiftedBy (lk_X3_108 rfl) (Or.inl ⟨_, 5, _, _, _, rfl, (by assumption), rfl⟩) rfl (Nat.le_of_ble_eq_true rfl) (by decide)) ?_
  refine gm_go.ru (gm_istore_n (ls' := [_, _, _, _, _]) dX3_isAhead_6 (by decide) rfl) ?_
  refine gm_go.ru (gm_aload_n dX3_isAhead_7 rfl (by first | exact Or.inl ⟨_, rfl⟩ | exact Or.inr ⟨_, rfl⟩)) ?_
  refine gm_go.ru (gm_iload_n dX3_isAhead_8 rfl) ?_
  refine gm_go.ru (gi_const dX3_isAhead_9) ?_
  refine gm_go.ru (gm_cV dX3_isAhead_10 (ct_errorShiftedBy hN hb) rfl mt_X3_errorShiftedBy mv_X3_errorShiftedBy (lk_X3_108 rfl) (Or.inl ⟨_, 5, _, _, _, rfl, (by assumption), rfl⟩) rfl (Nat.le_of_ble_eq_true rfl) (by decide)) ?_
  refine gm_go.ru (gm_istore (ls' := [_, _, _, _, _]) dX3_isAhead_13 (by decide) rfl) ?_
  refine gm_go.ru (gm_iload_n dX3_isAhead_15 rfl) ?_
  refine gm_go.ru (gm_iload dX3_isAhead_16 rfl) ?_
  by_cases c1_18 : zE v a 0 = zE v b 0
  ·
    refine gm_go.ru (gi_icmp_eq_t (tgt := 33) dX3_isAhead_18 (by decide) (by omega) (by omega) c1_18) ?_
    refine gm_go.ru (gm_aload_n dX3_isAhead_33 rfl (by first | exact Or.inl ⟨_, rfl⟩ | exact Or.inr ⟨_, rfl⟩)) ?_
    refine gm_go.ru (gm_get dX3_isAhead_34 (fl_X3_15 rfl) (by assumption) rfl) ?_
    refine gm_go.ru (gm_iload_n dX3_isAhead_37 rfl) ?_
    refine gm_go.ru (gi_ald dX3_isAhead_38 (by assumption) (by omega) (by omega) (by decide)) ?_
    rw [Int.toNat_natCast, qa]
    refine gm_go.ru (gm_aload_n dX3_isAhead_39 rfl (by first | exact Or.inl ⟨_, rfl⟩ | exact Or.inr ⟨_, rfl⟩)) ?_
    refine gm_go.ru (gm_get dX3_isAhead_40 (fl_X3_15 rfl) (by assumption) rfl) ?_
    refine gm_go.ru (gm_iload_n dX3_isAhead_43 rfl) ?_
    refine gm_go.ru (gi_ald dX3_isAhead_44 (by assumption) (by omega) (by omega) (by decide)) ?_
    rw [Int.toNat_natCast, qb]
    by_cases c2_45 : v (10 + 10 * a) = v (10 + 10 * b)
    ·
      refine gm_go.ru (gi_icmp_eq_t (tgt := 69) dX3_isAhead_45 (by decide) (by omega) (by omega) c2_45) ?_
      refine gm_go.ru (gm_iload_n dX3_isAhead_69 rfl) ?_
      refine gm_go.ru (gm_iload_n dX3_isAhead_70 rfl) ?_
      by_cases c3_71 : (b : Int) ≤ (a : Int)
      ·
        refine gm_go.ru (gi_icmp_ge_t (tgt := 78) dX3_isAhead_71 (by decide) (by omega) (by omega) c3_71) ?_
        refine gm_go.ru (gi_const dX3_isAhead_78) ?_
        refine gm_zret' dX3_isAhead_79 rfl (congrArg zI ?_); unfold zAh zB; (repeat' split) <;> simp_all <;> omega
      ·
        refine gm_go.ru (gi_icmp_ge_f 78 dX3_isAhead_71 (by decide) (by omega) (by omega) c3_71) ?_
        refine gm_go.ru (gi_const dX3_isAhead_74) ?_
        refine gm_go.ru (gm_goto (tgt := 79) dX3_isAhead_75 (by decide)) ?_
        refine gm_zret' dX3_isAhead_79 rfl (congrArg zI ?_); unfold zAh zB; (repeat' split) <;> simp_all <;> omega
    ·
      refine gm_go.ru (gi_icmp_eq_f 69 dX3_isAhead_45 (by decide) (by omega) (by omega) c2_45) ?_
      refine gm_go.ru (gm_aload_n dX3_isAhead_48 rfl (by first | exact Or.inl ⟨_, rfl⟩ | exact Or.inr ⟨_, rfl⟩)) ?_
      refine gm_go.ru (gm_get dX3_isAhead_49 (fl_X3_15 rfl) (by assumption) rfl) ?_
      refine gm_go.ru (gm_iload_n dX3_isAhead_52 rfl) ?_
      refine gm_go.ru (gi_ald dX3_isAhead_53 (by assumption) (by omega) (by omega) (by decide)) ?_
      rw [Int.toNat_natCast, qa]
      refine gm_go.ru (gm_aload_n dX3_isAhead_54 rfl (by first | exact Or.inl ⟨_, rfl⟩ | exact Or.inr ⟨_, rfl⟩)) ?_
      refine gm_go.ru (gm_get dX3_isAhead_55 (fl_X3_15 rfl) (by assumption) rfl) ?_
      refine gm_go.ru (gm_iload_n dX3_isAhead_58 rfl) ?_
      refine gm_go.ru (gi_ald dX3_isAhead_59 (by assumption) (by omega) (by omega) (by decide)) ?_
      rw [Int.toNat_natCast, qb]
      by_cases c4_60 : v (10 + 10 * a) ≤ v (10 + 10 * b)
      ·
        refine gm_go.ru (gi_icmp_le_t (tgt := 67) dX3_isAhead_60 (by decide) (by omega) (by omega) c4_60) ?_
        refine gm_go.ru (gi_const dX3_isAhead_67) ?_
        refine gm_zret' dX3_isAhead_68 rfl (congrArg zI ?_); unfold zAh zB; (repeat' split) <;> simp_all <;> omega
      ·
        refine gm_go.ru (gi_icmp_le_f 67 dX3_isAhead_60 (by decide) (by omega) (by omega) c4_60) ?_
        refine gm_go.ru (gi_const dX3_isAhead_63) ?_
        refine gm_go.ru (gm_goto (tgt := 68) dX3_isAhead_64 (by decide)) ?_
        refine gm_zret' dX3_isAhead_68 rfl (congrArg zI ?_); unfold zAh zB; (repeat' split) <;> simp_all <;> omega
  ·
    refine gm_go.ru (gi_icmp_eq_f 33 dX3_isAhead_18 (by decide) (by omega) (by omega) c1_18) ?_
    refine gm_go.ru (gm_iload_n dX3_isAhead_21 rfl) ?_
    refine gm_go.ru (gm_iload dX3_isAhead_22 rfl) ?_
    by_cases c5_24 : zE v b 0 ≤ zE v a 0
    ·
      refine gm_go.ru (gi_icmp_ge_t (tgt := 31) dX3_isAhead_24 (by decide) (by omega) (by omega) c5_24) ?_
      refine gm_go.ru (gi_const dX3_isAhead_31) ?_
      refine gm_zret' dX3_isAhead_32 rfl (congrArg zI ?_); unfold zAh zB; (repeat' split) <;> simp_all <;> omega
    ·
      refine gm_go.ru (gi_icmp_ge_f 31 dX3_isAhead_24 (by decide) (by omega) (by omega) c5_24) ?_
      refine gm_go.ru (gi_const dX3_isAhead_27) ?_
      refine gm_go.ru (gm_goto (tgt := 32) dX3_isAhead_28 (by decide)) ?_
      refine gm_zret' dX3_isAhead_32 rfl (congrArg zI ?_); unfold zAh zB; (repeat' split) <;> simp_all <;> omega
set_option maxRecDepth 4000 in
theorem ct_countAheadOf {h : gm_H} {n b : Nat} {v : Nat → Int} (hN : nd_at h n v) (hv : nd_iv v) (hb : b < 8) : gm_co mX3_countAheadOf 4 [.ref n, .int (zI b)] h (.inl (some (.int (zI ((zCA v b (v 0).toNat : Nat) : Int))))) h := by
  refine gm_co_of _ (by decide +kernel) rfl (Nat.le_of_ble_eq_true rfl) rfl ?_
  obtain ⟨cn, hc, hc8⟩ := nd_cnt hv
  have key : ∀ (m j : Nat), j + m = cn → gm_ru mX3_countAheadOf 4 (4, [some (.ref n), some (.int (zI b)), some (.int (zI (zCA v b j : Nat))), some (.int (zI j))], [], h) (.inl (some (.int (zI (zCA v b cn : Nat))))) h := by
    intro m
    induction m with
    | zero =>
      intro j hj
      obtain rfl : j = cn := by omega
      obtain ⟨h1, h2⟩ := id hN
      refine gm_go.ru (gm_iload_n dX3_countAheadOf_4 rfl) ?_
      refine gm_go.ru (gm_aload_n dX3_countAheadOf_5 rfl (by first | exact Or.inl ⟨_, rfl⟩ | exact Or.inr ⟨_, rfl⟩)) ?_
      refine gm_go.ru (gm_get dX3_countAheadOf_6 (fl_X3_22 rfl) (by assumption) rfl) ?_
      refine gm_go.ru (gi_icmp_ge_t (tgt := 35) dX3_countAheadOf_9 (by decide) (by omega) (by omega) (by omega)) ?_
      refine gm_go.ru (gm_iload_n dX3_countAheadOf_35 rfl) ?_
      exact gm_iret dX3_countAheadOf_36 rfl
    | succ m ih =>
      intro j hj
      have hle := zCA_le v b j
      obtain ⟨h1, h2⟩ := id hN
      have e := ih (j + 1) (by omega)
      rw [zCA] at e
      refine gm_go.ru (gm_iload_n dX3_countAheadOf_4 rfl) ?_
      refine gm_go.ru (gm_aload_n dX3_countAheadOf_5 rfl (by first | exact Or.inl ⟨_, rfl⟩ | exact Or.inr ⟨_, rfl⟩)) ?_
      refine gm_go.ru (gm_get dX3_countAheadOf_6 (fl_X3_22 rfl) (by assumption) rfl) ?_
      refine gm_go.ru (gi_icmp_ge_f 35 dX3_countAheadOf_9 (by decide) (by omega) (by omega) (by omega)) ?_
      refine gm_go.ru (gm_iload_n dX3_countAheadOf_12 rfl) ?_
      refine gm_go.ru (gm_aload_n dX3_countAheadOf_13 rfl (by first | exact Or.inl ⟨_, rfl⟩ | exact Or.inr ⟨_, rfl⟩)) ?_
      refine gm_go.ru (gm_iload_n dX3_countAheadOf_14 rfl) ?_
      refine gm_go.ru (gm_iload_n dX3_countAheadOf_15 rfl) ?_
      refine gm_go.ru (gm_cV dX3_countAheadOf_16 (ct_isAhead hN hv (by omega) hb) rfl mt_X3_isAhead mv_X3_isAhead (lk_X3_114 rfl) (Or.inl ⟨_, 5, _, _, _, rfl, (by assumption), rfl⟩) rfl (Nat.le_of_ble_eq_true rfl) (by decide)) ?_
      cases hw : zAh v j b
      ·
        refine gm_go.ru (gi_if_eq_t (tgt := 26) dX3_countAheadOf_19 (by decide) (by decide) rfl) ?_
        refine gm_go.ru (gi_const dX3_countAheadOf_26) ?_
        refine gm_go.ru (gi_add dX3_countAheadOf_27) ?_
        refine gm_go.ru (gm_istore_n (ls' := [_, _, _, _]) dX3_countAheadOf_28 (by decide) rfl) ?_
        refine gm_go.ru (gi_iinc (ls' := [_, _, _, _]) dX3_countAheadOf_29 rfl (by decide) rfl) ?_
        refine gm_go.ru (gm_goto (tgt := 4) dX3_countAheadOf_32 (by decide)) ?_
        rw [hw] at e
        exact e
      ·
        refine gm_go.ru (gi_if_eq_f 26 dX3_countAheadOf_19 (by decide) (by decide) (by decide)) ?_
        refine gm_go.ru (gi_const dX3_countAheadOf_22) ?_
        refine gm_go.ru (gm_goto (tgt := 27) dX3_countAheadOf_23 (by decide)) ?_
        refine gm_go.ru (gi_add dX3_countAheadOf_27) ?_
        refine gm_go.ru (gm_istore_n (ls' := [_, _, _, _]) dX3_countAheadOf_28 (by decide) rfl) ?_
        refine gm_go.ru (gi_iinc (ls' := [_, _, _, _]) dX3_countAheadOf_29 rfl (by decide) rfl) ?_
        refine gm_go.ru (gm_goto (tgt := 4) dX3_countAheadOf_32 (by decide)) ?_
        rw [hw] at e
        exact e
  refine gm_go.ru (gi_const dX3_countAheadOf_0) ?_
  refine gm_go.ru (gm_istore_n (ls' := [_, _, _, _]) dX3_countAheadOf_1 (by decide) rfl) ?_
  refine gm_go.ru (gi_const dX3_countAheadOf_2) ?_
  refine gm_go.ru (gm_istore_n (ls' := [_, _, _, _]) dX3_countAheadOf_3 (by decide) rfl) ?_
  rw [hc, Int.toNat_natCast]
  exact key cn 0 (by omega)
