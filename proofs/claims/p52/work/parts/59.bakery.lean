/-- which true courses are reached by the first m -/
def zHt (v : Nat → Int) (i : Nat) : Nat → (Nat → Int)
  | 0 => fun _ => 0
  | m + 1 => zU (zHt v i m) (zTc v i m).toNat 1
def zMc (H : Nat → Int) : Nat → Int
  | 0 => 0
  | c + 1 => zMc H c + (1 - H c)
theorem zMc_c {A B : Nat → Int} : ∀ m, (∀ k, k < m → A k = B k) → zMc A m = zMc B m
  | 0, _ => rfl
  | m + 1, e => by rw [zMc, zMc, zMc_c m (fun k hk => e k (by omega)), e m (by omega)]
theorem zHt_r (v : Nat → Int) (i : Nat) : ∀ m k, 0 ≤ zHt v i m k ∧ zHt v i m k ≤ 1
  | 0, k => by simp [zHt]
  | m + 1, k => by
    rw [zHt]
    by_cases e : k = (zTc v i m).toNat
    · rw [e, zU_s]; omega
    · rw [zU_n e]; exact zHt_r v i m k
theorem zMc_r {A : Nat → Int} : ∀ m, (∀ k, k < m → 0 ≤ A k ∧ A k ≤ 1) → 0 ≤ zMc A m ∧ zMc A m ≤ m
  | 0, _ => by simp [zMc]
  | m + 1, e => by
    have h1 := zMc_r m (fun k hk => e k (by omega))
    have h2 := e m (by omega)
    rw [zMc]; omega
theorem st_1 {h h' : gm_H} {n : Nat} {K : Nat → Prop} {v : Nat → Int} (f : gh_fr h h' K) (hK : ∀ k, K k → k < n + 1 ∨ n + 10 ≤ k) (hS : st_at h (n + 1) v) : st_at h' (n + 1) v :=
  st_fr f (fun k hk z => by have := hK k z; have := hk.1; have := hk.2; omega) hS
set_option maxRecDepth 4000 in
theorem ct_missedCoursesX {h : gm_H} {n : Nat} {v : Nat → Int} {hs ep fc : Int} (hB : h.1[n]? = some (by_c n hs ep fc)) (hS : st_at h (n + 1) v) {i : Int} (hv : nd_iv v) (hi : zR i) (hq : ¬ (0 ≤ i ∧ i < v 0)) : gm_co mX10_missedCourses 10 [.ref n, .int (zI i)] h (.inr "java/lang/IndexOutOfBoundsException") (zTh h) := by
  refine gm_co_of _ (by decide +kernel) rfl (Nat.le_of_ble_eq_true rfl) rfl ?_
  refine gm_go.ru (gm_aload_n dX10_missedCourses_0 rfl (by first | exact Or.inl ⟨_, rfl⟩ | exact Or.inr ⟨_, rfl⟩)) ?_
  refine gm_go.ru (gm_iload_n dX10_missedCourses_1 rfl) ?_
  exact gm_pV dX10_missedCourses_2 (ct_needNeedleX hB hS hv hi hq) rfl rfl mt_X10_needNeedle mv_X10_needNeedle (lk_X10_99 rfl) (Or.inl ⟨_, 11, _, _, _, rfl, hB, rfl⟩) rfl (Nat.le_of_ble_eq_true rfl) (by decide)
set_option maxRecDepth 4000 in
theorem mc_2 {h : gm_H} {n : Nat} {hs ep fc : Int} {A : Nat → Int} {i : Nat} (hB : h.1[n]? = some (by_c n hs ep fc)) (hq : h.1[n + 107]? = some (gA 360 A)) (hA : ∀ k, k < 360 → 0 ≤ A k ∧ A k ≤ 1) : ∀ m j : Nat, j + m = 360 → gm_ru mX10_missedCourses 10 (50, [some (.ref n), some (.int (zI (i : Int))), some (.int (zI (zMc A j))), some (.int (zI (j : Int)))], [], h) (.inl (some (.int (zI (zMc A 360))))) h := by
  intro m
  induction m with
  | zero =>
    intro j hj
    obtain rfl : j = 360 := by omega
    refine gm_go.ru (gm_iload_n dX10_missedCourses_50 rfl) ?_
    refine gm_go.ru (gi_sipush dX10_missedCourses_51 (by decide +kernel)) ?_
    refine gm_go.ru (gi_icmp_ge_t (tgt := 74) dX10_missedCourses_54 (by decide) (by omega) (by omega) (by omega)) ?_
    refine gm_go.ru (gm_iload_n dX10_missedCourses_74 rfl) ?_
    exact gm_iret dX10_missedCourses_75 rfl
  | succ m ih =>
    intro j hj
    have e1 := zMc_r j (fun k hk => hA k (by omega))
    have e2 := hA j (by omega)
    have e3 := ih (j + 1) (by omega)
    rw [show zMc A (j + 1) = zMc A j + (1 - A j) from rfl] at e3
    refine gm_go.ru (gm_iload_n dX10_missedCourses_50 rfl) ?_
    refine gm_go.ru (gi_sipush dX10_missedCourses_51 (by decide +kernel)) ?_
    refine gm_go.ru (gi_icmp_ge_f 74 dX10_missedCourses_54 (by decide) (by omega) (by omega) (by omega)) ?_
    refine gm_go.ru (gm_iload_n dX10_missedCourses_57 rfl) ?_
    refine gm_go.ru (gi_const dX10_missedCourses_58) ?_
    refine gm_go.ru (gm_aload_n dX10_missedCourses_59 rfl (by first | exact Or.inl ⟨_, rfl⟩ | exact Or.inr ⟨_, rfl⟩)) ?_
    refine gm_go.ru (gm_get dX10_missedCourses_60 (fl_X10_40 rfl) hB rfl) ?_
    refine gm_go.ru (gm_iload_n dX10_missedCourses_63 rfl) ?_
    refine gm_go.ru (gi_ald dX10_missedCourses_64 hq (by omega) (by omega) (by decide)) ?_
    refine gm_go.ru (gi_sub dX10_missedCourses_65) ?_
    refine gm_go.ru (gi_add dX10_missedCourses_66) ?_
    refine gm_go.ru (gm_istore_n (ls' := [_, _, _, _]) dX10_missedCourses_67 (by decide) rfl) ?_
    refine gm_go.ru (gi_iinc (ls' := [_, _, _, _]) dX10_missedCourses_68 rfl (by decide) rfl) ?_
    refine gm_go.ru (gm_goto (tgt := 50) dX10_missedCourses_71 (by decide)) ?_
    exact e3
theorem zHt_u {v : Nat → Int} {i j k : Nat} {A : Nat → Int} (e : A k = zHt v i j k) : zU A (zTc v i j).toNat 1 k = zHt v i (j + 1) k := by
  rw [zHt]
  by_cases c : k = (zTc v i j).toNat
  · rw [c, zU_s, zU_s]
  · rw [zU_n c, zU_n c]; exact e
set_option maxRecDepth 4000 in
theorem mc_1 {n i : Nat} {hs ep fc : Int} {v : Nat → Int} (hv : nd_iv v) (h8 : i < 8) : ∀ (m j : Nat) (h : gm_H) (A : Nat → Int), j + m = 360 → h.1[n]? = some (by_c n hs ep fc) → st_at h (n + 1) v → h.1[n + 107]? = some (gA 360 A) → (∀ k, k < 360 → A k = zHt v i j k) → ∃ h' A', gm_ru mX10_missedCourses 10 (15, [some (.ref n), some (.int (zI (i : Int))), some (.int (zI (j : Int))), none], [], h) (.inl (some (.int (zI (zMc (zHt v i 360) 360))))) h' ∧ h'.1[n + 107]? = some (gA 360 A') ∧ gh_fr h h' (fun k => k = n + 107) := by
  intro m
  induction m with
  | zero =>
    intro j h A hj hB hS hq hA
    obtain rfl : j = 360 := by omega
    refine ⟨h, A, ?_, hq, gh_rf⟩
    refine gm_go.ru (gm_iload_n dX10_missedCourses_15 rfl) ?_
    refine gm_go.ru (gi_sipush dX10_missedCourses_16 (by decide +kernel)) ?_
    refine gm_go.ru (gi_icmp_ge_t (tgt := 46) dX10_missedCourses_19 (by decide) (by omega) (by omega) (by omega)) ?_
    refine gm_go.ru (gi_const dX10_missedCourses_46) ?_
    refine gm_go.ru (gm_istore_n (ls' := [_, _, _, _]) dX10_missedCourses_47 (by decide) rfl) ?_
    refine gm_go.ru (gi_const dX10_missedCourses_48) ?_
    refine gm_go.ru (gm_istore_n (ls' := [_, _, _, _]) dX10_missedCourses_49 (by decide) rfl) ?_
    rw [← zMc_c 360 hA]
    exact mc_2 hB hq (fun k hk => by rw [hA k hk]; exact zHt_r v i 360 k) 360 0 rfl
  | succ m ih =>
    intro j h A hj hB hS hq hA
    obtain ⟨s0, sN, sO⟩ := id hS
    obtain ⟨h1, h2⟩ := id sN
    have t9 := zTc_r v i j
    obtain ⟨a1, ha1⟩ : ∃ x : gm_H, x = (h.1.set (n + 107) (gA 360 (zU A (zTc v i j).toNat 1)), h.2) := ⟨_, rfl⟩
    have f1 : gh_fr h a1 (fun k => k = n + 107) := by rw [ha1]; exact gh_set (K := fun k => k = n + 107) gh_rf rfl _
    obtain ⟨h', A', e1, e2, e3⟩ := ih (j + 1) a1 (zU A (zTc v i j).toNat 1) (by omega) (gh_at f1 hB (by omega)) (st_1 f1 (fun k hk => by omega) hS) (by rw [ha1]; exact gs_s hq) (fun k hk => zHt_u (hA k hk))
    refine ⟨h', A', ?_, e2, gh_tr f1 e3⟩
    refine gm_go.ru (gm_iload_n dX10_missedCourses_15 rfl) ?_
    refine gm_go.ru (gi_sipush dX10_missedCourses_16 (by decide +kernel)) ?_
    refine gm_go.ru (gi_icmp_ge_f 46 dX10_missedCourses_19 (by decide) (by omega) (by omega) (by omega)) ?_
    refine gm_go.ru (gm_aload_n dX10_missedCourses_22 rfl (by first | exact Or.inl ⟨_, rfl⟩ | exact Or.inr ⟨_, rfl⟩)) ?_
    refine gm_go.ru (gm_get dX10_missedCourses_23 (fl_X10_40 rfl) hB rfl) ?_
    refine gm_go.ru (gm_aload_n dX10_missedCourses_26 rfl (by first | exact Or.inl ⟨_, rfl⟩ | exact Or.inr ⟨_, rfl⟩)) ?_
    refine gm_go.ru (gm_get dX10_missedCourses_27 (fl_X10_10 rfl) hB rfl) ?_
    refine gm_go.ru (gm_get dX10_missedCourses_30 (fl_X10_90 rfl) s0 rfl) ?_
    refine gm_go.ru (gm_iload_n dX10_missedCourses_33 rfl) ?_
    refine gm_go.ru (gm_iload_n dX10_missedCourses_34 rfl) ?_
    refine gm_go.ru (gm_cV dX10_missedCourses_35 (ct_corrected sN hv h8 (by omega)) rfl mt_X3_corrected mv_X3_corrected (lk_X10_123 rfl) (Or.inl ⟨_, 5, _, _, _, rfl, h1, rfl⟩) rfl (Nat.le_of_ble_eq_true rfl) (by decide)) ?_
    refine gm_go.ru (gi_const dX10_missedCourses_38) ?_
    refine gm_go.ru (gi_ast dX10_missedCourses_39 hq (by omega) (by omega) (by decide)) ?_
    refine gm_hp ha1 ?_
    refine gm_go.ru (gi_iinc (ls' := [_, _, _, _]) dX10_missedCourses_40 rfl (by decide) rfl) ?_
    refine gm_go.ru (gm_goto (tgt := 15) dX10_missedCourses_43 (by decide)) ?_
    exact e1
set_option maxRecDepth 4000 in
theorem ct_missedCourses {h : gm_H} {n : Nat} {v : Nat → Int} {hs ep fc : Int} (hB : h.1[n]? = some (by_c n hs ep fc)) (hS : st_at h (n + 1) v) {i : Int} {R : Nat → Int} (hv : nd_iv v) (hi : zR i) (hR : h.1[n + 107]? = some (gA 360 R)) (hq : 0 ≤ i ∧ i < v 0) : ∃ h' A, gm_co mX10_missedCourses 10 [.ref n, .int (zI i)] h (.inl (some (.int (zI (zMc (zHt v i.toNat 360) 360))))) h' ∧ h'.1[n + 107]? = some (gA 360 A) ∧ gh_fr h h' (fun k => k = n + 107) := by
  obtain ⟨i, rfl⟩ : ∃ k : Nat, i = (k : Int) := ⟨i.toNat, by omega⟩
  have h8 : i < 8 := by have := hv.1; omega
  simp only [Int.toNat_natCast]
  obtain ⟨a1, c1, c2, c3⟩ := ct_fill (z := 0) hR (by decide)
  obtain ⟨h', A', e1, e2, e3⟩ := mc_1 hv h8 360 0 a1 _ rfl (gh_at c3 hB (by omega)) (st_1 c3 (fun k hk => by omega) hS) c2 (fun k hk => by rw [if_pos hk]; rfl)
  refine ⟨h', A', ?_, e2, gh_tr c3 e3⟩
  refine gm_co_of _ (by decide +kernel) rfl (Nat.le_of_ble_eq_true rfl) rfl ?_
  refine gm_go.ru (gm_aload_n dX10_missedCourses_0 rfl (by first | exact Or.inl ⟨_, rfl⟩ | exact Or.inr ⟨_, rfl⟩)) ?_
  refine gm_go.ru (gm_iload_n dX10_missedCourses_1 rfl) ?_
  refine gm_go.ru (gm_cV0 dX10_missedCourses_2 (ct_needNeedle hB hS hv hi hq) rfl mt_X10_needNeedle mv_X10_needNeedle (lk_X10_99 rfl) (Or.inl ⟨_, 11, _, _, _, rfl, hB, rfl⟩) rfl (Nat.le_of_ble_eq_true rfl) (by decide)) ?_
  refine gm_go.ru (gm_aload_n dX10_missedCourses_5 rfl (by first | exact Or.inl ⟨_, rfl⟩ | exact Or.inr ⟨_, rfl⟩)) ?_
  refine gm_go.ru (gm_get dX10_missedCourses_6 (fl_X10_40 rfl) hB rfl) ?_
  refine gm_go.ru (gi_const dX10_missedCourses_9) ?_
  refine gm_go.ru (gm_cS0 dX10_missedCourses_10 (c1) rfl mt_J7_fill_53178 ms_J7_fill_53178 (lk_X10_136 rfl) rfl (Nat.le_of_ble_eq_true rfl) (by decide)) ?_
  refine gm_go.ru (gi_const dX10_missedCourses_13) ?_
  refine gm_go.ru (gm_istore_n (ls' := [_, _, _, _]) dX10_missedCourses_14 (by decide) rfl) ?_
  exact e1
set_option maxRecDepth 4000 in
theorem ct_leastDifference {h : gm_H} {n : Nat} {v : Nat → Int} {hs ep fc : Int} (hB : h.1[n]? = some (by_c n hs ep fc)) (hS : st_at h (n + 1) v) {F A : Nat → Int} (hv : nd_iv v) (hP : pr_at h (n + 102) F A) : ∃ h' F', gm_co mX10_leastDifference 7 [.ref n] h (.inl (some (.int (zI (zD v (zGd v)))))) h' ∧ pr_at h' (n + 102) F' A ∧ gh_fr h h' (fun k => k = n + 103) := by
  obtain ⟨s0, sN, sO⟩ := id hS
  obtain ⟨h1, S, D, h2, h3, nS, nD⟩ := id sN
  obtain ⟨o1, I, M, U, Y, o2, o3, o4, o5, oD⟩ := id sO
  obtain ⟨h', F', e1, e2, e3, e4⟩ := ct_leastBySets sN hv hP (by omega)
  refine ⟨h', F', ?_, e2, e4⟩
  refine gm_co_of _ (by decide +kernel) rfl (Nat.le_of_ble_eq_true rfl) rfl ?_
  refine gm_go.ru (gm_aload_n dX10_leastDifference_0 rfl (by first | exact Or.inl ⟨_, rfl⟩ | exact Or.inr ⟨_, rfl⟩)) ?_
  refine gm_go.ru (gm_get dX10_leastDifference_1 (fl_X10_29 rfl) hB rfl) ?_
  refine gm_go.ru (gm_aload_n dX10_leastDifference_4 rfl (by first | exact Or.inl ⟨_, rfl⟩ | exact Or.inr ⟨_, rfl⟩)) ?_
  refine gm_go.ru (gm_get dX10_leastDifference_5 (fl_X10_10 rfl) hB rfl) ?_
  refine gm_go.ru (gm_get dX10_leastDifference_8 (fl_X10_90 rfl) s0 rfl) ?_
  refine gm_go.ru (gm_cV dX10_leastDifference_11 (e1) rfl mt_X6_leastBySets mv_X6_leastBySets (lk_X10_179 rfl) (Or.inl ⟨_, 8, _, _, _, rfl, hP.1, rfl⟩) rfl (Nat.le_of_ble_eq_true rfl) (by decide)) ?_
  exact gm_iret dX10_leastDifference_14 rfl
set_option maxRecDepth 4000 in
theorem ct_leastDifferenceByOrder {h : gm_H} {n : Nat} {v : Nat → Int} {hs ep fc : Int} (hB : h.1[n]? = some (by_c n hs ep fc)) (hS : st_at h (n + 1) v) {F A : Nat → Int} (hv : nd_iv v) (hP : pr_at h (n + 102) F A) : ∃ h' A', gm_co mX10_leastDifferenceByOrder 8 [.ref n] h (.inl (some (.int (zI (zD v (zGd v)))))) h' ∧ pr_at h' (n + 102) F A' ∧ gh_fr h h' (fun k => k = n + 104) := by
  obtain ⟨s0, sN, sO⟩ := id hS
  obtain ⟨h1, S, D, h2, h3, nS, nD⟩ := id sN
  obtain ⟨o1, I, M, U, Y, o2, o3, o4, o5, oD⟩ := id sO
  obtain ⟨h', B', e1, e2, e4⟩ := ct_leastByStrengths sN hv hP (by omega)
  refine ⟨h', B', ?_, e2, e4⟩
  refine gm_co_of _ (by decide +kernel) rfl (Nat.le_of_ble_eq_true rfl) rfl ?_
  refine gm_go.ru (gm_aload_n dX10_leastDifferenceByOrder_0 rfl (by first | exact Or.inl ⟨_, rfl⟩ | exact Or.inr ⟨_, rfl⟩)) ?_
  refine gm_go.ru (gm_get dX10_leastDifferenceByOrder_1 (fl_X10_29 rfl) hB rfl) ?_
  refine gm_go.ru (gm_aload_n dX10_leastDifferenceByOrder_4 rfl (by first | exact Or.inl ⟨_, rfl⟩ | exact Or.inr ⟨_, rfl⟩)) ?_
  refine gm_go.ru (gm_get dX10_leastDifferenceByOrder_5 (fl_X10_10 rfl) hB rfl) ?_
  refine gm_go.ru (gm_get dX10_leastDifferenceByOrder_8 (fl_X10_90 rfl) s0 rfl) ?_
  refine gm_go.ru (gm_cV dX10_leastDifferenceByOrder_11 (e1) rfl mt_X6_leastByStrengths mv_X6_leastByStrengths (lk_X10_183 rfl) (Or.inl ⟨_, 8, _, _, _, rfl, hP.1, rfl⟩) rfl (Nat.le_of_ble_eq_true rfl) (by decide)) ?_
  exact gm_iret dX10_leastDifferenceByOrder_14 rfl
set_option maxRecDepth 4000 in
theorem ct_partnerOfX {h : gm_H} {n : Nat} {v : Nat → Int} {hs ep fc : Int} (hB : h.1[n]? = some (by_c n hs ep fc)) (hS : st_at h (n + 1) v) {i : Int} (hv : nd_iv v) (hi : zR i) (hq : ¬ (0 ≤ i ∧ i < v 0)) : gm_co mX10_partnerOf 10 [.ref n, .int (zI i)] h (.inr "java/lang/IndexOutOfBoundsException") (zTh h) := by
  refine gm_co_of _ (by decide +kernel) rfl (Nat.le_of_ble_eq_true rfl) rfl ?_
  refine gm_go.ru (gm_aload_n dX10_partnerOf_0 rfl (by first | exact Or.inl ⟨_, rfl⟩ | exact Or.inr ⟨_, rfl⟩)) ?_
  refine gm_go.ru (gm_iload_n dX10_partnerOf_1 rfl) ?_
  exact gm_pV dX10_partnerOf_2 (ct_needNeedleX hB hS hv hi hq) rfl rfl mt_X10_needNeedle mv_X10_needNeedle (lk_X10_99 rfl) (Or.inl ⟨_, 11, _, _, _, rfl, hB, rfl⟩) rfl (Nat.le_of_ble_eq_true rfl) (by decide)
theorem zPt_r {v : Nat → Int} (hv : nd_iv v) (i : Nat) : -1 ≤ zPt v i ∧ zPt v i ≤ 8 := by
  have h0 := hv.1
  have key : ∀ (m j : Nat), j + m ≤ 8 → -1 ≤ zPn v i m j ∧ zPn v i m j ≤ 8 := by
    intro m
    induction m with
    | zero => intro j hj; rw [zPn]; omega
    | succ m ih =>
      intro j hj
      have := ih (j + 1) (by omega)
      rw [zPn]
      split <;> omega
  unfold zPt
  split
  · exact key _ 0 (by omega)
  · omega
set_option maxRecDepth 4000 in
theorem ct_partnerOf {h : gm_H} {n : Nat} {v : Nat → Int} {hs ep fc : Int} (hB : h.1[n]? = some (by_c n hs ep fc)) (hS : st_at h (n + 1) v) {i : Int} {F A : Nat → Int} (hv : nd_iv v) (hi : zR i) (hP : pr_at h (n + 102) F A) (hq : 0 ≤ i ∧ i < v 0) (hz : 0 ≤ zPt v i.toNat) : ∃ h' F', gm_co mX10_partnerOf 10 [.ref n, .int (zI i)] h (.inl (some (.int (zI (zPt v i.toNat))))) h' ∧ pr_at h' (n + 102) F' A ∧ gh_fr h h' (fun k => k = n + 103) := by
  obtain ⟨s0, sN, sO⟩ := id hS
  obtain ⟨h1, S, D, h2, h3, nS, nD⟩ := id sN
  obtain ⟨o1, I, M, U, Y, o2, o3, o4, o5, oD⟩ := id sO
  obtain ⟨i, rfl⟩ : ∃ k : Nat, i = (k : Int) := ⟨i.toNat, by omega⟩
  have h8 : i < 8 := by have := hv.1; omega
  simp only [Int.toNat_natCast] at *
  have p8 := zPt_r hv i
  obtain ⟨h', F', e1, e2, e4⟩ := ct_lowestPartner sN hv hP (by omega) h8
  refine ⟨h', F', ?_, e2, e4⟩
  refine gm_co_of _ (by decide +kernel) rfl (Nat.le_of_ble_eq_true rfl) rfl ?_
  refine gm_go.ru (gm_aload_n dX10_partnerOf_0 rfl (by first | exact Or.inl ⟨_, rfl⟩ | exact Or.inr ⟨_, rfl⟩)) ?_
  refine gm_go.ru (gm_iload_n dX10_partnerOf_1 rfl) ?_
  refine gm_go.ru (gm_cV0 dX10_partnerOf_2 (ct_needNeedle hB hS hv hi hq) rfl mt_X10_needNeedle mv_X10_needNeedle (lk_X10_99 rfl) (Or.inl ⟨_, 11, _, _, _, rfl, hB, rfl⟩) rfl (Nat.le_of_ble_eq_true rfl) (by decide)) ?_
  refine gm_go.ru (gm_aload_n dX10_partnerOf_5 rfl (by first | exact Or.inl ⟨_, rfl⟩ | exact Or.inr ⟨_, rfl⟩)) ?_
  refine gm_go.ru (gm_get dX10_partnerOf_6 (fl_X10_29 rfl) hB rfl) ?_
  refine gm_go.ru (gm_aload_n dX10_partnerOf_9 rfl (by first | exact Or.inl ⟨_, rfl⟩ | exact Or.inr ⟨_, rfl⟩)) ?_
  refine gm_go.ru (gm_get dX10_partnerOf_10 (fl_X10_10 rfl) hB rfl) ?_
  refine gm_go.ru (gm_get dX10_partnerOf_13 (fl_X10_90 rfl) s0 rfl) ?_
  refine gm_go.ru (gm_iload_n dX10_partnerOf_16 rfl) ?_
  refine gm_go.ru (gm_cV dX10_partnerOf_17 (e1) rfl mt_X6_lowestPartner mv_X6_lowestPartner (lk_X10_186 rfl) (Or.inl ⟨_, 8, _, _, _, rfl, hP.1, rfl⟩) rfl (Nat.le_of_ble_eq_true rfl) (by decide)) ?_
  refine gm_go.ru (gm_istore_n (ls' := [_, _, _]) dX10_partnerOf_20 (by decide) rfl) ?_
  refine gm_go.ru (gm_iload_n dX10_partnerOf_21 rfl) ?_
  refine gm_go.ru (gi_if_ge_t (tgt := 35) dX10_partnerOf_22 (by decide) (by omega) (by omega)) ?_
  refine gm_go.ru (gm_iload_n dX10_partnerOf_35 rfl) ?_
  exact gm_iret dX10_partnerOf_36 rfl
set_option maxRecDepth 4000 in
theorem ct_partnerOfY {h : gm_H} {n : Nat} {v : Nat → Int} {hs ep fc : Int} (hB : h.1[n]? = some (by_c n hs ep fc)) (hS : st_at h (n + 1) v) {i : Int} {F A : Nat → Int} (hv : nd_iv v) (hi : zR i) (hP : pr_at h (n + 102) F A) (hq : 0 ≤ i ∧ i < v 0) (hz : zPt v i.toNat < 0) : ∃ h' F', gm_co mX10_partnerOf 10 [.ref n, .int (zI i)] h (.inr "java/util/NoSuchElementException") (zTh h') ∧ pr_at h' (n + 102) F' A ∧ gh_fr h h' (fun k => k = n + 103) := by
  obtain ⟨s0, sN, sO⟩ := id hS
  obtain ⟨h1, S, D, h2, h3, nS, nD⟩ := id sN
  obtain ⟨o1, I, M, U, Y, o2, o3, o4, o5, oD⟩ := id sO
  obtain ⟨i, rfl⟩ : ∃ k : Nat, i = (k : Int) := ⟨i.toNat, by omega⟩
  have h8 : i < 8 := by have := hv.1; omega
  simp only [Int.toNat_natCast] at *
  have p8 := zPt_r hv i
  obtain ⟨h', F', e1, e2, e4⟩ := ct_lowestPartner sN hv hP (by omega) h8
  refine ⟨h', F', ?_, e2, e4⟩
  refine gm_co_of _ (by decide +kernel) rfl (Nat.le_of_ble_eq_true rfl) rfl ?_
  refine gm_go.ru (gm_aload_n dX10_partnerOf_0 rfl (by first | exact Or.inl ⟨_, rfl⟩ | exact Or.inr ⟨_, rfl⟩)) ?_
  refine gm_go.ru (gm_iload_n dX10_partnerOf_1 rfl) ?_
  refine gm_go.ru (gm_cV0 dX10_partnerOf_2 (ct_needNeedle hB hS hv hi hq) rfl mt_X10_needNeedle mv_X10_needNeedle (lk_X10_99 rfl) (Or.inl ⟨_, 11, _, _, _, rfl, hB, rfl⟩) rfl (Nat.le_of_ble_eq_true rfl) (by decide)) ?_
  refine gm_go.ru (gm_aload_n dX10_partnerOf_5 rfl (by first | exact Or.inl ⟨_, rfl⟩ | exact Or.inr ⟨_, rfl⟩)) ?_
  refine gm_go.ru (gm_get dX10_partnerOf_6 (fl_X10_29 rfl) hB rfl) ?_
  refine gm_go.ru (gm_aload_n dX10_partnerOf_9 rfl (by first | exact Or.inl ⟨_, rfl⟩ | exact Or.inr ⟨_, rfl⟩)) ?_
  refine gm_go.ru (gm_get dX10_partnerOf_10 (fl_X10_10 rfl) hB rfl) ?_
  refine gm_go.ru (gm_get dX10_partnerOf_13 (fl_X10_90 rfl) s0 rfl) ?_
  refine gm_go.ru (gm_iload_n dX10_partnerOf_16 rfl) ?_
  refine gm_go.ru (gm_cV dX10_partnerOf_17 (e1) rfl mt_X6_lowestPartner mv_X6_lowestPartner (lk_X10_186 rfl) (Or.inl ⟨_, 8, _, _, _, rfl, hP.1, rfl⟩) rfl (Nat.le_of_ble_eq_true rfl) (by decide)) ?_
  refine gm_go.ru (gm_istore_n (ls' := [_, _, _]) dX10_partnerOf_20 (by decide) rfl) ?_
  refine gm_go.ru (gm_iload_n dX10_partnerOf_21 rfl) ?_
  refine gm_go.ru (gi_if_ge_f 35 dX10_partnerOf_22 (by decide) (by omega) (by omega)) ?_
  exact gm_throwX (tf_X10_154_190 rfl) rfl dX10_partnerOf_25 dX10_partnerOf_28 dX10_partnerOf_29 dX10_partnerOf_31 dX10_partnerOf_34 (Nat.le_of_ble_eq_true rfl) (by decide) (by decide)
set_option maxRecDepth 4000 in
theorem ct_leastLateness {h : gm_H} {n : Nat} {v : Nat → Int} {hs ep fc : Int} (hB : h.1[n]? = some (by_c n hs ep fc)) (hS : st_at h (n + 1) v) {T : Nat} {F : Nat → Int} (hv : ov_iv T v) (hO : or_at h (n + 105) F) : ∃ h' F', gm_co mX10_leastLateness 5 [.ref n] h (.inl (some (.int (zI (zL' v (zAl v)))))) h' ∧ or_at h' (n + 105) F' ∧ gh_fr h h' (fun k => k = n + 106) := by
  obtain ⟨s0, sN, sO⟩ := id hS
  obtain ⟨h1, S, D, h2, h3, nS, nD⟩ := id sN
  obtain ⟨o1, I, M, U, Y, o2, o3, o4, o5, oD⟩ := id sO
  obtain ⟨h', F', e1, e2, e3, e4⟩ := ct_orLeastBySets sO hv hO (by omega)
  refine ⟨h', F', ?_, e2, e4⟩
  refine gm_co_of _ (by decide +kernel) rfl (Nat.le_of_ble_eq_true rfl) rfl ?_
  refine gm_go.ru (gm_aload_n dX10_leastLateness_0 rfl (by first | exact Or.inl ⟨_, rfl⟩ | exact Or.inr ⟨_, rfl⟩)) ?_
  refine gm_go.ru (gm_get dX10_leastLateness_1 (fl_X10_36 rfl) hB rfl) ?_
  refine gm_go.ru (gm_aload_n dX10_leastLateness_4 rfl (by first | exact Or.inl ⟨_, rfl⟩ | exact Or.inr ⟨_, rfl⟩)) ?_
  refine gm_go.ru (gm_get dX10_leastLateness_5 (fl_X10_10 rfl) hB rfl) ?_
  refine gm_go.ru (gm_get dX10_leastLateness_8 (fl_X10_204 rfl) s0 rfl) ?_
  refine gm_go.ru (gm_cV dX10_leastLateness_11 (e1) rfl mt_X4_leastBySets mv_X4_leastBySets (lk_X10_230 rfl) (Or.inl ⟨_, 6, _, _, _, rfl, hO.1, rfl⟩) rfl (Nat.le_of_ble_eq_true rfl) (by decide)) ?_
  exact gm_iret dX10_leastLateness_14 rfl
theorem zBf_r (v : Nat → Int) : ∀ (m j : Nat), zBf v m j = -1 ∨ (0 ≤ zBf v m j ∧ zBf v m j < j + m)
  | 0, j => Or.inl rfl
  | m + 1, j => by
    have := zBf_r v m (j + 1)
    rw [zBf]
    split <;> omega
set_option maxRecDepth 4000 in
theorem ct_bestFirst {h : gm_H} {n : Nat} {v : Nat → Int} {hs ep fc : Int} (hB : h.1[n]? = some (by_c n hs ep fc)) (hS : st_at h (n + 1) v) {T : Nat} {F : Nat → Int} (hv : ov_iv T v) (hO : or_at h (n + 105) F) (hq : 0 ≤ zBf v (v 4).toNat 0) : ∃ h' F', gm_co mX10_bestFirst 10 [.ref n] h (.inl (some (.int (zI (v (90 + 4 * (zBf v (v 4).toNat 0).toNat)))))) h' ∧ or_at h' (n + 105) F' ∧ gh_fr h h' (fun k => k = n + 106) := by
  obtain ⟨s0, sN, sO⟩ := id hS
  obtain ⟨h1, S, D, h2, h3, nS, nD⟩ := id sN
  obtain ⟨o1, I, M, U, Y, o2, o3, o4, o5, oD⟩ := id sO
  have v4 := hv.2.2.1
  have p8 := zBf_r v (v 4).toNat 0
  obtain ⟨h', F', e1, e2, e4⟩ := ct_bestFirstPlace sO hv hO (by omega)
  have B2 := gh_at e4 hB (by omega)
  have S2 := st_1 e4 (fun k hk => by omega) hS
  obtain ⟨t0, tN, tO⟩ := id S2
  obtain ⟨q1, qI, qM, qU, qY, q2, q3, q4, q5, qD⟩ := id tO
  refine ⟨h', F', ?_, e2, e4⟩
  obtain ⟨k, hk⟩ : ∃ k : Nat, zBf v (v 4).toNat 0 = (k : Int) := ⟨(zBf v (v 4).toNat 0).toNat, by omega⟩
  rw [hk] at e1 p8 ⊢
  rw [Int.toNat_natCast, ← (qD k (by omega)).1]
  refine gm_co_of _ (by decide +kernel) rfl (Nat.le_of_ble_eq_true rfl) rfl ?_
  refine gm_go.ru (gm_aload_n dX10_bestFirst_0 rfl (by first | exact Or.inl ⟨_, rfl⟩ | exact Or.inr ⟨_, rfl⟩)) ?_
  refine gm_go.ru (gm_get dX10_bestFirst_1 (fl_X10_36 rfl) hB rfl) ?_
  refine gm_go.ru (gm_aload_n dX10_bestFirst_4 rfl (by first | exact Or.inl ⟨_, rfl⟩ | exact Or.inr ⟨_, rfl⟩)) ?_
  refine gm_go.ru (gm_get dX10_bestFirst_5 (fl_X10_10 rfl) hB rfl) ?_
  refine gm_go.ru (gm_get dX10_bestFirst_8 (fl_X10_204 rfl) s0 rfl) ?_
  refine gm_go.ru (gm_cV dX10_bestFirst_11 (e1) rfl mt_X4_bestFirstPlace mv_X4_bestFirstPlace (lk_X10_236 rfl) (Or.inl ⟨_, 6, _, _, _, rfl, hO.1, rfl⟩) rfl (Nat.le_of_ble_eq_true rfl) (by decide)) ?_
  refine gm_go.ru (gm_istore_n (ls' := [_, _]) dX10_bestFirst_14 (by decide) rfl) ?_
  refine gm_go.ru (gm_iload_n dX10_bestFirst_15 rfl) ?_
  refine gm_go.ru (gi_if_ge_t (tgt := 29) dX10_bestFirst_16 (by decide) (by omega) (by omega)) ?_
  refine gm_go.ru (gm_aload_n dX10_bestFirst_29 rfl (by first | exact Or.inl ⟨_, rfl⟩ | exact Or.inr ⟨_, rfl⟩)) ?_
  refine gm_go.ru (gm_get dX10_bestFirst_30 (fl_X10_10 rfl) B2 rfl) ?_
  refine gm_go.ru (gm_get dX10_bestFirst_33 (fl_X10_204 rfl) t0 rfl) ?_
  refine gm_go.ru (gm_get dX10_bestFirst_36 (fl_X10_219 rfl) q1 rfl) ?_
  refine gm_go.ru (gm_iload_n dX10_bestFirst_39 rfl) ?_
  refine gm_go.ru (gi_ald dX10_bestFirst_40 q2 (by omega) (by omega) (by decide)) ?_
  exact gm_iret dX10_bestFirst_41 rfl
set_option maxRecDepth 4000 in
theorem ct_bestFirstX {h : gm_H} {n : Nat} {v : Nat → Int} {hs ep fc : Int} (hB : h.1[n]? = some (by_c n hs ep fc)) (hS : st_at h (n + 1) v) {T : Nat} {F : Nat → Int} (hv : ov_iv T v) (hO : or_at h (n + 105) F) (hq : zBf v (v 4).toNat 0 < 0) : ∃ h' F', gm_co mX10_bestFirst 10 [.ref n] h (.inr "java/util/NoSuchElementException") (zTh h') ∧ or_at h' (n + 105) F' ∧ gh_fr h h' (fun k => k = n + 106) := by
  obtain ⟨s0, sN, sO⟩ := id hS
  obtain ⟨h1, S, D, h2, h3, nS, nD⟩ := id sN
  obtain ⟨o1, I, M, U, Y, o2, o3, o4, o5, oD⟩ := id sO
  have v4 := hv.2.2.1
  have p8 := zBf_r v (v 4).toNat 0
  obtain ⟨h', F', e1, e2, e4⟩ := ct_bestFirstPlace sO hv hO (by omega)
  have B2 := gh_at e4 hB (by omega)
  have S2 := st_1 e4 (fun k hk => by omega) hS
  obtain ⟨t0, tN, tO⟩ := id S2
  obtain ⟨q1, qI, qM, qU, qY, q2, q3, q4, q5, qD⟩ := id tO
  refine ⟨h', F', ?_, e2, e4⟩
  refine gm_co_of _ (by decide +kernel) rfl (Nat.le_of_ble_eq_true rfl) rfl ?_
  refine gm_go.ru (gm_aload_n dX10_bestFirst_0 rfl (by first | exact Or.inl ⟨_, rfl⟩ | exact Or.inr ⟨_, rfl⟩)) ?_
  refine gm_go.ru (gm_get dX10_bestFirst_1 (fl_X10_36 rfl) hB rfl) ?_
  refine gm_go.ru (gm_aload_n dX10_bestFirst_4 rfl (by first | exact Or.inl ⟨_, rfl⟩ | exact Or.inr ⟨_, rfl⟩)) ?_
  refine gm_go.ru (gm_get dX10_bestFirst_5 (fl_X10_10 rfl) hB rfl) ?_
  refine gm_go.ru (gm_get dX10_bestFirst_8 (fl_X10_204 rfl) s0 rfl) ?_
  refine gm_go.ru (gm_cV dX10_bestFirst_11 (e1) rfl mt_X4_bestFirstPlace mv_X4_bestFirstPlace (lk_X10_236 rfl) (Or.inl ⟨_, 6, _, _, _, rfl, hO.1, rfl⟩) rfl (Nat.le_of_ble_eq_true rfl) (by decide)) ?_
  refine gm_go.ru (gm_istore_n (ls' := [_, _]) dX10_bestFirst_14 (by decide) rfl) ?_
  refine gm_go.ru (gm_iload_n dX10_bestFirst_15 rfl) ?_
  refine gm_go.ru (gi_if_ge_f 29 dX10_bestFirst_16 (by decide) (by omega) (by omega)) ?_
  exact gm_throwX (tf_X10_154_239 rfl) rfl dX10_bestFirst_19 dX10_bestFirst_22 dX10_bestFirst_23 dX10_bestFirst_25 dX10_bestFirst_28 (Nat.le_of_ble_eq_true rfl) (by decide) (by decide)
