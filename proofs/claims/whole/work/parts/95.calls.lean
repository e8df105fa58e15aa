set_option maxRecDepth 4000 in
theorem lo_undo {h : gm_H} {n J R : Nat} (I : LI h n J R) (hJ : J < 600) : ∃ h2 k y, LH h h2 n mL_undo [.ref n, .ref (n + 126)] mX11_undo [.ref (n + 113)] k (.int (zI y)) ∧ zR y ∧ (k = 0 → ∃ g, h2.1[n + 126]? = some (gLo g) ∧ g 0 = zL y) ∧ LI h2 n (J + 1) (R + 1) := by
  obtain ⟨K, F, S, P, X, Ln, c, L, g, T, hM, hB, hO, hN, hT⟩ := I
  have hv := hN.2.2.2.2.2.2.2.2.2.1
  obtain ⟨n1, n2, n3, n4, n5, n6, n7, n8, n9, n10, n11, n12⟩ := id hN
  rcases c with _ | c
  ·
    have c1 := lx_undo_1 (o := n + 126) hB.1 (by decide) (ct_undoX hB.1 hB.2.2.2.1)
    have M1 : LM (zTh h) (n + 113) _ _ _ _ _ _ := hM
    have B1 := lb_th hB
    have O1 : LO (zTh h) n := hO
    obtain ⟨h2, d1, d2, d3⟩ := ct_m_undoX M1.1 (by omega)
    exact ⟨h2, 1, _, ⟨_, _, _, _, _, by decide, by decide, c1, M1.1, d1, d2, rfl, (by omega)⟩, zR_0, fun z => absurd z (by omega), li_q M1 B1 O1 hN hT d2 d3⟩
  ·
    obtain ⟨h', q1, q2, q3, q5⟩ := ct_undo hB.1 hB.2.1 hB.2.2.2.1
    have M' := lm_fr hM q5 (fun k a b z => by simp only [st_K, hi_K, pg_K, ex_K] at z; omega)
    have O' := lo_fr hO q5 (by intro z; simp only [st_K, hi_K, pg_K, ex_K] at z; omega) (by intro z; simp only [st_K, hi_K, pg_K, ex_K] at z; omega)
    have B' := lb_mod hB q3 q2 (gh_mono q5 (fun k z => z.elim (fun y => Or.inr (by unfold hi_K; omega)) Or.inl))
    obtain ⟨f0, hf0⟩ := O'.1
    obtain ⟨g1, c1, c2⟩ := lh_undo hB.1 (by decide) (nz_r _) (nzc q1) hf0
    have M1 := lm_set (k := n + 126) (Or.inl rfl) (gLo g1) M'
    have B1 := lb_up (lb_set (k := n + 126) (Or.inl rfl) (gLo g1) B')
    have O1 := lo_set (f := g1) O'
    have e1 := gs_s (c' := gLo g1) hf0
    obtain ⟨h2, F', d1, d2, d3, d4, d5⟩ := ct_m_undo M1.1 M1.2.1 M1.2.2.2.2.1 (by omega) n1
    exact ⟨h2, 0, _, ⟨_, _, _, _, _, by decide, by decide, c1, M1.1, nzc d1, d2, rfl, zR_0⟩, nz_r _, fun _ => ⟨g1, gh_at d5 e1 (by omega), c2⟩, li_of (lm_q1 M1 d2 d3 d5) (lb_fr B1 d5 (fun k a y => by omega)) (lo_fr O1 d5 (by omega) (by omega)) (c := c) (T := T) ⟨rfl, by omega, n3, n4, n5, n6, n7, n8, n9, n12 c (by omega), n11, fun i hi => n12 i (by omega)⟩ rfl rfl rfl d4 (fun _ _ _ => rfl) (fun _ _ _ _ => rfl) (by omega)⟩
set_option maxRecDepth 4000 in
theorem lo_save {h : gm_H} {n J R : Nat} (I : LI h n J R) (hJ : J < 600) : ∃ h2 b, zR b ∧ LQ h h2 n mX10_save mX11_save (.int (zI b)) ∧ LI h2 n (J + 1) (R + 1) := by
  obtain ⟨K, F, S, P, X, Ln, c, L, g, T, hM, hB, hO, hN, hT⟩ := I
  have hv := hN.2.2.2.2.2.2.2.2.2.1
  obtain ⟨n1, n2, n3, n4, n5, n6, n7, n8, n9, n10, n11, n12⟩ := id hN
  obtain ⟨u, hU, -⟩ := hB.2.2.1
  obtain ⟨h', q1, q2, q3, q4, q5⟩ := ct_save hB.1 hB.2.1 hU hv.2.2.2.1.2
  have M' := lm_fr hM q5 (fun k a b z => by simp only [st_K, hi_K, pg_K, ex_K] at z; omega)
  have O' := lo_fr hO q5 (by intro z; simp only [st_K, hi_K, pg_K, ex_K] at z; omega) (by intro z; simp only [st_K, hi_K, pg_K, ex_K] at z; omega)
  have B1 := lb_up (lb_sav hB q2 q3 q4 q5)
  obtain ⟨h2, S', d1, d2, d3, d4, d5⟩ := ct_m_save M'.1 M'.2.1 M'.2.2.2.1
  exact ⟨h2, _, nz_r _, ⟨_, _, _, _, _, _, _, by decide, by decide, hB.1, nzc q1, M'.1, nzc d1⟩, li_of (lm_q3 M' d2 d3 d5) (lb_fr B1 d5 (fun k a y => by omega)) (lo_fr O' d5 (by omega) (by omega)) (T := T) ⟨n1, n2, Or.inr rfl, n4, n5, n6, n7, n8, n9, n10, fun _ => n10, n12⟩ rfl rfl rfl (fun _ _ => rfl) (fun _ => d4) (fun _ _ _ _ => rfl) (by omega)⟩
set_option maxRecDepth 4000 in
theorem lo_restore {h : gm_H} {n J R : Nat} (I : LI h n J R) (hJ : J < 600) : ∃ h2 k y, LH h h2 n mL_restore [.ref n, .ref (n + 126)] mX11_restore [.ref (n + 113)] k (.int (zI y)) ∧ zR y ∧ (k = 0 → ∃ g, h2.1[n + 126]? = some (gLo g) ∧ g 0 = zL y) ∧ LI h2 n (J + 1) (R + 1) := by
  obtain ⟨K, F, S, P, X, Ln, c, L, g, T, hM, hB, hO, hN, hT⟩ := I
  have hv := hN.2.2.2.2.2.2.2.2.2.1
  obtain ⟨n1, n2, n3, n4, n5, n6, n7, n8, n9, n10, n11, n12⟩ := id hN
  have b1 := hB.1
  rcases n3 with z | z
  ·
    rw [z] at b1
    have c1 := lx_restore_1 (o := n + 126) hB.1 (by decide) (ct_restoreX b1)
    have M1 : LM (zTh h) (n + 113) _ _ _ _ _ _ := hM
    have B1 := lb_th hB
    have O1 : LO (zTh h) n := hO
    obtain ⟨h2, d1, d2, d3⟩ := ct_m_restoreX M1.1 z
    exact ⟨h2, 1, _, ⟨_, _, _, _, _, by decide, by decide, c1, M1.1, d1, d2, rfl, (by omega)⟩, zR_0, fun z => absurd z (by omega), li_q M1 B1 O1 hN hT d2 d3⟩
  ·
    rw [z] at b1
    obtain ⟨u, hU, hu⟩ := hB.2.2.1
    have hu := hu z
    subst hu
    obtain ⟨h', q1, q2, q3, q5⟩ := ct_restore b1 hB.2.1 hU (n11 z).2.2.2.1.2 hB.2.2.2.1
    have M' := lm_fr hM q5 (fun k a b z => by simp only [st_K, hi_K, pg_K, ex_K] at z; omega)
    have O' := lo_fr hO q5 (by intro z; simp only [st_K, hi_K, pg_K, ex_K] at z; omega) (by intro z; simp only [st_K, hi_K, pg_K, ex_K] at z; omega)
    have B' := lb_mod hB q2 q3 (gh_mono q5 (fun k z => z.elim Or.inl (fun y => Or.inr (by unfold hi_K; omega))))
    obtain ⟨f0, hf0⟩ := O'.1
    obtain ⟨g1, c1, c2⟩ := lh_restore hB.1 (by decide) (nz_r _) (nzc q1) hf0
    have M1 := lm_set (k := n + 126) (Or.inl rfl) (gLo g1) M'
    have B1 := lb_up (lb_set (k := n + 126) (Or.inl rfl) (gLo g1) B')
    have O1 := lo_set (f := g1) O'
    have e1 := gs_s (c' := gLo g1) hf0
    obtain ⟨h2, F', d1, d2, d3, d4, d5⟩ := ct_m_restore M1.1 M1.2.1 M1.2.2.2.1 z
    exact ⟨h2, 0, _, ⟨_, _, _, _, _, by decide, by decide, c1, M1.1, nzc d1, d2, rfl, zR_0⟩, nz_r _, fun _ => ⟨g1, gh_at d5 e1 (by omega), c2⟩, li_of (lm_q1 M1 d2 d3 d5) (lb_fr B1 d5 (fun k a y => by omega)) (lo_fr O1 d5 (by omega) (by omega)) (c := 0) (T := T) ⟨rfl, by omega, Or.inr z, n4, n5, n6, n7, n8, n9, n11 z, n11, fun i hi => absurd hi (by omega)⟩ rfl rfl rfl d4 (fun _ _ _ => rfl) (fun i hi => absurd hi (by omega)) (by omega)⟩
set_option maxRecDepth 4000 in
theorem lo_type {h : gm_H} {n J R : Nat} (I : LI h n J R) (hJ : J < 600) {a : Int} (ha : zR a) : ∃ h2 k y, LH h h2 n mL_type [.ref n, .int (zI a), .ref (n + 126)] mX11_type [.ref (n + 113), .int (zI a)] k (.int (zI y)) ∧ zR y ∧ (k = 0 → ∃ g, h2.1[n + 126]? = some (gLo g) ∧ g 0 = zL y) ∧ LI h2 n (J + 1) (R + 1) := by
  obtain ⟨K, F, S, P, X, Ln, c, L, g, T, hM, hB, hO, hN, hT⟩ := I
  have hv := hN.2.2.2.2.2.2.2.2.2.1
  obtain ⟨n1, n2, n3, n4, n5, n6, n7, n8, n9, n10, n11, n12⟩ := id hN
  obtain ⟨p, w, N, k, hP⟩ := hB.2.2.2.2.2.2.2.1
  by_cases hq : a < 32 ∨ 126 < a
  ·
    have c1 := lx_type_1 (o := n + 126) hB.1 (by decide) (ct_typeX (h := h) (n := n) ha hq)
    have M1 : LM (zTh h) (n + 113) _ _ _ _ _ _ := hM
    have B1 := lb_th hB
    have O1 : LO (zTh h) n := hO
    obtain ⟨h2, d1, d2, d3⟩ := ct_m_typeX M1.1 M1.2.2.2.2.2.2.2.2.2.1 n6 n7.1 ha (by omega)
    exact ⟨h2, 1, _, ⟨_, _, _, _, _, by decide, by decide, c1, M1.1, d1, d2, rfl, (by omega)⟩, zR_0, fun z => absurd z (by omega), li_q M1 B1 O1 hN hT d2 d3⟩
  ·
    by_cases hl : L < 60
    ·
      obtain ⟨h', q1, q2, q3⟩ := ct_type hB.1 hP ha hq hl
      have M' := lm_fr hM q3 (fun k a b z => by simp only [st_K, hi_K, pg_K, ex_K] at z; omega)
      have O' := lo_fr hO q3 (by intro z; simp only [st_K, hi_K, pg_K, ex_K] at z; omega) (by intro z; simp only [st_K, hi_K, pg_K, ex_K] at z; omega)
      have B' := lb_typ hB q2 q3
      have n7' : zTx (zU X L a) (L + 1) := ⟨by omega, fun i hi => by
        show 32 ≤ (if i = L then a else X i) ∧ (if i = L then a else X i) ≤ 126
        by_cases z : i = L
        · rw [if_pos z]; omega
        · rw [if_neg z]; exact n7.2 i (by omega)⟩
      obtain ⟨f0, hf0⟩ := O'.1
      obtain ⟨g1, c1, c2⟩ := lh_type hB.1 (by decide) (nz_r _) (nzc q1) hf0
      have M1 := lm_set (k := n + 126) (Or.inl rfl) (gLo g1) M'
      have B1 := lb_up (lb_set (k := n + 126) (Or.inl rfl) (gLo g1) B')
      have O1 := lo_set (f := g1) O'
      have e1 := gs_s (c' := gLo g1) hf0
      obtain ⟨h2, d1, d2, d3, d4⟩ := ct_m_type M1.1 M1.2.2.2.2.2.2.2.2.2.1 n6 n7.1 ha (by omega) hl
      exact ⟨h2, 0, _, ⟨_, _, _, _, _, by decide, by decide, c1, M1.1, nzc d1, d2, rfl, zR_0⟩, nz_r _, fun _ => ⟨g1, gh_at d4 e1 (by omega), c2⟩, li_of (lm_q8 M1 d2 d3 d4) (lb_fr B1 d4 (fun k a y => by omega)) (lo_fr O1 d4 (by omega) (by omega)) (L := L + 1) (T := T) ⟨n1, n2, n3, n4, n5, rfl, n7', n8, n9, n10, n11, n12⟩ rfl rfl rfl (fun _ _ => rfl) (fun _ _ _ => rfl) (fun _ _ _ _ => rfl) (by omega)⟩
    ·
      have c1 := lx_type_2 (o := n + 126) hB.1 (by decide) (ct_typeY hB.1 hP ha hq (by omega))
      have M1 : LM (zTh h) (n + 113) _ _ _ _ _ _ := hM
      have B1 := lb_th hB
      have O1 : LO (zTh h) n := hO
      obtain ⟨h2, d1, d2, d3⟩ := ct_m_typeY M1.1 M1.2.2.2.2.2.2.2.2.2.1 n6 n7.1 ha (by omega) (by have := n7.1; omega)
      exact ⟨h2, 2, _, ⟨_, _, _, _, _, by decide, by decide, c1, M1.1, d1, d2, rfl, (by omega)⟩, zR_0, fun z => absurd z (by omega), li_q M1 B1 O1 hN hT d2 d3⟩
set_option maxRecDepth 4000 in
theorem lo_labelAt {h : gm_H} {n J R : Nat} (I : LI h n J R) (hJ : J < 600) {a : Int} (ha : zR a) : ∃ h2 k y, LH h h2 n mL_labelAt [.ref n, .int (zI a), .ref (n + 126)] mX11_labelAt [.ref (n + 113), .int (zI a)] k (.int (zI y)) ∧ zR y ∧ (k = 0 → ∃ g, h2.1[n + 126]? = some (gLo g) ∧ g 0 = zL y) ∧ LI h2 n (J + 1) (R + 1) := by
  obtain ⟨K, F, S, P, X, Ln, c, L, g, T, hM, hB, hO, hN, hT⟩ := I
  have hv := hN.2.2.2.2.2.2.2.2.2.1
  obtain ⟨n1, n2, n3, n4, n5, n6, n7, n8, n9, n10, n11, n12⟩ := id hN
  obtain ⟨q, s1, -⟩ := hB.2.2.2.2.2.2.2.2
  have hx : ∀ k, k < g → 0 ≤ Ln k ∧ Ln k < 128 := by
    obtain ⟨-, -, -, ml, F0, -, -, e6, e7⟩ := id s1
    exact fun k hk => by rw [← e6 k hk]; exact e7 k
  by_cases hq : 0 ≤ a ∧ a < g
  ·
    obtain ⟨f0, hf0⟩ := hO.1
    obtain ⟨g1, c1, c2⟩ := lh_labelAt hB.1 (by decide) (nz_r _) (nzc (ct_labelAt hB.1 s1 n9 ha hq)) hf0
    have M1 := lm_set (k := n + 126) (Or.inl rfl) (gLo g1) hM
    have B1 := lb_up (lb_set (k := n + 126) (Or.inl rfl) (gLo g1) hB)
    have O1 := lo_set (f := g1) hO
    have e1 := gs_s (c' := gLo g1) hf0
    obtain ⟨h2, d1, d2, d3⟩ := ct_m_labelAt M1.1 M1.2.2.2.2.2.2.2.2.1 n8 n9 ha hx hq
    exact ⟨h2, 0, _, ⟨_, _, _, _, _, by decide, by decide, c1, M1.1, nzc d1, d2, rfl, zR_0⟩, nz_r _, fun _ => ⟨g1, gh_at d3 e1 (by omega), c2⟩, li_q M1 B1 O1 hN hT d2 d3⟩
  ·
    have c1 := lx_labelAt_1 (o := n + 126) hB.1 (by decide) (ct_labelAtX hB.1 s1 n9 ha hq)
    have M1 : LM (zTh h) (n + 113) _ _ _ _ _ _ := hM
    have B1 := lb_th hB
    have O1 : LO (zTh h) n := hO
    obtain ⟨h2, d1, d2, d3⟩ := ct_m_labelAtX M1.1 M1.2.2.2.2.2.2.2.2.1 n8 n9 ha hq
    exact ⟨h2, 1, _, ⟨_, _, _, _, _, by decide, by decide, c1, M1.1, d1, d2, rfl, (by omega)⟩, (by omega), fun z => absurd z (by omega), li_q M1 B1 O1 hN hT d2 d3⟩
set_option maxRecDepth 4000 in
theorem lo_writeLabel {h : gm_H} {n J R : Nat} (I : LI h n J R) (hJ : J < 600) {a : Int} (ha : zR a) : ∃ h2 k y, LH h h2 n mL_writeLabel [.ref n, .int (zI a), .ref (n + 126)] mX11_writeLabel [.ref (n + 113), .int (zI a)] k (.int (zI y)) ∧ zR y ∧ (k = 0 → ∃ g, h2.1[n + 126]? = some (gLo g) ∧ g 0 = zL y) ∧ LI h2 n (J + 1) (R + 1) := by
  obtain ⟨K, F, S, P, X, Ln, c, L, g, T, hM, hB, hO, hN, hT⟩ := I
  have hv := hN.2.2.2.2.2.2.2.2.2.1
  obtain ⟨n1, n2, n3, n4, n5, n6, n7, n8, n9, n10, n11, n12⟩ := id hN
  obtain ⟨q, s1, s2, s3, s4⟩ := id hB.2.2.2.2.2.2.2.2
  by_cases hq : 0 ≤ a ∧ a < F 0
  ·
    obtain ⟨h', q', q1, q2, q3⟩ := ct_writeLabel hB.1 hB.2.1 hv.1 ha s1 (by omega) hq
    have hl := hO.2.2
    have B' := lb_lab hB s2 hl s3 s4 q2 q3
    have M' := lm_mv (fun k a b => q3.2.2.1 k (by omega) (by omega) (by omega)) hM
    have O' : LO h' n := ⟨hO.1.imp fun _ y => (q3.2.2.1 _ (by omega) (by omega) (by omega)).trans y, hO.2.1.imp fun _ y => (q3.2.2.1 _ (by omega) (by omega) (by omega)).trans y, Nat.le_trans hl q3.1⟩
    obtain ⟨f0, hf0⟩ := O'.1
    obtain ⟨g1, c1, c2⟩ := lhg_writeLabel hB.1 (by decide) (nz_r _) (nzc q1) hf0
    have M1 := lm_set (k := n + 126) (Or.inl rfl) (gLo g1) M'
    have B1 := lb_up (lb_set (k := n + 126) (Or.inl rfl) (gLo g1) B')
    have O1 := lo_set (f := g1) O'
    have e1 := gs_s (c' := gLo g1) hf0
    obtain ⟨h2, d1, d2, d3, d4⟩ := ct_m_writeLabel M1.1 M1.2.1 hv.1 ha M1.2.2.2.2.2.2.2.2.1 hq
    exact ⟨h2, 0, _, ⟨_, _, _, _, _, by decide, by decide, c1, M1.1, nzc d1, d2, rfl, zR_0⟩, nz_r _, fun _ => ⟨g1, gh_at d4 e1 (by omega), c2⟩, li_of (lm_q9 M1 d2 d3 d4) (lb_fr B1 d4 (fun k a y => by omega)) (lo_fr O1 d4 (by omega) (by omega)) (g := (zLz F a.toNat Ln).1) (T := T) ⟨n1, n2, n3, n4, n5, n6, n7, rfl, Nat.le_trans (zLz_le F a.toNat Ln) (by omega), n10, n11, n12⟩ rfl rfl rfl (fun _ _ => rfl) (fun _ _ _ => rfl) (fun _ _ _ _ => rfl) (by omega)⟩
  ·
    have c1 := lxg_writeLabel_1 (o := n + 126) hB.1 (by decide) (ct_writeLabelX hB.1 hB.2.1 hv.1 ha hq)
    have M1 : LM (zTh h) (n + 113) _ _ _ _ _ _ := hM
    have B1 := lb_th hB
    have O1 : LO (zTh h) n := hO
    obtain ⟨h2, d1, d2, d3⟩ := ct_m_writeLabelX M1.1 M1.2.1 hv.1 ha hq
    exact ⟨h2, 1, _, ⟨_, _, _, _, _, by decide, by decide, c1, M1.1, d1, d2, rfl, (by omega)⟩, zR_0, fun z => absurd z (by omega), li_q M1 B1 O1 hN hT d2 d3⟩
set_option maxRecDepth 4000 in
theorem lo_execute {h : gm_H} {n J R : Nat} (I : LI h n J R) (hJ : J < 600) : ∃ h2 k y, LH h h2 n mL_execute [.ref n, .ref (n + 126)] mX11_execute [.ref (n + 113)] k (.int (zI y)) ∧ zR y ∧ (k = 0 → ∃ g, h2.1[n + 126]? = some (gLo g) ∧ g 0 = zL y) ∧ LI h2 n (J + 1) (R + 1) := by
  obtain ⟨K, F, S, P, X, Ln, c, L, g, T, hM, hB, hO, hN, hT⟩ := I
  have hv := hN.2.2.2.2.2.2.2.2.2.1
  obtain ⟨n1, n2, n3, n4, n5, n6, n7, n8, n9, n10, n11, n12⟩ := id hN
  obtain ⟨p, w, N, k, hP⟩ := hB.2.2.2.2.2.2.2.1
  have hP9 : pg_st h (n + 110) X L w (p, (N, k)) := hP
  have hr := zCc_r X L 60 1 w (0, (N, k))
  by_cases hz : (zCc X L 60 1 w (0, (N, k))).1 < 0
  ·
    obtain ⟨h', q1, q2, q3, q4⟩ := ct_executeX hB.1 hP9 hz
    have M' := lm_fr hM q4 (fun k a b z => by simp only [st_K, hi_K, pg_K, ex_K] at z; omega)
    have O' := lo_fr hO q4 (by intro z; simp only [st_K, hi_K, pg_K, ex_K] at z; omega) (by intro z; simp only [st_K, hi_K, pg_K, ex_K] at z; omega)
    have B' := lb_exX hB q2 q3 q4
    have p61 : (zCc X L 60 1 w (0, (N, k))).2.2.1 ≤ 61 := q3.2.2.2.2.1
    have c1 := lx_execute_1 (o := n + 126) hB.1 (by decide) q1
    have M1 : LM (zTh h') (n + 113) _ _ _ _ _ _ := M'
    have B1 := lb_th B'
    have O1 : LO (zTh h') n := O'
    obtain ⟨Bm, hBm⟩ := M1.2.2.1
    obtain ⟨h2, K', B2, d1, d2, d3, d5, d6, d7, k0, k2, k17, kk, d9⟩ := ct_mExX n7 M1.1 M1.2.1 hBm M1.2.2.2.2.1 M1.2.2.2.2.2.2.2.2.2 n6 w (N, k) hz
    exact ⟨h2, 1, _, ⟨_, _, _, _, _, by decide, by decide, c1, M1.1, d1, d2, k0, (by omega)⟩, zR_0, fun z => absurd z (by omega), li_of (lm_ex M1 d2 d3 d5 d6 d7 d9) (lb_fr B1 d9 (fun k a y => by simp only [my_K] at y; omega)) (lo_fr O1 d9 (by intro y; simp only [my_K] at y; omega) (by intro y; simp only [my_K] at y; omega)) (L := 0) (T := T) ⟨(kk 1 (by omega)).trans n1, n2, by rw [kk 4 (by omega)]; exact n3, by rw [k2]; omega, by rw [kk 3 (by omega)]; exact n5, k17, ⟨by omega, fun i hi => absurd hi (by omega)⟩, (kk 20 (by omega)).trans n8, n9, n10, fun z => n11 ((kk 4 (by omega)).symm.trans z), n12⟩ (kk 4 (by omega)).symm k2.symm (kk 3 (by omega)).symm (fun _ _ => rfl) (fun _ _ _ => rfl) (fun _ _ _ _ => rfl) (by omega)⟩
  ·
    obtain ⟨C, hC⟩ : ∃ C : Nat, (zCc X L 60 1 w (0, (N, k))).1 = (C : Int) := ⟨(zCc X L 60 1 w (0, (N, k))).1.toNat, by omega⟩
    have hC61 : C ≤ 61 := by omega
    have h60 := n7.1
    by_cases hy : (zPp X L C 0 F (zCc X L 60 1 w (0, (N, k))).2.1 (0, (zCc X L 60 1 w (0, (N, k))).2.2.2)).1 < C
    ·
      obtain ⟨h', q1, q2, q3, q5, q6, q4⟩ := ct_executeY hB.1 hP9 hB.2.1 hv hB.2.2.2.1 hC (by omega) hy
      have M' := lm_fr hM q4 (fun k a b z => by simp only [st_K, hi_K, pg_K, ex_K] at z; omega)
      have O' := lo_fr hO q4 (by intro z; simp only [st_K, hi_K, pg_K, ex_K] at z; omega) (by intro z; simp only [st_K, hi_K, pg_K, ex_K] at z; omega)
      have B' := lb_ex hB q2 q5 q6 q3 rfl q4
      have c1 := lx_execute_2 (o := n + 126) hB.1 (by decide) q1
      have M1 : LM (zTh h') (n + 113) _ _ _ _ _ _ := M'
      have B1 := lb_th B'
      have O1 : LO (zTh h') n := O'
      obtain ⟨Bm, hBm⟩ := M1.2.2.1
      obtain ⟨h2, K', F', B2, d1, d2, d3, d4, d5, d6, d7, k0, k3, k17, kk, d9⟩ := ct_mExY n7 M1.1 M1.2.1 hBm M1.2.2.2.2.1 M1.2.2.2.2.2.2.2.2.2 n6 w (N, k) ⟨h, n + 1, hB.2.1⟩ hv hC (by omega) (zCc X L 60 1 w (0, (N, k))).2.1 (zCc X L 60 1 w (0, (N, k))).2.2.2 hy
      exact ⟨h2, 2, _, ⟨_, _, _, _, _, by decide, by decide, c1, M1.1, d1, d2, k0, (by omega)⟩, zR_0, fun z => absurd z (by omega), li_of (lm_ex M1 d2 d3 d5 d6 d7 d9) (lb_fr B1 d9 (fun k a y => by simp only [my_K] at y; omega)) (lo_fr O1 d9 (by intro y; simp only [my_K] at y; omega) (by intro y; simp only [my_K] at y; omega)) (L := 0) (T := T) ⟨(kk 1 (by omega)).trans n1, n2, by rw [kk 4 (by omega)]; exact n3, by rw [kk 2 (by omega)]; exact n4, by rw [k3]; omega, k17, ⟨by omega, fun i hi => absurd hi (by omega)⟩, (kk 20 (by omega)).trans n8, n9, n10, fun z => n11 ((kk 4 (by omega)).symm.trans z), n12⟩ (kk 4 (by omega)).symm (kk 2 (by omega)).symm k3.symm d4 (fun _ _ _ => rfl) (fun _ _ _ _ => rfl) (by omega)⟩
    ·
      obtain ⟨h', q1, q2, q3, q5, q7, q6, q4⟩ := ct_execute hB.1 hP9 hB.2.1 hv hB.2.2.2.1 hC (by omega) hy
      have M' := lm_fr hM q4 (fun k a b z => by simp only [st_K, hi_K, pg_K, ex_K] at z; omega)
      have O' := lo_fr hO q4 (by intro z; simp only [st_K, hi_K, pg_K, ex_K] at z; omega) (by intro z; simp only [st_K, hi_K, pg_K, ex_K] at z; omega)
      have B' := lb_ex hB q2 q5 q6 q3 rfl q4
      obtain ⟨f0, hf0⟩ := O'.1
      obtain ⟨g1, c1, c2⟩ := lh_execute hB.1 (by decide) (nz_r _) (nzc q1) hf0
      have M1 := lm_set (k := n + 126) (Or.inl rfl) (gLo g1) M'
      have B1 := lb_up (lb_set (k := n + 126) (Or.inl rfl) (gLo g1) B')
      have O1 := lo_set (f := g1) O'
      have e1 := gs_s (c' := gLo g1) hf0
      obtain ⟨Bm, hBm⟩ := M1.2.2.1; obtain ⟨h2, K', B2, P', d1, d2, d3, d5, d6, d8, d7, k0, k1, k17, kk, d9⟩ := ct_mEx n7 M1.1 M1.2.1 hBm M1.2.2.2.2.1 M1.2.2.2.2.2.2.2.2.2 n6 w (N, k) ⟨h, n + 1, hB.2.1⟩ hv hC (by omega) (zCc X L 60 1 w (0, (N, k))).2.1 (zCc X L 60 1 w (0, (N, k))).2.2.2 hy n1 n2
      exact ⟨h2, 0, _, ⟨_, _, _, _, _, by decide, by decide, c1, M1.1, nzc d1, d2, k0, zR_0⟩, nz_r _, fun _ => ⟨g1, gh_at d9 e1 (by intro y; simp only [my_K] at y; omega), c2⟩, li_of (lm_ex M1 d2 d3 d5 d6 d7 d9) (lb_fr B1 d9 (fun k a y => by simp only [my_K] at y; omega)) (lo_fr O1 d9 (by intro y; simp only [my_K] at y; omega) (by intro y; simp only [my_K] at y; omega)) (c := min (c + 1) 8) (L := 0) (T := T + L) ⟨k1, by omega, by rw [kk 4 (by omega)]; exact n3, by rw [kk 2 (by omega)]; exact n4, by rw [kk 3 (by omega)]; exact n5, k17, ⟨by omega, fun i hi => absurd hi (by omega)⟩, (kk 20 (by omega)).trans n8, n9, q7, fun z => st_mono (n11 ((kk 4 (by omega)).symm.trans z)) (by omega) (by omega), fun i hi => st_mono (zPush_iv n2 n12 n10 i hi) (by omega) (by omega)⟩ (kk 4 (by omega)).symm (kk 2 (by omega)).symm (kk 3 (by omega)).symm (fun _ _ => rfl) (fun _ _ _ => rfl) d8 (by omega)⟩
