theorem ks_x : ks_at 70 71 [zI 32, zI ((120 : Nat) : Int)] := ⟨by decide +kernel, by decide +kernel, by decide +kernel, by decide +kernel, by decide⟩
theorem ks_q : ks_at 72 73 [zI 32, zI ((63 : Nat) : Int)] := ⟨by decide +kernel, by decide +kernel, by decide +kernel, by decide +kernel, by decide⟩
theorem sb_len {h : gm_H} {s : Nat} {q : Nat × Nat} {G : Nat → Int} {c : Nat} (hS : sbr_at h s q G c) : s < h.1.length := by
  obtain ⟨_, _, _, ml, F, c1, _⟩ := hS
  exact (List.getElem?_eq_some_iff.mp c1).1
/-- what a label leaves of the bakery -/
def lb_ok (h : gm_H) (n : Nat) (hs ep fc : Int) (v : Nat → Int) (q : Nat × Nat) : Prop := h.1[n]? = some (by_c n hs ep fc) ∧ st_at h (n + 1) v ∧ n + 109 ≤ q.1
theorem lb_sx {h h' : gm_H} {n : Nat} {hs ep fc : Int} {v : Nat → Int} {q q' : Nat × Nat} {G : Nat → Int} {c : Nat} (hS : sbr_at h (n + 108) q G c) (f : sx h h' (n + 108) q q') (hb : lb_ok h n hs ep fc v q) : lb_ok h' n hs ep fc v q' := by
  have hl := sb_len hS
  obtain ⟨f1, f2, f3, f4⟩ := f
  obtain ⟨b1, b2, b3⟩ := hb
  have e : ∀ k, k < n + 108 → h'.1[k]? = h.1[k]? := fun k hk => f3 k (by omega) (by omega) (by omega)
  exact ⟨(e n (by omega)).trans b1, st_lo e (by omega) b2, by omega⟩
set_option maxRecDepth 4000 in
theorem ct_writeLabelX {h : gm_H} {n : Nat} {v : Nat → Int} {hs ep fc : Int} (hB : h.1[n]? = some (by_c n hs ep fc)) (hS : st_at h (n + 1) v) {i : Int} (hv : nd_iv v) (hi : zR i) (hq : ¬ (0 ≤ i ∧ i < v 0)) : gm_co mX10_writeLabel 12 [.ref n, .int (zI i)] h (.inr "java/lang/IndexOutOfBoundsException") (zTh h) := by
  refine gm_co_of _ (by decide +kernel) rfl (Nat.le_of_ble_eq_true rfl) rfl ?_
  refine gm_go.ru (gm_aload_n dX10_writeLabel_0 rfl (by first | exact Or.inl ⟨_, rfl⟩ | exact Or.inr ⟨_, rfl⟩)) ?_
  refine gm_go.ru (gm_iload_n dX10_writeLabel_1 rfl) ?_
  exact gm_pV dX10_writeLabel_2 (ct_needNeedleX hB hS hv hi hq) rfl rfl mt_X10_needNeedle mv_X10_needNeedle (lk_X10_99 rfl) (Or.inl ⟨_, 11, _, _, _, rfl, hB, rfl⟩) rfl (Nat.le_of_ble_eq_true rfl) (by decide)
set_option maxRecDepth 4000 in
theorem cwl_2 {h : gm_H} {n i : Nat} {v G : Nat → Int} {hs ep fc : Int} {q : Nat × Nat} (hb : lb_ok h n hs ep fc v q) (hv : nd_iv v) (h8 : i < 8) (hL : sbr_at h (n + 108) q (zLl v i G 8).2 (zLl v i G 8).1) : ∃ h' q', gm_ru mX10_writeLabel 12 (77, [some (.ref n), some (.int (zI (i : Int))), some (.ref (n + 1 + 1)), some (.int (zI ((8 : Nat) : Int)))], [], h) (.inl (some (.int (zI ((zLz v i G).1 : Nat))))) h' ∧ sbr_at h' (n + 108) q' (zLz v i G).2 (zLz v i G).1 ∧ sx h h' (n + 108) q q' := by
  obtain ⟨hB, hS, hq⟩ := id hb
  obtain ⟨s0, sN, sO⟩ := id hS
  obtain ⟨h1, S, D, h2, h3, nS, nD⟩ := id sN
  obtain ⟨o1, I, M, U, Y, o2, o3, o4, o5, oD⟩ := id sO
  have le := zLl_le v i G 8
  obtain ⟨_, _, _, _, _, c0, _⟩ := id hL
  unfold zLz
  by_cases c1 : v (11 + 10 * i) = 1
  ·
    rw [if_pos c1]
    obtain ⟨g, q', e1, e2, e3⟩ := ct_sbS hL ks_x (by decide) (by omega)
    obtain ⟨B9, S9, Q9⟩ := lb_sx hL e3 hb
    obtain ⟨_, _, _, _, _, c9, _⟩ := id e2
    refine ⟨g, q', ?_, e2, e3⟩
    refine gm_go.ru (gm_aload_n dX10_writeLabel_77 rfl (by first | exact Or.inl ⟨_, rfl⟩ | exact Or.inr ⟨_, rfl⟩)) ?_
    refine gm_go.ru (gm_iload_n dX10_writeLabel_78 rfl) ?_
    refine gm_go.ru (gm_cV dX10_writeLabel_79 (ct_isOut sN h8) rfl mt_X3_isOut mv_X3_isOut (lk_X10_106 rfl) (Or.inl ⟨_, 5, _, _, _, rfl, h1, rfl⟩) rfl (Nat.le_of_ble_eq_true rfl) (by decide)) ?_
    rw [zB_t c1]
    refine gm_go.ru (gi_if_eq_f 99 dX10_writeLabel_82 (by decide) (by decide) (by decide)) ?_
    refine gm_go.ru (gm_aload_n dX10_writeLabel_85 rfl (by first | exact Or.inl ⟨_, rfl⟩ | exact Or.inr ⟨_, rfl⟩)) ?_
    refine gm_go.ru (gm_get dX10_writeLabel_86 (fl_X10_47 rfl) hB rfl) ?_
    refine gm_go.ru (gm_ldcsw (k := 70) (tx := " x") dX10_writeLabel_89 (by decide +kernel)) ?_
    refine gm_go.ru (gm_cV dX10_writeLabel_92 (e1) rfl mt_J4_append_15ec4 mv_J4_append_15ec4 (lk_X10_271 rfl) (Or.inl ⟨_, 1, _, _, _, rfl, c0, rfl⟩) rfl (Nat.le_of_ble_eq_true rfl) (by decide)) ?_
    refine gm_go.ru (gm_pop dX10_writeLabel_95 rfl) ?_
    refine gm_go.ru (gm_goto (tgt := 118) dX10_writeLabel_96 (by decide)) ?_
    refine gm_go.ru (gm_aload_n dX10_writeLabel_118 rfl (by first | exact Or.inl ⟨_, rfl⟩ | exact Or.inr ⟨_, rfl⟩)) ?_
    refine gm_go.ru (gm_get dX10_writeLabel_119 (fl_X10_47 rfl) B9 rfl) ?_
    refine gm_go.ru (gm_cV dX10_writeLabel_122 (ct_sbLen e2) rfl mt_J4_length_8abf5 mv_J4_length_8abf5 (lk_X10_276 rfl) (Or.inl ⟨_, 1, _, _, _, rfl, c9, rfl⟩) rfl (Nat.le_of_ble_eq_true rfl) (by decide)) ?_
    exact gm_iret dX10_writeLabel_125 rfl
  ·
    rw [if_neg c1]
    have hw := ct_isTooWide sN hv h8
    cases hb9 : zW v i
    ·
      rw [hb9] at hw
      rw [if_neg (by decide)]
      refine ⟨h, q, ?_, hL, sx_rf⟩
      refine gm_go.ru (gm_aload_n dX10_writeLabel_77 rfl (by first | exact Or.inl ⟨_, rfl⟩ | exact Or.inr ⟨_, rfl⟩)) ?_
      refine gm_go.ru (gm_iload_n dX10_writeLabel_78 rfl) ?_
      refine gm_go.ru (gm_cV dX10_writeLabel_79 (ct_isOut sN h8) rfl mt_X3_isOut mv_X3_isOut (lk_X10_106 rfl) (Or.inl ⟨_, 5, _, _, _, rfl, h1, rfl⟩) rfl (Nat.le_of_ble_eq_true rfl) (by decide)) ?_
      rw [zB_f c1]
      refine gm_go.ru (gi_if_eq_t (tgt := 99) dX10_writeLabel_82 (by decide) (by decide) rfl) ?_
      refine gm_go.ru (gm_aload_n dX10_writeLabel_99 rfl (by first | exact Or.inl ⟨_, rfl⟩ | exact Or.inr ⟨_, rfl⟩)) ?_
      refine gm_go.ru (gm_iload_n dX10_writeLabel_100 rfl) ?_
      refine gm_go.ru (gm_cV dX10_writeLabel_101 (hw) rfl mt_X3_isTooWide mv_X3_isTooWide (lk_X10_110 rfl) (Or.inl ⟨_, 5, _, _, _, rfl, h1, rfl⟩) rfl (Nat.le_of_ble_eq_true rfl) (by decide)) ?_
      refine gm_go.ru (gi_if_eq_t (tgt := 118) dX10_writeLabel_104 (by decide) (by decide) rfl) ?_
      refine gm_go.ru (gm_aload_n dX10_writeLabel_118 rfl (by first | exact Or.inl ⟨_, rfl⟩ | exact Or.inr ⟨_, rfl⟩)) ?_
      refine gm_go.ru (gm_get dX10_writeLabel_119 (fl_X10_47 rfl) hB rfl) ?_
      refine gm_go.ru (gm_cV dX10_writeLabel_122 (ct_sbLen hL) rfl mt_J4_length_8abf5 mv_J4_length_8abf5 (lk_X10_276 rfl) (Or.inl ⟨_, 1, _, _, _, rfl, c0, rfl⟩) rfl (Nat.le_of_ble_eq_true rfl) (by decide)) ?_
      exact gm_iret dX10_writeLabel_125 rfl
    ·
      rw [hb9] at hw
      rw [if_pos rfl]
      obtain ⟨g, q', e1, e2, e3⟩ := ct_sbS hL ks_q (by decide) (by omega)
      obtain ⟨B9, S9, Q9⟩ := lb_sx hL e3 hb
      obtain ⟨_, _, _, _, _, c9, _⟩ := id e2
      refine ⟨g, q', ?_, e2, e3⟩
      refine gm_go.ru (gm_aload_n dX10_writeLabel_77 rfl (by first | exact Or.inl ⟨_, rfl⟩ | exact Or.inr ⟨_, rfl⟩)) ?_
      refine gm_go.ru (gm_iload_n dX10_writeLabel_78 rfl) ?_
      refine gm_go.ru (gm_cV dX10_writeLabel_79 (ct_isOut sN h8) rfl mt_X3_isOut mv_X3_isOut (lk_X10_106 rfl) (Or.inl ⟨_, 5, _, _, _, rfl, h1, rfl⟩) rfl (Nat.le_of_ble_eq_true rfl) (by decide)) ?_
      rw [zB_f c1]
      refine gm_go.ru (gi_if_eq_t (tgt := 99) dX10_writeLabel_82 (by decide) (by decide) rfl) ?_
      refine gm_go.ru (gm_aload_n dX10_writeLabel_99 rfl (by first | exact Or.inl ⟨_, rfl⟩ | exact Or.inr ⟨_, rfl⟩)) ?_
      refine gm_go.ru (gm_iload_n dX10_writeLabel_100 rfl) ?_
      refine gm_go.ru (gm_cV dX10_writeLabel_101 (hw) rfl mt_X3_isTooWide mv_X3_isTooWide (lk_X10_110 rfl) (Or.inl ⟨_, 5, _, _, _, rfl, h1, rfl⟩) rfl (Nat.le_of_ble_eq_true rfl) (by decide)) ?_
      refine gm_go.ru (gi_if_eq_f 118 dX10_writeLabel_104 (by decide) (by decide) (by decide)) ?_
      refine gm_go.ru (gm_aload_n dX10_writeLabel_107 rfl (by first | exact Or.inl ⟨_, rfl⟩ | exact Or.inr ⟨_, rfl⟩)) ?_
      refine gm_go.ru (gm_get dX10_writeLabel_108 (fl_X10_47 rfl) hB rfl) ?_
      refine gm_go.ru (gm_ldcsw (k := 72) (tx := " ?") dX10_writeLabel_111 (by decide +kernel)) ?_
      refine gm_go.ru (gm_cV dX10_writeLabel_114 (e1) rfl mt_J4_append_15ec4 mv_J4_append_15ec4 (lk_X10_271 rfl) (Or.inl ⟨_, 1, _, _, _, rfl, c0, rfl⟩) rfl (Nat.le_of_ble_eq_true rfl) (by decide)) ?_
      refine gm_go.ru (gm_pop dX10_writeLabel_117 rfl) ?_
      refine gm_go.ru (gm_aload_n dX10_writeLabel_118 rfl (by first | exact Or.inl ⟨_, rfl⟩ | exact Or.inr ⟨_, rfl⟩)) ?_
      refine gm_go.ru (gm_get dX10_writeLabel_119 (fl_X10_47 rfl) B9 rfl) ?_
      refine gm_go.ru (gm_cV dX10_writeLabel_122 (ct_sbLen e2) rfl mt_J4_length_8abf5 mv_J4_length_8abf5 (lk_X10_276 rfl) (Or.inl ⟨_, 1, _, _, _, rfl, c9, rfl⟩) rfl (Nat.le_of_ble_eq_true rfl) (by decide)) ?_
      exact gm_iret dX10_writeLabel_125 rfl
set_option maxRecDepth 4000 in
theorem cwl_1 {n i : Nat} {v G : Nat → Int} {hs ep fc : Int} (hv : nd_iv v) (h8 : i < 8) : ∀ (z j : Nat) (h : gm_H) (q : Nat × Nat), j + z = 8 → lb_ok h n hs ep fc v q → sbr_at h (n + 108) q (zLl v i G j).2 (zLl v i G j).1 → ∃ h' q', gm_ru mX10_writeLabel 12 (46, [some (.ref n), some (.int (zI (i : Int))), some (.ref (n + 1 + 1)), some (.int (zI (j : Int)))], [], h) (.inl (some (.int (zI ((zLz v i G).1 : Nat))))) h' ∧ sbr_at h' (n + 108) q' (zLz v i G).2 (zLz v i G).1 ∧ sx h h' (n + 108) q q' := by
  intro z
  induction z with
  | zero =>
    intro j h q hj hb hL
    obtain rfl : j = 8 := by omega
    obtain ⟨h', q', e1, e2⟩ := cwl_2 hb hv h8 hL
    refine ⟨h', q', ?_, e2⟩
    refine gm_go.ru (gm_iload_n dX10_writeLabel_46 rfl) ?_
    refine gm_go.ru (gi_bipush dX10_writeLabel_47 (by decide +kernel)) ?_
    refine gm_go.ru (gi_icmp_ge_t (tgt := 77) dX10_writeLabel_49 (by decide) (by omega) (by omega) (by omega)) ?_
    exact e1
  | succ z ih =>
    intro j h q hj hb hL
    obtain ⟨hB, hS, hq⟩ := id hb
    have le := zLl_le v i G j
    have hd := hv.2.2.2.2.1 i h8 j (by omega)
    obtain ⟨_, _, _, _, _, c0, _⟩ := id hL
    obtain ⟨g1, q1, e1, L1, x1⟩ := ct_sbC hL (x := 32) (by decide) (by omega)
    have b1 := lb_sx hL x1 hb
    obtain ⟨_, _, _, _, _, c1, _⟩ := id L1
    obtain ⟨B1, S1, Q1⟩ := id b1
    obtain ⟨s0, sN, sO⟩ := id S1
    obtain ⟨h1, S, D, h2, h3, nS, nD⟩ := id sN
    obtain ⟨g2, q2, e2, L2, x2⟩ := ct_sbI L1 (i := v (12 + 10 * i + j)) (by omega) (by omega)
    have b2 := lb_sx L1 x2 b1
    obtain ⟨h', q', d1, d2, d3⟩ := ih (j + 1) g2 q2 (by omega) b2 L2
    refine ⟨h', q', ?_, d2, sx_tr x1 (sx_tr x2 d3)⟩
    refine gm_go.ru (gm_iload_n dX10_writeLabel_46 rfl) ?_
    refine gm_go.ru (gi_bipush dX10_writeLabel_47 (by decide +kernel)) ?_
    refine gm_go.ru (gi_icmp_ge_f 77 dX10_writeLabel_49 (by decide) (by omega) (by omega) (by omega)) ?_
    refine gm_go.ru (gm_aload_n dX10_writeLabel_52 rfl (by first | exact Or.inl ⟨_, rfl⟩ | exact Or.inr ⟨_, rfl⟩)) ?_
    refine gm_go.ru (gm_get dX10_writeLabel_53 (fl_X10_47 rfl) hB rfl) ?_
    refine gm_go.ru (gi_bipush dX10_writeLabel_56 (by decide +kernel)) ?_
    refine gm_go.ru (gm_cV dX10_writeLabel_58 (e1) rfl mt_J4_append_cf468 mv_J4_append_cf468 (lk_X10_263 rfl) (Or.inl ⟨_, 1, _, _, _, rfl, c0, rfl⟩) rfl (Nat.le_of_ble_eq_true rfl) (by decide)) ?_
    refine gm_go.ru (gm_aload_n dX10_writeLabel_61 rfl (by first | exact Or.inl ⟨_, rfl⟩ | exact Or.inr ⟨_, rfl⟩)) ?_
    refine gm_go.ru (gm_iload_n dX10_writeLabel_62 rfl) ?_
    refine gm_go.ru (gm_iload_n dX10_writeLabel_63 rfl) ?_
    refine gm_go.ru (gm_cV dX10_writeLabel_64 (ct_at sN h8 (by omega)) rfl mt_X3_at mv_X3_at (lk_X10_266 rfl) (Or.inl ⟨_, 5, _, _, _, rfl, h1, rfl⟩) rfl (Nat.le_of_ble_eq_true rfl) (by decide)) ?_
    refine gm_go.ru (gm_cV dX10_writeLabel_67 (e2) rfl mt_J4_append_bf812 mv_J4_append_bf812 (lk_X10_259 rfl) (Or.inl ⟨_, 1, _, _, _, rfl, c1, rfl⟩) rfl (Nat.le_of_ble_eq_true rfl) (by decide)) ?_
    refine gm_go.ru (gm_pop dX10_writeLabel_70 rfl) ?_
    refine gm_go.ru (gi_iinc (ls' := [_, _, _, _]) dX10_writeLabel_71 rfl (by decide) rfl) ?_
    refine gm_go.ru (gm_goto (tgt := 46) dX10_writeLabel_74 (by decide)) ?_
    exact d1
set_option maxRecDepth 4000 in
theorem ct_writeLabel {h : gm_H} {n : Nat} {v : Nat → Int} {hs ep fc : Int} (hB : h.1[n]? = some (by_c n hs ep fc)) (hS : st_at h (n + 1) v) {i : Int} {q : Nat × Nat} {G : Nat → Int} {c : Nat} (hv : nd_iv v) (hi : zR i) (hL : sbr_at h (n + 108) q G c) (hQ : n + 109 ≤ q.1) (hq : 0 ≤ i ∧ i < v 0) : ∃ h' q', gm_co mX10_writeLabel 12 [.ref n, .int (zI i)] h (.inl (some (.int (zI ((zLz v i.toNat G).1 : Nat))))) h' ∧ sbr_at h' (n + 108) q' (zLz v i.toNat G).2 (zLz v i.toNat G).1 ∧ sx h h' (n + 108) q q' := by
  obtain ⟨s0, sN, sO⟩ := id hS
  obtain ⟨h1, S, D, h2, h3, nS, nD⟩ := id sN
  obtain ⟨o1, I, M, U, Y, o2, o3, o4, o5, oD⟩ := id sO
  obtain ⟨i, rfl⟩ : ∃ k : Nat, i = (k : Int) := ⟨i.toNat, by omega⟩
  have h8 : i < 8 := by have := hv.1; omega
  simp only [Int.toNat_natCast] at *
  have hst := hv.2.2.1 i h8
  have b0 : lb_ok h n hs ep fc v q := ⟨hB, hS, hQ⟩
  obtain ⟨_, _, _, _, _, c0, _⟩ := id hL
  obtain ⟨g1, q1, e1, L1, x1⟩ := ct_sbZ hL
  have b1 := lb_sx hL x1 b0
  obtain ⟨_, _, _, _, _, c1, _⟩ := id L1
  obtain ⟨B1, S1, Q1⟩ := id b1
  obtain ⟨g2, q2, e2, L2, x2⟩ := ct_sbI L1 (i := (i : Int)) (by omega) (by omega)
  have b2 := lb_sx L1 x2 b1
  obtain ⟨_, _, _, _, _, c2, _⟩ := id L2
  have z1 := zsz_3 (i : Int)
  rw [Nat.zero_add] at L2
  obtain ⟨g3, q3, e3, L3, x3⟩ := ct_sbC L2 (x := 58) (by decide) (by omega)
  have b3 := lb_sx L2 x3 b2
  obtain ⟨_, _, _, _, _, c3, _⟩ := id L3
  obtain ⟨B3, S3, Q3⟩ := id b3
  obtain ⟨t0, tN, tO⟩ := id S3
  obtain ⟨u1, S9, D9, u2, u3, nS9, nD9⟩ := id tN
  obtain ⟨g4, q4, e4, L4, x4⟩ := ct_sbI L3 (i := v (10 + 10 * i)) (by omega) (by omega)
  have b4 := lb_sx L3 x4 b3
  obtain ⟨h', q', d1, d2, d3⟩ := cwl_1 (G := G) hv h8 8 0 g4 q4 rfl b4 L4
  refine ⟨h', q', ?_, d2, sx_tr x1 (sx_tr x2 (sx_tr x3 (sx_tr x4 d3)))⟩
  refine gm_co_of _ (by decide +kernel) rfl (Nat.le_of_ble_eq_true rfl) rfl ?_
  refine gm_go.ru (gm_aload_n dX10_writeLabel_0 rfl (by first | exact Or.inl ⟨_, rfl⟩ | exact Or.inr ⟨_, rfl⟩)) ?_
  refine gm_go.ru (gm_iload_n dX10_writeLabel_1 rfl) ?_
  refine gm_go.ru (gm_cV0 dX10_writeLabel_2 (ct_needNeedle hB hS hv hi hq) rfl mt_X10_needNeedle mv_X10_needNeedle (lk_X10_99 rfl) (Or.inl ⟨_, 11, _, _, _, rfl, hB, rfl⟩) rfl (Nat.le_of_ble_eq_true rfl) (by decide)) ?_
  refine gm_go.ru (gm_aload_n dX10_writeLabel_5 rfl (by first | exact Or.inl ⟨_, rfl⟩ | exact Or.inr ⟨_, rfl⟩)) ?_
  refine gm_go.ru (gm_get dX10_writeLabel_6 (fl_X10_10 rfl) hB rfl) ?_
  refine gm_go.ru (gm_get dX10_writeLabel_9 (fl_X10_90 rfl) s0 rfl) ?_
  refine gm_go.ru (gm_astore_n (ls' := [_, _, _, _]) dX10_writeLabel_12 (by first | exact Or.inl ⟨_, rfl⟩ | exact Or.inr ⟨_, rfl⟩) (by decide) rfl) ?_
  refine gm_go.ru (gm_aload_n dX10_writeLabel_13 rfl (by first | exact Or.inl ⟨_, rfl⟩ | exact Or.inr ⟨_, rfl⟩)) ?_
  refine gm_go.ru (gm_get dX10_writeLabel_14 (fl_X10_47 rfl) hB rfl) ?_
  refine gm_go.ru (gi_const dX10_writeLabel_17) ?_
  refine gm_go.ru (gm_cV0 dX10_writeLabel_18 (e1) rfl mt_J4_setLength_d00df mv_J4_setLength_d00df (lk_X10_256 rfl) (Or.inl ⟨_, 1, _, _, _, rfl, c0, rfl⟩) rfl (Nat.le_of_ble_eq_true rfl) (by decide)) ?_
  refine gm_go.ru (gm_aload_n dX10_writeLabel_21 rfl (by first | exact Or.inl ⟨_, rfl⟩ | exact Or.inr ⟨_, rfl⟩)) ?_
  refine gm_go.ru (gm_get dX10_writeLabel_22 (fl_X10_47 rfl) B1 rfl) ?_
  refine gm_go.ru (gm_iload_n dX10_writeLabel_25 rfl) ?_
  refine gm_go.ru (gm_cV dX10_writeLabel_26 (e2) rfl mt_J4_append_bf812 mv_J4_append_bf812 (lk_X10_259 rfl) (Or.inl ⟨_, 1, _, _, _, rfl, c1, rfl⟩) rfl (Nat.le_of_ble_eq_true rfl) (by decide)) ?_
  refine gm_go.ru (gi_bipush dX10_writeLabel_29 (by decide +kernel)) ?_
  refine gm_go.ru (gm_cV dX10_writeLabel_31 (e3) rfl mt_J4_append_cf468 mv_J4_append_cf468 (lk_X10_263 rfl) (Or.inl ⟨_, 1, _, _, _, rfl, c2, rfl⟩) rfl (Nat.le_of_ble_eq_true rfl) (by decide)) ?_
  refine gm_go.ru (gm_aload_n dX10_writeLabel_34 rfl (by first | exact Or.inl ⟨_, rfl⟩ | exact Or.inr ⟨_, rfl⟩)) ?_
  refine gm_go.ru (gm_get dX10_writeLabel_35 (fl_X10_103 rfl) u1 rfl) ?_
  refine gm_go.ru (gm_iload_n dX10_writeLabel_38 rfl) ?_
  refine gm_go.ru (gi_aldN dX10_writeLabel_39 u2 h8 (by decide)) ?_
  rw [nS9 i h8]
  refine gm_go.ru (gm_cV dX10_writeLabel_40 (e4) rfl mt_J4_append_bf812 mv_J4_append_bf812 (lk_X10_259 rfl) (Or.inl ⟨_, 1, _, _, _, rfl, c3, rfl⟩) rfl (Nat.le_of_ble_eq_true rfl) (by decide)) ?_
  refine gm_go.ru (gm_pop dX10_writeLabel_43 rfl) ?_
  refine gm_go.ru (gi_const dX10_writeLabel_44) ?_
  refine gm_go.ru (gm_istore_n (ls' := [_, _, _, _]) dX10_writeLabel_45 (by decide) rfl) ?_
  exact d1
set_option maxRecDepth 4000 in
theorem ct_labelAt {h : gm_H} {n : Nat} {hs ep fc : Int} (hB : h.1[n]? = some (by_c n hs ep fc)) {q : Nat × Nat} {G : Nat → Int} {c : Nat} (hL : sbr_at h (n + 108) q G c) (hc : c ≤ 60) {i : Int} (hi : zR i) (hq : (0 ≤ i ∧ i < c)) : gm_co mX10_labelAt 10 [.ref n, .int (zI i)] h (.inl (some (.int (zI (G i.toNat))))) h := by
  refine gm_co_of _ (by decide +kernel) rfl (Nat.le_of_ble_eq_true rfl) rfl ?_
  obtain ⟨_, _, _, _, _, c0, _⟩ := id hL
  obtain ⟨i, rfl⟩ : ∃ k : Nat, i = (k : Int) := ⟨i.toNat, by omega⟩
  simp only [Int.toNat_natCast]
  refine gm_go.ru (gm_iload_n dX10_labelAt_0 rfl) ?_
  refine gm_go.ru (gi_if_lt_f 15 dX10_labelAt_1 (by decide) (by omega) (by omega)) ?_
  refine gm_go.ru (gm_iload_n dX10_labelAt_4 rfl) ?_
  refine gm_go.ru (gm_aload_n dX10_labelAt_5 rfl (by first | exact Or.inl ⟨_, rfl⟩ | exact Or.inr ⟨_, rfl⟩)) ?_
  refine gm_go.ru (gm_get dX10_labelAt_6 (fl_X10_47 rfl) hB rfl) ?_
  refine gm_go.ru (gm_cV dX10_labelAt_9 (ct_sbLen hL) rfl mt_J4_length_8abf5 mv_J4_length_8abf5 (lk_X10_276 rfl) (Or.inl ⟨_, 1, _, _, _, rfl, c0, rfl⟩) rfl (Nat.le_of_ble_eq_true rfl) (by decide)) ?_
  refine gm_go.ru (gi_icmp_lt_t (tgt := 26) dX10_labelAt_12 (by decide) (by omega) (by omega) hq.2) ?_
  refine gm_go.ru (gm_aload_n dX10_labelAt_26 rfl (by first | exact Or.inl ⟨_, rfl⟩ | exact Or.inr ⟨_, rfl⟩)) ?_
  refine gm_go.ru (gm_get dX10_labelAt_27 (fl_X10_47 rfl) hB rfl) ?_
  refine gm_go.ru (gm_iload_n dX10_labelAt_30 rfl) ?_
  refine gm_go.ru (gm_cV dX10_labelAt_31 (ct_sbAt hL (by omega)) rfl mt_J4_charAt_5068e mv_J4_charAt_5068e (lk_X10_281 rfl) (Or.inl ⟨_, 1, _, _, _, rfl, c0, rfl⟩) rfl (Nat.le_of_ble_eq_true rfl) (by decide)) ?_
  obtain ⟨_, _, _, _, F9, _, _, f9, f8⟩ := id hL
  have e8 := f8 i
  have e9 := f9 i (by omega)
  obtain ⟨y, hy⟩ : ∃ y : Nat, G i = (y : Int) := ⟨(G i).toNat, by omega⟩
  rw [hy]
  exact gm_zret dX10_labelAt_34 rfl (zCh_nar y (by omega))
set_option maxRecDepth 4000 in
theorem ct_labelAtX {h : gm_H} {n : Nat} {hs ep fc : Int} (hB : h.1[n]? = some (by_c n hs ep fc)) {q : Nat × Nat} {G : Nat → Int} {c : Nat} (hL : sbr_at h (n + 108) q G c) (hc : c ≤ 60) {i : Int} (hi : zR i) (hq : ¬ (0 ≤ i ∧ i < c)) : gm_co mX10_labelAt 10 [.ref n, .int (zI i)] h (.inr "java/lang/IndexOutOfBoundsException") (zTh h) := by
  refine gm_co_of _ (by decide +kernel) rfl (Nat.le_of_ble_eq_true rfl) rfl ?_
  obtain ⟨_, _, _, _, _, c0, _⟩ := id hL
  by_cases c1 : i < 0
  ·
    refine gm_go.ru (gm_iload_n dX10_labelAt_0 rfl) ?_
    refine gm_go.ru (gi_if_lt_t (tgt := 15) dX10_labelAt_1 (by decide) (by omega) c1) ?_
    exact gm_throwW (tf_X10_214_279 rfl) rfl dX10_labelAt_15 dX10_labelAt_18 dX10_labelAt_19 dX10_labelAt_22 dX10_labelAt_25 (Nat.le_of_ble_eq_true rfl) (by decide) (by decide)
  ·
    refine gm_go.ru (gm_iload_n dX10_labelAt_0 rfl) ?_
    refine gm_go.ru (gi_if_lt_f 15 dX10_labelAt_1 (by decide) (by omega) c1) ?_
    refine gm_go.ru (gm_iload_n dX10_labelAt_4 rfl) ?_
    refine gm_go.ru (gm_aload_n dX10_labelAt_5 rfl (by first | exact Or.inl ⟨_, rfl⟩ | exact Or.inr ⟨_, rfl⟩)) ?_
    refine gm_go.ru (gm_get dX10_labelAt_6 (fl_X10_47 rfl) hB rfl) ?_
    refine gm_go.ru (gm_cV dX10_labelAt_9 (ct_sbLen hL) rfl mt_J4_length_8abf5 mv_J4_length_8abf5 (lk_X10_276 rfl) (Or.inl ⟨_, 1, _, _, _, rfl, c0, rfl⟩) rfl (Nat.le_of_ble_eq_true rfl) (by decide)) ?_
    refine gm_go.ru (gi_icmp_lt_f 26 dX10_labelAt_12 (by decide) (by omega) (by omega) (by omega)) ?_
    exact gm_throwW (tf_X10_214_279 rfl) rfl dX10_labelAt_15 dX10_labelAt_18 dX10_labelAt_19 dX10_labelAt_22 dX10_labelAt_25 (Nat.le_of_ble_eq_true rfl) (by decide) (by decide)
set_option maxRecDepth 4000 in
theorem ct_m_errorPosition {h : gm_H} {m : Nat} {K : Nat → Int} (hM : h.1[m]? = some (md_c m K)) (hr : zR (K 2)) (hq : 0 ≤ K 2) : ∃ h', gm_co mX11_errorPosition 1 [.ref m] h (.inl (some (.int (zI (K 2))))) h' ∧ h'.1[m]? = some (md_c m (zU K 0 0)) ∧ gh_fr h h' (fun k => k = m) := by
  obtain ⟨a1, ha1⟩ : ∃ y : gm_H, y = (h.1.set m (md_c m (zU K 0 0)), h.2) := ⟨_, rfl⟩
  have M_a1 : a1.1[m]? = some (md_c m (zU K 0 0)) := by rw [ha1]; exact gs_s hM
  have f_a1 : gh_fr h a1 (fun k => k = m) := by rw [ha1]; exact gh_set (K := fun k => k = m) gh_rf rfl _
  refine ⟨a1, ?_, M_a1, f_a1⟩
  refine gm_co_of _ (by decide +kernel) rfl (Nat.le_of_ble_eq_true rfl) rfl ?_
  refine gm_go.ru (gm_aload_n dX11_errorPosition_0 rfl (by first | exact Or.inl ⟨_, rfl⟩ | exact Or.inr ⟨_, rfl⟩)) ?_
  refine gm_go.ru (gm_aload_n dX11_errorPosition_1 rfl (by first | exact Or.inl ⟨_, rfl⟩ | exact Or.inr ⟨_, rfl⟩)) ?_
  refine gm_go.ru (gm_get dX11_errorPosition_2 (fl_X11_7 rfl) hM rfl) ?_
  refine gm_go.ru (gi_if_ge_t (tgt := 12) dX11_errorPosition_5 (by decide) (by omega) hq) ?_
  refine gm_go.ru (gi_const dX11_errorPosition_12) ?_
  refine gm_go.ru (gm_put dX11_errorPosition_13 (fp_X11_53 rfl) hM (Nat.le_of_ble_eq_true rfl) (by first | exact ⟨rfl, rfl⟩ | exact trivial)) ?_
  refine gm_hp ha1 ?_
  refine gm_go.ru (gm_aload_n dX11_errorPosition_16 rfl (by first | exact Or.inl ⟨_, rfl⟩ | exact Or.inr ⟨_, rfl⟩)) ?_
  refine gm_go.ru (gm_get dX11_errorPosition_17 (fl_X11_53 rfl) M_a1 rfl) ?_
  refine gm_go.ru (gi_if_ne_f 30 dX11_errorPosition_20 (by decide) (by rw [zU_s]; decide) zU_s) ?_
  refine gm_go.ru (gm_aload_n dX11_errorPosition_23 rfl (by first | exact Or.inl ⟨_, rfl⟩ | exact Or.inr ⟨_, rfl⟩)) ?_
  refine gm_go.ru (gm_get dX11_errorPosition_24 (fl_X11_7 rfl) M_a1 rfl) ?_
  refine gm_go.ru (gm_goto (tgt := 31) dX11_errorPosition_27 (by decide)) ?_
  rw [zU_n (by decide)]
  exact gm_iret dX11_errorPosition_31 rfl
set_option maxRecDepth 4000 in
theorem ct_m_errorPositionX {h : gm_H} {m : Nat} {K : Nat → Int} (hM : h.1[m]? = some (md_c m K)) (hr : zR (K 2)) (hq : K 2 < 0) : ∃ h', gm_co mX11_errorPosition 1 [.ref m] h (.inl (some (.int (zI (0))))) h' ∧ h'.1[m]? = some (md_c m (zU K 0 1)) ∧ gh_fr h h' (fun k => k = m) := by
  obtain ⟨a1, ha1⟩ : ∃ y : gm_H, y = (h.1.set m (md_c m (zU K 0 1)), h.2) := ⟨_, rfl⟩
  have M_a1 : a1.1[m]? = some (md_c m (zU K 0 1)) := by rw [ha1]; exact gs_s hM
  have f_a1 : gh_fr h a1 (fun k => k = m) := by rw [ha1]; exact gh_set (K := fun k => k = m) gh_rf rfl _
  refine ⟨a1, ?_, M_a1, f_a1⟩
  refine gm_co_of _ (by decide +kernel) rfl (Nat.le_of_ble_eq_true rfl) rfl ?_
  refine gm_go.ru (gm_aload_n dX11_errorPosition_0 rfl (by first | exact Or.inl ⟨_, rfl⟩ | exact Or.inr ⟨_, rfl⟩)) ?_
  refine gm_go.ru (gm_aload_n dX11_errorPosition_1 rfl (by first | exact Or.inl ⟨_, rfl⟩ | exact Or.inr ⟨_, rfl⟩)) ?_
  refine gm_go.ru (gm_get dX11_errorPosition_2 (fl_X11_7 rfl) hM rfl) ?_
  refine gm_go.ru (gi_if_ge_f 12 dX11_errorPosition_5 (by decide) (by omega) (by omega)) ?_
  refine gm_go.ru (gi_const dX11_errorPosition_8) ?_
  refine gm_go.ru (gm_goto (tgt := 13) dX11_errorPosition_9 (by decide)) ?_
  refine gm_go.ru (gm_put dX11_errorPosition_13 (fp_X11_53 rfl) hM (Nat.le_of_ble_eq_true rfl) (by first | exact ⟨rfl, rfl⟩ | exact trivial)) ?_
  refine gm_hp ha1 ?_
  refine gm_go.ru (gm_aload_n dX11_errorPosition_16 rfl (by first | exact Or.inl ⟨_, rfl⟩ | exact Or.inr ⟨_, rfl⟩)) ?_
  refine gm_go.ru (gm_get dX11_errorPosition_17 (fl_X11_53 rfl) M_a1 rfl) ?_
  refine gm_go.ru (gi_if_ne_t (tgt := 30) dX11_errorPosition_20 (by decide) (by rw [zU_s]; decide) (by rw [zU_s]; decide)) ?_
  refine gm_go.ru (gi_const dX11_errorPosition_30) ?_
  exact gm_iret dX11_errorPosition_31 rfl
set_option maxRecDepth 4000 in
theorem ct_m_failedCommand {h : gm_H} {m : Nat} {K : Nat → Int} (hM : h.1[m]? = some (md_c m K)) (hr : zR (K 3)) (hq : 0 ≤ K 3) : ∃ h', gm_co mX11_failedCommand 1 [.ref m] h (.inl (some (.int (zI (K 3))))) h' ∧ h'.1[m]? = some (md_c m (zU K 0 0)) ∧ gh_fr h h' (fun k => k = m) := by
  obtain ⟨a1, ha1⟩ : ∃ y : gm_H, y = (h.1.set m (md_c m (zU K 0 0)), h.2) := ⟨_, rfl⟩
  have M_a1 : a1.1[m]? = some (md_c m (zU K 0 0)) := by rw [ha1]; exact gs_s hM
  have f_a1 : gh_fr h a1 (fun k => k = m) := by rw [ha1]; exact gh_set (K := fun k => k = m) gh_rf rfl _
  refine ⟨a1, ?_, M_a1, f_a1⟩
  refine gm_co_of _ (by decide +kernel) rfl (Nat.le_of_ble_eq_true rfl) rfl ?_
  refine gm_go.ru (gm_aload_n dX11_failedCommand_0 rfl (by first | exact Or.inl ⟨_, rfl⟩ | exact Or.inr ⟨_, rfl⟩)) ?_
  refine gm_go.ru (gm_aload_n dX11_failedCommand_1 rfl (by first | exact Or.inl ⟨_, rfl⟩ | exact Or.inr ⟨_, rfl⟩)) ?_
  refine gm_go.ru (gm_get dX11_failedCommand_2 (fl_X11_13 rfl) hM rfl) ?_
  refine gm_go.ru (gi_if_ge_t (tgt := 12) dX11_failedCommand_5 (by decide) (by omega) hq) ?_
  refine gm_go.ru (gi_const dX11_failedCommand_12) ?_
  refine gm_go.ru (gm_put dX11_failedCommand_13 (fp_X11_53 rfl) hM (Nat.le_of_ble_eq_true rfl) (by first | exact ⟨rfl, rfl⟩ | exact trivial)) ?_
  refine gm_hp ha1 ?_
  refine gm_go.ru (gm_aload_n dX11_failedCommand_16 rfl (by first | exact Or.inl ⟨_, rfl⟩ | exact Or.inr ⟨_, rfl⟩)) ?_
  refine gm_go.ru (gm_get dX11_failedCommand_17 (fl_X11_53 rfl) M_a1 rfl) ?_
  refine gm_go.ru (gi_if_ne_f 30 dX11_failedCommand_20 (by decide) (by rw [zU_s]; decide) zU_s) ?_
  refine gm_go.ru (gm_aload_n dX11_failedCommand_23 rfl (by first | exact Or.inl ⟨_, rfl⟩ | exact Or.inr ⟨_, rfl⟩)) ?_
  refine gm_go.ru (gm_get dX11_failedCommand_24 (fl_X11_13 rfl) M_a1 rfl) ?_
  refine gm_go.ru (gm_goto (tgt := 31) dX11_failedCommand_27 (by decide)) ?_
  rw [zU_n (by decide)]
  exact gm_iret dX11_failedCommand_31 rfl
set_option maxRecDepth 4000 in
theorem ct_m_failedCommandX {h : gm_H} {m : Nat} {K : Nat → Int} (hM : h.1[m]? = some (md_c m K)) (hr : zR (K 3)) (hq : K 3 < 0) : ∃ h', gm_co mX11_failedCommand 1 [.ref m] h (.inl (some (.int (zI (0))))) h' ∧ h'.1[m]? = some (md_c m (zU K 0 1)) ∧ gh_fr h h' (fun k => k = m) := by
  obtain ⟨a1, ha1⟩ : ∃ y : gm_H, y = (h.1.set m (md_c m (zU K 0 1)), h.2) := ⟨_, rfl⟩
  have M_a1 : a1.1[m]? = some (md_c m (zU K 0 1)) := by rw [ha1]; exact gs_s hM
  have f_a1 : gh_fr h a1 (fun k => k = m) := by rw [ha1]; exact gh_set (K := fun k => k = m) gh_rf rfl _
  refine ⟨a1, ?_, M_a1, f_a1⟩
  refine gm_co_of _ (by decide +kernel) rfl (Nat.le_of_ble_eq_true rfl) rfl ?_
  refine gm_go.ru (gm_aload_n dX11_failedCommand_0 rfl (by first | exact Or.inl ⟨_, rfl⟩ | exact Or.inr ⟨_, rfl⟩)) ?_
  refine gm_go.ru (gm_aload_n dX11_failedCommand_1 rfl (by first | exact Or.inl ⟨_, rfl⟩ | exact Or.inr ⟨_, rfl⟩)) ?_
  refine gm_go.ru (gm_get dX11_failedCommand_2 (fl_X11_13 rfl) hM rfl) ?_
  refine gm_go.ru (gi_if_ge_f 12 dX11_failedCommand_5 (by decide) (by omega) (by omega)) ?_
  refine gm_go.ru (gi_const dX11_failedCommand_8) ?_
  refine gm_go.ru (gm_goto (tgt := 13) dX11_failedCommand_9 (by decide)) ?_
  refine gm_go.ru (gm_put dX11_failedCommand_13 (fp_X11_53 rfl) hM (Nat.le_of_ble_eq_true rfl) (by first | exact ⟨rfl, rfl⟩ | exact trivial)) ?_
  refine gm_hp ha1 ?_
  refine gm_go.ru (gm_aload_n dX11_failedCommand_16 rfl (by first | exact Or.inl ⟨_, rfl⟩ | exact Or.inr ⟨_, rfl⟩)) ?_
  refine gm_go.ru (gm_get dX11_failedCommand_17 (fl_X11_53 rfl) M_a1 rfl) ?_
  refine gm_go.ru (gi_if_ne_t (tgt := 30) dX11_failedCommand_20 (by decide) (by rw [zU_s]; decide) (by rw [zU_s]; decide)) ?_
  refine gm_go.ru (gi_const dX11_failedCommand_30) ?_
  exact gm_iret dX11_failedCommand_31 rfl
set_option maxRecDepth 4000 in
theorem ct_m_typeX {h : gm_H} {m : Nat} {K : Nat → Int} (hM : h.1[m]? = some (md_c m K)) {X : Nat → Int} {c : Nat} (hX : h.1[m + 8]? = some (gA 60 X)) (hc : K 17 = (c : Int)) (hc60 : c ≤ 60) {x : Int} (hx : zR x) (hq : ¬ (32 ≤ x ∧ x ≤ 126)) : ∃ h', gm_co mX11_type 2 [.ref m, .int (zI x)] h (.inl (some (.int (zI (0))))) h' ∧ h'.1[m]? = some (md_c m (zU K 0 1)) ∧ gh_fr h h' (fun k => k = m) := by
  obtain ⟨a1, ha1⟩ : ∃ y : gm_H, y = (h.1.set m (md_c m (zU K 0 1)), h.2) := ⟨_, rfl⟩
  have M_a1 : a1.1[m]? = some (md_c m (zU K 0 1)) := by rw [ha1]; exact gs_s hM
  have f_a1 : gh_fr h a1 (fun k => k = m) := by rw [ha1]; exact gh_set (K := fun k => k = m) gh_rf rfl _
  refine ⟨a1, ?_, M_a1, f_a1⟩
  refine gm_co_of _ (by decide +kernel) rfl (Nat.le_of_ble_eq_true rfl) rfl ?_
  refine gm_go.ru (gm_aload_n dX11_type_0 rfl (by first | exact Or.inl ⟨_, rfl⟩ | exact Or.inr ⟨_, rfl⟩)) ?_
  refine gm_go.ru (gm_iload_n dX11_type_1 rfl) ?_
  refine gm_go.ru (gi_bipush dX11_type_2 (by decide +kernel)) ?_
  refine gm_go.ru (gi_bipush dX11_type_4 (by decide +kernel)) ?_
  refine gm_go.ru (gm_cS dX11_type_6 (ct_mIsIn hx (by decide) (by decide)) rfl mt_X11_isIn ms_X11_isIn (lk_X11_63 rfl) rfl (Nat.le_of_ble_eq_true rfl) (by decide)) ?_
  rw [zB_f hq]
  refine gm_go.ru (gi_if_ne_f 16 dX11_type_9 (by decide) (by decide) rfl) ?_
  refine gm_go.ru (gi_const dX11_type_12) ?_
  refine gm_go.ru (gm_goto (tgt := 30) dX11_type_13 (by decide)) ?_
  refine gm_go.ru (gm_put dX11_type_30 (fp_X11_53 rfl) hM (Nat.le_of_ble_eq_true rfl) (by first | exact ⟨rfl, rfl⟩ | exact trivial)) ?_
  refine gm_hp ha1 ?_
  refine gm_go.ru (gm_aload_n dX11_type_33 rfl (by first | exact Or.inl ⟨_, rfl⟩ | exact Or.inr ⟨_, rfl⟩)) ?_
  refine gm_go.ru (gm_get dX11_type_34 (fl_X11_53 rfl) M_a1 rfl) ?_
  refine gm_go.ru (gi_if_eq_f 42 dX11_type_37 (by decide) (by rw [zU_s]; decide) (by rw [zU_s]; decide)) ?_
  refine gm_go.ru (gi_const dX11_type_40) ?_
  exact gm_iret dX11_type_41 rfl
set_option maxRecDepth 4000 in
theorem ct_m_typeY {h : gm_H} {m : Nat} {K : Nat → Int} (hM : h.1[m]? = some (md_c m K)) {X : Nat → Int} {c : Nat} (hX : h.1[m + 8]? = some (gA 60 X)) (hc : K 17 = (c : Int)) (hc60 : c ≤ 60) {x : Int} (hx : zR x) (hq : 32 ≤ x ∧ x ≤ 126) (hl : c = 60) : ∃ h', gm_co mX11_type 2 [.ref m, .int (zI x)] h (.inl (some (.int (zI (0))))) h' ∧ h'.1[m]? = some (md_c m (zU K 0 2)) ∧ gh_fr h h' (fun k => k = m) := by
  obtain ⟨a1, ha1⟩ : ∃ y : gm_H, y = (h.1.set m (md_c m (zU K 0 2)), h.2) := ⟨_, rfl⟩
  have M_a1 : a1.1[m]? = some (md_c m (zU K 0 2)) := by rw [ha1]; exact gs_s hM
  have f_a1 : gh_fr h a1 (fun k => k = m) := by rw [ha1]; exact gh_set (K := fun k => k = m) gh_rf rfl _
  refine ⟨a1, ?_, M_a1, f_a1⟩
  refine gm_co_of _ (by decide +kernel) rfl (Nat.le_of_ble_eq_true rfl) rfl ?_
  refine gm_go.ru (gm_aload_n dX11_type_0 rfl (by first | exact Or.inl ⟨_, rfl⟩ | exact Or.inr ⟨_, rfl⟩)) ?_
  refine gm_go.ru (gm_iload_n dX11_type_1 rfl) ?_
  refine gm_go.ru (gi_bipush dX11_type_2 (by decide +kernel)) ?_
  refine gm_go.ru (gi_bipush dX11_type_4 (by decide +kernel)) ?_
  refine gm_go.ru (gm_cS dX11_type_6 (ct_mIsIn hx (by decide) (by decide)) rfl mt_X11_isIn ms_X11_isIn (lk_X11_63 rfl) rfl (Nat.le_of_ble_eq_true rfl) (by decide)) ?_
  rw [zB_t hq]
  refine gm_go.ru (gi_if_ne_t (tgt := 16) dX11_type_9 (by decide) (by decide) (by decide)) ?_
  refine gm_go.ru (gm_aload_n dX11_type_16 rfl (by first | exact Or.inl ⟨_, rfl⟩ | exact Or.inr ⟨_, rfl⟩)) ?_
  refine gm_go.ru (gm_get dX11_type_17 (fl_X11_213 rfl) hM rfl) ?_
  rw [hc]
  refine gm_go.ru (gi_bipush dX11_type_20 (by decide +kernel)) ?_
  refine gm_go.ru (gi_icmp_ne_f 29 dX11_type_22 (by decide) (by omega) (by omega) (by omega)) ?_
  refine gm_go.ru (gi_const dX11_type_25) ?_
  refine gm_go.ru (gm_goto (tgt := 30) dX11_type_26 (by decide)) ?_
  refine gm_go.ru (gm_put dX11_type_30 (fp_X11_53 rfl) hM (Nat.le_of_ble_eq_true rfl) (by first | exact ⟨rfl, rfl⟩ | exact trivial)) ?_
  refine gm_hp ha1 ?_
  refine gm_go.ru (gm_aload_n dX11_type_33 rfl (by first | exact Or.inl ⟨_, rfl⟩ | exact Or.inr ⟨_, rfl⟩)) ?_
  refine gm_go.ru (gm_get dX11_type_34 (fl_X11_53 rfl) M_a1 rfl) ?_
  refine gm_go.ru (gi_if_eq_f 42 dX11_type_37 (by decide) (by rw [zU_s]; decide) (by rw [zU_s]; decide)) ?_
  refine gm_go.ru (gi_const dX11_type_40) ?_
  exact gm_iret dX11_type_41 rfl
set_option maxRecDepth 4000 in
theorem ct_m_type {h : gm_H} {m : Nat} {K : Nat → Int} (hM : h.1[m]? = some (md_c m K)) {X : Nat → Int} {c : Nat} (hX : h.1[m + 8]? = some (gA 60 X)) (hc : K 17 = (c : Int)) (hc60 : c ≤ 60) {x : Int} (hx : zR x) (hq : 32 ≤ x ∧ x ≤ 126) (hl : c < 60) : ∃ h', gm_co mX11_type 2 [.ref m, .int (zI x)] h (.inl (some (.int (zI ((c + 1 : Nat) : Int))))) h' ∧ h'.1[m]? = some (md_c m (zU (zU K 0 0) 17 ((c + 1 : Nat) : Int))) ∧ h'.1[m + 8]? = some (gA 60 (zU X c x)) ∧ gh_fr h h' (fun k => k = m ∨ k = m + 8) := by
  obtain ⟨a1, ha1⟩ : ∃ y : gm_H, y = (h.1.set m (md_c m (zU K 0 0)), h.2) := ⟨_, rfl⟩
  have M_a1 : a1.1[m]? = some (md_c m (zU K 0 0)) := by rw [ha1]; exact gs_s hM
  have f_a1 : gh_fr h a1 (fun k => k = m) := by rw [ha1]; exact gh_set (K := fun k => k = m) gh_rf rfl _
  have X_1 := gh_at f_a1 hX (by omega)
  obtain ⟨a2, ha2⟩ : ∃ y : gm_H, y = (a1.1.set (m + 8) (gA 60 (zU X c x)), a1.2) := ⟨_, rfl⟩
  have M_2 : a2.1[m]? = some (md_c m (zU K 0 0)) := by rw [ha2]; exact gs_n M_a1 (by omega)
  have X_2 : a2.1[m + 8]? = some (gA 60 (zU X c x)) := by rw [ha2]; exact gs_s X_1
  have f_2 : gh_fr a1 a2 (fun k => k = m ∨ k = m + 8) := by rw [ha2]; exact gh_set gh_rf (Or.inr rfl) _
  obtain ⟨a3, ha3⟩ : ∃ y : gm_H, y = (a2.1.set m (md_c m (zU (zU K 0 0) 17 ((c + 1 : Nat) : Int))), a2.2) := ⟨_, rfl⟩
  have M_3 : a3.1[m]? = some (md_c m (zU (zU K 0 0) 17 ((c + 1 : Nat) : Int))) := by rw [ha3]; exact gs_s M_2
  have k17 : zU K 0 0 17 = (c : Int) := (zU_n (by decide)).trans hc
  refine ⟨a3, ?_, M_3, by rw [ha3]; exact gs_n X_2 (by omega), gh_tr (gh_mono f_a1 fun k z => Or.inl z) (gh_tr f_2 (by rw [ha3]; exact gh_set gh_rf (Or.inl rfl) _))⟩
  refine gm_co_of _ (by decide +kernel) rfl (Nat.le_of_ble_eq_true rfl) rfl ?_
  refine gm_go.ru (gm_aload_n dX11_type_0 rfl (by first | exact Or.inl ⟨_, rfl⟩ | exact Or.inr ⟨_, rfl⟩)) ?_
  refine gm_go.ru (gm_iload_n dX11_type_1 rfl) ?_
  refine gm_go.ru (gi_bipush dX11_type_2 (by decide +kernel)) ?_
  refine gm_go.ru (gi_bipush dX11_type_4 (by decide +kernel)) ?_
  refine gm_go.ru (gm_cS dX11_type_6 (ct_mIsIn hx (by decide) (by decide)) rfl mt_X11_isIn ms_X11_isIn (lk_X11_63 rfl) rfl (Nat.le_of_ble_eq_true rfl) (by decide)) ?_
  rw [zB_t hq]
  refine gm_go.ru (gi_if_ne_t (tgt := 16) dX11_type_9 (by decide) (by decide) (by decide)) ?_
  refine gm_go.ru (gm_aload_n dX11_type_16 rfl (by first | exact Or.inl ⟨_, rfl⟩ | exact Or.inr ⟨_, rfl⟩)) ?_
  refine gm_go.ru (gm_get dX11_type_17 (fl_X11_213 rfl) hM rfl) ?_
  rw [hc]
  refine gm_go.ru (gi_bipush dX11_type_20 (by decide +kernel)) ?_
  refine gm_go.ru (gi_icmp_ne_t (tgt := 29) dX11_type_22 (by decide) (by omega) (by omega) (by omega)) ?_
  refine gm_go.ru (gi_const dX11_type_29) ?_
  refine gm_go.ru (gm_put dX11_type_30 (fp_X11_53 rfl) hM (Nat.le_of_ble_eq_true rfl) (by first | exact ⟨rfl, rfl⟩ | exact trivial)) ?_
  refine gm_hp ha1 ?_
  refine gm_go.ru (gm_aload_n dX11_type_33 rfl (by first | exact Or.inl ⟨_, rfl⟩ | exact Or.inr ⟨_, rfl⟩)) ?_
  refine gm_go.ru (gm_get dX11_type_34 (fl_X11_53 rfl) M_a1 rfl) ?_
  refine gm_go.ru (gi_if_eq_t (tgt := 42) dX11_type_37 (by decide) (by rw [zU_s]; decide) zU_s) ?_
  refine gm_go.ru (gm_aload_n dX11_type_42 rfl (by first | exact Or.inl ⟨_, rfl⟩ | exact Or.inr ⟨_, rfl⟩)) ?_
  refine gm_go.ru (gm_get dX11_type_43 (fl_X11_38 rfl) M_a1 rfl) ?_
  refine gm_go.ru (gm_aload_n dX11_type_46 rfl (by first | exact Or.inl ⟨_, rfl⟩ | exact Or.inr ⟨_, rfl⟩)) ?_
  refine gm_go.ru (gm_get dX11_type_47 (fl_X11_213 rfl) M_a1 rfl) ?_
  rw [k17]
  refine gm_go.ru (gm_iload_n dX11_type_50 rfl) ?_
  refine gm_go.ru (gi_astN dX11_type_51 X_1 (by omega) (by decide)) ?_
  refine gm_hp ha2 ?_
  refine gm_go.ru (gm_aload_n dX11_type_52 rfl (by first | exact Or.inl ⟨_, rfl⟩ | exact Or.inr ⟨_, rfl⟩)) ?_
  refine gm_go.ru (gm_dup dX11_type_53 rfl) ?_
  refine gm_go.ru (gm_get dX11_type_54 (fl_X11_213 rfl) M_2 rfl) ?_
  rw [k17]
  refine gm_go.ru (gi_const dX11_type_57) ?_
  refine gm_go.ru (gi_add dX11_type_58) ?_
  refine gm_go.ru (gm_put dX11_type_59 (fp_X11_213 rfl) M_2 (Nat.le_of_ble_eq_true rfl) (by first | exact ⟨rfl, rfl⟩ | exact trivial)) ?_
  refine gm_hp ha3 ?_
  refine gm_go.ru (gm_aload_n dX11_type_62 rfl (by first | exact Or.inl ⟨_, rfl⟩ | exact Or.inr ⟨_, rfl⟩)) ?_
  refine gm_go.ru (gm_get dX11_type_63 (fl_X11_213 rfl) M_3 rfl) ?_
  rw [zU_s]
  exact gm_iret dX11_type_66 rfl
set_option maxRecDepth 4000 in
theorem ct_m_save {h : gm_H} {m : Nat} {K F : Nat → Int} (hM : h.1[m]? = some (md_c m K)) (hV : h.1[m + 1]? = some (gA 118 F)) {S : Nat → Int} (hS : h.1[m + 3]? = some (gA 118 S)) : ∃ h' S', gm_co mX11_save 2 [.ref m] h (.inl (some (.int (zI (F 2))))) h' ∧ h'.1[m]? = some (md_c m (zU (zU K 0 0) 4 1)) ∧ h'.1[m + 3]? = some (gA 118 S') ∧ (∀ k, k < 118 → S' k = F k) ∧ gh_fr h h' (fun k => k = m ∨ k = m + 3) := by
  obtain ⟨a1, ha1⟩ : ∃ y : gm_H, y = (h.1.set m (md_c m (zU K 0 0)), h.2) := ⟨_, rfl⟩
  have M_a1 : a1.1[m]? = some (md_c m (zU K 0 0)) := by rw [ha1]; exact gs_s hM
  have f_a1 : gh_fr h a1 (fun k => k = m) := by rw [ha1]; exact gh_set (K := fun k => k = m) gh_rf rfl _
  have V_1 := gh_at f_a1 hV (by omega)
  have S_1 := gh_at f_a1 hS (by omega)
  obtain ⟨a2, e1, S_2, f_2⟩ := ct_mLays (show m + 3 ≠ m + 1 by omega) S_1 V_1
  have M_2 := gh_at f_2 M_a1 (by omega)
  have V_2 := gh_at f_2 V_1 (by omega)
  obtain ⟨a3, ha3⟩ : ∃ y : gm_H, y = (a2.1.set m (md_c m (zU (zU K 0 0) 4 1)), a2.2) := ⟨_, rfl⟩
  have M_3 : a3.1[m]? = some (md_c m (zU (zU K 0 0) 4 1)) := by rw [ha3]; exact gs_s M_2
  have V_3 : a3.1[m + 1]? = some (gA 118 F) := by rw [ha3]; exact gs_n V_2 (by omega)
  refine ⟨a3, _, ?_, M_3, by rw [ha3]; exact gs_n S_2 (by omega), fun k hk => zLy_in F S hk, gh_tr (gh_mono f_a1 fun k z => Or.inl z) (gh_tr (gh_mono f_2 fun k z => Or.inr z) (by rw [ha3]; exact gh_set gh_rf (Or.inl rfl) _))⟩
  refine gm_co_of _ (by decide +kernel) rfl (Nat.le_of_ble_eq_true rfl) rfl ?_
  refine gm_go.ru (gm_aload_n dX11_save_0 rfl (by first | exact Or.inl ⟨_, rfl⟩ | exact Or.inr ⟨_, rfl⟩)) ?_
  refine gm_go.ru (gi_const dX11_save_1) ?_
  refine gm_go.ru (gm_put dX11_save_2 (fp_X11_53 rfl) hM (Nat.le_of_ble_eq_true rfl) (by first | exact ⟨rfl, rfl⟩ | exact trivial)) ?_
  refine gm_hp ha1 ?_
  refine gm_go.ru (gm_aload_n dX11_save_5 rfl (by first | exact Or.inl ⟨_, rfl⟩ | exact Or.inr ⟨_, rfl⟩)) ?_
  refine gm_go.ru (gm_get dX11_save_6 (fl_X11_23 rfl) M_a1 rfl) ?_
  refine gm_go.ru (gm_aload_n dX11_save_9 rfl (by first | exact Or.inl ⟨_, rfl⟩ | exact Or.inr ⟨_, rfl⟩)) ?_
  refine gm_go.ru (gm_get dX11_save_10 (fl_X11_16 rfl) M_a1 rfl) ?_
  refine gm_go.ru (gm_cS0 dX11_save_13 (e1) rfl mt_X11_lays ms_X11_lays (lk_X11_56 rfl) rfl (Nat.le_of_ble_eq_true rfl) (by decide)) ?_
  refine gm_go.ru (gm_aload_n dX11_save_16 rfl (by first | exact Or.inl ⟨_, rfl⟩ | exact Or.inr ⟨_, rfl⟩)) ?_
  refine gm_go.ru (gi_const dX11_save_17) ?_
  refine gm_go.ru (gm_put dX11_save_18 (fp_X11_257 rfl) M_2 (Nat.le_of_ble_eq_true rfl) (by first | exact ⟨rfl, rfl⟩ | exact trivial)) ?_
  refine gm_hp ha3 ?_
  refine gm_go.ru (gm_aload_n dX11_save_21 rfl (by first | exact Or.inl ⟨_, rfl⟩ | exact Or.inr ⟨_, rfl⟩)) ?_
  refine gm_go.ru (gm_get dX11_save_22 (fl_X11_16 rfl) M_3 rfl) ?_
  refine gm_go.ru (gi_const dX11_save_25) ?_
  refine gm_go.ru (gi_aldN (a := 2) dX11_save_26 V_3 (by decide) (by decide)) ?_
  exact gm_iret dX11_save_27 rfl
set_option maxRecDepth 4000 in
theorem ct_m_restoreX {h : gm_H} {m : Nat} {K : Nat → Int} (hM : h.1[m]? = some (md_c m K)) (hq : K 4 = 0) : ∃ h', gm_co mX11_restore 2 [.ref m] h (.inl (some (.int (zI (0))))) h' ∧ h'.1[m]? = some (md_c m (zU K 0 1)) ∧ gh_fr h h' (fun k => k = m) := by
  obtain ⟨a1, ha1⟩ : ∃ y : gm_H, y = (h.1.set m (md_c m (zU K 0 1)), h.2) := ⟨_, rfl⟩
  have M_a1 : a1.1[m]? = some (md_c m (zU K 0 1)) := by rw [ha1]; exact gs_s hM
  have f_a1 : gh_fr h a1 (fun k => k = m) := by rw [ha1]; exact gh_set (K := fun k => k = m) gh_rf rfl _
  refine ⟨a1, ?_, M_a1, f_a1⟩
  refine gm_co_of _ (by decide +kernel) rfl (Nat.le_of_ble_eq_true rfl) rfl ?_
  refine gm_go.ru (gm_aload_n dX11_restore_0 rfl (by first | exact Or.inl ⟨_, rfl⟩ | exact Or.inr ⟨_, rfl⟩)) ?_
  refine gm_go.ru (gm_aload_n dX11_restore_1 rfl (by first | exact Or.inl ⟨_, rfl⟩ | exact Or.inr ⟨_, rfl⟩)) ?_
  refine gm_go.ru (gm_get dX11_restore_2 (fl_X11_257 rfl) hM rfl) ?_
  rw [hq]
  refine gm_go.ru (gi_if_eq_t (tgt := 12) dX11_restore_5 (by decide) (by decide) rfl) ?_
  refine gm_go.ru (gi_const dX11_restore_12) ?_
  refine gm_go.ru (gm_put dX11_restore_13 (fp_X11_53 rfl) hM (Nat.le_of_ble_eq_true rfl) (by first | exact ⟨rfl, rfl⟩ | exact trivial)) ?_
  refine gm_hp ha1 ?_
  refine gm_go.ru (gm_aload_n dX11_restore_16 rfl (by first | exact Or.inl ⟨_, rfl⟩ | exact Or.inr ⟨_, rfl⟩)) ?_
  refine gm_go.ru (gm_get dX11_restore_17 (fl_X11_53 rfl) M_a1 rfl) ?_
  refine gm_go.ru (gi_if_eq_f 25 dX11_restore_20 (by decide) (by rw [zU_s]; decide) (by rw [zU_s]; decide)) ?_
  refine gm_go.ru (gi_const dX11_restore_23) ?_
  exact gm_iret dX11_restore_24 rfl
set_option maxRecDepth 4000 in
theorem ct_m_restore {h : gm_H} {m : Nat} {K F : Nat → Int} (hM : h.1[m]? = some (md_c m K)) (hV : h.1[m + 1]? = some (gA 118 F)) {S : Nat → Int} (hS : h.1[m + 3]? = some (gA 118 S)) (hq : K 4 = 1) : ∃ h' F', gm_co mX11_restore 2 [.ref m] h (.inl (some (.int (zI (S 2))))) h' ∧ h'.1[m]? = some (md_c m (zU (zU K 0 0) 1 0)) ∧ h'.1[m + 1]? = some (gA 118 F') ∧ (∀ k, k < 118 → F' k = S k) ∧ gh_fr h h' (fun k => k = m ∨ k = m + 1) := by
  obtain ⟨a1, ha1⟩ : ∃ y : gm_H, y = (h.1.set m (md_c m (zU K 0 0)), h.2) := ⟨_, rfl⟩
  have M_a1 : a1.1[m]? = some (md_c m (zU K 0 0)) := by rw [ha1]; exact gs_s hM
  have f_a1 : gh_fr h a1 (fun k => k = m) := by rw [ha1]; exact gh_set (K := fun k => k = m) gh_rf rfl _
  have V_1 := gh_at f_a1 hV (by omega)
  have S_1 := gh_at f_a1 hS (by omega)
  obtain ⟨a2, e1, V_2, f_2⟩ := ct_mLays (show m + 1 ≠ m + 3 by omega) V_1 S_1
  have M_2 := gh_at f_2 M_a1 (by omega)
  obtain ⟨a3, ha3⟩ : ∃ y : gm_H, y = (a2.1.set m (md_c m (zU (zU K 0 0) 1 0)), a2.2) := ⟨_, rfl⟩
  have M_3 : a3.1[m]? = some (md_c m (zU (zU K 0 0) 1 0)) := by rw [ha3]; exact gs_s M_2
  have V_3 : a3.1[m + 1]? = some (gA 118 (zLy S F 118)) := by rw [ha3]; exact gs_n V_2 (by omega)
  refine ⟨a3, _, ?_, M_3, V_3, fun k hk => zLy_in S F hk, gh_tr (gh_mono f_a1 fun k z => Or.inl z) (gh_tr (gh_mono f_2 fun k z => Or.inr z) (by rw [ha3]; exact gh_set gh_rf (Or.inl rfl) _))⟩
  refine gm_co_of _ (by decide +kernel) rfl (Nat.le_of_ble_eq_true rfl) rfl ?_
  refine gm_go.ru (gm_aload_n dX11_restore_0 rfl (by first | exact Or.inl ⟨_, rfl⟩ | exact Or.inr ⟨_, rfl⟩)) ?_
  refine gm_go.ru (gm_aload_n dX11_restore_1 rfl (by first | exact Or.inl ⟨_, rfl⟩ | exact Or.inr ⟨_, rfl⟩)) ?_
  refine gm_go.ru (gm_get dX11_restore_2 (fl_X11_257 rfl) hM rfl) ?_
  rw [hq]
  refine gm_go.ru (gi_if_eq_f 12 dX11_restore_5 (by decide) (by decide) (by decide)) ?_
  refine gm_go.ru (gi_const dX11_restore_8) ?_
  refine gm_go.ru (gm_goto (tgt := 13) dX11_restore_9 (by decide)) ?_
  refine gm_go.ru (gm_put dX11_restore_13 (fp_X11_53 rfl) hM (Nat.le_of_ble_eq_true rfl) (by first | exact ⟨rfl, rfl⟩ | exact trivial)) ?_
  refine gm_hp ha1 ?_
  refine gm_go.ru (gm_aload_n dX11_restore_16 rfl (by first | exact Or.inl ⟨_, rfl⟩ | exact Or.inr ⟨_, rfl⟩)) ?_
  refine gm_go.ru (gm_get dX11_restore_17 (fl_X11_53 rfl) M_a1 rfl) ?_
  refine gm_go.ru (gi_if_eq_t (tgt := 25) dX11_restore_20 (by decide) (by rw [zU_s]; decide) zU_s) ?_
  refine gm_go.ru (gm_aload_n dX11_restore_25 rfl (by first | exact Or.inl ⟨_, rfl⟩ | exact Or.inr ⟨_, rfl⟩)) ?_
  refine gm_go.ru (gm_get dX11_restore_26 (fl_X11_16 rfl) M_a1 rfl) ?_
  refine gm_go.ru (gm_aload_n dX11_restore_29 rfl (by first | exact Or.inl ⟨_, rfl⟩ | exact Or.inr ⟨_, rfl⟩)) ?_
  refine gm_go.ru (gm_get dX11_restore_30 (fl_X11_23 rfl) M_a1 rfl) ?_
  refine gm_go.ru (gm_cS0 dX11_restore_33 (e1) rfl mt_X11_lays ms_X11_lays (lk_X11_56 rfl) rfl (Nat.le_of_ble_eq_true rfl) (by decide)) ?_
  refine gm_go.ru (gm_aload_n dX11_restore_36 rfl (by first | exact Or.inl ⟨_, rfl⟩ | exact Or.inr ⟨_, rfl⟩)) ?_
  refine gm_go.ru (gi_const dX11_restore_37) ?_
  refine gm_go.ru (gm_put dX11_restore_38 (fp_X11_60 rfl) M_2 (Nat.le_of_ble_eq_true rfl) (by first | exact ⟨rfl, rfl⟩ | exact trivial)) ?_
  refine gm_hp ha3 ?_
  refine gm_go.ru (gm_aload_n dX11_restore_41 rfl (by first | exact Or.inl ⟨_, rfl⟩ | exact Or.inr ⟨_, rfl⟩)) ?_
  refine gm_go.ru (gm_get dX11_restore_42 (fl_X11_16 rfl) M_3 rfl) ?_
  refine gm_go.ru (gi_const dX11_restore_45) ?_
  refine gm_go.ru (gi_aldN (a := 2) dX11_restore_46 V_3 (by decide) (by decide)) ?_
  rw [zLy_in S F (show 2 < 118 by decide)]
  exact gm_iret dX11_restore_47 rfl
set_option maxRecDepth 4000 in
theorem ct_m_undoX {h : gm_H} {m : Nat} {K : Nat → Int} (hM : h.1[m]? = some (md_c m K)) (hq : K 1 = 0) : ∃ h', gm_co mX11_undo 2 [.ref m] h (.inl (some (.int (zI (0))))) h' ∧ h'.1[m]? = some (md_c m (zU K 0 1)) ∧ gh_fr h h' (fun k => k = m) := by
  obtain ⟨a1, ha1⟩ : ∃ y : gm_H, y = (h.1.set m (md_c m (zU K 0 1)), h.2) := ⟨_, rfl⟩
  have M_a1 : a1.1[m]? = some (md_c m (zU K 0 1)) := by rw [ha1]; exact gs_s hM
  have f_a1 : gh_fr h a1 (fun k => k = m) := by rw [ha1]; exact gh_set (K := fun k => k = m) gh_rf rfl _
  refine ⟨a1, ?_, M_a1, f_a1⟩
  refine gm_co_of _ (by decide +kernel) rfl (Nat.le_of_ble_eq_true rfl) rfl ?_
  refine gm_go.ru (gm_aload_n dX11_undo_0 rfl (by first | exact Or.inl ⟨_, rfl⟩ | exact Or.inr ⟨_, rfl⟩)) ?_
  refine gm_go.ru (gm_aload_n dX11_undo_1 rfl (by first | exact Or.inl ⟨_, rfl⟩ | exact Or.inr ⟨_, rfl⟩)) ?_
  refine gm_go.ru (gm_get dX11_undo_2 (fl_X11_60 rfl) hM rfl) ?_
  rw [hq]
  refine gm_go.ru (gi_if_ne_f 12 dX11_undo_5 (by decide) (by decide) rfl) ?_
  refine gm_go.ru (gi_const dX11_undo_8) ?_
  refine gm_go.ru (gm_goto (tgt := 13) dX11_undo_9 (by decide)) ?_
  refine gm_go.ru (gm_put dX11_undo_13 (fp_X11_53 rfl) hM (Nat.le_of_ble_eq_true rfl) (by first | exact ⟨rfl, rfl⟩ | exact trivial)) ?_
  refine gm_hp ha1 ?_
  refine gm_go.ru (gm_aload_n dX11_undo_16 rfl (by first | exact Or.inl ⟨_, rfl⟩ | exact Or.inr ⟨_, rfl⟩)) ?_
  refine gm_go.ru (gm_get dX11_undo_17 (fl_X11_53 rfl) M_a1 rfl) ?_
  refine gm_go.ru (gi_if_eq_f 25 dX11_undo_20 (by decide) (by rw [zU_s]; decide) (by rw [zU_s]; decide)) ?_
  refine gm_go.ru (gi_const dX11_undo_23) ?_
  exact gm_iret dX11_undo_24 rfl
def zPu (P : Nat → Int) (c : Nat) : Nat → Int := fun k => P (118 * c + k)
set_option maxRecDepth 4000 in
theorem un_1 {m c : Nat} {K F P : Nat → Int} (h8 : c < 8) (hc : K 1 = (c : Int)) : ∀ (z j : Nat) (h : gm_H), j + z = 118 → h.1[m]? = some (md_c m K) → h.1[m + 1]? = some (gA 118 (zLy (zPu P c) F j)) → h.1[m + 4]? = some (gA 944 P) → ∃ h', gm_ru mX11_undo 2 (37, [some (.ref m), some (.int (zI (j : Int)))], [], h) (.inl (some (.int (zI (c : Int))))) h' ∧ h'.1[m]? = some (md_c m K) ∧ h'.1[m + 1]? = some (gA 118 (zLy (zPu P c) F 118)) ∧ gh_fr h h' (fun k => k = m + 1) := by
  intro z
  induction z with
  | zero =>
    intro j h hj hM hV hP
    obtain rfl : j = 118 := by omega
    refine ⟨h, ?_, hM, hV, gh_rf⟩
    refine gm_go.ru (gm_iload_n dX11_undo_37 rfl) ?_
    refine gm_go.ru (gi_bipush dX11_undo_38 (by decide +kernel)) ?_
    refine gm_go.ru (gi_icmp_ge_t (tgt := 69) dX11_undo_40 (by decide) (by omega) (by omega) (by omega)) ?_
    refine gm_go.ru (gm_aload_n dX11_undo_69 rfl (by first | exact Or.inl ⟨_, rfl⟩ | exact Or.inr ⟨_, rfl⟩)) ?_
    refine gm_go.ru (gm_get dX11_undo_70 (fl_X11_60 rfl) hM rfl) ?_
    rw [hc]
    exact gm_iret dX11_undo_73 rfl
  | succ z ih =>
    intro j h hj hM hV hP
    obtain ⟨a1, ha1⟩ : ∃ y : gm_H, y = (h.1.set (m + 1) (gA 118 (zU (zLy (zPu P c) F j) j (zPu P c j))), h.2) := ⟨_, rfl⟩
    have f1 : gh_fr h a1 (fun k => k = m + 1) := by rw [ha1]; exact gh_set (K := (fun k => k = m + 1)) gh_rf rfl _
    obtain ⟨h', e1, e2, e3, e4⟩ := ih (j + 1) a1 (by omega) (gh_at f1 hM (by omega)) (by rw [ha1, zLy_s]; exact gs_s hV) (gh_at f1 hP (by omega))
    refine ⟨h', ?_, e2, e3, gh_tr f1 e4⟩
    refine gm_go.ru (gm_iload_n dX11_undo_37 rfl) ?_
    refine gm_go.ru (gi_bipush dX11_undo_38 (by decide +kernel)) ?_
    refine gm_go.ru (gi_icmp_ge_f 69 dX11_undo_40 (by decide) (by omega) (by omega) (by omega)) ?_
    refine gm_go.ru (gm_aload_n dX11_undo_43 rfl (by first | exact Or.inl ⟨_, rfl⟩ | exact Or.inr ⟨_, rfl⟩)) ?_
    refine gm_go.ru (gm_get dX11_undo_44 (fl_X11_16 rfl) hM rfl) ?_
    refine gm_go.ru (gm_iload_n dX11_undo_47 rfl) ?_
    refine gm_go.ru (gm_aload_n dX11_undo_48 rfl (by first | exact Or.inl ⟨_, rfl⟩ | exact Or.inr ⟨_, rfl⟩)) ?_
    refine gm_go.ru (gm_get dX11_undo_49 (fl_X11_26 rfl) hM rfl) ?_
    refine gm_go.ru (gm_aload_n dX11_undo_52 rfl (by first | exact Or.inl ⟨_, rfl⟩ | exact Or.inr ⟨_, rfl⟩)) ?_
    refine gm_go.ru (gm_get dX11_undo_53 (fl_X11_60 rfl) hM rfl) ?_
    rw [hc]
    refine gm_go.ru (gi_bipush dX11_undo_56 (by decide +kernel)) ?_
    refine gm_go.ru (gi_mul dX11_undo_58) ?_
    refine gm_go.ru (gm_iload_n dX11_undo_59 rfl) ?_
    refine gm_go.ru (gi_add dX11_undo_60) ?_
    rw [show (c : Int) * 118 + (j : Int) = ((118 * c + j : Nat) : Int) by omega]
    refine gm_go.ru (gi_aldN dX11_undo_61 hP (by omega) (by decide)) ?_
    refine gm_go.ru (gi_astN (z := zPu P c j) dX11_undo_62 hV (by omega) (by decide)) ?_
    refine gm_hp ha1 ?_
    refine gm_go.ru (gi_iinc (ls' := [_, _]) dX11_undo_63 rfl (by decide) rfl) ?_
    refine gm_go.ru (gm_goto (tgt := 37) dX11_undo_66 (by decide)) ?_
    exact e1
set_option maxRecDepth 4000 in
theorem ct_m_undo {h : gm_H} {m : Nat} {K F : Nat → Int} (hM : h.1[m]? = some (md_c m K)) (hV : h.1[m + 1]? = some (gA 118 F)) {P : Nat → Int} {c : Nat} (hP : h.1[m + 4]? = some (gA 944 P)) (h8 : c < 8) (hc : K 1 = ((c + 1 : Nat) : Int)) : ∃ h' F', gm_co mX11_undo 2 [.ref m] h (.inl (some (.int (zI (c : Int))))) h' ∧ h'.1[m]? = some (md_c m (zU (zU K 0 0) 1 (c : Int))) ∧ h'.1[m + 1]? = some (gA 118 F') ∧ (∀ k, k < 118 → F' k = zSt8 P c k) ∧ gh_fr h h' (fun k => k = m ∨ k = m + 1) := by
  obtain ⟨a1, ha1⟩ : ∃ y : gm_H, y = (h.1.set m (md_c m (zU K 0 0)), h.2) := ⟨_, rfl⟩
  have M_a1 : a1.1[m]? = some (md_c m (zU K 0 0)) := by rw [ha1]; exact gs_s hM
  have f_a1 : gh_fr h a1 (fun k => k = m) := by rw [ha1]; exact gh_set (K := fun k => k = m) gh_rf rfl _
  have V_1 := gh_at f_a1 hV (by omega)
  have P_1 := gh_at f_a1 hP (by omega)
  obtain ⟨a2, ha2⟩ : ∃ y : gm_H, y = (a1.1.set m (md_c m (zU (zU K 0 0) 1 (c : Int))), a1.2) := ⟨_, rfl⟩
  have f_2 : gh_fr a1 a2 (fun k => k = m) := by rw [ha2]; exact gh_set (K := fun k => k = m) gh_rf rfl _
  have M_2 : a2.1[m]? = some (md_c m (zU (zU K 0 0) 1 (c : Int))) := by rw [ha2]; exact gs_s M_a1
  have k1 : zU K 0 0 1 = ((c + 1 : Nat) : Int) := (zU_n (by decide)).trans hc
  obtain ⟨h', e1, e2, e3, e4⟩ := un_1 (F := F) (P := P) (K := zU (zU K 0 0) 1 (c : Int)) h8 zU_s 118 0 a2 rfl M_2 (by rw [zLy_0]; exact gh_at f_2 V_1 (by omega)) (gh_at f_2 P_1 (by omega))
  refine ⟨h', _, ?_, e2, e3, fun k hk => zLy_in _ F hk, gh_tr (gh_mono f_a1 fun k z => Or.inl z) (gh_tr (gh_mono f_2 fun k z => Or.inl z) (gh_mono e4 fun k z => Or.inr z))⟩
  refine gm_co_of _ (by decide +kernel) rfl (Nat.le_of_ble_eq_true rfl) rfl ?_
  refine gm_go.ru (gm_aload_n dX11_undo_0 rfl (by first | exact Or.inl ⟨_, rfl⟩ | exact Or.inr ⟨_, rfl⟩)) ?_
  refine gm_go.ru (gm_aload_n dX11_undo_1 rfl (by first | exact Or.inl ⟨_, rfl⟩ | exact Or.inr ⟨_, rfl⟩)) ?_
  refine gm_go.ru (gm_get dX11_undo_2 (fl_X11_60 rfl) hM rfl) ?_
  rw [hc]
  refine gm_go.ru (gi_if_ne_t (tgt := 12) dX11_undo_5 (by decide) (by omega) (by omega)) ?_
  refine gm_go.ru (gi_const dX11_undo_12) ?_
  refine gm_go.ru (gm_put dX11_undo_13 (fp_X11_53 rfl) hM (Nat.le_of_ble_eq_true rfl) (by first | exact ⟨rfl, rfl⟩ | exact trivial)) ?_
  refine gm_hp ha1 ?_
  refine gm_go.ru (gm_aload_n dX11_undo_16 rfl (by first | exact Or.inl ⟨_, rfl⟩ | exact Or.inr ⟨_, rfl⟩)) ?_
  refine gm_go.ru (gm_get dX11_undo_17 (fl_X11_53 rfl) M_a1 rfl) ?_
  refine gm_go.ru (gi_if_eq_t (tgt := 25) dX11_undo_20 (by decide) (by rw [zU_s]; decide) zU_s) ?_
  refine gm_go.ru (gm_aload_n dX11_undo_25 rfl (by first | exact Or.inl ⟨_, rfl⟩ | exact Or.inr ⟨_, rfl⟩)) ?_
  refine gm_go.ru (gm_dup dX11_undo_26 rfl) ?_
  refine gm_go.ru (gm_get dX11_undo_27 (fl_X11_60 rfl) M_a1 rfl) ?_
  rw [k1]
  refine gm_go.ru (gi_const dX11_undo_30) ?_
  refine gm_go.ru (gi_sub dX11_undo_31) ?_
  rw [show ((c + 1 : Nat) : Int) - 1 = (c : Int) by omega]
  refine gm_go.ru (gm_put dX11_undo_32 (fp_X11_60 rfl) M_a1 (Nat.le_of_ble_eq_true rfl) (by first | exact ⟨rfl, rfl⟩ | exact trivial)) ?_
  refine gm_hp ha2 ?_
  refine gm_go.ru (gi_const dX11_undo_35) ?_
  refine gm_go.ru (gm_istore_n (ls' := [_, _]) dX11_undo_36 (by decide) rfl) ?_
  exact e1
