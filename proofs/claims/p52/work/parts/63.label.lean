/-! the label's text -/
def zLl (v : Nat → Int) (i : Nat) (G : Nat → Int) : Nat → Nat × (Nat → Int)
  | 0 => (zsz i + 1 + zsz (v (10 + 10 * i)), zNb (v (10 + 10 * i)) (zsz i + 1) (zU (zNb i 0 G) (zsz i) 58))
  | j + 1 => ((zLl v i G j).1 + 1 + zsz (v (12 + 10 * i + j)), zNb (v (12 + 10 * i + j)) ((zLl v i G j).1 + 1) (zU (zLl v i G j).2 (zLl v i G j).1 32))
def zLz (v : Nat → Int) (i : Nat) (G : Nat → Int) : Nat × (Nat → Int) := if v (11 + 10 * i) = 1 then ((zLl v i G 8).1 + 2, zU (zU (zLl v i G 8).2 (zLl v i G 8).1 32) ((zLl v i G 8).1 + 1) 120) else if zW v i = true then ((zLl v i G 8).1 + 2, zU (zU (zLl v i G 8).2 (zLl v i G 8).1 32) ((zLl v i G 8).1 + 1) 63) else zLl v i G 8
theorem zLl_le (v : Nat → Int) (i : Nat) (G : Nat → Int) : ∀ j, (zLl v i G j).1 ≤ 7 + 4 * j
  | 0 => by have h1 := zsz_3 i; have h2 := zsz_3 (v (10 + 10 * i)); show zsz i + 1 + zsz (v (10 + 10 * i)) ≤ _; omega
  | j + 1 => by have h1 := zLl_le v i G j; have h2 := zsz_3 (v (12 + 10 * i + j)); show (zLl v i G j).1 + 1 + zsz (v (12 + 10 * i + j)) ≤ _; omega
theorem zLl_1 (v : Nat → Int) (i : Nat) (G H : Nat → Int) : ∀ j, (zLl v i G j).1 = (zLl v i H j).1
  | 0 => rfl
  | j + 1 => by show (zLl v i G j).1 + 1 + _ = (zLl v i H j).1 + 1 + _; rw [zLl_1 v i G H j]
theorem zU_cg {F G : Nat → Int} {c : Nat} {x : Int} (h : ∀ k, k < c → F k = G k) : ∀ k, k < c + 1 → zU F c x k = zU G c x k := fun k hk => by
  by_cases e : k = c
  · rw [e, zU_s, zU_s]
  · rw [zU_n e, zU_n e]; exact h k (by omega)
theorem zLl_2 (v : Nat → Int) (i : Nat) (G H : Nat → Int) : ∀ j k, k < (zLl v i G j).1 → (zLl v i G j).2 k = (zLl v i H j).2 k
  | 0, k, hk => zNb_c (zU_cg (fun k hk => zNb_c (fun k hk => absurd hk (by omega)) k (by omega))) k hk
  | j + 1, k, hk => by
    show zNb _ ((zLl v i G j).1 + 1) (zU (zLl v i G j).2 (zLl v i G j).1 32) k = zNb _ ((zLl v i H j).1 + 1) (zU (zLl v i H j).2 (zLl v i H j).1 32) k
    rw [← zLl_1 v i G H j]
    exact zNb_c (zU_cg (zLl_2 v i G H j)) k hk
theorem zLz_1 (v : Nat → Int) (i : Nat) (G H : Nat → Int) : (zLz v i G).1 = (zLz v i H).1 := by
  unfold zLz
  split
  · show (zLl v i G 8).1 + 2 = (zLl v i H 8).1 + 2; rw [zLl_1 v i G H 8]
  · split
    · show (zLl v i G 8).1 + 2 = (zLl v i H 8).1 + 2; rw [zLl_1 v i G H 8]
    · exact zLl_1 v i G H 8
theorem zLz_2 (v : Nat → Int) (i : Nat) (G H : Nat → Int) : ∀ k, k < (zLz v i G).1 → (zLz v i G).2 k = (zLz v i H).2 k := by
  intro k
  unfold zLz
  split
  · intro hk
    show zU (zU (zLl v i G 8).2 (zLl v i G 8).1 32) ((zLl v i G 8).1 + 1) 120 k = zU (zU (zLl v i H 8).2 (zLl v i H 8).1 32) ((zLl v i H 8).1 + 1) 120 k
    rw [← zLl_1 v i G H 8]
    exact zU_cg (zU_cg (zLl_2 v i G H 8)) k hk
  · split
    · intro hk
      show zU (zU (zLl v i G 8).2 (zLl v i G 8).1 32) ((zLl v i G 8).1 + 1) 63 k = zU (zU (zLl v i H 8).2 (zLl v i H 8).1 32) ((zLl v i H 8).1 + 1) 63 k
      rw [← zLl_1 v i G H 8]
      exact zU_cg (zU_cg (zLl_2 v i G H 8)) k hk
    · exact zLl_2 v i G H 8 k
theorem zU_id {F : Nat → Int} {k : Nat} {z : Int} (e : F k = z) : zU F k z = F := by
  funext j
  unfold zU
  by_cases c : j = k
  · rw [if_pos c, c, e]
  · rw [if_neg c]
theorem zLz_le (v : Nat → Int) (i : Nat) (G : Nat → Int) : (zLz v i G).1 ≤ 41 := by
  have := zLl_le v i G 8
  unfold zLz
  split
  · show (zLl v i G 8).1 + 2 ≤ 41; omega
  · split
    · show (zLl v i G 8).1 + 2 ≤ 41; omega
    · omega
theorem ks_x : ks_at 70 71 [zI 32, zI ((120 : Nat) : Int)] := ⟨by decide +kernel, by decide +kernel, by decide +kernel, by decide +kernel, by decide⟩
theorem ks_q : ks_at 72 73 [zI 32, zI ((63 : Nat) : Int)] := ⟨by decide +kernel, by decide +kernel, by decide +kernel, by decide +kernel, by decide⟩
theorem sb_len {h : gm_H} {s : Nat} {q : Nat × Nat} {G : Nat → Int} {c : Nat} (hS : sbr_at h s q G c) : s < h.1.length := by
  obtain ⟨_, _, _, ml, F, c1, _⟩ := hS
  exact (List.getElem?_eq_some_iff.mp c1).1
/-- what a label leaves of the bakery -/
def lb_ok (h : gm_H) (n : Nat) (hs ep fc : Int) (v : Nat → Int) (q : Nat × Nat) : Prop := h.1[n]? = some (by_c n hs ep fc) ∧ st_at h (n + 1) v ∧ n + 109 ≤ q.1
theorem lb_sx {h h' : gm_H} {n : Nat} {hs ep fc : Int} {v : Nat → Int} {q q' : Nat × Nat} {G : Nat → Int} {c : Nat} (hS : sbr_at h (n + 108) q G c) (f : sx h h' (n + 108) q q') (hb : lb_ok h n hs ep fc v q) : lb_ok h' n hs ep fc v q' := by
  have hl := sb_len hS
  obtain ⟨f1, f2, f3, f4⟩ := f
  obtain ⟨b1, b2, b3⟩ := hb
  have e : ∀ k, k < n + 108 → h'.1[k]? = h.1[k]? := fun k hk => f3 k (by omega) (by omega) (by omega)
  exact ⟨(e n (by omega)).trans b1, st_lo e (by omega) b2, by omega⟩
set_option maxRecDepth 4000 in
theorem ct_writeLabelX {h : gm_H} {n : Nat} {v : Nat → Int} {hs ep fc : Int} (hB : h.1[n]? = some (by_c n hs ep fc)) (hS : st_at h (n + 1) v) {i : Int} (hv : nd_iv v) (hi : zR i) (hq : ¬ (0 ≤ i ∧ i < v 0)) : gm_co mX10_writeLabel 12 [.ref n, .int (zI i)] h (.inr "java/lang/IndexOutOfBoundsException") (zTh h) := by
  refine gm_co_of _ (by decide +kernel) rfl (Nat.le_of_ble_eq_true rfl) rfl ?_
  refine gm_go.ru (gm_aload_n dX10_writeLabel_0 rfl (by first | exact Or.inl ⟨_, rfl⟩ | exact Or.inr ⟨_, rfl⟩)) ?_
  refine gm_go.ru (gm_iload_n dX10_writeLabel_1 rfl) ?_
  exact gm_pV dX10_writeLabel_2 (ct_needNeedleX hB hS hv hi hq) rfl rfl mt_X10_needNeedle mv_X10_needNeedle (lk_X10_99 rfl) (Or.inl ⟨_, 11, _, _, _, rfl, hB, rfl⟩) rfl (Nat.le_of_ble_eq_true rfl) (by decide)
set_option maxRecDepth 4000 in
theorem cwl_2 {h : gm_H} {n i : Nat} {v G : Nat → Int} {hs ep fc : Int} {q : Nat × Nat} (hb : lb_ok h n hs ep fc v q) (hv : nd_iv v) (h8 : i < 8) (hL : sbr_at h (n + 108) q (zLl v i G 8).2 (zLl v i G 8).1) : ∃ h' q', gm_ru mX10_writeLabel 12 (77, [some (.ref n), some (.int (zI (i : Int))), some (.ref (n + 1 + 1)), some (.int (zI ((8 : Nat) : Int)))], [], h) (.inl (some (.int (zI ((zLz v i G).1 : Nat))))) h' ∧ sbr_at h' (n + 108) q' (zLz v i G).2 (zLz v i G).1 ∧ sx h h' (n + 108) q q' := by
  obtain ⟨hB, hS, hq⟩ := id hb
  obtain ⟨s0, sN, sO⟩ := id hS
  obtain ⟨h1, S, D, h2, h3, nS, nD⟩ := id sN
  obtain ⟨o1, I, M, U, Y, o2, o3, o4, o5, oD⟩ := id sO
  have le := zLl_le v i G 8
  obtain ⟨_, _, _, _, _, c0, _⟩ := id hL
  unfold zLz
  by_cases c1 : v (11 + 10 * i) = 1
  ·
    rw [if_pos c1]
    obtain ⟨g, q', e1, e2, e3⟩ := ct_sbS hL ks_x (by decide) (by omega)
    obtain ⟨B9, S9, Q9⟩ := lb_sx hL e3 hb
    obtain ⟨_, _, _, _, _, c9, _⟩ := id e2
    refine ⟨g, q', ?_, e2, e3⟩
    refine gm_go.ru (gm_aload_n dX10_writeLabel_77 rfl (by first | exact Or.inl ⟨_, rfl⟩ | exact Or.inr ⟨_, rfl⟩)) ?_
    refine gm_go.ru (gm_iload_n dX10_writeLabel_78 rfl) ?_
    refine gm_go.ru (gm_cV dX10_writeLabel_79 (ct_isOut sN h8) rfl mt_X3_isOut mv_X3_isOut (lk_X10_106 rfl) (Or.inl ⟨_, 5, _, _, _, rfl, h1, rfl⟩) rfl (Nat.le_of_ble_eq_true rfl) (by decide)) ?_
    rw [zB_t c1]
    refine gm_go.ru (gi_if_eq_f 99 dX10_writeLabel_82 (by decide) (by decide) (by decide)) ?_
    refine gm_go.ru (gm_aload_n dX10_writeLabel_85 rfl (by first | exact Or.inl ⟨_, rfl⟩ | exact Or.inr ⟨_, rfl⟩)) ?_
    refine gm_go.ru (gm_get dX10_writeLabel_86 (fl_X10_47 rfl) hB rfl) ?_
    refine gm_go.ru (gm_ldcsw (k := 70) (tx := " x") dX10_writeLabel_89 (by decide +kernel)) ?_
    refine gm_go.ru (gm_cV dX10_writeLabel_92 (e1) rfl mt_J4_append_15ec4 mv_J4_append_15ec4 (lk_X10_271 rfl) (Or.inl ⟨_, 1, _, _, _, rfl, c0, rfl⟩) rfl (Nat.le_of_ble_eq_true rfl) (by decide)) ?_
    refine gm_go.ru (gm_pop dX10_writeLabel_95 rfl) ?_
    refine gm_go.ru (gm_goto (tgt := 118) dX10_writeLabel_96 (by decide)) ?_
    refine gm_go.ru (gm_aload_n dX10_writeLabel_118 rfl (by first | exact Or.inl ⟨_, rfl⟩ | exact Or.inr ⟨_, rfl⟩)) ?_
    refine gm_go.ru (gm_get dX10_writeLabel_119 (fl_X10_47 rfl) B9 rfl) ?_
    refine gm_go.ru (gm_cV dX10_writeLabel_122 (ct_sbLen e2) rfl mt_J4_length_8abf5 mv_J4_length_8abf5 (lk_X10_276 rfl) (Or.inl ⟨_, 1, _, _, _, rfl, c9, rfl⟩) rfl (Nat.le_of_ble_eq_true rfl) (by decide)) ?_
    exact gm_iret dX10_writeLabel_125 rfl
  ·
    rw [if_neg c1]
    have hw := ct_isTooWide sN hv h8
    cases hb9 : zW v i
    ·
      rw [hb9] at hw
      rw [if_neg (by decide)]
      refine ⟨h, q, ?_, hL, sx_rf⟩
      refine gm_go.ru (gm_aload_n dX10_writeLabel_77 rfl (by first | exact Or.inl ⟨_, rfl⟩ | exact Or.inr ⟨_, rfl⟩)) ?_
      refine gm_go.ru (gm_iload_n dX10_writeLabel_78 rfl) ?_
      refine gm_go.ru (gm_cV dX10_writeLabel_79 (ct_isOut sN h8) rfl mt_X3_isOut mv_X3_isOut (lk_X10_106 rfl) (Or.inl ⟨_, 5, _, _, _, rfl, h1, rfl⟩) rfl (Nat.le_of_ble_eq_true rfl) (by decide)) ?_
      rw [zB_f c1]
      refine gm_go.ru (gi_if_eq_t (tgt := 99) dX10_writeLabel_82 (by decide) (by decide) rfl) ?_
      refine gm_go.ru (gm_aload_n dX10_writeLabel_99 rfl (by first | exact Or.inl ⟨_, rfl⟩ | exact Or.inr ⟨_, rfl⟩)) ?_
      refine gm_go.ru (gm_iload_n dX10_writeLabel_100 rfl) ?_
      refine gm_go.ru (gm_cV dX10_writeLabel_101 (hw) rfl mt_X3_isTooWide mv_X3_isTooWide (lk_X10_110 rfl) (Or.inl ⟨_, 5, _, _, _, rfl, h1, rfl⟩) rfl (Nat.le_of_ble_eq_true rfl) (by decide)) ?_
      refine gm_go.ru (gi_if_eq_t (tgt := 118) dX10_writeLabel_104 (by decide) (by decide) rfl) ?_
      refine gm_go.ru (gm_aload_n dX10_writeLabel_118 rfl (by first | exact Or.inl ⟨_, rfl⟩ | exact Or.inr ⟨_, rfl⟩)) ?_
      refine gm_go.ru (gm_get dX10_writeLabel_119 (fl_X10_47 rfl) hB rfl) ?_
      refine gm_go.ru (gm_cV dX10_writeLabel_122 (ct_sbLen hL) rfl mt_J4_length_8abf5 mv_J4_length_8abf5 (lk_X10_276 rfl) (Or.inl ⟨_, 1, _, _, _, rfl, c0, rfl⟩) rfl (Nat.le_of_ble_eq_true rfl) (by decide)) ?_
      exact gm_iret dX10_writeLabel_125 rfl
    ·
      rw [hb9] at hw
      rw [if_pos rfl]
      obtain ⟨g, q', e1, e2, e3⟩ := ct_sbS hL ks_q (by decide) (by omega)
      obtain ⟨B9, S9, Q9⟩ := lb_sx hL e3 hb
      obtain ⟨_, _, _, _, _, c9, _⟩ := id e2
      refine ⟨g, q', ?_, e2, e3⟩
      refine gm_go.ru (gm_aload_n dX10_writeLabel_77 rfl (by first | exact Or.inl ⟨_, rfl⟩ | exact Or.inr ⟨_, rfl⟩)) ?_
      refine gm_go.ru (gm_iload_n dX10_writeLabel_78 rfl) ?_
      refine gm_go.ru (gm_cV dX10_writeLabel_79 (ct_isOut sN h8) rfl mt_X3_isOut mv_X3_isOut (lk_X10_106 rfl) (Or.inl ⟨_, 5, _, _, _, rfl, h1, rfl⟩) rfl (Nat.le_of_ble_eq_true rfl) (by decide)) ?_
      rw [zB_f c1]
      refine gm_go.ru (gi_if_eq_t (tgt := 99) dX10_writeLabel_82 (by decide) (by decide) rfl) ?_
      refine gm_go.ru (gm_aload_n dX10_writeLabel_99 rfl (by first | exact Or.inl ⟨_, rfl⟩ | exact Or.inr ⟨_, rfl⟩)) ?_
      refine gm_go.ru (gm_iload_n dX10_writeLabel_100 rfl) ?_
      refine gm_go.ru (gm_cV dX10_writeLabel_101 (hw) rfl mt_X3_isTooWide mv_X3_isTooWide (lk_X10_110 rfl) (Or.inl ⟨_, 5, _, _, _, rfl, h1, rfl⟩) rfl (Nat.le_of_ble_eq_true rfl) (by decide)) ?_
      refine gm_go.ru (gi_if_eq_f 118 dX10_writeLabel_104 (by decide) (by decide) (by decide)) ?_
      refine gm_go.ru (gm_aload_n dX10_writeLabel_107 rfl (by first | exact Or.inl ⟨_, rfl⟩ | exact Or.inr ⟨_, rfl⟩)) ?_
      refine gm_go.ru (gm_get dX10_writeLabel_108 (fl_X10_47 rfl) hB rfl) ?_
      refine gm_go.ru (gm_ldcsw (k := 72) (tx := " ?") dX10_writeLabel_111 (by decide +kernel)) ?_
      refine gm_go.ru (gm_cV dX10_writeLabel_114 (e1) rfl mt_J4_append_15ec4 mv_J4_append_15ec4 (lk_X10_271 rfl) (Or.inl ⟨_, 1, _, _, _, rfl, c0, rfl⟩) rfl (Nat.le_of_ble_eq_true rfl) (by decide)) ?_
      refine gm_go.ru (gm_pop dX10_writeLabel_117 rfl) ?_
      refine gm_go.ru (gm_aload_n dX10_writeLabel_118 rfl (by first | exact Or.inl ⟨_, rfl⟩ | exact Or.inr ⟨_, rfl⟩)) ?_
      refine gm_go.ru (gm_get dX10_writeLabel_119 (fl_X10_47 rfl) B9 rfl) ?_
      refine gm_go.ru (gm_cV dX10_writeLabel_122 (ct_sbLen e2) rfl mt_J4_length_8abf5 mv_J4_length_8abf5 (lk_X10_276 rfl) (Or.inl ⟨_, 1, _, _, _, rfl, c9, rfl⟩) rfl (Nat.le_of_ble_eq_true rfl) (by decide)) ?_
      exact gm_iret dX10_writeLabel_125 rfl
set_option maxRecDepth 4000 in
theorem cwl_1 {n i : Nat} {v G : Nat → Int} {hs ep fc : Int} (hv : nd_iv v) (h8 : i < 8) : ∀ (z j : Nat) (h : gm_H) (q : Nat × Nat), j + z = 8 → lb_ok h n hs ep fc v q → sbr_at h (n + 108) q (zLl v i G j).2 (zLl v i G j).1 → ∃ h' q', gm_ru mX10_writeLabel 12 (46, [some (.ref n), some (.int (zI (i : Int))), some (.ref (n + 1 + 1)), some (.int (zI (j : Int)))], [], h) (.inl (some (.int (zI ((zLz v i G).1 : Nat))))) h' ∧ sbr_at h' (n + 108) q' (zLz v i G).2 (zLz v i G).1 ∧ sx h h' (n + 108) q q' := by
  intro z
  induction z with
  | zero =>
    intro j h q hj hb hL
    obtain rfl : j = 8 := by omega
    obtain ⟨h', q', e1, e2⟩ := cwl_2 hb hv h8 hL
    refine ⟨h', q', ?_, e2⟩
    refine gm_go.ru (gm_iload_n dX10_writeLabel_46 rfl) ?_
    refine gm_go.ru (gi_bipush dX10_writeLabel_47 (by decide +kernel)) ?_
    refine gm_go.ru (gi_icmp_ge_t (tgt := 77) dX10_writeLabel_49 (by decide) (by omega) (by omega) (by omega)) ?_
    exact e1
  | succ z ih =>
    intro j h q hj hb hL
    obtain ⟨hB, hS, hq⟩ := id hb
    have le := zLl_le v i G j
    have hd := hv.2.2.2.2.1 i h8 j (by omega)
    obtain ⟨_, _, _, _, _, c0, _⟩ := id hL
    obtain ⟨g1, q1, e1, L1, x1⟩ := ct_sbC hL (x := 32) (by decide) (by omega)
    have b1 := lb_sx hL x1 hb
    obtain ⟨_, _, _, _, _, c1, _⟩ := id L1
    obtain ⟨B1, S1, Q1⟩ := id b1
    obtain ⟨s0, sN, sO⟩ := id S1
    obtain ⟨h1, S, D, h2, h3, nS, nD⟩ := id sN
    obtain ⟨g2, q2, e2, L2, x2⟩ := ct_sbI L1 (i := v (12 + 10 * i + j)) (by omega) (by omega)
    have b2 := lb_sx L1 x2 b1
    obtain ⟨h', q', d1, d2, d3⟩ := ih (j + 1) g2 q2 (by omega) b2 L2
    refine ⟨h', q', ?_, d2, sx_tr x1 (sx_tr x2 d3)⟩
    refine gm_go.ru (gm_iload_n dX10_writeLabel_46 rfl) ?_
    refine gm_go.ru (gi_bipush dX10_writeLabel_47 (by decide +kernel)) ?_
    refine gm_go.ru (gi_icmp_ge_f 77 dX10_writeLabel_49 (by decide) (by omega) (by omega) (by omega)) ?_
    refine gm_go.ru (gm_aload_n dX10_writeLabel_52 rfl (by first | exact Or.inl ⟨_, rfl⟩ | exact Or.inr ⟨_, rfl⟩)) ?_
    refine gm_go.ru (gm_get dX10_writeLabel_53 (fl_X10_47 rfl) hB rfl) ?_
    refine gm_go.ru (gi_bipush dX10_writeLabel_56 (by decide +kernel)) ?_
    refine gm_go.ru (gm_cV dX10_writeLabel_58 (e1) rfl mt_J4_append_cf468 mv_J4_append_cf468 (lk_X10_263 rfl) (Or.inl ⟨_, 1, _, _, _, rfl, c0, rfl⟩) rfl (Nat.le_of_ble_eq_true rfl) (by decide)) ?_
    refine gm_go.ru (gm_aload_n dX10_writeLabel_61 rfl (by first | exact Or.inl ⟨_, rfl⟩ | exact Or.inr ⟨_, rfl⟩)) ?_
    refine gm_go.ru (gm_iload_n dX10_writeLabel_62 rfl) ?_
    refine gm_go.ru (gm_iload_n dX10_writeLabel_63 rfl) ?_
    refine gm_go.ru (gm_cV dX10_writeLabel_64 (ct_at sN h8 (by omega)) rfl mt_X3_at mv_X3_at (lk_X10_266 rfl) (Or.inl ⟨_, 5, _, _, _, rfl, h1, rfl⟩) rfl (Nat.le_of_ble_eq_true rfl) (by decide)) ?_
    refine gm_go.ru (gm_cV dX10_writeLabel_67 (e2) rfl mt_J4_append_bf812 mv_J4_append_bf812 (lk_X10_259 rfl) (Or.inl ⟨_, 1, _, _, _, rfl, c1, rfl⟩) rfl (Nat.le_of_ble_eq_true rfl) (by decide)) ?_
    refine gm_go.ru (gm_pop dX10_writeLabel_70 rfl) ?_
    refine gm_go.ru (gi_iinc (ls' := [_, _, _, _]) dX10_writeLabel_71 rfl (by decide) rfl) ?_
    refine gm_go.ru (gm_goto (tgt := 46) dX10_writeLabel_74 (by decide)) ?_
    exact d1
set_option maxRecDepth 4000 in
theorem ct_writeLabel {h : gm_H} {n : Nat} {v : Nat → Int} {hs ep fc : Int} (hB : h.1[n]? = some (by_c n hs ep fc)) (hS : st_at h (n + 1) v) {i : Int} {q : Nat × Nat} {G : Nat → Int} {c : Nat} (hv : nd_iv v) (hi : zR i) (hL : sbr_at h (n + 108) q G c) (hQ : n + 109 ≤ q.1) (hq : 0 ≤ i ∧ i < v 0) : ∃ h' q', gm_co mX10_writeLabel 12 [.ref n, .int (zI i)] h (.inl (some (.int (zI ((zLz v i.toNat G).1 : Nat))))) h' ∧ sbr_at h' (n + 108) q' (zLz v i.toNat G).2 (zLz v i.toNat G).1 ∧ sx h h' (n + 108) q q' := by
  obtain ⟨s0, sN, sO⟩ := id hS
  obtain ⟨h1, S, D, h2, h3, nS, nD⟩ := id sN
  obtain ⟨o1, I, M, U, Y, o2, o3, o4, o5, oD⟩ := id sO
  obtain ⟨i, rfl⟩ : ∃ k : Nat, i = (k : Int) := ⟨i.toNat, by omega⟩
  have h8 : i < 8 := by have := hv.1; omega
  simp only [Int.toNat_natCast] at *
  have hst := hv.2.2.1 i h8
  have b0 : lb_ok h n hs ep fc v q := ⟨hB, hS, hQ⟩
  obtain ⟨_, _, _, _, _, c0, _⟩ := id hL
  obtain ⟨g1, q1, e1, L1, x1⟩ := ct_sbZ hL
  have b1 := lb_sx hL x1 b0
  obtain ⟨_, _, _, _, _, c1, _⟩ := id L1
  obtain ⟨B1, S1, Q1⟩ := id b1
  obtain ⟨g2, q2, e2, L2, x2⟩ := ct_sbI L1 (i := (i : Int)) (by omega) (by omega)
  have b2 := lb_sx L1 x2 b1
  obtain ⟨_, _, _, _, _, c2, _⟩ := id L2
  have z1 := zsz_3 (i : Int)
  rw [Nat.zero_add] at L2
  obtain ⟨g3, q3, e3, L3, x3⟩ := ct_sbC L2 (x := 58) (by decide) (by omega)
  have b3 := lb_sx L2 x3 b2
  obtain ⟨_, _, _, _, _, c3, _⟩ := id L3
  obtain ⟨B3, S3, Q3⟩ := id b3
  obtain ⟨t0, tN, tO⟩ := id S3
  obtain ⟨u1, S9, D9, u2, u3, nS9, nD9⟩ := id tN
  obtain ⟨g4, q4, e4, L4, x4⟩ := ct_sbI L3 (i := v (10 + 10 * i)) (by omega) (by omega)
  have b4 := lb_sx L3 x4 b3
  obtain ⟨h', q', d1, d2, d3⟩ := cwl_1 (G := G) hv h8 8 0 g4 q4 rfl b4 L4
  refine ⟨h', q', ?_, d2, sx_tr x1 (sx_tr x2 (sx_tr x3 (sx_tr x4 d3)))⟩
  refine gm_co_of _ (by decide +kernel) rfl (Nat.le_of_ble_eq_true rfl) rfl ?_
  refine gm_go.ru (gm_aload_n dX10_writeLabel_0 rfl (by first | exact Or.inl ⟨_, rfl⟩ | exact Or.inr ⟨_, rfl⟩)) ?_
  refine gm_go.ru (gm_iload_n dX10_writeLabel_1 rfl) ?_
  refine gm_go.ru (gm_cV0 dX10_writeLabel_2 (ct_needNeedle hB hS hv hi hq) rfl mt_X10_needNeedle mv_X10_needNeedle (lk_X10_99 rfl) (Or.inl ⟨_, 11, _, _, _, rfl, hB, rfl⟩) rfl (Nat.le_of_ble_eq_true rfl) (by decide)) ?_
  refine gm_go.ru (gm_aload_n dX10_writeLabel_5 rfl (by first | exact Or.inl ⟨_, rfl⟩ | exact Or.inr ⟨_, rfl⟩)) ?_
  refine gm_go.ru (gm_get dX10_writeLabel_6 (fl_X10_10 rfl) hB rfl) ?_
  refine gm_go.ru (gm_get dX10_writeLabel_9 (fl_X10_90 rfl) s0 rfl) ?_
  refine gm_go.ru (gm_astore_n (ls' := [_, _, _, _]) dX10_writeLabel_12 (by first | exact Or.inl ⟨_, rfl⟩ | exact Or.inr ⟨_, rfl⟩) (by decide) rfl) ?_
  refine gm_go.ru (gm_aload_n dX10_writeLabel_13 rfl (by first | exact Or.inl ⟨_, rfl⟩ | exact Or.inr ⟨_, rfl⟩)) ?_
  refine gm_go.ru (gm_get dX10_writeLabel_14 (fl_X10_47 rfl) hB rfl) ?_
  refine gm_go.ru (gi_const dX10_writeLabel_17) ?_
  refine gm_go.ru (gm_cV0 dX10_writeLabel_18 (e1) rfl mt_J4_setLength_d00df mv_J4_setLength_d00df (lk_X10_256 rfl) (Or.inl ⟨_, 1, _, _, _, rfl, c0, rfl⟩) rfl (Nat.le_of_ble_eq_true rfl) (by decide)) ?_
  refine gm_go.ru (gm_aload_n dX10_writeLabel_21 rfl (by first | exact Or.inl ⟨_, rfl⟩ | exact Or.inr ⟨_, rfl⟩)) ?_
  refine gm_go.ru (gm_get dX10_writeLabel_22 (fl_X10_47 rfl) B1 rfl) ?_
  refine gm_go.ru (gm_iload_n dX10_writeLabel_25 rfl) ?_
  refine gm_go.ru (gm_cV dX10_writeLabel_26 (e2) rfl mt_J4_append_bf812 mv_J4_append_bf812 (lk_X10_259 rfl) (Or.inl ⟨_, 1, _, _, _, rfl, c1, rfl⟩) rfl (Nat.le_of_ble_eq_true rfl) (by decide)) ?_
  refine gm_go.ru (gi_bipush dX10_writeLabel_29 (by decide +kernel)) ?_
  refine gm_go.ru (gm_cV dX10_writeLabel_31 (e3) rfl mt_J4_append_cf468 mv_J4_append_cf468 (lk_X10_263 rfl) (Or.inl ⟨_, 1, _, _, _, rfl, c2, rfl⟩) rfl (Nat.le_of_ble_eq_true rfl) (by decide)) ?_
  refine gm_go.ru (gm_aload_n dX10_writeLabel_34 rfl (by first | exact Or.inl ⟨_, rfl⟩ | exact Or.inr ⟨_, rfl⟩)) ?_
  refine gm_go.ru (gm_get dX10_writeLabel_35 (fl_X10_103 rfl) u1 rfl) ?_
  refine gm_go.ru (gm_iload_n dX10_writeLabel_38 rfl) ?_
  refine gm_go.ru (gi_aldN dX10_writeLabel_39 u2 h8 (by decide)) ?_
  rw [nS9 i h8]
  refine gm_go.ru (gm_cV dX10_writeLabel_40 (e4) rfl mt_J4_append_bf812 mv_J4_append_bf812 (lk_X10_259 rfl) (Or.inl ⟨_, 1, _, _, _, rfl, c3, rfl⟩) rfl (Nat.le_of_ble_eq_true rfl) (by decide)) ?_
  refine gm_go.ru (gm_pop dX10_writeLabel_43 rfl) ?_
  refine gm_go.ru (gi_const dX10_writeLabel_44) ?_
  refine gm_go.ru (gm_istore_n (ls' := [_, _, _, _]) dX10_writeLabel_45 (by decide) rfl) ?_
  exact d1
set_option maxRecDepth 4000 in
theorem ct_labelAt {h : gm_H} {n : Nat} {hs ep fc : Int} (hB : h.1[n]? = some (by_c n hs ep fc)) {q : Nat × Nat} {G : Nat → Int} {c : Nat} (hL : sbr_at h (n + 108) q G c) (hc : c ≤ 60) {i : Int} (hi : zR i) (hq : (0 ≤ i ∧ i < c)) : gm_co mX10_labelAt 10 [.ref n, .int (zI i)] h (.inl (some (.int (zI (G i.toNat))))) h := by
  refine gm_co_of _ (by decide +kernel) rfl (Nat.le_of_ble_eq_true rfl) rfl ?_
  obtain ⟨_, _, _, _, _, c0, _⟩ := id hL
  obtain ⟨i, rfl⟩ : ∃ k : Nat, i = (k : Int) := ⟨i.toNat, by omega⟩
  simp only [Int.toNat_natCast]
  refine gm_go.ru (gm_iload_n dX10_labelAt_0 rfl) ?_
  refine gm_go.ru (gi_if_lt_f 15 dX10_labelAt_1 (by decide) (by omega) (by omega)) ?_
  refine gm_go.ru (gm_iload_n dX10_labelAt_4 rfl) ?_
  refine gm_go.ru (gm_aload_n dX10_labelAt_5 rfl (by first | exact Or.inl ⟨_, rfl⟩ | exact Or.inr ⟨_, rfl⟩)) ?_
  refine gm_go.ru (gm_get dX10_labelAt_6 (fl_X10_47 rfl) hB rfl) ?_
  refine gm_go.ru (gm_cV dX10_labelAt_9 (ct_sbLen hL) rfl mt_J4_length_8abf5 mv_J4_length_8abf5 (lk_X10_276 rfl) (Or.inl ⟨_, 1, _, _, _, rfl, c0, rfl⟩) rfl (Nat.le_of_ble_eq_true rfl) (by decide)) ?_
  refine gm_go.ru (gi_icmp_lt_t (tgt := 26) dX10_labelAt_12 (by decide) (by omega) (by omega) hq.2) ?_
  refine gm_go.ru (gm_aload_n dX10_labelAt_26 rfl (by first | exact Or.inl ⟨_, rfl⟩ | exact Or.inr ⟨_, rfl⟩)) ?_
  refine gm_go.ru (gm_get dX10_labelAt_27 (fl_X10_47 rfl) hB rfl) ?_
  refine gm_go.ru (gm_iload_n dX10_labelAt_30 rfl) ?_
  refine gm_go.ru (gm_cV dX10_labelAt_31 (ct_sbAt hL (by omega)) rfl mt_J4_charAt_5068e mv_J4_charAt_5068e (lk_X10_281 rfl) (Or.inl ⟨_, 1, _, _, _, rfl, c0, rfl⟩) rfl (Nat.le_of_ble_eq_true rfl) (by decide)) ?_
  obtain ⟨_, _, _, _, F9, _, _, f9, f8⟩ := id hL
  have e8 := f8 i
  have e9 := f9 i (by omega)
  obtain ⟨y, hy⟩ : ∃ y : Nat, G i = (y : Int) := ⟨(G i).toNat, by omega⟩
  rw [hy]
  exact gm_zret dX10_labelAt_34 rfl (zCh_nar y (by omega))
set_option maxRecDepth 4000 in
theorem ct_labelAtX {h : gm_H} {n : Nat} {hs ep fc : Int} (hB : h.1[n]? = some (by_c n hs ep fc)) {q : Nat × Nat} {G : Nat → Int} {c : Nat} (hL : sbr_at h (n + 108) q G c) (hc : c ≤ 60) {i : Int} (hi : zR i) (hq : ¬ (0 ≤ i ∧ i < c)) : gm_co mX10_labelAt 10 [.ref n, .int (zI i)] h (.inr "java/lang/IndexOutOfBoundsException") (zTh h) := by
  refine gm_co_of _ (by decide +kernel) rfl (Nat.le_of_ble_eq_true rfl) rfl ?_
  obtain ⟨_, _, _, _, _, c0, _⟩ := id hL
  by_cases c1 : i < 0
  ·
    refine gm_go.ru (gm_iload_n dX10_labelAt_0 rfl) ?_
    refine gm_go.ru (gi_if_lt_t (tgt := 15) dX10_labelAt_1 (by decide) (by omega) c1) ?_
    exact gm_throwW (tf_X10_214_279 rfl) rfl dX10_labelAt_15 dX10_labelAt_18 dX10_labelAt_19 dX10_labelAt_22 dX10_labelAt_25 (Nat.le_of_ble_eq_true rfl) (by decide) (by decide)
  ·
    refine gm_go.ru (gm_iload_n dX10_labelAt_0 rfl) ?_
    refine gm_go.ru (gi_if_lt_f 15 dX10_labelAt_1 (by decide) (by omega) c1) ?_
    refine gm_go.ru (gm_iload_n dX10_labelAt_4 rfl) ?_
    refine gm_go.ru (gm_aload_n dX10_labelAt_5 rfl (by first | exact Or.inl ⟨_, rfl⟩ | exact Or.inr ⟨_, rfl⟩)) ?_
    refine gm_go.ru (gm_get dX10_labelAt_6 (fl_X10_47 rfl) hB rfl) ?_
    refine gm_go.ru (gm_cV dX10_labelAt_9 (ct_sbLen hL) rfl mt_J4_length_8abf5 mv_J4_length_8abf5 (lk_X10_276 rfl) (Or.inl ⟨_, 1, _, _, _, rfl, c0, rfl⟩) rfl (Nat.le_of_ble_eq_true rfl) (by decide)) ?_
    refine gm_go.ru (gi_icmp_lt_f 26 dX10_labelAt_12 (by decide) (by omega) (by omega) (by omega)) ?_
    exact gm_throwW (tf_X10_214_279 rfl) rfl dX10_labelAt_15 dX10_labelAt_18 dX10_labelAt_19 dX10_labelAt_22 dX10_labelAt_25 (Nat.le_of_ble_eq_true rfl) (by decide) (by decide)
