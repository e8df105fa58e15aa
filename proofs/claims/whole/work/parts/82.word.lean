theorem gi_andB {M : gm_M} {d pc : Nat} {ls : List (Option Value)} {st : List Value} {h : gm_H} {a b : Bool} (hd : decode M.2.1 pc = .ok (.iand, 1)) : gm_go M d (pc, ls, .int (zI (zB b)) :: .int (zI (zB a)) :: st, h) (pc + 1, ls, .int (zI (zB (a && b))) :: st, h) := by
  cases a <;> cases b
  · exact gi_and (a := 0) (b := 0) hd
  · exact gi_and (a := 0) (b := 1) hd
  · exact gi_and (a := 1) (b := 0) hd
  · exact gi_and (a := 1) (b := 1) hd
theorem gi_orB {M : gm_M} {d pc : Nat} {ls : List (Option Value)} {st : List Value} {h : gm_H} {a b : Bool} (hd : decode M.2.1 pc = .ok (.ior, 1)) : gm_go M d (pc, ls, .int (zI (zB b)) :: .int (zI (zB a)) :: st, h) (pc + 1, ls, .int (zI (zB (a || b))) :: st, h) := by
  cases a <;> cases b
  · exact gi_or (a := 0) (b := 0) hd
  · exact gi_or (a := 0) (b := 1) hd
  · exact gi_or (a := 1) (b := 0) hd
  · exact gi_or (a := 1) (b := 1) hd
def zWan (k : Nat) : Nat := [0, 7, 11, 17, 25, 33, 39, 45, 50, 55, 60].getD k 0
def zWon (k : Nat) : Nat := zWls.flatten.getD k 0
def zWa (k : Nat) : Int := (zWan k : Int)
def zWo (k : Nat) : Int := (zWon k : Int)
theorem zWa_s : ∀ j : Nat, j < 10 → zWan (j + 1) = zWan j + (zWl j).length ∧ zWan (j + 1) ≤ 60 := by decide
theorem zWo_s : ∀ j : Nat, j < 10 → ∀ n : Nat, n < 8 → n < (zWl j).length → zWon (zWan j + n) = (zWl j).getD n 0 ∧ (zWl j).getD n 0 ≤ 126 := by decide +kernel
theorem zLf_s (X : Nat → Int) (L p n j : Nat) : zLf X L p (n + 1) j = (zLf X L p n j && (decide (n < (zWl j).length) && zsg X L (p + n) (((zWl j).getD n 0 : Nat) : Int))) := by
  have := zLp_s X L (zWl j) p n
  unfold zLf zLc
  rw [Bool.eq_iff_iff]
  simp only [Bool.and_eq_true, decide_eq_true_iff]
  exact this
theorem zB_1 {b : Bool} : zB b = 1 ↔ b = true := by cases b <;> decide
set_option maxRecDepth 4000 in
theorem w1_a {h : gm_H} {m p L n j : Nat} {K X G : Nat → Int} (hM : h.1[m]? = some (md_c m K)) (hX : h.1[m + 8]? = some (gA 60 X)) (hp : K 18 = ((p + n : Nat) : Int)) (hL : K 19 = (L : Int)) (ht : zTx X L) (hp9 : p + n ≤ 100) (hG : h.1[m + 10]? = some (gA 10 G)) (hWo : h.1[m + 11]? = some (gA 60 zWo)) (hWa : h.1[m + 12]? = some (gA 11 zWa)) (hj : j < 10) (hn : n ≤ 8) (gj : G j = zB (zLf X L p n j)) {is : Int} {mo : Bool} : gm_go mX11_word 5 (48, [some (.ref m), some (.int (zI (n : Int))), some (.int (zI (is))), some (.int (zI (zB (mo)))), some (.int (zI (j : Int)))], [], h) (105, [some (.ref m), some (.int (zI (n : Int))), some (.int (zI (is))), some (.int (zI (zB (mo)))), some (.int (zI (j : Int)))], [], (h.1.set (m + 10) (gA 10 (zU G j (zB (zLf X L p (n + 1) j)))), h.2)) := by
  have hWa0 : zWa j = (zWan j : Int) := rfl
  have hWa1 : zWa (j + 1) = (zWan (j + 1) : Int) := rfl
  obtain ⟨wa, wb⟩ := zWa_s j hj
  have wl := zW_n j hj
  have sr := zSgn_r (p := p + n) ht
  have ss := zSgn_s (X := X) (L := L) (p := p + n) (c := (((zWl j).getD n 0 : Nat) : Int)) (by omega)
  have sg := ct_mSign hM hX hp hL ht hp9
  have zs := zLf_s X L p n j
  by_cases c1 : n < (zWl j).length
  ·
    obtain ⟨wo, wr⟩ := zWo_s j hj n (by omega) c1
    have hWo0 : zWo (zWan j + n) = (zWon (zWan j + n) : Int) := rfl
    rw [decide_eq_true c1, Bool.true_and] at zs
    cases c : zsg X L (p + n) (((zWl j).getD n 0 : Nat) : Int)
    ·
      rw [c] at ss zs
      have c2 : ¬ zSgn X L (p + n) = (((zWl j).getD n 0 : Nat) : Int) := of_decide_eq_false ss.symm
      refine gm_go_tr (gm_aload_n dX11_word_48 rfl (by first | exact Or.inl ⟨_, rfl⟩ | exact Or.inr ⟨_, rfl⟩)) ?_
      refine gm_go_tr (gm_get dX11_word_49 (fl_X11_44 rfl) hM rfl) ?_
      refine gm_go_tr (gm_iload dX11_word_52 rfl) ?_
      refine gm_go_tr (gm_dup2 dX11_word_54 rfl rfl) ?_
      refine gm_go_tr (gi_aldN (a := j) dX11_word_55 hG (by omega) (by decide)) ?_
      rw [gj]
      refine gm_go_tr (gm_aload_n dX11_word_56 rfl (by first | exact Or.inl ⟨_, rfl⟩ | exact Or.inr ⟨_, rfl⟩)) ?_
      refine gm_go_tr (gm_get dX11_word_57 (fl_X11_50 rfl) hM rfl) ?_
      refine gm_go_tr (gm_iload dX11_word_60 rfl) ?_
      refine gm_go_tr (gi_aldN (a := j) dX11_word_62 hWa (by omega) (by decide)) ?_
      refine gm_go_tr (gm_iload_n dX11_word_63 rfl) ?_
      refine gm_go_tr (gi_add dX11_word_64) ?_
      refine gm_go_tr (gm_aload_n dX11_word_65 rfl (by first | exact Or.inl ⟨_, rfl⟩ | exact Or.inr ⟨_, rfl⟩)) ?_
      refine gm_go_tr (gm_get dX11_word_66 (fl_X11_50 rfl) hM rfl) ?_
      refine gm_go_tr (gm_iload dX11_word_69 rfl) ?_
      refine gm_go_tr (gi_const dX11_word_71) ?_
      refine gm_go_tr (gi_add dX11_word_72) ?_
      refine gm_go_tr (gi_aldN (a := j + 1) dX11_word_73 hWa (by omega) (by omega)) ?_
      refine gm_go_tr (gi_icmp_ge_f 102 dX11_word_74 (by decide) (by omega) (by omega) (by omega)) ?_
      refine gm_go_tr (gm_aload_n dX11_word_77 rfl (by first | exact Or.inl ⟨_, rfl⟩ | exact Or.inr ⟨_, rfl⟩)) ?_
      refine gm_go_tr (gm_get dX11_word_78 (fl_X11_47 rfl) hM rfl) ?_
      refine gm_go_tr (gm_aload_n dX11_word_81 rfl (by first | exact Or.inl ⟨_, rfl⟩ | exact Or.inr ⟨_, rfl⟩)) ?_
      refine gm_go_tr (gm_get dX11_word_82 (fl_X11_50 rfl) hM rfl) ?_
      refine gm_go_tr (gm_iload dX11_word_85 rfl) ?_
      refine gm_go_tr (gi_aldN (a := j) dX11_word_87 hWa (by omega) (by decide)) ?_
      refine gm_go_tr (gm_iload_n dX11_word_88 rfl) ?_
      refine gm_go_tr (gi_add dX11_word_89) ?_
      refine gm_go_tr (gi_aldN (a := zWan j + n) dX11_word_90 hWo (by omega) (by omega)) ?_
      refine gm_go_tr (gm_aload_n dX11_word_91 rfl (by first | exact Or.inl ⟨_, rfl⟩ | exact Or.inr ⟨_, rfl⟩)) ?_
      refine gm_go_tr (gm_cV dX11_word_92 (sg) rfl mt_X11_sign mv_X11_sign (lk_X11_226 rfl) (Or.inl ⟨_, 12, _, _, _, rfl, hM, rfl⟩) rfl (Nat.le_of_ble_eq_true rfl) (by decide)) ?_
      refine gm_go_tr (gi_icmp_ne_t (tgt := 102) dX11_word_95 (by decide) (by omega) (by omega) (by omega)) ?_
      refine gm_go_tr (gi_const dX11_word_102) ?_
      refine gm_go_tr (gi_andB (a := zLf X L p n j) (b := false) dX11_word_103) ?_
      rw [← zs]
      refine gm_go_tr (gi_astN (a := j) dX11_word_104 hG (by omega) (by decide)) ?_
      exact gm_go_rf
    ·
      rw [c] at ss zs
      have c2 : zSgn X L (p + n) = (((zWl j).getD n 0 : Nat) : Int) := of_decide_eq_true ss.symm
      refine gm_go_tr (gm_aload_n dX11_word_48 rfl (by first | exact Or.inl ⟨_, rfl⟩ | exact Or.inr ⟨_, rfl⟩)) ?_
      refine gm_go_tr (gm_get dX11_word_49 (fl_X11_44 rfl) hM rfl) ?_
      refine gm_go_tr (gm_iload dX11_word_52 rfl) ?_
      refine gm_go_tr (gm_dup2 dX11_word_54 rfl rfl) ?_
      refine gm_go_tr (gi_aldN (a := j) dX11_word_55 hG (by omega) (by decide)) ?_
      rw [gj]
      refine gm_go_tr (gm_aload_n dX11_word_56 rfl (by first | exact Or.inl ⟨_, rfl⟩ | exact Or.inr ⟨_, rfl⟩)) ?_
      refine gm_go_tr (gm_get dX11_word_57 (fl_X11_50 rfl) hM rfl) ?_
      refine gm_go_tr (gm_iload dX11_word_60 rfl) ?_
      refine gm_go_tr (gi_aldN (a := j) dX11_word_62 hWa (by omega) (by decide)) ?_
      refine gm_go_tr (gm_iload_n dX11_word_63 rfl) ?_
      refine gm_go_tr (gi_add dX11_word_64) ?_
      refine gm_go_tr (gm_aload_n dX11_word_65 rfl (by first | exact Or.inl ⟨_, rfl⟩ | exact Or.inr ⟨_, rfl⟩)) ?_
      refine gm_go_tr (gm_get dX11_word_66 (fl_X11_50 rfl) hM rfl) ?_
      refine gm_go_tr (gm_iload dX11_word_69 rfl) ?_
      refine gm_go_tr (gi_const dX11_word_71) ?_
      refine gm_go_tr (gi_add dX11_word_72) ?_
      refine gm_go_tr (gi_aldN (a := j + 1) dX11_word_73 hWa (by omega) (by omega)) ?_
      refine gm_go_tr (gi_icmp_ge_f 102 dX11_word_74 (by decide) (by omega) (by omega) (by omega)) ?_
      refine gm_go_tr (gm_aload_n dX11_word_77 rfl (by first | exact Or.inl ⟨_, rfl⟩ | exact Or.inr ⟨_, rfl⟩)) ?_
      refine gm_go_tr (gm_get dX11_word_78 (fl_X11_47 rfl) hM rfl) ?_
      refine gm_go_tr (gm_aload_n dX11_word_81 rfl (by first | exact Or.inl ⟨_, rfl⟩ | exact Or.inr ⟨_, rfl⟩)) ?_
      refine gm_go_tr (gm_get dX11_word_82 (fl_X11_50 rfl) hM rfl) ?_
      refine gm_go_tr (gm_iload dX11_word_85 rfl) ?_
      refine gm_go_tr (gi_aldN (a := j) dX11_word_87 hWa (by omega) (by decide)) ?_
      refine gm_go_tr (gm_iload_n dX11_word_88 rfl) ?_
      refine gm_go_tr (gi_add dX11_word_89) ?_
      refine gm_go_tr (gi_aldN (a := zWan j + n) dX11_word_90 hWo (by omega) (by omega)) ?_
      refine gm_go_tr (gm_aload_n dX11_word_91 rfl (by first | exact Or.inl ⟨_, rfl⟩ | exact Or.inr ⟨_, rfl⟩)) ?_
      refine gm_go_tr (gm_cV dX11_word_92 (sg) rfl mt_X11_sign mv_X11_sign (lk_X11_226 rfl) (Or.inl ⟨_, 12, _, _, _, rfl, hM, rfl⟩) rfl (Nat.le_of_ble_eq_true rfl) (by decide)) ?_
      refine gm_go_tr (gi_icmp_ne_f 102 dX11_word_95 (by decide) (by omega) (by omega) (by omega)) ?_
      refine gm_go_tr (gi_const dX11_word_98) ?_
      refine gm_go_tr (gm_goto (tgt := 103) dX11_word_99 (by decide)) ?_
      refine gm_go_tr (gi_andB (a := zLf X L p n j) (b := true) dX11_word_103) ?_
      rw [← zs]
      refine gm_go_tr (gi_astN (a := j) dX11_word_104 hG (by omega) (by decide)) ?_
      exact gm_go_rf
  ·
    rw [decide_eq_false c1, Bool.false_and] at zs
    refine gm_go_tr (gm_aload_n dX11_word_48 rfl (by first | exact Or.inl ⟨_, rfl⟩ | exact Or.inr ⟨_, rfl⟩)) ?_
    refine gm_go_tr (gm_get dX11_word_49 (fl_X11_44 rfl) hM rfl) ?_
    refine gm_go_tr (gm_iload dX11_word_52 rfl) ?_
    refine gm_go_tr (gm_dup2 dX11_word_54 rfl rfl) ?_
    refine gm_go_tr (gi_aldN (a := j) dX11_word_55 hG (by omega) (by decide)) ?_
    rw [gj]
    refine gm_go_tr (gm_aload_n dX11_word_56 rfl (by first | exact Or.inl ⟨_, rfl⟩ | exact Or.inr ⟨_, rfl⟩)) ?_
    refine gm_go_tr (gm_get dX11_word_57 (fl_X11_50 rfl) hM rfl) ?_
    refine gm_go_tr (gm_iload dX11_word_60 rfl) ?_
    refine gm_go_tr (gi_aldN (a := j) dX11_word_62 hWa (by omega) (by decide)) ?_
    refine gm_go_tr (gm_iload_n dX11_word_63 rfl) ?_
    refine gm_go_tr (gi_add dX11_word_64) ?_
    refine gm_go_tr (gm_aload_n dX11_word_65 rfl (by first | exact Or.inl ⟨_, rfl⟩ | exact Or.inr ⟨_, rfl⟩)) ?_
    refine gm_go_tr (gm_get dX11_word_66 (fl_X11_50 rfl) hM rfl) ?_
    refine gm_go_tr (gm_iload dX11_word_69 rfl) ?_
    refine gm_go_tr (gi_const dX11_word_71) ?_
    refine gm_go_tr (gi_add dX11_word_72) ?_
    refine gm_go_tr (gi_aldN (a := j + 1) dX11_word_73 hWa (by omega) (by omega)) ?_
    refine gm_go_tr (gi_icmp_ge_t (tgt := 102) dX11_word_74 (by decide) (by omega) (by omega) (by omega)) ?_
    refine gm_go_tr (gi_const dX11_word_102) ?_
    refine gm_go_tr (gi_andB (a := zLf X L p n j) (b := false) dX11_word_103) ?_
    rw [← zs]
    refine gm_go_tr (gi_astN (a := j) dX11_word_104 hG (by omega) (by decide)) ?_
    exact gm_go_rf
set_option maxRecDepth 4000 in
theorem w1_in {m p L n : Nat} {K X : Nat → Int} (hp : K 18 = ((p + n : Nat) : Int)) (hL : K 19 = (L : Int)) (ht : zTx X L) (hp9 : p + n ≤ 100) (hn : n ≤ 8) {is : Int} : ∀ (z j : Nat) (h : gm_H) (G : Nat → Int), j + z = 10 → h.1[m]? = some (md_c m K) → h.1[m + 8]? = some (gA 60 X) → h.1[m + 10]? = some (gA 10 G) → h.1[m + 11]? = some (gA 60 zWo) → h.1[m + 12]? = some (gA 11 zWa) → (∀ k, k < j → G k = zB (zLf X L p (n + 1) k)) → (∀ k, j ≤ k → k < 10 → G k = zB (zLf X L p n k)) → ∃ h' G', gm_go mX11_word 5 (41, [some (.ref m), some (.int (zI (n : Int))), some (.int (zI (is))), some (.int (zI (zB (zAy X L p (n + 1) j)))), some (.int (zI (j : Int)))], [], h) (130, [some (.ref m), some (.int (zI (n : Int))), some (.int (zI (is))), some (.int (zI (zB (zAy X L p (n + 1) 10)))), some (.int (zI 10))], [], h') ∧ h'.1[m + 10]? = some (gA 10 G') ∧ (∀ k, k < 10 → G' k = zB (zLf X L p (n + 1) k)) ∧ gh_fr h h' (fun k => k = m + 10) := by
  intro z
  induction z with
  | zero =>
    intro j h G hj hM hX hG hWo hWa g1 g2
    obtain rfl : j = 10 := by omega
    refine ⟨h, G, ?_, hG, g1, gh_rf⟩
    refine gm_go_tr (gm_iload dX11_word_41 rfl) ?_
    refine gm_go_tr (gi_bipush dX11_word_43 (by decide +kernel)) ?_
    refine gm_go_tr (gi_icmp_ge_t (tgt := 130) dX11_word_45 (by decide) (by decide) (by decide) (by decide)) ?_
    exact gm_go_rf
  | succ z ih =>
    intro j h G hj hM hX hG hWo hWa g1 g2
    have wl := zW_n j (by omega)
    have st := w1_a hM hX hp hL ht hp9 hG hWo hWa (show j < 10 by omega) hn (g2 j (Nat.le_refl j) (by omega)) (is := is) (mo := zAy X L p (n + 1) j)
    obtain ⟨a1, ha1⟩ : ∃ y : gm_H, y = (h.1.set (m + 10) (gA 10 (zU G j (zB (zLf X L p (n + 1) j)))), h.2) := ⟨_, rfl⟩
    rw [← ha1] at st
    have f1 : gh_fr h a1 (fun k => k = m + 10) := by rw [ha1]; exact gh_set (K := (fun k => k = m + 10)) gh_rf rfl _
    have M1 := gh_at f1 hM (by omega)
    have G1 : a1.1[m + 10]? = some (gA 10 (zU G j (zB (zLf X L p (n + 1) j)))) := by rw [ha1]; exact gs_s hG
    obtain ⟨h', G', e1, e2, e3, e4⟩ := ih (j + 1) a1 _ (by omega) M1 (gh_at f1 hX (by omega)) G1 (gh_at f1 hWo (by omega)) (gh_at f1 hWa (by omega)) (fun k hk => by
      by_cases e : k = j
      · rw [e, zU_s]
      · rw [zU_n e]; exact g1 k (by omega)) (fun k h1 h2 => by rw [zU_n (by omega)]; exact g2 k (by omega) h2)
    refine ⟨h', G', ?_, e2, e3, gh_tr f1 e4⟩
    refine gm_go_tr (gm_iload dX11_word_41 rfl) ?_
    refine gm_go_tr (gi_bipush dX11_word_43 (by decide +kernel)) ?_
    refine gm_go_tr (gi_icmp_ge_f 130 dX11_word_45 (by decide) (by omega) (by decide) (by omega)) ?_
    refine gm_go_tr st ?_
    refine gm_go_tr (gm_iload_n dX11_word_105 rfl) ?_
    refine gm_go_tr (gm_aload_n dX11_word_106 rfl (by first | exact Or.inl ⟨_, rfl⟩ | exact Or.inr ⟨_, rfl⟩)) ?_
    refine gm_go_tr (gm_get dX11_word_107 (fl_X11_44 rfl) M1 rfl) ?_
    refine gm_go_tr (gm_iload dX11_word_110 rfl) ?_
    refine gm_go_tr (gi_aldN (a := j) dX11_word_112 G1 (by omega) (by decide)) ?_
    rw [zU_s]
    cases c : zLf X L p (n + 1) j
    ·
      have za : zAy X L p (n + 1) (j + 1) = (zAy X L p (n + 1) j || false) := by rw [zAy, c]
      refine gm_go_tr (gi_const dX11_word_113) ?_
      refine gm_go_tr (gi_icmp_ne_t (tgt := 121) dX11_word_114 (by decide) (by decide) (by decide) (by decide)) ?_
      refine gm_go_tr (gi_const dX11_word_121) ?_
      refine gm_go_tr (gi_orB (a := zAy X L p (n + 1) j) (b := false) dX11_word_122) ?_
      rw [← za]
      refine gm_go_tr (gm_istore_n (ls' := [_, _, _, _, _]) dX11_word_123 (by decide) rfl) ?_
      refine gm_go_tr (gi_iinc (ls' := [_, _, _, _, _]) dX11_word_124 rfl (by decide) rfl) ?_
      refine gm_go_tr (gm_goto (tgt := 41) dX11_word_127 (by decide)) ?_
      exact e1
    ·
      have za : zAy X L p (n + 1) (j + 1) = (zAy X L p (n + 1) j || true) := by rw [zAy, c]
      refine gm_go_tr (gi_const dX11_word_113) ?_
      refine gm_go_tr (gi_icmp_ne_f 121 dX11_word_114 (by decide) (by decide) (by decide) (by decide)) ?_
      refine gm_go_tr (gi_const dX11_word_117) ?_
      refine gm_go_tr (gm_goto (tgt := 122) dX11_word_118 (by decide)) ?_
      refine gm_go_tr (gi_orB (a := zAy X L p (n + 1) j) (b := true) dX11_word_122) ?_
      rw [← za]
      refine gm_go_tr (gm_istore_n (ls' := [_, _, _, _, _]) dX11_word_123 (by decide) rfl) ?_
      refine gm_go_tr (gi_iinc (ls' := [_, _, _, _, _]) dX11_word_124 rfl (by decide) rfl) ?_
      refine gm_go_tr (gm_goto (tgt := 41) dX11_word_127 (by decide)) ?_
      exact e1
set_option maxRecDepth 4000 in
theorem w2_in {m p L n : Nat} {K X G : Nat → Int} {h : gm_H} (hM : h.1[m]? = some (md_c m K)) (hG : h.1[m + 10]? = some (gA 10 G)) (hWa : h.1[m + 12]? = some (gA 11 zWa)) (hg : ∀ k, k < 10 → G k = zB (zLf X L p n k)) (hn : n ≤ 10) {mo : Bool} : ∀ (z j : Nat), j + z = 10 → gm_go mX11_word 5 (167, [some (.ref m), some (.int (zI (n : Int))), some (.int (zI (zLw X L p n j))), some (.int (zI (zB (mo)))), some (.int (zI (j : Int)))], [], h) (219, [some (.ref m), some (.int (zI (n : Int))), some (.int (zI (zLw X L p n 10))), some (.int (zI (zB (mo)))), some (.int (zI 10))], [], h) := by
  intro z
  induction z with
  | zero =>
    intro j hj
    obtain rfl : j = 10 := by omega
    refine gm_go_tr (gm_iload dX11_word_167 rfl) ?_
    refine gm_go_tr (gi_bipush dX11_word_169 (by decide +kernel)) ?_
    refine gm_go_tr (gi_icmp_ge_t (tgt := 219) dX11_word_171 (by decide) (by decide) (by decide) (by decide)) ?_
    exact gm_go_rf
  | succ z ih =>
    intro j hj
    have wl := zW_n j (by omega)
    have hWa0 : zWa j = (zWan j : Int) := rfl
    have hWa1 : zWa (j + 1) = (zWan (j + 1) : Int) := rfl
    obtain ⟨wa, wb⟩ := zWa_s j (by omega)
    have ih1 := ih (j + 1) (by omega)
    have gj := hg j (by omega)
    rw [zLw] at ih1
    cases c : zLf X L p n j
    ·
      rw [c] at gj
      rw [if_neg (fun z => absurd z.1 (of_decide_eq_false c))] at ih1
      refine gm_go_tr (gm_iload dX11_word_167 rfl) ?_
      refine gm_go_tr (gi_bipush dX11_word_169 (by decide +kernel)) ?_
      refine gm_go_tr (gi_icmp_ge_f 219 dX11_word_171 (by decide) (by omega) (by decide) (by omega)) ?_
      refine gm_go_tr (gm_aload_n dX11_word_174 rfl (by first | exact Or.inl ⟨_, rfl⟩ | exact Or.inr ⟨_, rfl⟩)) ?_
      refine gm_go_tr (gm_get dX11_word_175 (fl_X11_44 rfl) hM rfl) ?_
      refine gm_go_tr (gm_iload dX11_word_178 rfl) ?_
      refine gm_go_tr (gi_aldN (a := j) dX11_word_180 hG (by omega) (by decide)) ?_
      rw [gj]
      refine gm_go_tr (gi_const dX11_word_181) ?_
      refine gm_go_tr (gi_icmp_ne_t (tgt := 211) dX11_word_182 (by decide) (by decide) (by decide) (by decide)) ?_
      refine gm_go_tr (gm_iload_n dX11_word_211 rfl) ?_
      refine gm_go_tr (gm_istore_n (ls' := [_, _, _, _, _]) dX11_word_212 (by decide) rfl) ?_
      refine gm_go_tr (gi_iinc (ls' := [_, _, _, _, _]) dX11_word_213 rfl (by decide) rfl) ?_
      refine gm_go_tr (gm_goto (tgt := 167) dX11_word_216 (by decide)) ?_
      exact ih1
    ·
      rw [c] at gj
      by_cases c2 : n = (zWl j).length
      ·
        rw [if_pos ⟨of_decide_eq_true c, c2⟩] at ih1
        refine gm_go_tr (gm_iload dX11_word_167 rfl) ?_
        refine gm_go_tr (gi_bipush dX11_word_169 (by decide +kernel)) ?_
        refine gm_go_tr (gi_icmp_ge_f 219 dX11_word_171 (by decide) (by omega) (by decide) (by omega)) ?_
        refine gm_go_tr (gm_aload_n dX11_word_174 rfl (by first | exact Or.inl ⟨_, rfl⟩ | exact Or.inr ⟨_, rfl⟩)) ?_
        refine gm_go_tr (gm_get dX11_word_175 (fl_X11_44 rfl) hM rfl) ?_
        refine gm_go_tr (gm_iload dX11_word_178 rfl) ?_
        refine gm_go_tr (gi_aldN (a := j) dX11_word_180 hG (by omega) (by decide)) ?_
        rw [gj]
        refine gm_go_tr (gi_const dX11_word_181) ?_
        refine gm_go_tr (gi_icmp_ne_f 211 dX11_word_182 (by decide) (by decide) (by decide) (by decide)) ?_
        refine gm_go_tr (gm_aload_n dX11_word_185 rfl (by first | exact Or.inl ⟨_, rfl⟩ | exact Or.inr ⟨_, rfl⟩)) ?_
        refine gm_go_tr (gm_get dX11_word_186 (fl_X11_50 rfl) hM rfl) ?_
        refine gm_go_tr (gm_iload dX11_word_189 rfl) ?_
        refine gm_go_tr (gi_aldN (a := j) dX11_word_191 hWa (by omega) (by decide)) ?_
        refine gm_go_tr (gm_iload_n dX11_word_192 rfl) ?_
        refine gm_go_tr (gi_add dX11_word_193) ?_
        refine gm_go_tr (gm_aload_n dX11_word_194 rfl (by first | exact Or.inl ⟨_, rfl⟩ | exact Or.inr ⟨_, rfl⟩)) ?_
        refine gm_go_tr (gm_get dX11_word_195 (fl_X11_50 rfl) hM rfl) ?_
        refine gm_go_tr (gm_iload dX11_word_198 rfl) ?_
        refine gm_go_tr (gi_const dX11_word_200) ?_
        refine gm_go_tr (gi_add dX11_word_201) ?_
        refine gm_go_tr (gi_aldN (a := j + 1) dX11_word_202 hWa (by omega) (by omega)) ?_
        refine gm_go_tr (gi_icmp_ne_f 211 dX11_word_203 (by decide) (by omega) (by omega) (by omega)) ?_
        refine gm_go_tr (gm_iload dX11_word_206 rfl) ?_
        refine gm_go_tr (gm_goto (tgt := 212) dX11_word_208 (by decide)) ?_
        refine gm_go_tr (gm_istore_n (ls' := [_, _, _, _, _]) dX11_word_212 (by decide) rfl) ?_
        refine gm_go_tr (gi_iinc (ls' := [_, _, _, _, _]) dX11_word_213 rfl (by decide) rfl) ?_
        refine gm_go_tr (gm_goto (tgt := 167) dX11_word_216 (by decide)) ?_
        exact ih1
      ·
        rw [if_neg (fun z => c2 z.2)] at ih1
        refine gm_go_tr (gm_iload dX11_word_167 rfl) ?_
        refine gm_go_tr (gi_bipush dX11_word_169 (by decide +kernel)) ?_
        refine gm_go_tr (gi_icmp_ge_f 219 dX11_word_171 (by decide) (by omega) (by decide) (by omega)) ?_
        refine gm_go_tr (gm_aload_n dX11_word_174 rfl (by first | exact Or.inl ⟨_, rfl⟩ | exact Or.inr ⟨_, rfl⟩)) ?_
        refine gm_go_tr (gm_get dX11_word_175 (fl_X11_44 rfl) hM rfl) ?_
        refine gm_go_tr (gm_iload dX11_word_178 rfl) ?_
        refine gm_go_tr (gi_aldN (a := j) dX11_word_180 hG (by omega) (by decide)) ?_
        rw [gj]
        refine gm_go_tr (gi_const dX11_word_181) ?_
        refine gm_go_tr (gi_icmp_ne_f 211 dX11_word_182 (by decide) (by decide) (by decide) (by decide)) ?_
        refine gm_go_tr (gm_aload_n dX11_word_185 rfl (by first | exact Or.inl ⟨_, rfl⟩ | exact Or.inr ⟨_, rfl⟩)) ?_
        refine gm_go_tr (gm_get dX11_word_186 (fl_X11_50 rfl) hM rfl) ?_
        refine gm_go_tr (gm_iload dX11_word_189 rfl) ?_
        refine gm_go_tr (gi_aldN (a := j) dX11_word_191 hWa (by omega) (by decide)) ?_
        refine gm_go_tr (gm_iload_n dX11_word_192 rfl) ?_
        refine gm_go_tr (gi_add dX11_word_193) ?_
        refine gm_go_tr (gm_aload_n dX11_word_194 rfl (by first | exact Or.inl ⟨_, rfl⟩ | exact Or.inr ⟨_, rfl⟩)) ?_
        refine gm_go_tr (gm_get dX11_word_195 (fl_X11_50 rfl) hM rfl) ?_
        refine gm_go_tr (gm_iload dX11_word_198 rfl) ?_
        refine gm_go_tr (gi_const dX11_word_200) ?_
        refine gm_go_tr (gi_add dX11_word_201) ?_
        refine gm_go_tr (gi_aldN (a := j + 1) dX11_word_202 hWa (by omega) (by omega)) ?_
        refine gm_go_tr (gi_icmp_ne_t (tgt := 211) dX11_word_203 (by decide) (by omega) (by omega) (by omega)) ?_
        refine gm_go_tr (gm_iload_n dX11_word_211 rfl) ?_
        refine gm_go_tr (gm_istore_n (ls' := [_, _, _, _, _]) dX11_word_212 (by decide) rfl) ?_
        refine gm_go_tr (gi_iinc (ls' := [_, _, _, _, _]) dX11_word_213 rfl (by decide) rfl) ?_
        refine gm_go_tr (gm_goto (tgt := 167) dX11_word_216 (by decide)) ?_
        exact ih1
theorem zLw_m {X : Nat → Int} {L p n : Nat} : ∀ k, 0 ≤ zLw X L p n k ∨ zLw X L p n k = -1
  | 0 => Or.inr rfl
  | k + 1 => by
    rw [zLw]
    split
    · exact Or.inl (by omega)
    · exact zLw_m k
set_option maxRecDepth 4000 in
theorem w3_in {m p L : Nat} {X : Nat → Int} (ht : zTx X L) (hp9 : p ≤ 65) : ∀ (z n : Nat) (h : gm_H) (K G : Nat → Int) (l3 l4 : Option Value), n + z = 9 → h.1[m]? = some (md_c m K) → h.1[m + 8]? = some (gA 60 X) → h.1[m + 10]? = some (gA 10 G) → h.1[m + 11]? = some (gA 60 zWo) → h.1[m + 12]? = some (gA 11 zWa) → K 18 = ((p + n : Nat) : Int) → K 19 = (L : Int) → K 21 = 0 → (∀ k, k < 10 → G k = zB (zLf X L p n k)) → (n = 0 ∨ ∃ w, w < 10 ∧ n ≤ zLc X L p w) → ∃ h' K' G', gm_ru mX11_word 5 (25, [some (.ref m), some (.int (zI (n : Int))), some (.int (zI (-1))), l3, l4], [], h) (.inl (some (.int (zI (zWs X L p z n).1)))) h' ∧ h'.1[m]? = some (md_c m K') ∧ h'.1[m + 10]? = some (gA 10 G') ∧ kp K K' (zWs X L p z n).2 (decide ((zWs X L p z n).1 < 0)) ∧ gh_fr h h' (fun k => k = m ∨ k = m + 10) := by
  intro z
  induction z with
  | zero =>
    intro n h K G l3 l4 hj hM hX hG hWo hWa hp hL hw g1 h0
    exfalso
    rcases h0 with h0 | ⟨w, w1, w2⟩
    · omega
    · have := zLc_le (X := X) (L := L) (p := p) (w := w); have := zW_n w w1; omega
  | succ z ih =>
    intro n h K G l3 l4 hj hM hX hG hWo hWa hp hL hw g1 h0
    obtain ⟨a1, G1, e1, e2, e3, e4⟩ := w1_in hp hL ht (by omega) (by omega) (is := -1) 10 0 h G rfl hM hX hG hWo hWa (fun k hk => absurd hk (by omega)) (fun k _ hk => g1 k hk)
    have M1 := gh_at e4 hM (by omega)
    cases ca : zAy X L p (n + 1) 10
    ·
      have hno : ∀ w, w < 10 → ¬ n + 1 ≤ zLc X L p w := fun w w1 w2 => by rw [(zAy_t 10).mpr ⟨w, w1, w2⟩] at ca; exact absurd ca (by decide)
      have hl : zLw X L p (n + 1) 10 = -1 := by have := (zLw_n (X := X) (L := L) (p := p) (n := n + 1) 10).mpr (fun w w1 z => hno w w1 z.1); rcases Int.lt_or_le (zLw X L p (n + 1) 10) 0 with z | z; exact (zLw_m 10).resolve_left (by omega); omega
      have zw : zWs X L p (z + 1) n = (-1, p + n) := by rw [zWs, ca, if_neg (by decide)]
      obtain ⟨a2, ha2⟩ : ∃ y : gm_H, y = (a1.1.set m (md_c m (zU K 21 1)), a1.2) := ⟨_, rfl⟩
      have M2 : a2.1[m]? = some (md_c m (zU K 21 1)) := by rw [ha2]; exact gs_s M1
      have p2 : zU K 21 1 18 = ((p + n : Nat) : Int) := (zU_n (by decide)).trans hp
      obtain ⟨a3, ha3⟩ : ∃ y : gm_H, y = (a2.1.set m (md_c m (zU (zU K 21 1) 18 ((p + n + 0 : Nat) : Int))), a2.2) := ⟨_, rfl⟩
      have M3 : a3.1[m]? = some (md_c m (zU (zU K 21 1) 18 ((p + n + 0 : Nat) : Int))) := by rw [ha3]; exact gs_s M2
      have f13 : gh_fr a1 a3 (fun k => k = m) := by rw [ha3]; exact gh_set (K := (fun k => k = m)) (by rw [ha2]; exact gh_set (K := (fun k => k = m)) gh_rf rfl _) rfl _
      have G3 := gh_at f13 e2 (by omega)
      have W3 := gh_at f13 (gh_at e4 hWa (by omega)) (by omega)
      have f3 : gh_fr h a3 (fun k => k = m ∨ k = m + 10) := gh_tr (gh_mono e4 fun k z => Or.inr z) (gh_mono f13 fun k z => Or.inl z)
      have w2 := w2_in M3 G3 W3 e3 (by omega) (mo := false) 10 0 rfl
      rw [hl] at w2
      rw [zw]
      refine ⟨a3, _, G1, ?_, M3, G3, ⟨zU_s, (zU_n (by decide)).trans zU_s, fun j j1 j2 => (zU_n j1).trans (zU_n j2)⟩, f3⟩
      refine gm_go.ru (gm_iload_n dX11_word_25 rfl) ?_
      refine gm_go.ru (gi_if_ge_f 222 dX11_word_26 (by decide) (by decide) (by decide)) ?_
      refine gm_go.ru (gm_aload_n dX11_word_29 rfl (by first | exact Or.inl ⟨_, rfl⟩ | exact Or.inr ⟨_, rfl⟩)) ?_
      refine gm_go.ru (gm_get dX11_word_30 (fl_X11_222 rfl) hM rfl) ?_
      rw [hw]
      refine gm_go.ru (gi_if_ne_f 222 dX11_word_33 (by decide) (by decide) (by decide)) ?_
      refine gm_go.ru (gi_const dX11_word_36) ?_
      refine gm_go.ru (gm_istore_n (ls' := [_, _, _, _, _]) dX11_word_37 (by decide) rfl) ?_
      refine gm_go.ru (gi_const dX11_word_38) ?_
      refine gm_go.ru (gm_istore (ls' := [_, _, _, _, _]) dX11_word_39 (by decide) rfl) ?_
      refine gm_go.ru e1 ?_
      rw [ca]
      refine gm_go.ru (gm_aload_n dX11_word_130 rfl (by first | exact Or.inl ⟨_, rfl⟩ | exact Or.inr ⟨_, rfl⟩)) ?_
      refine gm_go.ru (gm_iload_n dX11_word_131 rfl) ?_
      refine gm_go.ru (gi_if_ne_f 139 dX11_word_132 (by decide) (by decide) (by decide)) ?_
      refine gm_go.ru (gi_const dX11_word_135) ?_
      refine gm_go.ru (gm_goto (tgt := 140) dX11_word_136 (by decide)) ?_
      refine gm_go.ru (gm_put dX11_word_140 (fp_X11_222 rfl) M1 (Nat.le_of_ble_eq_true rfl) (by first | exact ⟨rfl, rfl⟩ | exact trivial)) ?_
      refine gm_hp ha2 ?_
      refine gm_go.ru (gm_aload_n dX11_word_143 rfl (by first | exact Or.inl ⟨_, rfl⟩ | exact Or.inr ⟨_, rfl⟩)) ?_
      refine gm_go.ru (gm_dup dX11_word_144 rfl) ?_
      refine gm_go.ru (gm_get dX11_word_145 (fl_X11_216 rfl) M2 rfl) ?_
      rw [p2]
      refine gm_go.ru (gm_iload_n dX11_word_148 rfl) ?_
      refine gm_go.ru (gi_if_eq_t (tgt := 156) dX11_word_149 (by decide) (by decide) (by decide)) ?_
      refine gm_go.ru (gi_const dX11_word_156) ?_
      refine gm_go.ru (gi_add dX11_word_157) ?_
      refine gm_go.ru (gm_put dX11_word_158 (fp_X11_216 rfl) M2 (Nat.le_of_ble_eq_true rfl) (by first | exact ⟨rfl, rfl⟩ | exact trivial)) ?_
      refine gm_hp ha3 ?_
      refine gm_go.ru (gi_iinc (ls' := [_, _, _, _, _]) dX11_word_161 rfl (by decide) rfl) ?_
      refine gm_go.ru (gi_const dX11_word_164) ?_
      refine gm_go.ru (gm_istore (ls' := [_, _, _, _, _]) dX11_word_165 (by decide) rfl) ?_
      refine gm_go.ru w2 ?_
      refine gm_go.ru (gm_goto (tgt := 25) dX11_word_219 (by decide)) ?_
      refine gm_go.ru (gm_iload_n dX11_word_25 rfl) ?_
      refine gm_go.ru (gi_if_ge_f 222 dX11_word_26 (by decide) (by decide) (by decide)) ?_
      refine gm_go.ru (gm_aload_n dX11_word_29 rfl (by first | exact Or.inl ⟨_, rfl⟩ | exact Or.inr ⟨_, rfl⟩)) ?_
      refine gm_go.ru (gm_get dX11_word_30 (fl_X11_222 rfl) M3 rfl) ?_
      rw [show zU (zU K 21 1) 18 ((p + n + 0 : Nat) : Int) 21 = 1 from (zU_n (by decide)).trans zU_s]
      refine gm_go.ru (gi_if_ne_t (tgt := 222) dX11_word_33 (by decide) (by decide) (by decide)) ?_
      refine gm_go.ru (gm_iload_n dX11_word_222 rfl) ?_
      exact gm_iret dX11_word_223 rfl
    ·
      obtain ⟨a2, ha2⟩ : ∃ y : gm_H, y = (a1.1.set m (md_c m (zU K 21 0)), a1.2) := ⟨_, rfl⟩
      have M2 : a2.1[m]? = some (md_c m (zU K 21 0)) := by rw [ha2]; exact gs_s M1
      have p2 : zU K 21 0 18 = ((p + n : Nat) : Int) := (zU_n (by decide)).trans hp
      obtain ⟨a3, ha3⟩ : ∃ y : gm_H, y = (a2.1.set m (md_c m (zU (zU K 21 0) 18 ((p + n + 1 : Nat) : Int))), a2.2) := ⟨_, rfl⟩
      have M3 : a3.1[m]? = some (md_c m (zU (zU K 21 0) 18 ((p + n + 1 : Nat) : Int))) := by rw [ha3]; exact gs_s M2
      have f13 : gh_fr a1 a3 (fun k => k = m) := by rw [ha3]; exact gh_set (K := (fun k => k = m)) (by rw [ha2]; exact gh_set (K := (fun k => k = m)) gh_rf rfl _) rfl _
      have G3 := gh_at f13 e2 (by omega)
      have W3 := gh_at f13 (gh_at e4 hWa (by omega)) (by omega)
      have f3 : gh_fr h a3 (fun k => k = m ∨ k = m + 10) := gh_tr (gh_mono e4 fun k z => Or.inr z) (gh_mono f13 fun k z => Or.inl z)
      have w2 := w2_in M3 G3 W3 e3 (by omega) (mo := true) 10 0 rfl
      by_cases cl : 0 ≤ zLw X L p (n + 1) 10
      ·
        have zw : zWs X L p (z + 1) n = (zLw X L p (n + 1) 10, p + (n + 1)) := by rw [zWs, if_pos ca, if_pos cl]
        rw [zw]
        have lr := zLw_e 10 cl
        obtain ⟨lw, lw1, lw2, -⟩ := lr
        refine ⟨a3, _, G1, ?_, M3, G3, ⟨zU_s, ((zU_n (by decide)).trans zU_s).trans (by rw [decide_eq_false (show ¬ zLw X L p (n + 1) 10 < 0 by omega)]; rfl), fun j j1 j2 => (zU_n j1).trans (zU_n j2)⟩, f3⟩
        refine gm_go.ru (gm_iload_n dX11_word_25 rfl) ?_
        refine gm_go.ru (gi_if_ge_f 222 dX11_word_26 (by decide) (by decide) (by decide)) ?_
        refine gm_go.ru (gm_aload_n dX11_word_29 rfl (by first | exact Or.inl ⟨_, rfl⟩ | exact Or.inr ⟨_, rfl⟩)) ?_
        refine gm_go.ru (gm_get dX11_word_30 (fl_X11_222 rfl) hM rfl) ?_
        rw [hw]
        refine gm_go.ru (gi_if_ne_f 222 dX11_word_33 (by decide) (by decide) (by decide)) ?_
        refine gm_go.ru (gi_const dX11_word_36) ?_
        refine gm_go.ru (gm_istore_n (ls' := [_, _, _, _, _]) dX11_word_37 (by decide) rfl) ?_
        refine gm_go.ru (gi_const dX11_word_38) ?_
        refine gm_go.ru (gm_istore (ls' := [_, _, _, _, _]) dX11_word_39 (by decide) rfl) ?_
        refine gm_go.ru e1 ?_
        rw [ca]
        refine gm_go.ru (gm_aload_n dX11_word_130 rfl (by first | exact Or.inl ⟨_, rfl⟩ | exact Or.inr ⟨_, rfl⟩)) ?_
        refine gm_go.ru (gm_iload_n dX11_word_131 rfl) ?_
        refine gm_go.ru (gi_if_ne_t (tgt := 139) dX11_word_132 (by decide) (by decide) (by decide)) ?_
        refine gm_go.ru (gi_const dX11_word_139) ?_
        refine gm_go.ru (gm_put dX11_word_140 (fp_X11_222 rfl) M1 (Nat.le_of_ble_eq_true rfl) (by first | exact ⟨rfl, rfl⟩ | exact trivial)) ?_
        refine gm_hp ha2 ?_
        refine gm_go.ru (gm_aload_n dX11_word_143 rfl (by first | exact Or.inl ⟨_, rfl⟩ | exact Or.inr ⟨_, rfl⟩)) ?_
        refine gm_go.ru (gm_dup dX11_word_144 rfl) ?_
        refine gm_go.ru (gm_get dX11_word_145 (fl_X11_216 rfl) M2 rfl) ?_
        rw [p2]
        refine gm_go.ru (gm_iload_n dX11_word_148 rfl) ?_
        refine gm_go.ru (gi_if_eq_f 156 dX11_word_149 (by decide) (by decide) (by decide)) ?_
        refine gm_go.ru (gi_const dX11_word_152) ?_
        refine gm_go.ru (gm_goto (tgt := 157) dX11_word_153 (by decide)) ?_
        refine gm_go.ru (gi_add dX11_word_157) ?_
        refine gm_go.ru (gm_put dX11_word_158 (fp_X11_216 rfl) M2 (Nat.le_of_ble_eq_true rfl) (by first | exact ⟨rfl, rfl⟩ | exact trivial)) ?_
        refine gm_hp ha3 ?_
        refine gm_go.ru (gi_iinc (ls' := [_, _, _, _, _]) dX11_word_161 rfl (by decide) rfl) ?_
        refine gm_go.ru (gi_const dX11_word_164) ?_
        refine gm_go.ru (gm_istore (ls' := [_, _, _, _, _]) dX11_word_165 (by decide) rfl) ?_
        refine gm_go.ru w2 ?_
        refine gm_go.ru (gm_goto (tgt := 25) dX11_word_219 (by decide)) ?_
        refine gm_go.ru (gm_iload_n dX11_word_25 rfl) ?_
        refine gm_go.ru (gi_if_ge_t (tgt := 222) dX11_word_26 (by decide) (by omega) (by omega)) ?_
        refine gm_go.ru (gm_iload_n dX11_word_222 rfl) ?_
        exact gm_iret dX11_word_223 rfl
      ·
        have hl : zLw X L p (n + 1) 10 = -1 := (zLw_m 10).resolve_left cl
        have zw : zWs X L p (z + 1) n = zWs X L p z (n + 1) := by rw [zWs, if_pos ca, if_neg cl]
        rw [zw]
        rw [hl] at w2
        obtain ⟨w, w1, w2b⟩ := (zAy_t 10).mp ca
        obtain ⟨h', K', G', d1, d2, d3, d4, d5⟩ := ih (n + 1) a3 _ G1 (some (.int (zI (zB true)))) (some (.int (zI 10))) (by omega) M3 (gh_at f13 (gh_at e4 hX (by omega)) (by omega)) G3 (gh_at f13 (gh_at e4 hWo (by omega)) (by omega)) W3 zU_s (((zU_n (by decide)).trans (zU_n (by decide))).trans hL) ((zU_n (by decide)).trans zU_s) e3 (Or.inr ⟨w, w1, w2b⟩)
        refine ⟨h', K', G', ?_, d2, d3, ⟨d4.1, d4.2.1, fun j j1 j2 => (d4.2.2 j j1 j2).trans ((zU_n j1).trans (zU_n j2))⟩, gh_tr f3 d5⟩
        refine gm_go.ru (gm_iload_n dX11_word_25 rfl) ?_
        refine gm_go.ru (gi_if_ge_f 222 dX11_word_26 (by decide) (by decide) (by decide)) ?_
        refine gm_go.ru (gm_aload_n dX11_word_29 rfl (by first | exact Or.inl ⟨_, rfl⟩ | exact Or.inr ⟨_, rfl⟩)) ?_
        refine gm_go.ru (gm_get dX11_word_30 (fl_X11_222 rfl) hM rfl) ?_
        rw [hw]
        refine gm_go.ru (gi_if_ne_f 222 dX11_word_33 (by decide) (by decide) (by decide)) ?_
        refine gm_go.ru (gi_const dX11_word_36) ?_
        refine gm_go.ru (gm_istore_n (ls' := [_, _, _, _, _]) dX11_word_37 (by decide) rfl) ?_
        refine gm_go.ru (gi_const dX11_word_38) ?_
        refine gm_go.ru (gm_istore (ls' := [_, _, _, _, _]) dX11_word_39 (by decide) rfl) ?_
        refine gm_go.ru e1 ?_
        rw [ca]
        refine gm_go.ru (gm_aload_n dX11_word_130 rfl (by first | exact Or.inl ⟨_, rfl⟩ | exact Or.inr ⟨_, rfl⟩)) ?_
        refine gm_go.ru (gm_iload_n dX11_word_131 rfl) ?_
        refine gm_go.ru (gi_if_ne_t (tgt := 139) dX11_word_132 (by decide) (by decide) (by decide)) ?_
        refine gm_go.ru (gi_const dX11_word_139) ?_
        refine gm_go.ru (gm_put dX11_word_140 (fp_X11_222 rfl) M1 (Nat.le_of_ble_eq_true rfl) (by first | exact ⟨rfl, rfl⟩ | exact trivial)) ?_
        refine gm_hp ha2 ?_
        refine gm_go.ru (gm_aload_n dX11_word_143 rfl (by first | exact Or.inl ⟨_, rfl⟩ | exact Or.inr ⟨_, rfl⟩)) ?_
        refine gm_go.ru (gm_dup dX11_word_144 rfl) ?_
        refine gm_go.ru (gm_get dX11_word_145 (fl_X11_216 rfl) M2 rfl) ?_
        rw [p2]
        refine gm_go.ru (gm_iload_n dX11_word_148 rfl) ?_
        refine gm_go.ru (gi_if_eq_f 156 dX11_word_149 (by decide) (by decide) (by decide)) ?_
        refine gm_go.ru (gi_const dX11_word_152) ?_
        refine gm_go.ru (gm_goto (tgt := 157) dX11_word_153 (by decide)) ?_
        refine gm_go.ru (gi_add dX11_word_157) ?_
        refine gm_go.ru (gm_put dX11_word_158 (fp_X11_216 rfl) M2 (Nat.le_of_ble_eq_true rfl) (by first | exact ⟨rfl, rfl⟩ | exact trivial)) ?_
        refine gm_hp ha3 ?_
        refine gm_go.ru (gi_iinc (ls' := [_, _, _, _, _]) dX11_word_161 rfl (by decide) rfl) ?_
        refine gm_go.ru (gi_const dX11_word_164) ?_
        refine gm_go.ru (gm_istore (ls' := [_, _, _, _, _]) dX11_word_165 (by decide) rfl) ?_
        refine gm_go.ru w2 ?_
        refine gm_go.ru (gm_goto (tgt := 25) dX11_word_219 (by decide)) ?_
        exact d1
set_option maxRecDepth 4000 in
theorem w0_in {m : Nat} {K : Nat → Int} : ∀ (z j : Nat) (h : gm_H) (G : Nat → Int), j + z = 10 → h.1[m]? = some (md_c m K) → h.1[m + 10]? = some (gA 10 G) → (∀ k, k < j → G k = 1) → ∃ h' G', gm_go mX11_word 5 (2, [some (.ref m), some (.int (zI (j : Int))), none, none, none], [], h) (21, [some (.ref m), some (.int (zI 10)), none, none, none], [], h') ∧ h'.1[m + 10]? = some (gA 10 G') ∧ (∀ k, k < 10 → G' k = 1) ∧ gh_fr h h' (fun k => k = m + 10) := by
  intro z
  induction z with
  | zero =>
    intro j h G hj hM hG g1
    obtain rfl : j = 10 := by omega
    refine ⟨h, G, ?_, hG, g1, gh_rf⟩
    refine gm_go_tr (gm_iload_n dX11_word_2 rfl) ?_
    refine gm_go_tr (gi_bipush dX11_word_3 (by decide +kernel)) ?_
    refine gm_go_tr (gi_icmp_ge_t (tgt := 21) dX11_word_5 (by decide) (by decide) (by decide) (by decide)) ?_
    exact gm_go_rf
  | succ z ih =>
    intro j h G hj hM hG g1
    obtain ⟨a1, ha1⟩ : ∃ y : gm_H, y = (h.1.set (m + 10) (gA 10 (zU G j 1)), h.2) := ⟨_, rfl⟩
    have f1 : gh_fr h a1 (fun k => k = m + 10) := by rw [ha1]; exact gh_set (K := (fun k => k = m + 10)) gh_rf rfl _
    have G1 : a1.1[m + 10]? = some (gA 10 (zU G j 1)) := by rw [ha1]; exact gs_s hG
    obtain ⟨h', G', e1, e2, e3, e4⟩ := ih (j + 1) a1 _ (by omega) (gh_at f1 hM (by omega)) G1 (fun k hk => by
      by_cases e : k = j
      · rw [e, zU_s]
      · rw [zU_n e]; exact g1 k (by omega))
    refine ⟨h', G', ?_, e2, e3, gh_tr f1 e4⟩
    refine gm_go_tr (gm_iload_n dX11_word_2 rfl) ?_
    refine gm_go_tr (gi_bipush dX11_word_3 (by decide +kernel)) ?_
    refine gm_go_tr (gi_icmp_ge_f 21 dX11_word_5 (by decide) (by omega) (by decide) (by omega)) ?_
    refine gm_go_tr (gm_aload_n dX11_word_8 rfl (by first | exact Or.inl ⟨_, rfl⟩ | exact Or.inr ⟨_, rfl⟩)) ?_
    refine gm_go_tr (gm_get dX11_word_9 (fl_X11_44 rfl) hM rfl) ?_
    refine gm_go_tr (gm_iload_n dX11_word_12 rfl) ?_
    refine gm_go_tr (gi_const dX11_word_13) ?_
    refine gm_go_tr (gi_astN (a := j) dX11_word_14 hG (by omega) (by decide)) ?_
    refine gm_hq ha1 ?_
    refine gm_go_tr (gi_iinc (ls' := [_, _, _, _, _]) dX11_word_15 rfl (by decide) rfl) ?_
    refine gm_go_tr (gm_goto (tgt := 2) dX11_word_18 (by decide)) ?_
    exact e1
set_option maxRecDepth 4000 in
theorem ct_mWord {h : gm_H} {m p L : Nat} {K X G : Nat → Int} (hM : h.1[m]? = some (md_c m K)) (hX : h.1[m + 8]? = some (gA 60 X)) (hG : h.1[m + 10]? = some (gA 10 G)) (hWo : h.1[m + 11]? = some (gA 60 zWo)) (hWa : h.1[m + 12]? = some (gA 11 zWa)) (hp : K 18 = (p : Int)) (hL : K 19 = (L : Int)) (ht : zTx X L) (hp9 : p ≤ 65) (hw : K 21 = 0) : ∃ h' K' G', gm_co mX11_word 5 [.ref m] h (.inl (some (.int (zI (zWs X L p 9 0).1)))) h' ∧ h'.1[m]? = some (md_c m K') ∧ h'.1[m + 10]? = some (gA 10 G') ∧ kp K K' (zWs X L p 9 0).2 (decide ((zWs X L p 9 0).1 < 0)) ∧ gh_fr h h' (fun k => k = m ∨ k = m + 10) := by
  obtain ⟨a1, G1, e1, e2, e3, e4⟩ := w0_in 10 0 h G rfl hM hG (fun k hk => absurd hk (by omega))
  have M1 := gh_at e4 hM (by omega)
  obtain ⟨h', K', G', d1, d2, d3, d4, d5⟩ := w3_in ht hp9 9 0 a1 K G1 none none rfl M1 (gh_at e4 hX (by omega)) e2 (gh_at e4 hWo (by omega)) (gh_at e4 hWa (by omega)) hp hL hw (fun k hk => e3 k hk) (Or.inl rfl)
  refine ⟨h', K', G', ?_, d2, d3, d4, gh_tr (gh_mono e4 fun k z => Or.inr z) d5⟩
  refine gm_co_of _ (by decide +kernel) rfl (Nat.le_of_ble_eq_true rfl) rfl ?_
  refine gm_go.ru (gi_const dX11_word_0) ?_
  refine gm_go.ru (gm_istore_n (ls' := [_, _, _, _, _]) dX11_word_1 (by decide) rfl) ?_
  refine gm_go.ru e1 ?_
  refine gm_go.ru (gi_const dX11_word_21) ?_
  refine gm_go.ru (gm_istore_n (ls' := [_, _, _, _, _]) dX11_word_22 (by decide) rfl) ?_
  refine gm_go.ru (gi_const dX11_word_23) ?_
  refine gm_go.ru (gm_istore_n (ls' := [_, _, _, _, _]) dX11_word_24 (by decide) rfl) ?_
  exact d1
