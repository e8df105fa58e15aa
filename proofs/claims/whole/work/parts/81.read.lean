/-- what reading changes of the Model's numbers -/
def kp (K K' : Nat → Int) (p : Nat) (w : Bool) : Prop := K' 18 = (p : Int) ∧ K' 21 = zB w ∧ ∀ j, j ≠ 18 → j ≠ 21 → K' j = K j
def zTx (X : Nat → Int) (L : Nat) : Prop := L ≤ 60 ∧ ∀ i, i < L → 32 ≤ X i ∧ X i ≤ 126
def zSgn (X : Nat → Int) (L p : Nat) : Int := if p < L then X p else -1
theorem zSgn_r {X : Nat → Int} {L p : Nat} (h : zTx X L) : -1 ≤ zSgn X L p ∧ zSgn X L p ≤ 126 := by
  unfold zSgn
  split
  · have := h.2 p (by assumption); omega
  · omega
theorem zSgn_s {X : Nat → Int} {L p : Nat} {c : Int} (hc : 0 ≤ c) : zsg X L p c = decide (zSgn X L p = c) := by
  unfold zsg zSgn
  refine decide_eq_decide.mpr ?_
  split
  · rename_i h; constructor
    · intro z; exact z.2
    · intro z; exact ⟨h, z⟩
  · rename_i h; constructor
    · intro z; exact absurd z.1 h
    · intro z; omega
theorem zSgn_d {X : Nat → Int} {L p : Nat} : zdg X L p = decide (48 ≤ zSgn X L p ∧ zSgn X L p ≤ 57) := by
  unfold zdg zSgn
  refine decide_eq_decide.mpr ?_
  split
  · rename_i h; constructor
    · intro z; exact z.2
    · intro z; exact ⟨h, z⟩
  · rename_i h; constructor
    · intro z; exact absurd z.1 h
    · intro z; omega
theorem kp_tr {K K' K'' : Nat → Int} {p q : Nat} {w u : Bool} (h : kp K K' p w) (g : kp K' K'' q u) : kp K K'' q u := ⟨g.1, g.2.1, fun j h1 h2 => (g.2.2 j h1 h2).trans (h.2.2 j h1 h2)⟩
set_option maxRecDepth 4000 in
theorem ct_mSign {h : gm_H} {m p L : Nat} {K X : Nat → Int} (hM : h.1[m]? = some (md_c m K)) (hX : h.1[m + 8]? = some (gA 60 X)) (hp : K 18 = (p : Int)) (hL : K 19 = (L : Int)) (ht : zTx X L) (hp9 : p ≤ 100) : gm_co mX11_sign 1 [.ref m] h (.inl (some (.int (zI (zSgn X L p))))) h := by
  refine gm_co_of _ (by decide +kernel) rfl (Nat.le_of_ble_eq_true rfl) rfl ?_
  have t1 := ht.1
  unfold zSgn
  by_cases c : p < L
  ·
    rw [if_pos c]
    refine gm_go.ru (gm_aload_n dX11_sign_0 rfl (by first | exact Or.inl ⟨_, rfl⟩ | exact Or.inr ⟨_, rfl⟩)) ?_
    refine gm_go.ru (gm_get dX11_sign_1 (fl_X11_216 rfl) hM rfl) ?_
    rw [hp]
    refine gm_go.ru (gm_aload_n dX11_sign_4 rfl (by first | exact Or.inl ⟨_, rfl⟩ | exact Or.inr ⟨_, rfl⟩)) ?_
    refine gm_go.ru (gm_get dX11_sign_5 (fl_X11_219 rfl) hM rfl) ?_
    rw [hL]
    refine gm_go.ru (gi_icmp_ge_f 23 dX11_sign_8 (by decide) (by omega) (by omega) (by omega)) ?_
    refine gm_go.ru (gm_aload_n dX11_sign_11 rfl (by first | exact Or.inl ⟨_, rfl⟩ | exact Or.inr ⟨_, rfl⟩)) ?_
    refine gm_go.ru (gm_get dX11_sign_12 (fl_X11_38 rfl) hM rfl) ?_
    refine gm_go.ru (gm_aload_n dX11_sign_15 rfl (by first | exact Or.inl ⟨_, rfl⟩ | exact Or.inr ⟨_, rfl⟩)) ?_
    refine gm_go.ru (gm_get dX11_sign_16 (fl_X11_216 rfl) hM rfl) ?_
    rw [hp]
    refine gm_go.ru (gi_aldN dX11_sign_19 hX (by omega) (by decide)) ?_
    refine gm_go.ru (gm_goto (tgt := 24) dX11_sign_20 (by decide)) ?_
    exact gm_iret dX11_sign_24 rfl
  ·
    rw [if_neg c]
    refine gm_go.ru (gm_aload_n dX11_sign_0 rfl (by first | exact Or.inl ⟨_, rfl⟩ | exact Or.inr ⟨_, rfl⟩)) ?_
    refine gm_go.ru (gm_get dX11_sign_1 (fl_X11_216 rfl) hM rfl) ?_
    rw [hp]
    refine gm_go.ru (gm_aload_n dX11_sign_4 rfl (by first | exact Or.inl ⟨_, rfl⟩ | exact Or.inr ⟨_, rfl⟩)) ?_
    refine gm_go.ru (gm_get dX11_sign_5 (fl_X11_219 rfl) hM rfl) ?_
    rw [hL]
    refine gm_go.ru (gi_icmp_ge_t (tgt := 23) dX11_sign_8 (by decide) (by omega) (by omega) (by omega)) ?_
    refine gm_go.ru (gi_const dX11_sign_23) ?_
    exact gm_iret dX11_sign_24 rfl
set_option maxRecDepth 4000 in
theorem ct_mMark {h : gm_H} {m p L : Nat} {K X : Nat → Int} (hM : h.1[m]? = some (md_c m K)) (hX : h.1[m + 8]? = some (gA 60 X)) (hp : K 18 = (p : Int)) (hL : K 19 = (L : Int)) (ht : zTx X L) (hp9 : p ≤ 100) (hw : K 21 = 0) {x : Int} (hx : 0 ≤ x ∧ x ≤ 1000) : ∃ h' K', gm_co mX11_mark 2 [.ref m, .int (zI x)] h (.inl none) h' ∧ h'.1[m]? = some (md_c m K') ∧ kp K K' (if zsg X L p x = true then p + 1 else p) (!zsg X L p x) ∧ gh_fr h h' (fun k => k = m) := by
  have sr := zSgn_r (p := p) ht
  have ss := zSgn_s (X := X) (L := L) (p := p) (c := x) hx.1
  cases c : zsg X L p x
  ·
    rw [c] at ss
    have c2 : ¬ zSgn X L p = x := of_decide_eq_false ss.symm
    obtain ⟨a1, ha1⟩ : ∃ y : gm_H, y = (h.1.set m (md_c m (zU K 21 1)), h.2) := ⟨_, rfl⟩
    have M1 : a1.1[m]? = some (md_c m (zU K 21 1)) := by rw [ha1]; exact gs_s hM
    have p1 : zU K 21 1 18 = (p : Int) := (zU_n (by decide)).trans hp
    obtain ⟨a2, ha2⟩ : ∃ y : gm_H, y = (a1.1.set m (md_c m (zU (zU K 21 1) 18 ((p + 0 : Nat) : Int))), a1.2) := ⟨_, rfl⟩
    refine ⟨a2, _, ?_, by rw [ha2]; exact gs_s M1, ⟨zU_s, (zU_n (by decide)).trans zU_s, fun j j1 j2 => (zU_n j1).trans (zU_n j2)⟩, by rw [ha2]; exact gh_set (K := (fun k => k = m)) (by rw [ha1]; exact gh_set (K := (fun k => k = m)) gh_rf rfl _) rfl _⟩
    refine gm_co_of _ (by decide +kernel) rfl (Nat.le_of_ble_eq_true rfl) rfl ?_
    refine gm_go.ru (gm_aload_n dX11_mark_0 rfl (by first | exact Or.inl ⟨_, rfl⟩ | exact Or.inr ⟨_, rfl⟩)) ?_
    refine gm_go.ru (gm_get dX11_mark_1 (fl_X11_222 rfl) hM rfl) ?_
    rw [hw]
    refine gm_go.ru (gi_if_eq_t (tgt := 8) dX11_mark_4 (by decide) (by decide) rfl) ?_
    refine gm_go.ru (gm_aload_n dX11_mark_8 rfl (by first | exact Or.inl ⟨_, rfl⟩ | exact Or.inr ⟨_, rfl⟩)) ?_
    refine gm_go.ru (gm_aload_n dX11_mark_9 rfl (by first | exact Or.inl ⟨_, rfl⟩ | exact Or.inr ⟨_, rfl⟩)) ?_
    refine gm_go.ru (gm_cV dX11_mark_10 (ct_mSign hM hX hp hL ht hp9) rfl mt_X11_sign mv_X11_sign (lk_X11_226 rfl) (Or.inl ⟨_, 12, _, _, _, rfl, hM, rfl⟩) rfl (Nat.le_of_ble_eq_true rfl) (by decide)) ?_
    refine gm_go.ru (gm_iload_n dX11_mark_13 rfl) ?_
    refine gm_go.ru (gi_icmp_eq_f 21 dX11_mark_14 (by decide) (by omega) (by omega) c2) ?_
    refine gm_go.ru (gi_const dX11_mark_17) ?_
    refine gm_go.ru (gm_goto (tgt := 22) dX11_mark_18 (by decide)) ?_
    refine gm_go.ru (gm_put dX11_mark_22 (fp_X11_222 rfl) hM (Nat.le_of_ble_eq_true rfl) (by first | exact ⟨rfl, rfl⟩ | exact trivial)) ?_
    refine gm_hp ha1 ?_
    refine gm_go.ru (gm_aload_n dX11_mark_25 rfl (by first | exact Or.inl ⟨_, rfl⟩ | exact Or.inr ⟨_, rfl⟩)) ?_
    refine gm_go.ru (gm_dup dX11_mark_26 rfl) ?_
    refine gm_go.ru (gm_get dX11_mark_27 (fl_X11_216 rfl) M1 rfl) ?_
    rw [p1]
    refine gm_go.ru (gm_aload_n dX11_mark_30 rfl (by first | exact Or.inl ⟨_, rfl⟩ | exact Or.inr ⟨_, rfl⟩)) ?_
    refine gm_go.ru (gm_get dX11_mark_31 (fl_X11_222 rfl) M1 rfl) ?_
    rw [zU_s]
    refine gm_go.ru (gi_if_eq_f 41 dX11_mark_34 (by decide) (by decide) (by decide)) ?_
    refine gm_go.ru (gi_const dX11_mark_37) ?_
    refine gm_go.ru (gm_goto (tgt := 42) dX11_mark_38 (by decide)) ?_
    refine gm_go.ru (gi_add dX11_mark_42) ?_
    refine gm_go.ru (gm_put dX11_mark_43 (fp_X11_216 rfl) M1 (Nat.le_of_ble_eq_true rfl) (by first | exact ⟨rfl, rfl⟩ | exact trivial)) ?_
    refine gm_hp ha2 ?_
    exact gm_vret dX11_mark_46 rfl
  ·
    rw [c] at ss
    have c2 : zSgn X L p = x := of_decide_eq_true ss.symm
    obtain ⟨a1, ha1⟩ : ∃ y : gm_H, y = (h.1.set m (md_c m (zU K 21 0)), h.2) := ⟨_, rfl⟩
    have M1 : a1.1[m]? = some (md_c m (zU K 21 0)) := by rw [ha1]; exact gs_s hM
    have p1 : zU K 21 0 18 = (p : Int) := (zU_n (by decide)).trans hp
    obtain ⟨a2, ha2⟩ : ∃ y : gm_H, y = (a1.1.set m (md_c m (zU (zU K 21 0) 18 ((p + 1 : Nat) : Int))), a1.2) := ⟨_, rfl⟩
    refine ⟨a2, _, ?_, by rw [ha2]; exact gs_s M1, ⟨zU_s, (zU_n (by decide)).trans zU_s, fun j j1 j2 => (zU_n j1).trans (zU_n j2)⟩, by rw [ha2]; exact gh_set (K := (fun k => k = m)) (by rw [ha1]; exact gh_set (K := (fun k => k = m)) gh_rf rfl _) rfl _⟩
    refine gm_co_of _ (by decide +kernel) rfl (Nat.le_of_ble_eq_true rfl) rfl ?_
    refine gm_go.ru (gm_aload_n dX11_mark_0 rfl (by first | exact Or.inl ⟨_, rfl⟩ | exact Or.inr ⟨_, rfl⟩)) ?_
    refine gm_go.ru (gm_get dX11_mark_1 (fl_X11_222 rfl) hM rfl) ?_
    rw [hw]
    refine gm_go.ru (gi_if_eq_t (tgt := 8) dX11_mark_4 (by decide) (by decide) rfl) ?_
    refine gm_go.ru (gm_aload_n dX11_mark_8 rfl (by first | exact Or.inl ⟨_, rfl⟩ | exact Or.inr ⟨_, rfl⟩)) ?_
    refine gm_go.ru (gm_aload_n dX11_mark_9 rfl (by first | exact Or.inl ⟨_, rfl⟩ | exact Or.inr ⟨_, rfl⟩)) ?_
    refine gm_go.ru (gm_cV dX11_mark_10 (ct_mSign hM hX hp hL ht hp9) rfl mt_X11_sign mv_X11_sign (lk_X11_226 rfl) (Or.inl ⟨_, 12, _, _, _, rfl, hM, rfl⟩) rfl (Nat.le_of_ble_eq_true rfl) (by decide)) ?_
    refine gm_go.ru (gm_iload_n dX11_mark_13 rfl) ?_
    refine gm_go.ru (gi_icmp_eq_t (tgt := 21) dX11_mark_14 (by decide) (by omega) (by omega) c2) ?_
    refine gm_go.ru (gi_const dX11_mark_21) ?_
    refine gm_go.ru (gm_put dX11_mark_22 (fp_X11_222 rfl) hM (Nat.le_of_ble_eq_true rfl) (by first | exact ⟨rfl, rfl⟩ | exact trivial)) ?_
    refine gm_hp ha1 ?_
    refine gm_go.ru (gm_aload_n dX11_mark_25 rfl (by first | exact Or.inl ⟨_, rfl⟩ | exact Or.inr ⟨_, rfl⟩)) ?_
    refine gm_go.ru (gm_dup dX11_mark_26 rfl) ?_
    refine gm_go.ru (gm_get dX11_mark_27 (fl_X11_216 rfl) M1 rfl) ?_
    rw [p1]
    refine gm_go.ru (gm_aload_n dX11_mark_30 rfl (by first | exact Or.inl ⟨_, rfl⟩ | exact Or.inr ⟨_, rfl⟩)) ?_
    refine gm_go.ru (gm_get dX11_mark_31 (fl_X11_222 rfl) M1 rfl) ?_
    rw [zU_s]
    refine gm_go.ru (gi_if_eq_t (tgt := 41) dX11_mark_34 (by decide) (by decide) rfl) ?_
    refine gm_go.ru (gi_const dX11_mark_41) ?_
    refine gm_go.ru (gi_add dX11_mark_42) ?_
    refine gm_go.ru (gm_put dX11_mark_43 (fp_X11_216 rfl) M1 (Nat.le_of_ble_eq_true rfl) (by first | exact ⟨rfl, rfl⟩ | exact trivial)) ?_
    refine gm_hp ha2 ?_
    exact gm_vret dX11_mark_46 rfl
set_option maxRecDepth 4000 in
theorem dg_1 {m mx p L : Nat} {X : Nat → Int} (ht : zTx X L) (hmx : mx ≤ 3) (hp9 : p ≤ 70) : ∀ (z j : Nat) (h : gm_H) (K : Nat → Int), j + z = mx → h.1[m]? = some (md_c m K) → h.1[m + 8]? = some (gA 60 X) → K 18 = ((p + j : Nat) : Int) → K 19 = (L : Int) → K 21 = 0 → ∃ h' K', gm_go mX11_digits 3 (4, [some (.ref m), some (.int (zI (mx : Int))), some (.int (zI (zvl X p j))), some (.int (zI (j : Int)))], [], h) (59, [some (.ref m), some (.int (zI (mx : Int))), some (.int (zI (zvl X p (j + zdn X L (p + j) z)))), some (.int (zI ((j + zdn X L (p + j) z : Nat) : Int)))], [], h') ∧ h'.1[m]? = some (md_c m K') ∧ K' 18 = ((p + (j + zdn X L (p + j) z) : Nat) : Int) ∧ (∀ i, i ≠ 18 → K' i = K i) ∧ gh_fr h h' (fun k => k = m) := by
  intro z
  induction z with
  | zero =>
    intro j h K hj hM hX hp hL hw
    obtain rfl : j = mx := by omega
    refine ⟨h, K, ?_, hM, hp, fun _ _ => rfl, gh_rf⟩
    refine gm_go_tr (gm_aload_n dX11_digits_4 rfl (by first | exact Or.inl ⟨_, rfl⟩ | exact Or.inr ⟨_, rfl⟩)) ?_
    refine gm_go_tr (gm_get dX11_digits_5 (fl_X11_222 rfl) hM rfl) ?_
    rw [hw]
    refine gm_go_tr (gi_if_ne_f 59 dX11_digits_8 (by decide) (by decide) rfl) ?_
    refine gm_go_tr (gm_iload_n dX11_digits_11 rfl) ?_
    refine gm_go_tr (gm_iload_n dX11_digits_12 rfl) ?_
    refine gm_go_tr (gi_icmp_ge_t (tgt := 59) dX11_digits_13 (by decide) (by omega) (by omega) (by omega)) ?_
    exact gm_go_rf
  | succ z ih =>
    intro j h K hj hM hX hp hL hw
    have sr := zSgn_r (p := p + j) ht
    have sd := zSgn_d (X := X) (L := L) (p := p + j)
    have sg := ct_mSign hM hX hp hL ht (by omega)
    rw [zdn]
    cases c : zdg X L (p + j)
    ·
      rw [c] at sd
      have c2 := of_decide_eq_false sd.symm
      refine ⟨h, K, ?_, hM, hp, fun _ _ => rfl, gh_rf⟩
      refine gm_go_tr (gm_aload_n dX11_digits_4 rfl (by first | exact Or.inl ⟨_, rfl⟩ | exact Or.inr ⟨_, rfl⟩)) ?_
      refine gm_go_tr (gm_get dX11_digits_5 (fl_X11_222 rfl) hM rfl) ?_
      rw [hw]
      refine gm_go_tr (gi_if_ne_f 59 dX11_digits_8 (by decide) (by decide) rfl) ?_
      refine gm_go_tr (gm_iload_n dX11_digits_11 rfl) ?_
      refine gm_go_tr (gm_iload_n dX11_digits_12 rfl) ?_
      refine gm_go_tr (gi_icmp_ge_f 59 dX11_digits_13 (by decide) (by omega) (by omega) (by omega)) ?_
      refine gm_go_tr (gm_aload_n dX11_digits_16 rfl (by first | exact Or.inl ⟨_, rfl⟩ | exact Or.inr ⟨_, rfl⟩)) ?_
      refine gm_go_tr (gm_cV dX11_digits_17 (sg) rfl mt_X11_sign mv_X11_sign (lk_X11_226 rfl) (Or.inl ⟨_, 12, _, _, _, rfl, hM, rfl⟩) rfl (Nat.le_of_ble_eq_true rfl) (by decide)) ?_
      refine gm_go_tr (gi_bipush dX11_digits_20 (by decide +kernel)) ?_
      refine gm_go_tr (gi_bipush dX11_digits_22 (by decide +kernel)) ?_
      refine gm_go_tr (gm_cS dX11_digits_24 (ct_mIsIn (by omega) (by decide) (by decide)) rfl mt_X11_isIn ms_X11_isIn (lk_X11_63 rfl) rfl (Nat.le_of_ble_eq_true rfl) (by decide)) ?_
      rw [zB_f c2]
      refine gm_go_tr (gi_if_eq_t (tgt := 59) dX11_digits_27 (by decide) (by decide) rfl) ?_
      exact gm_go_rf
    ·
      rw [c] at sd
      have c2 := of_decide_eq_true sd.symm
      have c3 := of_decide_eq_true c
      have sx : zSgn X L (p + j) = X (p + j) := if_pos c3.1
      obtain ⟨a1, ha1⟩ : ∃ y : gm_H, y = (h.1.set m (md_c m (zU K 18 ((p + (j + 1) : Nat) : Int))), h.2) := ⟨_, rfl⟩
      have M1 : a1.1[m]? = some (md_c m (zU K 18 ((p + (j + 1) : Nat) : Int))) := by rw [ha1]; exact gs_s hM
      have f1 : gh_fr h a1 (fun k => k = m) := by rw [ha1]; exact gh_set (K := (fun k => k = m)) gh_rf rfl _
      obtain ⟨h', K', e1, e2, e3, e4, e5⟩ := ih (j + 1) a1 _ (by omega) M1 (gh_at f1 hX (by omega)) zU_s ((zU_n (by decide)).trans hL) ((zU_n (by decide)).trans hw)
      refine ⟨h', K', ?_, e2, ?_, fun i hi => (e4 i hi).trans (zU_n hi), gh_tr f1 e5⟩
      ·
        rw [if_pos rfl, show j + (zdn X L (p + j + 1) z + 1) = j + 1 + zdn X L (p + (j + 1)) z by rw [show p + j + 1 = p + (j + 1) by omega]; omega]
        refine gm_go_tr (gm_aload_n dX11_digits_4 rfl (by first | exact Or.inl ⟨_, rfl⟩ | exact Or.inr ⟨_, rfl⟩)) ?_
        refine gm_go_tr (gm_get dX11_digits_5 (fl_X11_222 rfl) hM rfl) ?_
        rw [hw]
        refine gm_go_tr (gi_if_ne_f 59 dX11_digits_8 (by decide) (by decide) rfl) ?_
        refine gm_go_tr (gm_iload_n dX11_digits_11 rfl) ?_
        refine gm_go_tr (gm_iload_n dX11_digits_12 rfl) ?_
        refine gm_go_tr (gi_icmp_ge_f 59 dX11_digits_13 (by decide) (by omega) (by omega) (by omega)) ?_
        refine gm_go_tr (gm_aload_n dX11_digits_16 rfl (by first | exact Or.inl ⟨_, rfl⟩ | exact Or.inr ⟨_, rfl⟩)) ?_
        refine gm_go_tr (gm_cV dX11_digits_17 (sg) rfl mt_X11_sign mv_X11_sign (lk_X11_226 rfl) (Or.inl ⟨_, 12, _, _, _, rfl, hM, rfl⟩) rfl (Nat.le_of_ble_eq_true rfl) (by decide)) ?_
        refine gm_go_tr (gi_bipush dX11_digits_20 (by decide +kernel)) ?_
        refine gm_go_tr (gi_bipush dX11_digits_22 (by decide +kernel)) ?_
        refine gm_go_tr (gm_cS dX11_digits_24 (ct_mIsIn (by omega) (by decide) (by decide)) rfl mt_X11_isIn ms_X11_isIn (lk_X11_63 rfl) rfl (Nat.le_of_ble_eq_true rfl) (by decide)) ?_
        rw [zB_t c2]
        refine gm_go_tr (gi_if_eq_f 59 dX11_digits_27 (by decide) (by decide) (by decide)) ?_
        refine gm_go_tr (gi_bipush dX11_digits_30 (by decide +kernel)) ?_
        refine gm_go_tr (gm_iload_n dX11_digits_32 rfl) ?_
        refine gm_go_tr (gi_mul dX11_digits_33) ?_
        refine gm_go_tr (gm_aload_n dX11_digits_34 rfl (by first | exact Or.inl ⟨_, rfl⟩ | exact Or.inr ⟨_, rfl⟩)) ?_
        refine gm_go_tr (gm_cV dX11_digits_35 (sg) rfl mt_X11_sign mv_X11_sign (lk_X11_226 rfl) (Or.inl ⟨_, 12, _, _, _, rfl, hM, rfl⟩) rfl (Nat.le_of_ble_eq_true rfl) (by decide)) ?_
        refine gm_go_tr (gi_add dX11_digits_38) ?_
        refine gm_go_tr (gi_bipush dX11_digits_39 (by decide +kernel)) ?_
        refine gm_go_tr (gi_sub dX11_digits_41) ?_
        refine gm_go_tr (gm_istore_n (ls' := [_, _, _, _]) dX11_digits_42 (by decide) rfl) ?_
        refine gm_go_tr (gm_aload_n dX11_digits_43 rfl (by first | exact Or.inl ⟨_, rfl⟩ | exact Or.inr ⟨_, rfl⟩)) ?_
        refine gm_go_tr (gm_dup dX11_digits_44 rfl) ?_
        refine gm_go_tr (gm_get dX11_digits_45 (fl_X11_216 rfl) hM rfl) ?_
        rw [hp]
        refine gm_go_tr (gi_const dX11_digits_48) ?_
        refine gm_go_tr (gi_add dX11_digits_49) ?_
        refine gm_go_tr (gm_put dX11_digits_50 (fp_X11_216 rfl) hM (Nat.le_of_ble_eq_true rfl) (by first | exact ⟨rfl, rfl⟩ | exact trivial)) ?_
        refine gm_hq ha1 ?_
        refine gm_go_tr (gi_iinc (ls' := [_, _, _, _]) dX11_digits_53 rfl (by decide) rfl) ?_
        refine gm_go_tr (gm_goto (tgt := 4) dX11_digits_56 (by decide)) ?_
        rw [show (10 : Int) * zvl X p j + zSgn X L (p + j) - 48 = zvl X p (j + 1) by rw [zvl, sx]; omega]
        exact e1
      ·
        rw [if_pos rfl, show j + (zdn X L (p + j + 1) z + 1) = j + 1 + zdn X L (p + (j + 1)) z by rw [show p + j + 1 = p + (j + 1) by omega]; omega]
        exact e3
set_option maxRecDepth 4000 in
theorem ct_mDig {h : gm_H} {m p L : Nat} {K X : Nat → Int} (hM : h.1[m]? = some (md_c m K)) (hX : h.1[m + 8]? = some (gA 60 X)) (hp : K 18 = (p : Int)) (hL : K 19 = (L : Int)) (ht : zTx X L) (hp9 : p ≤ 70) (hw : K 21 = 0) {mx : Nat} (hmx : mx ≤ 3) : ∃ h' K', gm_co mX11_digits 3 [.ref m, .int (zI (mx : Int))] h (.inl (some (.int (zI (zvl X p (zdn X L p mx)))))) h' ∧ h'.1[m]? = some (md_c m K') ∧ kp K K' (p + zdn X L p mx) (decide (zdn X L p mx = 0)) ∧ gh_fr h h' (fun k => k = m) := by
  have zl := zdn_le X L mx p
  obtain ⟨a1, K1, e1, e2, e3, e4, e5⟩ := dg_1 ht hmx hp9 mx 0 h K (by omega) hM hX hp hL hw
  simp only [Nat.zero_add, Nat.add_zero] at e1 e3
  have w1 : K1 21 = 0 := (e4 21 (by decide)).trans hw
  generalize zdn X L p mx = k at *
  by_cases c : k = 0
  ·
    obtain ⟨a2, ha2⟩ : ∃ y : gm_H, y = (a1.1.set m (md_c m (zU K1 21 1)), a1.2) := ⟨_, rfl⟩
    refine ⟨a2, _, ?_, by rw [ha2]; exact gs_s e2, ⟨(zU_n (by decide)).trans e3, zU_s.trans (by rw [decide_eq_true c]; rfl), fun j j1 j2 => (zU_n j2).trans (e4 j j1)⟩, by rw [ha2]; exact gh_set (K := (fun k => k = m)) e5 rfl _⟩
    refine gm_co_of _ (by decide +kernel) rfl (Nat.le_of_ble_eq_true rfl) rfl ?_
    refine gm_go.ru (gi_const dX11_digits_0) ?_
    refine gm_go.ru (gm_istore_n (ls' := [_, _, _, _]) dX11_digits_1 (by decide) rfl) ?_
    refine gm_go.ru (gi_const dX11_digits_2) ?_
    refine gm_go.ru (gm_istore_n (ls' := [_, _, _, _]) dX11_digits_3 (by decide) rfl) ?_
    refine gm_go.ru e1 ?_
    refine gm_go.ru (gm_aload_n dX11_digits_59 rfl (by first | exact Or.inl ⟨_, rfl⟩ | exact Or.inr ⟨_, rfl⟩)) ?_
    refine gm_go.ru (gm_dup dX11_digits_60 rfl) ?_
    refine gm_go.ru (gm_get dX11_digits_61 (fl_X11_222 rfl) e2 rfl) ?_
    rw [w1]
    refine gm_go.ru (gm_iload_n dX11_digits_64 rfl) ?_
    refine gm_go.ru (gi_if_ne_f 72 dX11_digits_65 (by decide) (by omega) (by omega)) ?_
    refine gm_go.ru (gi_const dX11_digits_68) ?_
    refine gm_go.ru (gm_goto (tgt := 73) dX11_digits_69 (by decide)) ?_
    refine gm_go.ru (gi_or (a := 0) (b := 1) dX11_digits_73) ?_
    rw [show (0 ||| 1 : Nat) = 1 by decide]
    refine gm_go.ru (gm_put dX11_digits_74 (fp_X11_222 rfl) e2 (Nat.le_of_ble_eq_true rfl) (by first | exact ⟨rfl, rfl⟩ | exact trivial)) ?_
    refine gm_hp ha2 ?_
    refine gm_go.ru (gm_iload_n dX11_digits_77 rfl) ?_
    exact gm_iret dX11_digits_78 rfl
  ·
    obtain ⟨a2, ha2⟩ : ∃ y : gm_H, y = (a1.1.set m (md_c m (zU K1 21 0)), a1.2) := ⟨_, rfl⟩
    refine ⟨a2, _, ?_, by rw [ha2]; exact gs_s e2, ⟨(zU_n (by decide)).trans e3, zU_s.trans (by rw [decide_eq_false c]; rfl), fun j j1 j2 => (zU_n j2).trans (e4 j j1)⟩, by rw [ha2]; exact gh_set (K := (fun k => k = m)) e5 rfl _⟩
    refine gm_co_of _ (by decide +kernel) rfl (Nat.le_of_ble_eq_true rfl) rfl ?_
    refine gm_go.ru (gi_const dX11_digits_0) ?_
    refine gm_go.ru (gm_istore_n (ls' := [_, _, _, _]) dX11_digits_1 (by decide) rfl) ?_
    refine gm_go.ru (gi_const dX11_digits_2) ?_
    refine gm_go.ru (gm_istore_n (ls' := [_, _, _, _]) dX11_digits_3 (by decide) rfl) ?_
    refine gm_go.ru e1 ?_
    refine gm_go.ru (gm_aload_n dX11_digits_59 rfl (by first | exact Or.inl ⟨_, rfl⟩ | exact Or.inr ⟨_, rfl⟩)) ?_
    refine gm_go.ru (gm_dup dX11_digits_60 rfl) ?_
    refine gm_go.ru (gm_get dX11_digits_61 (fl_X11_222 rfl) e2 rfl) ?_
    rw [w1]
    refine gm_go.ru (gm_iload_n dX11_digits_64 rfl) ?_
    refine gm_go.ru (gi_if_ne_t (tgt := 72) dX11_digits_65 (by decide) (by omega) (by omega)) ?_
    refine gm_go.ru (gi_const dX11_digits_72) ?_
    refine gm_go.ru (gi_or (a := 0) (b := 0) dX11_digits_73) ?_
    rw [show (0 ||| 0 : Nat) = 0 by decide]
    refine gm_go.ru (gm_put dX11_digits_74 (fp_X11_222 rfl) e2 (Nat.le_of_ble_eq_true rfl) (by first | exact ⟨rfl, rfl⟩ | exact trivial)) ?_
    refine gm_hp ha2 ?_
    refine gm_go.ru (gm_iload_n dX11_digits_77 rfl) ?_
    exact gm_iret dX11_digits_78 rfl
set_option maxRecDepth 4000 in
theorem ct_mBehX {h : gm_H} {m p L : Nat} {K X : Nat → Int} (hM : h.1[m]? = some (md_c m K)) (hX : h.1[m + 8]? = some (gA 60 X)) (hp : K 18 = (p : Int)) (hL : K 19 = (L : Int)) (ht : zTx X L) (hp9 : p ≤ 65) (hw : K 21 = 0) {x : Int} (hx : 0 ≤ x ∧ x ≤ 1000) {mx : Nat} (hmx : mx ≤ 3) (c : zsg X L p x = false) : ∃ h' K', gm_co mX11_behind 4 [.ref m, .int (zI x), .int (zI (mx : Int))] h (.inl (some (.int (zI 0)))) h' ∧ h'.1[m]? = some (md_c m K') ∧ kp K K' p true ∧ gh_fr h h' (fun k => k = m) := by
  obtain ⟨a1, K1, e1, e2, e3, e5⟩ := ct_mMark hM hX hp hL ht (by omega) hw hx
  rw [c, if_neg (by decide)] at e3
  refine ⟨a1, K1, ?_, e2, e3, e5⟩
  refine gm_co_of _ (by decide +kernel) rfl (Nat.le_of_ble_eq_true rfl) rfl ?_
  refine gm_go.ru (gm_aload_n dX11_behind_0 rfl (by first | exact Or.inl ⟨_, rfl⟩ | exact Or.inr ⟨_, rfl⟩)) ?_
  refine gm_go.ru (gm_iload_n dX11_behind_1 rfl) ?_
  refine gm_go.ru (gm_cV0 dX11_behind_2 (e1) rfl mt_X11_mark mv_X11_mark (lk_X11_229 rfl) (Or.inl ⟨_, 12, _, _, _, rfl, hM, rfl⟩) rfl (Nat.le_of_ble_eq_true rfl) (by decide)) ?_
  refine gm_go.ru (gm_aload_n dX11_behind_5 rfl (by first | exact Or.inl ⟨_, rfl⟩ | exact Or.inr ⟨_, rfl⟩)) ?_
  refine gm_go.ru (gm_get dX11_behind_6 (fl_X11_222 rfl) e2 rfl) ?_
  rw [e3.2.1]
  refine gm_go.ru (gi_if_eq_f 16 dX11_behind_9 (by decide) (by decide) (by decide)) ?_
  refine gm_go.ru (gi_const dX11_behind_12) ?_
  refine gm_go.ru (gm_goto (tgt := 21) dX11_behind_13 (by decide)) ?_
  exact gm_iret dX11_behind_21 rfl
set_option maxRecDepth 4000 in
theorem ct_mBeh {h : gm_H} {m p L : Nat} {K X : Nat → Int} (hM : h.1[m]? = some (md_c m K)) (hX : h.1[m + 8]? = some (gA 60 X)) (hp : K 18 = (p : Int)) (hL : K 19 = (L : Int)) (ht : zTx X L) (hp9 : p ≤ 65) (hw : K 21 = 0) {x : Int} (hx : 0 ≤ x ∧ x ≤ 1000) {mx : Nat} (hmx : mx ≤ 3) (c : zsg X L p x = true) : ∃ h' K', gm_co mX11_behind 4 [.ref m, .int (zI x), .int (zI (mx : Int))] h (.inl (some (.int (zI (zvl X (p + 1) (zdn X L (p + 1) mx)))))) h' ∧ h'.1[m]? = some (md_c m K') ∧ kp K K' (p + 1 + zdn X L (p + 1) mx) (decide (zdn X L (p + 1) mx = 0)) ∧ gh_fr h h' (fun k => k = m) := by
  obtain ⟨a1, K1, e1, e2, e3, e5⟩ := ct_mMark hM hX hp hL ht (by omega) hw hx
  rw [c, if_pos rfl] at e3
  have X1 := gh_at e5 hX (by omega)
  obtain ⟨a2, K2, d1, d2, d3, d5⟩ := ct_mDig e2 X1 e3.1 ((e3.2.2 19 (by decide) (by decide)).trans hL) ht (by omega) e3.2.1 hmx
  refine ⟨a2, K2, ?_, d2, kp_tr e3 d3, gh_tr e5 d5⟩
  refine gm_co_of _ (by decide +kernel) rfl (Nat.le_of_ble_eq_true rfl) rfl ?_
  refine gm_go.ru (gm_aload_n dX11_behind_0 rfl (by first | exact Or.inl ⟨_, rfl⟩ | exact Or.inr ⟨_, rfl⟩)) ?_
  refine gm_go.ru (gm_iload_n dX11_behind_1 rfl) ?_
  refine gm_go.ru (gm_cV0 dX11_behind_2 (e1) rfl mt_X11_mark mv_X11_mark (lk_X11_229 rfl) (Or.inl ⟨_, 12, _, _, _, rfl, hM, rfl⟩) rfl (Nat.le_of_ble_eq_true rfl) (by decide)) ?_
  refine gm_go.ru (gm_aload_n dX11_behind_5 rfl (by first | exact Or.inl ⟨_, rfl⟩ | exact Or.inr ⟨_, rfl⟩)) ?_
  refine gm_go.ru (gm_get dX11_behind_6 (fl_X11_222 rfl) e2 rfl) ?_
  rw [e3.2.1]
  refine gm_go.ru (gi_if_eq_t (tgt := 16) dX11_behind_9 (by decide) (by decide) rfl) ?_
  refine gm_go.ru (gm_aload_n dX11_behind_16 rfl (by first | exact Or.inl ⟨_, rfl⟩ | exact Or.inr ⟨_, rfl⟩)) ?_
  refine gm_go.ru (gm_iload_n dX11_behind_17 rfl) ?_
  refine gm_go.ru (gm_cV dX11_behind_18 (d1) rfl mt_X11_digits mv_X11_digits (lk_X11_232 rfl) (Or.inl ⟨_, 12, _, _, _, rfl, e2, rfl⟩) rfl (Nat.le_of_ble_eq_true rfl) (by decide)) ?_
  exact gm_iret dX11_behind_21 rfl
set_option maxRecDepth 4000 in
theorem ct_mDegX {h : gm_H} {m p L : Nat} {K X : Nat → Int} (hM : h.1[m]? = some (md_c m K)) (hX : h.1[m + 8]? = some (gA 60 X)) (hp : K 18 = (p : Int)) (hL : K 19 = (L : Int)) (ht : zTx X L) (hp9 : p ≤ 64) (hw : K 21 = 0) (c : zsg X L p 32 = false) : ∃ h' K', gm_co mX11_degrees 4 [.ref m] h (.inl (some (.int (zI 0)))) h' ∧ h'.1[m]? = some (md_c m K') ∧ kp K K' p true ∧ gh_fr h h' (fun k => k = m) := by
  obtain ⟨a1, K1, e1, e2, e3, e5⟩ := ct_mMark hM hX hp hL ht (by omega) hw (x := 32) (by decide)
  rw [c, if_neg (by decide)] at e3
  obtain ⟨a2, ha2⟩ : ∃ y : gm_H, y = (a1.1.set m (md_c m (zU K1 18 ((p + 0 : Nat) : Int))), a1.2) := ⟨_, rfl⟩
  have M2 : a2.1[m]? = some (md_c m (zU K1 18 ((p + 0 : Nat) : Int))) := by rw [ha2]; exact gs_s e2
  have k2 : kp K (zU K1 18 ((p + 0 : Nat) : Int)) p true := ⟨zU_s, (zU_n (by decide)).trans e3.2.1, fun j j1 j2 => (zU_n j1).trans (e3.2.2 j j1 j2)⟩
  refine ⟨a2, _, ?_, M2, k2, gh_tr e5 (by rw [ha2]; exact gh_set (K := (fun k => k = m)) gh_rf rfl _)⟩
  refine gm_co_of _ (by decide +kernel) rfl (Nat.le_of_ble_eq_true rfl) rfl ?_
  refine gm_go.ru (gm_aload_n dX11_degrees_0 rfl (by first | exact Or.inl ⟨_, rfl⟩ | exact Or.inr ⟨_, rfl⟩)) ?_
  refine gm_go.ru (gi_bipush dX11_degrees_1 (by decide +kernel)) ?_
  refine gm_go.ru (gm_cV0 dX11_degrees_3 (e1) rfl mt_X11_mark mv_X11_mark (lk_X11_229 rfl) (Or.inl ⟨_, 12, _, _, _, rfl, hM, rfl⟩) rfl (Nat.le_of_ble_eq_true rfl) (by decide)) ?_
  refine gm_go.ru (gm_aload_n dX11_degrees_6 rfl (by first | exact Or.inl ⟨_, rfl⟩ | exact Or.inr ⟨_, rfl⟩)) ?_
  refine gm_go.ru (gm_get dX11_degrees_7 (fl_X11_222 rfl) e2 rfl) ?_
  rw [e3.2.1]
  refine gm_go.ru (gi_if_ne_t (tgt := 26) dX11_degrees_10 (by decide) (by decide) (by decide)) ?_
  refine gm_go.ru (gi_const dX11_degrees_26) ?_
  refine gm_go.ru (gm_istore_n (ls' := [_, _, _]) dX11_degrees_27 (by decide) rfl) ?_
  refine gm_go.ru (gm_aload_n dX11_degrees_28 rfl (by first | exact Or.inl ⟨_, rfl⟩ | exact Or.inr ⟨_, rfl⟩)) ?_
  refine gm_go.ru (gm_dup dX11_degrees_29 rfl) ?_
  refine gm_go.ru (gm_get dX11_degrees_30 (fl_X11_216 rfl) e2 rfl) ?_
  rw [e3.1]
  refine gm_go.ru (gm_iload_n dX11_degrees_33 rfl) ?_
  refine gm_go.ru (gi_if_eq_t (tgt := 41) dX11_degrees_34 (by decide) (by decide) rfl) ?_
  refine gm_go.ru (gi_const dX11_degrees_41) ?_
  refine gm_go.ru (gi_add dX11_degrees_42) ?_
  refine gm_go.ru (gm_put dX11_degrees_43 (fp_X11_216 rfl) e2 (Nat.le_of_ble_eq_true rfl) (by first | exact ⟨rfl, rfl⟩ | exact trivial)) ?_
  refine gm_hp ha2 ?_
  refine gm_go.ru (gm_aload_n dX11_degrees_46 rfl (by first | exact Or.inl ⟨_, rfl⟩ | exact Or.inr ⟨_, rfl⟩)) ?_
  refine gm_go.ru (gm_get dX11_degrees_47 (fl_X11_222 rfl) M2 rfl) ?_
  rw [k2.2.1]
  refine gm_go.ru (gi_if_eq_f 57 dX11_degrees_50 (by decide) (by decide) (by decide)) ?_
  refine gm_go.ru (gi_const dX11_degrees_53) ?_
  refine gm_go.ru (gm_goto (tgt := 62) dX11_degrees_54 (by decide)) ?_
  refine gm_go.ru (gm_istore_n (ls' := [_, _, _]) dX11_degrees_62 (by decide) rfl) ?_
  refine gm_go.ru (gm_iload_n dX11_degrees_63 rfl) ?_
  refine gm_go.ru (gi_if_eq_t (tgt := 72) dX11_degrees_64 (by decide) (by decide) rfl) ?_
  refine gm_go.ru (gm_iload_n dX11_degrees_72 rfl) ?_
  exact gm_iret dX11_degrees_73 rfl
set_option maxRecDepth 4000 in
theorem ct_mDeg {h : gm_H} {m p L : Nat} {K X : Nat → Int} (hM : h.1[m]? = some (md_c m K)) (hX : h.1[m + 8]? = some (gA 60 X)) (hp : K 18 = (p : Int)) (hL : K 19 = (L : Int)) (ht : zTx X L) (hp9 : p ≤ 64) (hw : K 21 = 0) (c : zsg X L p 32 = true) (c2 : zsg X L (p + 1) 45 = false) : ∃ h' K', gm_co mX11_degrees 4 [.ref m] h (.inl (some (.int (zI (zvl X (p + 1) (zdn X L (p + 1) 3)))))) h' ∧ h'.1[m]? = some (md_c m K') ∧ kp K K' (p + 1 + zdn X L (p + 1) 3) (decide (zdn X L (p + 1) 3 = 0)) ∧ gh_fr h h' (fun k => k = m) := by
  obtain ⟨a1, K1, e1, e2, e3, e5⟩ := ct_mMark hM hX hp hL ht (by omega) hw (x := 32) (by decide)
  rw [c, if_pos rfl] at e3
  have X1 := gh_at e5 hX (by omega)
  have l1 := (e3.2.2 19 (by decide) (by decide)).trans hL
  have sg := ct_mSign e2 X1 e3.1 l1 ht (by omega)
  have sr := zSgn_r (p := p + 1) ht
  have ss := zSgn_s (X := X) (L := L) (p := p + 1) (c := 45) (by decide)
  rw [c2] at ss
  have c3 : ¬ zSgn X L (p + 1) = 45 := of_decide_eq_false ss.symm
  obtain ⟨a2, ha2⟩ : ∃ y : gm_H, y = (a1.1.set m (md_c m (zU K1 18 ((p + 1 + 0 : Nat) : Int))), a1.2) := ⟨_, rfl⟩
  have M2 : a2.1[m]? = some (md_c m (zU K1 18 ((p + 1 + 0 : Nat) : Int))) := by rw [ha2]; exact gs_s e2
  have f2 : gh_fr a1 a2 (fun k => k = m) := by rw [ha2]; exact gh_set (K := (fun k => k = m)) gh_rf rfl _
  have k2 : kp K (zU K1 18 ((p + 1 + 0 : Nat) : Int)) (p + 1) false := ⟨zU_s, (zU_n (by decide)).trans e3.2.1, fun j j1 j2 => (zU_n j1).trans (e3.2.2 j j1 j2)⟩
  obtain ⟨a3, K3, d1, d2, d3, d5⟩ := ct_mDig M2 (gh_at f2 X1 (by omega)) k2.1 ((k2.2.2 19 (by decide) (by decide)).trans hL) ht (by omega) k2.2.1 (mx := 3) (by decide)
  refine ⟨a3, K3, ?_, d2, kp_tr k2 d3, gh_tr e5 (gh_tr f2 d5)⟩
  refine gm_co_of _ (by decide +kernel) rfl (Nat.le_of_ble_eq_true rfl) rfl ?_
  refine gm_go.ru (gm_aload_n dX11_degrees_0 rfl (by first | exact Or.inl ⟨_, rfl⟩ | exact Or.inr ⟨_, rfl⟩)) ?_
  refine gm_go.ru (gi_bipush dX11_degrees_1 (by decide +kernel)) ?_
  refine gm_go.ru (gm_cV0 dX11_degrees_3 (e1) rfl mt_X11_mark mv_X11_mark (lk_X11_229 rfl) (Or.inl ⟨_, 12, _, _, _, rfl, hM, rfl⟩) rfl (Nat.le_of_ble_eq_true rfl) (by decide)) ?_
  refine gm_go.ru (gm_aload_n dX11_degrees_6 rfl (by first | exact Or.inl ⟨_, rfl⟩ | exact Or.inr ⟨_, rfl⟩)) ?_
  refine gm_go.ru (gm_get dX11_degrees_7 (fl_X11_222 rfl) e2 rfl) ?_
  rw [e3.2.1]
  refine gm_go.ru (gi_if_ne_f 26 dX11_degrees_10 (by decide) (by decide) rfl) ?_
  refine gm_go.ru (gm_aload_n dX11_degrees_13 rfl (by first | exact Or.inl ⟨_, rfl⟩ | exact Or.inr ⟨_, rfl⟩)) ?_
  refine gm_go.ru (gm_cV dX11_degrees_14 (sg) rfl mt_X11_sign mv_X11_sign (lk_X11_226 rfl) (Or.inl ⟨_, 12, _, _, _, rfl, e2, rfl⟩) rfl (Nat.le_of_ble_eq_true rfl) (by decide)) ?_
  refine gm_go.ru (gi_bipush dX11_degrees_17 (by decide +kernel)) ?_
  refine gm_go.ru (gi_icmp_ne_t (tgt := 26) dX11_degrees_19 (by decide) (by omega) (by omega) c3) ?_
  refine gm_go.ru (gi_const dX11_degrees_26) ?_
  refine gm_go.ru (gm_istore_n (ls' := [_, _, _]) dX11_degrees_27 (by decide) rfl) ?_
  refine gm_go.ru (gm_aload_n dX11_degrees_28 rfl (by first | exact Or.inl ⟨_, rfl⟩ | exact Or.inr ⟨_, rfl⟩)) ?_
  refine gm_go.ru (gm_dup dX11_degrees_29 rfl) ?_
  refine gm_go.ru (gm_get dX11_degrees_30 (fl_X11_216 rfl) e2 rfl) ?_
  rw [e3.1]
  refine gm_go.ru (gm_iload_n dX11_degrees_33 rfl) ?_
  refine gm_go.ru (gi_if_eq_t (tgt := 41) dX11_degrees_34 (by decide) (by decide) rfl) ?_
  refine gm_go.ru (gi_const dX11_degrees_41) ?_
  refine gm_go.ru (gi_add dX11_degrees_42) ?_
  refine gm_go.ru (gm_put dX11_degrees_43 (fp_X11_216 rfl) e2 (Nat.le_of_ble_eq_true rfl) (by first | exact ⟨rfl, rfl⟩ | exact trivial)) ?_
  refine gm_hp ha2 ?_
  refine gm_go.ru (gm_aload_n dX11_degrees_46 rfl (by first | exact Or.inl ⟨_, rfl⟩ | exact Or.inr ⟨_, rfl⟩)) ?_
  refine gm_go.ru (gm_get dX11_degrees_47 (fl_X11_222 rfl) M2 rfl) ?_
  rw [k2.2.1]
  refine gm_go.ru (gi_if_eq_t (tgt := 57) dX11_degrees_50 (by decide) (by decide) rfl) ?_
  refine gm_go.ru (gm_aload_n dX11_degrees_57 rfl (by first | exact Or.inl ⟨_, rfl⟩ | exact Or.inr ⟨_, rfl⟩)) ?_
  refine gm_go.ru (gi_const dX11_degrees_58) ?_
  refine gm_go.ru (gm_cV dX11_degrees_59 (d1) rfl mt_X11_digits mv_X11_digits (lk_X11_232 rfl) (Or.inl ⟨_, 12, _, _, _, rfl, M2, rfl⟩) rfl (Nat.le_of_ble_eq_true rfl) (by decide)) ?_
  refine gm_go.ru (gm_istore_n (ls' := [_, _, _]) dX11_degrees_62 (by decide) rfl) ?_
  refine gm_go.ru (gm_iload_n dX11_degrees_63 rfl) ?_
  refine gm_go.ru (gi_if_eq_t (tgt := 72) dX11_degrees_64 (by decide) (by decide) rfl) ?_
  refine gm_go.ru (gm_iload_n dX11_degrees_72 rfl) ?_
  exact gm_iret dX11_degrees_73 rfl
set_option maxRecDepth 4000 in
theorem ct_mDegL {h : gm_H} {m p L : Nat} {K X : Nat → Int} (hM : h.1[m]? = some (md_c m K)) (hX : h.1[m + 8]? = some (gA 60 X)) (hp : K 18 = (p : Int)) (hL : K 19 = (L : Int)) (ht : zTx X L) (hp9 : p ≤ 64) (hw : K 21 = 0) (c : zsg X L p 32 = true) (c2 : zsg X L (p + 1) 45 = true) : ∃ h' K', gm_co mX11_degrees 4 [.ref m] h (.inl (some (.int (zI (-zvl X (p + 2) (zdn X L (p + 2) 3)))))) h' ∧ h'.1[m]? = some (md_c m K') ∧ kp K K' (p + 2 + zdn X L (p + 2) 3) (decide (zdn X L (p + 2) 3 = 0)) ∧ gh_fr h h' (fun k => k = m) := by
  obtain ⟨a1, K1, e1, e2, e3, e5⟩ := ct_mMark hM hX hp hL ht (by omega) hw (x := 32) (by decide)
  rw [c, if_pos rfl] at e3
  have X1 := gh_at e5 hX (by omega)
  have l1 := (e3.2.2 19 (by decide) (by decide)).trans hL
  have sg := ct_mSign e2 X1 e3.1 l1 ht (by omega)
  have sr := zSgn_r (p := p + 1) ht
  have ss := zSgn_s (X := X) (L := L) (p := p + 1) (c := 45) (by decide)
  rw [c2] at ss
  have c3 : zSgn X L (p + 1) = 45 := of_decide_eq_true ss.symm
  obtain ⟨a2, ha2⟩ : ∃ y : gm_H, y = (a1.1.set m (md_c m (zU K1 18 ((p + 1 + 1 : Nat) : Int))), a1.2) := ⟨_, rfl⟩
  have M2 : a2.1[m]? = some (md_c m (zU K1 18 ((p + 1 + 1 : Nat) : Int))) := by rw [ha2]; exact gs_s e2
  have f2 : gh_fr a1 a2 (fun k => k = m) := by rw [ha2]; exact gh_set (K := (fun k => k = m)) gh_rf rfl _
  have k2 : kp K (zU K1 18 ((p + 1 + 1 : Nat) : Int)) (p + 2) false := ⟨zU_s, (zU_n (by decide)).trans e3.2.1, fun j j1 j2 => (zU_n j1).trans (e3.2.2 j j1 j2)⟩
  obtain ⟨a3, K3, d1, d2, d3, d5⟩ := ct_mDig M2 (gh_at f2 X1 (by omega)) k2.1 ((k2.2.2 19 (by decide) (by decide)).trans hL) ht (by omega) k2.2.1 (mx := 3) (by decide)
  refine ⟨a3, K3, ?_, d2, kp_tr k2 d3, gh_tr e5 (gh_tr f2 d5)⟩
  refine gm_co_of _ (by decide +kernel) rfl (Nat.le_of_ble_eq_true rfl) rfl ?_
  refine gm_go.ru (gm_aload_n dX11_degrees_0 rfl (by first | exact Or.inl ⟨_, rfl⟩ | exact Or.inr ⟨_, rfl⟩)) ?_
  refine gm_go.ru (gi_bipush dX11_degrees_1 (by decide +kernel)) ?_
  refine gm_go.ru (gm_cV0 dX11_degrees_3 (e1) rfl mt_X11_mark mv_X11_mark (lk_X11_229 rfl) (Or.inl ⟨_, 12, _, _, _, rfl, hM, rfl⟩) rfl (Nat.le_of_ble_eq_true rfl) (by decide)) ?_
  refine gm_go.ru (gm_aload_n dX11_degrees_6 rfl (by first | exact Or.inl ⟨_, rfl⟩ | exact Or.inr ⟨_, rfl⟩)) ?_
  refine gm_go.ru (gm_get dX11_degrees_7 (fl_X11_222 rfl) e2 rfl) ?_
  rw [e3.2.1]
  refine gm_go.ru (gi_if_ne_f 26 dX11_degrees_10 (by decide) (by decide) rfl) ?_
  refine gm_go.ru (gm_aload_n dX11_degrees_13 rfl (by first | exact Or.inl ⟨_, rfl⟩ | exact Or.inr ⟨_, rfl⟩)) ?_
  refine gm_go.ru (gm_cV dX11_degrees_14 (sg) rfl mt_X11_sign mv_X11_sign (lk_X11_226 rfl) (Or.inl ⟨_, 12, _, _, _, rfl, e2, rfl⟩) rfl (Nat.le_of_ble_eq_true rfl) (by decide)) ?_
  refine gm_go.ru (gi_bipush dX11_degrees_17 (by decide +kernel)) ?_
  refine gm_go.ru (gi_icmp_ne_f 26 dX11_degrees_19 (by decide) (by omega) (by omega) c3) ?_
  refine gm_go.ru (gi_const dX11_degrees_22) ?_
  refine gm_go.ru (gm_goto (tgt := 27) dX11_degrees_23 (by decide)) ?_
  refine gm_go.ru (gm_istore_n (ls' := [_, _, _]) dX11_degrees_27 (by decide) rfl) ?_
  refine gm_go.ru (gm_aload_n dX11_degrees_28 rfl (by first | exact Or.inl ⟨_, rfl⟩ | exact Or.inr ⟨_, rfl⟩)) ?_
  refine gm_go.ru (gm_dup dX11_degrees_29 rfl) ?_
  refine gm_go.ru (gm_get dX11_degrees_30 (fl_X11_216 rfl) e2 rfl) ?_
  rw [e3.1]
  refine gm_go.ru (gm_iload_n dX11_degrees_33 rfl) ?_
  refine gm_go.ru (gi_if_eq_f 41 dX11_degrees_34 (by decide) (by decide) (by decide)) ?_
  refine gm_go.ru (gi_const dX11_degrees_37) ?_
  refine gm_go.ru (gm_goto (tgt := 42) dX11_degrees_38 (by decide)) ?_
  refine gm_go.ru (gi_add dX11_degrees_42) ?_
  refine gm_go.ru (gm_put dX11_degrees_43 (fp_X11_216 rfl) e2 (Nat.le_of_ble_eq_true rfl) (by first | exact ⟨rfl, rfl⟩ | exact trivial)) ?_
  refine gm_hp ha2 ?_
  refine gm_go.ru (gm_aload_n dX11_degrees_46 rfl (by first | exact Or.inl ⟨_, rfl⟩ | exact Or.inr ⟨_, rfl⟩)) ?_
  refine gm_go.ru (gm_get dX11_degrees_47 (fl_X11_222 rfl) M2 rfl) ?_
  rw [k2.2.1]
  refine gm_go.ru (gi_if_eq_t (tgt := 57) dX11_degrees_50 (by decide) (by decide) rfl) ?_
  refine gm_go.ru (gm_aload_n dX11_degrees_57 rfl (by first | exact Or.inl ⟨_, rfl⟩ | exact Or.inr ⟨_, rfl⟩)) ?_
  refine gm_go.ru (gi_const dX11_degrees_58) ?_
  refine gm_go.ru (gm_cV dX11_degrees_59 (d1) rfl mt_X11_digits mv_X11_digits (lk_X11_232 rfl) (Or.inl ⟨_, 12, _, _, _, rfl, M2, rfl⟩) rfl (Nat.le_of_ble_eq_true rfl) (by decide)) ?_
  refine gm_go.ru (gm_istore_n (ls' := [_, _, _]) dX11_degrees_62 (by decide) rfl) ?_
  refine gm_go.ru (gm_iload_n dX11_degrees_63 rfl) ?_
  refine gm_go.ru (gi_if_eq_f 72 dX11_degrees_64 (by decide) (by decide) (by decide)) ?_
  refine gm_go.ru (gm_iload_n dX11_degrees_67 rfl) ?_
  refine gm_go.ru (gi_neg dX11_degrees_68) ?_
  refine gm_go.ru (gm_goto (tgt := 73) dX11_degrees_69 (by decide)) ?_
  exact gm_iret dX11_degrees_73 rfl
