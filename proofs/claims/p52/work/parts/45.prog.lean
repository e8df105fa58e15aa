/-- how many commands stand from here on, the next being the n-th; -1 where there is an error -/
def zCc (X : Nat → Int) (L : Nat) : Nat → Nat → Nat → zPS → Int × (Nat × zPS)
  | 0, _, w, s => (-1, (w, s))
  | m + 1, n, w, s => if (zRc X L w s).1 = true then (if (zRc X L w s).2.2.1 = L then ((n : Int), (zRc X L w s).2) else if zsg X L (zRc X L w s).2.2.1 59 = true then zCc X L m (n + 1) (zRc X L w s).2.1 (zSig X L 59 (zRc X L w s).2.2).2 else (-1, ((zRc X L w s).2.1, (zSig X L 59 (zRc X L w s).2.2).2))) else (-1, (zRc X L w s).2)
set_option maxRecDepth 4000 in
theorem cc_in {g L : Nat} {X : Nat → Int} : ∀ (m n w : Nat) (s : zPS) (h : gm_H), n + m = 61 → pg_st h g X L w s → ∃ h', gm_ru mX7_countCommands 7 (7, [some (.ref g), some (.int (zI (n : Int)))], [], h) (.inl (some (.int (zI (zCc X L m n w s).1)))) h' ∧ pg_st h' g X L (zCc X L m n w s).2.1 (zCc X L m n w s).2.2 ∧ gh_fr h h' (pg_K g) := by
  intro m
  induction m with
  | zero =>
    intro n w s h hm hP
    obtain rfl : n = 61 := by omega
    refine ⟨h, ?_, hP, gh_rf⟩
    refine gm_go.ru (gm_iload_n dX7_countCommands_7 rfl) ?_
    refine gm_go.ru (gi_bipush dX7_countCommands_8 (by decide +kernel)) ?_
    refine gm_go.ru (gi_icmp_gt_t (tgt := 52) dX7_countCommands_10 (by decide) (by omega) (by omega) (by omega)) ?_
    refine gm_go.ru (gi_const dX7_countCommands_52) ?_
    exact gm_iret dX7_countCommands_53 rfl
  | succ m ih =>
    intro n w s h hm hP
    obtain ⟨h1, h2, h3, hL, hp9, hX, hk⟩ := id hP
    obtain ⟨a2, c1, c2, c3⟩ := ct_readsCommand hP
    rw [zCc]
    generalize hr : zRc X L w s = r at *
    obtain ⟨k1, k2, k3, kL, kp, kX, kk⟩ := id c2
    cases hb : r.1
    ·
      rw [if_neg (by decide)]
      refine ⟨a2, ?_, c2, c3⟩
      refine gm_go.ru (gm_iload_n dX7_countCommands_7 rfl) ?_
      refine gm_go.ru (gi_bipush dX7_countCommands_8 (by decide +kernel)) ?_
      refine gm_go.ru (gi_icmp_gt_f 52 dX7_countCommands_10 (by decide) (by omega) (by omega) (by omega)) ?_
      refine gm_go.ru (gm_aload_n dX7_countCommands_13 rfl (by first | exact Or.inl ⟨_, rfl⟩ | exact Or.inr ⟨_, rfl⟩)) ?_
      refine gm_go.ru (gm_cV dX7_countCommands_14 (c1) rfl mt_X7_readsCommand mv_X7_readsCommand (lk_X7_35 rfl) (Or.inl ⟨_, 9, _, _, _, rfl, h1, rfl⟩) rfl (Nat.le_of_ble_eq_true rfl) (by decide)) ?_
      rw [hb]
      refine gm_go.ru (gi_if_ne_f 22 dX7_countCommands_17 (by decide) (by decide) (by decide)) ?_
      refine gm_go.ru (gi_const dX7_countCommands_20) ?_
      exact gm_iret dX7_countCommands_21 rfl
    ·
      rw [if_pos rfl]
      by_cases cL : r.2.2.1 = L
      ·
        rw [if_pos cL]
        refine ⟨a2, ?_, c2, c3⟩
        refine gm_go.ru (gm_iload_n dX7_countCommands_7 rfl) ?_
        refine gm_go.ru (gi_bipush dX7_countCommands_8 (by decide +kernel)) ?_
        refine gm_go.ru (gi_icmp_gt_f 52 dX7_countCommands_10 (by decide) (by omega) (by omega) (by omega)) ?_
        refine gm_go.ru (gm_aload_n dX7_countCommands_13 rfl (by first | exact Or.inl ⟨_, rfl⟩ | exact Or.inr ⟨_, rfl⟩)) ?_
        refine gm_go.ru (gm_cV dX7_countCommands_14 (c1) rfl mt_X7_readsCommand mv_X7_readsCommand (lk_X7_35 rfl) (Or.inl ⟨_, 9, _, _, _, rfl, h1, rfl⟩) rfl (Nat.le_of_ble_eq_true rfl) (by decide)) ?_
        rw [hb]
        refine gm_go.ru (gi_if_ne_t (tgt := 22) dX7_countCommands_17 (by decide) (by decide) (by decide)) ?_
        refine gm_go.ru (gm_aload_n dX7_countCommands_22 rfl (by first | exact Or.inl ⟨_, rfl⟩ | exact Or.inr ⟨_, rfl⟩)) ?_
        refine gm_go.ru (gm_get dX7_countCommands_23 (fl_X7_32 rfl) k1 rfl) ?_
        refine gm_go.ru (gm_aload_n dX7_countCommands_26 rfl (by first | exact Or.inl ⟨_, rfl⟩ | exact Or.inr ⟨_, rfl⟩)) ?_
        refine gm_go.ru (gm_get dX7_countCommands_27 (fl_X7_28 rfl) k1 rfl) ?_
        refine gm_go.ru (gi_icmp_ne_f 35 dX7_countCommands_30 (by decide) (by omega) (by omega) (by omega)) ?_
        refine gm_go.ru (gm_iload_n dX7_countCommands_33 rfl) ?_
        exact gm_iret dX7_countCommands_34 rfl
      ·
        rw [if_neg cL]
        obtain ⟨a3, d1, d2, d3⟩ := ct_sig c2 (c := 59) (by omega)
        cases hs : zsg X L r.2.2.1 59
        ·
          rw [if_neg (by decide)]
          refine ⟨a3, ?_, d2, gh_tr c3 d3⟩
          rw [hs] at d1
          refine gm_go.ru (gm_iload_n dX7_countCommands_7 rfl) ?_
          refine gm_go.ru (gi_bipush dX7_countCommands_8 (by decide +kernel)) ?_
          refine gm_go.ru (gi_icmp_gt_f 52 dX7_countCommands_10 (by decide) (by omega) (by omega) (by omega)) ?_
          refine gm_go.ru (gm_aload_n dX7_countCommands_13 rfl (by first | exact Or.inl ⟨_, rfl⟩ | exact Or.inr ⟨_, rfl⟩)) ?_
          refine gm_go.ru (gm_cV dX7_countCommands_14 (c1) rfl mt_X7_readsCommand mv_X7_readsCommand (lk_X7_35 rfl) (Or.inl ⟨_, 9, _, _, _, rfl, h1, rfl⟩) rfl (Nat.le_of_ble_eq_true rfl) (by decide)) ?_
          rw [hb]
          refine gm_go.ru (gi_if_ne_t (tgt := 22) dX7_countCommands_17 (by decide) (by decide) (by decide)) ?_
          refine gm_go.ru (gm_aload_n dX7_countCommands_22 rfl (by first | exact Or.inl ⟨_, rfl⟩ | exact Or.inr ⟨_, rfl⟩)) ?_
          refine gm_go.ru (gm_get dX7_countCommands_23 (fl_X7_32 rfl) k1 rfl) ?_
          refine gm_go.ru (gm_aload_n dX7_countCommands_26 rfl (by first | exact Or.inl ⟨_, rfl⟩ | exact Or.inr ⟨_, rfl⟩)) ?_
          refine gm_go.ru (gm_get dX7_countCommands_27 (fl_X7_28 rfl) k1 rfl) ?_
          refine gm_go.ru (gi_icmp_ne_t (tgt := 35) dX7_countCommands_30 (by decide) (by omega) (by omega) (by omega)) ?_
          refine gm_go.ru (gm_aload_n dX7_countCommands_35 rfl (by first | exact Or.inl ⟨_, rfl⟩ | exact Or.inr ⟨_, rfl⟩)) ?_
          refine gm_go.ru (gi_bipush dX7_countCommands_36 (by decide +kernel)) ?_
          refine gm_go.ru (gm_cV dX7_countCommands_38 (d1) rfl mt_X7_takesSign mv_X7_takesSign (lk_X7_39 rfl) (Or.inl ⟨_, 9, _, _, _, rfl, k1, rfl⟩) rfl (Nat.le_of_ble_eq_true rfl) (by decide)) ?_
          refine gm_go.ru (gi_if_ne_f 46 dX7_countCommands_41 (by decide) (by decide) (by decide)) ?_
          refine gm_go.ru (gi_const dX7_countCommands_44) ?_
          exact gm_iret dX7_countCommands_45 rfl
        ·
          rw [if_pos rfl]
          obtain ⟨h', e1, e2, e3⟩ := ih (n + 1) r.2.1 (zSig X L 59 r.2.2).2 a3 (by omega) d2
          refine ⟨h', ?_, e2, gh_tr c3 (gh_tr d3 e3)⟩
          rw [hs] at d1
          refine gm_go.ru (gm_iload_n dX7_countCommands_7 rfl) ?_
          refine gm_go.ru (gi_bipush dX7_countCommands_8 (by decide +kernel)) ?_
          refine gm_go.ru (gi_icmp_gt_f 52 dX7_countCommands_10 (by decide) (by omega) (by omega) (by omega)) ?_
          refine gm_go.ru (gm_aload_n dX7_countCommands_13 rfl (by first | exact Or.inl ⟨_, rfl⟩ | exact Or.inr ⟨_, rfl⟩)) ?_
          refine gm_go.ru (gm_cV dX7_countCommands_14 (c1) rfl mt_X7_readsCommand mv_X7_readsCommand (lk_X7_35 rfl) (Or.inl ⟨_, 9, _, _, _, rfl, h1, rfl⟩) rfl (Nat.le_of_ble_eq_true rfl) (by decide)) ?_
          rw [hb]
          refine gm_go.ru (gi_if_ne_t (tgt := 22) dX7_countCommands_17 (by decide) (by decide) (by decide)) ?_
          refine gm_go.ru (gm_aload_n dX7_countCommands_22 rfl (by first | exact Or.inl ⟨_, rfl⟩ | exact Or.inr ⟨_, rfl⟩)) ?_
          refine gm_go.ru (gm_get dX7_countCommands_23 (fl_X7_32 rfl) k1 rfl) ?_
          refine gm_go.ru (gm_aload_n dX7_countCommands_26 rfl (by first | exact Or.inl ⟨_, rfl⟩ | exact Or.inr ⟨_, rfl⟩)) ?_
          refine gm_go.ru (gm_get dX7_countCommands_27 (fl_X7_28 rfl) k1 rfl) ?_
          refine gm_go.ru (gi_icmp_ne_t (tgt := 35) dX7_countCommands_30 (by decide) (by omega) (by omega) (by omega)) ?_
          refine gm_go.ru (gm_aload_n dX7_countCommands_35 rfl (by first | exact Or.inl ⟨_, rfl⟩ | exact Or.inr ⟨_, rfl⟩)) ?_
          refine gm_go.ru (gi_bipush dX7_countCommands_36 (by decide +kernel)) ?_
          refine gm_go.ru (gm_cV dX7_countCommands_38 (d1) rfl mt_X7_takesSign mv_X7_takesSign (lk_X7_39 rfl) (Or.inl ⟨_, 9, _, _, _, rfl, k1, rfl⟩) rfl (Nat.le_of_ble_eq_true rfl) (by decide)) ?_
          refine gm_go.ru (gi_if_ne_t (tgt := 46) dX7_countCommands_41 (by decide) (by decide) (by decide)) ?_
          refine gm_go.ru (gi_iinc (ls' := [_, _]) dX7_countCommands_46 rfl (by decide) rfl) ?_
          refine gm_go.ru (gm_goto (tgt := 7) dX7_countCommands_49 (by decide)) ?_
          exact e1
set_option maxRecDepth 4000 in
theorem ct_countCommands {h : gm_H} {g L w : Nat} {X : Nat → Int} {s : zPS} (hP : pg_st h g X L w s) : ∃ h', gm_co mX7_countCommands 7 [.ref g] h (.inl (some (.int (zI (zCc X L 60 1 w (0, s.2)).1)))) h' ∧ pg_st h' g X L (zCc X L 60 1 w (0, s.2)).2.1 (zCc X L 60 1 w (0, s.2)).2.2 ∧ gh_fr h h' (pg_K g) := by
  obtain ⟨h1, h2, h3, hL, hp9, hX, hk⟩ := id hP
  obtain ⟨a1, ha1⟩ : ∃ x : gm_H, x = (h.1.set g (pg_c g L 0 w s.2.2), h.2) := ⟨_, rfl⟩
  have hP1 : pg_st a1 g X L w (0, s.2) := by rw [ha1]; exact pg_set hP L 0 w s.2.2 hL (by omega) hX hk
  have hF1 : gh_fr h a1 (pg_K g) := by rw [ha1]; exact gh_set gh_rf ⟨by omega, by omega⟩ _
  obtain ⟨h', e1, e2, e3⟩ := cc_in 60 1 w (0, s.2) a1 rfl hP1
  refine ⟨h', ?_, e2, gh_tr hF1 e3⟩
  refine gm_co_of _ (by decide +kernel) rfl (Nat.le_of_ble_eq_true rfl) rfl ?_
  refine gm_go.ru (gm_aload_n dX7_countCommands_0 rfl (by first | exact Or.inl ⟨_, rfl⟩ | exact Or.inr ⟨_, rfl⟩)) ?_
  refine gm_go.ru (gi_const dX7_countCommands_1) ?_
  refine gm_go.ru (gm_put dX7_countCommands_2 (fp_X7_32 rfl) h1 (Nat.le_of_ble_eq_true rfl) (by first | exact ⟨rfl, rfl⟩ | exact trivial)) ?_
  refine gm_hp ha1 ?_
  refine gm_go.ru (gi_const dX7_countCommands_5) ?_
  refine gm_go.ru (gm_istore_n (ls' := [_, _]) dX7_countCommands_6 (by decide) rfl) ?_
  exact e1
