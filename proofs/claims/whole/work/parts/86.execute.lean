set_option maxRecDepth 4000 in
theorem c16_P {m L : Nat} {X : Nat → Int} (ht : zTx X L) : ∀ (z j k w w2 : Nat) (s s2 : zPS) (h : gm_H) (K F : Nat → Int) (T : Nat), 120 ≤ s.1 + 2 * z → s.1 ≤ 60 → s2.1 = s.1 → (zCc X L z (j + 1) w s).1 = ((j + k : Nat) : Int) → 1 ≤ k → j + z ≤ 100 → h.1[m]? = some (md_c m K) → mt_at h m X → K 18 = (s.1 : Int) → K 19 = (L : Int) → K 21 = 0 → K 0 = 0 → K 22 = 1 → h.1[m + 1]? = some (gA 118 F) → zHas F → st_iv T F → T + k ≤ 1000 → ∃ h1 h' K' F' x, gm_co mX11_command 7 [.ref m] h (.inl none) h1 ∧ gm_ru mX11_commands 8 (16, [some (.ref m), some (.int (zI ((j + 1 : Nat) : Int)))], [], h1) (.inl (some (.int (zI x)))) h' ∧ h'.1[m]? = some (md_c m K') ∧ h'.1[m + 1]? = some (gA 118 F') ∧ mt_at h' m X ∧ (∀ i, i ≠ 0 → i ≠ 18 → i ≠ 21 → K' i = K i) ∧ (((zPp X L k j F w2 s2).1 = j + k ∧ K' 0 = 0 ∧ x = ((j + k : Nat) : Int) ∧ F' = (zPp X L k j F w2 s2).2.1) ∨ ((zPp X L k j F w2 s2).1 < j + k ∧ ¬ K' 0 = 0 ∧ zR (K' 0) ∧ x = (((zPp X L k j F w2 s2).1 + 1 : Nat) : Int))) ∧ gh_fr h h' (mv_K m) := by
  intro z
  induction z with
  | zero => intro j k w w2 s s2 h K F T hz hs; omega
  | succ z ih =>
    intro j k w w2 s s2 h K F T hz hs h2 hC hk hn hM hT hp hL hw h0 hd hV hH hv hT9
    have hL60 := ht.1
    obtain ⟨r1, r2, r3⟩ := zMC_R (X := X) (L := L) w s
    obtain ⟨q1, q2, q3⟩ := zMC_R (X := X) (L := L) w2 s2
    rw [h2] at q1 q2 q3
    have ok := zMC_ok (X := X) (L := L) (p := s.1)
    rw [zCc] at hC
    cases cw : (zMC X L s.1).2.2.2
    ·
      have ok := ok cw
      obtain ⟨q4, q5, q6, q7⟩ := q3 cw
      rw [cw] at r1 q1
      rw [if_pos (show (zRc X L w s).1 = true from r1), r2] at hC
      obtain ⟨k, rfl⟩ : ∃ y, k = y + 1 := ⟨k - 1, by omega⟩
      rw [zPp, if_pos (show (zRc X L w2 s2).1 = true from q1), q4, q5, q6, q7, q2]
      by_cases cq : zqWhy F (zMC X L s.1).1 (zMC X L s.1).2.1.1 (zMC X L s.1).2.1.2.1 (zMC X L s.1).2.1.2.2 = 0
      ·
        rw [if_pos cq]
        obtain ⟨a1, K1, F1, e1, e2, e3, e4, e5, e6, e7⟩ := ct_mCmdD hM hT hp hL ht hs hw hd cw hV hv (by omega) cq
        rw [cw] at e6
        obtain ⟨hH2, hv2⟩ := st_do hH hv (by omega) ok.1 ok.2.2.2.1 cq (b := (zMC X L s.1).2.1.2.1) (c := (zMC X L s.1).2.1.2.2)
        obtain ⟨a2, ha2⟩ : ∃ y : gm_H, y = (a1.1.set (m + 1) (gA 118 (zDo F (zMC X L s.1).1 (zMC X L s.1).2.1.1 (zMC X L s.1).2.1.2.1 (zMC X L s.1).2.1.2.2)), a1.2) := ⟨_, rfl⟩
        have V2 : a2.1[m + 1]? = some (gA 118 (zDo F (zMC X L s.1).1 (zMC X L s.1).2.1.1 (zMC X L s.1).2.1.2.1 (zMC X L s.1).2.1.2.2)) := by rw [ha2]; exact gs_s e3
        have f12 : gh_fr a1 a2 (fun k => k = m + 1) := by rw [ha2]; exact gh_set (K := fun k => k = m + 1) gh_rf rfl _
        have M2 := gh_at f12 e2 (by omega)
        have T2 := mt_fr f12 (by omega) (by omega) (by omega) (by omega) e5
        have f2 : gh_fr h a2 (mv_K m) := gh_tr e7 (gh_mono f12 fun k z => Or.inr (Or.inl z))
        have o1 : K1 0 = 0 := (e6.2.2 0 (by decide) (by decide)).trans h0
        have l1 : K1 19 = (L : Int) := (e6.2.2 19 (by decide) (by decide)).trans hL
        have d1 : K1 22 = 1 := (e6.2.2 22 (by decide) (by decide)).trans hd
        by_cases cl : (zMC X L s.1).2.2.1 = L
        ·
          rw [if_pos cl] at hC
          have hC : ((j + 1 : Nat) : Int) = ((j + (k + 1) : Nat) : Int) := hC
          obtain rfl : k = 0 := by omega
          refine ⟨a1, a2, K1, _, ((j + (0 + 1) : Nat) : Int), e1, ?_, M2, V2, T2, fun i i0 i1 i2 => e6.2.2 i i1 i2, Or.inl ⟨rfl, o1, rfl, rfl⟩, f2⟩
          refine gm_go.ru (gm_re e3 e4) ?_
          refine gm_hp ha2 ?_
          refine gm_go.ru (gm_aload_n dX11_commands_16 rfl (by first | exact Or.inl ⟨_, rfl⟩ | exact Or.inr ⟨_, rfl⟩)) ?_
          refine gm_go.ru (gm_get dX11_commands_17 (fl_X11_222 rfl) M2 rfl) ?_
          rw [e6.2.1]
          refine gm_go.ru (gi_if_ne_f 64 dX11_commands_20 (by decide) (by decide) (by decide)) ?_
          refine gm_go.ru (gm_aload_n dX11_commands_23 rfl (by first | exact Or.inl ⟨_, rfl⟩ | exact Or.inr ⟨_, rfl⟩)) ?_
          refine gm_go.ru (gm_get dX11_commands_24 (fl_X11_53 rfl) M2 rfl) ?_
          rw [o1]
          refine gm_go.ru (gi_if_ne_f 64 dX11_commands_27 (by decide) (by decide) (by decide)) ?_
          refine gm_go.ru (gm_aload_n dX11_commands_30 rfl (by first | exact Or.inl ⟨_, rfl⟩ | exact Or.inr ⟨_, rfl⟩)) ?_
          refine gm_go.ru (gm_get dX11_commands_31 (fl_X11_216 rfl) M2 rfl) ?_
          rw [e6.1]
          refine gm_go.ru (gm_aload_n dX11_commands_34 rfl (by first | exact Or.inl ⟨_, rfl⟩ | exact Or.inr ⟨_, rfl⟩)) ?_
          refine gm_go.ru (gm_get dX11_commands_35 (fl_X11_219 rfl) M2 rfl) ?_
          rw [l1]
          refine gm_go.ru (gi_icmp_ge_t (tgt := 64) dX11_commands_38 (by decide) (by omega) (by omega) (by omega)) ?_
          refine gm_go.ru (gm_iload_n dX11_commands_64 rfl) ?_
          exact gm_iret dX11_commands_65 rfl
        ·
          rw [if_neg cl] at hC
          cases cs : zsg X L (zMC X L s.1).2.2.1 59
          · rw [cs, if_neg (by decide)] at hC; exact absurd (show (-1 : Int) = ((j + (k + 1) : Nat) : Int) from hC) (by omega)
          ·
            rw [cs, if_pos rfl] at hC
            have sl := zsg_l cs
            obtain ⟨b1, K2, g1, g2, g3, g4⟩ := ct_mMark M2 T2.1 e6.1 l1 ht (by omega) e6.2.1 (x := 59) (by decide)
            rw [cs, if_pos rfl] at g3
            have zs : (zSig X L 59 (zRc X L w s).2.2).2 = ((zMC X L s.1).2.2.1 + 1, (zRc X L w s).2.2.2) := by unfold zSig; rw [r2, cs, if_pos rfl]
            rw [zs] at hC
            have hle := (zCc_le z (j + 1 + 1) (zRc X L w s).2.1 ((zMC X L s.1).2.2.1 + 1, (zRc X L w s).2.2.2) (by rw [hC]; omega)).2
            rw [hC] at hle
            have T3 := mt_fr g4 (by omega) (by omega) (by omega) (by omega) T2
            have f3 : gh_fr h b1 (mv_K m) := gh_tr f2 (gh_mono g4 fun k z => Or.inl z)
            obtain ⟨c1, h', K', F', x, i1, i2, i3, i4, i5, i6, i7, i8⟩ := ih (j + 1) k (zRc X L w s).2.1 (zMC X L s.1).1 ((zMC X L s.1).2.2.1 + 1, (zRc X L w s).2.2.2) ((zMC X L s.1).2.2.1 + 1, (zRc X L w2 s2).2.2.2) b1 K2 _ (T + 1) (by show 120 ≤ (zMC X L s.1).2.2.1 + 1 + 2 * z; omega) (by show (zMC X L s.1).2.2.1 + 1 ≤ 60; omega) rfl (by rw [hC]; exact congrArg (fun y : Nat => (y : Int)) (show j + (k + 1) = j + 1 + k by omega)) (by omega) (by omega) g2 T3 g3.1 ((g3.2.2 19 (by decide) (by decide)).trans l1) g3.2.1 ((g3.2.2 0 (by decide) (by decide)).trans o1) ((g3.2.2 22 (by decide) (by decide)).trans d1) (gh_at g4 V2 (by omega)) hH2 hv2 (by omega)
            rw [show j + 1 + k = j + (k + 1) by omega] at i7
            refine ⟨a1, h', K', F', x, e1, ?_, i3, i4, i5, fun i i0 i1 i2 => (i6 i i0 i1 i2).trans ((g3.2.2 i i1 i2).trans (e6.2.2 i i1 i2)), i7, gh_tr f3 i8⟩
            refine gm_go.ru (gm_re e3 e4) ?_
            refine gm_hp ha2 ?_
            refine gm_go.ru (gm_aload_n dX11_commands_16 rfl (by first | exact Or.inl ⟨_, rfl⟩ | exact Or.inr ⟨_, rfl⟩)) ?_
            refine gm_go.ru (gm_get dX11_commands_17 (fl_X11_222 rfl) M2 rfl) ?_
            rw [e6.2.1]
            refine gm_go.ru (gi_if_ne_f 64 dX11_commands_20 (by decide) (by decide) (by decide)) ?_
            refine gm_go.ru (gm_aload_n dX11_commands_23 rfl (by first | exact Or.inl ⟨_, rfl⟩ | exact Or.inr ⟨_, rfl⟩)) ?_
            refine gm_go.ru (gm_get dX11_commands_24 (fl_X11_53 rfl) M2 rfl) ?_
            rw [o1]
            refine gm_go.ru (gi_if_ne_f 64 dX11_commands_27 (by decide) (by decide) (by decide)) ?_
            refine gm_go.ru (gm_aload_n dX11_commands_30 rfl (by first | exact Or.inl ⟨_, rfl⟩ | exact Or.inr ⟨_, rfl⟩)) ?_
            refine gm_go.ru (gm_get dX11_commands_31 (fl_X11_216 rfl) M2 rfl) ?_
            rw [e6.1]
            refine gm_go.ru (gm_aload_n dX11_commands_34 rfl (by first | exact Or.inl ⟨_, rfl⟩ | exact Or.inr ⟨_, rfl⟩)) ?_
            refine gm_go.ru (gm_get dX11_commands_35 (fl_X11_219 rfl) M2 rfl) ?_
            rw [l1]
            refine gm_go.ru (gi_icmp_ge_f 64 dX11_commands_38 (by decide) (by omega) (by omega) (by omega)) ?_
            refine gm_go.ru (gm_aload_n dX11_commands_41 rfl (by first | exact Or.inl ⟨_, rfl⟩ | exact Or.inr ⟨_, rfl⟩)) ?_
            refine gm_go.ru (gi_bipush dX11_commands_42 (by decide +kernel)) ?_
            refine gm_go.ru (gm_cV0 dX11_commands_44 (g1) rfl mt_X11_mark mv_X11_mark (lk_X11_229 rfl) (Or.inl ⟨_, 12, _, _, _, rfl, M2, rfl⟩) rfl (Nat.le_of_ble_eq_true rfl) (by decide)) ?_
            refine gm_go.ru (gm_aload_n dX11_commands_47 rfl (by first | exact Or.inl ⟨_, rfl⟩ | exact Or.inr ⟨_, rfl⟩)) ?_
            refine gm_go.ru (gm_get dX11_commands_48 (fl_X11_222 rfl) g2 rfl) ?_
            rw [g3.2.1]
            refine gm_go.ru (gi_if_ne_f 58 dX11_commands_51 (by decide) (by decide) (by decide)) ?_
            refine gm_go.ru (gm_aload_n dX11_commands_54 rfl (by first | exact Or.inl ⟨_, rfl⟩ | exact Or.inr ⟨_, rfl⟩)) ?_
            refine gm_go.ru (gm_cV0 dX11_commands_55 (i1) rfl mt_X11_command mv_X11_command (lk_X11_251 rfl) (Or.inl ⟨_, 12, _, _, _, rfl, g2, rfl⟩) rfl (Nat.le_of_ble_eq_true rfl) (by decide)) ?_
            refine gm_go.ru (gi_iinc (ls' := [_, _]) dX11_commands_58 rfl (by decide) rfl) ?_
            refine gm_go.ru (gm_goto (tgt := 16) dX11_commands_61 (by decide)) ?_
            exact i2
      ·
        rw [if_neg cq]
        obtain ⟨a1, K1, F1, e1, e2, e3, e5, e6, e7, e8⟩ := ct_mCmdX hM hT hp hL ht hs hw hd cw hV hv (by omega) cq
        rw [cw] at e6
        have z7 := zCd_0 (zMC X L s.1).1 ok.1 (zqWhy F (zMC X L s.1).1 (zMC X L s.1).2.1.1 (zMC X L s.1).2.1.2.1 (zMC X L s.1).2.1.2.2) (zqWhy_7 F (zMC X L s.1).1 (zMC X L s.1).2.1.1 (zMC X L s.1).2.1.2.1 (zMC X L s.1).2.1.2.2)
        have zp := zCd_p F ok.1 _ _ _ cq
        rw [← e7] at z7 zp
        refine ⟨a1, a1, K1, F1, ((j + 1 : Nat) : Int), e1, ?_, e2, e3, e5, fun i i0 i1 i2 => e6.2.2 i i0 i1 i2, Or.inr ⟨by show j < _; omega, zp, by omega, rfl⟩, e8⟩
        refine gm_go.ru (gm_aload_n dX11_commands_16 rfl (by first | exact Or.inl ⟨_, rfl⟩ | exact Or.inr ⟨_, rfl⟩)) ?_
        refine gm_go.ru (gm_get dX11_commands_17 (fl_X11_222 rfl) e2 rfl) ?_
        rw [e6.2.1]
        refine gm_go.ru (gi_if_ne_f 64 dX11_commands_20 (by decide) (by decide) (by decide)) ?_
        refine gm_go.ru (gm_aload_n dX11_commands_23 rfl (by first | exact Or.inl ⟨_, rfl⟩ | exact Or.inr ⟨_, rfl⟩)) ?_
        refine gm_go.ru (gm_get dX11_commands_24 (fl_X11_53 rfl) e2 rfl) ?_
        refine gm_go.ru (gi_if_ne_t (tgt := 64) dX11_commands_27 (by decide) (by omega) zp) ?_
        refine gm_go.ru (gm_iload_n dX11_commands_64 rfl) ?_
        exact gm_iret dX11_commands_65 rfl
    · rw [cw] at r1; rw [if_neg (show ¬ (zRc X L w s).1 = true by rw [r1]; decide)] at hC; exact absurd (show (-1 : Int) = ((j + k : Nat) : Int) from hC) (by omega)
set_option maxRecDepth 4000 in
theorem ct_mComsP {h : gm_H} {m L : Nat} {K X : Nat → Int} (ht : zTx X L) (hM : h.1[m]? = some (md_c m K)) (hT : mt_at h m X) (hL : K 19 = (L : Int)) (h0 : K 0 = 0) (hd : K 22 = 1) {F : Nat → Int} (hV : h.1[m + 1]? = some (gA 118 F)) (hH : zHas F) {T : Nat} (hv : st_iv T F) {w w2 : Nat} {t t2 : (Nat → Int) × Nat} {C : Nat} (hC : (zCc X L 60 1 w (0, t)).1 = (C : Int)) (hT9 : T + C ≤ 1000) : ∃ h' K' F' x, gm_co mX11_commands 8 [.ref m] h (.inl (some (.int (zI x)))) h' ∧ h'.1[m]? = some (md_c m K') ∧ h'.1[m + 1]? = some (gA 118 F') ∧ mt_at h' m X ∧ (∀ i, i ≠ 0 → i ≠ 18 → i ≠ 21 → K' i = K i) ∧ (((zPp X L C 0 F w2 (0, t2)).1 = C ∧ K' 0 = 0 ∧ x = (C : Int) ∧ F' = (zPp X L C 0 F w2 (0, t2)).2.1) ∨ ((zPp X L C 0 F w2 (0, t2)).1 < C ∧ ¬ K' 0 = 0 ∧ zR (K' 0) ∧ x = (((zPp X L C 0 F w2 (0, t2)).1 + 1 : Nat) : Int))) ∧ gh_fr h h' (mv_K m) := by
  obtain ⟨b1, hb1⟩ : ∃ y : gm_H, y = (h.1.set m (md_c m (zU K 18 0)), h.2) := ⟨_, rfl⟩
  have M1 : b1.1[m]? = some (md_c m (zU K 18 0)) := by rw [hb1]; exact gs_s hM
  obtain ⟨b2, hb2⟩ : ∃ y : gm_H, y = (b1.1.set m (md_c m (zU (zU K 18 0) 21 0)), b1.2) := ⟨_, rfl⟩
  have M2 : b2.1[m]? = some (md_c m (zU (zU K 18 0) 21 0)) := by rw [hb2]; exact gs_s M1
  have f2 : gh_fr h b2 (fun k => k = m) := by rw [hb2]; exact gh_set (K := (fun k => k = m)) (by rw [hb1]; exact gh_set (K := (fun k => k = m)) gh_rf rfl _) rfl _
  have T2 := mt_fr f2 (by omega) (by omega) (by omega) (by omega) hT
  have k2 : ∀ j, j ≠ 18 → j ≠ 21 → zU (zU K 18 0) 21 0 j = K j := fun j j1 j2 => (zU_n j2).trans (zU_n j1)
  have hle := (zCc_le 60 1 w (0, t) (by rw [hC]; omega)).2
  rw [hC] at hle
  have hL60 := ht.1
  obtain ⟨c1, h', K', F', x, g1, g2, g3, g4, g5, g6, g7, g8⟩ := c16_P ht 60 0 C w w2 (0, t) (0, t2) b2 _ F T (by show 120 ≤ 0 + 2 * 60; decide) (Nat.zero_le _) rfl (by rw [hC, Nat.zero_add]) (by omega) (by decide) M2 T2 ((zU_n (by decide)).trans zU_s) ((k2 19 (by decide) (by decide)).trans hL) zU_s ((k2 0 (by decide) (by decide)).trans h0) ((k2 22 (by decide) (by decide)).trans hd) (gh_at f2 hV (by omega)) hH hv hT9
  rw [Nat.zero_add] at g7
  refine ⟨h', K', F', x, ?_, g3, g4, g5, fun i i0 i1 i2 => (g6 i i0 i1 i2).trans (k2 i i1 i2), g7, gh_tr (gh_mono f2 fun k z => Or.inl z) g8⟩
  refine gm_co_of _ (by decide +kernel) rfl (Nat.le_of_ble_eq_true rfl) rfl ?_
  refine gm_go.ru (gm_aload_n dX11_commands_0 rfl (by first | exact Or.inl ⟨_, rfl⟩ | exact Or.inr ⟨_, rfl⟩)) ?_
  refine gm_go.ru (gi_const dX11_commands_1) ?_
  refine gm_go.ru (gm_put dX11_commands_2 (fp_X11_216 rfl) hM (Nat.le_of_ble_eq_true rfl) (by first | exact ⟨rfl, rfl⟩ | exact trivial)) ?_
  refine gm_hp hb1 ?_
  refine gm_go.ru (gm_aload_n dX11_commands_5 rfl (by first | exact Or.inl ⟨_, rfl⟩ | exact Or.inr ⟨_, rfl⟩)) ?_
  refine gm_go.ru (gi_const dX11_commands_6) ?_
  refine gm_go.ru (gm_put dX11_commands_7 (fp_X11_222 rfl) M1 (Nat.le_of_ble_eq_true rfl) (by first | exact ⟨rfl, rfl⟩ | exact trivial)) ?_
  refine gm_hp hb2 ?_
  refine gm_go.ru (gi_const dX11_commands_10) ?_
  refine gm_go.ru (gm_istore_n (ls' := [_, _]) dX11_commands_11 (by decide) rfl) ?_
  refine gm_go.ru (gm_aload_n dX11_commands_12 rfl (by first | exact Or.inl ⟨_, rfl⟩ | exact Or.inr ⟨_, rfl⟩)) ?_
  refine gm_go.ru (gm_cV0 dX11_commands_13 (g1) rfl mt_X11_command mv_X11_command (lk_X11_251 rfl) (Or.inl ⟨_, 12, _, _, _, rfl, M2, rfl⟩) rfl (Nat.le_of_ble_eq_true rfl) (by decide)) ?_
  exact g2
