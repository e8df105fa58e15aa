/-- the commands performed one after another, from the j-th on; m are left -/
def zPp (X : Nat → Int) (L : Nat) : Nat → Nat → (Nat → Int) → Nat → zPS → Nat × ((Nat → Int) × (Nat × zPS))
  | 0, j, v, w, s => (j, (v, (w, s)))
  | m + 1, j, v, w, s => if (zRc X L w s).1 = true then (if zqWhy v (zRc X L w s).2.1 ((zRc X L w s).2.2.2.1 0) ((zRc X L w s).2.2.2.1 1) ((zRc X L w s).2.2.2.1 2) = 0 then zPp X L m (j + 1) (zDo v (zRc X L w s).2.1 ((zRc X L w s).2.2.2.1 0) ((zRc X L w s).2.2.2.1 1) ((zRc X L w s).2.2.2.1 2)) (zRc X L w s).2.1 ((zRc X L w s).2.2.1 + 1, (zRc X L w s).2.2.2) else (j, (v, (zRc X L w s).2))) else (j, (v, (zRc X L w s).2))
theorem zPp_le {X : Nat → Int} {L : Nat} : ∀ (m j : Nat) (v : Nat → Int) (w : Nat) (s : zPS), (zPp X L m j v w s).1 ≤ j + m
  | 0, j, v, w, s => Nat.le_refl _
  | m + 1, j, v, w, s => by
    rw [zPp]
    split
    · split
      · have := zPp_le (X := X) (L := L) m (j + 1) (zDo v (zRc X L w s).2.1 ((zRc X L w s).2.2.2.1 0) ((zRc X L w s).2.2.2.1 1) ((zRc X L w s).2.2.2.1 2)) (zRc X L w s).2.1 ((zRc X L w s).2.2.1 + 1, (zRc X L w s).2.2.2)
        omega
      · show j ≤ _; omega
    · show j ≤ _; omega
def pp_K (n : Nat) : Nat → Prop := fun k => st_K (n + 1) k ∨ pg_K (n + 110) k
set_option maxRecDepth 4000 in
theorem pp_in {n L C : Nat} {X : Nat → Int} {hs ep fc : Int} : ∀ (m j : Nat) (v : Nat → Int) (w : Nat) (s : zPS) (h : gm_H) (T : Nat) (x3 x4 x5 x6 : Option Value), j + m = C → h.1[n]? = some (by_c n hs ep fc) → pg_st h (n + 110) X L w s → st_at h (n + 1) v → st_iv T v → T + m ≤ 1000 → C ≤ 60 → ∃ h', gm_ru mX10_performProgram 9 (10, [some (.ref n), some (.int (zI (C : Int))), some (.int (zI (j : Int))), x3, x4, x5, x6], [], h) (.inl (some (.int (zI (((zPp X L m j v w s).1 : Nat) : Int))))) h' ∧ pg_st h' (n + 110) X L (zPp X L m j v w s).2.2.1 (zPp X L m j v w s).2.2.2 ∧ st_at h' (n + 1) (zPp X L m j v w s).2.1 ∧ st_iv (T + m) (zPp X L m j v w s).2.1 ∧ gh_fr h h' (pp_K n) := by
  intro m
  induction m with
  | zero =>
    intro j v w s h T x3 x4 x5 x6 hj hB hP hS hv hT hC
    obtain rfl : j = C := by omega
    refine ⟨h, ?_, hP, hS, st_upx hv (by omega) (by omega), gh_rf⟩
    refine gm_go.ru (gm_iload_n dX10_performProgram_10 rfl) ?_
    refine gm_go.ru (gm_iload_n dX10_performProgram_11 rfl) ?_
    refine gm_go.ru (gi_icmp_ge_t (tgt := 124) dX10_performProgram_12 (by decide) (by omega) (by omega) (by omega)) ?_
    refine gm_go.ru (gm_iload_n dX10_performProgram_124 rfl) ?_
    exact gm_iret dX10_performProgram_125 rfl
  | succ m ih =>
    intro j v w s h T x3 x4 x5 x6 hj hB hP hS hv hT hC
    obtain ⟨p1, p2, p3, pL, pp, pX, pk⟩ := id hP
    obtain ⟨s0, sN, sO⟩ := id hS
    obtain ⟨a1, c1, c2, c3⟩ := ct_readsCommand hP
    have B1 := gh_at c3 hB (fun z => by have := z.1; omega)
    have S1 := st_fr c3 (fun k hk z => by have := hk.2; have := z.1; omega) hS
    have F1 : gh_fr h a1 (pp_K n) := gh_mono c3 fun k z => Or.inr z
    rw [zPp]
    have ok := zRc_ok (X := X) (L := L) (w0 := w) (s := s)
    generalize hr : zRc X L w s = r at *
    obtain ⟨q1, q2, q3, qL, qp, qX, qk⟩ := id c2
    cases hb : r.1
    ·
      rw [if_neg (by decide)]
      refine ⟨a1, ?_, c2, S1, st_upx hv (by omega) (by omega), F1⟩
      refine gm_go.ru (gm_iload_n dX10_performProgram_10 rfl) ?_
      refine gm_go.ru (gm_iload_n dX10_performProgram_11 rfl) ?_
      refine gm_go.ru (gi_icmp_ge_f 124 dX10_performProgram_12 (by decide) (by omega) (by omega) (by omega)) ?_
      refine gm_go.ru (gm_aload_n dX10_performProgram_15 rfl (by first | exact Or.inl ⟨_, rfl⟩ | exact Or.inr ⟨_, rfl⟩)) ?_
      refine gm_go.ru (gm_get dX10_performProgram_16 (fl_X10_54 rfl) hB rfl) ?_
      refine gm_go.ru (gm_cV dX10_performProgram_19 (c1) rfl mt_X7_readsCommand mv_X7_readsCommand (lk_X10_363 rfl) (Or.inl ⟨_, 9, _, _, _, rfl, p1, rfl⟩) rfl (Nat.le_of_ble_eq_true rfl) (by decide)) ?_
      rw [hb]
      refine gm_go.ru (gi_if_ne_f 27 dX10_performProgram_22 (by decide) (by decide) rfl) ?_
      refine gm_go.ru (gm_iload_n dX10_performProgram_25 rfl) ?_
      exact gm_iret dX10_performProgram_26 rfl
    ·
      rw [if_pos rfl]
      obtain ⟨w9, ps, pe, oN⟩ := ok hb
      have n0 := oN 0 (by decide)
      have n1 := oN 1 (by decide)
      have n2 := oN 2 (by decide)
      have wh := ct_whyNot S1 hv (a := r.2.2.2.1 0) (b := r.2.2.2.1 1) (c := r.2.2.2.1 2) (by omega) (by omega) (by omega) w9
      have wh7 := zqWhy_7 v r.2.1 (r.2.2.2.1 0) (r.2.2.2.1 1) (r.2.2.2.1 2)
      obtain ⟨t0, tN, tO⟩ := id S1
      by_cases cz : zqWhy v r.2.1 (r.2.2.2.1 0) (r.2.2.2.1 1) (r.2.2.2.1 2) = 0
      ·
        rw [if_pos cz]
        rw [cz] at wh
        obtain ⟨a2, d1, d2, d3, d4⟩ := ct_perform S1 hv (by omega) (a := r.2.2.2.1 0) (b := r.2.2.2.1 1) (c := r.2.2.2.1 2) w9 (by omega) cz
        have B2 := gh_at d4 B1 (fun z => by have := z.1; omega)
        have P2 := pg_fr d4 (fun k hk z => by have := hk.1; have := z.2; omega) c2
        have g2 := P2.1
        obtain ⟨a3, ha3⟩ : ∃ x : gm_H, x = (a2.1.set (n + 110) (pg_c (n + 110) L (r.2.2.1 + 1) r.2.1 r.2.2.2.2), a2.2) := ⟨_, rfl⟩
        have P3 : pg_st a3 (n + 110) X L r.2.1 (r.2.2.1 + 1, r.2.2.2) := by rw [ha3]; exact pg_set P2 L (r.2.2.1 + 1) r.2.1 r.2.2.2.2 qL (by omega) qX qk
        have f3 : gh_fr a2 a3 (fun k => k = n + 110) := by rw [ha3]; exact gh_set (K := fun k => k = n + 110) gh_rf rfl _
        have B3 := gh_at f3 B2 (by omega)
        have S3 := st_fr f3 (fun k hk z => by have := hk.2; omega) d2
        obtain ⟨h', e1, e2, e3, e4, e5⟩ := ih (j + 1) _ r.2.1 (r.2.2.1 + 1, r.2.2.2) a3 (T + 1) (some (.retAddr (7 + r.2.1))) (some (.int (zI (r.2.2.2.1 0)))) (some (.int (zI (r.2.2.2.1 1)))) (some (.int (zI (r.2.2.2.1 2)))) (by omega) B3 P3 S3 d3 (by omega) hC
        refine ⟨h', ?_, e2, e3, by rwa [show T + 1 + m = T + (m + 1) by omega] at e4, gh_tr F1 (gh_tr (gh_mono d4 fun k z => Or.inl z) (gh_tr (gh_mono f3 fun k z => Or.inr ⟨by omega, by omega⟩) e5))⟩
        refine gm_go.ru (gm_iload_n dX10_performProgram_10 rfl) ?_
        refine gm_go.ru (gm_iload_n dX10_performProgram_11 rfl) ?_
        refine gm_go.ru (gi_icmp_ge_f 124 dX10_performProgram_12 (by decide) (by omega) (by omega) (by omega)) ?_
        refine gm_go.ru (gm_aload_n dX10_performProgram_15 rfl (by first | exact Or.inl ⟨_, rfl⟩ | exact Or.inr ⟨_, rfl⟩)) ?_
        refine gm_go.ru (gm_get dX10_performProgram_16 (fl_X10_54 rfl) hB rfl) ?_
        refine gm_go.ru (gm_cV dX10_performProgram_19 (c1) rfl mt_X7_readsCommand mv_X7_readsCommand (lk_X10_363 rfl) (Or.inl ⟨_, 9, _, _, _, rfl, p1, rfl⟩) rfl (Nat.le_of_ble_eq_true rfl) (by decide)) ?_
        rw [hb]
        refine gm_go.ru (gi_if_ne_t (tgt := 27) dX10_performProgram_22 (by decide) (by decide) (by decide)) ?_
        refine gm_go.ru (gm_aload_n dX10_performProgram_27 rfl (by first | exact Or.inl ⟨_, rfl⟩ | exact Or.inr ⟨_, rfl⟩)) ?_
        refine gm_go.ru (gm_get dX10_performProgram_28 (fl_X10_54 rfl) B1 rfl) ?_
        refine gm_go.ru (gm_get dX10_performProgram_31 (fl_X10_367 rfl) q1 rfl) ?_
        refine gm_go.ru (gm_astore_n (ls' := [_, _, _, _, _, _, _]) dX10_performProgram_34 (by first | exact Or.inl ⟨_, rfl⟩ | exact Or.inr ⟨_, rfl⟩) (by decide) rfl) ?_
        refine gm_go.ru (gm_aload_n dX10_performProgram_35 rfl (by first | exact Or.inl ⟨_, rfl⟩ | exact Or.inr ⟨_, rfl⟩)) ?_
        refine gm_go.ru (gm_get dX10_performProgram_36 (fl_X10_54 rfl) B1 rfl) ?_
        refine gm_go.ru (gm_get dX10_performProgram_39 (fl_X10_370 rfl) q1 rfl) ?_
        refine gm_go.ru (gi_const dX10_performProgram_42) ?_
        refine gm_go.ru (gi_ald dX10_performProgram_43 q3 (by decide) (by decide) (by decide)) ?_
        refine gm_go.ru (gm_istore (ls' := [_, _, _, _, _, _, _]) dX10_performProgram_44 (by decide) rfl) ?_
        refine gm_go.ru (gm_aload_n dX10_performProgram_46 rfl (by first | exact Or.inl ⟨_, rfl⟩ | exact Or.inr ⟨_, rfl⟩)) ?_
        refine gm_go.ru (gm_get dX10_performProgram_47 (fl_X10_54 rfl) B1 rfl) ?_
        refine gm_go.ru (gm_get dX10_performProgram_50 (fl_X10_370 rfl) q1 rfl) ?_
        refine gm_go.ru (gi_const dX10_performProgram_53) ?_
        refine gm_go.ru (gi_ald dX10_performProgram_54 q3 (by decide) (by decide) (by decide)) ?_
        refine gm_go.ru (gm_istore (ls' := [_, _, _, _, _, _, _]) dX10_performProgram_55 (by decide) rfl) ?_
        refine gm_go.ru (gm_aload_n dX10_performProgram_57 rfl (by first | exact Or.inl ⟨_, rfl⟩ | exact Or.inr ⟨_, rfl⟩)) ?_
        refine gm_go.ru (gm_get dX10_performProgram_58 (fl_X10_54 rfl) B1 rfl) ?_
        refine gm_go.ru (gm_get dX10_performProgram_61 (fl_X10_370 rfl) q1 rfl) ?_
        refine gm_go.ru (gi_const dX10_performProgram_64) ?_
        refine gm_go.ru (gi_ald dX10_performProgram_65 q3 (by decide) (by decide) (by decide)) ?_
        refine gm_go.ru (gm_istore (ls' := [_, _, _, _, _, _, _]) dX10_performProgram_66 (by decide) rfl) ?_
        refine gm_go.ru (gm_aload_n dX10_performProgram_68 rfl (by first | exact Or.inl ⟨_, rfl⟩ | exact Or.inr ⟨_, rfl⟩)) ?_
        refine gm_go.ru (gm_get dX10_performProgram_69 (fl_X10_10 rfl) B1 rfl) ?_
        refine gm_go.ru (gm_aload_n dX10_performProgram_72 rfl (by first | exact Or.inl ⟨_, rfl⟩ | exact Or.inr ⟨_, rfl⟩)) ?_
        refine gm_go.ru (gm_iload dX10_performProgram_73 rfl) ?_
        refine gm_go.ru (gm_iload dX10_performProgram_75 rfl) ?_
        refine gm_go.ru (gm_iload dX10_performProgram_77 rfl) ?_
        refine gm_go.ru (gm_cV dX10_performProgram_79 (wh) rfl mt_X9_whyNot mv_X9_whyNot (lk_X10_352 rfl) (Or.inl ⟨_, 10, _, _, _, rfl, t0, rfl⟩) rfl (Nat.le_of_ble_eq_true rfl) (by decide)) ?_
        refine gm_go.ru (gm_gets (v := .retAddr 0) dX10_performProgram_82 (by decide +kernel) (sl_X10_373 rfl) rfl) ?_
        refine gm_go.ru (gm_acmp_eq_t (tgt := 90) dX10_performProgram_85 (by decide) ) ?_
        refine gm_go.ru (gm_aload_n dX10_performProgram_90 rfl (by first | exact Or.inl ⟨_, rfl⟩ | exact Or.inr ⟨_, rfl⟩)) ?_
        refine gm_go.ru (gm_get dX10_performProgram_91 (fl_X10_10 rfl) B1 rfl) ?_
        refine gm_go.ru (gm_aload_n dX10_performProgram_94 rfl (by first | exact Or.inl ⟨_, rfl⟩ | exact Or.inr ⟨_, rfl⟩)) ?_
        refine gm_go.ru (gm_iload dX10_performProgram_95 rfl) ?_
        refine gm_go.ru (gm_iload dX10_performProgram_97 rfl) ?_
        refine gm_go.ru (gm_iload dX10_performProgram_99 rfl) ?_
        refine gm_go.ru (gm_cV dX10_performProgram_101 (d1) rfl mt_X9_perform mv_X9_perform (lk_X10_360 rfl) (Or.inl ⟨_, 10, _, _, _, rfl, t0, rfl⟩) rfl (Nat.le_of_ble_eq_true rfl) (by decide)) ?_
        refine gm_go.ru (gm_pop dX10_performProgram_104 rfl) ?_
        refine gm_go.ru (gm_aload_n dX10_performProgram_105 rfl (by first | exact Or.inl ⟨_, rfl⟩ | exact Or.inr ⟨_, rfl⟩)) ?_
        refine gm_go.ru (gm_get dX10_performProgram_106 (fl_X10_54 rfl) B2 rfl) ?_
        refine gm_go.ru (gm_dup dX10_performProgram_109 rfl) ?_
        refine gm_go.ru (gm_get dX10_performProgram_110 (fl_X10_307 rfl) g2 rfl) ?_
        refine gm_go.ru (gi_const dX10_performProgram_113) ?_
        refine gm_go.ru (gi_add dX10_performProgram_114) ?_
        refine gm_go.ru (gm_put dX10_performProgram_115 (fp_X10_307 rfl) g2 (Nat.le_of_ble_eq_true rfl) (by first | exact ⟨rfl, rfl⟩ | exact trivial)) ?_
        refine gm_hp ha3 ?_
        refine gm_go.ru (gi_iinc (ls' := [_, _, _, _, _, _, _]) dX10_performProgram_118 rfl (by decide) rfl) ?_
        refine gm_go.ru (gm_goto (tgt := 10) dX10_performProgram_121 (by decide)) ?_
        exact e1
      ·
        rw [if_neg cz]
        refine ⟨a1, ?_, c2, S1, st_upx hv (by omega) (by omega), F1⟩
        refine gm_go.ru (gm_iload_n dX10_performProgram_10 rfl) ?_
        refine gm_go.ru (gm_iload_n dX10_performProgram_11 rfl) ?_
        refine gm_go.ru (gi_icmp_ge_f 124 dX10_performProgram_12 (by decide) (by omega) (by omega) (by omega)) ?_
        refine gm_go.ru (gm_aload_n dX10_performProgram_15 rfl (by first | exact Or.inl ⟨_, rfl⟩ | exact Or.inr ⟨_, rfl⟩)) ?_
        refine gm_go.ru (gm_get dX10_performProgram_16 (fl_X10_54 rfl) hB rfl) ?_
        refine gm_go.ru (gm_cV dX10_performProgram_19 (c1) rfl mt_X7_readsCommand mv_X7_readsCommand (lk_X10_363 rfl) (Or.inl ⟨_, 9, _, _, _, rfl, p1, rfl⟩) rfl (Nat.le_of_ble_eq_true rfl) (by decide)) ?_
        rw [hb]
        refine gm_go.ru (gi_if_ne_t (tgt := 27) dX10_performProgram_22 (by decide) (by decide) (by decide)) ?_
        refine gm_go.ru (gm_aload_n dX10_performProgram_27 rfl (by first | exact Or.inl ⟨_, rfl⟩ | exact Or.inr ⟨_, rfl⟩)) ?_
        refine gm_go.ru (gm_get dX10_performProgram_28 (fl_X10_54 rfl) B1 rfl) ?_
        refine gm_go.ru (gm_get dX10_performProgram_31 (fl_X10_367 rfl) q1 rfl) ?_
        refine gm_go.ru (gm_astore_n (ls' := [_, _, _, _, _, _, _]) dX10_performProgram_34 (by first | exact Or.inl ⟨_, rfl⟩ | exact Or.inr ⟨_, rfl⟩) (by decide) rfl) ?_
        refine gm_go.ru (gm_aload_n dX10_performProgram_35 rfl (by first | exact Or.inl ⟨_, rfl⟩ | exact Or.inr ⟨_, rfl⟩)) ?_
        refine gm_go.ru (gm_get dX10_performProgram_36 (fl_X10_54 rfl) B1 rfl) ?_
        refine gm_go.ru (gm_get dX10_performProgram_39 (fl_X10_370 rfl) q1 rfl) ?_
        refine gm_go.ru (gi_const dX10_performProgram_42) ?_
        refine gm_go.ru (gi_ald dX10_performProgram_43 q3 (by decide) (by decide) (by decide)) ?_
        refine gm_go.ru (gm_istore (ls' := [_, _, _, _, _, _, _]) dX10_performProgram_44 (by decide) rfl) ?_
        refine gm_go.ru (gm_aload_n dX10_performProgram_46 rfl (by first | exact Or.inl ⟨_, rfl⟩ | exact Or.inr ⟨_, rfl⟩)) ?_
        refine gm_go.ru (gm_get dX10_performProgram_47 (fl_X10_54 rfl) B1 rfl) ?_
        refine gm_go.ru (gm_get dX10_performProgram_50 (fl_X10_370 rfl) q1 rfl) ?_
        refine gm_go.ru (gi_const dX10_performProgram_53) ?_
        refine gm_go.ru (gi_ald dX10_performProgram_54 q3 (by decide) (by decide) (by decide)) ?_
        refine gm_go.ru (gm_istore (ls' := [_, _, _, _, _, _, _]) dX10_performProgram_55 (by decide) rfl) ?_
        refine gm_go.ru (gm_aload_n dX10_performProgram_57 rfl (by first | exact Or.inl ⟨_, rfl⟩ | exact Or.inr ⟨_, rfl⟩)) ?_
        refine gm_go.ru (gm_get dX10_performProgram_58 (fl_X10_54 rfl) B1 rfl) ?_
        refine gm_go.ru (gm_get dX10_performProgram_61 (fl_X10_370 rfl) q1 rfl) ?_
        refine gm_go.ru (gi_const dX10_performProgram_64) ?_
        refine gm_go.ru (gi_ald dX10_performProgram_65 q3 (by decide) (by decide) (by decide)) ?_
        refine gm_go.ru (gm_istore (ls' := [_, _, _, _, _, _, _]) dX10_performProgram_66 (by decide) rfl) ?_
        refine gm_go.ru (gm_aload_n dX10_performProgram_68 rfl (by first | exact Or.inl ⟨_, rfl⟩ | exact Or.inr ⟨_, rfl⟩)) ?_
        refine gm_go.ru (gm_get dX10_performProgram_69 (fl_X10_10 rfl) B1 rfl) ?_
        refine gm_go.ru (gm_aload_n dX10_performProgram_72 rfl (by first | exact Or.inl ⟨_, rfl⟩ | exact Or.inr ⟨_, rfl⟩)) ?_
        refine gm_go.ru (gm_iload dX10_performProgram_73 rfl) ?_
        refine gm_go.ru (gm_iload dX10_performProgram_75 rfl) ?_
        refine gm_go.ru (gm_iload dX10_performProgram_77 rfl) ?_
        refine gm_go.ru (gm_cV dX10_performProgram_79 (wh) rfl mt_X9_whyNot mv_X9_whyNot (lk_X10_352 rfl) (Or.inl ⟨_, 10, _, _, _, rfl, t0, rfl⟩) rfl (Nat.le_of_ble_eq_true rfl) (by decide)) ?_
        refine gm_go.ru (gm_gets (v := .retAddr 0) dX10_performProgram_82 (by decide +kernel) (sl_X10_373 rfl) rfl) ?_
        refine gm_go.ru (gm_acmp_eq_f 90 dX10_performProgram_85 (by decide) (Nat.lt_of_lt_of_le wh7 (by decide)) (by decide) cz) ?_
        refine gm_go.ru (gm_iload_n dX10_performProgram_88 rfl) ?_
        exact gm_iret dX10_performProgram_89 rfl
set_option maxRecDepth 4000 in
theorem ct_performProgram {h : gm_H} {n L T : Nat} {X v : Nat → Int} {w : Nat} {s : zPS} {hs ep fc : Int} (hB : h.1[n]? = some (by_c n hs ep fc)) (hP : pg_st h (n + 110) X L w s) (hS : st_at h (n + 1) v) (hv : st_iv T v) {C : Nat} (hT : T + C ≤ 1000) (hC : C ≤ 60) : ∃ h', gm_co mX10_performProgram 9 [.ref n, .int (zI (C : Int))] h (.inl (some (.int (zI (((zPp X L C 0 v w (0, s.2)).1 : Nat) : Int))))) h' ∧ pg_st h' (n + 110) X L (zPp X L C 0 v w (0, s.2)).2.2.1 (zPp X L C 0 v w (0, s.2)).2.2.2 ∧ st_at h' (n + 1) (zPp X L C 0 v w (0, s.2)).2.1 ∧ st_iv (T + C) (zPp X L C 0 v w (0, s.2)).2.1 ∧ gh_fr h h' (pp_K n) := by
  obtain ⟨p1, p2, p3, pL, pp, pX, pk⟩ := id hP
  obtain ⟨a1, ha1⟩ : ∃ x : gm_H, x = (h.1.set (n + 110) (pg_c (n + 110) L 0 w s.2.2), h.2) := ⟨_, rfl⟩
  have P1 : pg_st a1 (n + 110) X L w (0, s.2) := by rw [ha1]; exact pg_set hP L 0 w s.2.2 pL (by omega) pX pk
  have f1 : gh_fr h a1 (fun k => k = n + 110) := by rw [ha1]; exact gh_set (K := fun k => k = n + 110) gh_rf rfl _
  have B1 := gh_at f1 hB (by omega)
  have S1 := st_fr f1 (fun k hk z => by have := hk.2; omega) hS
  obtain ⟨h', e1, e2, e3, e4, e5⟩ := pp_in C 0 v w (0, s.2) a1 T none none none none (by omega) B1 P1 S1 hv hT hC
  refine ⟨h', ?_, e2, e3, e4, gh_tr (gh_mono f1 fun k z => Or.inr ⟨by omega, by omega⟩) e5⟩
  refine gm_co_of _ (by decide +kernel) rfl (Nat.le_of_ble_eq_true rfl) rfl ?_
  refine gm_go.ru (gm_aload_n dX10_performProgram_0 rfl (by first | exact Or.inl ⟨_, rfl⟩ | exact Or.inr ⟨_, rfl⟩)) ?_
  refine gm_go.ru (gm_get dX10_performProgram_1 (fl_X10_54 rfl) hB rfl) ?_
  refine gm_go.ru (gi_const dX10_performProgram_4) ?_
  refine gm_go.ru (gm_put dX10_performProgram_5 (fp_X10_307 rfl) p1 (Nat.le_of_ble_eq_true rfl) (by first | exact ⟨rfl, rfl⟩ | exact trivial)) ?_
  refine gm_hp ha1 ?_
  refine gm_go.ru (gi_const dX10_performProgram_8) ?_
  refine gm_go.ru (gm_istore_n (ls' := [_, _, _, _, _, _, _]) dX10_performProgram_9 (by decide) rfl) ?_
  exact e1
theorem zCc_r (X : Nat → Int) (L : Nat) : ∀ (m n w : Nat) (s : zPS), -1 ≤ (zCc X L m n w s).1 ∧ (zCc X L m n w s).1 ≤ n + m
  | 0, n, w, s => by rw [zCc]; omega
  | m + 1, n, w, s => by
    rw [zCc]
    split
    · split
      · show -1 ≤ (n : Int) ∧ (n : Int) ≤ _; omega
      · split
        · have := zCc_r X L m (n + 1) (zRc X L w s).2.1 (zSig X L 59 (zRc X L w s).2.2).2; omega
        · show -1 ≤ (-1 : Int) ∧ (-1 : Int) ≤ _; omega
    · show -1 ≤ (-1 : Int) ∧ (-1 : Int) ≤ _; omega
set_option maxRecDepth 4000 in
theorem ct_executeX {h : gm_H} {n L : Nat} {X : Nat → Int} {w : Nat} {s : zPS} {hs ep fc : Int} (hB : h.1[n]? = some (by_c n hs ep fc)) (hP : pg_st h (n + 110) X L w s) (hq : (zCc X L 60 1 w (0, s.2)).1 < 0) : ∃ h', gm_co mX10_execute 11 [.ref n] h (.inr "java/lang/IllegalArgumentException") (zTh h') ∧ h'.1[n]? = some (by_c n hs ((zCc X L 60 1 w (0, s.2)).2.2.1 : Int) fc) ∧ pg_st h' (n + 110) X 0 (zCc X L 60 1 w (0, s.2)).2.1 (zCc X L 60 1 w (0, s.2)).2.2 ∧ gh_fr h h' (fun k => k = n ∨ pg_K (n + 110) k) := by
  obtain ⟨p1, p2, p3, pL, pp, pX, pk⟩ := id hP
  obtain ⟨a1, c1, c2, c3⟩ := ct_countCommands hP
  have B1 := gh_at c3 hB (fun z => by have := z.1; omega)
  have cr := zCc_r X L 60 1 w (0, s.2)
  generalize hr : zCc X L 60 1 w (0, s.2) = r at *
  obtain ⟨q1, q2, q3, qL, qp, qX, qk⟩ := id c2
  obtain ⟨a2, ha2⟩ : ∃ x : gm_H, x = (a1.1.set n (by_c n hs (r.2.2.1 : Int) fc), a1.2) := ⟨_, rfl⟩
  have f2 : gh_fr a1 a2 (fun k => k = n) := by rw [ha2]; exact gh_set (K := fun k => k = n) gh_rf rfl _
  have B2 : a2.1[n]? = some (by_c n hs (r.2.2.1 : Int) fc) := by rw [ha2]; exact gs_s B1
  have P2 := pg_fr f2 (fun k hk z => by have := hk.1; omega) c2
  have g2 := P2.1
  obtain ⟨a3, d1, d2, d3⟩ := ct_pgEmpty P2
  have B3 := gh_at d3 B2 (fun z => by have := z.1; omega)
  refine ⟨a3, ?_, B3, d2, gh_tr (gh_mono c3 fun k z => Or.inr z) (gh_tr (gh_mono f2 fun k z => Or.inl z) (gh_mono d3 fun k z => Or.inr z))⟩
  refine gm_co_of _ (by decide +kernel) rfl (Nat.le_of_ble_eq_true rfl) rfl ?_
  refine gm_go.ru (gm_aload_n dX10_execute_0 rfl (by first | exact Or.inl ⟨_, rfl⟩ | exact Or.inr ⟨_, rfl⟩)) ?_
  refine gm_go.ru (gm_get dX10_execute_1 (fl_X10_54 rfl) hB rfl) ?_
  refine gm_go.ru (gm_cV dX10_execute_4 (c1) rfl mt_X7_countCommands mv_X7_countCommands (lk_X10_304 rfl) (Or.inl ⟨_, 9, _, _, _, rfl, p1, rfl⟩) rfl (Nat.le_of_ble_eq_true rfl) (by decide)) ?_
  refine gm_go.ru (gm_istore_n (ls' := [_, _, _]) dX10_execute_7 (by decide) rfl) ?_
  refine gm_go.ru (gm_iload_n dX10_execute_8 rfl) ?_
  refine gm_go.ru (gi_if_ge_f 41 dX10_execute_9 (by decide) (by omega) (by omega)) ?_
  refine gm_go.ru (gm_aload_n dX10_execute_12 rfl (by first | exact Or.inl ⟨_, rfl⟩ | exact Or.inr ⟨_, rfl⟩)) ?_
  refine gm_go.ru (gm_aload_n dX10_execute_13 rfl (by first | exact Or.inl ⟨_, rfl⟩ | exact Or.inr ⟨_, rfl⟩)) ?_
  refine gm_go.ru (gm_get dX10_execute_14 (fl_X10_54 rfl) B1 rfl) ?_
  refine gm_go.ru (gm_get dX10_execute_17 (fl_X10_307 rfl) q1 rfl) ?_
  refine gm_go.ru (gm_put dX10_execute_20 (fp_X10_58 rfl) B1 (Nat.le_of_ble_eq_true rfl) (by first | exact ⟨rfl, rfl⟩ | exact trivial)) ?_
  refine gm_hp ha2 ?_
  refine gm_go.ru (gm_aload_n dX10_execute_23 rfl (by first | exact Or.inl ⟨_, rfl⟩ | exact Or.inr ⟨_, rfl⟩)) ?_
  refine gm_go.ru (gm_get dX10_execute_24 (fl_X10_54 rfl) B2 rfl) ?_
  refine gm_go.ru (gm_cV0 dX10_execute_27 (d1) rfl mt_X7_empty mv_X7_empty (lk_X10_310 rfl) (Or.inl ⟨_, 9, _, _, _, rfl, g2, rfl⟩) rfl (Nat.le_of_ble_eq_true rfl) (by decide)) ?_
  exact gm_throwW (tf_X10_289_313 rfl) rfl dX10_execute_30 dX10_execute_33 dX10_execute_34 dX10_execute_37 dX10_execute_40 (Nat.le_of_ble_eq_true rfl) (by decide) (by decide)
def ex_K (n : Nat) : Nat → Prop := fun k => k = n ∨ st_K (n + 1) k ∨ hi_K (n + 19) k ∨ pg_K (n + 110) k
set_option maxRecDepth 4000 in
theorem ct_executeY {h : gm_H} {n L T : Nat} {X v : Nat → Int} {w : Nat} {s : zPS} {hs ep fc : Int} (hB : h.1[n]? = some (by_c n hs ep fc)) (hP : pg_st h (n + 110) X L w s) (hS : st_at h (n + 1) v) (hv : st_iv T v) {P : Nat → Nat → Int} {m : Nat} (hH : hi_at h (n + 19) P m) {C : Nat} (hC : (zCc X L 60 1 w (0, s.2)).1 = (C : Int)) (hT : T + L ≤ 1000) (hq : (zPp X L C 0 v (zCc X L 60 1 w (0, s.2)).2.1 (0, (zCc X L 60 1 w (0, s.2)).2.2.2)).1 < C) : ∃ h', gm_co mX10_execute 11 [.ref n] h (.inr "java/lang/IllegalStateException") (zTh h') ∧ h'.1[n]? = some (by_c n hs ep (((zPp X L C 0 v (zCc X L 60 1 w (0, s.2)).2.1 (0, (zCc X L 60 1 w (0, s.2)).2.2.2)).1 : Nat) : Int)) ∧ pg_st h' (n + 110) X 0 (zPp X L C 0 v (zCc X L 60 1 w (0, s.2)).2.1 (0, (zCc X L 60 1 w (0, s.2)).2.2.2)).2.2.1 (zPp X L C 0 v (zCc X L 60 1 w (0, s.2)).2.1 (0, (zCc X L 60 1 w (0, s.2)).2.2.2)).2.2.2 ∧ st_at h' (n + 1) v ∧ hi_at h' (n + 19) P m ∧ gh_fr h h' (ex_K n) := by
  obtain ⟨p1, p2, p3, pL, pp, pX, pk⟩ := id hP
  have h7 := hv.2.2.2.1.2
  obtain ⟨a1, c1, c2, c3⟩ := ct_countCommands hP
  have B1 := gh_at c3 hB (fun z => by have := z.1; omega)
  have S1 := st_fr c3 (fun k hk z => by have := hk.2; have := z.1; omega) hS
  have H1 := hi_fr c3 (fun k hk z => by have := hk.2; have := z.1; omega) hH
  have cl := zCc_le (X := X) (L := L) 60 1 w (0, s.2) (by rw [hC]; omega)
  rw [hC] at c1 cl
  simp only at cl
  obtain ⟨f9, R9, ⟨u1, u2, u3, u4, u5⟩, u6⟩ := id H1
  obtain ⟨a2, d1, d2, d3⟩ := ct_prepare H1 S1 h7 (by omega)
  have B2 := gh_at d3 B1 (fun z => by have := z.1; omega)
  have S2 := st_fr d3 (fun k hk z => by have := hk.2; have := z.1; omega) S1
  have P2 := pg_fr d3 (fun k hk z => by have := hk.1; have := z.2; omega) c2
  obtain ⟨a3, e1, e2, e3, e4, e5⟩ := ct_performProgram B2 P2 S2 hv (C := C) (by omega) (by omega)
  have ple := zPp_le (X := X) (L := L) C 0 v (zCc X L 60 1 w (0, s.2)).2.1 (0, (zCc X L 60 1 w (0, s.2)).2.2.2)
  have B3 := gh_at e5 B2 (fun z => by rcases z with z | z <;> (have := z.1; omega))
  have H3 := hi_prfr e5 (fun k hk z => by rcases z with z | z <;> (have := z.1; have := z.2; have := hk.1; have := hk.2; omega)) d2
  obtain ⟨g1, g2⟩ := id e2
  obtain ⟨a4, i1, i2, i3⟩ := ct_pgEmpty e2
  have B4 := gh_at i3 B3 (fun z => by have := z.1; omega)
  have S4 := st_fr i3 (fun k hk z => by have := hk.2; have := z.1; omega) e3
  have H4 := hi_prfr i3 (fun k hk z => by have := hk.2; have := z.1; omega) H3
  obtain ⟨f8, R8, ⟨y1, y2, y3, y4, y5⟩, y6⟩ := id H4
  have FF : gh_fr h a4 (ex_K n) := gh_tr (gh_mono c3 fun k z => Or.inr (Or.inr (Or.inr z))) (gh_tr (gh_mono d3 fun k z => Or.inr (Or.inr (Or.inl z))) (gh_tr (gh_mono e5 fun k z => z.elim (fun z => Or.inr (Or.inl z)) (fun z => Or.inr (Or.inr (Or.inr z)))) (gh_mono i3 fun k z => Or.inr (Or.inr (Or.inr z)))))
  obtain ⟨a5, k1, k2, k3⟩ := ct_putBack H4 S4 (by omega)
  have B5 := gh_at k3 B4 (fun z => by have := z.1; omega)
  have H5 := hi_of (hi_prfr k3 (fun k hk z => by have := hk.1; have := z.2; omega) H4)
  have P5 := pg_fr k3 (fun k hk z => by have := hk.1; have := z.2; omega) i2
  obtain ⟨a6, ha6⟩ : ∃ x : gm_H, x = (a5.1.set n (by_c n hs ep (((zPp X L C 0 v (zCc X L 60 1 w (0, s.2)).2.1 (0, (zCc X L 60 1 w (0, s.2)).2.2.2)).1 : Nat) : Int)), a5.2) := ⟨_, rfl⟩
  have f6 : gh_fr a5 a6 (fun k => k = n) := by rw [ha6]; exact gh_set (K := fun k => k = n) gh_rf rfl _
  refine ⟨a6, ?_, by rw [ha6]; exact gs_s B5, pg_fr f6 (fun k hk z => by have := hk.1; omega) P5, st_fr f6 (fun k hk z => by have := hk.1; omega) k2, hi_fr f6 (fun k hk z => by have := hk.1; omega) H5, gh_tr FF (gh_tr (gh_mono k3 fun k z => Or.inr (Or.inl z)) (gh_mono f6 fun k z => Or.inl z))⟩
  refine gm_co_of _ (by decide +kernel) rfl (Nat.le_of_ble_eq_true rfl) rfl ?_
  refine gm_go.ru (gm_aload_n dX10_execute_0 rfl (by first | exact Or.inl ⟨_, rfl⟩ | exact Or.inr ⟨_, rfl⟩)) ?_
  refine gm_go.ru (gm_get dX10_execute_1 (fl_X10_54 rfl) hB rfl) ?_
  refine gm_go.ru (gm_cV dX10_execute_4 (c1) rfl mt_X7_countCommands mv_X7_countCommands (lk_X10_304 rfl) (Or.inl ⟨_, 9, _, _, _, rfl, p1, rfl⟩) rfl (Nat.le_of_ble_eq_true rfl) (by decide)) ?_
  refine gm_go.ru (gm_istore_n (ls' := [_, _, _]) dX10_execute_7 (by decide) rfl) ?_
  refine gm_go.ru (gm_iload_n dX10_execute_8 rfl) ?_
  refine gm_go.ru (gi_if_ge_t (tgt := 41) dX10_execute_9 (by decide) (by omega) (by omega)) ?_
  refine gm_go.ru (gm_aload_n dX10_execute_41 rfl (by first | exact Or.inl ⟨_, rfl⟩ | exact Or.inr ⟨_, rfl⟩)) ?_
  refine gm_go.ru (gm_get dX10_execute_42 (fl_X10_22 rfl) B1 rfl) ?_
  refine gm_go.ru (gm_aload_n dX10_execute_45 rfl (by first | exact Or.inl ⟨_, rfl⟩ | exact Or.inr ⟨_, rfl⟩)) ?_
  refine gm_go.ru (gm_get dX10_execute_46 (fl_X10_10 rfl) B1 rfl) ?_
  refine gm_go.ru (gm_cV0 dX10_execute_49 (d1) rfl mt_X2_prepare mv_X2_prepare (lk_X10_315 rfl) (Or.inl ⟨_, 4, _, _, _, rfl, u3, rfl⟩) rfl (Nat.le_of_ble_eq_true rfl) (by decide)) ?_
  refine gm_go.ru (gm_aload_n dX10_execute_52 rfl (by first | exact Or.inl ⟨_, rfl⟩ | exact Or.inr ⟨_, rfl⟩)) ?_
  refine gm_go.ru (gm_iload_n dX10_execute_53 rfl) ?_
  refine gm_go.ru (gm_cV dX10_execute_54 (e1) rfl mt_X10_performProgram mv_X10_performProgram (lk_X10_319 rfl) (Or.inl ⟨_, 11, _, _, _, rfl, B2, rfl⟩) rfl (Nat.le_of_ble_eq_true rfl) (by decide)) ?_
  refine gm_go.ru (gm_istore_n (ls' := [_, _, _]) dX10_execute_57 (by decide) rfl) ?_
  refine gm_go.ru (gm_aload_n dX10_execute_58 rfl (by first | exact Or.inl ⟨_, rfl⟩ | exact Or.inr ⟨_, rfl⟩)) ?_
  refine gm_go.ru (gm_get dX10_execute_59 (fl_X10_54 rfl) B3 rfl) ?_
  refine gm_go.ru (gm_cV0 dX10_execute_62 (i1) rfl mt_X7_empty mv_X7_empty (lk_X10_310 rfl) (Or.inl ⟨_, 9, _, _, _, rfl, g1, rfl⟩) rfl (Nat.le_of_ble_eq_true rfl) (by decide)) ?_
  refine gm_go.ru (gm_iload_n dX10_execute_65 rfl) ?_
  refine gm_go.ru (gm_iload_n dX10_execute_66 rfl) ?_
  refine gm_go.ru (gi_icmp_ge_f 97 dX10_execute_67 (by decide) (by omega) (by omega) (by omega)) ?_
  refine gm_go.ru (gm_aload_n dX10_execute_70 rfl (by first | exact Or.inl ⟨_, rfl⟩ | exact Or.inr ⟨_, rfl⟩)) ?_
  refine gm_go.ru (gm_get dX10_execute_71 (fl_X10_22 rfl) B4 rfl) ?_
  refine gm_go.ru (gm_aload_n dX10_execute_74 rfl (by first | exact Or.inl ⟨_, rfl⟩ | exact Or.inr ⟨_, rfl⟩)) ?_
  refine gm_go.ru (gm_get dX10_execute_75 (fl_X10_10 rfl) B4 rfl) ?_
  refine gm_go.ru (gm_cV0 dX10_execute_78 (k1) rfl mt_X2_putBack mv_X2_putBack (lk_X10_322 rfl) (Or.inl ⟨_, 4, _, _, _, rfl, y3, rfl⟩) rfl (Nat.le_of_ble_eq_true rfl) (by decide)) ?_
  refine gm_go.ru (gm_aload_n dX10_execute_81 rfl (by first | exact Or.inl ⟨_, rfl⟩ | exact Or.inr ⟨_, rfl⟩)) ?_
  refine gm_go.ru (gm_iload_n dX10_execute_82 rfl) ?_
  refine gm_go.ru (gm_put dX10_execute_83 (fp_X10_62 rfl) B5 (Nat.le_of_ble_eq_true rfl) (by first | exact ⟨rfl, rfl⟩ | exact trivial)) ?_
  refine gm_hp ha6 ?_
  exact gm_throwW (tf_X10_296_325 rfl) rfl dX10_execute_86 dX10_execute_89 dX10_execute_90 dX10_execute_93 dX10_execute_96 (Nat.le_of_ble_eq_true rfl) (by decide) (by decide)
set_option maxRecDepth 4000 in
theorem ct_execute {h : gm_H} {n L T : Nat} {X v : Nat → Int} {w : Nat} {s : zPS} {hs ep fc : Int} (hB : h.1[n]? = some (by_c n hs ep fc)) (hP : pg_st h (n + 110) X L w s) (hS : st_at h (n + 1) v) (hv : st_iv T v) {P : Nat → Nat → Int} {m : Nat} (hH : hi_at h (n + 19) P m) {C : Nat} (hC : (zCc X L 60 1 w (0, s.2)).1 = (C : Int)) (hT : T + L ≤ 1000) (hq : ¬ (zPp X L C 0 v (zCc X L 60 1 w (0, s.2)).2.1 (0, (zCc X L 60 1 w (0, s.2)).2.2.2)).1 < C) : ∃ h', gm_co mX10_execute 11 [.ref n] h (.inl (some (.int (zI (C : Int))))) h' ∧ h'.1[n]? = some (by_c n hs ep fc) ∧ pg_st h' (n + 110) X 0 (zPp X L C 0 v (zCc X L 60 1 w (0, s.2)).2.1 (0, (zCc X L 60 1 w (0, s.2)).2.2.2)).2.2.1 (zPp X L C 0 v (zCc X L 60 1 w (0, s.2)).2.1 (0, (zCc X L 60 1 w (0, s.2)).2.2.2)).2.2.2 ∧ st_at h' (n + 1) (zPp X L C 0 v (zCc X L 60 1 w (0, s.2)).2.1 (0, (zCc X L 60 1 w (0, s.2)).2.2.2)).2.1 ∧ st_iv (T + L) (zPp X L C 0 v (zCc X L 60 1 w (0, s.2)).2.1 (0, (zCc X L 60 1 w (0, s.2)).2.2.2)).2.1 ∧ hi_at h' (n + 19) (zPush P m v) (min (m + 1) 8) ∧ gh_fr h h' (ex_K n) := by
  obtain ⟨p1, p2, p3, pL, pp, pX, pk⟩ := id hP
  have h7 := hv.2.2.2.1.2
  obtain ⟨a1, c1, c2, c3⟩ := ct_countCommands hP
  have B1 := gh_at c3 hB (fun z => by have := z.1; omega)
  have S1 := st_fr c3 (fun k hk z => by have := hk.2; have := z.1; omega) hS
  have H1 := hi_fr c3 (fun k hk z => by have := hk.2; have := z.1; omega) hH
  have cl := zCc_le (X := X) (L := L) 60 1 w (0, s.2) (by rw [hC]; omega)
  rw [hC] at c1 cl
  simp only at cl
  obtain ⟨f9, R9, ⟨u1, u2, u3, u4, u5⟩, u6⟩ := id H1
  obtain ⟨a2, d1, d2, d3⟩ := ct_prepare H1 S1 h7 (by omega)
  have B2 := gh_at d3 B1 (fun z => by have := z.1; omega)
  have S2 := st_fr d3 (fun k hk z => by have := hk.2; have := z.1; omega) S1
  have P2 := pg_fr d3 (fun k hk z => by have := hk.1; have := z.2; omega) c2
  obtain ⟨a3, e1, e2, e3, e4, e5⟩ := ct_performProgram B2 P2 S2 hv (C := C) (by omega) (by omega)
  have ple := zPp_le (X := X) (L := L) C 0 v (zCc X L 60 1 w (0, s.2)).2.1 (0, (zCc X L 60 1 w (0, s.2)).2.2.2)
  have B3 := gh_at e5 B2 (fun z => by rcases z with z | z <;> (have := z.1; omega))
  have H3 := hi_prfr e5 (fun k hk z => by rcases z with z | z <;> (have := z.1; have := z.2; have := hk.1; have := hk.2; omega)) d2
  obtain ⟨g1, g2⟩ := id e2
  obtain ⟨a4, i1, i2, i3⟩ := ct_pgEmpty e2
  have B4 := gh_at i3 B3 (fun z => by have := z.1; omega)
  have S4 := st_fr i3 (fun k hk z => by have := hk.2; have := z.1; omega) e3
  have H4 := hi_prfr i3 (fun k hk z => by have := hk.2; have := z.1; omega) H3
  obtain ⟨f8, R8, ⟨y1, y2, y3, y4, y5⟩, y6⟩ := id H4
  have FF : gh_fr h a4 (ex_K n) := gh_tr (gh_mono c3 fun k z => Or.inr (Or.inr (Or.inr z))) (gh_tr (gh_mono d3 fun k z => Or.inr (Or.inr (Or.inl z))) (gh_tr (gh_mono e5 fun k z => z.elim (fun z => Or.inr (Or.inl z)) (fun z => Or.inr (Or.inr (Or.inr z)))) (gh_mono i3 fun k z => Or.inr (Or.inr (Or.inr z)))))
  obtain ⟨a5, k1, k2, k3⟩ := ct_keepPrepared H4
  have B5 := gh_at k3 B4 (fun z => by have := z.1; omega)
  have P5 := pg_fr k3 (fun k hk z => by have := hk.1; have := z.2; omega) i2
  have S5 := st_fr k3 (fun k hk z => by have := hk.2; have := z.1; omega) S4
  refine ⟨a5, ?_, B5, P5, S5, st_upx e4 (by omega) (by omega), k2, gh_tr FF (gh_mono k3 fun k z => Or.inr (Or.inr (Or.inl z)))⟩
  refine gm_co_of _ (by decide +kernel) rfl (Nat.le_of_ble_eq_true rfl) rfl ?_
  refine gm_go.ru (gm_aload_n dX10_execute_0 rfl (by first | exact Or.inl ⟨_, rfl⟩ | exact Or.inr ⟨_, rfl⟩)) ?_
  refine gm_go.ru (gm_get dX10_execute_1 (fl_X10_54 rfl) hB rfl) ?_
  refine gm_go.ru (gm_cV dX10_execute_4 (c1) rfl mt_X7_countCommands mv_X7_countCommands (lk_X10_304 rfl) (Or.inl ⟨_, 9, _, _, _, rfl, p1, rfl⟩) rfl (Nat.le_of_ble_eq_true rfl) (by decide)) ?_
  refine gm_go.ru (gm_istore_n (ls' := [_, _, _]) dX10_execute_7 (by decide) rfl) ?_
  refine gm_go.ru (gm_iload_n dX10_execute_8 rfl) ?_
  refine gm_go.ru (gi_if_ge_t (tgt := 41) dX10_execute_9 (by decide) (by omega) (by omega)) ?_
  refine gm_go.ru (gm_aload_n dX10_execute_41 rfl (by first | exact Or.inl ⟨_, rfl⟩ | exact Or.inr ⟨_, rfl⟩)) ?_
  refine gm_go.ru (gm_get dX10_execute_42 (fl_X10_22 rfl) B1 rfl) ?_
  refine gm_go.ru (gm_aload_n dX10_execute_45 rfl (by first | exact Or.inl ⟨_, rfl⟩ | exact Or.inr ⟨_, rfl⟩)) ?_
  refine gm_go.ru (gm_get dX10_execute_46 (fl_X10_10 rfl) B1 rfl) ?_
  refine gm_go.ru (gm_cV0 dX10_execute_49 (d1) rfl mt_X2_prepare mv_X2_prepare (lk_X10_315 rfl) (Or.inl ⟨_, 4, _, _, _, rfl, u3, rfl⟩) rfl (Nat.le_of_ble_eq_true rfl) (by decide)) ?_
  refine gm_go.ru (gm_aload_n dX10_execute_52 rfl (by first | exact Or.inl ⟨_, rfl⟩ | exact Or.inr ⟨_, rfl⟩)) ?_
  refine gm_go.ru (gm_iload_n dX10_execute_53 rfl) ?_
  refine gm_go.ru (gm_cV dX10_execute_54 (e1) rfl mt_X10_performProgram mv_X10_performProgram (lk_X10_319 rfl) (Or.inl ⟨_, 11, _, _, _, rfl, B2, rfl⟩) rfl (Nat.le_of_ble_eq_true rfl) (by decide)) ?_
  refine gm_go.ru (gm_istore_n (ls' := [_, _, _]) dX10_execute_57 (by decide) rfl) ?_
  refine gm_go.ru (gm_aload_n dX10_execute_58 rfl (by first | exact Or.inl ⟨_, rfl⟩ | exact Or.inr ⟨_, rfl⟩)) ?_
  refine gm_go.ru (gm_get dX10_execute_59 (fl_X10_54 rfl) B3 rfl) ?_
  refine gm_go.ru (gm_cV0 dX10_execute_62 (i1) rfl mt_X7_empty mv_X7_empty (lk_X10_310 rfl) (Or.inl ⟨_, 9, _, _, _, rfl, g1, rfl⟩) rfl (Nat.le_of_ble_eq_true rfl) (by decide)) ?_
  refine gm_go.ru (gm_iload_n dX10_execute_65 rfl) ?_
  refine gm_go.ru (gm_iload_n dX10_execute_66 rfl) ?_
  refine gm_go.ru (gi_icmp_ge_t (tgt := 97) dX10_execute_67 (by decide) (by omega) (by omega) (by omega)) ?_
  refine gm_go.ru (gm_aload_n dX10_execute_97 rfl (by first | exact Or.inl ⟨_, rfl⟩ | exact Or.inr ⟨_, rfl⟩)) ?_
  refine gm_go.ru (gm_get dX10_execute_98 (fl_X10_22 rfl) B4 rfl) ?_
  refine gm_go.ru (gm_cV0 dX10_execute_101 (k1) rfl mt_X2_keepPrepared mv_X2_keepPrepared (lk_X10_327 rfl) (Or.inl ⟨_, 4, _, _, _, rfl, y3, rfl⟩) rfl (Nat.le_of_ble_eq_true rfl) (by decide)) ?_
  refine gm_go.ru (gm_iload_n dX10_execute_104 rfl) ?_
  exact gm_iret dX10_execute_105 rfl
