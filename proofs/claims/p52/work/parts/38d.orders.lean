set_option maxRecDepth 4000 in
theorem ct_bestFrom {h : gm_H} {r T : Nat} {v : Nat → Int} (hN : ov_at h r v) (hv : ov_iv T v) : ∀ (zm S dp : Nat) (l b : Int), zOk v S → zn S ≤ zm → dp + zn S ≤ 7 → (0 ≤ l ∧ l ≤ 600000 * (dp : Int)) → (0 ≤ b ∧ b ≤ 2147483647) → gm_co mX4_bestFrom (zm + 2) [.ref r, .int (zI S), .int (zI (zSt v S)), .int (zI l), .int (zI b), .int (zI (dp : Nat))] h (.inl (some (.int (zI (min b (l + zL' v S)))))) h := by
  intro zm
  induction zm with
  | zero =>
    intro S dp l b hok hm hdp hl hb
    obtain ⟨h1, I, M, D, W, h2, h3, h4, h5, h6⟩ := id hN
    have hst := zSt_r hv S
    have hLb := zL'_b hv hok
    obtain ⟨cn, hc, hc7⟩ := ov_cnt hv
    have hz8 : zn S ≤ 8 := zK_le _ 8
    have hS : S < 128 := hok.1
    refine gm_co_of _ (by decide +kernel) rfl (Nat.le_of_ble_eq_true rfl) rfl ?_
    by_cases c1 : b ≤ l
    ·
      rw [show min b (l + zL' v S) = b by omega]
      refine gm_go.ru (gm_iload_n dX4_bestFrom_0 rfl) ?_
      refine gm_go.ru (gm_iload dX4_bestFrom_1 rfl) ?_
      refine gm_go.ru (gi_icmp_ge_t (tgt := 13) dX4_bestFrom_3 (by decide) (by omega) (by omega) c1) ?_
      refine gm_go.ru (gm_iload dX4_bestFrom_13 rfl) ?_
      exact gm_iret dX4_bestFrom_15 rfl
    ·
      by_cases c2 : S = 0
      ·
        subst c2
        rw [show min b (l + zL' v 0) = l by rw [zL'_0]; omega]
        refine gm_go.ru (gm_iload_n dX4_bestFrom_0 rfl) ?_
        refine gm_go.ru (gm_iload dX4_bestFrom_1 rfl) ?_
        refine gm_go.ru (gi_icmp_ge_f 13 dX4_bestFrom_3 (by decide) (by omega) (by omega) c1) ?_
        refine gm_go.ru (gm_iload dX4_bestFrom_6 rfl) ?_
        refine gm_go.ru (gi_bipush dX4_bestFrom_8 (by decide +kernel)) ?_
        refine gm_go.ru (gi_icmp_le_t (tgt := 16) dX4_bestFrom_10 (by decide) (by omega) (by omega) (by omega)) ?_
        refine gm_go.ru (gm_iload_n dX4_bestFrom_16 rfl) ?_
        refine gm_go.ru (gi_if_ne_f 22 dX4_bestFrom_17 (by decide) (by decide) rfl) ?_
        refine gm_go.ru (gm_iload_n dX4_bestFrom_20 rfl) ?_
        exact gm_iret dX4_bestFrom_21 rfl
      ·
        have hzn : zn S ≠ 0 := fun e => c2 ((zn_0 S (by omega)).mp e)
        omega
  | succ zm ih =>
    intro S dp l b hok hm hdp hl hb
    obtain ⟨h1, I, M, D, W, h2, h3, h4, h5, h6⟩ := id hN
    have hst := zSt_r hv S
    have hLb := zL'_b hv hok
    obtain ⟨cn, hc, hc7⟩ := ov_cnt hv
    have hz8 : zn S ≤ 8 := zK_le _ 8
    have hS : S < 128 := hok.1
    refine gm_co_of _ (by decide +kernel) rfl (Nat.le_of_ble_eq_true rfl) rfl ?_
    by_cases c1 : b ≤ l
    ·
      rw [show min b (l + zL' v S) = b by omega]
      refine gm_go.ru (gm_iload_n dX4_bestFrom_0 rfl) ?_
      refine gm_go.ru (gm_iload dX4_bestFrom_1 rfl) ?_
      refine gm_go.ru (gi_icmp_ge_t (tgt := 13) dX4_bestFrom_3 (by decide) (by omega) (by omega) c1) ?_
      refine gm_go.ru (gm_iload dX4_bestFrom_13 rfl) ?_
      exact gm_iret dX4_bestFrom_15 rfl
    ·
      by_cases c2 : S = 0
      ·
        subst c2
        rw [show min b (l + zL' v 0) = l by rw [zL'_0]; omega]
        refine gm_go.ru (gm_iload_n dX4_bestFrom_0 rfl) ?_
        refine gm_go.ru (gm_iload dX4_bestFrom_1 rfl) ?_
        refine gm_go.ru (gi_icmp_ge_f 13 dX4_bestFrom_3 (by decide) (by omega) (by omega) c1) ?_
        refine gm_go.ru (gm_iload dX4_bestFrom_6 rfl) ?_
        refine gm_go.ru (gi_bipush dX4_bestFrom_8 (by decide +kernel)) ?_
        refine gm_go.ru (gi_icmp_le_t (tgt := 16) dX4_bestFrom_10 (by decide) (by omega) (by omega) (by omega)) ?_
        refine gm_go.ru (gm_iload_n dX4_bestFrom_16 rfl) ?_
        refine gm_go.ru (gi_if_ne_f 22 dX4_bestFrom_17 (by decide) (by decide) rfl) ?_
        refine gm_go.ru (gm_iload_n dX4_bestFrom_20 rfl) ?_
        exact gm_iret dX4_bestFrom_21 rfl
      ·
        have hzn : zn S ≠ 0 := fun e => c2 ((zn_0 S (by omega)).mp e)
        have eL := zL'_s (v := v) (S := S) (by omega) c2 (by omega)
        rw [hc, Int.toNat_natCast] at eL
        have esh := zFm_sh (g := zLg' v (zL' v) S) (l := l) (b := b) (by omega) cn
        rw [← eL] at esh
        generalize hg9 : (fun k => (zLg' v (zL' v) S k).map (l + ·)) = g9 at esh
        have hg8 : ∀ k, g9 k = if S.testBit k then some (l + (zLt v k (zSt v S) + zL' v (zC S k))) else none := fun k => by rw [← hg9]; show (zLg' v (zL' v) S k).map (l + ·) = _; unfold zLg'; split <;> rfl
        have hgr : ∀ k, k ≤ cn → 0 ≤ zFm g9 b k ∧ zFm g9 b k ≤ 2147483647 := fun k hk => by
          have g1 := zFm_a (g := g9) (a := b) k
          have g2 : 0 ≤ zFm g9 b k := zFm_ge (by omega) (fun i hi c hc' => by
            rw [hg8] at hc'
            by_cases hbi : S.testBit i = true
            · rw [if_pos hbi] at hc'
              have g3 := zLt_r hv (hok.2 i (by omega) hbi) hst
              have g4 := zL'_b hv (zOk_C hok (show i < 8 by omega))
              have := Option.some.inj hc'
              omega
            · rw [if_neg hbi] at hc'; cases hc')
          omega
        have key : ∀ (m j : Nat) (x y : Option Value), j + m = cn → gm_ru mX4_bestFrom (zm + 1 + 2) (29, [some (.ref r), some (.int (zI S)), some (.int (zI (zSt v S))), some (.int (zI l)), some (.int (zI b)), some (.int (zI (dp : Nat))), some (.int (zI (zFm g9 b j))), some (.int (zI j)), x, y], [], h) (.inl (some (.int (zI (min b (l + zL' v S)))))) h := by
          intro m
          induction m with
          | zero =>
            intro j x y hj
            obtain rfl : j = cn := by omega
            rw [← esh]
            rw [hc] at h1
            refine gm_go.ru (gm_iload dX4_bestFrom_29 rfl) ?_
            refine gm_go.ru (gm_aload_n dX4_bestFrom_31 rfl (by first | exact Or.inl ⟨_, rfl⟩ | exact Or.inr ⟨_, rfl⟩)) ?_
            refine gm_go.ru (gm_get dX4_bestFrom_32 (fl_X4_15 rfl) h1 rfl) ?_
            refine gm_go.ru (gi_icmp_ge_t (tgt := 99) dX4_bestFrom_35 (by decide) (by omega) (by omega) (by omega)) ?_
            refine gm_go.ru (gm_iload dX4_bestFrom_99 rfl) ?_
            exact gm_iret dX4_bestFrom_101 rfl
          | succ m ih' =>
            intro j x y hj
            have e := fun x y => ih' (j + 1) x y (by omega)
            rw [hc] at h1
            have hgj := hgr j (by omega)
            refine gm_go.ru (gm_iload dX4_bestFrom_29 rfl) ?_
            refine gm_go.ru (gm_aload_n dX4_bestFrom_31 rfl (by first | exact Or.inl ⟨_, rfl⟩ | exact Or.inr ⟨_, rfl⟩)) ?_
            refine gm_go.ru (gm_get dX4_bestFrom_32 (fl_X4_15 rfl) h1 rfl) ?_
            refine gm_go.ru (gi_icmp_ge_f 99 dX4_bestFrom_35 (by decide) (by omega) (by omega) (by omega)) ?_
            refine gm_go.ru (gm_iload_n dX4_bestFrom_38 rfl) ?_
            refine gm_go.ru (gm_iload dX4_bestFrom_39 rfl) ?_
            refine gm_go.ru (gm_cS dX4_bestFrom_41 (ct_holds (by omega) (by omega)) rfl mt_X10_holds ms_X10_holds (lk_X4_29 rfl) rfl (Nat.le_of_ble_eq_true rfl) (by omega)) ?_
            cases hbj : S.testBit j
            ·
              rw [zFm_n (by rw [hg8, hbj]; rfl)] at e
              refine gm_go.ru (gi_if_eq_t (tgt := 93) dX4_bestFrom_44 (by decide) (by decide) rfl) ?_
              refine gm_go.ru (gi_iinc (ls' := [_, _, _, _, _, _, _, _, _, _]) dX4_bestFrom_93 rfl (by decide) rfl) ?_
              refine gm_go.ru (gm_goto (tgt := 29) dX4_bestFrom_96 (by decide)) ?_
              exact e _ _
            ·
              rw [zFm_s (c := l + (zLt v j (zSt v S) + zL' v (zC S j))) (by rw [hg8, hbj]; rfl)] at e
              have j4 := hok.2 j (by omega) hbj
              have hlt := zLt_r hv j4 hst
              have hzc := zn_r (show S < 256 by omega) (show j < 8 by omega) hbj
              have hlc := zC_lt S (by omega) j (by omega)
              have ej := (h6 j j4).2.1
              have eS := zSt_C (v := v) (show S < 256 by omega) (show j < 8 by omega) hbj j4 (by omega)
              have hrec := ih (zC S j) (dp + 1) (l + zLt v j (zSt v S)) (zFm g9 b j) (zOk_C hok (by omega)) (by omega) (by omega) (by omega) hgj
              rw [eS] at hrec
              refine gm_go.ru (gi_if_eq_f 93 dX4_bestFrom_44 (by decide) (by decide) (by decide)) ?_
              refine gm_go.ru (gm_iload_n dX4_bestFrom_47 rfl) ?_
              refine gm_go.ru (gm_aload_n dX4_bestFrom_48 rfl (by first | exact Or.inl ⟨_, rfl⟩ | exact Or.inr ⟨_, rfl⟩)) ?_
              refine gm_go.ru (gm_iload dX4_bestFrom_49 rfl) ?_
              refine gm_go.ru (gm_iload_n dX4_bestFrom_51 rfl) ?_
              refine gm_go.ru (gm_cV dX4_bestFrom_52 (ct_latenessFrom hN hv j4 ⟨by omega, by omega⟩) rfl mt_X5_latenessFrom mv_X5_latenessFrom (lk_X4_43 rfl) (Or.inl ⟨_, 7, _, _, _, rfl, h1, rfl⟩) rfl (Nat.le_of_ble_eq_true rfl) (by omega)) ?_
              refine gm_go.ru (gi_add dX4_bestFrom_55) ?_
              refine gm_go.ru (gm_istore (ls' := [_, _, _, _, _, _, _, _, _, _]) dX4_bestFrom_56 (by decide) rfl) ?_
              refine gm_go.ru (gm_iload_n dX4_bestFrom_58 rfl) ?_
              refine gm_go.ru (gm_aload_n dX4_bestFrom_59 rfl (by first | exact Or.inl ⟨_, rfl⟩ | exact Or.inr ⟨_, rfl⟩)) ?_
              refine gm_go.ru (gm_get dX4_bestFrom_60 (fl_X4_46 rfl) h1 rfl) ?_
              refine gm_go.ru (gm_iload dX4_bestFrom_63 rfl) ?_
              refine gm_go.ru (gi_ald dX4_bestFrom_65 h3 (by omega) (by omega) (by decide)) ?_
              rw [Int.toNat_natCast, ej]
              refine gm_go.ru (gi_add dX4_bestFrom_66) ?_
              refine gm_go.ru (gm_istore (ls' := [_, _, _, _, _, _, _, _, _, _]) dX4_bestFrom_67 (by decide) rfl) ?_
              refine gm_go.ru (gm_aload_n dX4_bestFrom_69 rfl (by first | exact Or.inl ⟨_, rfl⟩ | exact Or.inr ⟨_, rfl⟩)) ?_
              refine gm_go.ru (gm_iload_n dX4_bestFrom_70 rfl) ?_
              refine gm_go.ru (gi_const dX4_bestFrom_71) ?_
              refine gm_go.ru (gm_iload dX4_bestFrom_72 rfl) ?_
              refine gm_go.ru (gi_shl1 dX4_bestFrom_74 (by omega)) ?_
              refine gm_go.ru (gi_const dX4_bestFrom_75) ?_
              refine gm_go.ru (gi_not dX4_bestFrom_76) ?_
              refine gm_go.ru (gi_clr dX4_bestFrom_77 (by omega) (by omega)) ?_
              refine gm_go.ru (gm_iload dX4_bestFrom_78 rfl) ?_
              refine gm_go.ru (gm_iload dX4_bestFrom_80 rfl) ?_
              refine gm_go.ru (gm_iload dX4_bestFrom_82 rfl) ?_
              refine gm_go.ru (gm_iload dX4_bestFrom_84 rfl) ?_
              refine gm_go.ru (gi_const dX4_bestFrom_86) ?_
              refine gm_go.ru (gi_add dX4_bestFrom_87) ?_
              rw [show (dp : Int) + 1 = ((dp + 1 : Nat) : Int) by omega]
              refine gm_go.ru (gm_cS dX4_bestFrom_88 (hrec) rfl mt_X4_bestFrom ms_X4_bestFrom (lk_X4_53 rfl) rfl (Nat.le_of_ble_eq_true rfl) (by omega)) ?_
              refine gm_go.ru (gm_istore (ls' := [_, _, _, _, _, _, _, _, _, _]) dX4_bestFrom_91 (by decide) rfl) ?_
              refine gm_go.ru (gi_iinc (ls' := [_, _, _, _, _, _, _, _, _, _]) dX4_bestFrom_93 rfl (by decide) rfl) ?_
              refine gm_go.ru (gm_goto (tgt := 29) dX4_bestFrom_96 (by decide)) ?_
              rw [show min (zFm g9 b j) (l + zLt v j (zSt v S) + zL' v (zC S j)) = min (zFm g9 b j) (l + (zLt v j (zSt v S) + zL' v (zC S j))) by omega]
              exact e _ _
        refine gm_go.ru (gm_iload_n dX4_bestFrom_0 rfl) ?_
        refine gm_go.ru (gm_iload dX4_bestFrom_1 rfl) ?_
        refine gm_go.ru (gi_icmp_ge_f 13 dX4_bestFrom_3 (by decide) (by omega) (by omega) c1) ?_
        refine gm_go.ru (gm_iload dX4_bestFrom_6 rfl) ?_
        refine gm_go.ru (gi_bipush dX4_bestFrom_8 (by decide +kernel)) ?_
        refine gm_go.ru (gi_icmp_le_t (tgt := 16) dX4_bestFrom_10 (by decide) (by omega) (by omega) (by omega)) ?_
        refine gm_go.ru (gm_iload_n dX4_bestFrom_16 rfl) ?_
        refine gm_go.ru (gi_if_ne_t (tgt := 22) dX4_bestFrom_17 (by decide) (by omega) (by omega)) ?_
        refine gm_go.ru (gm_iload dX4_bestFrom_22 rfl) ?_
        refine gm_go.ru (gm_istore (ls' := [_, _, _, _, _, _, _, _, _, _]) dX4_bestFrom_24 (by decide) rfl) ?_
        refine gm_go.ru (gi_const dX4_bestFrom_26) ?_
        refine gm_go.ru (gm_istore (ls' := [_, _, _, _, _, _, _, _, _, _]) dX4_bestFrom_27 (by decide) rfl) ?_
        exact key cn 0 _ _ (by omega)
