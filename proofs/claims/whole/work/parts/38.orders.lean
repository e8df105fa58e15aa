/-! Orders: its two cells -/
def or_at (h : gm_H) (q : Nat) (F : Nat → Int) : Prop := h.1[q]? = some (.inr (6, [.ref (q + 1)])) ∧ h.1[q + 1]? = some (gA 128 F)
theorem or_fr {h h' : gm_H} {K : Nat → Prop} {q : Nat} {F : Nat → Int} (f : gh_fr h h' K) (h0 : ¬ K q) (h1 : ¬ K (q + 1)) (hN : or_at h q F) : or_at h' q F := ⟨gh_at f hN.1 h0, gh_at f hN.2 h1⟩
set_option maxRecDepth 4000 in
theorem ct_minutesOf {h : gm_H} {r T : Nat} {v : Nat → Int} (hN : ov_at h r v) (hv : ov_iv T v) {S : Nat} (hS : S < 256) : gm_co mX4_minutesOf 2 [.ref r, .int (zI S)] h (.inl (some (.int (zI (zMi v S (v 4).toNat))))) h := by
  refine gm_co_of _ (by decide +kernel) rfl (Nat.le_of_ble_eq_true rfl) rfl ?_
  obtain ⟨cn, hc, hc7⟩ := ov_cnt hv
  obtain ⟨h1, I, M, D, W, h2, h3, h4, h5, h6⟩ := id hN
  obtain ⟨q2, q3, q4, q5, q6, q7, q8, qT, qB⟩ := id hv
  have key : ∀ (m j : Nat), j + m = cn → gm_ru mX4_minutesOf 2 (4, [some (.ref r), some (.int (zI S)), some (.int (zI (zMi v S j))), some (.int (zI j))], [], h) (.inl (some (.int (zI (zMi v S cn))))) h := by
    intro m
    induction m with
    | zero =>
      intro j hj
      obtain rfl : j = cn := by omega
      refine gm_go.ru (gm_iload_n dX4_minutesOf_4 rfl) ?_
      refine gm_go.ru (gm_aload_n dX4_minutesOf_5 rfl (by first | exact Or.inl ⟨_, rfl⟩ | exact Or.inr ⟨_, rfl⟩)) ?_
      refine gm_go.ru (gm_get dX4_minutesOf_6 (fl_X4_15 rfl) h1 rfl) ?_
      refine gm_go.ru (gi_icmp_ge_t (tgt := 35) dX4_minutesOf_9 (by decide) (by omega) (by omega) (by omega)) ?_
      refine gm_go.ru (gm_iload_n dX4_minutesOf_35 rfl) ?_
      exact gm_iret dX4_minutesOf_36 rfl
    | succ m ih =>
      intro j hj
      have e := ih (j + 1) (by omega)
      rw [zMi] at e
      have ej := (h6 j (by omega)).2.1
      refine gm_go.ru (gm_iload_n dX4_minutesOf_4 rfl) ?_
      refine gm_go.ru (gm_aload_n dX4_minutesOf_5 rfl (by first | exact Or.inl ⟨_, rfl⟩ | exact Or.inr ⟨_, rfl⟩)) ?_
      refine gm_go.ru (gm_get dX4_minutesOf_6 (fl_X4_15 rfl) h1 rfl) ?_
      refine gm_go.ru (gi_icmp_ge_f 35 dX4_minutesOf_9 (by decide) (by omega) (by omega) (by omega)) ?_
      refine gm_go.ru (gm_iload_n dX4_minutesOf_12 rfl) ?_
      refine gm_go.ru (gm_iload_n dX4_minutesOf_13 rfl) ?_
      refine gm_go.ru (gm_cS dX4_minutesOf_14 (ct_holds (by omega) (by omega)) rfl mt_X10_holds ms_X10_holds (lk_X4_31 rfl) rfl (Nat.le_of_ble_eq_true rfl) (by decide)) ?_
      cases hb : S.testBit j
      ·
        rw [hb, if_neg (by decide), Int.add_zero] at e
        refine gm_go.ru (gi_if_eq_t (tgt := 29) dX4_minutesOf_17 (by decide) (by decide) rfl) ?_
        refine gm_go.ru (gi_iinc (ls' := [_, _, _, _]) dX4_minutesOf_29 rfl (by decide) rfl) ?_
        refine gm_go.ru (gm_goto (tgt := 4) dX4_minutesOf_32 (by decide)) ?_
        exact e
      ·
        rw [hb, if_pos rfl] at e
        refine gm_go.ru (gi_if_eq_f 29 dX4_minutesOf_17 (by decide) (by decide) (by decide)) ?_
        refine gm_go.ru (gm_iload_n dX4_minutesOf_20 rfl) ?_
        refine gm_go.ru (gm_aload_n dX4_minutesOf_21 rfl (by first | exact Or.inl ⟨_, rfl⟩ | exact Or.inr ⟨_, rfl⟩)) ?_
        refine gm_go.ru (gm_get dX4_minutesOf_22 (fl_X4_48 rfl) h1 rfl) ?_
        refine gm_go.ru (gm_iload_n dX4_minutesOf_25 rfl) ?_
        refine gm_go.ru (gi_ald dX4_minutesOf_26 h3 (by omega) (by omega) (by decide)) ?_
        rw [Int.toNat_natCast, ej]
        refine gm_go.ru (gi_add dX4_minutesOf_27) ?_
        refine gm_go.ru (gm_istore_n (ls' := [_, _, _, _]) dX4_minutesOf_28 (by decide) rfl) ?_
        refine gm_go.ru (gi_iinc (ls' := [_, _, _, _]) dX4_minutesOf_29 rfl (by decide) rfl) ?_
        refine gm_go.ru (gm_goto (tgt := 4) dX4_minutesOf_32 (by decide)) ?_
        exact e
  refine gm_go.ru (gi_const dX4_minutesOf_0) ?_
  refine gm_go.ru (gm_istore_n (ls' := [_, _, _, _]) dX4_minutesOf_1 (by decide) rfl) ?_
  refine gm_go.ru (gi_const dX4_minutesOf_2) ?_
  refine gm_go.ru (gm_istore_n (ls' := [_, _, _, _]) dX4_minutesOf_3 (by decide) rfl) ?_
  rw [hc, Int.toNat_natCast]
  exact key cn 0 (by omega)
set_option maxRecDepth 4000 in
theorem ct_beginningWith {h : gm_H} {r T : Nat} {v : Nat → Int} (hN : ov_at h r v) (hv : ov_iv T v) {q : Nat} {F : Nat → Int} (hO : or_at h q F) {S b : Nat} {s : Int} (hS : S < 128) (hb : b < 8) (hb4 : (b : Int) < v 4) (hs : 0 ≤ s ∧ s ≤ 1000000) : gm_co mX4_beginningWith 2 [.ref q, .ref r, .int (zI S), .int (zI b), .int (zI s)] h (.inl (some (.int (zI (zLt v b s + F (zC S b)))))) h := by
  refine gm_co_of _ (by decide +kernel) rfl (Nat.le_of_ble_eq_true rfl) rfl ?_
  obtain ⟨h1, I, M, D, W, h2, h3, h4, h5, h6⟩ := id hN
  obtain ⟨p1, p2⟩ := id hO
  have hl := zC_lt S (by omega) b hb
  refine gm_go.ru (gm_aload_n dX4_beginningWith_0 rfl (by first | exact Or.inl ⟨_, rfl⟩ | exact Or.inr ⟨_, rfl⟩)) ?_
  refine gm_go.ru (gm_iload_n dX4_beginningWith_1 rfl) ?_
  refine gm_go.ru (gm_iload dX4_beginningWith_2 rfl) ?_
  refine gm_go.ru (gm_cV dX4_beginningWith_4 (ct_latenessFrom hN hv hb4 hs) rfl mt_X5_latenessFrom mv_X5_latenessFrom (lk_X4_45 rfl) (Or.inl ⟨_, 7, _, _, _, rfl, h1, rfl⟩) rfl (Nat.le_of_ble_eq_true rfl) (by decide)) ?_
  refine gm_go.ru (gm_aload_n dX4_beginningWith_7 rfl (by first | exact Or.inl ⟨_, rfl⟩ | exact Or.inr ⟨_, rfl⟩)) ?_
  refine gm_go.ru (gm_get dX4_beginningWith_8 (fl_X4_9 rfl) p1 rfl) ?_
  refine gm_go.ru (gm_iload_n dX4_beginningWith_11 rfl) ?_
  refine gm_go.ru (gi_const dX4_beginningWith_12) ?_
  refine gm_go.ru (gm_iload_n dX4_beginningWith_13 rfl) ?_
  refine gm_go.ru (gi_shl1 dX4_beginningWith_14 (by omega)) ?_
  refine gm_go.ru (gi_const dX4_beginningWith_15) ?_
  refine gm_go.ru (gi_not dX4_beginningWith_16) ?_
  refine gm_go.ru (gi_clr dX4_beginningWith_17 (by omega) hb) ?_
  refine gm_go.ru (gi_ald dX4_beginningWith_18 p2 (by omega) (by omega) (by decide)) ?_
  refine gm_go.ru (gi_add dX4_beginningWith_19) ?_
  exact gm_iret dX4_beginningWith_20 rfl
set_option maxRecDepth 4000 in
theorem ct_orLeastBySets {h : gm_H} {r T : Nat} {v : Nat → Int} (hN : ov_at h r v) (hv : ov_iv T v) {q : Nat} {F : Nat → Int} (hO : or_at h q F) (hd : r + 5 ≤ q ∨ q + 2 ≤ r) : ∃ h' F', gm_co mX4_leastBySets 3 [.ref q, .ref r] h (.inl (some (.int (zI (zL' v (zAl v)))))) h' ∧ or_at h' q F' ∧ (∀ R, R ≤ zAl v → F' R = zL' v R) ∧ gh_fr h h' (fun k => k = q + 1) := by
  obtain ⟨cn, hc, hc7⟩ := ov_cnt hv
  have hal := zAl_lt (v := v) (by omega)
  obtain ⟨f', hgo, q9, F', x, y, z, rfl, hN', hO', hF', hfr⟩ := gl_up (M := mX4_leastBySets) (d := 3) (fun j f => ∃ q9 F x y z, f = (30, [some (.ref q), some (.ref r), some (.int (zI (zAl v : Nat))), some (.int (zI (v 2 + zMi v (zAl v) cn))), some (.int (zI ((j + 1 : Nat) : Int))), x, y, z], [], q9) ∧ ov_at q9 r v ∧ or_at q9 q F ∧ (∀ R, R < j + 1 → F R = zL' v R) ∧ gh_fr h q9 (fun k => k = q + 1)) (zAl v) (by
    rintro j f hj ⟨q9, F, x, y, z, rfl, hN, hO, hF, hfr⟩
    obtain ⟨h1, I, M, D, W, h2, h3, h4, h5, h6⟩ := id hN
    obtain ⟨p1, p2⟩ := id hO
    rw [hc] at h1
    have hok := zOk_al (v := v) (by omega) (S := j + 1) hj
    have hsr := zSt_r hv (j + 1)
    have hLb := zL'_b hv hok
    have hS : j + 1 < 128 := hok.1
    have eL := zL'_s (v := v) (S := j + 1) (by omega) (by omega) (by omega)
    rw [hc, Int.toNat_natCast] at eL
    have hcand : ∀ k, k < cn → (j + 1).testBit k = true → zLt v k (zSt v (j + 1)) + F (zC (j + 1) k) = zLt v k (zSt v (j + 1)) + zL' v (zC (j + 1) k) ∧ 0 ≤ zLt v k (zSt v (j + 1)) + zL' v (zC (j + 1) k) ∧ zLt v k (zSt v (j + 1)) + zL' v (zC (j + 1) k) ≤ 100000000 := fun k hk hb => by
      have g1 := (zC_lt (j + 1) (by omega) k (by omega)).2 hb
      have g2 := zL'_b hv (zOk_C hok (show k < 8 by omega))
      have g3 := zLt_r hv (k := k) (by omega) hsr
      rw [hF _ g1]; omega
    have inn : ∀ (m k : Nat) (y z : Option Value), k + m = cn → zR (zFm (zLg' v (zL' v) (j + 1)) 2147483647 k) → ∃ z', gm_go mX4_leastBySets 3 (53, [some (.ref q), some (.ref r), some (.int (zI (zAl v : Nat))), some (.int (zI (v 2 + zMi v (zAl v) cn))), some (.int (zI ((j + 1 : Nat) : Int))), some (.int (zI (zSt v (j + 1)))), some (.int (zI (zFm (zLg' v (zL' v) (j + 1)) 2147483647 k))), some (.int (zI k))], [], q9) (96, [some (.ref q), some (.ref r), some (.int (zI (zAl v : Nat))), some (.int (zI (v 2 + zMi v (zAl v) cn))), some (.int (zI ((j + 1 : Nat) : Int))), some (.int (zI (zSt v (j + 1)))), some (.int (zI (zL' v (j + 1)))), z'], [], q9) := by
      intro m
      induction m with
      | zero =>
        intro k y z hk hr
        obtain rfl : k = cn := by omega
        refine ⟨_, ?_⟩
        rw [eL]
        refine gm_go_tr (gm_iload dX4_leastBySets_53 rfl) ?_
        refine gm_go_tr (gm_aload_n dX4_leastBySets_55 rfl (by first | exact Or.inl ⟨_, rfl⟩ | exact Or.inr ⟨_, rfl⟩)) ?_
        refine gm_go_tr (gm_get dX4_leastBySets_56 (fl_X4_15 rfl) h1 rfl) ?_
        refine gm_go_tr (gi_icmp_ge_t (tgt := 96) dX4_leastBySets_59 (by decide) (by omega) (by omega) (by omega)) ?_
        exact gm_go_rf
      | succ m ih =>
        intro k y z hk hr
        have hcr := hcand k (by omega)
        cases hb : (j + 1).testBit k
        ·
          have e := ih (k + 1) y z (by omega)
          rw [zFm_n (by unfold zLg'; rw [hb]; rfl)] at e
          obtain ⟨z', e⟩ := e hr
          refine ⟨z', ?_⟩
          refine gm_go_tr (gm_iload dX4_leastBySets_53 rfl) ?_
          refine gm_go_tr (gm_aload_n dX4_leastBySets_55 rfl (by first | exact Or.inl ⟨_, rfl⟩ | exact Or.inr ⟨_, rfl⟩)) ?_
          refine gm_go_tr (gm_get dX4_leastBySets_56 (fl_X4_15 rfl) h1 rfl) ?_
          refine gm_go_tr (gi_icmp_ge_f 96 dX4_leastBySets_59 (by decide) (by omega) (by omega) (by omega)) ?_
          refine gm_go_tr (gm_iload dX4_leastBySets_62 rfl) ?_
          refine gm_go_tr (gm_iload dX4_leastBySets_64 rfl) ?_
          refine gm_go_tr (gm_cS dX4_leastBySets_66 (ct_holds (by omega) (by omega)) rfl mt_X10_holds ms_X10_holds (lk_X4_31 rfl) rfl (Nat.le_of_ble_eq_true rfl) (by decide)) ?_
          rw [hb]
          refine gm_go_tr (gi_if_eq_t (tgt := 90) dX4_leastBySets_69 (by decide) (by decide) rfl) ?_
          refine gm_go_tr (gi_iinc (ls' := [_, _, _, _, _, _, _, _]) dX4_leastBySets_90 rfl (by decide) rfl) ?_
          refine gm_go_tr (gm_goto (tgt := 53) dX4_leastBySets_93 (by decide)) ?_
          exact e
        ·
          obtain ⟨c1, c2, c3⟩ := hcr hb
          have e := ih (k + 1) y z (by omega)
          rw [zFm_s (c := zLt v k (zSt v (j + 1)) + zL' v (zC (j + 1) k)) (by unfold zLg'; rw [hb]; rfl)] at e
          obtain ⟨z', e⟩ := e (by omega)
          refine ⟨z', ?_⟩
          refine gm_go_tr (gm_iload dX4_leastBySets_53 rfl) ?_
          refine gm_go_tr (gm_aload_n dX4_leastBySets_55 rfl (by first | exact Or.inl ⟨_, rfl⟩ | exact Or.inr ⟨_, rfl⟩)) ?_
          refine gm_go_tr (gm_get dX4_leastBySets_56 (fl_X4_15 rfl) h1 rfl) ?_
          refine gm_go_tr (gi_icmp_ge_f 96 dX4_leastBySets_59 (by decide) (by omega) (by omega) (by omega)) ?_
          refine gm_go_tr (gm_iload dX4_leastBySets_62 rfl) ?_
          refine gm_go_tr (gm_iload dX4_leastBySets_64 rfl) ?_
          refine gm_go_tr (gm_cS dX4_leastBySets_66 (ct_holds (by omega) (by omega)) rfl mt_X10_holds ms_X10_holds (lk_X4_31 rfl) rfl (Nat.le_of_ble_eq_true rfl) (by decide)) ?_
          rw [hb]
          refine gm_go_tr (gi_if_eq_f 90 dX4_leastBySets_69 (by decide) (by decide) (by decide)) ?_
          refine gm_go_tr (gm_iload dX4_leastBySets_72 rfl) ?_
          refine gm_go_tr (gm_aload_n dX4_leastBySets_74 rfl (by first | exact Or.inl ⟨_, rfl⟩ | exact Or.inr ⟨_, rfl⟩)) ?_
          refine gm_go_tr (gm_aload_n dX4_leastBySets_75 rfl (by first | exact Or.inl ⟨_, rfl⟩ | exact Or.inr ⟨_, rfl⟩)) ?_
          refine gm_go_tr (gm_iload dX4_leastBySets_76 rfl) ?_
          refine gm_go_tr (gm_iload dX4_leastBySets_78 rfl) ?_
          refine gm_go_tr (gm_iload dX4_leastBySets_80 rfl) ?_
          refine gm_go_tr (gm_cV dX4_leastBySets_82 (ct_beginningWith hN hv hO hS (by omega) (by omega) ⟨by omega, by omega⟩) rfl mt_X4_beginningWith mv_X4_beginningWith (lk_X4_35 rfl) (Or.inl ⟨_, 6, _, _, _, rfl, p1, rfl⟩) rfl (Nat.le_of_ble_eq_true rfl) (by decide)) ?_
          rw [c1]
          refine gm_go_tr (gm_cS dX4_leastBySets_85 (ct_min hr (by omega)) rfl mt_J9_min_7cf53 ms_J9_min_7cf53 (lk_X4_39 rfl) rfl (Nat.le_of_ble_eq_true rfl) (by decide)) ?_
          refine gm_go_tr (gm_istore (ls' := [_, _, _, _, _, _, _, _]) dX4_leastBySets_88 (by decide) rfl) ?_
          refine gm_go_tr (gi_iinc (ls' := [_, _, _, _, _, _, _, _]) dX4_leastBySets_90 rfl (by decide) rfl) ?_
          refine gm_go_tr (gm_goto (tgt := 53) dX4_leastBySets_93 (by decide)) ?_
          exact e
    obtain ⟨z', hin⟩ := inn cn 0 (some (.int (zI 2147483647))) (some (.int (zI 0))) (by omega) (by show zR 2147483647; omega)
    refine ⟨(30, [some (.ref q), some (.ref r), some (.int (zI (zAl v : Nat))), some (.int (zI (v 2 + zMi v (zAl v) cn))), some (.int (zI ((j + 1 + 1 : Nat) : Int))), some (.int (zI (zSt v (j + 1)))), some (.int (zI (zL' v (j + 1)))), z'], [], (q9.1.set (q + 1) (gA 128 (zU F (j + 1) (zL' v (j + 1)))), q9.2)), ?_, _, _, _, _, _, rfl, ov_fr (K := fun k => k = q + 1) (gh_set (K := fun k => k = q + 1) gh_rf rfl _) (fun k hk z => by have := hk.1; have := hk.2; omega) hN, ⟨gs_n p1 (by omega), gs_s p2⟩, fun R hR => ?_, gh_set (K := fun k => k = q + 1) hfr rfl _⟩
    ·
      have hmo := ct_minutesOf hN hv (S := j + 1) (by omega)
      rw [hc, Int.toNat_natCast] at hmo
      have hst : v 2 + zMi v (zAl v) cn - zMi v (j + 1) cn = zSt v (j + 1) := by
        have g1 := zMi_all (v := v) (A := zAl v) (S := j + 1) cn (fun k hk => by rw [zAl_b]; exact decide_eq_true (by omega))
        unfold zSt; rw [hc, Int.toNat_natCast]; omega
      refine gm_go_tr (gm_iload dX4_leastBySets_30 rfl) ?_
      refine gm_go_tr (gm_iload_n dX4_leastBySets_32 rfl) ?_
      refine gm_go_tr (gi_icmp_gt_f 111 dX4_leastBySets_33 (by decide) (by omega) (by omega) (by omega)) ?_
      refine gm_go_tr (gm_iload_n dX4_leastBySets_36 rfl) ?_
      refine gm_go_tr (gm_aload_n dX4_leastBySets_37 rfl (by first | exact Or.inl ⟨_, rfl⟩ | exact Or.inr ⟨_, rfl⟩)) ?_
      refine gm_go_tr (gm_iload dX4_leastBySets_38 rfl) ?_
      refine gm_go_tr (gm_cS dX4_leastBySets_40 (hmo) rfl mt_X4_minutesOf ms_X4_minutesOf (lk_X4_24 rfl) rfl (Nat.le_of_ble_eq_true rfl) (by decide)) ?_
      refine gm_go_tr (gi_sub dX4_leastBySets_43) ?_
      rw [hst]
      refine gm_go_tr (gm_istore (ls' := [_, _, _, _, _, _, _, _]) dX4_leastBySets_44 (by decide) rfl) ?_
      refine gm_go_tr (gm_ldci (v := zI 2147483647) dX4_leastBySets_46 (kc_X4_30 rfl)) ?_
      refine gm_go_tr (gm_istore (ls' := [_, _, _, _, _, _, _, _]) dX4_leastBySets_48 (by decide) rfl) ?_
      refine gm_go_tr (gi_const dX4_leastBySets_50) ?_
      refine gm_go_tr (gm_istore (ls' := [_, _, _, _, _, _, _, _]) dX4_leastBySets_51 (by decide) rfl) ?_
      refine gm_go_tr hin ?_
      refine gm_go_tr (gm_aload_n dX4_leastBySets_96 rfl (by first | exact Or.inl ⟨_, rfl⟩ | exact Or.inr ⟨_, rfl⟩)) ?_
      refine gm_go_tr (gm_get dX4_leastBySets_97 (fl_X4_9 rfl) p1 rfl) ?_
      refine gm_go_tr (gm_iload dX4_leastBySets_100 rfl) ?_
      refine gm_go_tr (gm_iload dX4_leastBySets_102 rfl) ?_
      refine gm_go_tr (gi_ast dX4_leastBySets_104 p2 (by omega) (by omega) (by decide)) ?_
      rw [show ((j + 1 : Nat) : Int).toNat = j + 1 by omega]
      refine gm_go_tr (gi_iinc (ls' := [_, _, _, _, _, _, _, _]) dX4_leastBySets_105 rfl (by decide) rfl) ?_
      exact gm_goto (tgt := 30) dX4_leastBySets_108 (by decide)
    · by_cases e : R = j + 1
      · rw [e, zU_s]
      · rw [zU_n e]; exact hF R (by omega)
    ) 0 (30, [some (.ref q), some (.ref r), some (.int (zI (zAl v : Nat))), some (.int (zI (v 2 + zMi v (zAl v) cn))), some (.int (zI ((0 + 1 : Nat) : Int))), none, none, none], [], (h.1.set (q + 1) (gA 128 (zU F (0 : Int).toNat 0)), h.2)) (by omega) ⟨_, _, none, none, none, rfl, ov_fr (K := fun k => k = q + 1) (gh_set (K := fun k => k = q + 1) gh_rf rfl _) (fun k hk z => by have := hk.1; have := hk.2; omega) hN, ⟨gs_n hO.1 (by omega), gs_s hO.2⟩, fun R hR => by rw [show R = 0 by omega]; exact zU_s, gh_set (K := fun k => k = q + 1) gh_rf rfl _⟩
  refine ⟨q9, F', ?_, hO', fun R hR => hF' R (by omega), hfr⟩
  obtain ⟨p1', p2'⟩ := id hO'
  obtain ⟨p1, p2⟩ := id hO
  obtain ⟨h1, h2⟩ := id hN
  have hmo := ct_minutesOf hN hv (S := zAl v) (by omega)
  rw [hc, Int.toNat_natCast] at hmo
  rw [hc] at h1
  have e1 : ((2 ^ cn : Nat) : Int) - 1 = (zAl v : Nat) := by have := Nat.two_pow_pos cn; unfold zAl; rw [hc, Int.toNat_natCast]; omega
  refine gm_co_of _ (by decide +kernel) rfl (Nat.le_of_ble_eq_true rfl) rfl ?_
  refine gm_go.ru (gi_const dX4_leastBySets_0) ?_
  refine gm_go.ru (gm_aload_n dX4_leastBySets_1 rfl (by first | exact Or.inl ⟨_, rfl⟩ | exact Or.inr ⟨_, rfl⟩)) ?_
  refine gm_go.ru (gm_get dX4_leastBySets_2 (fl_X4_15 rfl) h1 rfl) ?_
  refine gm_go.ru (gi_shl1 dX4_leastBySets_5 (by omega)) ?_
  refine gm_go.ru (gi_const dX4_leastBySets_6) ?_
  refine gm_go.ru (gi_sub dX4_leastBySets_7) ?_
  rw [e1]
  refine gm_go.ru (gm_istore_n (ls' := [_, _, _, _, _, _, _, _]) dX4_leastBySets_8 (by decide) rfl) ?_
  refine gm_go.ru (gm_aload_n dX4_leastBySets_9 rfl (by first | exact Or.inl ⟨_, rfl⟩ | exact Or.inr ⟨_, rfl⟩)) ?_
  refine gm_go.ru (gm_get dX4_leastBySets_10 (fl_X4_21 rfl) h1 rfl) ?_
  refine gm_go.ru (gm_aload_n dX4_leastBySets_13 rfl (by first | exact Or.inl ⟨_, rfl⟩ | exact Or.inr ⟨_, rfl⟩)) ?_
  refine gm_go.ru (gm_iload_n dX4_leastBySets_14 rfl) ?_
  refine gm_go.ru (gm_cS dX4_leastBySets_15 (hmo) rfl mt_X4_minutesOf ms_X4_minutesOf (lk_X4_24 rfl) rfl (Nat.le_of_ble_eq_true rfl) (by decide)) ?_
  refine gm_go.ru (gi_add dX4_leastBySets_18) ?_
  refine gm_go.ru (gm_istore_n (ls' := [_, _, _, _, _, _, _, _]) dX4_leastBySets_19 (by decide) rfl) ?_
  refine gm_go.ru (gm_aload_n dX4_leastBySets_20 rfl (by first | exact Or.inl ⟨_, rfl⟩ | exact Or.inr ⟨_, rfl⟩)) ?_
  refine gm_go.ru (gm_get dX4_leastBySets_21 (fl_X4_9 rfl) p1 rfl) ?_
  refine gm_go.ru (gi_const dX4_leastBySets_24) ?_
  refine gm_go.ru (gi_const dX4_leastBySets_25) ?_
  refine gm_go.ru (gi_ast dX4_leastBySets_26 p2 (by omega) (by omega) (by decide)) ?_
  refine gm_go.ru (gi_const dX4_leastBySets_27) ?_
  refine gm_go.ru (gm_istore (ls' := [_, _, _, _, _, _, _, _]) dX4_leastBySets_28 (by decide) rfl) ?_
  refine gm_go.ru hgo ?_
  refine gm_go.ru (gm_iload dX4_leastBySets_30 rfl) ?_
  refine gm_go.ru (gm_iload_n dX4_leastBySets_32 rfl) ?_
  refine gm_go.ru (gi_icmp_gt_t (tgt := 111) dX4_leastBySets_33 (by decide) (by omega) (by omega) (by omega)) ?_
  refine gm_go.ru (gm_aload_n dX4_leastBySets_111 rfl (by first | exact Or.inl ⟨_, rfl⟩ | exact Or.inr ⟨_, rfl⟩)) ?_
  refine gm_go.ru (gm_get dX4_leastBySets_112 (fl_X4_9 rfl) p1' rfl) ?_
  refine gm_go.ru (gm_iload_n dX4_leastBySets_115 rfl) ?_
  refine gm_go.ru (gi_ald dX4_leastBySets_116 p2' (by omega) (by omega) (by decide)) ?_
  rw [Int.toNat_natCast, hF' (zAl v) (by omega)]
  exact gm_iret dX4_leastBySets_117 rfl
set_option maxRecDepth 4000 in
theorem ct_bestFirstPlace {h : gm_H} {r T : Nat} {v : Nat → Int} (hN : ov_at h r v) (hv : ov_iv T v) {q : Nat} {F : Nat → Int} (hO : or_at h q F) (hd : r + 5 ≤ q ∨ q + 2 ≤ r) : ∃ h' F', gm_co mX4_bestFirstPlace 4 [.ref q, .ref r] h (.inl (some (.int (zI (zBf v (v 4).toNat 0))))) h' ∧ or_at h' q F' ∧ gh_fr h h' (fun k => k = q + 1) := by
  obtain ⟨cn, hc, hc7⟩ := ov_cnt hv
  have hal := zAl_lt (v := v) (by omega)
  obtain ⟨q2, q3, q4, q5, q6, q7, q8, qT, qB⟩ := id hv
  obtain ⟨h', F', hl, hO', hF', hfr⟩ := ct_orLeastBySets hN hv hO hd
  have hN' := ov_fr hfr (fun k hk z => by have := hk.1; have := hk.2; omega) hN
  obtain ⟨h1', h2'⟩ := id hN'
  obtain ⟨p1, p2⟩ := id hO
  obtain ⟨p1', p2'⟩ := id hO'
  have hLb := zL'_b hv (zOk_al (v := v) (by omega) (Nat.le_refl _))
  rw [hc] at h1'
  have e1 : ((2 ^ cn : Nat) : Int) - 1 = (zAl v : Nat) := by have := Nat.two_pow_pos cn; unfold zAl; rw [hc, Int.toNat_natCast]; omega
  refine ⟨h', F', ?_, hO', hfr⟩
  refine gm_co_of _ (by decide +kernel) rfl (Nat.le_of_ble_eq_true rfl) rfl ?_
  have key : ∀ (m j : Nat), j + m = cn → gm_ru mX4_bestFirstPlace 4 (18, [some (.ref q), some (.ref r), some (.int (zI (zL' v (zAl v)))), some (.int (zI (zAl v : Nat))), some (.int (zI j))], [], h') (.inl (some (.int (zI (zBf v m j))))) h' := by
    intro m
    induction m with
    | zero =>
      intro j hj
      obtain rfl : j = cn := by omega
      refine gm_go.ru (gm_iload dX4_bestFirstPlace_18 rfl) ?_
      refine gm_go.ru (gm_aload_n dX4_bestFirstPlace_20 rfl (by first | exact Or.inl ⟨_, rfl⟩ | exact Or.inr ⟨_, rfl⟩)) ?_
      refine gm_go.ru (gm_get dX4_bestFirstPlace_21 (fl_X4_15 rfl) h1' rfl) ?_
      refine gm_go.ru (gi_icmp_ge_t (tgt := 52) dX4_bestFirstPlace_24 (by decide) (by omega) (by omega) (by omega)) ?_
      refine gm_go.ru (gi_const dX4_bestFirstPlace_52) ?_
      exact gm_iret dX4_bestFirstPlace_53 rfl
    | succ m ih =>
      intro j hj
      have e := ih (j + 1) (by omega)
      have hle := zC_lt (zAl v) (by omega) j (by omega)
      have eF := hF' (zC (zAl v) j) hle.1
      have hb1 := zL'_b hv (zOk_C (k := j) (zOk_al (v := v) (by omega) (Nat.le_refl _)) (by omega))
      have hb2 := zLt_r hv (k := j) (by omega) q2
      refine gm_go.ru (gm_iload dX4_bestFirstPlace_18 rfl) ?_
      refine gm_go.ru (gm_aload_n dX4_bestFirstPlace_20 rfl (by first | exact Or.inl ⟨_, rfl⟩ | exact Or.inr ⟨_, rfl⟩)) ?_
      refine gm_go.ru (gm_get dX4_bestFirstPlace_21 (fl_X4_15 rfl) h1' rfl) ?_
      refine gm_go.ru (gi_icmp_ge_f 52 dX4_bestFirstPlace_24 (by decide) (by omega) (by omega) (by omega)) ?_
      refine gm_go.ru (gm_aload_n dX4_bestFirstPlace_27 rfl (by first | exact Or.inl ⟨_, rfl⟩ | exact Or.inr ⟨_, rfl⟩)) ?_
      refine gm_go.ru (gm_aload_n dX4_bestFirstPlace_28 rfl (by first | exact Or.inl ⟨_, rfl⟩ | exact Or.inr ⟨_, rfl⟩)) ?_
      refine gm_go.ru (gm_iload_n dX4_bestFirstPlace_29 rfl) ?_
      refine gm_go.ru (gm_iload dX4_bestFirstPlace_30 rfl) ?_
      refine gm_go.ru (gm_aload_n dX4_bestFirstPlace_32 rfl (by first | exact Or.inl ⟨_, rfl⟩ | exact Or.inr ⟨_, rfl⟩)) ?_
      refine gm_go.ru (gm_get dX4_bestFirstPlace_33 (fl_X4_21 rfl) h1' rfl) ?_
      refine gm_go.ru (gm_cV dX4_bestFirstPlace_36 (ct_beginningWith hN' hv hO' (S := zAl v) (b := j) hal (by omega) (by omega) ⟨by omega, by omega⟩) rfl mt_X4_beginningWith mv_X4_beginningWith (lk_X4_35 rfl) (Or.inl ⟨_, 6, _, _, _, rfl, p1', rfl⟩) rfl (Nat.le_of_ble_eq_true rfl) (by decide)) ?_
      rw [eF]
      refine gm_go.ru (gm_iload_n dX4_bestFirstPlace_39 rfl) ?_
      rw [zBf]
      by_cases c : zLt v j (v 2) + zL' v (zC (zAl v) j) = zL' v (zAl v)
      ·
        rw [if_pos c]
        refine gm_go.ru (gi_icmp_ne_f 46 dX4_bestFirstPlace_40 (by decide) (by omega) (by omega) c) ?_
        refine gm_go.ru (gm_iload dX4_bestFirstPlace_43 rfl) ?_
        exact gm_iret dX4_bestFirstPlace_45 rfl
      ·
        rw [if_neg c]
        refine gm_go.ru (gi_icmp_ne_t (tgt := 46) dX4_bestFirstPlace_40 (by decide) (by omega) (by omega) c) ?_
        refine gm_go.ru (gi_iinc (ls' := [_, _, _, _, _]) dX4_bestFirstPlace_46 rfl (by decide) rfl) ?_
        refine gm_go.ru (gm_goto (tgt := 18) dX4_bestFirstPlace_49 (by decide)) ?_
        exact e
  refine gm_go.ru (gm_aload_n dX4_bestFirstPlace_0 rfl (by first | exact Or.inl ⟨_, rfl⟩ | exact Or.inr ⟨_, rfl⟩)) ?_
  refine gm_go.ru (gm_aload_n dX4_bestFirstPlace_1 rfl (by first | exact Or.inl ⟨_, rfl⟩ | exact Or.inr ⟨_, rfl⟩)) ?_
  refine gm_go.ru (gm_cV dX4_bestFirstPlace_2 (hl) rfl mt_X4_leastBySets mv_X4_leastBySets (lk_X4_51 rfl) (Or.inl ⟨_, 6, _, _, _, rfl, p1, rfl⟩) rfl (Nat.le_of_ble_eq_true rfl) (by decide)) ?_
  refine gm_go.ru (gm_istore_n (ls' := [_, _, _, _, _]) dX4_bestFirstPlace_5 (by decide) rfl) ?_
  refine gm_go.ru (gi_const dX4_bestFirstPlace_6) ?_
  refine gm_go.ru (gm_aload_n dX4_bestFirstPlace_7 rfl (by first | exact Or.inl ⟨_, rfl⟩ | exact Or.inr ⟨_, rfl⟩)) ?_
  refine gm_go.ru (gm_get dX4_bestFirstPlace_8 (fl_X4_15 rfl) h1' rfl) ?_
  refine gm_go.ru (gi_shl1 dX4_bestFirstPlace_11 (by omega)) ?_
  refine gm_go.ru (gi_const dX4_bestFirstPlace_12) ?_
  refine gm_go.ru (gi_sub dX4_bestFirstPlace_13) ?_
  rw [e1]
  refine gm_go.ru (gm_istore_n (ls' := [_, _, _, _, _]) dX4_bestFirstPlace_14 (by decide) rfl) ?_
  refine gm_go.ru (gi_const dX4_bestFirstPlace_15) ?_
  refine gm_go.ru (gm_istore (ls' := [_, _, _, _, _]) dX4_bestFirstPlace_16 (by decide) rfl) ?_
  rw [hc, Int.toNat_natCast]
  exact key cn 0 (by omega)
set_option maxRecDepth 4000 in
theorem ct_bestFrom {h : gm_H} {r T : Nat} {v : Nat → Int} (hN : ov_at h r v) (hv : ov_iv T v) : ∀ (zm S dp : Nat) (l b : Int), zOk v S → zn S ≤ zm → dp + zn S ≤ 7 → (0 ≤ l ∧ l ≤ 600000 * (dp : Int)) → (0 ≤ b ∧ b ≤ 2147483647) → gm_co mX4_bestFrom (zm + 2) [.ref r, .int (zI S), .int (zI (zSt v S)), .int (zI l), .int (zI b), .int (zI (dp : Nat))] h (.inl (some (.int (zI (min b (l + zL' v S)))))) h := by
  intro zm
  induction zm with
  | zero =>
    intro S dp l b hok hm hdp hl hb
    obtain ⟨h1, I, M, D, W, h2, h3, h4, h5, h6⟩ := id hN
    have hst := zSt_r hv S
    have hLb := zL'_b hv hok
    obtain ⟨cn, hc, hc7⟩ := ov_cnt hv
    have hz8 : zn S ≤ 8 := zK_le _ 8
    have hS : S < 128 := hok.1
    refine gm_co_of _ (by decide +kernel) rfl (Nat.le_of_ble_eq_true rfl) rfl ?_
    by_cases c1 : b ≤ l
    ·
      rw [show min b (l + zL' v S) = b by omega]
      refine gm_go.ru (gm_iload_n dX4_bestFrom_0 rfl) ?_
      refine gm_go.ru (gm_iload dX4_bestFrom_1 rfl) ?_
      refine gm_go.ru (gi_icmp_ge_t (tgt := 13) dX4_bestFrom_3 (by decide) (by omega) (by omega) c1) ?_
      refine gm_go.ru (gm_iload dX4_bestFrom_13 rfl) ?_
      exact gm_iret dX4_bestFrom_15 rfl
    ·
      by_cases c2 : S = 0
      ·
        subst c2
        rw [show min b (l + zL' v 0) = l by rw [zL'_0]; omega]
        refine gm_go.ru (gm_iload_n dX4_bestFrom_0 rfl) ?_
        refine gm_go.ru (gm_iload dX4_bestFrom_1 rfl) ?_
        refine gm_go.ru (gi_icmp_ge_f 13 dX4_bestFrom_3 (by decide) (by omega) (by omega) c1) ?_
        refine gm_go.ru (gm_iload dX4_bestFrom_6 rfl) ?_
        refine gm_go.ru (gi_bipush dX4_bestFrom_8 (by decide +kernel)) ?_
        refine gm_go.ru (gi_icmp_le_t (tgt := 16) dX4_bestFrom_10 (by decide) (by omega) (by omega) (by omega)) ?_
        refine gm_go.ru (gm_iload_n dX4_bestFrom_16 rfl) ?_
        refine gm_go.ru (gi_if_ne_f 22 dX4_bestFrom_17 (by decide) (by decide) rfl) ?_
        refine gm_go.ru (gm_iload_n dX4_bestFrom_20 rfl) ?_
        exact gm_iret dX4_bestFrom_21 rfl
      ·
        have hzn : zn S ≠ 0 := fun e => c2 ((zn_0 S (by omega)).mp e)
        have eL := zL'_s (v := v) (S := S) (by omega) c2 (by omega)
        rw [hc, Int.toNat_natCast] at eL
        have esh := zFm_sh (g := zLg' v (zL' v) S) (l := l) (b := b) (by omega) cn
        rw [← eL] at esh
        generalize hg9 : (fun k => (zLg' v (zL' v) S k).map (l + ·)) = g9 at esh
        have hg8 : ∀ k, g9 k = if S.testBit k then some (l + (zLt v k (zSt v S) + zL' v (zC S k))) else none := fun k => by rw [← hg9]; show (zLg' v (zL' v) S k).map (l + ·) = _; unfold zLg'; split <;> rfl
        have hgr : ∀ k, k ≤ cn → 0 ≤ zFm g9 b k ∧ zFm g9 b k ≤ 2147483647 := fun k hk => by
          have g1 := zFm_a (g := g9) (a := b) k
          have g2 : 0 ≤ zFm g9 b k := zFm_ge (by omega) (fun i hi c hc' => by
            rw [hg8] at hc'
            by_cases hbi : S.testBit i = true
            · rw [if_pos hbi] at hc'
              have g3 := zLt_r hv (hok.2 i (by omega) hbi) hst
              have g4 := zL'_b hv (zOk_C hok (show i < 8 by omega))
              have := Option.some.inj hc'
              omega
            · rw [if_neg hbi] at hc'; cases hc')
          omega
        have key : ∀ (m j : Nat) (x y : Option Value), j + m = cn → gm_ru mX4_bestFrom (0 + 2) (29, [some (.ref r), some (.int (zI S)), some (.int (zI (zSt v S))), some (.int (zI l)), some (.int (zI b)), some (.int (zI (dp : Nat))), some (.int (zI (zFm g9 b j))), some (.int (zI j)), x, y], [], h) (.inl (some (.int (zI (min b (l + zL' v S)))))) h := by
          intro m
          induction m with
          | zero =>
            intro j x y hj
            obtain rfl : j = cn := by omega
            rw [← esh]
            rw [hc] at h1
            refine gm_go.ru (gm_iload dX4_bestFrom_29 rfl) ?_
            refine gm_go.ru (gm_aload_n dX4_bestFrom_31 rfl (by first | exact Or.inl ⟨_, rfl⟩ | exact Or.inr ⟨_, rfl⟩)) ?_
            refine gm_go.ru (gm_get dX4_bestFrom_32 (fl_X4_15 rfl) h1 rfl) ?_
            refine gm_go.ru (gi_icmp_ge_t (tgt := 99) dX4_bestFrom_35 (by decide) (by omega) (by omega) (by omega)) ?_
            refine gm_go.ru (gm_iload dX4_bestFrom_99 rfl) ?_
            exact gm_iret dX4_bestFrom_101 rfl
          | succ m ih' =>
            intro j x y hj
            have e := fun x y => ih' (j + 1) x y (by omega)
            rw [hc] at h1
            have hgj := hgr j (by omega)
            refine gm_go.ru (gm_iload dX4_bestFrom_29 rfl) ?_
            refine gm_go.ru (gm_aload_n dX4_bestFrom_31 rfl (by first | exact Or.inl ⟨_, rfl⟩ | exact Or.inr ⟨_, rfl⟩)) ?_
            refine gm_go.ru (gm_get dX4_bestFrom_32 (fl_X4_15 rfl) h1 rfl) ?_
            refine gm_go.ru (gi_icmp_ge_f 99 dX4_bestFrom_35 (by decide) (by omega) (by omega) (by omega)) ?_
            refine gm_go.ru (gm_iload_n dX4_bestFrom_38 rfl) ?_
            refine gm_go.ru (gm_iload dX4_bestFrom_39 rfl) ?_
            refine gm_go.ru (gm_cS dX4_bestFrom_41 (ct_holds (by omega) (by omega)) rfl mt_X10_holds ms_X10_holds (lk_X4_31 rfl) rfl (Nat.le_of_ble_eq_true rfl) (by decide)) ?_
            cases hbj : S.testBit j
            ·
              rw [zFm_n (by rw [hg8, hbj]; rfl)] at e
              refine gm_go.ru (gi_if_eq_t (tgt := 93) dX4_bestFrom_44 (by decide) (by decide) rfl) ?_
              refine gm_go.ru (gi_iinc (ls' := [_, _, _, _, _, _, _, _, _, _]) dX4_bestFrom_93 rfl (by decide) rfl) ?_
              refine gm_go.ru (gm_goto (tgt := 29) dX4_bestFrom_96 (by decide)) ?_
              exact e _ _
            ·
              rw [zFm_s (c := l + (zLt v j (zSt v S) + zL' v (zC S j))) (by rw [hg8, hbj]; rfl)] at e
              have j4 := hok.2 j (by omega) hbj
              have hlt := zLt_r hv j4 hst
              have hzc := zn_r (show S < 256 by omega) (show j < 8 by omega) hbj
              have hlc := zC_lt S (by omega) j (by omega)
              have ej := (h6 j j4).2.1
              have eS := zSt_C (v := v) (show S < 256 by omega) (show j < 8 by omega) hbj j4 (by omega)
              have hrec := ih (zC S j) (dp + 1) (l + zLt v j (zSt v S)) (zFm g9 b j) (zOk_C hok (by omega)) (by omega) (by omega) (by omega) hgj
              rw [eS] at hrec
              refine gm_go.ru (gi_if_eq_f 93 dX4_bestFrom_44 (by decide) (by decide) (by decide)) ?_
              refine gm_go.ru (gm_iload_n dX4_bestFrom_47 rfl) ?_
              refine gm_go.ru (gm_aload_n dX4_bestFrom_48 rfl (by first | exact Or.inl ⟨_, rfl⟩ | exact Or.inr ⟨_, rfl⟩)) ?_
              refine gm_go.ru (gm_iload dX4_bestFrom_49 rfl) ?_
              refine gm_go.ru (gm_iload_n dX4_bestFrom_51 rfl) ?_
              refine gm_go.ru (gm_cV dX4_bestFrom_52 (ct_latenessFrom hN hv j4 ⟨by omega, by omega⟩) rfl mt_X5_latenessFrom mv_X5_latenessFrom (lk_X4_45 rfl) (Or.inl ⟨_, 7, _, _, _, rfl, h1, rfl⟩) rfl (Nat.le_of_ble_eq_true rfl) (by decide)) ?_
              refine gm_go.ru (gi_add dX4_bestFrom_55) ?_
              refine gm_go.ru (gm_istore (ls' := [_, _, _, _, _, _, _, _, _, _]) dX4_bestFrom_56 (by decide) rfl) ?_
              refine gm_go.ru (gm_iload_n dX4_bestFrom_58 rfl) ?_
              refine gm_go.ru (gm_aload_n dX4_bestFrom_59 rfl (by first | exact Or.inl ⟨_, rfl⟩ | exact Or.inr ⟨_, rfl⟩)) ?_
              refine gm_go.ru (gm_get dX4_bestFrom_60 (fl_X4_48 rfl) h1 rfl) ?_
              refine gm_go.ru (gm_iload dX4_bestFrom_63 rfl) ?_
              refine gm_go.ru (gi_ald dX4_bestFrom_65 h3 (by omega) (by omega) (by decide)) ?_
              rw [Int.toNat_natCast, ej]
              refine gm_go.ru (gi_add dX4_bestFrom_66) ?_
              refine gm_go.ru (gm_istore (ls' := [_, _, _, _, _, _, _, _, _, _]) dX4_bestFrom_67 (by decide) rfl) ?_
              refine gm_go.ru (gm_aload_n dX4_bestFrom_69 rfl (by first | exact Or.inl ⟨_, rfl⟩ | exact Or.inr ⟨_, rfl⟩)) ?_
              refine gm_go.ru (gm_iload_n dX4_bestFrom_70 rfl) ?_
              refine gm_go.ru (gi_const dX4_bestFrom_71) ?_
              refine gm_go.ru (gm_iload dX4_bestFrom_72 rfl) ?_
              refine gm_go.ru (gi_shl1 dX4_bestFrom_74 (by omega)) ?_
              refine gm_go.ru (gi_const dX4_bestFrom_75) ?_
              refine gm_go.ru (gi_not dX4_bestFrom_76) ?_
              refine gm_go.ru (gi_clr dX4_bestFrom_77 (by omega) (by omega)) ?_
              refine gm_go.ru (gm_iload dX4_bestFrom_78 rfl) ?_
              refine gm_go.ru (gm_iload dX4_bestFrom_80 rfl) ?_
              refine gm_go.ru (gm_iload dX4_bestFrom_82 rfl) ?_
              refine gm_go.ru (gm_iload dX4_bestFrom_84 rfl) ?_
              refine gm_go.ru (gi_const dX4_bestFrom_86) ?_
              refine gm_go.ru (gi_add dX4_bestFrom_87) ?_
              rw [show (dp : Int) + 1 = ((dp + 1 : Nat) : Int) by omega]
              refine gm_go.ru (gm_cS dX4_bestFrom_88 (hrec) rfl mt_X4_bestFrom ms_X4_bestFrom (lk_X4_55 rfl) rfl (Nat.le_of_ble_eq_true rfl) (by omega)) ?_
              refine gm_go.ru (gm_istore (ls' := [_, _, _, _, _, _, _, _, _, _]) dX4_bestFrom_91 (by decide) rfl) ?_
              refine gm_go.ru (gi_iinc (ls' := [_, _, _, _, _, _, _, _, _, _]) dX4_bestFrom_93 rfl (by decide) rfl) ?_
              refine gm_go.ru (gm_goto (tgt := 29) dX4_bestFrom_96 (by decide)) ?_
              rw [show min (zFm g9 b j) (l + zLt v j (zSt v S) + zL' v (zC S j)) = min (zFm g9 b j) (l + (zLt v j (zSt v S) + zL' v (zC S j))) by omega]
              exact e _ _
        refine gm_go.ru (gm_iload_n dX4_bestFrom_0 rfl) ?_
        refine gm_go.ru (gm_iload dX4_bestFrom_1 rfl) ?_
        refine gm_go.ru (gi_icmp_ge_f 13 dX4_bestFrom_3 (by decide) (by omega) (by omega) c1) ?_
        refine gm_go.ru (gm_iload dX4_bestFrom_6 rfl) ?_
        refine gm_go.ru (gi_bipush dX4_bestFrom_8 (by decide +kernel)) ?_
        refine gm_go.ru (gi_icmp_le_t (tgt := 16) dX4_bestFrom_10 (by decide) (by omega) (by omega) (by omega)) ?_
        refine gm_go.ru (gm_iload_n dX4_bestFrom_16 rfl) ?_
        refine gm_go.ru (gi_if_ne_t (tgt := 22) dX4_bestFrom_17 (by decide) (by omega) (by omega)) ?_
        refine gm_go.ru (gm_iload dX4_bestFrom_22 rfl) ?_
        refine gm_go.ru (gm_istore (ls' := [_, _, _, _, _, _, _, _, _, _]) dX4_bestFrom_24 (by decide) rfl) ?_
        refine gm_go.ru (gi_const dX4_bestFrom_26) ?_
        refine gm_go.ru (gm_istore (ls' := [_, _, _, _, _, _, _, _, _, _]) dX4_bestFrom_27 (by decide) rfl) ?_
        exact key cn 0 _ _ (by omega)
  | succ zm ih =>
    intro S dp l b hok hm hdp hl hb
    obtain ⟨h1, I, M, D, W, h2, h3, h4, h5, h6⟩ := id hN
    have hst := zSt_r hv S
    have hLb := zL'_b hv hok
    obtain ⟨cn, hc, hc7⟩ := ov_cnt hv
    have hz8 : zn S ≤ 8 := zK_le _ 8
    have hS : S < 128 := hok.1
    refine gm_co_of _ (by decide +kernel) rfl (Nat.le_of_ble_eq_true rfl) rfl ?_
    by_cases c1 : b ≤ l
    ·
      rw [show min b (l + zL' v S) = b by omega]
      refine gm_go.ru (gm_iload_n dX4_bestFrom_0 rfl) ?_
      refine gm_go.ru (gm_iload dX4_bestFrom_1 rfl) ?_
      refine gm_go.ru (gi_icmp_ge_t (tgt := 13) dX4_bestFrom_3 (by decide) (by omega) (by omega) c1) ?_
      refine gm_go.ru (gm_iload dX4_bestFrom_13 rfl) ?_
      exact gm_iret dX4_bestFrom_15 rfl
    ·
      by_cases c2 : S = 0
      ·
        subst c2
        rw [show min b (l + zL' v 0) = l by rw [zL'_0]; omega]
        refine gm_go.ru (gm_iload_n dX4_bestFrom_0 rfl) ?_
        refine gm_go.ru (gm_iload dX4_bestFrom_1 rfl) ?_
        refine gm_go.ru (gi_icmp_ge_f 13 dX4_bestFrom_3 (by decide) (by omega) (by omega) c1) ?_
        refine gm_go.ru (gm_iload dX4_bestFrom_6 rfl) ?_
        refine gm_go.ru (gi_bipush dX4_bestFrom_8 (by decide +kernel)) ?_
        refine gm_go.ru (gi_icmp_le_t (tgt := 16) dX4_bestFrom_10 (by decide) (by omega) (by omega) (by omega)) ?_
        refine gm_go.ru (gm_iload_n dX4_bestFrom_16 rfl) ?_
        refine gm_go.ru (gi_if_ne_f 22 dX4_bestFrom_17 (by decide) (by decide) rfl) ?_
        refine gm_go.ru (gm_iload_n dX4_bestFrom_20 rfl) ?_
        exact gm_iret dX4_bestFrom_21 rfl
      ·
        have hzn : zn S ≠ 0 := fun e => c2 ((zn_0 S (by omega)).mp e)
        have eL := zL'_s (v := v) (S := S) (by omega) c2 (by omega)
        rw [hc, Int.toNat_natCast] at eL
        have esh := zFm_sh (g := zLg' v (zL' v) S) (l := l) (b := b) (by omega) cn
        rw [← eL] at esh
        generalize hg9 : (fun k => (zLg' v (zL' v) S k).map (l + ·)) = g9 at esh
        have hg8 : ∀ k, g9 k = if S.testBit k then some (l + (zLt v k (zSt v S) + zL' v (zC S k))) else none := fun k => by rw [← hg9]; show (zLg' v (zL' v) S k).map (l + ·) = _; unfold zLg'; split <;> rfl
        have hgr : ∀ k, k ≤ cn → 0 ≤ zFm g9 b k ∧ zFm g9 b k ≤ 2147483647 := fun k hk => by
          have g1 := zFm_a (g := g9) (a := b) k
          have g2 : 0 ≤ zFm g9 b k := zFm_ge (by omega) (fun i hi c hc' => by
            rw [hg8] at hc'
            by_cases hbi : S.testBit i = true
            · rw [if_pos hbi] at hc'
              have g3 := zLt_r hv (hok.2 i (by omega) hbi) hst
              have g4 := zL'_b hv (zOk_C hok (show i < 8 by omega))
              have := Option.some.inj hc'
              omega
            · rw [if_neg hbi] at hc'; cases hc')
          omega
        have key : ∀ (m j : Nat) (x y : Option Value), j + m = cn → gm_ru mX4_bestFrom (zm + 1 + 2) (29, [some (.ref r), some (.int (zI S)), some (.int (zI (zSt v S))), some (.int (zI l)), some (.int (zI b)), some (.int (zI (dp : Nat))), some (.int (zI (zFm g9 b j))), some (.int (zI j)), x, y], [], h) (.inl (some (.int (zI (min b (l + zL' v S)))))) h := by
          intro m
          induction m with
          | zero =>
            intro j x y hj
            obtain rfl : j = cn := by omega
            rw [← esh]
            rw [hc] at h1
            refine gm_go.ru (gm_iload dX4_bestFrom_29 rfl) ?_
            refine gm_go.ru (gm_aload_n dX4_bestFrom_31 rfl (by first | exact Or.inl ⟨_, rfl⟩ | exact Or.inr ⟨_, rfl⟩)) ?_
            refine gm_go.ru (gm_get dX4_bestFrom_32 (fl_X4_15 rfl) h1 rfl) ?_
            refine gm_go.ru (gi_icmp_ge_t (tgt := 99) dX4_bestFrom_35 (by decide) (by omega) (by omega) (by omega)) ?_
            refine gm_go.ru (gm_iload dX4_bestFrom_99 rfl) ?_
            exact gm_iret dX4_bestFrom_101 rfl
          | succ m ih' =>
            intro j x y hj
            have e := fun x y => ih' (j + 1) x y (by omega)
            rw [hc] at h1
            have hgj := hgr j (by omega)
            refine gm_go.ru (gm_iload dX4_bestFrom_29 rfl) ?_
            refine gm_go.ru (gm_aload_n dX4_bestFrom_31 rfl (by first | exact Or.inl ⟨_, rfl⟩ | exact Or.inr ⟨_, rfl⟩)) ?_
            refine gm_go.ru (gm_get dX4_bestFrom_32 (fl_X4_15 rfl) h1 rfl) ?_
            refine gm_go.ru (gi_icmp_ge_f 99 dX4_bestFrom_35 (by decide) (by omega) (by omega) (by omega)) ?_
            refine gm_go.ru (gm_iload_n dX4_bestFrom_38 rfl) ?_
            refine gm_go.ru (gm_iload dX4_bestFrom_39 rfl) ?_
            refine gm_go.ru (gm_cS dX4_bestFrom_41 (ct_holds (by omega) (by omega)) rfl mt_X10_holds ms_X10_holds (lk_X4_31 rfl) rfl (Nat.le_of_ble_eq_true rfl) (by decide)) ?_
            cases hbj : S.testBit j
            ·
              rw [zFm_n (by rw [hg8, hbj]; rfl)] at e
              refine gm_go.ru (gi_if_eq_t (tgt := 93) dX4_bestFrom_44 (by decide) (by decide) rfl) ?_
              refine gm_go.ru (gi_iinc (ls' := [_, _, _, _, _, _, _, _, _, _]) dX4_bestFrom_93 rfl (by decide) rfl) ?_
              refine gm_go.ru (gm_goto (tgt := 29) dX4_bestFrom_96 (by decide)) ?_
              exact e _ _
            ·
              rw [zFm_s (c := l + (zLt v j (zSt v S) + zL' v (zC S j))) (by rw [hg8, hbj]; rfl)] at e
              have j4 := hok.2 j (by omega) hbj
              have hlt := zLt_r hv j4 hst
              have hzc := zn_r (show S < 256 by omega) (show j < 8 by omega) hbj
              have hlc := zC_lt S (by omega) j (by omega)
              have ej := (h6 j j4).2.1
              have eS := zSt_C (v := v) (show S < 256 by omega) (show j < 8 by omega) hbj j4 (by omega)
              have hrec := ih (zC S j) (dp + 1) (l + zLt v j (zSt v S)) (zFm g9 b j) (zOk_C hok (by omega)) (by omega) (by omega) (by omega) hgj
              rw [eS] at hrec
              refine gm_go.ru (gi_if_eq_f 93 dX4_bestFrom_44 (by decide) (by decide) (by decide)) ?_
              refine gm_go.ru (gm_iload_n dX4_bestFrom_47 rfl) ?_
              refine gm_go.ru (gm_aload_n dX4_bestFrom_48 rfl (by first | exact Or.inl ⟨_, rfl⟩ | exact Or.inr ⟨_, rfl⟩)) ?_
              refine gm_go.ru (gm_iload dX4_bestFrom_49 rfl) ?_
              refine gm_go.ru (gm_iload_n dX4_bestFrom_51 rfl) ?_
              refine gm_go.ru (gm_cV dX4_bestFrom_52 (ct_latenessFrom hN hv j4 ⟨by omega, by omega⟩) rfl mt_X5_latenessFrom mv_X5_latenessFrom (lk_X4_45 rfl) (Or.inl ⟨_, 7, _, _, _, rfl, h1, rfl⟩) rfl (Nat.le_of_ble_eq_true rfl) (by decide)) ?_
              refine gm_go.ru (gi_add dX4_bestFrom_55) ?_
              refine gm_go.ru (gm_istore (ls' := [_, _, _, _, _, _, _, _, _, _]) dX4_bestFrom_56 (by decide) rfl) ?_
              refine gm_go.ru (gm_iload_n dX4_bestFrom_58 rfl) ?_
              refine gm_go.ru (gm_aload_n dX4_bestFrom_59 rfl (by first | exact Or.inl ⟨_, rfl⟩ | exact Or.inr ⟨_, rfl⟩)) ?_
              refine gm_go.ru (gm_get dX4_bestFrom_60 (fl_X4_48 rfl) h1 rfl) ?_
              refine gm_go.ru (gm_iload dX4_bestFrom_63 rfl) ?_
              refine gm_go.ru (gi_ald dX4_bestFrom_65 h3 (by omega) (by omega) (by decide)) ?_
              rw [Int.toNat_natCast, ej]
              refine gm_go.ru (gi_add dX4_bestFrom_66) ?_
              refine gm_go.ru (gm_istore (ls' := [_, _, _, _, _, _, _, _, _, _]) dX4_bestFrom_67 (by decide) rfl) ?_
              refine gm_go.ru (gm_aload_n dX4_bestFrom_69 rfl (by first | exact Or.inl ⟨_, rfl⟩ | exact Or.inr ⟨_, rfl⟩)) ?_
              refine gm_go.ru (gm_iload_n dX4_bestFrom_70 rfl) ?_
              refine gm_go.ru (gi_const dX4_bestFrom_71) ?_
              refine gm_go.ru (gm_iload dX4_bestFrom_72 rfl) ?_
              refine gm_go.ru (gi_shl1 dX4_bestFrom_74 (by omega)) ?_
              refine gm_go.ru (gi_const dX4_bestFrom_75) ?_
              refine gm_go.ru (gi_not dX4_bestFrom_76) ?_
              refine gm_go.ru (gi_clr dX4_bestFrom_77 (by omega) (by omega)) ?_
              refine gm_go.ru (gm_iload dX4_bestFrom_78 rfl) ?_
              refine gm_go.ru (gm_iload dX4_bestFrom_80 rfl) ?_
              refine gm_go.ru (gm_iload dX4_bestFrom_82 rfl) ?_
              refine gm_go.ru (gm_iload dX4_bestFrom_84 rfl) ?_
              refine gm_go.ru (gi_const dX4_bestFrom_86) ?_
              refine gm_go.ru (gi_add dX4_bestFrom_87) ?_
              rw [show (dp : Int) + 1 = ((dp + 1 : Nat) : Int) by omega]
              refine gm_go.ru (gm_cS dX4_bestFrom_88 (hrec) rfl mt_X4_bestFrom ms_X4_bestFrom (lk_X4_55 rfl) rfl (Nat.le_of_ble_eq_true rfl) (by omega)) ?_
              refine gm_go.ru (gm_istore (ls' := [_, _, _, _, _, _, _, _, _, _]) dX4_bestFrom_91 (by decide) rfl) ?_
              refine gm_go.ru (gi_iinc (ls' := [_, _, _, _, _, _, _, _, _, _]) dX4_bestFrom_93 rfl (by decide) rfl) ?_
              refine gm_go.ru (gm_goto (tgt := 29) dX4_bestFrom_96 (by decide)) ?_
              rw [show min (zFm g9 b j) (l + zLt v j (zSt v S) + zL' v (zC S j)) = min (zFm g9 b j) (l + (zLt v j (zSt v S) + zL' v (zC S j))) by omega]
              exact e _ _
        refine gm_go.ru (gm_iload_n dX4_bestFrom_0 rfl) ?_
        refine gm_go.ru (gm_iload dX4_bestFrom_1 rfl) ?_
        refine gm_go.ru (gi_icmp_ge_f 13 dX4_bestFrom_3 (by decide) (by omega) (by omega) c1) ?_
        refine gm_go.ru (gm_iload dX4_bestFrom_6 rfl) ?_
        refine gm_go.ru (gi_bipush dX4_bestFrom_8 (by decide +kernel)) ?_
        refine gm_go.ru (gi_icmp_le_t (tgt := 16) dX4_bestFrom_10 (by decide) (by omega) (by omega) (by omega)) ?_
        refine gm_go.ru (gm_iload_n dX4_bestFrom_16 rfl) ?_
        refine gm_go.ru (gi_if_ne_t (tgt := 22) dX4_bestFrom_17 (by decide) (by omega) (by omega)) ?_
        refine gm_go.ru (gm_iload dX4_bestFrom_22 rfl) ?_
        refine gm_go.ru (gm_istore (ls' := [_, _, _, _, _, _, _, _, _, _]) dX4_bestFrom_24 (by decide) rfl) ?_
        refine gm_go.ru (gi_const dX4_bestFrom_26) ?_
        refine gm_go.ru (gm_istore (ls' := [_, _, _, _, _, _, _, _, _, _]) dX4_bestFrom_27 (by decide) rfl) ?_
        exact key cn 0 _ _ (by omega)
set_option maxRecDepth 4000 in
theorem ct_leastByTrying {h : gm_H} {r T : Nat} {v : Nat → Int} (hN : ov_at h r v) (hv : ov_iv T v) {q : Nat} : gm_co mX4_leastByTrying 10 [.ref q, .ref r] h (.inl (some (.int (zI (zL' v (zAl v)))))) h := by
  refine gm_co_of _ (by decide +kernel) rfl (Nat.le_of_ble_eq_true rfl) rfl ?_
  obtain ⟨cn, hc, hc7⟩ := ov_cnt hv
  have hok := zOk_al (v := v) (by omega) (Nat.le_refl _)
  have hLb := zL'_b hv hok
  obtain ⟨h1, I, M, D, W, h2, h3, h4, h5, h6⟩ := id hN
  rw [hc] at h1
  have hn7 : zn (zAl v) ≤ 7 := by
    have h9 := zK_ext (p := fun k => (zAl v).testBit k) (m := 7) 8 (by omega) (fun k hk hk8 => Nat.testBit_lt_two_pow (Nat.lt_of_lt_of_le hok.1 (Nat.pow_le_pow_right (by decide) hk : 2 ^ 7 ≤ 2 ^ k)))
    have h8 := zK_le (fun k => (zAl v).testBit k) 7
    unfold zn; omega
  have hb := ct_bestFrom hN hv 7 (zAl v) 0 0 2147483647 hok hn7 (by omega) (by omega) (by omega)
  rw [zSt_al, show min 2147483647 (0 + zL' v (zAl v)) = zL' v (zAl v) by omega] at hb
  have e1 : ((2 ^ cn : Nat) : Int) - 1 = (zAl v : Nat) := by have := Nat.two_pow_pos cn; unfold zAl; rw [hc, Int.toNat_natCast]; omega
  refine gm_go.ru (gm_aload_n dX4_leastByTrying_0 rfl (by first | exact Or.inl ⟨_, rfl⟩ | exact Or.inr ⟨_, rfl⟩)) ?_
  refine gm_go.ru (gi_const dX4_leastByTrying_1) ?_
  refine gm_go.ru (gm_aload_n dX4_leastByTrying_2 rfl (by first | exact Or.inl ⟨_, rfl⟩ | exact Or.inr ⟨_, rfl⟩)) ?_
  refine gm_go.ru (gm_get dX4_leastByTrying_3 (fl_X4_15 rfl) h1 rfl) ?_
  refine gm_go.ru (gi_shl1 dX4_leastByTrying_6 (by omega)) ?_
  refine gm_go.ru (gi_const dX4_leastByTrying_7) ?_
  rw [e1]
  refine gm_go.ru (gi_sub dX4_leastByTrying_8) ?_
  refine gm_go.ru (gm_aload_n dX4_leastByTrying_9 rfl (by first | exact Or.inl ⟨_, rfl⟩ | exact Or.inr ⟨_, rfl⟩)) ?_
  refine gm_go.ru (gm_get dX4_leastByTrying_10 (fl_X4_21 rfl) h1 rfl) ?_
  refine gm_go.ru (gi_const dX4_leastByTrying_13) ?_
  refine gm_go.ru (gm_ldci (v := zI 2147483647) dX4_leastByTrying_14 (kc_X4_30 rfl)) ?_
  refine gm_go.ru (gi_const dX4_leastByTrying_16) ?_
  refine gm_go.ru (gm_cS dX4_leastByTrying_17 (hb) rfl mt_X4_bestFrom ms_X4_bestFrom (lk_X4_55 rfl) rfl (Nat.le_of_ble_eq_true rfl) (by decide)) ?_
  exact gm_iret dX4_leastByTrying_20 rfl
set_option maxRecDepth 4000 in
theorem ct_latenessInOrderOfIds {h : gm_H} {r T : Nat} {v : Nat → Int} (hN : ov_at h r v) (hv : ov_iv T v) {q : Nat} : gm_co mX4_latenessInOrderOfIds 2 [.ref q, .ref r] h (.inl (some (.int (zI (zLi v (v 4).toNat))))) h := by
  refine gm_co_of _ (by decide +kernel) rfl (Nat.le_of_ble_eq_true rfl) rfl ?_
  obtain ⟨cn, hc, hc7⟩ := ov_cnt hv
  obtain ⟨h1, I, M, D, W, h2, h3, h4, h5, h6⟩ := id hN
  obtain ⟨q2, q3, q4, q5, q6, q7, q8, qT, qB⟩ := id hv
  have key : ∀ (m j : Nat), j + m = cn → gm_ru mX4_latenessInOrderOfIds 2 (10, [some (.ref q), some (.ref r), some (.int (zI (zLi v j))), some (.int (zI (zLs v j))), some (.int (zI j))], [], h) (.inl (some (.int (zI (zLi v cn))))) h := by
    intro m
    induction m with
    | zero =>
      intro j hj
      obtain rfl : j = cn := by omega
      rw [hc] at h1
      refine gm_go.ru (gm_iload dX4_latenessInOrderOfIds_10 rfl) ?_
      refine gm_go.ru (gm_aload_n dX4_latenessInOrderOfIds_12 rfl (by first | exact Or.inl ⟨_, rfl⟩ | exact Or.inr ⟨_, rfl⟩)) ?_
      refine gm_go.ru (gm_get dX4_latenessInOrderOfIds_13 (fl_X4_15 rfl) h1 rfl) ?_
      refine gm_go.ru (gi_icmp_ge_t (tgt := 45) dX4_latenessInOrderOfIds_16 (by decide) (by omega) (by omega) (by omega)) ?_
      refine gm_go.ru (gm_iload_n dX4_latenessInOrderOfIds_45 rfl) ?_
      exact gm_iret dX4_latenessInOrderOfIds_46 rfl
    | succ m ih =>
      intro j hj
      have e := ih (j + 1) (by omega)
      rw [zLi, zLs] at e
      rw [hc] at h1
      have ej := (h6 j (by omega)).2.1
      have hs := zLs_r hv j (by omega)
      refine gm_go.ru (gm_iload dX4_latenessInOrderOfIds_10 rfl) ?_
      refine gm_go.ru (gm_aload_n dX4_latenessInOrderOfIds_12 rfl (by first | exact Or.inl ⟨_, rfl⟩ | exact Or.inr ⟨_, rfl⟩)) ?_
      refine gm_go.ru (gm_get dX4_latenessInOrderOfIds_13 (fl_X4_15 rfl) h1 rfl) ?_
      refine gm_go.ru (gi_icmp_ge_f 45 dX4_latenessInOrderOfIds_16 (by decide) (by omega) (by omega) (by omega)) ?_
      refine gm_go.ru (gm_iload_n dX4_latenessInOrderOfIds_19 rfl) ?_
      refine gm_go.ru (gm_aload_n dX4_latenessInOrderOfIds_20 rfl (by first | exact Or.inl ⟨_, rfl⟩ | exact Or.inr ⟨_, rfl⟩)) ?_
      refine gm_go.ru (gm_iload dX4_latenessInOrderOfIds_21 rfl) ?_
      refine gm_go.ru (gm_iload_n dX4_latenessInOrderOfIds_23 rfl) ?_
      refine gm_go.ru (gm_cV dX4_latenessInOrderOfIds_24 (ct_latenessFrom hN hv (k := j) (by omega) ⟨by omega, by omega⟩) rfl mt_X5_latenessFrom mv_X5_latenessFrom (lk_X4_45 rfl) (Or.inl ⟨_, 7, _, _, _, rfl, h1, rfl⟩) rfl (Nat.le_of_ble_eq_true rfl) (by decide)) ?_
      refine gm_go.ru (gi_add dX4_latenessInOrderOfIds_27) ?_
      refine gm_go.ru (gm_istore_n (ls' := [_, _, _, _, _]) dX4_latenessInOrderOfIds_28 (by decide) rfl) ?_
      refine gm_go.ru (gm_iload_n dX4_latenessInOrderOfIds_29 rfl) ?_
      refine gm_go.ru (gm_aload_n dX4_latenessInOrderOfIds_30 rfl (by first | exact Or.inl ⟨_, rfl⟩ | exact Or.inr ⟨_, rfl⟩)) ?_
      refine gm_go.ru (gm_get dX4_latenessInOrderOfIds_31 (fl_X4_48 rfl) h1 rfl) ?_
      refine gm_go.ru (gm_iload dX4_latenessInOrderOfIds_34 rfl) ?_
      refine gm_go.ru (gi_ald dX4_latenessInOrderOfIds_36 h3 (by omega) (by omega) (by decide)) ?_
      rw [Int.toNat_natCast, ej]
      refine gm_go.ru (gi_add dX4_latenessInOrderOfIds_37) ?_
      refine gm_go.ru (gm_istore_n (ls' := [_, _, _, _, _]) dX4_latenessInOrderOfIds_38 (by decide) rfl) ?_
      refine gm_go.ru (gi_iinc (ls' := [_, _, _, _, _]) dX4_latenessInOrderOfIds_39 rfl (by decide) rfl) ?_
      refine gm_go.ru (gm_goto (tgt := 10) dX4_latenessInOrderOfIds_42 (by decide)) ?_
      exact e
  refine gm_go.ru (gi_const dX4_latenessInOrderOfIds_0) ?_
  refine gm_go.ru (gm_istore_n (ls' := [_, _, _, _, _]) dX4_latenessInOrderOfIds_1 (by decide) rfl) ?_
  refine gm_go.ru (gm_aload_n dX4_latenessInOrderOfIds_2 rfl (by first | exact Or.inl ⟨_, rfl⟩ | exact Or.inr ⟨_, rfl⟩)) ?_
  refine gm_go.ru (gm_get dX4_latenessInOrderOfIds_3 (fl_X4_21 rfl) h1 rfl) ?_
  refine gm_go.ru (gm_istore_n (ls' := [_, _, _, _, _]) dX4_latenessInOrderOfIds_6 (by decide) rfl) ?_
  refine gm_go.ru (gi_const dX4_latenessInOrderOfIds_7) ?_
  refine gm_go.ru (gm_istore (ls' := [_, _, _, _, _]) dX4_latenessInOrderOfIds_8 (by decide) rfl) ?_
  rw [hc, Int.toNat_natCast]
  exact key cn 0 (by omega)
