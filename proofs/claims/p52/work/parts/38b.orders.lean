set_option maxRecDepth 4000 in
theorem ct_orLeastBySets {h : gm_H} {r T : Nat} {v : Nat → Int} (hN : ov_at h r v) (hv : ov_iv T v) {q : Nat} {F : Nat → Int} (hO : or_at h q F) (hd : r + 5 ≤ q ∨ q + 2 ≤ r) : ∃ h' F', gm_co mX4_leastBySets 3 [.ref q, .ref r] h (.inl (some (.int (zI (zL' v (zAl v)))))) h' ∧ or_at h' q F' ∧ (∀ R, R ≤ zAl v → F' R = zL' v R) ∧ gh_fr h h' (fun k => k = q + 1) := by
  obtain ⟨cn, hc, hc7⟩ := ov_cnt hv
  have hal := zAl_lt (v := v) (by omega)
  obtain ⟨f', hgo, q9, F', x, y, z, rfl, hN', hO', hF', hfr⟩ := gl_up (M := mX4_leastBySets) (d := 3) (fun j f => ∃ q9 F x y z, f = (30, [some (.ref q), some (.ref r), some (.int (zI (zAl v : Nat))), some (.int (zI (v 2 + zMi v (zAl v) cn))), some (.int (zI ((j + 1 : Nat) : Int))), x, y, z], [], q9) ∧ ov_at q9 r v ∧ or_at q9 q F ∧ (∀ R, R < j + 1 → F R = zL' v R) ∧ gh_fr h q9 (fun k => k = q + 1)) (zAl v) (by
    rintro j f hj ⟨q9, F, x, y, z, rfl, hN, hO, hF, hfr⟩
    obtain ⟨h1, I, M, D, W, h2, h3, h4, h5, h6⟩ := id hN
    obtain ⟨p1, p2⟩ := id hO
    rw [hc] at h1
    have hok := zOk_al (v := v) (by omega) (S := j + 1) hj
    have hsr := zSt_r hv (j + 1)
    have hLb := zL'_b hv hok
    have hS : j + 1 < 128 := hok.1
    have eL := zL'_s (v := v) (S := j + 1) (by omega) (by omega) (by omega)
    rw [hc, Int.toNat_natCast] at eL
    have hcand : ∀ k, k < cn → (j + 1).testBit k = true → zLt v k (zSt v (j + 1)) + F (zC (j + 1) k) = zLt v k (zSt v (j + 1)) + zL' v (zC (j + 1) k) ∧ 0 ≤ zLt v k (zSt v (j + 1)) + zL' v (zC (j + 1) k) ∧ zLt v k (zSt v (j + 1)) + zL' v (zC (j + 1) k) ≤ 100000000 := fun k hk hb => by
      have g1 := (zC_lt (j + 1) (by omega) k (by omega)).2 hb
      have g2 := zL'_b hv (zOk_C hok (show k < 8 by omega))
      have g3 := zLt_r hv (k := k) (by omega) hsr
      rw [hF _ g1]; omega
    have inn : ∀ (m k : Nat) (y z : Option Value), k + m = cn → zR (zFm (zLg' v (zL' v) (j + 1)) 2147483647 k) → ∃ z', gm_go mX4_leastBySets 3 (53, [some (.ref q), some (.ref r), some (.int (zI (zAl v : Nat))), some (.int (zI (v 2 + zMi v (zAl v) cn))), some (.int (zI ((j + 1 : Nat) : Int))), some (.int (zI (zSt v (j + 1)))), some (.int (zI (zFm (zLg' v (zL' v) (j + 1)) 2147483647 k))), some (.int (zI k))], [], q9) (96, [some (.ref q), some (.ref r), some (.int (zI (zAl v : Nat))), some (.int (zI (v 2 + zMi v (zAl v) cn))), some (.int (zI ((j + 1 : Nat) : Int))), some (.int (zI (zSt v (j + 1)))), some (.int (zI (zL' v (j + 1)))), z'], [], q9) := by
      intro m
      induction m with
      | zero =>
        intro k y z hk hr
        obtain rfl : k = cn := by omega
        refine ⟨some (.int (zI k)), ?_⟩
        rw [eL]
        refine gm_go_tr (gm_iload dX4_leastBySets_53 rfl) ?_
        refine gm_go_tr (gm_aload_n dX4_leastBySets_55 rfl (by first | exact Or.inl ⟨_, rfl⟩ | exact Or.inr ⟨_, rfl⟩)) ?_
        refine gm_go_tr (gm_get dX4_leastBySets_56 (fl_X4_15 rfl) h1 rfl) ?_
        refine gm_go_tr (gi_icmp_ge_t (tgt := 96) dX4_leastBySets_59 (by decide) (by omega) (by omega) (by omega)) ?_
        exact gm_go_rf
      | succ m ih =>
        intro k y z hk hr
        have hcr := hcand k (by omega)
        cases hb : (j + 1).testBit k
        ·
          have e := ih (k + 1) y z (by omega)
          rw [zFm_n (by unfold zLg'; rw [hb]; rfl)] at e
          obtain ⟨z', e⟩ := e hr
          refine ⟨z', ?_⟩
          refine gm_go_tr (gm_iload dX4_leastBySets_53 rfl) ?_
          refine gm_go_tr (gm_aload_n dX4_leastBySets_55 rfl (by first | exact Or.inl ⟨_, rfl⟩ | exact Or.inr ⟨_, rfl⟩)) ?_
          refine gm_go_tr (gm_get dX4_leastBySets_56 (fl_X4_15 rfl) h1 rfl) ?_
          refine gm_go_tr (gi_icmp_ge_f 96 dX4_leastBySets_59 (by decide) (by omega) (by omega) (by omega)) ?_
          refine gm_go_tr (gm_iload dX4_leastBySets_62 rfl) ?_
          refine gm_go_tr (gm_iload dX4_leastBySets_64 rfl) ?_
          refine gm_go_tr (gm_cS dX4_leastBySets_66 (ct_holds (by omega) (by omega)) rfl mt_X10_holds ms_X10_holds (lk_X4_29 rfl) rfl (Nat.le_of_ble_eq_true rfl) (by decide)) ?_
          rw [hb]
          refine gm_go_tr (gi_if_eq_t (tgt := 90) dX4_leastBySets_69 (by decide) (by decide) rfl) ?_
          refine gm_go_tr (gi_iinc (ls' := [_, _, _, _, _, _, _, _]) dX4_leastBySets_90 rfl (by decide) rfl) ?_
          refine gm_go_tr (gm_goto (tgt := 53) dX4_leastBySets_93 (by decide)) ?_
          exact e
        ·
          obtain ⟨c1, c2, c3⟩ := hcr hb
          have e := ih (k + 1) y z (by omega)
          rw [zFm_s (c := zLt v k (zSt v (j + 1)) + zL' v (zC (j + 1) k)) (by unfold zLg'; rw [hb]; rfl)] at e
          obtain ⟨z', e⟩ := e (by omega)
          refine ⟨z', ?_⟩
          refine gm_go_tr (gm_iload dX4_leastBySets_53 rfl) ?_
          refine gm_go_tr (gm_aload_n dX4_leastBySets_55 rfl (by first | exact Or.inl ⟨_, rfl⟩ | exact Or.inr ⟨_, rfl⟩)) ?_
          refine gm_go_tr (gm_get dX4_leastBySets_56 (fl_X4_15 rfl) h1 rfl) ?_
          refine gm_go_tr (gi_icmp_ge_f 96 dX4_leastBySets_59 (by decide) (by omega) (by omega) (by omega)) ?_
          refine gm_go_tr (gm_iload dX4_leastBySets_62 rfl) ?_
          refine gm_go_tr (gm_iload dX4_leastBySets_64 rfl) ?_
          refine gm_go_tr (gm_cS dX4_leastBySets_66 (ct_holds (by omega) (by omega)) rfl mt_X10_holds ms_X10_holds (lk_X4_29 rfl) rfl (Nat.le_of_ble_eq_true rfl) (by decide)) ?_
          rw [hb]
          refine gm_go_tr (gi_if_eq_f 90 dX4_leastBySets_69 (by decide) (by decide) (by decide)) ?_
          refine gm_go_tr (gm_iload dX4_leastBySets_72 rfl) ?_
          refine gm_go_tr (gm_aload_n dX4_leastBySets_74 rfl (by first | exact Or.inl ⟨_, rfl⟩ | exact Or.inr ⟨_, rfl⟩)) ?_
          refine gm_go_tr (gm_aload_n dX4_leastBySets_75 rfl (by first | exact Or.inl ⟨_, rfl⟩ | exact Or.inr ⟨_, rfl⟩)) ?_
          refine gm_go_tr (gm_iload dX4_leastBySets_76 rfl) ?_
          refine gm_go_tr (gm_iload dX4_leastBySets_78 rfl) ?_
          refine gm_go_tr (gm_iload dX4_leastBySets_80 rfl) ?_
          refine gm_go_tr (gm_cV dX4_leastBySets_82 (ct_beginningWith hN hv hO hS (by omega) (by omega) ⟨by omega, by omega⟩) rfl mt_X4_beginningWith mv_X4_beginningWith (lk_X4_33 rfl) (Or.inl ⟨_, 6, _, _, _, rfl, p1, rfl⟩) rfl (Nat.le_of_ble_eq_true rfl) (by decide)) ?_
          rw [c1]
          refine gm_go_tr (gm_cS dX4_leastBySets_85 (ct_min hr (by omega)) rfl mt_J9_min_7cf53 ms_J9_min_7cf53 (lk_X4_37 rfl) rfl (Nat.le_of_ble_eq_true rfl) (by decide)) ?_
          refine gm_go_tr (gm_istore (ls' := [_, _, _, _, _, _, _, _]) dX4_leastBySets_88 (by decide) rfl) ?_
          refine gm_go_tr (gi_iinc (ls' := [_, _, _, _, _, _, _, _]) dX4_leastBySets_90 rfl (by decide) rfl) ?_
          refine gm_go_tr (gm_goto (tgt := 53) dX4_leastBySets_93 (by decide)) ?_
          exact e
    obtain ⟨z', hin⟩ := inn cn 0 (some (.int (zI 2147483647))) (some (.int (zI 0))) (by omega) (by show zR 2147483647; omega)
    refine ⟨(30, [some (.ref q), some (.ref r), some (.int (zI (zAl v : Nat))), some (.int (zI (v 2 + zMi v (zAl v) cn))), some (.int (zI ((j + 1 + 1 : Nat) : Int))), some (.int (zI (zSt v (j + 1)))), some (.int (zI (zL' v (j + 1)))), z'], [], (q9.1.set (q + 1) (gA 128 (zU F (j + 1) (zL' v (j + 1)))), q9.2)), ?_, _, _, _, _, _, rfl, ov_fr (K := fun k => k = q + 1) (gh_set (K := fun k => k = q + 1) gh_rf rfl _) (fun k hk z => by have := hk.1; have := hk.2; omega) hN, ⟨gs_n p1 (by omega), gs_s p2⟩, fun R hR => ?_, gh_set (K := fun k => k = q + 1) hfr rfl _⟩
    ·
      have hmo := ct_minutesOf hN hv (S := j + 1) (by omega)
      rw [hc, Int.toNat_natCast] at hmo
      have hst : v 2 + zMi v (zAl v) cn - zMi v (j + 1) cn = zSt v (j + 1) := by
        have g1 := zMi_all (v := v) (A := zAl v) (S := j + 1) cn (fun k hk => by rw [zAl_b]; exact decide_eq_true (by omega))
        unfold zSt; rw [hc, Int.toNat_natCast]; omega
      refine gm_go_tr (gm_iload dX4_leastBySets_30 rfl) ?_
      refine gm_go_tr (gm_iload_n dX4_leastBySets_32 rfl) ?_
      refine gm_go_tr (gi_icmp_gt_f 111 dX4_leastBySets_33 (by decide) (by omega) (by omega) (by omega)) ?_
      refine gm_go_tr (gm_iload_n dX4_leastBySets_36 rfl) ?_
      refine gm_go_tr (gm_aload_n dX4_leastBySets_37 rfl (by first | exact Or.inl ⟨_, rfl⟩ | exact Or.inr ⟨_, rfl⟩)) ?_
      refine gm_go_tr (gm_iload dX4_leastBySets_38 rfl) ?_
      refine gm_go_tr (gm_cS dX4_leastBySets_40 (hmo) rfl mt_X4_minutesOf ms_X4_minutesOf (lk_X4_24 rfl) rfl (Nat.le_of_ble_eq_true rfl) (by decide)) ?_
      refine gm_go_tr (gi_sub dX4_leastBySets_43) ?_
      rw [hst]
      refine gm_go_tr (gm_istore (ls' := [_, _, _, _, _, _, _, _]) dX4_leastBySets_44 (by decide) rfl) ?_
      refine gm_go_tr (gm_ldci (v := zI 2147483647) dX4_leastBySets_46 (kc_X4_28 rfl)) ?_
      refine gm_go_tr (gm_istore (ls' := [_, _, _, _, _, _, _, _]) dX4_leastBySets_48 (by decide) rfl) ?_
      refine gm_go_tr (gi_const dX4_leastBySets_50) ?_
      refine gm_go_tr (gm_istore (ls' := [_, _, _, _, _, _, _, _]) dX4_leastBySets_51 (by decide) rfl) ?_
      refine gm_go_tr hin ?_
      refine gm_go_tr (gm_aload_n dX4_leastBySets_96 rfl (by first | exact Or.inl ⟨_, rfl⟩ | exact Or.inr ⟨_, rfl⟩)) ?_
      refine gm_go_tr (gm_get dX4_leastBySets_97 (fl_X4_9 rfl) p1 rfl) ?_
      refine gm_go_tr (gm_iload dX4_leastBySets_100 rfl) ?_
      refine gm_go_tr (gm_iload dX4_leastBySets_102 rfl) ?_
      refine gm_go_tr (gi_ast dX4_leastBySets_104 p2 (by omega) (by omega) (by decide)) ?_
      rw [show ((j + 1 : Nat) : Int).toNat = j + 1 by omega]
      refine gm_go_tr (gi_iinc (ls' := [_, _, _, _, _, _, _, _]) dX4_leastBySets_105 rfl (by decide) rfl) ?_
      exact gm_goto (tgt := 30) dX4_leastBySets_108 (by decide)
    · by_cases e : R = j + 1
      · rw [e, zU_s]
      · rw [zU_n e]; exact hF R (by omega)
    ) 0 (30, [some (.ref q), some (.ref r), some (.int (zI (zAl v : Nat))), some (.int (zI (v 2 + zMi v (zAl v) cn))), some (.int (zI ((0 + 1 : Nat) : Int))), none, none, none], [], (h.1.set (q + 1) (gA 128 (zU F (0 : Int).toNat 0)), h.2)) (by omega) ⟨_, _, none, none, none, rfl, ov_fr (K := fun k => k = q + 1) (gh_set (K := fun k => k = q + 1) gh_rf rfl _) (fun k hk z => by have := hk.1; have := hk.2; omega) hN, ⟨gs_n hO.1 (by omega), gs_s hO.2⟩, fun R hR => by rw [show R = 0 by omega]; exact zU_s, gh_set (K := fun k => k = q + 1) gh_rf rfl _⟩
  refine ⟨q9, F', ?_, hO', fun R hR => hF' R (by omega), hfr⟩
  obtain ⟨p1', p2'⟩ := id hO'
  obtain ⟨p1, p2⟩ := id hO
  obtain ⟨h1, h2⟩ := id hN
  have hmo := ct_minutesOf hN hv (S := zAl v) (by omega)
  rw [hc, Int.toNat_natCast] at hmo
  rw [hc] at h1
  have e1 : ((2 ^ cn : Nat) : Int) - 1 = (zAl v : Nat) := by have := Nat.two_pow_pos cn; unfold zAl; rw [hc, Int.toNat_natCast]; omega
  refine gm_co_of _ (by decide +kernel) rfl (Nat.le_of_ble_eq_true rfl) rfl ?_
  refine gm_go.ru (gi_const dX4_leastBySets_0) ?_
  refine gm_go.ru (gm_aload_n dX4_leastBySets_1 rfl (by first | exact Or.inl ⟨_, rfl⟩ | exact Or.inr ⟨_, rfl⟩)) ?_
  refine gm_go.ru (gm_get dX4_leastBySets_2 (fl_X4_15 rfl) h1 rfl) ?_
  refine gm_go.ru (gi_shl1 dX4_leastBySets_5 (by omega)) ?_
  refine gm_go.ru (gi_const dX4_leastBySets_6) ?_
  refine gm_go.ru (gi_sub dX4_leastBySets_7) ?_
  rw [e1]
  refine gm_go.ru (gm_istore_n (ls' := [_, _, _, _, _, _, _, _]) dX4_leastBySets_8 (by decide) rfl) ?_
  refine gm_go.ru (gm_aload_n dX4_leastBySets_9 rfl (by first | exact Or.inl ⟨_, rfl⟩ | exact Or.inr ⟨_, rfl⟩)) ?_
  refine gm_go.ru (gm_get dX4_leastBySets_10 (fl_X4_21 rfl) h1 rfl) ?_
  refine gm_go.ru (gm_aload_n dX4_leastBySets_13 rfl (by first | exact Or.inl ⟨_, rfl⟩ | exact Or.inr ⟨_, rfl⟩)) ?_
  refine gm_go.ru (gm_iload_n dX4_leastBySets_14 rfl) ?_
  refine gm_go.ru (gm_cS dX4_leastBySets_15 (hmo) rfl mt_X4_minutesOf ms_X4_minutesOf (lk_X4_24 rfl) rfl (Nat.le_of_ble_eq_true rfl) (by decide)) ?_
  refine gm_go.ru (gi_add dX4_leastBySets_18) ?_
  refine gm_go.ru (gm_istore_n (ls' := [_, _, _, _, _, _, _, _]) dX4_leastBySets_19 (by decide) rfl) ?_
  refine gm_go.ru (gm_aload_n dX4_leastBySets_20 rfl (by first | exact Or.inl ⟨_, rfl⟩ | exact Or.inr ⟨_, rfl⟩)) ?_
  refine gm_go.ru (gm_get dX4_leastBySets_21 (fl_X4_9 rfl) p1 rfl) ?_
  refine gm_go.ru (gi_const dX4_leastBySets_24) ?_
  refine gm_go.ru (gi_const dX4_leastBySets_25) ?_
  refine gm_go.ru (gi_ast dX4_leastBySets_26 p2 (by omega) (by omega) (by decide)) ?_
  refine gm_go.ru (gi_const dX4_leastBySets_27) ?_
  refine gm_go.ru (gm_istore (ls' := [_, _, _, _, _, _, _, _]) dX4_leastBySets_28 (by decide) rfl) ?_
  refine gm_go.ru hgo ?_
  refine gm_go.ru (gm_iload dX4_leastBySets_30 rfl) ?_
  refine gm_go.ru (gm_iload_n dX4_leastBySets_32 rfl) ?_
  refine gm_go.ru (gi_icmp_gt_t (tgt := 111) dX4_leastBySets_33 (by decide) (by omega) (by omega) (by omega)) ?_
  refine gm_go.ru (gm_aload_n dX4_leastBySets_111 rfl (by first | exact Or.inl ⟨_, rfl⟩ | exact Or.inr ⟨_, rfl⟩)) ?_
  refine gm_go.ru (gm_get dX4_leastBySets_112 (fl_X4_9 rfl) p1' rfl) ?_
  refine gm_go.ru (gm_iload_n dX4_leastBySets_115 rfl) ?_
  refine gm_go.ru (gi_ald dX4_leastBySets_116 p2' (by omega) (by omega) (by decide)) ?_
  rw [Int.toNat_natCast, hF' (zAl v) (by omega)]
  exact gm_iret dX4_leastBySets_117 rfl
