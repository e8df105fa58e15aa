set_option maxRecDepth 4000 in
theorem ct_bestFirstPlace {h : gm_H} {r T : Nat} {v : Nat → Int} (hN : ov_at h r v) (hv : ov_iv T v) {q : Nat} {F : Nat → Int} (hO : or_at h q F) (hd : r + 5 ≤ q ∨ q + 2 ≤ r) : ∃ h' F', gm_co mX4_bestFirstPlace 4 [.ref q, .ref r] h (.inl (some (.int (zI (zBf v (v 4).toNat 0))))) h' ∧ or_at h' q F' ∧ gh_fr h h' (fun k => k = q + 1) := by
  obtain ⟨cn, hc, hc7⟩ := ov_cnt hv
  have hal := zAl_lt (v := v) (by omega)
  obtain ⟨q2, q3, q4, q5, q6, q7, q8, qT, qB⟩ := id hv
  obtain ⟨h', F', hl, hO', hF', hfr⟩ := ct_orLeastBySets hN hv hO hd
  have hN' := ov_fr hfr (fun k hk z => by have := hk.1; have := hk.2; omega) hN
  obtain ⟨h1', h2'⟩ := id hN'
  obtain ⟨p1, p2⟩ := id hO
  obtain ⟨p1', p2'⟩ := id hO'
  have hLb := zL'_b hv (zOk_al (v := v) (by omega) (Nat.le_refl _))
  rw [hc] at h1'
  have e1 : ((2 ^ cn : Nat) : Int) - 1 = (zAl v : Nat) := by have := Nat.two_pow_pos cn; unfold zAl; rw [hc, Int.toNat_natCast]; omega
  refine ⟨h', F', ?_, hO', hfr⟩
  refine gm_co_of _ (by decide +kernel) rfl (Nat.le_of_ble_eq_true rfl) rfl ?_
  have key : ∀ (m j : Nat), j + m = cn → gm_ru mX4_bestFirstPlace 4 (18, [some (.ref q), some (.ref r), some (.int (zI (zL' v (zAl v)))), some (.int (zI (zAl v : Nat))), some (.int (zI j))], [], h') (.inl (some (.int (zI (zBf v m j))))) h' := by
    intro m
    induction m with
    | zero =>
      intro j hj
      obtain rfl : j = cn := by omega
      refine gm_go.ru (gm_iload dX4_bestFirstPlace_18 rfl) ?_
      refine gm_go.ru (gm_aload_n dX4_bestFirstPlace_20 rfl (by first | exact Or.inl ⟨_, rfl⟩ | exact Or.inr ⟨_, rfl⟩)) ?_
      refine gm_go.ru (gm_get dX4_bestFirstPlace_21 (fl_X4_15 rfl) h1' rfl) ?_
      refine gm_go.ru (gi_icmp_ge_t (tgt := 52) dX4_bestFirstPlace_24 (by decide) (by omega) (by omega) (by omega)) ?_
      refine gm_go.ru (gi_const dX4_bestFirstPlace_52) ?_
      exact gm_iret dX4_bestFirstPlace_53 rfl
    | succ m ih =>
      intro j hj
      have e := ih (j + 1) (by omega)
      have hle := zC_lt (zAl v) (by omega) j (by omega)
      have eF := hF' (zC (zAl v) j) hle.1
      have hb1 := zL'_b hv (zOk_C (k := j) (zOk_al (v := v) (by omega) (Nat.le_refl _)) (by omega))
      have hb2 := zLt_r hv (k := j) (by omega) q2
      refine gm_go.ru (gm_iload dX4_bestFirstPlace_18 rfl) ?_
      refine gm_go.ru (gm_aload_n dX4_bestFirstPlace_20 rfl (by first | exact Or.inl ⟨_, rfl⟩ | exact Or.inr ⟨_, rfl⟩)) ?_
      refine gm_go.ru (gm_get dX4_bestFirstPlace_21 (fl_X4_15 rfl) h1' rfl) ?_
      refine gm_go.ru (gi_icmp_ge_f 52 dX4_bestFirstPlace_24 (by decide) (by omega) (by omega) (by omega)) ?_
      refine gm_go.ru (gm_aload_n dX4_bestFirstPlace_27 rfl (by first | exact Or.inl ⟨_, rfl⟩ | exact Or.inr ⟨_, rfl⟩)) ?_
      refine gm_go.ru (gm_aload_n dX4_bestFirstPlace_28 rfl (by first | exact Or.inl ⟨_, rfl⟩ | exact Or.inr ⟨_, rfl⟩)) ?_
      refine gm_go.ru (gm_iload_n dX4_bestFirstPlace_29 rfl) ?_
      refine gm_go.ru (gm_iload dX4_bestFirstPlace_30 rfl) ?_
      refine gm_go.ru (gm_aload_n dX4_bestFirstPlace_32 rfl (by first | exact Or.inl ⟨_, rfl⟩ | exact Or.inr ⟨_, rfl⟩)) ?_
      refine gm_go.ru (gm_get dX4_bestFirstPlace_33 (fl_X4_21 rfl) h1' rfl) ?_
      refine gm_go.ru (gm_cV dX4_bestFirstPlace_36 (ct_beginningWith hN' hv hO' (S := zAl v) (b := j) hal (by omega) (by omega) ⟨by omega, by omega⟩) rfl mt_X4_beginningWith mv_X4_beginningWith (lk_X4_33 rfl) (Or.inl ⟨_, 6, _, _, _, rfl, p1', rfl⟩) rfl (Nat.le_of_ble_eq_true rfl) (by decide)) ?_
      rw [eF]
      refine gm_go.ru (gm_iload_n dX4_bestFirstPlace_39 rfl) ?_
      rw [zBf]
      by_cases c : zLt v j (v 2) + zL' v (zC (zAl v) j) = zL' v (zAl v)
      ·
        rw [if_pos c]
        refine gm_go.ru (gi_icmp_ne_f 46 dX4_bestFirstPlace_40 (by decide) (by omega) (by omega) c) ?_
        refine gm_go.ru (gm_iload dX4_bestFirstPlace_43 rfl) ?_
        exact gm_iret dX4_bestFirstPlace_45 rfl
      ·
        rw [if_neg c]
        refine gm_go.ru (gi_icmp_ne_t (tgt := 46) dX4_bestFirstPlace_40 (by decide) (by omega) (by omega) c) ?_
        refine gm_go.ru (gi_iinc (ls' := [_, _, _, _, _]) dX4_bestFirstPlace_46 rfl (by decide) rfl) ?_
        refine gm_go.ru (gm_goto (tgt := 18) dX4_bestFirstPlace_49 (by decide)) ?_
        exact e
  refine gm_go.ru (gm_aload_n dX4_bestFirstPlace_0 rfl (by first | exact Or.inl ⟨_, rfl⟩ | exact Or.inr ⟨_, rfl⟩)) ?_
  refine gm_go.ru (gm_aload_n dX4_bestFirstPlace_1 rfl (by first | exact Or.inl ⟨_, rfl⟩ | exact Or.inr ⟨_, rfl⟩)) ?_
  refine gm_go.ru (gm_cV dX4_bestFirstPlace_2 (hl) rfl mt_X4_leastBySets mv_X4_leastBySets (lk_X4_49 rfl) (Or.inl ⟨_, 6, _, _, _, rfl, p1, rfl⟩) rfl (Nat.le_of_ble_eq_true rfl) (by decide)) ?_
  refine gm_go.ru (gm_istore_n (ls' := [_, _, _, _, _]) dX4_bestFirstPlace_5 (by decide) rfl) ?_
  refine gm_go.ru (gi_const dX4_bestFirstPlace_6) ?_
  refine gm_go.ru (gm_aload_n dX4_bestFirstPlace_7 rfl (by first | exact Or.inl ⟨_, rfl⟩ | exact Or.inr ⟨_, rfl⟩)) ?_
  refine gm_go.ru (gm_get dX4_bestFirstPlace_8 (fl_X4_15 rfl) h1' rfl) ?_
  refine gm_go.ru (gi_shl1 dX4_bestFirstPlace_11 (by omega)) ?_
  refine gm_go.ru (gi_const dX4_bestFirstPlace_12) ?_
  refine gm_go.ru (gi_sub dX4_bestFirstPlace_13) ?_
  rw [e1]
  refine gm_go.ru (gm_istore_n (ls' := [_, _, _, _, _]) dX4_bestFirstPlace_14 (by decide) rfl) ?_
  refine gm_go.ru (gi_const dX4_bestFirstPlace_15) ?_
  refine gm_go.ru (gm_istore (ls' := [_, _, _, _, _]) dX4_bestFirstPlace_16 (by decide) rfl) ?_
  rw [hc, Int.toNat_natCast]
  exact key cn 0 (by omega)
