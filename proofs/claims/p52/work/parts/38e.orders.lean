set_option maxRecDepth 4000 in
theorem ct_leastByTrying {h : gm_H} {r T : Nat} {v : Nat → Int} (hN : ov_at h r v) (hv : ov_iv T v) {q : Nat} : gm_co mX4_leastByTrying 10 [.ref q, .ref r] h (.inl (some (.int (zI (zL' v (zAl v)))))) h := by
  refine gm_co_of _ (by decide +kernel) rfl (Nat.le_of_ble_eq_true rfl) rfl ?_
  obtain ⟨cn, hc, hc7⟩ := ov_cnt hv
  have hok := zOk_al (v := v) (by omega) (Nat.le_refl _)
  have hLb := zL'_b hv hok
  obtain ⟨h1, I, M, D, W, h2, h3, h4, h5, h6⟩ := id hN
  rw [hc] at h1
  have hn7 : zn (zAl v) ≤ 7 := by
    have h9 := zK_ext (p := fun k => (zAl v).testBit k) (m := 7) 8 (by omega) (fun k hk hk8 => Nat.testBit_lt_two_pow (Nat.lt_of_lt_of_le hok.1 (Nat.pow_le_pow_right (by decide) hk : 2 ^ 7 ≤ 2 ^ k)))
    have h8 := zK_le (fun k => (zAl v).testBit k) 7
    unfold zn; omega
  have hb := ct_bestFrom hN hv 7 (zAl v) 0 0 2147483647 hok hn7 (by omega) (by omega) (by omega)
  rw [zSt_al, show min 2147483647 (0 + zL' v (zAl v)) = zL' v (zAl v) by omega] at hb
  have e1 : ((2 ^ cn : Nat) : Int) - 1 = (zAl v : Nat) := by have := Nat.two_pow_pos cn; unfold zAl; rw [hc, Int.toNat_natCast]; omega
  refine gm_go.ru (gm_aload_n dX4_leastByTrying_0 rfl (by first | exact Or.inl ⟨_, rfl⟩ | exact Or.inr ⟨_, rfl⟩)) ?_
  refine gm_go.ru (gi_const dX4_leastByTrying_1) ?_
  refine gm_go.ru (gm_aload_n dX4_leastByTrying_2 rfl (by first | exact Or.inl ⟨_, rfl⟩ | exact Or.inr ⟨_, rfl⟩)) ?_
  refine gm_go.ru (gm_get dX4_leastByTrying_3 (fl_X4_15 rfl) h1 rfl) ?_
  refine gm_go.ru (gi_shl1 dX4_leastByTrying_6 (by omega)) ?_
  refine gm_go.ru (gi_const dX4_leastByTrying_7) ?_
  refine gm_go.ru (gi_sub dX4_leastByTrying_8) ?_
  rw [e1]
  refine gm_go.ru (gm_aload_n dX4_leastByTrying_9 rfl (by first | exact Or.inl ⟨_, rfl⟩ | exact Or.inr ⟨_, rfl⟩)) ?_
  refine gm_go.ru (gm_get dX4_leastByTrying_10 (fl_X4_21 rfl) h1 rfl) ?_
  refine gm_go.ru (gi_const dX4_leastByTrying_13) ?_
  refine gm_go.ru (gm_ldci (v := zI 2147483647) dX4_leastByTrying_14 (kc_X4_28 rfl)) ?_
  refine gm_go.ru (gi_const dX4_leastByTrying_16) ?_
  refine gm_go.ru (gm_cS dX4_leastByTrying_17 (hb) rfl mt_X4_bestFrom ms_X4_bestFrom (lk_X4_53 rfl) rfl (Nat.le_of_ble_eq_true rfl) (by decide)) ?_
  exact gm_iret dX4_leastByTrying_20 rfl
set_option maxRecDepth 4000 in
theorem ct_latenessInOrderOfIds {h : gm_H} {r T : Nat} {v : Nat → Int} (hN : ov_at h r v) (hv : ov_iv T v) {q : Nat} : gm_co mX4_latenessInOrderOfIds 2 [.ref q, .ref r] h (.inl (some (.int (zI (zLi v (v 4).toNat))))) h := by
  refine gm_co_of _ (by decide +kernel) rfl (Nat.le_of_ble_eq_true rfl) rfl ?_
  obtain ⟨cn, hc, hc7⟩ := ov_cnt hv
  obtain ⟨h1, I, M, D, W, h2, h3, h4, h5, h6⟩ := id hN
  obtain ⟨q2, q3, q4, q5, q6, q7, q8, qT, qB⟩ := id hv
  have key : ∀ (m j : Nat), j + m = cn → gm_ru mX4_latenessInOrderOfIds 2 (10, [some (.ref q), some (.ref r), some (.int (zI (zLi v j))), some (.int (zI (zLs v j))), some (.int (zI j))], [], h) (.inl (some (.int (zI (zLi v cn))))) h := by
    intro m
    induction m with
    | zero =>
      intro j hj
      obtain rfl : j = cn := by omega
      rw [hc] at h1
      refine gm_go.ru (gm_iload dX4_latenessInOrderOfIds_10 rfl) ?_
      refine gm_go.ru (gm_aload_n dX4_latenessInOrderOfIds_12 rfl (by first | exact Or.inl ⟨_, rfl⟩ | exact Or.inr ⟨_, rfl⟩)) ?_
      refine gm_go.ru (gm_get dX4_latenessInOrderOfIds_13 (fl_X4_15 rfl) h1 rfl) ?_
      refine gm_go.ru (gi_icmp_ge_t (tgt := 45) dX4_latenessInOrderOfIds_16 (by decide) (by omega) (by omega) (by omega)) ?_
      refine gm_go.ru (gm_iload_n dX4_latenessInOrderOfIds_45 rfl) ?_
      exact gm_iret dX4_latenessInOrderOfIds_46 rfl
    | succ m ih =>
      intro j hj
      have e := ih (j + 1) (by omega)
      rw [zLi, zLs] at e
      rw [hc] at h1
      have ej := (h6 j (by omega)).2.1
      have hs := zLs_r hv j (by omega)
      refine gm_go.ru (gm_iload dX4_latenessInOrderOfIds_10 rfl) ?_
      refine gm_go.ru (gm_aload_n dX4_latenessInOrderOfIds_12 rfl (by first | exact Or.inl ⟨_, rfl⟩ | exact Or.inr ⟨_, rfl⟩)) ?_
      refine gm_go.ru (gm_get dX4_latenessInOrderOfIds_13 (fl_X4_15 rfl) h1 rfl) ?_
      refine gm_go.ru (gi_icmp_ge_f 45 dX4_latenessInOrderOfIds_16 (by decide) (by omega) (by omega) (by omega)) ?_
      refine gm_go.ru (gm_iload_n dX4_latenessInOrderOfIds_19 rfl) ?_
      refine gm_go.ru (gm_aload_n dX4_latenessInOrderOfIds_20 rfl (by first | exact Or.inl ⟨_, rfl⟩ | exact Or.inr ⟨_, rfl⟩)) ?_
      refine gm_go.ru (gm_iload dX4_latenessInOrderOfIds_21 rfl) ?_
      refine gm_go.ru (gm_iload_n dX4_latenessInOrderOfIds_23 rfl) ?_
      refine gm_go.ru (gm_cV dX4_latenessInOrderOfIds_24 (ct_latenessFrom hN hv (k := j) (by omega) ⟨by omega, by omega⟩) rfl mt_X5_latenessFrom mv_X5_latenessFrom (lk_X4_43 rfl) (Or.inl ⟨_, 7, _, _, _, rfl, h1, rfl⟩) rfl (Nat.le_of_ble_eq_true rfl) (by decide)) ?_
      refine gm_go.ru (gi_add dX4_latenessInOrderOfIds_27) ?_
      refine gm_go.ru (gm_istore_n (ls' := [_, _, _, _, _]) dX4_latenessInOrderOfIds_28 (by decide) rfl) ?_
      refine gm_go.ru (gm_iload_n dX4_latenessInOrderOfIds_29 rfl) ?_
      refine gm_go.ru (gm_aload_n dX4_latenessInOrderOfIds_30 rfl (by first | exact Or.inl ⟨_, rfl⟩ | exact Or.inr ⟨_, rfl⟩)) ?_
      refine gm_go.ru (gm_get dX4_latenessInOrderOfIds_31 (fl_X4_46 rfl) h1 rfl) ?_
      refine gm_go.ru (gm_iload dX4_latenessInOrderOfIds_34 rfl) ?_
      refine gm_go.ru (gi_ald dX4_latenessInOrderOfIds_36 h3 (by omega) (by omega) (by decide)) ?_
      rw [Int.toNat_natCast, ej]
      refine gm_go.ru (gi_add dX4_latenessInOrderOfIds_37) ?_
      refine gm_go.ru (gm_istore_n (ls' := [_, _, _, _, _]) dX4_latenessInOrderOfIds_38 (by decide) rfl) ?_
      refine gm_go.ru (gi_iinc (ls' := [_, _, _, _, _]) dX4_latenessInOrderOfIds_39 rfl (by decide) rfl) ?_
      refine gm_go.ru (gm_goto (tgt := 10) dX4_latenessInOrderOfIds_42 (by decide)) ?_
      exact e
  refine gm_go.ru (gi_const dX4_latenessInOrderOfIds_0) ?_
  refine gm_go.ru (gm_istore_n (ls' := [_, _, _, _, _]) dX4_latenessInOrderOfIds_1 (by decide) rfl) ?_
  refine gm_go.ru (gm_aload_n dX4_latenessInOrderOfIds_2 rfl (by first | exact Or.inl ⟨_, rfl⟩ | exact Or.inr ⟨_, rfl⟩)) ?_
  refine gm_go.ru (gm_get dX4_latenessInOrderOfIds_3 (fl_X4_21 rfl) h1 rfl) ?_
  refine gm_go.ru (gm_istore_n (ls' := [_, _, _, _, _]) dX4_latenessInOrderOfIds_6 (by decide) rfl) ?_
  refine gm_go.ru (gi_const dX4_latenessInOrderOfIds_7) ?_
  refine gm_go.ru (gm_istore (ls' := [_, _, _, _, _]) dX4_latenessInOrderOfIds_8 (by decide) rfl) ?_
  rw [hc, Int.toNat_natCast]
  exact key cn 0 (by omega)
