set_option maxRecDepth 4000 in
theorem lhg_writeLabel {h h' : gm_H} {n o D : Nat} {hs ep fc : Int} {a : Int} (hB : h.1[n]? = some (by_c n hs ep fc)) (hD : D < 13) {r : Int} (hr : zR r) (hc : gm_co mX10_writeLabel D [.ref n, .int (zI a)] h (.inl (some (.int (zI r)))) h') {f : Nat → Int64} (ho : h'.1[o]? = some (gLo f)) : ∃ f', gm_co mL_writeLabel 13 [.ref n, .int (zI a), .ref o] h (.inl (some (.int (zI 0)))) (h'.1.set o (gLo f'), h'.2) ∧ f' 0 = zL r := by
  refine ⟨vp_updL f (zI 0).toNatClampNeg (zL r), ?_, by rw [z_0cl]; exact if_pos rfl⟩
  refine gm_co_ofH _ (by decide +kernel) (List.cons_ne_nil _ _) (Nat.le_of_ble_eq_true rfl) rfl ?_
  refine gm_go.ru (gm_aload_n dL_writeLabel_0 rfl (by first | exact Or.inl ⟨_, rfl⟩ | exact Or.inr ⟨_, rfl⟩)) ?_
  refine gm_go.ru (gi_const dL_writeLabel_1) ?_
  refine gm_go.ru (gm_aload_n dL_writeLabel_2 rfl (by first | exact Or.inl ⟨_, rfl⟩ | exact Or.inr ⟨_, rfl⟩)) ?_
  refine gm_go.ru (gm_iload_n dL_writeLabel_3 rfl) ?_
  refine gm_go.ru (gm_cV dL_writeLabel_4 (hc) rfl mt_X10_writeLabel mv_X10_writeLabel (lk_L_112 rfl) (Or.inl ⟨_, 11, _, _, _, rfl, hB, rfl⟩) rfl (Nat.le_of_ble_eq_true rfl) hD) ?_
  refine gm_go.ru (gi_i2l dL_writeLabel_7 hr) ?_
  refine gm_go.ru (gm_last dL_writeLabel_8 ho z_0in) ?_
  refine gm_go.ru (gm_goto (tgt := 15) dL_writeLabel_9 (by decide)) ?_
  refine gm_go.ru (gi_const dL_writeLabel_15) ?_
  exact gm_iret dL_writeLabel_16 rfl
set_option maxRecDepth 4000 in
theorem lxg_writeLabel_1 {h h' : gm_H} {n o D : Nat} {hs ep fc : Int} {a : Int} (hB : h.1[n]? = some (by_c n hs ep fc)) (hD : D < 13) (hc : gm_co mX10_writeLabel D [.ref n, .int (zI a)] h (.inr "java/lang/IndexOutOfBoundsException") h') : gm_co mL_writeLabel 13 [.ref n, .int (zI a), .ref o] h (.inl (some (.int (zI 1)))) h' := by
  refine gm_co_ofH _ (by decide +kernel) (List.cons_ne_nil _ _) (Nat.le_of_ble_eq_true rfl) rfl ?_
  refine gm_go.ru (gm_aload_n dL_writeLabel_0 rfl (by first | exact Or.inl ⟨_, rfl⟩ | exact Or.inr ⟨_, rfl⟩)) ?_
  refine gm_go.ru (gi_const dL_writeLabel_1) ?_
  refine gm_go.ru (gm_aload_n dL_writeLabel_2 rfl (by first | exact Or.inl ⟨_, rfl⟩ | exact Or.inr ⟨_, rfl⟩)) ?_
  refine gm_go.ru (gm_iload_n dL_writeLabel_3 rfl) ?_
  refine gm_go.ru (gm_catch_n (gm_runV (As := [.int (zI a)]) (rest := [.int (zI 0), .ref o]) dL_writeLabel_4 hc mt_X10_writeLabel mv_X10_writeLabel (lk_L_112 rfl) (Or.inl ⟨_, 11, _, _, _, rfl, hB, rfl⟩) rfl (Nat.le_of_ble_eq_true rfl) hD) [] ⟨0, 9, 12, 21⟩ [] rfl (fun z hz => absurd hz List.not_mem_nil) (by decide) (by decide) lc_21 lt_21 dL_writeLabel_12 (Nat.le_of_ble_eq_true rfl)) ?_
  refine gm_go.ru (gi_const dL_writeLabel_13) ?_
  exact gm_iret dL_writeLabel_14 rfl
def nz (a : Int) : Int := (zI a).toInt
theorem nz_r (a : Int) : zR (nz a) := gx_r _
theorem nzc {M : gm_M} {D : Nat} {as : List Value} {h h' : gm_H} {a : Int} (c : gm_co M D as h (.inl (some (.int (zI a)))) h') : gm_co M D as h (.inl (some (.int (zI (nz a))))) h' := by
  unfold nz
  rw [zI_of]
  exact c
theorem ln_0 {K F S X : Nat → Int} {Q : Nat → Nat → Int} {c L g T : Nat} {z : Int} (hN : LN K F S Q X c L g T) : LN (zU K 0 z) F S Q X c L g T := hN
theorem li_q {h1 h2 : gm_H} {n J R c L g T : Nat} {z : Int} {K F S P X Ln : Nat → Int} (M1 : LM h1 (n + 113) K F S P X Ln) (B1 : LB h1 n (K 4) (K 2) (K 3) F S (zSt8 P) X Ln c L g R) (O1 : LO h1 n) (hN : LN K F S (zSt8 P) X c L g T) (hT : T + L ≤ J) (d2 : h2.1[n + 113]? = some (md_c (n + 113) (zU K 0 z))) (d3 : gh_fr h1 h2 (fun k => k = n + 113)) : LI h2 n (J + 1) R :=
  li_of (lm_q M1 d2 d3) (lb_fr B1 d3 (fun k a y => by omega)) (lo_fr O1 d3 (by omega) (by omega)) (ln_0 hN) rfl rfl rfl (fun _ _ => rfl) (fun _ _ _ => rfl) (fun _ _ _ _ => rfl) (by omega)
theorem li_q5 {h1 h2 : gm_H} {n J R c L g T : Nat} {z : Int} {K F S P X Ln B : Nat → Int} (M1 : LM h1 (n + 113) K F S P X Ln) (B1 : LB h1 n (K 4) (K 2) (K 3) F S (zSt8 P) X Ln c L g R) (O1 : LO h1 n) (hN : LN K F S (zSt8 P) X c L g T) (hT : T + L ≤ J) (d2 : h2.1[n + 113]? = some (md_c (n + 113) (zU K 0 z))) (d4 : h2.1[n + 113 + 5]? = some (gA 256 B)) (d3 : gh_fr h1 h2 (fun k => k = n + 113 ∨ k = n + 113 + 5)) : LI h2 n (J + 1) R :=
  li_of (lm_q5 M1 d2 d4 d3) (lb_fr B1 d3 (fun k a y => by omega)) (lo_fr O1 d3 (by omega) (by omega)) (ln_0 hN) rfl rfl rfl (fun _ _ => rfl) (fun _ _ _ => rfl) (fun _ _ _ _ => rfl) (by omega)
theorem li_q6 {h1 h2 : gm_H} {n J R c L g T : Nat} {z : Int} {K F S P X Ln B : Nat → Int} (M1 : LM h1 (n + 113) K F S P X Ln) (B1 : LB h1 n (K 4) (K 2) (K 3) F S (zSt8 P) X Ln c L g R) (O1 : LO h1 n) (hN : LN K F S (zSt8 P) X c L g T) (hT : T + L ≤ J) (d2 : h2.1[n + 113]? = some (md_c (n + 113) (zU K 0 z))) (d4 : h2.1[n + 113 + 6]? = some (gA 128 B)) (d3 : gh_fr h1 h2 (fun k => k = n + 113 ∨ k = n + 113 + 6)) : LI h2 n (J + 1) R :=
  li_of (lm_q6 M1 d2 d4 d3) (lb_fr B1 d3 (fun k a y => by omega)) (lo_fr O1 d3 (by omega) (by omega)) (ln_0 hN) rfl rfl rfl (fun _ _ => rfl) (fun _ _ _ => rfl) (fun _ _ _ _ => rfl) (by omega)
theorem li_q7 {h1 h2 : gm_H} {n J R c L g T : Nat} {z : Int} {K F S P X Ln B : Nat → Int} (M1 : LM h1 (n + 113) K F S P X Ln) (B1 : LB h1 n (K 4) (K 2) (K 3) F S (zSt8 P) X Ln c L g R) (O1 : LO h1 n) (hN : LN K F S (zSt8 P) X c L g T) (hT : T + L ≤ J) (d2 : h2.1[n + 113]? = some (md_c (n + 113) (zU K 0 z))) (d4 : h2.1[n + 113 + 7]? = some (gA 360 B)) (d3 : gh_fr h1 h2 (fun k => k = n + 113 ∨ k = n + 113 + 7)) : LI h2 n (J + 1) R :=
  li_of (lm_q7 M1 d2 d4 d3) (lb_fr B1 d3 (fun k a y => by omega)) (lo_fr O1 d3 (by omega) (by omega)) (ln_0 hN) rfl rfl rfl (fun _ _ => rfl) (fun _ _ _ => rfl) (fun _ _ _ _ => rfl) (by omega)
theorem li_mod {h1 h2 : gm_H} {n J R c L g T : Nat} {K F S P X Ln F1 F' P' B2 : Nat → Int} (M1 : LM h1 (n + 113) K F S P X Ln) (B1 : LB h1 n (K 4) (K 2) (K 3) F1 S (zPush (zSt8 P) c F) X Ln (min (c + 1) 8) L g R) (O1 : LO h1 n) (hN : LN K F S (zSt8 P) X c L g T) (hT : T + L ≤ J) (hJ : J < 600) (q3 : st_iv (T + 1) F1) (d2 : h2.1[n + 113]? = some (md_c (n + 113) (zU (zU K 0 0) 1 ((min (c + 1) 8 : Nat) : Int)))) (d3 : h2.1[n + 113 + 1]? = some (gA 118 F')) (d4 : ∀ k, k < 118 → F' k = F1 k) (d5 : h2.1[n + 113 + 2]? = some (gA 118 B2)) (d6 : h2.1[n + 113 + 4]? = some (gA 944 P')) (d7 : ∀ i, i < min (c + 1) 8 → ∀ k, k < 118 → zSt8 P' i k = zPush (zSt8 P) c F i k) (d8 : gh_fr h1 h2 (mk_K (n + 113))) : LI h2 n (J + 1) R := by
  obtain ⟨n1, n2, n3, n4, n5, n6, n7, n8, n9, n10, n11, n12⟩ := hN
  exact li_of (lm_mod M1 d2 d3 d5 d6 d8) (lb_fr B1 d8 (fun k a y => by simp only [mk_K] at y; omega)) (lo_fr O1 d8 (by intro y; simp only [mk_K] at y; omega) (by intro y; simp only [mk_K] at y; omega)) (T := T + 1) ⟨rfl, by omega, n3, n4, n5, n6, n7, n8, n9, q3, fun z => st_mono (n11 z) (by omega) (by omega), fun i hi => st_mono (zPush_iv n2 n12 n10 i hi) (by omega) (by omega)⟩ rfl rfl rfl d4 (fun _ _ _ => rfl) d7 (by omega)
theorem li_modX {h1 h2 : gm_H} {n J R c L g T : Nat} {z : Int} {K F S P X Ln F' B2 : Nat → Int} (M1 : LM h1 (n + 113) K F S P X Ln) (B1 : LB h1 n (K 4) (K 2) (K 3) F S (zSt8 P) X Ln c L g R) (O1 : LO h1 n) (hN : LN K F S (zSt8 P) X c L g T) (hT : T + L ≤ J) (d2 : h2.1[n + 113]? = some (md_c (n + 113) (zU K 0 z))) (d3 : h2.1[n + 113 + 1]? = some (gA 118 F')) (d4 : ∀ k, k < 118 → F' k = F k) (d5 : h2.1[n + 113 + 2]? = some (gA 118 B2)) (d6 : h2.1[n + 113 + 4]? = some (gA 944 P)) (d8 : gh_fr h1 h2 (mk_K (n + 113))) : LI h2 n (J + 1) R :=
  li_of (lm_mod M1 d2 d3 d5 d6 d8) (lb_fr B1 d8 (fun k a y => by simp only [mk_K] at y; omega)) (lo_fr O1 d8 (by intro y; simp only [mk_K] at y; omega) (by intro y; simp only [mk_K] at y; omega)) (ln_0 hN) rfl rfl rfl d4 (fun _ _ _ => rfl) (fun _ _ _ _ => rfl) (by omega)
set_option maxRecDepth 4000 in
theorem lo_strengthOf {h : gm_H} {n J R : Nat} (I : LI h n J R) (hJ : J < 600) {a : Int} (ha : zR a) : ∃ h2 k y, LH h h2 n mL_strengthOf [.ref n, .int (zI a), .ref (n + 126)] mX11_strengthOf [.ref (n + 113), .int (zI a)] k (.int (zI y)) ∧ zR y ∧ (k = 0 → ∃ g, h2.1[n + 126]? = some (gLo g) ∧ g 0 = zL y) ∧ LI h2 n (J + 1) (R + 1) := by
  obtain ⟨K, F, S, P, X, Ln, cn, L, g, T, hM, hB, hO, hN, hT⟩ := I
  have hv := hN.2.2.2.2.2.2.2.2.2.1
  by_cases hq : 0 ≤ a ∧ a < F 0
  ·
    obtain ⟨f0, hf0⟩ := hO.1
    obtain ⟨g1, c1, c2⟩ := lh_strengthOf hB.1 (by decide) (nz_r _) (nzc (ct_strengthOf hB.1 hB.2.1 hv.1 ha hq)) hf0
    have M1 := lm_set (k := n + 126) (Or.inl rfl) (gLo g1) hM
    have B1 := lb_up (lb_set (k := n + 126) (Or.inl rfl) (gLo g1) hB)
    have O1 := lo_set (f := g1) hO
    have e1 := gs_s (c' := gLo g1) hf0
    obtain ⟨h2, d1, d2, d3⟩ := ct_m_strengthOf M1.1 M1.2.1 hv.1 ha hq
    exact ⟨h2, 0, _, ⟨_, _, _, _, _, by decide, by decide, c1, M1.1, nzc d1, d2, rfl, zR_0⟩, nz_r _, fun _ => ⟨g1, gh_at d3 e1 (by omega), c2⟩, li_q M1 B1 O1 hN hT d2 d3⟩
  ·
    have c1 := lx_strengthOf_1 (o := n + 126) hB.1 (by decide) (ct_strengthOfX hB.1 hB.2.1 hv.1 ha hq)
    have M1 : LM (zTh h) (n + 113) _ _ _ _ _ _ := hM
    have B1 := lb_th hB
    have O1 : LO (zTh h) n := hO
    obtain ⟨h2, d1, d2, d3⟩ := ct_m_strengthOfX M1.1 M1.2.1 hv.1 ha hq
    exact ⟨h2, 1, _, ⟨_, _, _, _, _, by decide, by decide, c1, M1.1, d1, d2, rfl, (by omega)⟩, zR_0, fun z => absurd z (by omega), li_q M1 B1 O1 hN hT d2 d3⟩
set_option maxRecDepth 4000 in
theorem lo_errorOf {h : gm_H} {n J R : Nat} (I : LI h n J R) (hJ : J < 600) {a : Int} (ha : zR a) : ∃ h2 k y, LH h h2 n mL_errorOf [.ref n, .int (zI a), .ref (n + 126)] mX11_errorOf [.ref (n + 113), .int (zI a)] k (.int (zI y)) ∧ zR y ∧ (k = 0 → ∃ g, h2.1[n + 126]? = some (gLo g) ∧ g 0 = zL y) ∧ LI h2 n (J + 1) (R + 1) := by
  obtain ⟨K, F, S, P, X, Ln, cn, L, g, T, hM, hB, hO, hN, hT⟩ := I
  have hv := hN.2.2.2.2.2.2.2.2.2.1
  by_cases hq : 0 ≤ a ∧ a < F 0
  ·
    obtain ⟨f0, hf0⟩ := hO.1
    obtain ⟨g1, c1, c2⟩ := lh_errorOf hB.1 (by decide) (nz_r _) (nzc (ct_errorOf hB.1 hB.2.1 hv.1 ha hq)) hf0
    have M1 := lm_set (k := n + 126) (Or.inl rfl) (gLo g1) hM
    have B1 := lb_up (lb_set (k := n + 126) (Or.inl rfl) (gLo g1) hB)
    have O1 := lo_set (f := g1) hO
    have e1 := gs_s (c' := gLo g1) hf0
    obtain ⟨h2, d1, d2, d3⟩ := ct_m_errorOf M1.1 M1.2.1 hv.1 ha hq
    exact ⟨h2, 0, _, ⟨_, _, _, _, _, by decide, by decide, c1, M1.1, nzc d1, d2, rfl, zR_0⟩, nz_r _, fun _ => ⟨g1, gh_at d3 e1 (by omega), c2⟩, li_q M1 B1 O1 hN hT d2 d3⟩
  ·
    have c1 := lx_errorOf_1 (o := n + 126) hB.1 (by decide) (ct_errorOfX hB.1 hB.2.1 hv.1 ha hq)
    have M1 : LM (zTh h) (n + 113) _ _ _ _ _ _ := hM
    have B1 := lb_th hB
    have O1 : LO (zTh h) n := hO
    obtain ⟨h2, d1, d2, d3⟩ := ct_m_errorOfX M1.1 M1.2.1 hv.1 ha hq
    exact ⟨h2, 1, _, ⟨_, _, _, _, _, by decide, by decide, c1, M1.1, d1, d2, rfl, (by omega)⟩, zR_0, fun z => absurd z (by omega), li_q M1 B1 O1 hN hT d2 d3⟩
set_option maxRecDepth 4000 in
theorem lo_bestShift {h : gm_H} {n J R : Nat} (I : LI h n J R) (hJ : J < 600) {a : Int} (ha : zR a) : ∃ h2 k y, LH h h2 n mL_bestShift [.ref n, .int (zI a), .ref (n + 126)] mX11_bestShift [.ref (n + 113), .int (zI a)] k (.int (zI y)) ∧ zR y ∧ (k = 0 → ∃ g, h2.1[n + 126]? = some (gLo g) ∧ g 0 = zL y) ∧ LI h2 n (J + 1) (R + 1) := by
  obtain ⟨K, F, S, P, X, Ln, cn, L, g, T, hM, hB, hO, hN, hT⟩ := I
  have hv := hN.2.2.2.2.2.2.2.2.2.1
  by_cases hq : 0 ≤ a ∧ a < F 0
  ·
    obtain ⟨f0, hf0⟩ := hO.1
    obtain ⟨g1, c1, c2⟩ := lh_bestShift hB.1 (by decide) (nz_r _) (nzc (ct_bestShift hB.1 hB.2.1 hv.1 ha hq)) hf0
    have M1 := lm_set (k := n + 126) (Or.inl rfl) (gLo g1) hM
    have B1 := lb_up (lb_set (k := n + 126) (Or.inl rfl) (gLo g1) hB)
    have O1 := lo_set (f := g1) hO
    have e1 := gs_s (c' := gLo g1) hf0
    obtain ⟨h2, d1, d2, d3⟩ := ct_m_bestShift M1.1 M1.2.1 hv.1 ha hq
    exact ⟨h2, 0, _, ⟨_, _, _, _, _, by decide, by decide, c1, M1.1, nzc d1, d2, rfl, zR_0⟩, nz_r _, fun _ => ⟨g1, gh_at d3 e1 (by omega), c2⟩, li_q M1 B1 O1 hN hT d2 d3⟩
  ·
    have c1 := lx_bestShift_1 (o := n + 126) hB.1 (by decide) (ct_bestShiftX hB.1 hB.2.1 hv.1 ha hq)
    have M1 : LM (zTh h) (n + 113) _ _ _ _ _ _ := hM
    have B1 := lb_th hB
    have O1 : LO (zTh h) n := hO
    obtain ⟨h2, d1, d2, d3⟩ := ct_m_bestShiftX M1.1 M1.2.1 hv.1 ha hq
    exact ⟨h2, 1, _, ⟨_, _, _, _, _, by decide, by decide, c1, M1.1, d1, d2, rfl, (by omega)⟩, zR_0, fun z => absurd z (by omega), li_q M1 B1 O1 hN hT d2 d3⟩
set_option maxRecDepth 4000 in
theorem lo_bestShiftBySum {h : gm_H} {n J R : Nat} (I : LI h n J R) (hJ : J < 600) {a : Int} (ha : zR a) : ∃ h2 k y, LH h h2 n mL_bestShiftBySum [.ref n, .int (zI a), .ref (n + 126)] mX11_bestShiftBySum [.ref (n + 113), .int (zI a)] k (.int (zI y)) ∧ zR y ∧ (k = 0 → ∃ g, h2.1[n + 126]? = some (gLo g) ∧ g 0 = zL y) ∧ LI h2 n (J + 1) (R + 1) := by
  obtain ⟨K, F, S, P, X, Ln, cn, L, g, T, hM, hB, hO, hN, hT⟩ := I
  have hv := hN.2.2.2.2.2.2.2.2.2.1
  by_cases hq : 0 ≤ a ∧ a < F 0
  ·
    obtain ⟨f0, hf0⟩ := hO.1
    obtain ⟨g1, c1, c2⟩ := lh_bestShiftBySum hB.1 (by decide) (nz_r _) (nzc (ct_bestShiftBySum hB.1 hB.2.1 hv.1 ha hq)) hf0
    have M1 := lm_set (k := n + 126) (Or.inl rfl) (gLo g1) hM
    have B1 := lb_up (lb_set (k := n + 126) (Or.inl rfl) (gLo g1) hB)
    have O1 := lo_set (f := g1) hO
    have e1 := gs_s (c' := gLo g1) hf0
    obtain ⟨h2, d1, d2, d3⟩ := ct_m_bestShiftBySum M1.1 M1.2.1 hv.1 ha hq
    exact ⟨h2, 0, _, ⟨_, _, _, _, _, by decide, by decide, c1, M1.1, nzc d1, d2, rfl, zR_0⟩, nz_r _, fun _ => ⟨g1, gh_at d3 e1 (by omega), c2⟩, li_q M1 B1 O1 hN hT d2 d3⟩
  ·
    have c1 := lx_bestShiftBySum_1 (o := n + 126) hB.1 (by decide) (ct_bestShiftBySumX hB.1 hB.2.1 hv.1 ha hq)
    have M1 : LM (zTh h) (n + 113) _ _ _ _ _ _ := hM
    have B1 := lb_th hB
    have O1 : LO (zTh h) n := hO
    obtain ⟨h2, d1, d2, d3⟩ := ct_m_bestShiftBySumX M1.1 M1.2.1 hv.1 ha hq
    exact ⟨h2, 1, _, ⟨_, _, _, _, _, by decide, by decide, c1, M1.1, d1, d2, rfl, (by omega)⟩, zR_0, fun z => absurd z (by omega), li_q M1 B1 O1 hN hT d2 d3⟩
set_option maxRecDepth 4000 in
theorem lo_isDiscarded {h : gm_H} {n J R : Nat} (I : LI h n J R) (hJ : J < 600) {a : Int} (ha : zR a) : ∃ h2 k y, LH h h2 n mL_isDiscarded [.ref n, .int (zI a), .ref (n + 126)] mX11_isDiscarded [.ref (n + 113), .int (zI a)] k (.int (zI (zB y))) ∧ (k = 0 → ∃ g, h2.1[n + 126]? = some (gLo g) ∧ g 0 = zL (zB y)) ∧ LI h2 n (J + 1) (R + 1) := by
  obtain ⟨K, F, S, P, X, Ln, cn, L, g, T, hM, hB, hO, hN, hT⟩ := I
  have hv := hN.2.2.2.2.2.2.2.2.2.1
  by_cases hq : 0 ≤ a ∧ a < F 0
  ·
    obtain ⟨f0, hf0⟩ := hO.1
    obtain ⟨g1, c1, c2⟩ := lh_isDiscarded hB.1 (by decide) ((ct_isDiscarded hB.1 hB.2.1 hv.1 ha hq)) hf0
    have M1 := lm_set (k := n + 126) (Or.inl rfl) (gLo g1) hM
    have B1 := lb_up (lb_set (k := n + 126) (Or.inl rfl) (gLo g1) hB)
    have O1 := lo_set (f := g1) hO
    have e1 := gs_s (c' := gLo g1) hf0
    obtain ⟨h2, d1, d2, d3⟩ := ct_m_isDiscarded M1.1 M1.2.1 hv.1 ha hq
    exact ⟨h2, 0, _, ⟨_, _, _, _, _, by decide, by decide, c1, M1.1, d1, d2, rfl, zR_0⟩, fun _ => ⟨g1, gh_at d3 e1 (by omega), c2⟩, li_q M1 B1 O1 hN hT d2 d3⟩
  ·
    have c1 := lx_isDiscarded_1 (o := n + 126) hB.1 (by decide) (ct_isDiscardedX hB.1 hB.2.1 hv.1 ha hq)
    have M1 : LM (zTh h) (n + 113) _ _ _ _ _ _ := hM
    have B1 := lb_th hB
    have O1 : LO (zTh h) n := hO
    obtain ⟨h2, d1, d2, d3⟩ := ct_m_isDiscardedX M1.1 M1.2.1 hv.1 ha hq
    exact ⟨h2, 1, _, ⟨_, _, _, _, _, by decide, by decide, c1, M1.1, d1, d2, rfl, (by omega)⟩, fun z => absurd z (by omega), li_q M1 B1 O1 hN hT d2 d3⟩
set_option maxRecDepth 4000 in
theorem lo_isReject {h : gm_H} {n J R : Nat} (I : LI h n J R) (hJ : J < 600) {a : Int} (ha : zR a) : ∃ h2 k y, LH h h2 n mL_isReject [.ref n, .int (zI a), .ref (n + 126)] mX11_isReject [.ref (n + 113), .int (zI a)] k (.int (zI (zB y))) ∧ (k = 0 → ∃ g, h2.1[n + 126]? = some (gLo g) ∧ g 0 = zL (zB y)) ∧ LI h2 n (J + 1) (R + 1) := by
  obtain ⟨K, F, S, P, X, Ln, cn, L, g, T, hM, hB, hO, hN, hT⟩ := I
  have hv := hN.2.2.2.2.2.2.2.2.2.1
  by_cases hq : 0 ≤ a ∧ a < F 0
  ·
    obtain ⟨f0, hf0⟩ := hO.1
    obtain ⟨g1, c1, c2⟩ := lh_isReject hB.1 (by decide) ((ct_isReject hB.1 hB.2.1 hv.1 ha hq)) hf0
    have M1 := lm_set (k := n + 126) (Or.inl rfl) (gLo g1) hM
    have B1 := lb_up (lb_set (k := n + 126) (Or.inl rfl) (gLo g1) hB)
    have O1 := lo_set (f := g1) hO
    have e1 := gs_s (c' := gLo g1) hf0
    obtain ⟨h2, d1, d2, d3⟩ := ct_m_isReject M1.1 M1.2.1 hv.1 ha hq
    exact ⟨h2, 0, _, ⟨_, _, _, _, _, by decide, by decide, c1, M1.1, d1, d2, rfl, zR_0⟩, fun _ => ⟨g1, gh_at d3 e1 (by omega), c2⟩, li_q M1 B1 O1 hN hT d2 d3⟩
  ·
    have c1 := lx_isReject_1 (o := n + 126) hB.1 (by decide) (ct_isRejectX hB.1 hB.2.1 hv.1 ha hq)
    have M1 : LM (zTh h) (n + 113) _ _ _ _ _ _ := hM
    have B1 := lb_th hB
    have O1 : LO (zTh h) n := hO
    obtain ⟨h2, d1, d2, d3⟩ := ct_m_isRejectX M1.1 M1.2.1 hv.1 ha hq
    exact ⟨h2, 1, _, ⟨_, _, _, _, _, by decide, by decide, c1, M1.1, d1, d2, rfl, (by omega)⟩, fun z => absurd z (by omega), li_q M1 B1 O1 hN hT d2 d3⟩
set_option maxRecDepth 4000 in
theorem lo_deviationAt {h : gm_H} {n J R : Nat} (I : LI h n J R) (hJ : J < 600) {a b : Int} (ha : zR a) (hb : zR b) : ∃ h2 k y, LH h h2 n mL_deviationAt [.ref n, .int (zI a), .int (zI b), .ref (n + 126)] mX11_deviationAt [.ref (n + 113), .int (zI a), .int (zI b)] k (.int (zI y)) ∧ zR y ∧ (k = 0 → ∃ g, h2.1[n + 126]? = some (gLo g) ∧ g 0 = zL y) ∧ LI h2 n (J + 1) (R + 1) := by
  obtain ⟨K, F, S, P, X, Ln, cn, L, g, T, hM, hB, hO, hN, hT⟩ := I
  have hv := hN.2.2.2.2.2.2.2.2.2.1
  by_cases hq : 0 ≤ a ∧ a < F 0
  ·
    by_cases hc : b < 0 ∨ 359 < b
    ·
      have c1 := lx_deviationAt_2 (o := n + 126) hB.1 (by decide) (ct_deviationAtY hB.1 hB.2.1 hv.1 ha hb hq hc)
      have M1 : LM (zTh h) (n + 113) _ _ _ _ _ _ := hM
      have B1 := lb_th hB
      have O1 : LO (zTh h) n := hO
      obtain ⟨h2, d1, d2, d3⟩ := ct_m_deviationAtY M1.1 M1.2.1 hv.1 ha hb hq hc
      exact ⟨h2, 2, _, ⟨_, _, _, _, _, by decide, by decide, c1, M1.1, d1, d2, rfl, (by omega)⟩, zR_0, fun z => absurd z (by omega), li_q M1 B1 O1 hN hT d2 d3⟩
    ·
      obtain ⟨f0, hf0⟩ := hO.1
      obtain ⟨g1, c1, c2⟩ := lh_deviationAt hB.1 (by decide) (nz_r _) (nzc (ct_deviationAt hB.1 hB.2.1 hv.1 ha hb hq hc)) hf0
      have M1 := lm_set (k := n + 126) (Or.inl rfl) (gLo g1) hM
      have B1 := lb_up (lb_set (k := n + 126) (Or.inl rfl) (gLo g1) hB)
      have O1 := lo_set (f := g1) hO
      have e1 := gs_s (c' := gLo g1) hf0
      obtain ⟨h2, d1, d2, d3⟩ := ct_m_deviationAt M1.1 M1.2.1 hv.1 ha hb hq hc
      exact ⟨h2, 0, _, ⟨_, _, _, _, _, by decide, by decide, c1, M1.1, nzc d1, d2, rfl, zR_0⟩, nz_r _, fun _ => ⟨g1, gh_at d3 e1 (by omega), c2⟩, li_q M1 B1 O1 hN hT d2 d3⟩
  ·
    have c1 := lx_deviationAt_1 (o := n + 126) hB.1 (by decide) (ct_deviationAtX hB.1 hB.2.1 hv.1 ha hb hq)
    have M1 : LM (zTh h) (n + 113) _ _ _ _ _ _ := hM
    have B1 := lb_th hB
    have O1 : LO (zTh h) n := hO
    obtain ⟨h2, d1, d2, d3⟩ := ct_m_deviationAtX M1.1 M1.2.1 hv.1 ha hb hq
    exact ⟨h2, 1, _, ⟨_, _, _, _, _, by decide, by decide, c1, M1.1, d1, d2, rfl, (by omega)⟩, zR_0, fun z => absurd z (by omega), li_q M1 B1 O1 hN hT d2 d3⟩
set_option maxRecDepth 4000 in
theorem lo_trueCourse {h : gm_H} {n J R : Nat} (I : LI h n J R) (hJ : J < 600) {a b : Int} (ha : zR a) (hb : zR b) : ∃ h2 k y, LH h h2 n mL_trueCourse [.ref n, .int (zI a), .int (zI b), .ref (n + 126)] mX11_trueCourse [.ref (n + 113), .int (zI a), .int (zI b)] k (.int (zI y)) ∧ zR y ∧ (k = 0 → ∃ g, h2.1[n + 126]? = some (gLo g) ∧ g 0 = zL y) ∧ LI h2 n (J + 1) (R + 1) := by
  obtain ⟨K, F, S, P, X, Ln, cn, L, g, T, hM, hB, hO, hN, hT⟩ := I
  have hv := hN.2.2.2.2.2.2.2.2.2.1
  by_cases hq : 0 ≤ a ∧ a < F 0
  ·
    by_cases hc : b < 0 ∨ 359 < b
    ·
      have c1 := lx_trueCourse_2 (o := n + 126) hB.1 (by decide) (ct_trueCourseY hB.1 hB.2.1 hv.1 ha hb hq hc)
      have M1 : LM (zTh h) (n + 113) _ _ _ _ _ _ := hM
      have B1 := lb_th hB
      have O1 : LO (zTh h) n := hO
      obtain ⟨h2, d1, d2, d3⟩ := ct_m_trueCourseY M1.1 M1.2.1 hv.1 ha hb hq hc
      exact ⟨h2, 2, _, ⟨_, _, _, _, _, by decide, by decide, c1, M1.1, d1, d2, rfl, (by omega)⟩, zR_0, fun z => absurd z (by omega), li_q M1 B1 O1 hN hT d2 d3⟩
    ·
      obtain ⟨f0, hf0⟩ := hO.1
      obtain ⟨g1, c1, c2⟩ := lh_trueCourse hB.1 (by decide) (nz_r _) (nzc (ct_trueCourse hB.1 hB.2.1 hv.1 ha hb hq hc)) hf0
      have M1 := lm_set (k := n + 126) (Or.inl rfl) (gLo g1) hM
      have B1 := lb_up (lb_set (k := n + 126) (Or.inl rfl) (gLo g1) hB)
      have O1 := lo_set (f := g1) hO
      have e1 := gs_s (c' := gLo g1) hf0
      obtain ⟨h2, d1, d2, d3⟩ := ct_m_trueCourse M1.1 M1.2.1 hv.1 ha hb hq hc
      exact ⟨h2, 0, _, ⟨_, _, _, _, _, by decide, by decide, c1, M1.1, nzc d1, d2, rfl, zR_0⟩, nz_r _, fun _ => ⟨g1, gh_at d3 e1 (by omega), c2⟩, li_q M1 B1 O1 hN hT d2 d3⟩
  ·
    have c1 := lx_trueCourse_1 (o := n + 126) hB.1 (by decide) (ct_trueCourseX hB.1 hB.2.1 hv.1 ha hb hq)
    have M1 : LM (zTh h) (n + 113) _ _ _ _ _ _ := hM
    have B1 := lb_th hB
    have O1 : LO (zTh h) n := hO
    obtain ⟨h2, d1, d2, d3⟩ := ct_m_trueCourseX M1.1 M1.2.1 hv.1 ha hb hq
    exact ⟨h2, 1, _, ⟨_, _, _, _, _, by decide, by decide, c1, M1.1, d1, d2, rfl, (by omega)⟩, zR_0, fun z => absurd z (by omega), li_q M1 B1 O1 hN hT d2 d3⟩
set_option maxRecDepth 4000 in
theorem lo_courseFor {h : gm_H} {n J R : Nat} (I : LI h n J R) (hJ : J < 600) {a b : Int} (ha : zR a) (hb : zR b) : ∃ h2 k y, LH h h2 n mL_courseFor [.ref n, .int (zI a), .int (zI b), .ref (n + 126)] mX11_courseFor [.ref (n + 113), .int (zI a), .int (zI b)] k (.int (zI y)) ∧ zR y ∧ (k = 0 → ∃ g, h2.1[n + 126]? = some (gLo g) ∧ g 0 = zL y) ∧ LI h2 n (J + 1) (R + 1) := by
  obtain ⟨K, F, S, P, X, Ln, cn, L, g, T, hM, hB, hO, hN, hT⟩ := I
  have hv := hN.2.2.2.2.2.2.2.2.2.1
  by_cases hq : 0 ≤ a ∧ a < F 0
  ·
    by_cases hc : b < 0 ∨ 359 < b
    ·
      have c1 := lx_courseFor_2 (o := n + 126) hB.1 (by decide) (ct_courseForY hB.1 hB.2.1 hv.1 ha hb hq hc)
      have M1 : LM (zTh h) (n + 113) _ _ _ _ _ _ := hM
      have B1 := lb_th hB
      have O1 : LO (zTh h) n := hO
      obtain ⟨h2, d1, d2, d3⟩ := ct_m_courseForY M1.1 M1.2.1 hv.1 ha hb hq hc
      exact ⟨h2, 2, _, ⟨_, _, _, _, _, by decide, by decide, c1, M1.1, d1, d2, rfl, (by omega)⟩, zR_0, fun z => absurd z (by omega), li_q M1 B1 O1 hN hT d2 d3⟩
    ·
      by_cases hf : 0 ≤ zLow F a.toNat b 360 0
      ·
        obtain ⟨f0, hf0⟩ := hO.1
        obtain ⟨g1, c1, c2⟩ := lh_courseFor hB.1 (by decide) (nz_r _) (nzc (ct_courseFor hB.1 hB.2.1 hv.1 ha hb hq hc hf)) hf0
        have M1 := lm_set (k := n + 126) (Or.inl rfl) (gLo g1) hM
        have B1 := lb_up (lb_set (k := n + 126) (Or.inl rfl) (gLo g1) hB)
        have O1 := lo_set (f := g1) hO
        have e1 := gs_s (c' := gLo g1) hf0
        obtain ⟨h2, d1, d2, d3⟩ := ct_m_courseFor M1.1 M1.2.1 hv.1 ha hb hq hc hf
        exact ⟨h2, 0, _, ⟨_, _, _, _, _, by decide, by decide, c1, M1.1, nzc d1, d2, rfl, zR_0⟩, nz_r _, fun _ => ⟨g1, gh_at d3 e1 (by omega), c2⟩, li_q M1 B1 O1 hN hT d2 d3⟩
      ·
        have c1 := lx_courseFor_3 (o := n + 126) hB.1 (by decide) (ct_courseForZ hB.1 hB.2.1 hv.1 ha hb hq hc hf)
        have M1 : LM (zTh h) (n + 113) _ _ _ _ _ _ := hM
        have B1 := lb_th hB
        have O1 : LO (zTh h) n := hO
        obtain ⟨h2, d1, d2, d3⟩ := ct_m_courseForZ M1.1 M1.2.1 hv.1 ha hb hq hc hf
        exact ⟨h2, 3, _, ⟨_, _, _, _, _, by decide, by decide, c1, M1.1, d1, d2, rfl, (by omega)⟩, zR_0, fun z => absurd z (by omega), li_q M1 B1 O1 hN hT d2 d3⟩
  ·
    have c1 := lx_courseFor_1 (o := n + 126) hB.1 (by decide) (ct_courseForX hB.1 hB.2.1 hv.1 ha hb hq)
    have M1 : LM (zTh h) (n + 113) _ _ _ _ _ _ := hM
    have B1 := lb_th hB
    have O1 : LO (zTh h) n := hO
    obtain ⟨h2, d1, d2, d3⟩ := ct_m_courseForX M1.1 M1.2.1 hv.1 ha hb hq
    exact ⟨h2, 1, _, ⟨_, _, _, _, _, by decide, by decide, c1, M1.1, d1, d2, rfl, (by omega)⟩, zR_0, fun z => absurd z (by omega), li_q M1 B1 O1 hN hT d2 d3⟩
set_option maxRecDepth 4000 in
theorem lo_courseForNearby {h : gm_H} {n J R : Nat} (I : LI h n J R) (hJ : J < 600) {a b : Int} (ha : zR a) (hb : zR b) : ∃ h2 k y, LH h h2 n mL_courseForNearby [.ref n, .int (zI a), .int (zI b), .ref (n + 126)] mX11_courseForNearby [.ref (n + 113), .int (zI a), .int (zI b)] k (.int (zI y)) ∧ zR y ∧ (k = 0 → ∃ g, h2.1[n + 126]? = some (gLo g) ∧ g 0 = zL y) ∧ LI h2 n (J + 1) (R + 1) := by
  obtain ⟨K, F, S, P, X, Ln, cn, L, g, T, hM, hB, hO, hN, hT⟩ := I
  have hv := hN.2.2.2.2.2.2.2.2.2.1
  by_cases hq : 0 ≤ a ∧ a < F 0
  ·
    by_cases hc : b < 0 ∨ 359 < b
    ·
      have c1 := lx_courseForNearby_2 (o := n + 126) hB.1 (by decide) (ct_courseForNearbyY hB.1 hB.2.1 hv.1 ha hb hq hc)
      have M1 : LM (zTh h) (n + 113) _ _ _ _ _ _ := hM
      have B1 := lb_th hB
      have O1 : LO (zTh h) n := hO
      obtain ⟨h2, d1, d2, d3⟩ := ct_m_courseForNearbyY M1.1 M1.2.1 hv.1 ha hb hq hc
      exact ⟨h2, 2, _, ⟨_, _, _, _, _, by decide, by decide, c1, M1.1, d1, d2, rfl, (by omega)⟩, zR_0, fun z => absurd z (by omega), li_q M1 B1 O1 hN hT d2 d3⟩
    ·
      by_cases hf : 0 ≤ zLow F a.toNat b 360 0
      ·
        obtain ⟨f0, hf0⟩ := hO.1
        obtain ⟨g1, c1, c2⟩ := lh_courseForNearby hB.1 (by decide) (nz_r _) (nzc (ct_courseForNearby hB.1 hB.2.1 hv.1 ha hb hq hc hf)) hf0
        have M1 := lm_set (k := n + 126) (Or.inl rfl) (gLo g1) hM
        have B1 := lb_up (lb_set (k := n + 126) (Or.inl rfl) (gLo g1) hB)
        have O1 := lo_set (f := g1) hO
        have e1 := gs_s (c' := gLo g1) hf0
        obtain ⟨h2, d1, d2, d3⟩ := ct_m_courseForNearby M1.1 M1.2.1 hv.1 ha hb hq hc hf
        exact ⟨h2, 0, _, ⟨_, _, _, _, _, by decide, by decide, c1, M1.1, nzc d1, d2, rfl, zR_0⟩, nz_r _, fun _ => ⟨g1, gh_at d3 e1 (by omega), c2⟩, li_q M1 B1 O1 hN hT d2 d3⟩
      ·
        have c1 := lx_courseForNearby_3 (o := n + 126) hB.1 (by decide) (ct_courseForNearbyZ hB.1 hB.2.1 hv.1 ha hb hq hc hf)
        have M1 : LM (zTh h) (n + 113) _ _ _ _ _ _ := hM
        have B1 := lb_th hB
        have O1 : LO (zTh h) n := hO
        obtain ⟨h2, d1, d2, d3⟩ := ct_m_courseForNearbyZ M1.1 M1.2.1 hv.1 ha hb hq hc hf
        exact ⟨h2, 3, _, ⟨_, _, _, _, _, by decide, by decide, c1, M1.1, d1, d2, rfl, (by omega)⟩, zR_0, fun z => absurd z (by omega), li_q M1 B1 O1 hN hT d2 d3⟩
  ·
    have c1 := lx_courseForNearby_1 (o := n + 126) hB.1 (by decide) (ct_courseForNearbyX hB.1 hB.2.1 hv.1 ha hb hq)
    have M1 : LM (zTh h) (n + 113) _ _ _ _ _ _ := hM
    have B1 := lb_th hB
    have O1 : LO (zTh h) n := hO
    obtain ⟨h2, d1, d2, d3⟩ := ct_m_courseForNearbyX M1.1 M1.2.1 hv.1 ha hb hq
    exact ⟨h2, 1, _, ⟨_, _, _, _, _, by decide, by decide, c1, M1.1, d1, d2, rfl, (by omega)⟩, zR_0, fun z => absurd z (by omega), li_q M1 B1 O1 hN hT d2 d3⟩
set_option maxRecDepth 4000 in
theorem lo_missedCourses {h : gm_H} {n J R : Nat} (I : LI h n J R) (hJ : J < 600) {a : Int} (ha : zR a) : ∃ h2 k y, LH h h2 n mL_missedCourses [.ref n, .int (zI a), .ref (n + 126)] mX11_missedCourses [.ref (n + 113), .int (zI a)] k (.int (zI y)) ∧ zR y ∧ (k = 0 → ∃ g, h2.1[n + 126]? = some (gLo g) ∧ g 0 = zL y) ∧ LI h2 n (J + 1) (R + 1) := by
  obtain ⟨K, F, S, P, X, Ln, cn, L, g, T, hM, hB, hO, hN, hT⟩ := I
  have hv := hN.2.2.2.2.2.2.2.2.2.1
  by_cases hq : 0 ≤ a ∧ a < F 0
  ·
    obtain ⟨R0, hR⟩ := hB.2.2.2.2.2.2.1
    obtain ⟨h', A, q1, q2, q3⟩ := ct_missedCourses hB.1 hB.2.1 hv.1 ha hR hq
    have M' := lm_fr hM q3 (fun k a b z => by omega)
    have B' := lb_re hB q2 q3
    have O' := lo_fr hO q3 (by omega) (by omega)
    obtain ⟨f0, hf0⟩ := O'.1
    obtain ⟨g1, c1, c2⟩ := lh_missedCourses hB.1 (by decide) (nz_r _) (nzc (q1)) hf0
    have M1 := lm_set (k := n + 126) (Or.inl rfl) (gLo g1) M'
    have B1 := lb_up (lb_set (k := n + 126) (Or.inl rfl) (gLo g1) B')
    have O1 := lo_set (f := g1) O'
    have e1 := gs_s (c' := gLo g1) hf0
    obtain ⟨H, hH⟩ := M1.2.2.2.2.2.2.2.1
    obtain ⟨h2, H', d1, d2, d4, d3⟩ := ct_m_missedCourses M1.1 M1.2.1 hv.1 ha hH hq
    exact ⟨h2, 0, _, ⟨_, _, _, _, _, by decide, by decide, c1, M1.1, nzc d1, d2, rfl, zR_0⟩, nz_r _, fun _ => ⟨g1, gh_at d3 e1 (by omega), c2⟩, li_q7 M1 B1 O1 hN hT d2 d4 d3⟩
  ·
    have c1 := lx_missedCourses_1 (o := n + 126) hB.1 (by decide) (ct_missedCoursesX hB.1 hB.2.1 hv.1 ha hq)
    have M1 : LM (zTh h) (n + 113) _ _ _ _ _ _ := hM
    have B1 := lb_th hB
    have O1 : LO (zTh h) n := hO
    obtain ⟨h2, d1, d2, d3⟩ := ct_m_missedCoursesX M1.1 M1.2.1 hv.1 ha hq
    exact ⟨h2, 1, _, ⟨_, _, _, _, _, by decide, by decide, c1, M1.1, d1, d2, rfl, (by omega)⟩, zR_0, fun z => absurd z (by omega), li_q M1 B1 O1 hN hT d2 d3⟩
set_option maxRecDepth 4000 in
theorem lo_needleAtRank {h : gm_H} {n J R : Nat} (I : LI h n J R) (hJ : J < 600) {a : Int} (ha : zR a) : ∃ h2 k y, LH h h2 n mL_needleAtRank [.ref n, .int (zI a), .ref (n + 126)] mX11_needleAtRank [.ref (n + 113), .int (zI a)] k (.int (zI y)) ∧ zR y ∧ (k = 0 → ∃ g, h2.1[n + 126]? = some (gLo g) ∧ g 0 = zL y) ∧ LI h2 n (J + 1) (R + 1) := by
  obtain ⟨K, F, S, P, X, Ln, cn, L, g, T, hM, hB, hO, hN, hT⟩ := I
  have hv := hN.2.2.2.2.2.2.2.2.2.1
  by_cases hq : 0 ≤ zRk F a (F 0).toNat 0
  ·
    obtain ⟨f0, hf0⟩ := hO.1
    obtain ⟨g1, c1, c2⟩ := lh_needleAtRank hB.1 (by decide) (nz_r _) (nzc (ct_needleAtRank hB.1 hB.2.1 hv.1 ha hq)) hf0
    have M1 := lm_set (k := n + 126) (Or.inl rfl) (gLo g1) hM
    have B1 := lb_up (lb_set (k := n + 126) (Or.inl rfl) (gLo g1) hB)
    have O1 := lo_set (f := g1) hO
    have e1 := gs_s (c' := gLo g1) hf0
    obtain ⟨h2, d1, d2, d3⟩ := ct_m_needleAtRank M1.1 M1.2.1 hv.1 ha hq
    exact ⟨h2, 0, _, ⟨_, _, _, _, _, by decide, by decide, c1, M1.1, nzc d1, d2, rfl, zR_0⟩, nz_r _, fun _ => ⟨g1, gh_at d3 e1 (by omega), c2⟩, li_q M1 B1 O1 hN hT d2 d3⟩
  ·
    have hq' : zRk F a (F 0).toNat 0 < 0 := by omega
    have c1 := lx_needleAtRank_1 (o := n + 126) hB.1 (by decide) (ct_needleAtRankX hB.1 hB.2.1 hv.1 ha hq')
    have M1 : LM (zTh h) (n + 113) _ _ _ _ _ _ := hM
    have B1 := lb_th hB
    have O1 : LO (zTh h) n := hO
    obtain ⟨h2, d1, d2, d3⟩ := ct_m_needleAtRankX M1.1 M1.2.1 hv.1 ha hq'
    exact ⟨h2, 1, _, ⟨_, _, _, _, _, by decide, by decide, c1, M1.1, d1, d2, rfl, (by omega)⟩, zR_0, fun z => absurd z (by omega), li_q M1 B1 O1 hN hT d2 d3⟩
set_option maxRecDepth 4000 in
theorem lo_partnerOf {h : gm_H} {n J R : Nat} (I : LI h n J R) (hJ : J < 600) {a : Int} (ha : zR a) : ∃ h2 k y, LH h h2 n mL_partnerOf [.ref n, .int (zI a), .ref (n + 126)] mX11_partnerOf [.ref (n + 113), .int (zI a)] k (.int (zI y)) ∧ zR y ∧ (k = 0 → ∃ g, h2.1[n + 126]? = some (gLo g) ∧ g 0 = zL y) ∧ LI h2 n (J + 1) (R + 1) := by
  obtain ⟨K, F, S, P, X, Ln, cn, L, g, T, hM, hB, hO, hN, hT⟩ := I
  have hv := hN.2.2.2.2.2.2.2.2.2.1
  by_cases hq : 0 ≤ a ∧ a < F 0
  ·
    obtain ⟨A0, A1, hP⟩ := hB.2.2.2.2.1
    by_cases hz : 0 ≤ zPt F a.toNat
    ·
      obtain ⟨h', F', q1, q2, q3⟩ := ct_partnerOf hB.1 hB.2.1 hv.1 ha hP hq hz
      have M' := lm_fr hM q3 (fun k a b z => by omega)
      have B' := lb_pr hB q2 q3 (Or.inl rfl)
      have O' := lo_fr hO q3 (by omega) (by omega)
      obtain ⟨f0, hf0⟩ := O'.1
      obtain ⟨g1, c1, c2⟩ := lh_partnerOf hB.1 (by decide) (nz_r _) (nzc (q1)) hf0
      have M1 := lm_set (k := n + 126) (Or.inl rfl) (gLo g1) M'
      have B1 := lb_up (lb_set (k := n + 126) (Or.inl rfl) (gLo g1) B')
      have O1 := lo_set (f := g1) O'
      have e1 := gs_s (c' := gLo g1) hf0
      obtain ⟨H, hH⟩ := M1.2.2.2.2.2.1
      obtain ⟨h2, H', d1, d2, d4, d3⟩ := ct_m_partnerOf M1.1 M1.2.1 ha hH hv.1 hq hz
      exact ⟨h2, 0, _, ⟨_, _, _, _, _, by decide, by decide, c1, M1.1, nzc d1, d2, rfl, zR_0⟩, nz_r _, fun _ => ⟨g1, gh_at d3 e1 (by omega), c2⟩, li_q5 M1 B1 O1 hN hT d2 d4 d3⟩
    ·
      have hz' : zPt F a.toNat < 0 := by omega
      obtain ⟨h', F', q1, q2, q3⟩ := ct_partnerOfY hB.1 hB.2.1 hv.1 ha hP hq hz'
      have M' := lm_fr hM q3 (fun k a b z => by omega)
      have B' := lb_pr hB q2 q3 (Or.inl rfl)
      have O' := lo_fr hO q3 (by omega) (by omega)
      have c1 := lx_partnerOf_2 (o := n + 126) hB.1 (by decide) (q1)
      have M1 : LM (zTh h') (n + 113) _ _ _ _ _ _ := M'
      have B1 := lb_th B'
      have O1 : LO (zTh h') n := O'
      obtain ⟨H, hH⟩ := M1.2.2.2.2.2.1
      obtain ⟨h2, H', d1, d2, d4, d3⟩ := ct_m_partnerOfY M1.1 M1.2.1 ha hH hv.1 hq hz'
      exact ⟨h2, 2, _, ⟨_, _, _, _, _, by decide, by decide, c1, M1.1, d1, d2, rfl, (by omega)⟩, zR_0, fun z => absurd z (by omega), li_q5 M1 B1 O1 hN hT d2 d4 d3⟩
  ·
    have c1 := lx_partnerOf_1 (o := n + 126) hB.1 (by decide) (ct_partnerOfX hB.1 hB.2.1 hv.1 ha hq)
    have M1 : LM (zTh h) (n + 113) _ _ _ _ _ _ := hM
    have B1 := lb_th hB
    have O1 : LO (zTh h) n := hO
    obtain ⟨h2, d1, d2, d3⟩ := ct_m_partnerOfX M1.1 M1.2.1 hv.1 ha hq
    exact ⟨h2, 1, _, ⟨_, _, _, _, _, by decide, by decide, c1, M1.1, d1, d2, rfl, (by omega)⟩, zR_0, fun z => absurd z (by omega), li_q M1 B1 O1 hN hT d2 d3⟩
set_option maxRecDepth 4000 in
theorem lo_batchAt {h : gm_H} {n J R : Nat} (I : LI h n J R) (hJ : J < 600) {a : Int} (ha : zR a) : ∃ h2 k y, LH h h2 n mL_batchAt [.ref n, .int (zI a), .ref (n + 126)] mX11_batchAt [.ref (n + 113), .int (zI a)] k (.int (zI y)) ∧ zR y ∧ (k = 0 → ∃ g, h2.1[n + 126]? = some (gLo g) ∧ g 0 = zL y) ∧ LI h2 n (J + 1) (R + 1) := by
  obtain ⟨K, F, S, P, X, Ln, cn, L, g, T, hM, hB, hO, hN, hT⟩ := I
  have hv := hN.2.2.2.2.2.2.2.2.2.1
  by_cases hq : 0 ≤ a ∧ a < F 4
  ·
    obtain ⟨f0, hf0⟩ := hO.1
    obtain ⟨g1, c1, c2⟩ := lh_batchAt hB.1 (by decide) (nz_r _) (nzc (ct_batchAt hB.1 hB.2.1 hv.2 ha hq)) hf0
    have M1 := lm_set (k := n + 126) (Or.inl rfl) (gLo g1) hM
    have B1 := lb_up (lb_set (k := n + 126) (Or.inl rfl) (gLo g1) hB)
    have O1 := lo_set (f := g1) hO
    have e1 := gs_s (c' := gLo g1) hf0
    obtain ⟨h2, d1, d2, d3⟩ := ct_m_batchAt M1.1 M1.2.1 hv.2 ha hq
    exact ⟨h2, 0, _, ⟨_, _, _, _, _, by decide, by decide, c1, M1.1, nzc d1, d2, rfl, zR_0⟩, nz_r _, fun _ => ⟨g1, gh_at d3 e1 (by omega), c2⟩, li_q M1 B1 O1 hN hT d2 d3⟩
  ·
    have c1 := lx_batchAt_1 (o := n + 126) hB.1 (by decide) (ct_batchAtX hB.1 hB.2.1 hv.2 ha hq)
    have M1 : LM (zTh h) (n + 113) _ _ _ _ _ _ := hM
    have B1 := lb_th hB
    have O1 : LO (zTh h) n := hO
    obtain ⟨h2, d1, d2, d3⟩ := ct_m_batchAtX M1.1 M1.2.1 hv.2 ha hq
    exact ⟨h2, 1, _, ⟨_, _, _, _, _, by decide, by decide, c1, M1.1, d1, d2, rfl, (by omega)⟩, zR_0, fun z => absurd z (by omega), li_q M1 B1 O1 hN hT d2 d3⟩
set_option maxRecDepth 4000 in
theorem lo_latenessNow {h : gm_H} {n J R : Nat} (I : LI h n J R) (hJ : J < 600) {a : Int} (ha : zR a) : ∃ h2 k y, LH h h2 n mL_latenessNow [.ref n, .int (zI a), .ref (n + 126)] mX11_latenessNow [.ref (n + 113), .int (zI a)] k (.int (zI y)) ∧ zR y ∧ (k = 0 → ∃ g, h2.1[n + 126]? = some (gLo g) ∧ g 0 = zL y) ∧ LI h2 n (J + 1) (R + 1) := by
  obtain ⟨K, F, S, P, X, Ln, cn, L, g, T, hM, hB, hO, hN, hT⟩ := I
  have hv := hN.2.2.2.2.2.2.2.2.2.1
  by_cases hq : 0 ≤ zFind F a
  ·
    obtain ⟨f0, hf0⟩ := hO.1
    obtain ⟨g1, c1, c2⟩ := lh_latenessNow hB.1 (by decide) (nz_r _) (nzc (ct_latenessNow hB.1 hB.2.1 hv.2 ha hq)) hf0
    have M1 := lm_set (k := n + 126) (Or.inl rfl) (gLo g1) hM
    have B1 := lb_up (lb_set (k := n + 126) (Or.inl rfl) (gLo g1) hB)
    have O1 := lo_set (f := g1) hO
    have e1 := gs_s (c' := gLo g1) hf0
    obtain ⟨h2, d1, d2, d3⟩ := ct_m_latenessNow M1.1 M1.2.1 hv.2 ha hq
    exact ⟨h2, 0, _, ⟨_, _, _, _, _, by decide, by decide, c1, M1.1, nzc d1, d2, rfl, zR_0⟩, nz_r _, fun _ => ⟨g1, gh_at d3 e1 (by omega), c2⟩, li_q M1 B1 O1 hN hT d2 d3⟩
  ·
    have hq' : zFind F a < 0 := by omega
    have c1 := lx_latenessNow_1 (o := n + 126) hB.1 (by decide) (ct_latenessNowX hB.1 hB.2.1 hv.2 ha hq')
    have M1 : LM (zTh h) (n + 113) _ _ _ _ _ _ := hM
    have B1 := lb_th hB
    have O1 : LO (zTh h) n := hO
    obtain ⟨h2, d1, d2, d3⟩ := ct_m_latenessNowX M1.1 M1.2.1 hv.2 ha hq'
    exact ⟨h2, 1, _, ⟨_, _, _, _, _, by decide, by decide, c1, M1.1, d1, d2, rfl, (by omega)⟩, zR_0, fun z => absurd z (by omega), li_q M1 B1 O1 hN hT d2 d3⟩
set_option maxRecDepth 4000 in
theorem lo_bestFirst {h : gm_H} {n J R : Nat} (I : LI h n J R) (hJ : J < 600) : ∃ h2 k y, LH h h2 n mL_bestFirst [.ref n, .ref (n + 126)] mX11_bestFirst [.ref (n + 113)] k (.int (zI y)) ∧ zR y ∧ (k = 0 → ∃ g, h2.1[n + 126]? = some (gLo g) ∧ g 0 = zL y) ∧ LI h2 n (J + 1) (R + 1) := by
  obtain ⟨K, F, S, P, X, Ln, cn, L, g, T, hM, hB, hO, hN, hT⟩ := I
  have hv := hN.2.2.2.2.2.2.2.2.2.1
  obtain ⟨O0, hO0⟩ := hB.2.2.2.2.2.1
  by_cases hq : F 4 = 0
  ·
    have hb : zBf F (F 4).toNat 0 < 0 := by rw [hq]; exact (by decide : (-1 : Int) < 0)
    obtain ⟨h', F', q1, q2, q3⟩ := ct_bestFirstX hB.1 hB.2.1 hv.2 hO0 hb
    have M' := lm_fr hM q3 (fun k a b z => by omega)
    have B' := lb_or hB q2 q3
    have O' := lo_fr hO q3 (by omega) (by omega)
    have c1 := lx_bestFirst_1 (o := n + 126) hB.1 (by decide) (q1)
    have M1 : LM (zTh h') (n + 113) _ _ _ _ _ _ := M'
    have B1 := lb_th B'
    have O1 : LO (zTh h') n := O'
    obtain ⟨h2, d1, d2, d3⟩ := ct_m_bestFirstX M1.1 M1.2.1 hv.2 hq
    exact ⟨h2, 1, _, ⟨_, _, _, _, _, by decide, by decide, c1, M1.1, d1, d2, rfl, (by omega)⟩, zR_0, fun z => absurd z (by omega), li_q M1 B1 O1 hN hT d2 d3⟩
  ·
    have hp : 0 < F 4 := by have := hv.2.2.2.1; omega
    obtain ⟨h', F', q1, q2, q3⟩ := ct_bestFirst hB.1 hB.2.1 hv.2 hO0 (zBf_pos hv.2 hp)
    have M' := lm_fr hM q3 (fun k a b z => by omega)
    have B' := lb_or hB q2 q3
    have O' := lo_fr hO q3 (by omega) (by omega)
    obtain ⟨f0, hf0⟩ := O'.1
    obtain ⟨g1, c1, c2⟩ := lh_bestFirst hB.1 (by decide) (nz_r _) (nzc (q1)) hf0
    have M1 := lm_set (k := n + 126) (Or.inl rfl) (gLo g1) M'
    have B1 := lb_up (lb_set (k := n + 126) (Or.inl rfl) (gLo g1) B')
    have O1 := lo_set (f := g1) O'
    have e1 := gs_s (c' := gLo g1) hf0
    obtain ⟨H, hH⟩ := M1.2.2.2.2.2.2.1
    obtain ⟨h2, H', d1, d2, d4, d3⟩ := ct_m_bestFirst M1.1 M1.2.1 hv.2 hH hp
    exact ⟨h2, 0, _, ⟨_, _, _, _, _, by decide, by decide, c1, M1.1, nzc d1, d2, rfl, zR_0⟩, nz_r _, fun _ => ⟨g1, gh_at d3 e1 (by omega), c2⟩, li_q6 M1 B1 O1 hN hT d2 d4 d3⟩
set_option maxRecDepth 4000 in
theorem lo_meanError {h : gm_H} {n J R : Nat} (I : LI h n J R) (hJ : J < 600) : ∃ h2 k y, LH h h2 n mL_meanError [.ref n, .ref (n + 127)] mX11_meanError [.ref (n + 113)] k (.double y) ∧ (k = 0 → ∃ g, h2.1[n + 127]? = some (gDo g) ∧ g 0 = y) ∧ (k = 0 → FP.dcmp y y = some .eq) ∧ LI h2 n (J + 1) (R + 1) := by
  obtain ⟨K, F, S, P, X, Ln, cn, L, g, T, hM, hB, hO, hN, hT⟩ := I
  have hv := hN.2.2.2.2.2.2.2.2.2.1
  by_cases hq : zGd F = 0
  ·
    have c1 := lx_meanError_1 (o := n + 127) hB.1 (by decide) (ct_meanErrorX hB.1 hB.2.1 hv.1 hq)
    have M1 : LM (zTh h) (n + 113) _ _ _ _ _ _ := hM
    have B1 := lb_th hB
    have O1 : LO (zTh h) n := hO
    obtain ⟨h2, d1, d2, d3⟩ := ct_m_meanErrorX M1.1 M1.2.1 hv.1 hq
    exact ⟨h2, 1, _, ⟨_, _, _, _, _, by decide, by decide, c1, M1.1, d1, d2, rfl, (by omega)⟩, fun z => absurd z (by omega), fun z => absurd z (by omega), li_q M1 B1 O1 hN hT d2 d3⟩
  ·
    obtain ⟨f0, hf0⟩ := hO.2.1
    obtain ⟨g1, c1, c2⟩ := lh_meanError hB.1 (by decide) ((ct_meanError hB.1 hB.2.1 hv.1 hq)) hf0
    have M1 := lm_set (k := n + 127) (Or.inr rfl) (gDo g1) hM
    have B1 := lb_up (lb_set (k := n + 127) (Or.inr rfl) (gDo g1) hB)
    have O1 := lo_setD (f := g1) hO
    have e1 := gs_s (c' := gDo g1) hf0
    obtain ⟨h2, d1, d2, d3⟩ := ct_m_meanError M1.1 M1.2.1 hv.1 hq
    exact ⟨h2, 0, _, ⟨_, _, _, _, _, by decide, by decide, c1, M1.1, d1, d2, rfl, zR_0⟩, fun _ => ⟨g1, gh_at d3 e1 (by omega), c2⟩, fun _ => (zMean_n hv.1 hq).2, li_q M1 B1 O1 hN hT d2 d3⟩
set_option maxRecDepth 4000 in
theorem lo_bakingShare {h : gm_H} {n J R : Nat} (I : LI h n J R) (hJ : J < 600) : ∃ h2 k y, LH h h2 n mL_bakingShare [.ref n, .ref (n + 127)] mX11_bakingShare [.ref (n + 113)] k (.float y) ∧ (k = 0 → ∃ g, h2.1[n + 127]? = some (gDo g) ∧ g 0 = FP.f2d y) ∧ (k = 0 → vf_n64 (FP.f2d y) ∧ FP.dcmp (FP.f2d y) (FP.f2d y) = some .eq) ∧ LI h2 n (J + 1) (R + 1) := by
  obtain ⟨K, F, S, P, X, Ln, cn, L, g, T, hM, hB, hO, hN, hT⟩ := I
  have hv := hN.2.2.2.2.2.2.2.2.2.1
  by_cases hq : F 2 = 0
  ·
    have c1 := lx_bakingShare_1 (o := n + 127) hB.1 (by decide) (ct_bakingShareX hB.1 hB.2.1 hv.2 hq)
    have M1 : LM (zTh h) (n + 113) _ _ _ _ _ _ := hM
    have B1 := lb_th hB
    have O1 : LO (zTh h) n := hO
    obtain ⟨h2, d1, d2, d3⟩ := ct_m_bakingShareX M1.1 M1.2.1 hv.2 hq
    exact ⟨h2, 1, _, ⟨_, _, _, _, _, by decide, by decide, c1, M1.1, d1, d2, rfl, (by omega)⟩, fun z => absurd z (by omega), fun z => absurd z (by omega), li_q M1 B1 O1 hN hT d2 d3⟩
  ·
    obtain ⟨f0, hf0⟩ := hO.2.1
    obtain ⟨g1, c1, c2⟩ := lh_bakingShare hB.1 (by decide) (zShare_n hv.2 hq).2.1 ((ct_bakingShare hB.1 hB.2.1 hv.2 hq)) hf0
    have M1 := lm_set (k := n + 127) (Or.inr rfl) (gDo g1) hM
    have B1 := lb_up (lb_set (k := n + 127) (Or.inr rfl) (gDo g1) hB)
    have O1 := lo_setD (f := g1) hO
    have e1 := gs_s (c' := gDo g1) hf0
    obtain ⟨h2, d1, d2, d3⟩ := ct_m_bakingShare M1.1 M1.2.1 hv.2 hq
    exact ⟨h2, 0, _, ⟨_, _, _, _, _, by decide, by decide, c1, M1.1, d1, d2, rfl, zR_0⟩, fun _ => ⟨g1, gh_at d3 e1 (by omega), c2⟩, fun _ => (zShare_n hv.2 hq).2, li_q M1 B1 O1 hN hT d2 d3⟩
set_option maxRecDepth 4000 in
theorem lo_addNeedle {h : gm_H} {n J R : Nat} (I : LI h n J R) (hJ : J < 600) {a : Int} (ha : zR a) : ∃ h2 k y, LH h h2 n mL_addNeedle [.ref n, .int (zI a), .ref (n + 126)] mX11_addNeedle [.ref (n + 113), .int (zI a)] k (.int (zI y)) ∧ zR y ∧ (k = 0 → ∃ g, h2.1[n + 126]? = some (gLo g) ∧ g 0 = zL y) ∧ LI h2 n (J + 1) (R + 1) := by
  obtain ⟨K, F, S, P, X, Ln, cn, L, g, T, hM, hB, hO, hN, hT⟩ := I
  have hv := hN.2.2.2.2.2.2.2.2.2.1
  by_cases hq : zqWhy F 0 a 0 0 = 0
  ·
    obtain ⟨h', q1, q2, q3, q4, q5⟩ := ct_addNeedle hB.1 hB.2.1 hv ha hB.2.2.2.1 (by omega) hq
    have M' := lm_fr hM q5 (fun k a b z => by simp only [st_K, hi_K] at z; omega)
    have B' := lb_mod hB q2 q4 q5
    have O' := lo_fr hO q5 (by intro z; simp only [st_K, hi_K] at z; omega) (by intro z; simp only [st_K, hi_K] at z; omega)
    obtain ⟨f0, hf0⟩ := O'.1
    obtain ⟨g1, c1, c2⟩ := lh_addNeedle hB.1 (by decide) (nz_r _) (nzc (q1)) hf0
    have M1 := lm_set (k := n + 126) (Or.inl rfl) (gLo g1) M'
    have B1 := lb_up (lb_set (k := n + 126) (Or.inl rfl) (gLo g1) B')
    have O1 := lo_set (f := g1) O'
    have e1 := gs_s (c' := gLo g1) hf0
    obtain ⟨Bm, hBm⟩ := M1.2.2.1
    obtain ⟨h2, F', B2, P', d1, d2, d3, d4, d5, d6, d7, d8⟩ := ct_m_addNeedle M1.1 M1.2.1 hBm M1.2.2.2.2.1 hv ha hq hN.1 hN.2.1
    exact ⟨h2, 0, _, ⟨_, _, _, _, _, by decide, by decide, c1, M1.1, nzc d1, d2, rfl, zR_0⟩, nz_r _, fun _ => ⟨g1, gh_at d8 e1 (by intro y; simp only [mk_K] at y; omega), c2⟩, li_mod M1 B1 O1 hN hT hJ q3 d2 d3 d4 d5 d6 d7 d8⟩
  ·
    have c1 := lm_addNeedle (o := n + 126) hB.1 (by decide) (zqWhy_7 F 0 a 0 0) (zCd_p F (by decide) a 0 0 hq) (ct_addNeedleX hB.1 hB.2.1 hv ha hq)
    have M1 : LM (zTh h) (n + 113) _ _ _ _ _ _ := hM
    have B1 := lb_th hB
    have O1 : LO (zTh h) n := hO
    obtain ⟨Bm, hBm⟩ := M1.2.2.1
    obtain ⟨h2, F', B2, d1, d2, d3, d4, d5, d6, d7⟩ := ct_m_addNeedleX M1.1 M1.2.1 hBm M1.2.2.2.2.1 hv ha hq
    have hz := zCd_0 0 (by decide) _ (zqWhy_7 F 0 a 0 0)
    exact ⟨h2, _, _, ⟨_, _, _, _, _, by decide, by decide, c1, M1.1, d1, d2, rfl, (by omega)⟩, zR_0, fun z => absurd z (zCd_p F (by decide) a 0 0 hq), li_modX M1 B1 O1 hN hT d2 d3 d4 d5 d6 d7⟩
set_option maxRecDepth 4000 in
theorem lo_setDeviation {h : gm_H} {n J R : Nat} (I : LI h n J R) (hJ : J < 600) {a b c : Int} (ha : zR a) (hb : zR b) (hc : zR c) : ∃ h2 k y, LH h h2 n mL_setDeviation [.ref n, .int (zI a), .int (zI b), .int (zI c), .ref (n + 126)] mX11_setDeviation [.ref (n + 113), .int (zI a), .int (zI b), .int (zI c)] k (.int (zI y)) ∧ zR y ∧ (k = 0 → ∃ g, h2.1[n + 126]? = some (gLo g) ∧ g 0 = zL y) ∧ LI h2 n (J + 1) (R + 1) := by
  obtain ⟨K, F, S, P, X, Ln, cn, L, g, T, hM, hB, hO, hN, hT⟩ := I
  have hv := hN.2.2.2.2.2.2.2.2.2.1
  by_cases hq : zqWhy F 1 a b c = 0
  ·
    obtain ⟨h', q1, q2, q3, q4, q5⟩ := ct_setDeviation hB.1 hB.2.1 hv ha hb hc hB.2.2.2.1 (by omega) hq
    have M' := lm_fr hM q5 (fun k a b z => by simp only [st_K, hi_K] at z; omega)
    have B' := lb_mod hB q2 q4 q5
    have O' := lo_fr hO q5 (by intro z; simp only [st_K, hi_K] at z; omega) (by intro z; simp only [st_K, hi_K] at z; omega)
    obtain ⟨f0, hf0⟩ := O'.1
    obtain ⟨g1, c1, c2⟩ := lh_setDeviation hB.1 (by decide) (nz_r _) (nzc (q1)) hf0
    have M1 := lm_set (k := n + 126) (Or.inl rfl) (gLo g1) M'
    have B1 := lb_up (lb_set (k := n + 126) (Or.inl rfl) (gLo g1) B')
    have O1 := lo_set (f := g1) O'
    have e1 := gs_s (c' := gLo g1) hf0
    obtain ⟨Bm, hBm⟩ := M1.2.2.1
    obtain ⟨h2, F', B2, P', d1, d2, d3, d4, d5, d6, d7, d8⟩ := ct_m_setDeviation M1.1 M1.2.1 hBm M1.2.2.2.2.1 hv ha hb hc hq hN.1 hN.2.1
    exact ⟨h2, 0, _, ⟨_, _, _, _, _, by decide, by decide, c1, M1.1, nzc d1, d2, rfl, zR_0⟩, nz_r _, fun _ => ⟨g1, gh_at d8 e1 (by intro y; simp only [mk_K] at y; omega), c2⟩, li_mod M1 B1 O1 hN hT hJ q3 d2 d3 d4 d5 d6 d7 d8⟩
  ·
    have c1 := lm_setDeviation (o := n + 126) hB.1 (by decide) (zqWhy_7 F 1 a b c) (zCd_p F (by decide) a b c hq) (ct_setDeviationX hB.1 hB.2.1 hv ha hb hc hq)
    have M1 : LM (zTh h) (n + 113) _ _ _ _ _ _ := hM
    have B1 := lb_th hB
    have O1 : LO (zTh h) n := hO
    obtain ⟨Bm, hBm⟩ := M1.2.2.1
    obtain ⟨h2, F', B2, d1, d2, d3, d4, d5, d6, d7⟩ := ct_m_setDeviationX M1.1 M1.2.1 hBm M1.2.2.2.2.1 hv ha hb hc hq
    have hz := zCd_0 1 (by decide) _ (zqWhy_7 F 1 a b c)
    exact ⟨h2, _, _, ⟨_, _, _, _, _, by decide, by decide, c1, M1.1, d1, d2, rfl, (by omega)⟩, zR_0, fun z => absurd z (zCd_p F (by decide) a b c hq), li_modX M1 B1 O1 hN hT d2 d3 d4 d5 d6 d7⟩
set_option maxRecDepth 4000 in
theorem lo_shift {h : gm_H} {n J R : Nat} (I : LI h n J R) (hJ : J < 600) {a b : Int} (ha : zR a) (hb : zR b) : ∃ h2 k y, LH h h2 n mL_shift [.ref n, .int (zI a), .int (zI b), .ref (n + 126)] mX11_shift [.ref (n + 113), .int (zI a), .int (zI b)] k (.int (zI y)) ∧ zR y ∧ (k = 0 → ∃ g, h2.1[n + 126]? = some (gLo g) ∧ g 0 = zL y) ∧ LI h2 n (J + 1) (R + 1) := by
  obtain ⟨K, F, S, P, X, Ln, cn, L, g, T, hM, hB, hO, hN, hT⟩ := I
  have hv := hN.2.2.2.2.2.2.2.2.2.1
  by_cases hq : zqWhy F 2 a b 0 = 0
  ·
    obtain ⟨h', q1, q2, q3, q4, q5⟩ := ct_shift hB.1 hB.2.1 hv ha hb hB.2.2.2.1 (by omega) hq
    have M' := lm_fr hM q5 (fun k a b z => by simp only [st_K, hi_K] at z; omega)
    have B' := lb_mod hB q2 q4 q5
    have O' := lo_fr hO q5 (by intro z; simp only [st_K, hi_K] at z; omega) (by intro z; simp only [st_K, hi_K] at z; omega)
    obtain ⟨f0, hf0⟩ := O'.1
    obtain ⟨g1, c1, c2⟩ := lh_shift hB.1 (by decide) (nz_r _) (nzc (q1)) hf0
    have M1 := lm_set (k := n + 126) (Or.inl rfl) (gLo g1) M'
    have B1 := lb_up (lb_set (k := n + 126) (Or.inl rfl) (gLo g1) B')
    have O1 := lo_set (f := g1) O'
    have e1 := gs_s (c' := gLo g1) hf0
    obtain ⟨Bm, hBm⟩ := M1.2.2.1
    obtain ⟨h2, F', B2, P', d1, d2, d3, d4, d5, d6, d7, d8⟩ := ct_m_shift M1.1 M1.2.1 hBm M1.2.2.2.2.1 hv ha hb hq hN.1 hN.2.1
    exact ⟨h2, 0, _, ⟨_, _, _, _, _, by decide, by decide, c1, M1.1, nzc d1, d2, rfl, zR_0⟩, nz_r _, fun _ => ⟨g1, gh_at d8 e1 (by intro y; simp only [mk_K] at y; omega), c2⟩, li_mod M1 B1 O1 hN hT hJ q3 d2 d3 d4 d5 d6 d7 d8⟩
  ·
    have c1 := lm_shift (o := n + 126) hB.1 (by decide) (zqWhy_7 F 2 a b 0) (zCd_p F (by decide) a b 0 hq) (ct_shiftX hB.1 hB.2.1 hv ha hb hq)
    have M1 : LM (zTh h) (n + 113) _ _ _ _ _ _ := hM
    have B1 := lb_th hB
    have O1 : LO (zTh h) n := hO
    obtain ⟨Bm, hBm⟩ := M1.2.2.1
    obtain ⟨h2, F', B2, d1, d2, d3, d4, d5, d6, d7⟩ := ct_m_shiftX M1.1 M1.2.1 hBm M1.2.2.2.2.1 hv ha hb hq
    have hz := zCd_0 2 (by decide) _ (zqWhy_7 F 2 a b 0)
    exact ⟨h2, _, _, ⟨_, _, _, _, _, by decide, by decide, c1, M1.1, d1, d2, rfl, (by omega)⟩, zR_0, fun z => absurd z (zCd_p F (by decide) a b 0 hq), li_modX M1 B1 O1 hN hT d2 d3 d4 d5 d6 d7⟩
set_option maxRecDepth 4000 in
theorem lo_correct {h : gm_H} {n J R : Nat} (I : LI h n J R) (hJ : J < 600) {a : Int} (ha : zR a) : ∃ h2 k y, LH h h2 n mL_correct [.ref n, .int (zI a), .ref (n + 126)] mX11_correct [.ref (n + 113), .int (zI a)] k (.int (zI y)) ∧ zR y ∧ (k = 0 → ∃ g, h2.1[n + 126]? = some (gLo g) ∧ g 0 = zL y) ∧ LI h2 n (J + 1) (R + 1) := by
  obtain ⟨K, F, S, P, X, Ln, cn, L, g, T, hM, hB, hO, hN, hT⟩ := I
  have hv := hN.2.2.2.2.2.2.2.2.2.1
  by_cases hq : zqWhy F 3 a 0 0 = 0
  ·
    obtain ⟨h', q1, q2, q3, q4, q5⟩ := ct_correct hB.1 hB.2.1 hv ha hB.2.2.2.1 (by omega) hq
    have M' := lm_fr hM q5 (fun k a b z => by simp only [st_K, hi_K] at z; omega)
    have B' := lb_mod hB q2 q4 q5
    have O' := lo_fr hO q5 (by intro z; simp only [st_K, hi_K] at z; omega) (by intro z; simp only [st_K, hi_K] at z; omega)
    obtain ⟨f0, hf0⟩ := O'.1
    obtain ⟨g1, c1, c2⟩ := lh_correct hB.1 (by decide) (nz_r _) (nzc (q1)) hf0
    have M1 := lm_set (k := n + 126) (Or.inl rfl) (gLo g1) M'
    have B1 := lb_up (lb_set (k := n + 126) (Or.inl rfl) (gLo g1) B')
    have O1 := lo_set (f := g1) O'
    have e1 := gs_s (c' := gLo g1) hf0
    obtain ⟨Bm, hBm⟩ := M1.2.2.1
    obtain ⟨h2, F', B2, P', d1, d2, d3, d4, d5, d6, d7, d8⟩ := ct_m_correct M1.1 M1.2.1 hBm M1.2.2.2.2.1 hv ha hq hN.1 hN.2.1
    exact ⟨h2, 0, _, ⟨_, _, _, _, _, by decide, by decide, c1, M1.1, nzc d1, d2, rfl, zR_0⟩, nz_r _, fun _ => ⟨g1, gh_at d8 e1 (by intro y; simp only [mk_K] at y; omega), c2⟩, li_mod M1 B1 O1 hN hT hJ q3 d2 d3 d4 d5 d6 d7 d8⟩
  ·
    have c1 := lm_correct (o := n + 126) hB.1 (by decide) (zqWhy_7 F 3 a 0 0) (zCd_p F (by decide) a 0 0 hq) (ct_correctX hB.1 hB.2.1 hv ha hq)
    have M1 : LM (zTh h) (n + 113) _ _ _ _ _ _ := hM
    have B1 := lb_th hB
    have O1 : LO (zTh h) n := hO
    obtain ⟨Bm, hBm⟩ := M1.2.2.1
    obtain ⟨h2, F', B2, d1, d2, d3, d4, d5, d6, d7⟩ := ct_m_correctX M1.1 M1.2.1 hBm M1.2.2.2.2.1 hv ha hq
    have hz := zCd_0 3 (by decide) _ (zqWhy_7 F 3 a 0 0)
    exact ⟨h2, _, _, ⟨_, _, _, _, _, by decide, by decide, c1, M1.1, d1, d2, rfl, (by omega)⟩, zR_0, fun z => absurd z (zCd_p F (by decide) a 0 0 hq), li_modX M1 B1 O1 hN hT d2 d3 d4 d5 d6 d7⟩
set_option maxRecDepth 4000 in
theorem lo_discard {h : gm_H} {n J R : Nat} (I : LI h n J R) (hJ : J < 600) {a : Int} (ha : zR a) : ∃ h2 k y, LH h h2 n mL_discard [.ref n, .int (zI a), .ref (n + 126)] mX11_discard [.ref (n + 113), .int (zI a)] k (.int (zI y)) ∧ zR y ∧ (k = 0 → ∃ g, h2.1[n + 126]? = some (gLo g) ∧ g 0 = zL y) ∧ LI h2 n (J + 1) (R + 1) := by
  obtain ⟨K, F, S, P, X, Ln, cn, L, g, T, hM, hB, hO, hN, hT⟩ := I
  have hv := hN.2.2.2.2.2.2.2.2.2.1
  by_cases hq : zqWhy F 4 a 0 0 = 0
  ·
    obtain ⟨h', q1, q2, q3, q4, q5⟩ := ct_discard hB.1 hB.2.1 hv ha hB.2.2.2.1 (by omega) hq
    have M' := lm_fr hM q5 (fun k a b z => by simp only [st_K, hi_K] at z; omega)
    have B' := lb_mod hB q2 q4 q5
    have O' := lo_fr hO q5 (by intro z; simp only [st_K, hi_K] at z; omega) (by intro z; simp only [st_K, hi_K] at z; omega)
    obtain ⟨f0, hf0⟩ := O'.1
    obtain ⟨g1, c1, c2⟩ := lh_discard hB.1 (by decide) (nz_r _) (nzc (q1)) hf0
    have M1 := lm_set (k := n + 126) (Or.inl rfl) (gLo g1) M'
    have B1 := lb_up (lb_set (k := n + 126) (Or.inl rfl) (gLo g1) B')
    have O1 := lo_set (f := g1) O'
    have e1 := gs_s (c' := gLo g1) hf0
    obtain ⟨Bm, hBm⟩ := M1.2.2.1
    obtain ⟨h2, F', B2, P', d1, d2, d3, d4, d5, d6, d7, d8⟩ := ct_m_discard M1.1 M1.2.1 hBm M1.2.2.2.2.1 hv ha hq hN.1 hN.2.1
    exact ⟨h2, 0, _, ⟨_, _, _, _, _, by decide, by decide, c1, M1.1, nzc d1, d2, rfl, zR_0⟩, nz_r _, fun _ => ⟨g1, gh_at d8 e1 (by intro y; simp only [mk_K] at y; omega), c2⟩, li_mod M1 B1 O1 hN hT hJ q3 d2 d3 d4 d5 d6 d7 d8⟩
  ·
    have c1 := lm_discard (o := n + 126) hB.1 (by decide) (zqWhy_7 F 4 a 0 0) (zCd_p F (by decide) a 0 0 hq) (ct_discardX hB.1 hB.2.1 hv ha hq)
    have M1 : LM (zTh h) (n + 113) _ _ _ _ _ _ := hM
    have B1 := lb_th hB
    have O1 : LO (zTh h) n := hO
    obtain ⟨Bm, hBm⟩ := M1.2.2.1
    obtain ⟨h2, F', B2, d1, d2, d3, d4, d5, d6, d7⟩ := ct_m_discardX M1.1 M1.2.1 hBm M1.2.2.2.2.1 hv ha hq
    have hz := zCd_0 4 (by decide) _ (zqWhy_7 F 4 a 0 0)
    exact ⟨h2, _, _, ⟨_, _, _, _, _, by decide, by decide, c1, M1.1, d1, d2, rfl, (by omega)⟩, zR_0, fun z => absurd z (zCd_p F (by decide) a 0 0 hq), li_modX M1 B1 O1 hN hT d2 d3 d4 d5 d6 d7⟩
set_option maxRecDepth 4000 in
theorem lo_setTolerance {h : gm_H} {n J R : Nat} (I : LI h n J R) (hJ : J < 600) {a : Int} (ha : zR a) : ∃ h2 k y, LH h h2 n mL_setTolerance [.ref n, .int (zI a), .ref (n + 126)] mX11_setTolerance [.ref (n + 113), .int (zI a)] k (.int (zI y)) ∧ zR y ∧ (k = 0 → ∃ g, h2.1[n + 126]? = some (gLo g) ∧ g 0 = zL y) ∧ LI h2 n (J + 1) (R + 1) := by
  obtain ⟨K, F, S, P, X, Ln, cn, L, g, T, hM, hB, hO, hN, hT⟩ := I
  have hv := hN.2.2.2.2.2.2.2.2.2.1
  by_cases hq : zqWhy F 5 a 0 0 = 0
  ·
    obtain ⟨h', q1, q2, q3, q4, q5⟩ := ct_setTolerance hB.1 hB.2.1 hv ha hB.2.2.2.1 (by omega) hq
    have M' := lm_fr hM q5 (fun k a b z => by simp only [st_K, hi_K] at z; omega)
    have B' := lb_mod hB q2 q4 q5
    have O' := lo_fr hO q5 (by intro z; simp only [st_K, hi_K] at z; omega) (by intro z; simp only [st_K, hi_K] at z; omega)
    obtain ⟨f0, hf0⟩ := O'.1
    obtain ⟨g1, c1, c2⟩ := lh_setTolerance hB.1 (by decide) (nz_r _) (nzc (q1)) hf0
    have M1 := lm_set (k := n + 126) (Or.inl rfl) (gLo g1) M'
    have B1 := lb_up (lb_set (k := n + 126) (Or.inl rfl) (gLo g1) B')
    have O1 := lo_set (f := g1) O'
    have e1 := gs_s (c' := gLo g1) hf0
    obtain ⟨Bm, hBm⟩ := M1.2.2.1
    obtain ⟨h2, F', B2, P', d1, d2, d3, d4, d5, d6, d7, d8⟩ := ct_m_setTolerance M1.1 M1.2.1 hBm M1.2.2.2.2.1 hv ha hq hN.1 hN.2.1
    exact ⟨h2, 0, _, ⟨_, _, _, _, _, by decide, by decide, c1, M1.1, nzc d1, d2, rfl, zR_0⟩, nz_r _, fun _ => ⟨g1, gh_at d8 e1 (by intro y; simp only [mk_K] at y; omega), c2⟩, li_mod M1 B1 O1 hN hT hJ q3 d2 d3 d4 d5 d6 d7 d8⟩
  ·
    have c1 := lm_setTolerance (o := n + 126) hB.1 (by decide) (zqWhy_7 F 5 a 0 0) (zCd_p F (by decide) a 0 0 hq) (ct_setToleranceX hB.1 hB.2.1 hv ha hq)
    have M1 : LM (zTh h) (n + 113) _ _ _ _ _ _ := hM
    have B1 := lb_th hB
    have O1 : LO (zTh h) n := hO
    obtain ⟨Bm, hBm⟩ := M1.2.2.1
    obtain ⟨h2, F', B2, d1, d2, d3, d4, d5, d6, d7⟩ := ct_m_setToleranceX M1.1 M1.2.1 hBm M1.2.2.2.2.1 hv ha hq
    have hz := zCd_0 5 (by decide) _ (zqWhy_7 F 5 a 0 0)
    exact ⟨h2, _, _, ⟨_, _, _, _, _, by decide, by decide, c1, M1.1, d1, d2, rfl, (by omega)⟩, zR_0, fun z => absurd z (zCd_p F (by decide) a 0 0 hq), li_modX M1 B1 O1 hN hT d2 d3 d4 d5 d6 d7⟩
set_option maxRecDepth 4000 in
theorem lo_addBatch {h : gm_H} {n J R : Nat} (I : LI h n J R) (hJ : J < 600) {a b c : Int} (ha : zR a) (hb : zR b) (hc : zR c) : ∃ h2 k y, LH h h2 n mL_addBatch [.ref n, .int (zI a), .int (zI b), .int (zI c), .ref (n + 126)] mX11_addBatch [.ref (n + 113), .int (zI a), .int (zI b), .int (zI c)] k (.int (zI y)) ∧ zR y ∧ (k = 0 → ∃ g, h2.1[n + 126]? = some (gLo g) ∧ g 0 = zL y) ∧ LI h2 n (J + 1) (R + 1) := by
  obtain ⟨K, F, S, P, X, Ln, cn, L, g, T, hM, hB, hO, hN, hT⟩ := I
  have hv := hN.2.2.2.2.2.2.2.2.2.1
  by_cases hq : zqWhy F 6 a b c = 0
  ·
    obtain ⟨h', q1, q2, q3, q4, q5⟩ := ct_addBatch hB.1 hB.2.1 hv ha hb hc hB.2.2.2.1 (by omega) hq
    have M' := lm_fr hM q5 (fun k a b z => by simp only [st_K, hi_K] at z; omega)
    have B' := lb_mod hB q2 q4 q5
    have O' := lo_fr hO q5 (by intro z; simp only [st_K, hi_K] at z; omega) (by intro z; simp only [st_K, hi_K] at z; omega)
    obtain ⟨f0, hf0⟩ := O'.1
    obtain ⟨g1, c1, c2⟩ := lh_addBatch hB.1 (by decide) (nz_r _) (nzc (q1)) hf0
    have M1 := lm_set (k := n + 126) (Or.inl rfl) (gLo g1) M'
    have B1 := lb_up (lb_set (k := n + 126) (Or.inl rfl) (gLo g1) B')
    have O1 := lo_set (f := g1) O'
    have e1 := gs_s (c' := gLo g1) hf0
    obtain ⟨Bm, hBm⟩ := M1.2.2.1
    obtain ⟨h2, F', B2, P', d1, d2, d3, d4, d5, d6, d7, d8⟩ := ct_m_addBatch M1.1 M1.2.1 hBm M1.2.2.2.2.1 hv ha hb hc hq hN.1 hN.2.1
    exact ⟨h2, 0, _, ⟨_, _, _, _, _, by decide, by decide, c1, M1.1, nzc d1, d2, rfl, zR_0⟩, nz_r _, fun _ => ⟨g1, gh_at d8 e1 (by intro y; simp only [mk_K] at y; omega), c2⟩, li_mod M1 B1 O1 hN hT hJ q3 d2 d3 d4 d5 d6 d7 d8⟩
  ·
    have c1 := lm_addBatch (o := n + 126) hB.1 (by decide) (zqWhy_7 F 6 a b c) (zCd_p F (by decide) a b c hq) (ct_addBatchX hB.1 hB.2.1 hv ha hb hc hq)
    have M1 : LM (zTh h) (n + 113) _ _ _ _ _ _ := hM
    have B1 := lb_th hB
    have O1 : LO (zTh h) n := hO
    obtain ⟨Bm, hBm⟩ := M1.2.2.1
    obtain ⟨h2, F', B2, d1, d2, d3, d4, d5, d6, d7⟩ := ct_m_addBatchX M1.1 M1.2.1 hBm M1.2.2.2.2.1 hv ha hb hc hq
    have hz := zCd_0 6 (by decide) _ (zqWhy_7 F 6 a b c)
    exact ⟨h2, _, _, ⟨_, _, _, _, _, by decide, by decide, c1, M1.1, d1, d2, rfl, (by omega)⟩, zR_0, fun z => absurd z (zCd_p F (by decide) a b c hq), li_modX M1 B1 O1 hN hT d2 d3 d4 d5 d6 d7⟩
set_option maxRecDepth 4000 in
theorem lo_dropBatch {h : gm_H} {n J R : Nat} (I : LI h n J R) (hJ : J < 600) {a : Int} (ha : zR a) : ∃ h2 k y, LH h h2 n mL_dropBatch [.ref n, .int (zI a), .ref (n + 126)] mX11_dropBatch [.ref (n + 113), .int (zI a)] k (.int (zI y)) ∧ zR y ∧ (k = 0 → ∃ g, h2.1[n + 126]? = some (gLo g) ∧ g 0 = zL y) ∧ LI h2 n (J + 1) (R + 1) := by
  obtain ⟨K, F, S, P, X, Ln, cn, L, g, T, hM, hB, hO, hN, hT⟩ := I
  have hv := hN.2.2.2.2.2.2.2.2.2.1
  by_cases hq : zqWhy F 7 a 0 0 = 0
  ·
    obtain ⟨h', q1, q2, q3, q4, q5⟩ := ct_dropBatch hB.1 hB.2.1 hv ha hB.2.2.2.1 (by omega) hq
    have M' := lm_fr hM q5 (fun k a b z => by simp only [st_K, hi_K] at z; omega)
    have B' := lb_mod hB q2 q4 q5
    have O' := lo_fr hO q5 (by intro z; simp only [st_K, hi_K] at z; omega) (by intro z; simp only [st_K, hi_K] at z; omega)
    obtain ⟨f0, hf0⟩ := O'.1
    obtain ⟨g1, c1, c2⟩ := lh_dropBatch hB.1 (by decide) (nz_r _) (nzc (q1)) hf0
    have M1 := lm_set (k := n + 126) (Or.inl rfl) (gLo g1) M'
    have B1 := lb_up (lb_set (k := n + 126) (Or.inl rfl) (gLo g1) B')
    have O1 := lo_set (f := g1) O'
    have e1 := gs_s (c' := gLo g1) hf0
    obtain ⟨Bm, hBm⟩ := M1.2.2.1
    obtain ⟨h2, F', B2, P', d1, d2, d3, d4, d5, d6, d7, d8⟩ := ct_m_dropBatch M1.1 M1.2.1 hBm M1.2.2.2.2.1 hv ha hq hN.1 hN.2.1
    exact ⟨h2, 0, _, ⟨_, _, _, _, _, by decide, by decide, c1, M1.1, nzc d1, d2, rfl, zR_0⟩, nz_r _, fun _ => ⟨g1, gh_at d8 e1 (by intro y; simp only [mk_K] at y; omega), c2⟩, li_mod M1 B1 O1 hN hT hJ q3 d2 d3 d4 d5 d6 d7 d8⟩
  ·
    have c1 := lm_dropBatch (o := n + 126) hB.1 (by decide) (zqWhy_7 F 7 a 0 0) (zCd_p F (by decide) a 0 0 hq) (ct_dropBatchX hB.1 hB.2.1 hv ha hq)
    have M1 : LM (zTh h) (n + 113) _ _ _ _ _ _ := hM
    have B1 := lb_th hB
    have O1 : LO (zTh h) n := hO
    obtain ⟨Bm, hBm⟩ := M1.2.2.1
    obtain ⟨h2, F', B2, d1, d2, d3, d4, d5, d6, d7⟩ := ct_m_dropBatchX M1.1 M1.2.1 hBm M1.2.2.2.2.1 hv ha hq
    have hz := zCd_0 7 (by decide) _ (zqWhy_7 F 7 a 0 0)
    exact ⟨h2, _, _, ⟨_, _, _, _, _, by decide, by decide, c1, M1.1, d1, d2, rfl, (by omega)⟩, zR_0, fun z => absurd z (zCd_p F (by decide) a 0 0 hq), li_modX M1 B1 O1 hN hT d2 d3 d4 d5 d6 d7⟩
set_option maxRecDepth 4000 in
theorem lo_bake {h : gm_H} {n J R : Nat} (I : LI h n J R) (hJ : J < 600) {a : Int} (ha : zR a) : ∃ h2 k y, LH h h2 n mL_bake [.ref n, .int (zI a), .ref (n + 126)] mX11_bake [.ref (n + 113), .int (zI a)] k (.int (zI y)) ∧ zR y ∧ (k = 0 → ∃ g, h2.1[n + 126]? = some (gLo g) ∧ g 0 = zL y) ∧ LI h2 n (J + 1) (R + 1) := by
  obtain ⟨K, F, S, P, X, Ln, cn, L, g, T, hM, hB, hO, hN, hT⟩ := I
  have hv := hN.2.2.2.2.2.2.2.2.2.1
  by_cases hq : zqWhy F 8 a 0 0 = 0
  ·
    obtain ⟨h', q1, q2, q3, q4, q5⟩ := ct_bake hB.1 hB.2.1 hv ha hB.2.2.2.1 (by omega) hq
    have M' := lm_fr hM q5 (fun k a b z => by simp only [st_K, hi_K] at z; omega)
    have B' := lb_mod hB q2 q4 q5
    have O' := lo_fr hO q5 (by intro z; simp only [st_K, hi_K] at z; omega) (by intro z; simp only [st_K, hi_K] at z; omega)
    obtain ⟨f0, hf0⟩ := O'.1
    obtain ⟨g1, c1, c2⟩ := lh_bake hB.1 (by decide) (nz_r _) (nzc (q1)) hf0
    have M1 := lm_set (k := n + 126) (Or.inl rfl) (gLo g1) M'
    have B1 := lb_up (lb_set (k := n + 126) (Or.inl rfl) (gLo g1) B')
    have O1 := lo_set (f := g1) O'
    have e1 := gs_s (c' := gLo g1) hf0
    obtain ⟨Bm, hBm⟩ := M1.2.2.1
    obtain ⟨h2, F', B2, P', d1, d2, d3, d4, d5, d6, d7, d8⟩ := ct_m_bake M1.1 M1.2.1 hBm M1.2.2.2.2.1 hv ha (by omega) hq hN.1 hN.2.1
    exact ⟨h2, 0, _, ⟨_, _, _, _, _, by decide, by decide, c1, M1.1, nzc d1, d2, rfl, zR_0⟩, nz_r _, fun _ => ⟨g1, gh_at d8 e1 (by intro y; simp only [mk_K] at y; omega), c2⟩, li_mod M1 B1 O1 hN hT hJ q3 d2 d3 d4 d5 d6 d7 d8⟩
  ·
    have c1 := lm_bake (o := n + 126) hB.1 (by decide) (zqWhy_7 F 8 a 0 0) (zCd_p F (by decide) a 0 0 hq) (ct_bakeX hB.1 hB.2.1 hv ha hq)
    have M1 : LM (zTh h) (n + 113) _ _ _ _ _ _ := hM
    have B1 := lb_th hB
    have O1 : LO (zTh h) n := hO
    obtain ⟨Bm, hBm⟩ := M1.2.2.1
    obtain ⟨h2, F', B2, d1, d2, d3, d4, d5, d6, d7⟩ := ct_m_bakeX M1.1 M1.2.1 hBm M1.2.2.2.2.1 hv ha hq
    have hz := zCd_0 8 (by decide) _ (zqWhy_7 F 8 a 0 0)
    exact ⟨h2, _, _, ⟨_, _, _, _, _, by decide, by decide, c1, M1.1, d1, d2, rfl, (by omega)⟩, zR_0, fun z => absurd z (zCd_p F (by decide) a 0 0 hq), li_modX M1 B1 O1 hN hT d2 d3 d4 d5 d6 d7⟩
set_option maxRecDepth 4000 in
theorem lo_rest {h : gm_H} {n J R : Nat} (I : LI h n J R) (hJ : J < 600) {a : Int} (ha : zR a) : ∃ h2 k y, LH h h2 n mL_rest [.ref n, .int (zI a), .ref (n + 126)] mX11_rest [.ref (n + 113), .int (zI a)] k (.int (zI y)) ∧ zR y ∧ (k = 0 → ∃ g, h2.1[n + 126]? = some (gLo g) ∧ g 0 = zL y) ∧ LI h2 n (J + 1) (R + 1) := by
  obtain ⟨K, F, S, P, X, Ln, cn, L, g, T, hM, hB, hO, hN, hT⟩ := I
  have hv := hN.2.2.2.2.2.2.2.2.2.1
  by_cases hq : zqWhy F 9 a 0 0 = 0
  ·
    obtain ⟨h', q1, q2, q3, q4, q5⟩ := ct_rest hB.1 hB.2.1 hv ha hB.2.2.2.1 (by omega) hq
    have M' := lm_fr hM q5 (fun k a b z => by simp only [st_K, hi_K] at z; omega)
    have B' := lb_mod hB q2 q4 q5
    have O' := lo_fr hO q5 (by intro z; simp only [st_K, hi_K] at z; omega) (by intro z; simp only [st_K, hi_K] at z; omega)
    obtain ⟨f0, hf0⟩ := O'.1
    obtain ⟨g1, c1, c2⟩ := lh_rest hB.1 (by decide) (nz_r _) (nzc (q1)) hf0
    have M1 := lm_set (k := n + 126) (Or.inl rfl) (gLo g1) M'
    have B1 := lb_up (lb_set (k := n + 126) (Or.inl rfl) (gLo g1) B')
    have O1 := lo_set (f := g1) O'
    have e1 := gs_s (c' := gLo g1) hf0
    obtain ⟨Bm, hBm⟩ := M1.2.2.1
    obtain ⟨h2, F', B2, P', d1, d2, d3, d4, d5, d6, d7, d8⟩ := ct_m_rest M1.1 M1.2.1 hBm M1.2.2.2.2.1 hv ha hq hN.1 hN.2.1
    exact ⟨h2, 0, _, ⟨_, _, _, _, _, by decide, by decide, c1, M1.1, nzc d1, d2, rfl, zR_0⟩, nz_r _, fun _ => ⟨g1, gh_at d8 e1 (by intro y; simp only [mk_K] at y; omega), c2⟩, li_mod M1 B1 O1 hN hT hJ q3 d2 d3 d4 d5 d6 d7 d8⟩
  ·
    have c1 := lm_rest (o := n + 126) hB.1 (by decide) (zqWhy_7 F 9 a 0 0) (zCd_p F (by decide) a 0 0 hq) (ct_restX hB.1 hB.2.1 hv ha hq)
    have M1 : LM (zTh h) (n + 113) _ _ _ _ _ _ := hM
    have B1 := lb_th hB
    have O1 : LO (zTh h) n := hO
    obtain ⟨Bm, hBm⟩ := M1.2.2.1
    obtain ⟨h2, F', B2, d1, d2, d3, d4, d5, d6, d7⟩ := ct_m_restX M1.1 M1.2.1 hBm M1.2.2.2.2.1 hv ha hq
    have hz := zCd_0 9 (by decide) _ (zqWhy_7 F 9 a 0 0)
    exact ⟨h2, _, _, ⟨_, _, _, _, _, by decide, by decide, c1, M1.1, d1, d2, rfl, (by omega)⟩, zR_0, fun z => absurd z (zCd_p F (by decide) a 0 0 hq), li_modX M1 B1 O1 hN hT d2 d3 d4 d5 d6 d7⟩
set_option maxRecDepth 4000 in
theorem lo_needleCount {h : gm_H} {n J R : Nat} (I : LI h n J R) (hJ : J < 600) : ∃ h2 b, zR b ∧ LQ h h2 n mX10_needleCount mX11_needleCount (.int (zI b)) ∧ LI h2 n (J + 1) (R + 1) := by
  obtain ⟨K, F, S, P, X, Ln, cn, L, g, T, hM, hB, hO, hN, hT⟩ := I
  have hv := hN.2.2.2.2.2.2.2.2.2.1
  have M1 := hM
  have B1 := lb_up hB
  have O1 := hO
  obtain ⟨h2, d1, d2, d3⟩ := ct_m_needleCount M1.1 M1.2.1
  exact ⟨h2, _, nz_r _, ⟨_, _, _, _, _, _, _, by decide, by decide, hB.1, nzc (ct_needleCount hB.1 hB.2.1), M1.1, nzc d1⟩, li_q M1 B1 O1 hN hT d2 d3⟩
set_option maxRecDepth 4000 in
theorem lo_tolerance {h : gm_H} {n J R : Nat} (I : LI h n J R) (hJ : J < 600) : ∃ h2 b, zR b ∧ LQ h h2 n mX10_tolerance mX11_tolerance (.int (zI b)) ∧ LI h2 n (J + 1) (R + 1) := by
  obtain ⟨K, F, S, P, X, Ln, cn, L, g, T, hM, hB, hO, hN, hT⟩ := I
  have hv := hN.2.2.2.2.2.2.2.2.2.1
  have M1 := hM
  have B1 := lb_up hB
  have O1 := hO
  obtain ⟨h2, d1, d2, d3⟩ := ct_m_tolerance M1.1 M1.2.1
  exact ⟨h2, _, nz_r _, ⟨_, _, _, _, _, _, _, by decide, by decide, hB.1, nzc (ct_tolerance hB.1 hB.2.1), M1.1, nzc d1⟩, li_q M1 B1 O1 hN hT d2 d3⟩
set_option maxRecDepth 4000 in
theorem lo_clock {h : gm_H} {n J R : Nat} (I : LI h n J R) (hJ : J < 600) : ∃ h2 b, zR b ∧ LQ h h2 n mX10_clock mX11_clock (.int (zI b)) ∧ LI h2 n (J + 1) (R + 1) := by
  obtain ⟨K, F, S, P, X, Ln, cn, L, g, T, hM, hB, hO, hN, hT⟩ := I
  have hv := hN.2.2.2.2.2.2.2.2.2.1
  have M1 := hM
  have B1 := lb_up hB
  have O1 := hO
  obtain ⟨h2, d1, d2, d3⟩ := ct_m_clock M1.1 M1.2.1
  exact ⟨h2, _, nz_r _, ⟨_, _, _, _, _, _, _, by decide, by decide, hB.1, nzc (ct_clock hB.1 hB.2.1), M1.1, nzc d1⟩, li_q M1 B1 O1 hN hT d2 d3⟩
set_option maxRecDepth 4000 in
theorem lo_batchCount {h : gm_H} {n J R : Nat} (I : LI h n J R) (hJ : J < 600) : ∃ h2 b, zR b ∧ LQ h h2 n mX10_batchCount mX11_batchCount (.int (zI b)) ∧ LI h2 n (J + 1) (R + 1) := by
  obtain ⟨K, F, S, P, X, Ln, cn, L, g, T, hM, hB, hO, hN, hT⟩ := I
  have hv := hN.2.2.2.2.2.2.2.2.2.1
  have M1 := hM
  have B1 := lb_up hB
  have O1 := hO
  obtain ⟨h2, d1, d2, d3⟩ := ct_m_batchCount M1.1 M1.2.1
  exact ⟨h2, _, nz_r _, ⟨_, _, _, _, _, _, _, by decide, by decide, hB.1, nzc (ct_batchCount hB.1 hB.2.1), M1.1, nzc d1⟩, li_q M1 B1 O1 hN hT d2 d3⟩
set_option maxRecDepth 4000 in
theorem lo_bakedCount {h : gm_H} {n J R : Nat} (I : LI h n J R) (hJ : J < 600) : ∃ h2 b, zR b ∧ LQ h h2 n mX10_bakedCount mX11_bakedCount (.int (zI b)) ∧ LI h2 n (J + 1) (R + 1) := by
  obtain ⟨K, F, S, P, X, Ln, cn, L, g, T, hM, hB, hO, hN, hT⟩ := I
  have hv := hN.2.2.2.2.2.2.2.2.2.1
  have M1 := hM
  have B1 := lb_up hB
  have O1 := hO
  obtain ⟨h2, d1, d2, d3⟩ := ct_m_bakedCount M1.1 M1.2.1
  exact ⟨h2, _, nz_r _, ⟨_, _, _, _, _, _, _, by decide, by decide, hB.1, nzc (ct_bakedCount hB.1 hB.2.1), M1.1, nzc d1⟩, li_q M1 B1 O1 hN hT d2 d3⟩
set_option maxRecDepth 4000 in
theorem lo_goodCount {h : gm_H} {n J R : Nat} (I : LI h n J R) (hJ : J < 600) : ∃ h2 b, zR b ∧ LQ h h2 n mX10_goodCount mX11_goodCount (.int (zI b)) ∧ LI h2 n (J + 1) (R + 1) := by
  obtain ⟨K, F, S, P, X, Ln, cn, L, g, T, hM, hB, hO, hN, hT⟩ := I
  have hv := hN.2.2.2.2.2.2.2.2.2.1
  have M1 := hM
  have B1 := lb_up hB
  have O1 := hO
  obtain ⟨h2, d1, d2, d3⟩ := ct_m_goodCount M1.1 M1.2.1 hv.1
  exact ⟨h2, _, nz_r _, ⟨_, _, _, _, _, _, _, by decide, by decide, hB.1, nzc (ct_goodCount hB.1 hB.2.1 hv.1), M1.1, nzc d1⟩, li_q M1 B1 O1 hN hT d2 d3⟩
set_option maxRecDepth 4000 in
theorem lo_leastDifference {h : gm_H} {n J R : Nat} (I : LI h n J R) (hJ : J < 600) : ∃ h2 b, zR b ∧ LQ h h2 n mX10_leastDifference mX11_leastDifference (.int (zI b)) ∧ LI h2 n (J + 1) (R + 1) := by
  obtain ⟨K, F, S, P, X, Ln, cn, L, g, T, hM, hB, hO, hN, hT⟩ := I
  have hv := hN.2.2.2.2.2.2.2.2.2.1
  obtain ⟨A0, A1, hP⟩ := hB.2.2.2.2.1
  obtain ⟨h', F', q1, q2, q3⟩ := ct_leastDifference hB.1 hB.2.1 hv.1 hP
  have M' := lm_fr hM q3 (fun k a b z => by omega)
  have B' := lb_pr hB q2 q3 (Or.inl rfl)
  have O' := lo_fr hO q3 (by omega) (by omega)
  have M1 := M'
  have B1 := lb_up B'
  have O1 := O'
  obtain ⟨H, hH⟩ := M1.2.2.2.2.2.1
  obtain ⟨h2, H', d1, d2, d4, d3⟩ := ct_m_leastDifference M1.1 M1.2.1 hH hv.1
  exact ⟨h2, _, nz_r _, ⟨_, _, _, _, _, _, _, by decide, by decide, hB.1, nzc (q1), M1.1, nzc d1⟩, li_q5 M1 B1 O1 hN hT d2 d4 d3⟩
set_option maxRecDepth 4000 in
theorem lo_leastDifferenceByOrder {h : gm_H} {n J R : Nat} (I : LI h n J R) (hJ : J < 600) : ∃ h2 b, zR b ∧ LQ h h2 n mX10_leastDifferenceByOrder mX11_leastDifferenceByOrder (.int (zI b)) ∧ LI h2 n (J + 1) (R + 1) := by
  obtain ⟨K, F, S, P, X, Ln, cn, L, g, T, hM, hB, hO, hN, hT⟩ := I
  have hv := hN.2.2.2.2.2.2.2.2.2.1
  obtain ⟨A0, A1, hP⟩ := hB.2.2.2.2.1
  obtain ⟨h', F', q1, q2, q3⟩ := ct_leastDifferenceByOrder hB.1 hB.2.1 hv.1 hP
  have M' := lm_fr hM q3 (fun k a b z => by omega)
  have B' := lb_pr hB q2 q3 (Or.inr rfl)
  have O' := lo_fr hO q3 (by omega) (by omega)
  have M1 := M'
  have B1 := lb_up B'
  have O1 := O'
  obtain ⟨H, hH⟩ := M1.2.2.2.2.2.1
  obtain ⟨h2, H', d1, d2, d4, d3⟩ := ct_m_leastDifferenceByOrder M1.1 M1.2.1 hH hv.1
  exact ⟨h2, _, nz_r _, ⟨_, _, _, _, _, _, _, by decide, by decide, hB.1, nzc (q1), M1.1, nzc d1⟩, li_q5 M1 B1 O1 hN hT d2 d4 d3⟩
set_option maxRecDepth 4000 in
theorem lo_leastLateness {h : gm_H} {n J R : Nat} (I : LI h n J R) (hJ : J < 600) : ∃ h2 b, zR b ∧ LQ h h2 n mX10_leastLateness mX11_leastLateness (.int (zI b)) ∧ LI h2 n (J + 1) (R + 1) := by
  obtain ⟨K, F, S, P, X, Ln, cn, L, g, T, hM, hB, hO, hN, hT⟩ := I
  have hv := hN.2.2.2.2.2.2.2.2.2.1
  obtain ⟨O0, hO0⟩ := hB.2.2.2.2.2.1
  obtain ⟨h', F', q1, q2, q3⟩ := ct_leastLateness hB.1 hB.2.1 hv.2 hO0
  have M' := lm_fr hM q3 (fun k a b z => by omega)
  have B' := lb_or hB q2 q3
  have O' := lo_fr hO q3 (by omega) (by omega)
  have M1 := M'
  have B1 := lb_up B'
  have O1 := O'
  obtain ⟨H, hH⟩ := M1.2.2.2.2.2.2.1
  obtain ⟨h2, H', d1, d2, d4, d3⟩ := ct_m_leastLateness M1.1 M1.2.1 hv.2 hH
  exact ⟨h2, _, nz_r _, ⟨_, _, _, _, _, _, _, by decide, by decide, hB.1, nzc (q1), M1.1, nzc d1⟩, li_q6 M1 B1 O1 hN hT d2 d4 d3⟩
set_option maxRecDepth 4000 in
theorem lo_leastLatenessByOrders {h : gm_H} {n J R : Nat} (I : LI h n J R) (hJ : J < 600) : ∃ h2 b, zR b ∧ LQ h h2 n mX10_leastLatenessByOrders mX11_leastLatenessByOrders (.int (zI b)) ∧ LI h2 n (J + 1) (R + 1) := by
  obtain ⟨K, F, S, P, X, Ln, cn, L, g, T, hM, hB, hO, hN, hT⟩ := I
  have hv := hN.2.2.2.2.2.2.2.2.2.1
  have M1 := hM
  have B1 := lb_up hB
  have O1 := hO
  obtain ⟨O0, hO0⟩ := hB.2.2.2.2.2.1
  obtain ⟨H, hH⟩ := M1.2.2.2.2.2.2.1
  obtain ⟨h2, H', d1, d2, d4, d3⟩ := ct_m_leastLatenessByOrders M1.1 M1.2.1 hv.2 hH
  exact ⟨h2, _, nz_r _, ⟨_, _, _, _, _, _, _, by decide, by decide, hB.1, nzc (ct_leastLatenessByOrders hB.1 hB.2.1 hv.2 hO0), M1.1, nzc d1⟩, li_q6 M1 B1 O1 hN hT d2 d4 d3⟩
set_option maxRecDepth 4000 in
theorem lo_latenessByIds {h : gm_H} {n J R : Nat} (I : LI h n J R) (hJ : J < 600) : ∃ h2 b, zR b ∧ LQ h h2 n mX10_latenessByIds mX11_latenessByIds (.int (zI b)) ∧ LI h2 n (J + 1) (R + 1) := by
  obtain ⟨K, F, S, P, X, Ln, cn, L, g, T, hM, hB, hO, hN, hT⟩ := I
  have hv := hN.2.2.2.2.2.2.2.2.2.1
  have M1 := hM
  have B1 := lb_up hB
  have O1 := hO
  obtain ⟨O0, hO0⟩ := hB.2.2.2.2.2.1
  obtain ⟨h2, d1, d2, d3⟩ := ct_m_latenessByIds M1.1 M1.2.1 hv.2
  exact ⟨h2, _, nz_r _, ⟨_, _, _, _, _, _, _, by decide, by decide, hB.1, nzc (ct_latenessByIds hB.1 hB.2.1 hv.2 hO0), M1.1, nzc d1⟩, li_q M1 B1 O1 hN hT d2 d3⟩
set_option maxRecDepth 4000 in
theorem lo_latenessTotal {h : gm_H} {n J R : Nat} (I : LI h n J R) (hJ : J < 600) : ∃ h2 b, LQ h h2 n mX10_latenessTotal mX11_latenessTotal (.long (zL b)) ∧ LI h2 n (J + 1) (R + 1) := by
  obtain ⟨K, F, S, P, X, Ln, cn, L, g, T, hM, hB, hO, hN, hT⟩ := I
  have hv := hN.2.2.2.2.2.2.2.2.2.1
  have M1 := hM
  have B1 := lb_up hB
  have O1 := hO
  obtain ⟨h2, d1, d2, d3⟩ := ct_m_latenessTotal M1.1 M1.2.1 hv.2
  exact ⟨h2, _, ⟨_, _, _, _, _, _, _, by decide, by decide, hB.1, (ct_latenessTotal hB.1 hB.2.1), M1.1, d1⟩, li_q M1 B1 O1 hN hT d2 d3⟩
set_option maxRecDepth 4000 in
theorem lo_errorPosition {h : gm_H} {n J R : Nat} (I : LI h n J R) (hJ : J < 600) : ∃ h2 k y, LH h h2 n mL_errorPosition [.ref n, .ref (n + 126)] mX11_errorPosition [.ref (n + 113)] k (.int (zI y)) ∧ zR y ∧ (k = 0 → ∃ g, h2.1[n + 126]? = some (gLo g) ∧ g 0 = zL y) ∧ LI h2 n (J + 1) (R + 1) := by
  obtain ⟨K, F, S, P, X, Ln, cn, L, g, T, hM, hB, hO, hN, hT⟩ := I
  have hv := hN.2.2.2.2.2.2.2.2.2.1
  have hr := hN.2.2.2.1
  have hz : zR (K 2) := by omega
  by_cases hq : K 2 = -1
  ·
    have c1 := lx_errorPosition_1 (o := n + 126) hB.1 (by decide) (ct_errorPositionX hB.1 hz hq)
    have M1 : LM (zTh h) (n + 113) _ _ _ _ _ _ := hM
    have B1 := lb_th hB
    have O1 : LO (zTh h) n := hO
    obtain ⟨h2, d1, d2, d3⟩ := ct_m_errorPositionX M1.1 hz (by omega)
    exact ⟨h2, 1, _, ⟨_, _, _, _, _, by decide, by decide, c1, M1.1, d1, d2, rfl, (by omega)⟩, zR_0, fun z => absurd z (by omega), li_q M1 B1 O1 hN hT d2 d3⟩
  ·
    obtain ⟨f0, hf0⟩ := hO.1
    obtain ⟨g1, c1, c2⟩ := lh_errorPosition hB.1 (by decide) (nz_r _) (nzc (ct_errorPosition hB.1 hz hq)) hf0
    have M1 := lm_set (k := n + 126) (Or.inl rfl) (gLo g1) hM
    have B1 := lb_up (lb_set (k := n + 126) (Or.inl rfl) (gLo g1) hB)
    have O1 := lo_set (f := g1) hO
    have e1 := gs_s (c' := gLo g1) hf0
    obtain ⟨h2, d1, d2, d3⟩ := ct_m_errorPosition M1.1 hz (by omega)
    exact ⟨h2, 0, _, ⟨_, _, _, _, _, by decide, by decide, c1, M1.1, nzc d1, d2, rfl, zR_0⟩, nz_r _, fun _ => ⟨g1, gh_at d3 e1 (by omega), c2⟩, li_q M1 B1 O1 hN hT d2 d3⟩
set_option maxRecDepth 4000 in
theorem lo_failedCommand {h : gm_H} {n J R : Nat} (I : LI h n J R) (hJ : J < 600) : ∃ h2 k y, LH h h2 n mL_failedCommand [.ref n, .ref (n + 126)] mX11_failedCommand [.ref (n + 113)] k (.int (zI y)) ∧ zR y ∧ (k = 0 → ∃ g, h2.1[n + 126]? = some (gLo g) ∧ g 0 = zL y) ∧ LI h2 n (J + 1) (R + 1) := by
  obtain ⟨K, F, S, P, X, Ln, cn, L, g, T, hM, hB, hO, hN, hT⟩ := I
  have hv := hN.2.2.2.2.2.2.2.2.2.1
  have hr := hN.2.2.2.2.1
  have hz : zR (K 3) := by omega
  by_cases hq : K 3 = -1
  ·
    have c1 := lx_failedCommand_1 (o := n + 126) hB.1 (by decide) (ct_failedCommandX hB.1 hz hq)
    have M1 : LM (zTh h) (n + 113) _ _ _ _ _ _ := hM
    have B1 := lb_th hB
    have O1 : LO (zTh h) n := hO
    obtain ⟨h2, d1, d2, d3⟩ := ct_m_failedCommandX M1.1 hz (by omega)
    exact ⟨h2, 1, _, ⟨_, _, _, _, _, by decide, by decide, c1, M1.1, d1, d2, rfl, (by omega)⟩, zR_0, fun z => absurd z (by omega), li_q M1 B1 O1 hN hT d2 d3⟩
  ·
    obtain ⟨f0, hf0⟩ := hO.1
    obtain ⟨g1, c1, c2⟩ := lh_failedCommand hB.1 (by decide) (nz_r _) (nzc (ct_failedCommand hB.1 hz hq)) hf0
    have M1 := lm_set (k := n + 126) (Or.inl rfl) (gLo g1) hM
    have B1 := lb_up (lb_set (k := n + 126) (Or.inl rfl) (gLo g1) hB)
    have O1 := lo_set (f := g1) hO
    have e1 := gs_s (c' := gLo g1) hf0
    obtain ⟨h2, d1, d2, d3⟩ := ct_m_failedCommand M1.1 hz (by omega)
    exact ⟨h2, 0, _, ⟨_, _, _, _, _, by decide, by decide, c1, M1.1, nzc d1, d2, rfl, zR_0⟩, nz_r _, fun _ => ⟨g1, gh_at d3 e1 (by omega), c2⟩, li_q M1 B1 O1 hN hT d2 d3⟩
