set_option maxRecDepth 4000 in
theorem srt_in {h : gm_H} {n p j z g : Nat} {v F B : Nat → Int} (hv : nd_iv v) (hj : j < 8) (hd : n + 3 ≤ p ∨ p + 3 ≤ n) (hz : z ≤ 7) (hs : zSd B z) (hB : ∀ i, i < z → 0 ≤ B i ∧ B i ≤ 99) : ∀ (pl : Nat) (B' : Nat → Int) (q : gm_H), pl ≤ z → pr_at q p F B' → nd_at q n v → (∀ i, i < pl → B' i = B i) → (∀ i, pl ≤ i → i < z → B' (i + 1) = B i) → (∀ i, pl ≤ i → i < z → v (10 + 10 * j) < B i) → gh_fr h q (fun k => k = p + 2) → ∃ pl' B'' q', gm_go mX6_sortStrengths 5 (31, [some (.ref p), some (.ref n), some (.int (zI g)), some (.int (zI (z : Nat))), some (.int (zI (j : Nat))), some (.int (zI (pl : Nat)))], [], q) (77, [some (.ref p), some (.ref n), some (.int (zI g)), some (.int (zI (z : Nat))), some (.int (zI (j : Nat))), some (.int (zI (pl' : Nat)))], [], q') ∧ pl' ≤ z ∧ pr_at q' p F B'' ∧ nd_at q' n v ∧ (∀ i, i < pl' → B'' i = B i) ∧ (∀ i, pl' ≤ i → i < z → B'' (i + 1) = B i) ∧ (∀ i, pl' ≤ i → i < z → v (10 + 10 * j) < B i) ∧ (∀ i, i < pl' → B i ≤ v (10 + 10 * j)) ∧ gh_fr h q' (fun k => k = p + 2) := by
  intro pl
  induction pl with
  | zero =>
    intro B' q hpl hP hN b1 b2 b3 hF
    refine ⟨0, B', q, ?_, by omega, hP, hN, b1, b2, b3, fun i hi => absurd hi (by omega), hF⟩
    obtain ⟨h1, S9, D9, h2, h3, h4, h5⟩ := id hN
    obtain ⟨p1, p2, p3⟩ := id hP
    refine gm_go_tr (gm_iload dX6_sortStrengths_31 rfl) ?_
    refine gm_go_tr (gi_if_le_t (tgt := 77) dX6_sortStrengths_33 (by decide) (by omega) (by omega)) ?_
    exact gm_go_rf
  | succ pl ih =>
    intro B' q hpl hP hN b1 b2 b3 hF
    obtain ⟨h1, S9, D9, h2, h3, h4, h5⟩ := id hN
    obtain ⟨p1, p2, p3⟩ := id hP
    have ej := h4 j hj
    have e1 : ((pl + 1 : Nat) : Int) - 1 = (pl : Int) := by omega
    have hb0 := b1 pl (by omega)
    have hr := hB pl (by omega)
    have sj := hv.2.2.1 j hj
    by_cases c : B pl ≤ v (10 + 10 * j)
    ·
      refine ⟨pl + 1, B', q, ?_, hpl, hP, hN, b1, b2, b3, fun i hi => Int.le_trans (hs i pl (by omega) (by omega)) c, hF⟩
      refine gm_go_tr (gm_iload dX6_sortStrengths_31 rfl) ?_
      refine gm_go_tr (gi_if_le_f 77 dX6_sortStrengths_33 (by decide) (by omega) (by omega)) ?_
      refine gm_go_tr (gm_aload_n dX6_sortStrengths_36 rfl (by first | exact Or.inl ⟨_, rfl⟩ | exact Or.inr ⟨_, rfl⟩)) ?_
      refine gm_go_tr (gm_get dX6_sortStrengths_37 (fl_X6_15 rfl) p1 rfl) ?_
      refine gm_go_tr (gm_iload dX6_sortStrengths_40 rfl) ?_
      refine gm_go_tr (gi_const dX6_sortStrengths_42) ?_
      refine gm_go_tr (gi_sub dX6_sortStrengths_43) ?_
      rw [e1]
      refine gm_go_tr (gi_ald dX6_sortStrengths_44 p3 (by omega) (by omega) (by decide)) ?_
      rw [Int.toNat_natCast, hb0]
      refine gm_go_tr (gm_aload_n dX6_sortStrengths_45 rfl (by first | exact Or.inl ⟨_, rfl⟩ | exact Or.inr ⟨_, rfl⟩)) ?_
      refine gm_go_tr (gm_get dX6_sortStrengths_46 (fl_X6_52 rfl) h1 rfl) ?_
      refine gm_go_tr (gm_iload dX6_sortStrengths_49 rfl) ?_
      refine gm_go_tr (gi_ald dX6_sortStrengths_51 h2 (by omega) (by omega) (by decide)) ?_
      rw [Int.toNat_natCast, ej]
      refine gm_go_tr (gi_icmp_le_t (tgt := 77) dX6_sortStrengths_52 (by decide) (by omega) (by omega) c) ?_
      exact gm_go_rf
    ·
      obtain ⟨q2, hq2⟩ : ∃ x : gm_H, x = (q.1.set (p + 2) (gA 8 (zU B' (pl + 1) (B pl))), q.2) := ⟨_, rfl⟩
      have hP2 : pr_at q2 p F (zU B' (pl + 1) (B pl)) := by rw [hq2]; exact ⟨gs_n p1 (by omega), gs_n p2 (by omega), gs_s p3⟩
      have hF2 : gh_fr h q2 (fun k => k = p + 2) := by rw [hq2]; exact gh_set (K := fun k => k = p + 2) hF rfl _
      have hN2 : nd_at q2 n v := by rw [hq2]; exact nd_fr (K := fun k => k = p + 2) (gh_set (K := fun k => k = p + 2) gh_rf rfl _) (fun k hk z => by have := hk.1; have := hk.2; omega) hN
      obtain ⟨pl', B'', q', hgo, g1, g2, g3, g4, g5, g6, g7, g8⟩ := ih (zU B' (pl + 1) (B pl)) q2 (by omega) hP2 hN2 (fun i hi => by rw [zU_n (by omega)]; exact b1 i (by omega)) (fun i hi hn => by
        by_cases e : i = pl
        · rw [e, zU_s]
        · rw [zU_n (by omega)]; exact b2 i (by omega) hn) (fun i hi hn => by
        by_cases e : i = pl
        · rw [e]; omega
        · exact b3 i (by omega) hn) hF2
      refine ⟨pl', B'', q', ?_, g1, g2, g3, g4, g5, g6, g7, g8⟩
      refine gm_go_tr (gm_iload dX6_sortStrengths_31 rfl) ?_
      refine gm_go_tr (gi_if_le_f 77 dX6_sortStrengths_33 (by decide) (by omega) (by omega)) ?_
      refine gm_go_tr (gm_aload_n dX6_sortStrengths_36 rfl (by first | exact Or.inl ⟨_, rfl⟩ | exact Or.inr ⟨_, rfl⟩)) ?_
      refine gm_go_tr (gm_get dX6_sortStrengths_37 (fl_X6_15 rfl) p1 rfl) ?_
      refine gm_go_tr (gm_iload dX6_sortStrengths_40 rfl) ?_
      refine gm_go_tr (gi_const dX6_sortStrengths_42) ?_
      refine gm_go_tr (gi_sub dX6_sortStrengths_43) ?_
      rw [e1]
      refine gm_go_tr (gi_ald dX6_sortStrengths_44 p3 (by omega) (by omega) (by decide)) ?_
      rw [Int.toNat_natCast, hb0]
      refine gm_go_tr (gm_aload_n dX6_sortStrengths_45 rfl (by first | exact Or.inl ⟨_, rfl⟩ | exact Or.inr ⟨_, rfl⟩)) ?_
      refine gm_go_tr (gm_get dX6_sortStrengths_46 (fl_X6_52 rfl) h1 rfl) ?_
      refine gm_go_tr (gm_iload dX6_sortStrengths_49 rfl) ?_
      refine gm_go_tr (gi_ald dX6_sortStrengths_51 h2 (by omega) (by omega) (by decide)) ?_
      rw [Int.toNat_natCast, ej]
      refine gm_go_tr (gi_icmp_le_f 77 dX6_sortStrengths_52 (by decide) (by omega) (by omega) c) ?_
      refine gm_go_tr (gm_aload_n dX6_sortStrengths_55 rfl (by first | exact Or.inl ⟨_, rfl⟩ | exact Or.inr ⟨_, rfl⟩)) ?_
      refine gm_go_tr (gm_get dX6_sortStrengths_56 (fl_X6_15 rfl) p1 rfl) ?_
      refine gm_go_tr (gm_iload dX6_sortStrengths_59 rfl) ?_
      refine gm_go_tr (gm_aload_n dX6_sortStrengths_61 rfl (by first | exact Or.inl ⟨_, rfl⟩ | exact Or.inr ⟨_, rfl⟩)) ?_
      refine gm_go_tr (gm_get dX6_sortStrengths_62 (fl_X6_15 rfl) p1 rfl) ?_
      refine gm_go_tr (gm_iload dX6_sortStrengths_65 rfl) ?_
      refine gm_go_tr (gi_const dX6_sortStrengths_67) ?_
      refine gm_go_tr (gi_sub dX6_sortStrengths_68) ?_
      rw [e1]
      refine gm_go_tr (gi_ald dX6_sortStrengths_69 p3 (by omega) (by omega) (by decide)) ?_
      rw [Int.toNat_natCast, hb0]
      refine gm_go_tr (gi_ast dX6_sortStrengths_70 p3 (by omega) (by omega) (by decide)) ?_
      refine gm_hq (a := q2) (by rw [hq2]; rfl) ?_
      refine gm_go_tr (gi_iinc (ls' := [_, _, _, _, _, _]) dX6_sortStrengths_71 rfl (by decide) rfl) ?_
      refine gm_go_tr (gm_goto (tgt := 31) dX6_sortStrengths_74 (by decide)) ?_
      rw [show ((pl + 1 : Nat) : Int) + -1 = ((pl : Nat) : Int) by omega]
      exact hgo
theorem zGd_hi {v : Nat → Int} {k : Nat} (hk : (v 0).toNat ≤ k) : (zGd v).testBit k = false := Nat.testBit_lt_two_pow (Nat.lt_of_lt_of_le (zGS_lt v (v 0).toNat) (Nat.pow_le_pow_right (by decide) hk))
set_option maxRecDepth 4000 in
theorem ct_sortStrengths {h : gm_H} {n p : Nat} {v F A : Nat → Int} (hN : nd_at h n v) (hv : nd_iv v) (hP : pr_at h p F A) (hd : n + 3 ≤ p ∨ p + 3 ≤ n) : ∃ h' B z, gm_co mX6_sortStrengths 5 [.ref p, .ref n] h (.inl (some (.int (zI (z : Nat))))) h' ∧ pr_at h' p F B ∧ zSo v (zGd v) B z ∧ gh_fr h h' (fun k => k = p + 2) := by
  have hg := zGd_lt hv
  obtain ⟨cn, hc, hc8⟩ := nd_cnt hv
  obtain ⟨h1, h2⟩ := id hN
  have hco := ct_goodSet hN hv
  rw [show zGS v (v 0).toNat = zGd v from rfl] at hco
  have hhi : ∀ k, cn ≤ k → (zGd v).testBit k = false := fun k hk => zGd_hi (by omega)
  generalize hge : zGd v = g at *
  obtain ⟨f', hgo, q, B, x, rfl, hN', hP', hs, hB, hk, hfr⟩ := gl_up (M := mX6_sortStrengths) (d := 5) (fun j f => ∃ q B x, f = (10, [some (.ref p), some (.ref n), some (.int (zI g)), some (.int (zI (zK (fun k => g.testBit k) j : Nat))), some (.int (zI (j : Nat))), x], [], q) ∧ nd_at q n v ∧ pr_at q p F B ∧ zSd B (zK (fun k => g.testBit k) j) ∧ (∀ i, i < zK (fun k => g.testBit k) j → 0 ≤ B i ∧ B i ≤ 99) ∧ (∀ t, zKc B (zK (fun k => g.testBit k) j) t = zK (fun k => g.testBit k && decide (v (10 + 10 * k) ≤ t)) j) ∧ gh_fr h q (fun k => k = p + 2)) cn (by
    rintro j f hj ⟨q, B, x, rfl, hN, hP, hs, hB, hk, hF⟩
    obtain ⟨h1, S9, D9, h2, h3, h4, h5⟩ := id hN
    obtain ⟨p1, p2, p3⟩ := id hP
    have hzl := zK_le (fun k => g.testBit k) j
    have sj := hv.2.2.1 j (by omega)
    have eS : ∀ k, zK (fun k => g.testBit k) (k + 1) = zK (fun k => g.testBit k) k + (if g.testBit k then 1 else 0) := fun _ => rfl
    cases hb : g.testBit j with
    | false =>
      have e1 : zK (fun k => g.testBit k) (j + 1) = zK (fun k => g.testBit k) j := by rw [eS, hb]; rfl
      refine ⟨(10, [some (.ref p), some (.ref n), some (.int (zI g)), some (.int (zI (zK (fun k => g.testBit k) (j + 1) : Nat))), some (.int (zI ((j + 1 : Nat) : Int))), x], [], q), ?_, q, B, x, rfl, hN, hP, by rw [e1]; exact hs, by rw [e1]; exact hB, fun t => by rw [e1, hk t, zK, hb]; rfl, hF⟩
      rw [e1]
      refine gm_go_tr (gm_iload dX6_sortStrengths_10 rfl) ?_
      refine gm_go_tr (gm_aload_n dX6_sortStrengths_12 rfl (by first | exact Or.inl ⟨_, rfl⟩ | exact Or.inr ⟨_, rfl⟩)) ?_
      refine gm_go_tr (gm_get dX6_sortStrengths_13 (fl_X6_65 rfl) h1 rfl) ?_
      refine gm_go_tr (gi_icmp_ge_f 100 dX6_sortStrengths_16 (by decide) (by omega) (by omega) (by omega)) ?_
      refine gm_go_tr (gm_iload_n dX6_sortStrengths_19 rfl) ?_
      refine gm_go_tr (gm_iload dX6_sortStrengths_20 rfl) ?_
      refine gm_go_tr (gm_cS dX6_sortStrengths_22 (ct_holds (by omega) (by omega)) rfl mt_X10_holds ms_X10_holds (lk_X6_38 rfl) rfl (Nat.le_of_ble_eq_true rfl) (by decide)) ?_
      rw [hb]
      refine gm_go_tr (gi_if_eq_t (tgt := 94) dX6_sortStrengths_25 (by decide) (by decide) rfl) ?_
      refine gm_go_tr (gi_iinc (ls' := [_, _, _, _, _, _]) dX6_sortStrengths_94 rfl (by decide) rfl) ?_
      exact gm_goto (tgt := 10) dX6_sortStrengths_97 (by decide)
    | true =>
      have e1 : zK (fun k => g.testBit k) (j + 1) = zK (fun k => g.testBit k) j + 1 := by rw [eS, hb]; rfl
      generalize zK (fun k => g.testBit k) j = z at *
      obtain ⟨pl, B', q', hgo, g1, g2, g3, g4, g5, g6, g7, g8⟩ := srt_in (h := h) (g := g) (F := F) hv (show j < 8 by omega) hd (show z ≤ 7 by omega) hs hB z B q (Nat.le_refl z) hP hN (fun i hi => rfl) (fun i hi hn => absurd hi (by omega)) (fun i hi hn => absurd hi (by omega)) hF
      obtain ⟨p1', p2', p3'⟩ := id g2
      obtain ⟨h1', S9', D9', h2', h3', h4', h5'⟩ := id g3
      have ej' := h4' j (by omega)
      have i1 : ∀ i, i < pl → zU B' pl (v (10 + 10 * j)) i = B i := fun i hi => by rw [zU_n (by omega)]; exact g4 i hi
      have i2 : zU B' pl (v (10 + 10 * j)) pl = v (10 + 10 * j) := zU_s
      have i3 : ∀ i, pl ≤ i → i < z → zU B' pl (v (10 + 10 * j)) (i + 1) = B i := fun i hi hn => by rw [zU_n (by omega)]; exact g5 i hi hn
      obtain ⟨q2, hq2⟩ : ∃ x : gm_H, x = (q'.1.set (p + 2) (gA 8 (zU B' pl (v (10 + 10 * j)))), q'.2) := ⟨_, rfl⟩
      have hP2 : pr_at q2 p F (zU B' pl (v (10 + 10 * j))) := by rw [hq2]; exact ⟨gs_n p1' (by omega), gs_n p2' (by omega), gs_s p3'⟩
      have hF2 : gh_fr h q2 (fun k => k = p + 2) := by rw [hq2]; exact gh_set (K := fun k => k = p + 2) g8 rfl _
      have hN2 : nd_at q2 n v := by rw [hq2]; exact nd_fr (K := fun k => k = p + 2) (gh_set (K := fun k => k = p + 2) gh_rf rfl _) (fun k hk z => by have := hk.1; have := hk.2; omega) g3
      refine ⟨(10, [some (.ref p), some (.ref n), some (.int (zI g)), some (.int (zI ((z + 1 : Nat) : Int))), some (.int (zI ((j + 1 : Nat) : Int))), some (.int (zI (pl : Nat)))], [], q2), ?_, q2, zU B' pl (v (10 + 10 * j)), _, by rw [e1], hN2, hP2, ?_, ?_, ?_, hF2⟩
      ·
        refine gm_go_tr (gm_iload dX6_sortStrengths_10 rfl) ?_
        refine gm_go_tr (gm_aload_n dX6_sortStrengths_12 rfl (by first | exact Or.inl ⟨_, rfl⟩ | exact Or.inr ⟨_, rfl⟩)) ?_
        refine gm_go_tr (gm_get dX6_sortStrengths_13 (fl_X6_65 rfl) h1 rfl) ?_
        refine gm_go_tr (gi_icmp_ge_f 100 dX6_sortStrengths_16 (by decide) (by omega) (by omega) (by omega)) ?_
        refine gm_go_tr (gm_iload_n dX6_sortStrengths_19 rfl) ?_
        refine gm_go_tr (gm_iload dX6_sortStrengths_20 rfl) ?_
        refine gm_go_tr (gm_cS dX6_sortStrengths_22 (ct_holds (by omega) (by omega)) rfl mt_X10_holds ms_X10_holds (lk_X6_38 rfl) rfl (Nat.le_of_ble_eq_true rfl) (by decide)) ?_
        rw [hb]
        refine gm_go_tr (gi_if_eq_f 94 dX6_sortStrengths_25 (by decide) (by decide) (by decide)) ?_
        refine gm_go_tr (gm_iload_n dX6_sortStrengths_28 rfl) ?_
        refine gm_go_tr (gm_istore (ls' := [_, _, _, _, _, _]) dX6_sortStrengths_29 (by decide) rfl) ?_
        refine gm_go_tr hgo ?_
        refine gm_go_tr (gm_aload_n dX6_sortStrengths_77 rfl (by first | exact Or.inl ⟨_, rfl⟩ | exact Or.inr ⟨_, rfl⟩)) ?_
        refine gm_go_tr (gm_get dX6_sortStrengths_78 (fl_X6_15 rfl) p1' rfl) ?_
        refine gm_go_tr (gm_iload dX6_sortStrengths_81 rfl) ?_
        refine gm_go_tr (gm_aload_n dX6_sortStrengths_83 rfl (by first | exact Or.inl ⟨_, rfl⟩ | exact Or.inr ⟨_, rfl⟩)) ?_
        refine gm_go_tr (gm_get dX6_sortStrengths_84 (fl_X6_52 rfl) h1' rfl) ?_
        refine gm_go_tr (gm_iload dX6_sortStrengths_87 rfl) ?_
        refine gm_go_tr (gi_ald dX6_sortStrengths_89 h2' (by omega) (by omega) (by decide)) ?_
        rw [Int.toNat_natCast, ej']
        refine gm_go_tr (gi_ast dX6_sortStrengths_90 p3' (by omega) (by omega) (by decide)) ?_
        refine gm_hq (a := q2) (by rw [hq2]; rfl) ?_
        refine gm_go_tr (gi_iinc (ls' := [_, _, _, _, _, _]) dX6_sortStrengths_91 rfl (by decide) rfl) ?_
        refine gm_go_tr (gi_iinc (ls' := [_, _, _, _, _, _]) dX6_sortStrengths_94 rfl (by decide) rfl) ?_
        exact gm_goto (tgt := 10) dX6_sortStrengths_97 (by decide)
      · rw [e1]; exact zSd_in g1 hs i1 i2 i3 g7 g6
      · rw [e1]; intro i hi
        by_cases a : i < pl
        · rw [i1 i a]; exact hB i (by omega)
        · by_cases c : i = pl
          · rw [c, i2]; exact sj
          · have e3 := i3 (i - 1) (by omega) (by omega)
            rw [show i - 1 + 1 = i by omega] at e3
            rw [e3]; exact hB (i - 1) (by omega)
      · intro t
        rw [e1, show z + 1 = pl + (z - pl) + 1 by omega, zKc_in i1 i2 t (z - pl) (fun i hi hn => i3 i hi (by omega)), show pl + (z - pl) = z by omega, hk t]
        show _ = zK _ j + (if (g.testBit j && decide (v (10 + 10 * j) ≤ t)) = true then 1 else 0)
        rw [hb]; simp
    ) 0 (10, [some (.ref p), some (.ref n), some (.int (zI g)), some (.int (zI (0 : Nat))), some (.int (zI (0 : Nat))), none], [], h) (by omega) ⟨h, A, none, rfl, hN, hP, fun i j _ hj => absurd hj (Nat.not_lt_zero j), fun i hi => absurd hi (Nat.not_lt_zero i), fun t => rfl, gh_rf⟩
  have en : zn g = zK (fun k => g.testBit k) cn := zK_ext 8 hc8 (fun k hk _ => hhi k hk)
  have ec : ∀ t, zc v g t = zK (fun k => g.testBit k && decide (v (10 + 10 * k) ≤ t)) cn := fun t => zK_ext 8 hc8 (fun k hk _ => by rw [hhi k hk]; rfl)
  refine ⟨q, B, zK (fun k => g.testBit k) cn, ?_, hP', ⟨en.symm, hs, hB, fun t => (hk t).trans (ec t).symm⟩, hfr⟩
  obtain ⟨h1', h2'⟩ := id hN'
  refine gm_co_of _ (by decide +kernel) rfl (Nat.le_of_ble_eq_true rfl) rfl ?_
  refine gm_go.ru (gm_aload_n dX6_sortStrengths_0 rfl (by first | exact Or.inl ⟨_, rfl⟩ | exact Or.inr ⟨_, rfl⟩)) ?_
  refine gm_go.ru (gm_cV dX6_sortStrengths_1 (hco) rfl mt_X3_goodSet mv_X3_goodSet (lk_X6_18 rfl) (Or.inl ⟨_, 5, _, _, _, rfl, h1, rfl⟩) rfl (Nat.le_of_ble_eq_true rfl) (by decide)) ?_
  refine gm_go.ru (gm_istore_n (ls' := [_, _, _, _, _, _]) dX6_sortStrengths_4 (by decide) rfl) ?_
  refine gm_go.ru (gi_const dX6_sortStrengths_5) ?_
  refine gm_go.ru (gm_istore_n (ls' := [_, _, _, _, _, _]) dX6_sortStrengths_6 (by decide) rfl) ?_
  refine gm_go.ru (gi_const dX6_sortStrengths_7) ?_
  refine gm_go.ru (gm_istore (ls' := [_, _, _, _, _, _]) dX6_sortStrengths_8 (by decide) rfl) ?_
  refine gm_go.ru hgo ?_
  refine gm_go.ru (gm_iload dX6_sortStrengths_10 rfl) ?_
  refine gm_go.ru (gm_aload_n dX6_sortStrengths_12 rfl (by first | exact Or.inl ⟨_, rfl⟩ | exact Or.inr ⟨_, rfl⟩)) ?_
  refine gm_go.ru (gm_get dX6_sortStrengths_13 (fl_X6_65 rfl) h1' rfl) ?_
  refine gm_go.ru (gi_icmp_ge_t (tgt := 100) dX6_sortStrengths_16 (by decide) (by omega) (by omega) (by omega)) ?_
  refine gm_go.ru (gm_iload_n dX6_sortStrengths_100 rfl) ?_
  exact gm_iret dX6_sortStrengths_101 rfl
set_option maxRecDepth 4000 in
theorem ct_differenceWithout {h : gm_H} {p z l : Nat} {F A : Nat → Int} (hP : pr_at h p F A) (hz : z ≤ 8) (hl : l ≤ 8) : gm_co mX6_differenceWithout 1 [.ref p, .int (zI z), .int (zI l)] h (.inl (some (.int (zI (zdw A l z))))) h := by
  refine gm_co_of _ (by decide +kernel) rfl (Nat.le_of_ble_eq_true rfl) rfl ?_
  obtain ⟨p1, p2, p3⟩ := id hP
  have key : ∀ (m j : Nat), j + m = z → gm_ru mX6_differenceWithout 1 (8, [some (.ref p), some (.int (zI z)), some (.int (zI l)), some (.int (zI (zdw A l j))), some (.int (zI (zB (zop l j)))), some (.int (zI j))], [], h) (.inl (some (.int (zI (zdw A l z))))) h := by
    intro m
    induction m with
    | zero =>
      intro j hj
      obtain rfl : j = z := by omega
      refine gm_go.ru (gm_iload dX6_differenceWithout_8 rfl) ?_
      refine gm_go.ru (gm_iload_n dX6_differenceWithout_10 rfl) ?_
      refine gm_go.ru (gi_icmp_ge_t (tgt := 64) dX6_differenceWithout_11 (by decide) (by omega) (by omega) (by omega)) ?_
      refine gm_go.ru (gm_iload_n dX6_differenceWithout_64 rfl) ?_
      exact gm_iret dX6_differenceWithout_65 rfl
    | succ m ih =>
      intro j hj
      have e := ih (j + 1) (by omega)
      rw [zop, zdw] at e
      by_cases c : j = l
      ·
        rw [if_pos c, if_pos c] at e
        refine gm_go.ru (gm_iload dX6_differenceWithout_8 rfl) ?_
        refine gm_go.ru (gm_iload_n dX6_differenceWithout_10 rfl) ?_
        refine gm_go.ru (gi_icmp_ge_f 64 dX6_differenceWithout_11 (by decide) (by omega) (by omega) (by omega)) ?_
        refine gm_go.ru (gm_iload dX6_differenceWithout_14 rfl) ?_
        refine gm_go.ru (gm_iload_n dX6_differenceWithout_16 rfl) ?_
        refine gm_go.ru (gi_icmp_eq_t (tgt := 58) dX6_differenceWithout_17 (by decide) (by omega) (by omega) (by omega)) ?_
        refine gm_go.ru (gi_iinc (ls' := [_, _, _, _, _, _]) dX6_differenceWithout_58 rfl (by decide) rfl) ?_
        refine gm_go.ru (gm_goto (tgt := 8) dX6_differenceWithout_61 (by decide)) ?_
        exact e
      ·
        rw [if_neg c, if_neg c] at e
        cases ho : zop l j
        ·
          rw [ho] at e
          refine gm_go.ru (gm_iload dX6_differenceWithout_8 rfl) ?_
          refine gm_go.ru (gm_iload_n dX6_differenceWithout_10 rfl) ?_
          refine gm_go.ru (gi_icmp_ge_f 64 dX6_differenceWithout_11 (by decide) (by omega) (by omega) (by omega)) ?_
          refine gm_go.ru (gm_iload dX6_differenceWithout_14 rfl) ?_
          refine gm_go.ru (gm_iload_n dX6_differenceWithout_16 rfl) ?_
          refine gm_go.ru (gi_icmp_eq_f 58 dX6_differenceWithout_17 (by decide) (by omega) (by omega) (by omega)) ?_
          refine gm_go.ru (gm_iload_n dX6_differenceWithout_20 rfl) ?_
          refine gm_go.ru (gm_iload dX6_differenceWithout_21 rfl) ?_
          refine gm_go.ru (gi_if_eq_t (tgt := 36) dX6_differenceWithout_23 (by decide) (by decide) rfl) ?_
          refine gm_go.ru (gm_aload_n dX6_differenceWithout_36 rfl (by first | exact Or.inl ⟨_, rfl⟩ | exact Or.inr ⟨_, rfl⟩)) ?_
          refine gm_go.ru (gm_get dX6_differenceWithout_37 (fl_X6_15 rfl) p1 rfl) ?_
          refine gm_go.ru (gm_iload dX6_differenceWithout_40 rfl) ?_
          refine gm_go.ru (gi_ald dX6_differenceWithout_42 p3 (by omega) (by omega) (by decide)) ?_
          refine gm_go.ru (gi_neg dX6_differenceWithout_43) ?_
          rw [Int.toNat_natCast]
          refine gm_go.ru (gi_add dX6_differenceWithout_44) ?_
          refine gm_go.ru (gm_istore_n (ls' := [_, _, _, _, _, _]) dX6_differenceWithout_45 (by decide) rfl) ?_
          refine gm_go.ru (gm_iload dX6_differenceWithout_46 rfl) ?_
          refine gm_go.ru (gi_if_ne_f 55 dX6_differenceWithout_48 (by decide) (by decide) (by decide)) ?_
          refine gm_go.ru (gi_const dX6_differenceWithout_51) ?_
          refine gm_go.ru (gm_goto (tgt := 56) dX6_differenceWithout_52 (by decide)) ?_
          refine gm_go.ru (gm_istore (ls' := [_, _, _, _, _, _]) dX6_differenceWithout_56 (by decide) rfl) ?_
          refine gm_go.ru (gi_iinc (ls' := [_, _, _, _, _, _]) dX6_differenceWithout_58 rfl (by decide) rfl) ?_
          refine gm_go.ru (gm_goto (tgt := 8) dX6_differenceWithout_61 (by decide)) ?_
          exact e
        ·
          rw [ho] at e
          refine gm_go.ru (gm_iload dX6_differenceWithout_8 rfl) ?_
          refine gm_go.ru (gm_iload_n dX6_differenceWithout_10 rfl) ?_
          refine gm_go.ru (gi_icmp_ge_f 64 dX6_differenceWithout_11 (by decide) (by omega) (by omega) (by omega)) ?_
          refine gm_go.ru (gm_iload dX6_differenceWithout_14 rfl) ?_
          refine gm_go.ru (gm_iload_n dX6_differenceWithout_16 rfl) ?_
          refine gm_go.ru (gi_icmp_eq_f 58 dX6_differenceWithout_17 (by decide) (by omega) (by omega) (by omega)) ?_
          refine gm_go.ru (gm_iload_n dX6_differenceWithout_20 rfl) ?_
          refine gm_go.ru (gm_iload dX6_differenceWithout_21 rfl) ?_
          refine gm_go.ru (gi_if_eq_f 36 dX6_differenceWithout_23 (by decide) (by decide) (by decide)) ?_
          refine gm_go.ru (gm_aload_n dX6_differenceWithout_26 rfl (by first | exact Or.inl ⟨_, rfl⟩ | exact Or.inr ⟨_, rfl⟩)) ?_
          refine gm_go.ru (gm_get dX6_differenceWithout_27 (fl_X6_15 rfl) p1 rfl) ?_
          refine gm_go.ru (gm_iload dX6_differenceWithout_30 rfl) ?_
          refine gm_go.ru (gi_ald dX6_differenceWithout_32 p3 (by omega) (by omega) (by decide)) ?_
          refine gm_go.ru (gm_goto (tgt := 44) dX6_differenceWithout_33 (by decide)) ?_
          rw [Int.toNat_natCast]
          refine gm_go.ru (gi_add dX6_differenceWithout_44) ?_
          refine gm_go.ru (gm_istore_n (ls' := [_, _, _, _, _, _]) dX6_differenceWithout_45 (by decide) rfl) ?_
          refine gm_go.ru (gm_iload dX6_differenceWithout_46 rfl) ?_
          refine gm_go.ru (gi_if_ne_t (tgt := 55) dX6_differenceWithout_48 (by decide) (by decide) (by decide)) ?_
          refine gm_go.ru (gi_const dX6_differenceWithout_55) ?_
          refine gm_go.ru (gm_istore (ls' := [_, _, _, _, _, _]) dX6_differenceWithout_56 (by decide) rfl) ?_
          refine gm_go.ru (gi_iinc (ls' := [_, _, _, _, _, _]) dX6_differenceWithout_58 rfl (by decide) rfl) ?_
          refine gm_go.ru (gm_goto (tgt := 8) dX6_differenceWithout_61 (by decide)) ?_
          exact e
  refine gm_go.ru (gi_const dX6_differenceWithout_0) ?_
  refine gm_go.ru (gm_istore_n (ls' := [_, _, _, _, _, _]) dX6_differenceWithout_1 (by decide) rfl) ?_
  refine gm_go.ru (gi_const dX6_differenceWithout_2) ?_
  refine gm_go.ru (gm_istore (ls' := [_, _, _, _, _, _]) dX6_differenceWithout_3 (by decide) rfl) ?_
  refine gm_go.ru (gi_const dX6_differenceWithout_5) ?_
  refine gm_go.ru (gm_istore (ls' := [_, _, _, _, _, _]) dX6_differenceWithout_6 (by decide) rfl) ?_
  exact key z 0 (by omega)
set_option maxRecDepth 4000 in
theorem ct_leastByStrengths {h : gm_H} {n p : Nat} {v F A : Nat → Int} (hN : nd_at h n v) (hv : nd_iv v) (hP : pr_at h p F A) (hd : n + 3 ≤ p ∨ p + 3 ≤ n) : ∃ h' B, gm_co mX6_leastByStrengths 6 [.ref p, .ref n] h (.inl (some (.int (zI (zD v (zGd v)))))) h' ∧ pr_at h' p F B ∧ gh_fr h h' (fun k => k = p + 2) := by
  obtain ⟨h', B, z, hc, hP', hso, hfr⟩ := ct_sortStrengths hN hv hP hd
  have hg := zGd_lt hv
  obtain ⟨p1, p2, p3⟩ := id hP
  obtain ⟨p1', p2', p3'⟩ := id hP'
  have hz8 : z ≤ 8 := by rw [hso.1]; exact zK_le _ 8
  refine ⟨h', B, ?_, hP', hfr⟩
  refine gm_co_of _ (by decide +kernel) rfl (Nat.le_of_ble_eq_true rfl) rfl ?_
  refine gm_go.ru (gm_aload_n dX6_leastByStrengths_0 rfl (by first | exact Or.inl ⟨_, rfl⟩ | exact Or.inr ⟨_, rfl⟩)) ?_
  refine gm_go.ru (gm_aload_n dX6_leastByStrengths_1 rfl (by first | exact Or.inl ⟨_, rfl⟩ | exact Or.inr ⟨_, rfl⟩)) ?_
  refine gm_go.ru (gm_cV dX6_leastByStrengths_2 (hc) rfl mt_X6_sortStrengths mv_X6_sortStrengths (lk_X6_58 rfl) (Or.inl ⟨_, 8, _, _, _, rfl, p1, rfl⟩) rfl (Nat.le_of_ble_eq_true rfl) (by decide)) ?_
  refine gm_go.ru (gm_istore_n (ls' := [_, _, _, _, _]) dX6_leastByStrengths_5 (by decide) rfl) ?_
  refine gm_go.ru (gm_iload_n dX6_leastByStrengths_6 rfl) ?_
  refine gm_go.ru (gi_const dX6_leastByStrengths_7) ?_
  refine gm_go.ru (gi_rem dX6_leastByStrengths_8 (by omega) (by omega) (by omega)) ?_
  rw [show ((z : Nat) : Int).tmod 2 = ((z % 2 : Nat) : Int) by rw [z_tmod (by decide), if_pos (by omega)]; omega]
  by_cases he : z % 2 = 0
  ·
    have eD := zSo_e hso he
    refine gm_go.ru (gi_if_ne_f 19 dX6_leastByStrengths_9 (by decide) (by omega) (by omega)) ?_
    refine gm_go.ru (gm_aload_n dX6_leastByStrengths_12 rfl (by first | exact Or.inl ⟨_, rfl⟩ | exact Or.inr ⟨_, rfl⟩)) ?_
    refine gm_go.ru (gm_iload_n dX6_leastByStrengths_13 rfl) ?_
    refine gm_go.ru (gm_iload_n dX6_leastByStrengths_14 rfl) ?_
    refine gm_go.ru (gm_cV dX6_leastByStrengths_15 (ct_differenceWithout hP' hz8 hz8) rfl mt_X6_differenceWithout mv_X6_differenceWithout (lk_X6_62 rfl) (Or.inl ⟨_, 8, _, _, _, rfl, p1', rfl⟩) rfl (Nat.le_of_ble_eq_true rfl) (by decide)) ?_
    rw [eD]
    exact gm_iret dX6_leastByStrengths_18 rfl
  ·
    have eD := zSo_o hso (by omega) hg
    obtain ⟨k1, k2, k3, k4⟩ := id hso
    have hcd : ∀ l, l < z → zR (zdw B l z) := fun l hl => by
      have e1 := zdw_e (l := l) k2 k3 z (Nat.le_refl z)
      have e2 : ∀ T, zWf' B l z T ≤ T := fun T => by
        induction T with
        | zero => exact Nat.le_refl 0
        | succ T ih => rw [zWf']; omega
      have e3 := e2 99
      split at e1 <;> omega
    have hin : ∀ j, j ≤ z → zR (zFm (fun l => some (zdw B l z)) 2147483647 j) := fun j hj => by
      rcases zFm_at (g := fun l => some (zdw B l z)) (a := 2147483647) j with e | ⟨k, hk, e⟩
      · rw [e]; omega
      · rw [← Option.some.inj e]; exact hcd k (by omega)
    have key : ∀ (m j : Nat), j + m = z → gm_ru mX6_leastByStrengths 6 (25, [some (.ref p), some (.ref n), some (.int (zI z)), some (.int (zI (zFm (fun l => some (zdw B l z)) 2147483647 j))), some (.int (zI j))], [], h') (.inl (some (.int (zI (zD v (zGd v)))))) h' := by
      intro m
      induction m with
      | zero =>
        intro j hj
        obtain rfl : j = z := by omega
        rw [eD]
        refine gm_go.ru (gm_iload dX6_leastByStrengths_25 rfl) ?_
        refine gm_go.ru (gm_iload_n dX6_leastByStrengths_27 rfl) ?_
        refine gm_go.ru (gi_icmp_ge_t (tgt := 49) dX6_leastByStrengths_28 (by decide) (by omega) (by omega) (by omega)) ?_
        refine gm_go.ru (gm_iload_n dX6_leastByStrengths_49 rfl) ?_
        exact gm_iret dX6_leastByStrengths_50 rfl
      | succ m ih =>
        intro j hj
        have e := ih (j + 1) (by omega)
        rw [zFm_s (c := zdw B j z) rfl] at e
        have r1 := hin j (by omega)
        have r2 := hcd j (by omega)
        refine gm_go.ru (gm_iload dX6_leastByStrengths_25 rfl) ?_
        refine gm_go.ru (gm_iload_n dX6_leastByStrengths_27 rfl) ?_
        refine gm_go.ru (gi_icmp_ge_f 49 dX6_leastByStrengths_28 (by decide) (by omega) (by omega) (by omega)) ?_
        refine gm_go.ru (gm_iload_n dX6_leastByStrengths_31 rfl) ?_
        refine gm_go.ru (gm_aload_n dX6_leastByStrengths_32 rfl (by first | exact Or.inl ⟨_, rfl⟩ | exact Or.inr ⟨_, rfl⟩)) ?_
        refine gm_go.ru (gm_iload_n dX6_leastByStrengths_33 rfl) ?_
        refine gm_go.ru (gm_iload dX6_leastByStrengths_34 rfl) ?_
        refine gm_go.ru (gm_cV dX6_leastByStrengths_36 (ct_differenceWithout hP' hz8 (by omega)) rfl mt_X6_differenceWithout mv_X6_differenceWithout (lk_X6_62 rfl) (Or.inl ⟨_, 8, _, _, _, rfl, p1', rfl⟩) rfl (Nat.le_of_ble_eq_true rfl) (by decide)) ?_
        refine gm_go.ru (gm_cS dX6_leastByStrengths_39 (ct_min r1 r2) rfl mt_J9_min_7cf53 ms_J9_min_7cf53 (lk_X6_46 rfl) rfl (Nat.le_of_ble_eq_true rfl) (by decide)) ?_
        refine gm_go.ru (gm_istore_n (ls' := [_, _, _, _, _]) dX6_leastByStrengths_42 (by decide) rfl) ?_
        refine gm_go.ru (gi_iinc (ls' := [_, _, _, _, _]) dX6_leastByStrengths_43 rfl (by decide) rfl) ?_
        refine gm_go.ru (gm_goto (tgt := 25) dX6_leastByStrengths_46 (by decide)) ?_
        exact e
    refine gm_go.ru (gi_if_ne_t (tgt := 19) dX6_leastByStrengths_9 (by decide) (by omega) (by omega)) ?_
    refine gm_go.ru (gm_ldci (v := zI 2147483647) dX6_leastByStrengths_19 (kc_X6_37 rfl)) ?_
    refine gm_go.ru (gm_istore_n (ls' := [_, _, _, _, _]) dX6_leastByStrengths_21 (by decide) rfl) ?_
    refine gm_go.ru (gi_const dX6_leastByStrengths_22) ?_
    refine gm_go.ru (gm_istore (ls' := [_, _, _, _, _]) dX6_leastByStrengths_23 (by decide) rfl) ?_
    exact key z 0 (by omega)
