/-- what the Model tries for the set S: of odd sets one is left out -/
def zMg (v : Nat → Int) (S : Nat) : Nat → Option Int := fun k => if S.testBit k then (if zn S % 2 = 1 then some (zD v (zC S k)) else if k = zLo S then none else some (zDf v (zLo S) k + zD v (zC (zC S (zLo S)) k))) else none
theorem zMg_D {v : Nat → Int} (hs : ∀ i, i < 8 → 0 ≤ v (10 + 10 * i) ∧ v (10 + 10 * i) ≤ 99) {S : Nat} (hS : S < 256) (h0 : S ≠ 0) : zFm (zMg v S) 100000000 8 = zD v S := by
  have hr := zD_r v S
  obtain ⟨l8, lb, -⟩ := zLo_a S hS h0
  by_cases ho : zn S % 2 = 1
  · obtain ⟨o1, k, k8, kb, ke⟩ := zD_o (v := v) ho
    have ev : ∀ k, k < 8 → S.testBit k = true → zD v (zC S k) = (zA v (zC S k) : Int) := fun k hk hb => zD_e (by have := zn_r hS hk hb; omega)
    refine zFm_eq (by omega) (fun k hk c hc => ?_) (Or.inr ⟨k, k8, ?_⟩)
    · unfold zMg at hc
      cases hb : S.testBit k with
      | false => rw [hb] at hc; simp at hc
      | true =>
        rw [hb, if_pos rfl, if_pos ho] at hc
        rw [← Option.some.inj hc, ev k hk hb]
        exact o1 k hk hb
    · unfold zMg
      rw [kb, if_pos rfl, if_pos ho, ev k k8 kb, ke]
  · have hex := (zD_ex hs hS l8 lb).resolve_left (fun z => ho z.1)
    obtain ⟨b, b8, bn, bb, be⟩ := hex
    refine zFm_eq (by omega) (fun k hk c hc => ?_) (Or.inr ⟨b, b8, ?_⟩)
    · unfold zMg at hc
      cases hb : S.testBit k with
      | false => rw [hb] at hc; simp at hc
      | true =>
        rw [hb, if_pos rfl, if_neg ho] at hc
        by_cases e : k = zLo S
        · rw [if_pos e] at hc; simp at hc
        · rw [if_neg e] at hc
          rw [← Option.some.inj hc]
          exact zD_le hs hS l8 hk (fun z => e z.symm) lb hb
    · unfold zMg
      rw [bb, if_pos rfl, if_neg ho, if_neg bn, be]
theorem zMg_hi {v : Nat → Int} {S c k : Nat} (hS : S < 2 ^ c) (hk : c ≤ k) : zMg v S k = none := by
  unfold zMg
  rw [Nat.testBit_lt_two_pow (Nat.lt_of_lt_of_le hS (Nat.pow_le_pow_right (by decide) hk))]
  simp
theorem zMg_c {v : Nat → Int} {S c : Nat} (hS : S < 2 ^ c) : ∀ n, zFm (zMg v S) 100000000 (c + n) = zFm (zMg v S) 100000000 c
  | 0 => rfl
  | n + 1 => by rw [← Nat.add_assoc, zFm_n (zMg_hi hS (by omega)), zMg_c hS n]
theorem zDf_r {v : Nat → Int} (hs : ∀ i, i < 8 → 0 ≤ v (10 + 10 * i) ∧ v (10 + 10 * i) ≤ 99) {a b : Nat} (ha : a < 8) (hb : b < 8) : 0 ≤ zDf v a b ∧ zDf v a b ≤ 99 := by
  have := hs a ha
  have := hs b hb
  unfold zDf
  split <;> omega
theorem zp2 {c : Nat} (h : c ≤ 8) : 2 ^ c ≤ 256 := Nat.pow_le_pow_right (by decide) h
set_option maxRecDepth 4000 in
theorem ct_mApart {h : gm_H} {m : Nat} {K F : Nat → Int} (hM : h.1[m]? = some (md_c m K)) (hV : h.1[m + 1]? = some (gA 118 F)) {a b : Nat} (hv : nd_iv F) (ha : a < 8) (hb : b < 8) : gm_co mX11_apart 2 [.ref m, .int (zI (a : Int)), .int (zI (b : Int))] h (.inl (some (.int (zI (zDf F a b))))) h := by
  refine gm_co_of _ (by decide +kernel) rfl (Nat.le_of_ble_eq_true rfl) rfl ?_
  have sa := hv.2.2.1 a ha
  have sb := hv.2.2.1 b hb
  unfold zDf
  by_cases c1 : 0 ≤ F (10 + 10 * a) - F (10 + 10 * b)
  ·
    rw [if_pos c1]
    refine gm_go.ru (gm_aload_n dX11_apart_0 rfl (by first | exact Or.inl ⟨_, rfl⟩ | exact Or.inr ⟨_, rfl⟩)) ?_
    refine gm_go.ru (gm_get dX11_apart_1 (fl_X11_16 rfl) hM rfl) ?_
    refine gm_go.ru (gm_iload_n dX11_apart_4 rfl) ?_
    refine gm_go.ru (gi_const dX11_apart_5) ?_
    refine gm_go.ru (gm_cS dX11_apart_6 (ct_mOf (i := a) (w := 0)) rfl mt_X11_of ms_X11_of (lk_X11_67 rfl) rfl (Nat.le_of_ble_eq_true rfl) (by decide)) ?_
    rw [show 10 + 10 * a + 0 = 10 + 10 * a by omega]
    refine gm_go.ru (gi_aldN dX11_apart_9 hV (by omega) (by decide)) ?_
    refine gm_go.ru (gm_aload_n dX11_apart_10 rfl (by first | exact Or.inl ⟨_, rfl⟩ | exact Or.inr ⟨_, rfl⟩)) ?_
    refine gm_go.ru (gm_get dX11_apart_11 (fl_X11_16 rfl) hM rfl) ?_
    refine gm_go.ru (gm_iload_n dX11_apart_14 rfl) ?_
    refine gm_go.ru (gi_const dX11_apart_15) ?_
    refine gm_go.ru (gm_cS dX11_apart_16 (ct_mOf (i := b) (w := 0)) rfl mt_X11_of ms_X11_of (lk_X11_67 rfl) rfl (Nat.le_of_ble_eq_true rfl) (by decide)) ?_
    rw [show 10 + 10 * b + 0 = 10 + 10 * b by omega]
    refine gm_go.ru (gi_aldN dX11_apart_19 hV (by omega) (by decide)) ?_
    refine gm_go.ru (gi_sub dX11_apart_20) ?_
    refine gm_go.ru (gm_istore_n (ls' := [_, _, _, _]) dX11_apart_21 (by decide) rfl) ?_
    refine gm_go.ru (gm_iload_n dX11_apart_22 rfl) ?_
    refine gm_go.ru (gi_if_ge_t (tgt := 31) dX11_apart_23 (by decide) (by omega) c1) ?_
    refine gm_go.ru (gm_iload_n dX11_apart_31 rfl) ?_
    exact gm_iret dX11_apart_32 rfl
  ·
    rw [if_neg c1]
    refine gm_go.ru (gm_aload_n dX11_apart_0 rfl (by first | exact Or.inl ⟨_, rfl⟩ | exact Or.inr ⟨_, rfl⟩)) ?_
    refine gm_go.ru (gm_get dX11_apart_1 (fl_X11_16 rfl) hM rfl) ?_
    refine gm_go.ru (gm_iload_n dX11_apart_4 rfl) ?_
    refine gm_go.ru (gi_const dX11_apart_5) ?_
    refine gm_go.ru (gm_cS dX11_apart_6 (ct_mOf (i := a) (w := 0)) rfl mt_X11_of ms_X11_of (lk_X11_67 rfl) rfl (Nat.le_of_ble_eq_true rfl) (by decide)) ?_
    rw [show 10 + 10 * a + 0 = 10 + 10 * a by omega]
    refine gm_go.ru (gi_aldN dX11_apart_9 hV (by omega) (by decide)) ?_
    refine gm_go.ru (gm_aload_n dX11_apart_10 rfl (by first | exact Or.inl ⟨_, rfl⟩ | exact Or.inr ⟨_, rfl⟩)) ?_
    refine gm_go.ru (gm_get dX11_apart_11 (fl_X11_16 rfl) hM rfl) ?_
    refine gm_go.ru (gm_iload_n dX11_apart_14 rfl) ?_
    refine gm_go.ru (gi_const dX11_apart_15) ?_
    refine gm_go.ru (gm_cS dX11_apart_16 (ct_mOf (i := b) (w := 0)) rfl mt_X11_of ms_X11_of (lk_X11_67 rfl) rfl (Nat.le_of_ble_eq_true rfl) (by decide)) ?_
    rw [show 10 + 10 * b + 0 = 10 + 10 * b by omega]
    refine gm_go.ru (gi_aldN dX11_apart_19 hV (by omega) (by decide)) ?_
    refine gm_go.ru (gi_sub dX11_apart_20) ?_
    refine gm_go.ru (gm_istore_n (ls' := [_, _, _, _]) dX11_apart_21 (by decide) rfl) ?_
    refine gm_go.ru (gm_iload_n dX11_apart_22 rfl) ?_
    refine gm_go.ru (gi_if_ge_f 31 dX11_apart_23 (by decide) (by omega) c1) ?_
    refine gm_go.ru (gm_iload_n dX11_apart_26 rfl) ?_
    refine gm_go.ru (gi_neg dX11_apart_27) ?_
    refine gm_go.ru (gm_goto (tgt := 32) dX11_apart_28 (by decide)) ?_
    exact gm_iret dX11_apart_32 rfl
set_option maxRecDepth 4000 in
theorem ct_mFirst {h : gm_H} {S : Nat} (hS : S < 256) (h0 : S ≠ 0) : gm_co mX11_first 1 [.int (zI (S : Int))] h (.inl (some (.int (zI ((zLo S : Nat) : Int))))) h := by
  refine gm_co_of _ (by decide +kernel) rfl (Nat.le_of_ble_eq_true rfl) rfl ?_
  obtain ⟨l8, lb, lo⟩ := zLo_a S hS h0
  have key : ∀ (z k : Nat), k + z = zLo S → gm_ru mX11_first 1 (2, [some (.int (zI (S : Int))), some (.int (zI (k : Int)))], [], h) (.inl (some (.int (zI ((zLo S : Nat) : Int))))) h := by
    intro z
    induction z with
    | zero =>
      intro k hk
      obtain rfl : k = zLo S := by omega
      have tb := z_tb S (zLo S)
      rw [lb, if_pos rfl] at tb
      refine gm_go.ru (gm_iload_n dX11_first_2 rfl) ?_
      refine gm_go.ru (gm_iload_n dX11_first_3 rfl) ?_
      refine gm_go.ru (gi_shr dX11_first_4 (by omega) (by omega)) ?_
      refine gm_go.ru (gi_const dX11_first_5) ?_
      refine gm_go.ru (gi_and1 dX11_first_6) ?_
      rw [tb]
      refine gm_go.ru (gi_if_ne_t (tgt := 16) dX11_first_7 (by decide) (by decide) (by decide)) ?_
      refine gm_go.ru (gm_iload_n dX11_first_16 rfl) ?_
      exact gm_iret dX11_first_17 rfl
    | succ z ih =>
      intro k hk
      have tb := z_tb S k
      rw [lo k (by omega) (by omega), if_neg (by decide)] at tb
      refine gm_go.ru (gm_iload_n dX11_first_2 rfl) ?_
      refine gm_go.ru (gm_iload_n dX11_first_3 rfl) ?_
      refine gm_go.ru (gi_shr dX11_first_4 (by omega) (by omega)) ?_
      refine gm_go.ru (gi_const dX11_first_5) ?_
      refine gm_go.ru (gi_and1 dX11_first_6) ?_
      rw [tb]
      refine gm_go.ru (gi_if_ne_f 16 dX11_first_7 (by decide) (by decide) rfl) ?_
      refine gm_go.ru (gi_iinc (ls' := [_, _]) dX11_first_10 rfl (by decide) rfl) ?_
      refine gm_go.ru (gm_goto (tgt := 2) dX11_first_13 (by decide)) ?_
      exact ih (k + 1) (by omega)
  refine gm_go.ru (gi_const dX11_first_0) ?_
  refine gm_go.ru (gm_istore_n (ls' := [_, _]) dX11_first_1 (by decide) rfl) ?_
  exact key (zLo S) 0 (by omega)
set_option maxRecDepth 4000 in
theorem pm_1 {m S cn : Nat} {K F : Nat → Int} (hv : nd_iv F) (hc : F 0 = (cn : Int)) (hc8 : cn ≤ 8) (hS : S < 256) (l8 : zLo S < 8) (lb : S.testBit (zLo S) = true) : ∀ (z j : Nat) (h : gm_H) (B : Nat → Int) (x5 : Option Value), j + z = cn → h.1[m]? = some (md_c m K) → h.1[m + 1]? = some (gA 118 F) → h.1[m + 5]? = some (gA 256 B) → B S = zFm (zMg F S) 100000000 j → (∀ R, R < S → B R = zD F R) → ∃ h' B' x', gm_go mX11_pairs 5 (53, [some (.ref m), some (.int (zI (S : Int))), some (.int (zI ((zLo S : Nat) : Int))), some (.int (zI (zB (decide (zn S % 2 = 1))))), some (.int (zI (j : Int))), x5], [], h) (160, [some (.ref m), some (.int (zI (S : Int))), some (.int (zI ((zLo S : Nat) : Int))), some (.int (zI (zB (decide (zn S % 2 = 1))))), some (.int (zI (cn : Int))), x'], [], h') ∧ h'.1[m + 5]? = some (gA 256 B') ∧ B' S = zFm (zMg F S) 100000000 cn ∧ (∀ R, R < S → B' R = B R) ∧ gh_fr h h' (fun k => k = m + 5) := by
  intro z
  induction z with
  | zero =>
    intro j h B x5 hj hM hV hB hBS hBR
    obtain rfl : j = cn := by omega
    refine ⟨h, B, x5, ?_, hB, hBS, fun R hR => rfl, gh_rf⟩
    refine gm_go_tr (gm_iload dX11_pairs_53 rfl) ?_
    refine gm_go_tr (gm_aload_n dX11_pairs_55 rfl (by first | exact Or.inl ⟨_, rfl⟩ | exact Or.inr ⟨_, rfl⟩)) ?_
    refine gm_go_tr (gm_get dX11_pairs_56 (fl_X11_16 rfl) hM rfl) ?_
    refine gm_go_tr (gi_const dX11_pairs_59) ?_
    refine gm_go_tr (gi_aldN (a := 0) dX11_pairs_60 hV (by decide) (by decide)) ?_
    rw [hc]
    refine gm_go_tr (gi_icmp_ge_t (tgt := 160) dX11_pairs_61 (by decide) (by omega) (by omega) (by omega)) ?_
    exact gm_go_rf
  | succ z ih =>
    intro j h B x5 hj hM hV hB hBS hBR
    have tb := z_tb S j
    have j8 : j < 8 := by omega
    have lz := zFm_a (g := zMg F S) (a := 100000000) j
    have l0 : 0 ≤ zFm (zMg F S) 100000000 j := zFm_ge (by decide) (fun k hk c hcc => by
      unfold zMg at hcc
      (repeat' split at hcc) <;> first | (exfalso; simp at hcc; done) | skip
      · have := zD_r F (zC S k); have := Option.some.inj hcc; omega
      · have := zD_r F (zC (zC S (zLo S)) k); have := zDf_r hv.2.2.1 l8 (b := k) (by omega); have := Option.some.inj hcc; omega)
    cases hb : S.testBit j
    ·
      rw [hb, if_neg (by decide)] at tb
      have gn : zMg F S j = none := by unfold zMg; rw [hb]; simp
      obtain ⟨h', B', x', e1, e2, e3, e4, e5⟩ := ih (j + 1) h B x5 (by omega) hM hV hB (by rw [zFm_n gn]; exact hBS) hBR
      refine ⟨h', B', x', ?_, e2, e3, e4, e5⟩
      refine gm_go_tr (gm_iload dX11_pairs_53 rfl) ?_
      refine gm_go_tr (gm_aload_n dX11_pairs_55 rfl (by first | exact Or.inl ⟨_, rfl⟩ | exact Or.inr ⟨_, rfl⟩)) ?_
      refine gm_go_tr (gm_get dX11_pairs_56 (fl_X11_16 rfl) hM rfl) ?_
      refine gm_go_tr (gi_const dX11_pairs_59) ?_
      refine gm_go_tr (gi_aldN (a := 0) dX11_pairs_60 hV (by decide) (by decide)) ?_
      rw [hc]
      refine gm_go_tr (gi_icmp_ge_f 160 dX11_pairs_61 (by decide) (by omega) (by omega) (by omega)) ?_
      refine gm_go_tr (gm_iload_n dX11_pairs_64 rfl) ?_
      refine gm_go_tr (gm_iload dX11_pairs_65 rfl) ?_
      refine gm_go_tr (gi_shr dX11_pairs_67 (by omega) (by omega)) ?_
      refine gm_go_tr (gi_const dX11_pairs_68) ?_
      refine gm_go_tr (gi_and1 dX11_pairs_69) ?_
      rw [tb]
      refine gm_go_tr (gi_if_eq_t (tgt := 154) dX11_pairs_70 (by decide) (by decide) rfl) ?_
      refine gm_go_tr (gi_iinc (ls' := [_, _, _, _, _, _]) dX11_pairs_154 rfl (by decide) rfl) ?_
      refine gm_go_tr (gm_goto (tgt := 53) dX11_pairs_157 (by decide)) ?_
      exact e1
    ·
      rw [hb, if_pos rfl] at tb
      by_cases ho : zn S % 2 = 1
      ·
        have gs : zMg F S j = some (zD F (zC S j)) := by unfold zMg; rw [hb, if_pos rfl, if_pos ho]
        have lc := zC_lt S hS j j8
        have rd := hBR (zC S j) (lc.2 hb)
        have dr := zD_r F (zC S j)
        have bz : zB (decide (zn S % 2 = 1)) = 1 := zB_t ho
        by_cases cl : zD F (zC S j) < zFm (zMg F S) 100000000 j
        ·
          obtain ⟨a1, ha1⟩ : ∃ y : gm_H, y = (h.1.set (m + 5) (gA 256 (zU B S (zD F (zC S j)))), h.2) := ⟨_, rfl⟩
          have f1 : gh_fr h a1 (fun k => k = m + 5) := by rw [ha1]; exact gh_set (K := (fun k => k = m + 5)) gh_rf rfl _
          obtain ⟨h', B', x', e1, e2, e3, e4, e5⟩ := ih (j + 1) a1 (zU B S (zD F (zC S j))) (some (.int (zI (zD F (zC S j))))) (by omega) (gh_at f1 hM (by omega)) (gh_at f1 hV (by omega)) (by rw [ha1]; exact gs_s hB) (by rw [zFm_s gs, zU_s]; omega) (fun R hR => (zU_n (by omega)).trans (hBR R hR))
          refine ⟨h', B', x', ?_, e2, e3, fun R hR => (e4 R hR).trans (zU_n (by omega)), gh_tr f1 e5⟩
          rw [bz] at e1 ⊢
          refine gm_go_tr (gm_iload dX11_pairs_53 rfl) ?_
          refine gm_go_tr (gm_aload_n dX11_pairs_55 rfl (by first | exact Or.inl ⟨_, rfl⟩ | exact Or.inr ⟨_, rfl⟩)) ?_
          refine gm_go_tr (gm_get dX11_pairs_56 (fl_X11_16 rfl) hM rfl) ?_
          refine gm_go_tr (gi_const dX11_pairs_59) ?_
          refine gm_go_tr (gi_aldN (a := 0) dX11_pairs_60 hV (by decide) (by decide)) ?_
          rw [hc]
          refine gm_go_tr (gi_icmp_ge_f 160 dX11_pairs_61 (by decide) (by omega) (by omega) (by omega)) ?_
          refine gm_go_tr (gm_iload_n dX11_pairs_64 rfl) ?_
          refine gm_go_tr (gm_iload dX11_pairs_65 rfl) ?_
          refine gm_go_tr (gi_shr dX11_pairs_67 (by omega) (by omega)) ?_
          refine gm_go_tr (gi_const dX11_pairs_68) ?_
          refine gm_go_tr (gi_and1 dX11_pairs_69) ?_
          rw [tb]
          refine gm_go_tr (gi_if_eq_f 154 dX11_pairs_70 (by decide) (by decide) (by decide)) ?_
          refine gm_go_tr (gm_iload_n dX11_pairs_73 rfl) ?_
          refine gm_go_tr (gi_if_ne_t (tgt := 86) dX11_pairs_74 (by decide) (by decide) (by decide)) ?_
          refine gm_go_tr (gm_iload_n dX11_pairs_86 rfl) ?_
          refine gm_go_tr (gi_if_eq_f 106 dX11_pairs_87 (by decide) (by decide) (by decide)) ?_
          refine gm_go_tr (gm_aload_n dX11_pairs_90 rfl (by first | exact Or.inl ⟨_, rfl⟩ | exact Or.inr ⟨_, rfl⟩)) ?_
          refine gm_go_tr (gm_get dX11_pairs_91 (fl_X11_29 rfl) hM rfl) ?_
          refine gm_go_tr (gm_iload_n dX11_pairs_94 rfl) ?_
          refine gm_go_tr (gi_const dX11_pairs_95) ?_
          refine gm_go_tr (gm_iload dX11_pairs_96 rfl) ?_
          refine gm_go_tr (gi_shl1 dX11_pairs_98 (by omega)) ?_
          refine gm_go_tr (gi_const dX11_pairs_99) ?_
          refine gm_go_tr (gi_not dX11_pairs_100) ?_
          refine gm_go_tr (gi_clr dX11_pairs_101 hS j8) ?_
          refine gm_go_tr (gi_aldN dX11_pairs_102 hB (by omega) (by decide)) ?_
          rw [rd]
          refine gm_go_tr (gm_goto (tgt := 133) dX11_pairs_103 (by decide)) ?_
          refine gm_go_tr (gm_istore (ls' := [_, _, _, _, _, _]) dX11_pairs_133 (by decide) rfl) ?_
          refine gm_go_tr (gm_iload dX11_pairs_135 rfl) ?_
          refine gm_go_tr (gm_aload_n dX11_pairs_137 rfl (by first | exact Or.inl ⟨_, rfl⟩ | exact Or.inr ⟨_, rfl⟩)) ?_
          refine gm_go_tr (gm_get dX11_pairs_138 (fl_X11_29 rfl) hM rfl) ?_
          refine gm_go_tr (gm_iload_n dX11_pairs_141 rfl) ?_
          refine gm_go_tr (gi_aldN (a := S) dX11_pairs_142 hB hS (by decide)) ?_
          rw [hBS]
          refine gm_go_tr (gi_icmp_ge_f 154 dX11_pairs_143 (by decide) (by omega) (by omega) (by omega)) ?_
          refine gm_go_tr (gm_aload_n dX11_pairs_146 rfl (by first | exact Or.inl ⟨_, rfl⟩ | exact Or.inr ⟨_, rfl⟩)) ?_
          refine gm_go_tr (gm_get dX11_pairs_147 (fl_X11_29 rfl) hM rfl) ?_
          refine gm_go_tr (gm_iload_n dX11_pairs_150 rfl) ?_
          refine gm_go_tr (gm_iload dX11_pairs_151 rfl) ?_
          refine gm_go_tr (gi_astN (a := S) dX11_pairs_153 hB hS (by decide)) ?_
          refine gm_hq ha1 ?_
          refine gm_go_tr (gi_iinc (ls' := [_, _, _, _, _, _]) dX11_pairs_154 rfl (by decide) rfl) ?_
          refine gm_go_tr (gm_goto (tgt := 53) dX11_pairs_157 (by decide)) ?_
          exact e1
        ·
          obtain ⟨h', B', x', e1, e2, e3, e4, e5⟩ := ih (j + 1) h B (some (.int (zI (zD F (zC S j))))) (by omega) hM hV hB (by rw [zFm_s gs, hBS]; omega) hBR
          refine ⟨h', B', x', ?_, e2, e3, e4, e5⟩
          rw [bz] at e1 ⊢
          refine gm_go_tr (gm_iload dX11_pairs_53 rfl) ?_
          refine gm_go_tr (gm_aload_n dX11_pairs_55 rfl (by first | exact Or.inl ⟨_, rfl⟩ | exact Or.inr ⟨_, rfl⟩)) ?_
          refine gm_go_tr (gm_get dX11_pairs_56 (fl_X11_16 rfl) hM rfl) ?_
          refine gm_go_tr (gi_const dX11_pairs_59) ?_
          refine gm_go_tr (gi_aldN (a := 0) dX11_pairs_60 hV (by decide) (by decide)) ?_
          rw [hc]
          refine gm_go_tr (gi_icmp_ge_f 160 dX11_pairs_61 (by decide) (by omega) (by omega) (by omega)) ?_
          refine gm_go_tr (gm_iload_n dX11_pairs_64 rfl) ?_
          refine gm_go_tr (gm_iload dX11_pairs_65 rfl) ?_
          refine gm_go_tr (gi_shr dX11_pairs_67 (by omega) (by omega)) ?_
          refine gm_go_tr (gi_const dX11_pairs_68) ?_
          refine gm_go_tr (gi_and1 dX11_pairs_69) ?_
          rw [tb]
          refine gm_go_tr (gi_if_eq_f 154 dX11_pairs_70 (by decide) (by decide) (by decide)) ?_
          refine gm_go_tr (gm_iload_n dX11_pairs_73 rfl) ?_
          refine gm_go_tr (gi_if_ne_t (tgt := 86) dX11_pairs_74 (by decide) (by decide) (by decide)) ?_
          refine gm_go_tr (gm_iload_n dX11_pairs_86 rfl) ?_
          refine gm_go_tr (gi_if_eq_f 106 dX11_pairs_87 (by decide) (by decide) (by decide)) ?_
          refine gm_go_tr (gm_aload_n dX11_pairs_90 rfl (by first | exact Or.inl ⟨_, rfl⟩ | exact Or.inr ⟨_, rfl⟩)) ?_
          refine gm_go_tr (gm_get dX11_pairs_91 (fl_X11_29 rfl) hM rfl) ?_
          refine gm_go_tr (gm_iload_n dX11_pairs_94 rfl) ?_
          refine gm_go_tr (gi_const dX11_pairs_95) ?_
          refine gm_go_tr (gm_iload dX11_pairs_96 rfl) ?_
          refine gm_go_tr (gi_shl1 dX11_pairs_98 (by omega)) ?_
          refine gm_go_tr (gi_const dX11_pairs_99) ?_
          refine gm_go_tr (gi_not dX11_pairs_100) ?_
          refine gm_go_tr (gi_clr dX11_pairs_101 hS j8) ?_
          refine gm_go_tr (gi_aldN dX11_pairs_102 hB (by omega) (by decide)) ?_
          rw [rd]
          refine gm_go_tr (gm_goto (tgt := 133) dX11_pairs_103 (by decide)) ?_
          refine gm_go_tr (gm_istore (ls' := [_, _, _, _, _, _]) dX11_pairs_133 (by decide) rfl) ?_
          refine gm_go_tr (gm_iload dX11_pairs_135 rfl) ?_
          refine gm_go_tr (gm_aload_n dX11_pairs_137 rfl (by first | exact Or.inl ⟨_, rfl⟩ | exact Or.inr ⟨_, rfl⟩)) ?_
          refine gm_go_tr (gm_get dX11_pairs_138 (fl_X11_29 rfl) hM rfl) ?_
          refine gm_go_tr (gm_iload_n dX11_pairs_141 rfl) ?_
          refine gm_go_tr (gi_aldN (a := S) dX11_pairs_142 hB hS (by decide)) ?_
          rw [hBS]
          refine gm_go_tr (gi_icmp_ge_t (tgt := 154) dX11_pairs_143 (by decide) (by omega) (by omega) (by omega)) ?_
          refine gm_go_tr (gi_iinc (ls' := [_, _, _, _, _, _]) dX11_pairs_154 rfl (by decide) rfl) ?_
          refine gm_go_tr (gm_goto (tgt := 53) dX11_pairs_157 (by decide)) ?_
          exact e1
      ·
        by_cases e : j = zLo S
        ·
          have gn : zMg F S j = none := by unfold zMg; rw [hb, if_pos rfl, if_neg ho, if_pos e]
          obtain ⟨h', B', x', e1, e2, e3, e4, e5⟩ := ih (j + 1) h B x5 (by omega) hM hV hB (by rw [zFm_n gn]; exact hBS) hBR
          refine ⟨h', B', x', ?_, e2, e3, e4, e5⟩
          rw [zB_f ho] at e1 ⊢
          refine gm_go_tr (gm_iload dX11_pairs_53 rfl) ?_
          refine gm_go_tr (gm_aload_n dX11_pairs_55 rfl (by first | exact Or.inl ⟨_, rfl⟩ | exact Or.inr ⟨_, rfl⟩)) ?_
          refine gm_go_tr (gm_get dX11_pairs_56 (fl_X11_16 rfl) hM rfl) ?_
          refine gm_go_tr (gi_const dX11_pairs_59) ?_
          refine gm_go_tr (gi_aldN (a := 0) dX11_pairs_60 hV (by decide) (by decide)) ?_
          rw [hc]
          refine gm_go_tr (gi_icmp_ge_f 160 dX11_pairs_61 (by decide) (by omega) (by omega) (by omega)) ?_
          refine gm_go_tr (gm_iload_n dX11_pairs_64 rfl) ?_
          refine gm_go_tr (gm_iload dX11_pairs_65 rfl) ?_
          refine gm_go_tr (gi_shr dX11_pairs_67 (by omega) (by omega)) ?_
          refine gm_go_tr (gi_const dX11_pairs_68) ?_
          refine gm_go_tr (gi_and1 dX11_pairs_69) ?_
          rw [tb]
          refine gm_go_tr (gi_if_eq_f 154 dX11_pairs_70 (by decide) (by decide) (by decide)) ?_
          refine gm_go_tr (gm_iload_n dX11_pairs_73 rfl) ?_
          refine gm_go_tr (gi_if_ne_f 86 dX11_pairs_74 (by decide) (by decide) rfl) ?_
          refine gm_go_tr (gm_iload dX11_pairs_77 rfl) ?_
          refine gm_go_tr (gm_iload_n dX11_pairs_79 rfl) ?_
          refine gm_go_tr (gi_icmp_ne_f 86 dX11_pairs_80 (by decide) (by omega) (by omega) (by omega)) ?_
          refine gm_go_tr (gm_goto (tgt := 154) dX11_pairs_83 (by decide)) ?_
          refine gm_go_tr (gi_iinc (ls' := [_, _, _, _, _, _]) dX11_pairs_154 rfl (by decide) rfl) ?_
          refine gm_go_tr (gm_goto (tgt := 53) dX11_pairs_157 (by decide)) ?_
          exact e1
        ·
          have gs : zMg F S j = some (zDf F (zLo S) j + zD F (zC (zC S (zLo S)) j)) := by unfold zMg; rw [hb, if_pos rfl, if_neg ho, if_neg e]
          have lc := zC_le2 S hS (zLo S) l8 j j8
          have lc1 := (zC_lt S hS (zLo S) l8)
          have lc2 := zC_lt (zC S (zLo S)) (by omega) j j8
          have rd := hBR (zC (zC S (zLo S)) j) (by have := lc1.2 lb; omega)
          have dr := zD_r F (zC (zC S (zLo S)) j)
          have df := zDf_r hv.2.2.1 l8 j8
          have bz : zB (decide (zn S % 2 = 1)) = 0 := zB_f ho
          by_cases cl : zDf F (zLo S) j + zD F (zC (zC S (zLo S)) j) < zFm (zMg F S) 100000000 j
          ·
            obtain ⟨a1, ha1⟩ : ∃ y : gm_H, y = (h.1.set (m + 5) (gA 256 (zU B S (zDf F (zLo S) j + zD F (zC (zC S (zLo S)) j)))), h.2) := ⟨_, rfl⟩
            have f1 : gh_fr h a1 (fun k => k = m + 5) := by rw [ha1]; exact gh_set (K := (fun k => k = m + 5)) gh_rf rfl _
            obtain ⟨h', B', x', e1, e2, e3, e4, e5⟩ := ih (j + 1) a1 (zU B S (zDf F (zLo S) j + zD F (zC (zC S (zLo S)) j))) (some (.int (zI (zDf F (zLo S) j + zD F (zC (zC S (zLo S)) j))))) (by omega) (gh_at f1 hM (by omega)) (gh_at f1 hV (by omega)) (by rw [ha1]; exact gs_s hB) (by rw [zFm_s gs, zU_s]; omega) (fun R hR => (zU_n (by omega)).trans (hBR R hR))
            refine ⟨h', B', x', ?_, e2, e3, fun R hR => (e4 R hR).trans (zU_n (by omega)), gh_tr f1 e5⟩
            rw [bz] at e1 ⊢
            refine gm_go_tr (gm_iload dX11_pairs_53 rfl) ?_
            refine gm_go_tr (gm_aload_n dX11_pairs_55 rfl (by first | exact Or.inl ⟨_, rfl⟩ | exact Or.inr ⟨_, rfl⟩)) ?_
            refine gm_go_tr (gm_get dX11_pairs_56 (fl_X11_16 rfl) hM rfl) ?_
            refine gm_go_tr (gi_const dX11_pairs_59) ?_
            refine gm_go_tr (gi_aldN (a := 0) dX11_pairs_60 hV (by decide) (by decide)) ?_
            rw [hc]
            refine gm_go_tr (gi_icmp_ge_f 160 dX11_pairs_61 (by decide) (by omega) (by omega) (by omega)) ?_
            refine gm_go_tr (gm_iload_n dX11_pairs_64 rfl) ?_
            refine gm_go_tr (gm_iload dX11_pairs_65 rfl) ?_
            refine gm_go_tr (gi_shr dX11_pairs_67 (by omega) (by omega)) ?_
            refine gm_go_tr (gi_const dX11_pairs_68) ?_
            refine gm_go_tr (gi_and1 dX11_pairs_69) ?_
            rw [tb]
            refine gm_go_tr (gi_if_eq_f 154 dX11_pairs_70 (by decide) (by decide) (by decide)) ?_
            refine gm_go_tr (gm_iload_n dX11_pairs_73 rfl) ?_
            refine gm_go_tr (gi_if_ne_f 86 dX11_pairs_74 (by decide) (by decide) rfl) ?_
            refine gm_go_tr (gm_iload dX11_pairs_77 rfl) ?_
            refine gm_go_tr (gm_iload_n dX11_pairs_79 rfl) ?_
            refine gm_go_tr (gi_icmp_ne_t (tgt := 86) dX11_pairs_80 (by decide) (by omega) (by omega) (by omega)) ?_
            refine gm_go_tr (gm_iload_n dX11_pairs_86 rfl) ?_
            refine gm_go_tr (gi_if_eq_t (tgt := 106) dX11_pairs_87 (by decide) (by decide) rfl) ?_
            refine gm_go_tr (gm_aload_n dX11_pairs_106 rfl (by first | exact Or.inl ⟨_, rfl⟩ | exact Or.inr ⟨_, rfl⟩)) ?_
            refine gm_go_tr (gm_iload_n dX11_pairs_107 rfl) ?_
            refine gm_go_tr (gm_iload dX11_pairs_108 rfl) ?_
            refine gm_go_tr (gm_cV dX11_pairs_110 (ct_mApart hM hV hv l8 j8) rfl mt_X11_apart mv_X11_apart (lk_X11_164 rfl) (Or.inl ⟨_, 12, _, _, _, rfl, hM, rfl⟩) rfl (Nat.le_of_ble_eq_true rfl) (by decide)) ?_
            refine gm_go_tr (gm_aload_n dX11_pairs_113 rfl (by first | exact Or.inl ⟨_, rfl⟩ | exact Or.inr ⟨_, rfl⟩)) ?_
            refine gm_go_tr (gm_get dX11_pairs_114 (fl_X11_29 rfl) hM rfl) ?_
            refine gm_go_tr (gm_iload_n dX11_pairs_117 rfl) ?_
            refine gm_go_tr (gi_const dX11_pairs_118) ?_
            refine gm_go_tr (gm_iload_n dX11_pairs_119 rfl) ?_
            refine gm_go_tr (gi_shl1 dX11_pairs_120 (by omega)) ?_
            refine gm_go_tr (gi_const dX11_pairs_121) ?_
            refine gm_go_tr (gi_not dX11_pairs_122) ?_
            refine gm_go_tr (gi_clr dX11_pairs_123 hS l8) ?_
            refine gm_go_tr (gi_const dX11_pairs_124) ?_
            refine gm_go_tr (gm_iload dX11_pairs_125 rfl) ?_
            refine gm_go_tr (gi_shl1 dX11_pairs_127 (by omega)) ?_
            refine gm_go_tr (gi_const dX11_pairs_128) ?_
            refine gm_go_tr (gi_not dX11_pairs_129) ?_
            refine gm_go_tr (gi_clr dX11_pairs_130 (by omega) j8) ?_
            refine gm_go_tr (gi_aldN dX11_pairs_131 hB (by omega) (by decide)) ?_
            rw [rd]
            refine gm_go_tr (gi_add dX11_pairs_132) ?_
            refine gm_go_tr (gm_istore (ls' := [_, _, _, _, _, _]) dX11_pairs_133 (by decide) rfl) ?_
            refine gm_go_tr (gm_iload dX11_pairs_135 rfl) ?_
            refine gm_go_tr (gm_aload_n dX11_pairs_137 rfl (by first | exact Or.inl ⟨_, rfl⟩ | exact Or.inr ⟨_, rfl⟩)) ?_
            refine gm_go_tr (gm_get dX11_pairs_138 (fl_X11_29 rfl) hM rfl) ?_
            refine gm_go_tr (gm_iload_n dX11_pairs_141 rfl) ?_
            refine gm_go_tr (gi_aldN (a := S) dX11_pairs_142 hB hS (by decide)) ?_
            rw [hBS]
            refine gm_go_tr (gi_icmp_ge_f 154 dX11_pairs_143 (by decide) (by omega) (by omega) (by omega)) ?_
            refine gm_go_tr (gm_aload_n dX11_pairs_146 rfl (by first | exact Or.inl ⟨_, rfl⟩ | exact Or.inr ⟨_, rfl⟩)) ?_
            refine gm_go_tr (gm_get dX11_pairs_147 (fl_X11_29 rfl) hM rfl) ?_
            refine gm_go_tr (gm_iload_n dX11_pairs_150 rfl) ?_
            refine gm_go_tr (gm_iload dX11_pairs_151 rfl) ?_
            refine gm_go_tr (gi_astN (a := S) dX11_pairs_153 hB hS (by decide)) ?_
            refine gm_hq ha1 ?_
            refine gm_go_tr (gi_iinc (ls' := [_, _, _, _, _, _]) dX11_pairs_154 rfl (by decide) rfl) ?_
            refine gm_go_tr (gm_goto (tgt := 53) dX11_pairs_157 (by decide)) ?_
            exact e1
          ·
            obtain ⟨h', B', x', e1, e2, e3, e4, e5⟩ := ih (j + 1) h B (some (.int (zI (zDf F (zLo S) j + zD F (zC (zC S (zLo S)) j))))) (by omega) hM hV hB (by rw [zFm_s gs, hBS]; omega) hBR
            refine ⟨h', B', x', ?_, e2, e3, e4, e5⟩
            rw [bz] at e1 ⊢
            refine gm_go_tr (gm_iload dX11_pairs_53 rfl) ?_
            refine gm_go_tr (gm_aload_n dX11_pairs_55 rfl (by first | exact Or.inl ⟨_, rfl⟩ | exact Or.inr ⟨_, rfl⟩)) ?_
            refine gm_go_tr (gm_get dX11_pairs_56 (fl_X11_16 rfl) hM rfl) ?_
            refine gm_go_tr (gi_const dX11_pairs_59) ?_
            refine gm_go_tr (gi_aldN (a := 0) dX11_pairs_60 hV (by decide) (by decide)) ?_
            rw [hc]
            refine gm_go_tr (gi_icmp_ge_f 160 dX11_pairs_61 (by decide) (by omega) (by omega) (by omega)) ?_
            refine gm_go_tr (gm_iload_n dX11_pairs_64 rfl) ?_
            refine gm_go_tr (gm_iload dX11_pairs_65 rfl) ?_
            refine gm_go_tr (gi_shr dX11_pairs_67 (by omega) (by omega)) ?_
            refine gm_go_tr (gi_const dX11_pairs_68) ?_
            refine gm_go_tr (gi_and1 dX11_pairs_69) ?_
            rw [tb]
            refine gm_go_tr (gi_if_eq_f 154 dX11_pairs_70 (by decide) (by decide) (by decide)) ?_
            refine gm_go_tr (gm_iload_n dX11_pairs_73 rfl) ?_
            refine gm_go_tr (gi_if_ne_f 86 dX11_pairs_74 (by decide) (by decide) rfl) ?_
            refine gm_go_tr (gm_iload dX11_pairs_77 rfl) ?_
            refine gm_go_tr (gm_iload_n dX11_pairs_79 rfl) ?_
            refine gm_go_tr (gi_icmp_ne_t (tgt := 86) dX11_pairs_80 (by decide) (by omega) (by omega) (by omega)) ?_
            refine gm_go_tr (gm_iload_n dX11_pairs_86 rfl) ?_
            refine gm_go_tr (gi_if_eq_t (tgt := 106) dX11_pairs_87 (by decide) (by decide) rfl) ?_
            refine gm_go_tr (gm_aload_n dX11_pairs_106 rfl (by first | exact Or.inl ⟨_, rfl⟩ | exact Or.inr ⟨_, rfl⟩)) ?_
            refine gm_go_tr (gm_iload_n dX11_pairs_107 rfl) ?_
            refine gm_go_tr (gm_iload dX11_pairs_108 rfl) ?_
            refine gm_go_tr (gm_cV dX11_pairs_110 (ct_mApart hM hV hv l8 j8) rfl mt_X11_apart mv_X11_apart (lk_X11_164 rfl) (Or.inl ⟨_, 12, _, _, _, rfl, hM, rfl⟩) rfl (Nat.le_of_ble_eq_true rfl) (by decide)) ?_
            refine gm_go_tr (gm_aload_n dX11_pairs_113 rfl (by first | exact Or.inl ⟨_, rfl⟩ | exact Or.inr ⟨_, rfl⟩)) ?_
            refine gm_go_tr (gm_get dX11_pairs_114 (fl_X11_29 rfl) hM rfl) ?_
            refine gm_go_tr (gm_iload_n dX11_pairs_117 rfl) ?_
            refine gm_go_tr (gi_const dX11_pairs_118) ?_
            refine gm_go_tr (gm_iload_n dX11_pairs_119 rfl) ?_
            refine gm_go_tr (gi_shl1 dX11_pairs_120 (by omega)) ?_
            refine gm_go_tr (gi_const dX11_pairs_121) ?_
            refine gm_go_tr (gi_not dX11_pairs_122) ?_
            refine gm_go_tr (gi_clr dX11_pairs_123 hS l8) ?_
            refine gm_go_tr (gi_const dX11_pairs_124) ?_
            refine gm_go_tr (gm_iload dX11_pairs_125 rfl) ?_
            refine gm_go_tr (gi_shl1 dX11_pairs_127 (by omega)) ?_
            refine gm_go_tr (gi_const dX11_pairs_128) ?_
            refine gm_go_tr (gi_not dX11_pairs_129) ?_
            refine gm_go_tr (gi_clr dX11_pairs_130 (by omega) j8) ?_
            refine gm_go_tr (gi_aldN dX11_pairs_131 hB (by omega) (by decide)) ?_
            rw [rd]
            refine gm_go_tr (gi_add dX11_pairs_132) ?_
            refine gm_go_tr (gm_istore (ls' := [_, _, _, _, _, _]) dX11_pairs_133 (by decide) rfl) ?_
            refine gm_go_tr (gm_iload dX11_pairs_135 rfl) ?_
            refine gm_go_tr (gm_aload_n dX11_pairs_137 rfl (by first | exact Or.inl ⟨_, rfl⟩ | exact Or.inr ⟨_, rfl⟩)) ?_
            refine gm_go_tr (gm_get dX11_pairs_138 (fl_X11_29 rfl) hM rfl) ?_
            refine gm_go_tr (gm_iload_n dX11_pairs_141 rfl) ?_
            refine gm_go_tr (gi_aldN (a := S) dX11_pairs_142 hB hS (by decide)) ?_
            rw [hBS]
            refine gm_go_tr (gi_icmp_ge_t (tgt := 154) dX11_pairs_143 (by decide) (by omega) (by omega) (by omega)) ?_
            refine gm_go_tr (gi_iinc (ls' := [_, _, _, _, _, _]) dX11_pairs_154 rfl (by decide) rfl) ?_
            refine gm_go_tr (gm_goto (tgt := 53) dX11_pairs_157 (by decide)) ?_
            exact e1
set_option maxRecDepth 4000 in
theorem pm_2 {m cn : Nat} {K F : Nat → Int} (hv : nd_iv F) (hc : F 0 = (cn : Int)) (hc8 : cn ≤ 8) : ∀ (z S : Nat) (h : gm_H) (B : Nat → Int) (x2 x3 x4 x5 : Option Value), 1 ≤ S → S + z = 2 ^ cn → h.1[m]? = some (md_c m K) → h.1[m + 1]? = some (gA 118 F) → h.1[m + 5]? = some (gA 256 B) → (∀ R, R < S → B R = zD F R) → ∃ h' B', gm_ru mX11_pairs 5 (9, [some (.ref m), some (.int (zI (S : Int))), x2, x3, x4, x5], [], h) (.inl none) h' ∧ h'.1[m + 5]? = some (gA 256 B') ∧ (∀ R, R < 2 ^ cn → B' R = zD F R) ∧ gh_fr h h' (fun k => k = m + 5) := by
  intro z
  induction z with
  | zero =>
    intro S h B x2 x3 x4 x5 h0 hj hM hV hB hBR
    obtain rfl : S = 2 ^ cn := by omega
    have p2 := zp2 hc8
    refine ⟨h, B, ?_, hB, hBR, gh_rf⟩
    refine gm_go.ru (gm_iload_n dX11_pairs_9 rfl) ?_
    refine gm_go.ru (gi_const dX11_pairs_10) ?_
    refine gm_go.ru (gm_aload_n dX11_pairs_11 rfl (by first | exact Or.inl ⟨_, rfl⟩ | exact Or.inr ⟨_, rfl⟩)) ?_
    refine gm_go.ru (gm_get dX11_pairs_12 (fl_X11_16 rfl) hM rfl) ?_
    refine gm_go.ru (gi_const dX11_pairs_15) ?_
    refine gm_go.ru (gi_aldN (a := 0) dX11_pairs_16 hV (by decide) (by decide)) ?_
    rw [hc]
    refine gm_go.ru (gi_shl1 dX11_pairs_17 (by omega)) ?_
    refine gm_go.ru (gi_icmp_ge_t (tgt := 166) dX11_pairs_18 (by decide) (by omega) (by omega) (by omega)) ?_
    exact gm_vret dX11_pairs_166 rfl
  | succ z ih =>
    intro S h B x2 x3 x4 x5 h0 hj hM hV hB hBR
    have p2 := zp2 hc8
    have hS : S < 256 := by omega
    obtain ⟨l8, lb, -⟩ := zLo_a S hS (by omega)
    obtain ⟨a1, ha1⟩ : ∃ y : gm_H, y = (h.1.set (m + 5) (gA 256 (zU B S 100000000)), h.2) := ⟨_, rfl⟩
    have f1 : gh_fr h a1 (fun k => k = m + 5) := by rw [ha1]; exact gh_set (K := (fun k => k = m + 5)) gh_rf rfl _
    have M1 := gh_at f1 hM (by omega)
    have V1 := gh_at f1 hV (by omega)
    obtain ⟨a2, B2, x', d1, d2, d3, d4, d5⟩ := pm_1 hv hc hc8 hS l8 lb cn 0 a1 (zU B S 100000000) x5 (by omega) M1 V1 (by rw [ha1]; exact gs_s hB) (by rw [zU_s]; rfl) (fun R hR => (zU_n (by omega)).trans (hBR R hR))
    have e0 : B2 S = zD F S := by rw [d3, ← zMg_D hv.2.2.1 hS (by omega), ← zMg_c (c := cn) (by omega) (8 - cn), show cn + (8 - cn) = 8 by omega]
    have hR2 : ∀ R, R < S + 1 → B2 R = zD F R := fun R hR => by
      by_cases e : R = S
      · rw [e]; exact e0
      · rw [d4 R (by omega), zU_n e]; exact hBR R (by omega)
    obtain ⟨h', B', e1, e2, e3, e4⟩ := ih (S + 1) a2 B2 (some (.int (zI ((zLo S : Nat) : Int)))) (some (.int (zI (zB (decide (zn S % 2 = 1)))))) (some (.int (zI (cn : Int)))) x' (by omega) (by omega) (gh_at d5 M1 (by omega)) (gh_at d5 V1 (by omega)) d2 hR2
    refine ⟨h', B', ?_, e2, e3, gh_tr f1 (gh_tr d5 e4)⟩
    refine gm_go.ru (gm_iload_n dX11_pairs_9 rfl) ?_
    refine gm_go.ru (gi_const dX11_pairs_10) ?_
    refine gm_go.ru (gm_aload_n dX11_pairs_11 rfl (by first | exact Or.inl ⟨_, rfl⟩ | exact Or.inr ⟨_, rfl⟩)) ?_
    refine gm_go.ru (gm_get dX11_pairs_12 (fl_X11_16 rfl) hM rfl) ?_
    refine gm_go.ru (gi_const dX11_pairs_15) ?_
    refine gm_go.ru (gi_aldN (a := 0) dX11_pairs_16 hV (by decide) (by decide)) ?_
    rw [hc]
    refine gm_go.ru (gi_shl1 dX11_pairs_17 (by omega)) ?_
    refine gm_go.ru (gi_icmp_ge_f 166 dX11_pairs_18 (by decide) (by omega) (by omega) (by omega)) ?_
    refine gm_go.ru (gm_aload_n dX11_pairs_21 rfl (by first | exact Or.inl ⟨_, rfl⟩ | exact Or.inr ⟨_, rfl⟩)) ?_
    refine gm_go.ru (gm_get dX11_pairs_22 (fl_X11_29 rfl) hM rfl) ?_
    refine gm_go.ru (gm_iload_n dX11_pairs_25 rfl) ?_
    refine gm_go.ru (gm_ldci (v := zI 100000000) dX11_pairs_26 (kc_X11_160 rfl)) ?_
    refine gm_go.ru (gi_astN (a := S) dX11_pairs_28 hB hS (by decide)) ?_
    refine gm_hp ha1 ?_
    refine gm_go.ru (gm_iload_n dX11_pairs_29 rfl) ?_
    refine gm_go.ru (gm_cS dX11_pairs_30 (ct_mFirst hS (by omega)) rfl mt_X11_first ms_X11_first (lk_X11_161 rfl) rfl (Nat.le_of_ble_eq_true rfl) (by decide)) ?_
    refine gm_go.ru (gm_istore_n (ls' := [_, _, _, _, _, _]) dX11_pairs_33 (by decide) rfl) ?_
    refine gm_go.ru (gm_iload_n dX11_pairs_34 rfl) ?_
    refine gm_go.ru (gm_cS dX11_pairs_35 (ct_mCount hS) rfl mt_X11_count ms_X11_count (lk_X11_157 rfl) rfl (Nat.le_of_ble_eq_true rfl) (by decide)) ?_
    refine gm_go.ru (gi_const dX11_pairs_38) ?_
    have n8 := zPC_8 S hS
    refine gm_go.ru (gi_rem dX11_pairs_39 (by have := zPC_8 S hS; omega) (by decide) (by decide)) ?_
    rw [show ((zPC S : Nat) : Int).tmod 2 = ((zn S % 2 : Nat) : Int) by rw [Int.tmod_eq_emod_of_nonneg (by omega), zn_pc S hS]; omega]
    refine gm_go.ru (gi_const dX11_pairs_40) ?_
    by_cases ho : zn S % 2 = 1
    ·
      rw [show zB (decide (zn S % 2 = 1)) = 1 from zB_t ho] at d1 e1
      refine gm_go.ru (gi_icmp_ne_f 48 dX11_pairs_41 (by decide) (by omega) (by omega) (by omega)) ?_
      refine gm_go.ru (gi_const dX11_pairs_44) ?_
      refine gm_go.ru (gm_goto (tgt := 49) dX11_pairs_45 (by decide)) ?_
      refine gm_go.ru (gm_istore_n (ls' := [_, _, _, _, _, _]) dX11_pairs_49 (by decide) rfl) ?_
      refine gm_go.ru (gi_const dX11_pairs_50) ?_
      refine gm_go.ru (gm_istore (ls' := [_, _, _, _, _, _]) dX11_pairs_51 (by decide) rfl) ?_
      refine gm_go.ru d1 ?_
      refine gm_go.ru (gi_iinc (ls' := [_, _, _, _, _, _]) dX11_pairs_160 rfl (by decide) rfl) ?_
      refine gm_go.ru (gm_goto (tgt := 9) dX11_pairs_163 (by decide)) ?_
      exact e1
    ·
      rw [show zB (decide (zn S % 2 = 1)) = 0 from zB_f ho] at d1 e1
      refine gm_go.ru (gi_icmp_ne_t (tgt := 48) dX11_pairs_41 (by decide) (by omega) (by omega) (by omega)) ?_
      refine gm_go.ru (gi_const dX11_pairs_48) ?_
      refine gm_go.ru (gm_istore_n (ls' := [_, _, _, _, _, _]) dX11_pairs_49 (by decide) rfl) ?_
      refine gm_go.ru (gi_const dX11_pairs_50) ?_
      refine gm_go.ru (gm_istore (ls' := [_, _, _, _, _, _]) dX11_pairs_51 (by decide) rfl) ?_
      refine gm_go.ru d1 ?_
      refine gm_go.ru (gi_iinc (ls' := [_, _, _, _, _, _]) dX11_pairs_160 rfl (by decide) rfl) ?_
      refine gm_go.ru (gm_goto (tgt := 9) dX11_pairs_163 (by decide)) ?_
      exact e1
set_option maxRecDepth 4000 in
theorem ct_mPairs {h : gm_H} {m : Nat} {K F : Nat → Int} (hM : h.1[m]? = some (md_c m K)) (hV : h.1[m + 1]? = some (gA 118 F)) {B : Nat → Int} (hB : h.1[m + 5]? = some (gA 256 B)) (hv : nd_iv F) : ∃ h' B', gm_co mX11_pairs 5 [.ref m] h (.inl none) h' ∧ h'.1[m + 5]? = some (gA 256 B') ∧ (∀ R, R < 2 ^ (F 0).toNat → B' R = zD F R) ∧ gh_fr h h' (fun k => k = m + 5) := by
  obtain ⟨cn, hc, hc8⟩ := nd_cnt hv
  obtain ⟨a1, ha1⟩ : ∃ y : gm_H, y = (h.1.set (m + 5) (gA 256 (zU B 0 0)), h.2) := ⟨_, rfl⟩
  have f1 : gh_fr h a1 (fun k => k = m + 5) := by rw [ha1]; exact gh_set (K := (fun k => k = m + 5)) gh_rf rfl _
  have t1 : 0 < 2 ^ cn := Nat.pow_pos (by decide)
  obtain ⟨h', B', e1, e2, e3, e4⟩ := pm_2 (K := K) hv hc hc8 (2 ^ cn - 1) 1 a1 (zU B 0 0) none none none none (by omega) (by omega) (gh_at f1 hM (by omega)) (gh_at f1 hV (by omega)) (by rw [ha1]; exact gs_s hB) (fun R hR => by rw [show R = 0 by omega, zU_s, zD_0])
  refine ⟨h', B', ?_, e2, by rw [hc, Int.toNat_natCast]; exact e3, gh_tr f1 e4⟩
  refine gm_co_of _ (by decide +kernel) rfl (Nat.le_of_ble_eq_true rfl) rfl ?_
  refine gm_go.ru (gm_aload_n dX11_pairs_0 rfl (by first | exact Or.inl ⟨_, rfl⟩ | exact Or.inr ⟨_, rfl⟩)) ?_
  refine gm_go.ru (gm_get dX11_pairs_1 (fl_X11_29 rfl) hM rfl) ?_
  refine gm_go.ru (gi_const dX11_pairs_4) ?_
  refine gm_go.ru (gi_const dX11_pairs_5) ?_
  refine gm_go.ru (gi_astN (a := 0) dX11_pairs_6 hB (by decide) (by decide)) ?_
  refine gm_hp ha1 ?_
  refine gm_go.ru (gi_const dX11_pairs_7) ?_
  refine gm_go.ru (gm_istore_n (ls' := [_, _, _, _, _, _]) dX11_pairs_8 (by decide) rfl) ?_
  exact e1
set_option maxRecDepth 4000 in
theorem ct_m_leastDifference {h : gm_H} {m : Nat} {K F : Nat → Int} (hM : h.1[m]? = some (md_c m K)) (hV : h.1[m + 1]? = some (gA 118 F)) {B : Nat → Int} (hB : h.1[m + 5]? = some (gA 256 B)) (hv : nd_iv F) : ∃ h' B', gm_co mX11_leastDifference 6 [.ref m] h (.inl (some (.int (zI (zD F (zGd F)))))) h' ∧ h'.1[m]? = some (md_c m (zU K 0 0)) ∧ h'.1[m + 5]? = some (gA 256 B') ∧ gh_fr h h' (fun k => k = m ∨ k = m + 5) := by
  obtain ⟨a1, ha1⟩ : ∃ y : gm_H, y = (h.1.set m (md_c m (zU K 0 0)), h.2) := ⟨_, rfl⟩
  have M_a1 : a1.1[m]? = some (md_c m (zU K 0 0)) := by rw [ha1]; exact gs_s hM
  have V_a1 : a1.1[m + 1]? = some (gA 118 F) := by rw [ha1]; exact gs_n hV (by omega)
  have f_a1 : gh_fr h a1 (fun k => k = m) := by rw [ha1]; exact gh_set (K := fun k => k = m) gh_rf rfl _
  have B1 := gh_at f_a1 hB (by omega)
  obtain ⟨a2, B', e1, e2, e3, e4⟩ := ct_mPairs M_a1 V_a1 B1 hv
  have M2 := gh_at e4 M_a1 (by omega)
  have V2 := gh_at e4 V_a1 (by omega)
  have g9 := zGS_lt F (F 0).toNat
  have gd : zGd F < 256 := zGd_lt hv
  refine ⟨a2, B', ?_, M2, e2, gh_tr (gh_mono f_a1 fun k z => Or.inl z) (gh_mono e4 fun k z => Or.inr z)⟩
  rw [← e3 (zGd F) g9]
  refine gm_co_of _ (by decide +kernel) rfl (Nat.le_of_ble_eq_true rfl) rfl ?_
  refine gm_go.ru (gm_aload_n dX11_leastDifference_0 rfl (by first | exact Or.inl ⟨_, rfl⟩ | exact Or.inr ⟨_, rfl⟩)) ?_
  refine gm_go.ru (gi_const dX11_leastDifference_1) ?_
  refine gm_go.ru (gm_put dX11_leastDifference_2 (fp_X11_53 rfl) hM (Nat.le_of_ble_eq_true rfl) (by first | exact ⟨rfl, rfl⟩ | exact trivial)) ?_
  refine gm_hp ha1 ?_
  refine gm_go.ru (gm_aload_n dX11_leastDifference_5 rfl (by first | exact Or.inl ⟨_, rfl⟩ | exact Or.inr ⟨_, rfl⟩)) ?_
  refine gm_go.ru (gm_cV0 dX11_leastDifference_6 (e1) rfl mt_X11_pairs mv_X11_pairs (lk_X11_167 rfl) (Or.inl ⟨_, 12, _, _, _, rfl, M_a1, rfl⟩) rfl (Nat.le_of_ble_eq_true rfl) (by decide)) ?_
  refine gm_go.ru (gm_aload_n dX11_leastDifference_9 rfl (by first | exact Or.inl ⟨_, rfl⟩ | exact Or.inr ⟨_, rfl⟩)) ?_
  refine gm_go.ru (gm_get dX11_leastDifference_10 (fl_X11_29 rfl) M2 rfl) ?_
  refine gm_go.ru (gm_aload_n dX11_leastDifference_13 rfl (by first | exact Or.inl ⟨_, rfl⟩ | exact Or.inr ⟨_, rfl⟩)) ?_
  refine gm_go.ru (gm_cV dX11_leastDifference_14 (ct_mGood M2 V2 hv) rfl mt_X11_good mv_X11_good (lk_X11_153 rfl) (Or.inl ⟨_, 12, _, _, _, rfl, M2, rfl⟩) rfl (Nat.le_of_ble_eq_true rfl) (by decide)) ?_
  refine gm_go.ru (gi_aldN dX11_leastDifference_17 e2 gd (by decide)) ?_
  exact gm_iret dX11_leastDifference_18 rfl
set_option maxRecDepth 4000 in
theorem ct_m_leastDifferenceByOrder {h : gm_H} {m : Nat} {K F : Nat → Int} (hM : h.1[m]? = some (md_c m K)) (hV : h.1[m + 1]? = some (gA 118 F)) {B : Nat → Int} (hB : h.1[m + 5]? = some (gA 256 B)) (hv : nd_iv F) : ∃ h' B', gm_co mX11_leastDifferenceByOrder 7 [.ref m] h (.inl (some (.int (zI (zD F (zGd F)))))) h' ∧ h'.1[m]? = some (md_c m (zU K 0 0)) ∧ h'.1[m + 5]? = some (gA 256 B') ∧ gh_fr h h' (fun k => k = m ∨ k = m + 5) := by
  obtain ⟨h', B', e1, e2⟩ := ct_m_leastDifference hM hV hB hv
  refine ⟨h', B', ?_, e2⟩
  refine gm_co_of _ (by decide +kernel) rfl (Nat.le_of_ble_eq_true rfl) rfl ?_
  refine gm_go.ru (gm_aload_n dX11_leastDifferenceByOrder_0 rfl (by first | exact Or.inl ⟨_, rfl⟩ | exact Or.inr ⟨_, rfl⟩)) ?_
  refine gm_go.ru (gm_cV dX11_leastDifferenceByOrder_1 (e1) rfl mt_X11_leastDifference mv_X11_leastDifference (lk_X11_170 rfl) (Or.inl ⟨_, 12, _, _, _, rfl, hM, rfl⟩) rfl (Nat.le_of_ble_eq_true rfl) (by decide)) ?_
  exact gm_iret dX11_leastDifferenceByOrder_4 rfl
set_option maxRecDepth 4000 in
theorem ct_m_partnerOfX {h : gm_H} {m : Nat} {K F : Nat → Int} (hM : h.1[m]? = some (md_c m K)) (hV : h.1[m + 1]? = some (gA 118 F)) {i : Int} (hv : nd_iv F) (hi : zR i) (hq : ¬ (0 ≤ i ∧ i < F 0)) : ∃ h', gm_co mX11_partnerOf 6 [.ref m, .int (zI i)] h (.inl (some (.int (zI (0))))) h' ∧ h'.1[m]? = some (md_c m (zU K 0 1)) ∧ gh_fr h h' (fun k => k = m) := by
  obtain ⟨a1, ha1⟩ : ∃ y : gm_H, y = (h.1.set m (md_c m (zU K 0 1)), h.2) := ⟨_, rfl⟩
  have M_a1 : a1.1[m]? = some (md_c m (zU K 0 1)) := by rw [ha1]; exact gs_s hM
  have V_a1 : a1.1[m + 1]? = some (gA 118 F) := by rw [ha1]; exact gs_n hV (by omega)
  have f_a1 : gh_fr h a1 (fun k => k = m) := by rw [ha1]; exact gh_set (K := fun k => k = m) gh_rf rfl _
  refine ⟨a1, ?_, M_a1, f_a1⟩
  refine gm_co_of _ (by decide +kernel) rfl (Nat.le_of_ble_eq_true rfl) rfl ?_
  refine gm_go.ru (gm_aload_n dX11_partnerOf_0 rfl (by first | exact Or.inl ⟨_, rfl⟩ | exact Or.inr ⟨_, rfl⟩)) ?_
  refine gm_go.ru (gm_aload_n dX11_partnerOf_1 rfl (by first | exact Or.inl ⟨_, rfl⟩ | exact Or.inr ⟨_, rfl⟩)) ?_
  refine gm_go.ru (gm_iload_n dX11_partnerOf_2 rfl) ?_
  refine gm_go.ru (gm_cV dX11_partnerOf_3 (ct_mIsN hM hV hv hi) rfl mt_X11_isNeedle mv_X11_isNeedle (lk_X11_87 rfl) (Or.inl ⟨_, 12, _, _, _, rfl, hM, rfl⟩) rfl (Nat.le_of_ble_eq_true rfl) (by decide)) ?_
  rw [zB_f hq]
  refine gm_go.ru (gi_if_eq_t (tgt := 13) dX11_partnerOf_6 (by decide) (by decide) rfl) ?_
  refine gm_go.ru (gi_const dX11_partnerOf_13) ?_
  refine gm_go.ru (gm_put dX11_partnerOf_14 (fp_X11_53 rfl) hM (Nat.le_of_ble_eq_true rfl) (by first | exact ⟨rfl, rfl⟩ | exact trivial)) ?_
  refine gm_hp ha1 ?_
  refine gm_go.ru (gm_aload_n dX11_partnerOf_17 rfl (by first | exact Or.inl ⟨_, rfl⟩ | exact Or.inr ⟨_, rfl⟩)) ?_
  refine gm_go.ru (gm_get dX11_partnerOf_18 (fl_X11_53 rfl) M_a1 rfl) ?_
  refine gm_go.ru (gi_if_eq_f 26 dX11_partnerOf_21 (by decide) (by rw [zU_s]; decide) (by rw [zU_s]; decide)) ?_
  refine gm_go.ru (gi_const dX11_partnerOf_24) ?_
  exact gm_iret dX11_partnerOf_25 rfl
set_option maxRecDepth 4000 in
theorem pt_1 {h : gm_H} {m cn i : Nat} {K F B : Nat → Int} (hM : h.1[m]? = some (md_c m K)) (hV : h.1[m + 1]? = some (gA 118 F)) (hB : h.1[m + 5]? = some (gA 256 B)) (hv : nd_iv F) (hc : F 0 = (cn : Int)) (hc8 : cn ≤ 8) (h8 : i < 8) (hR : ∀ R, R ≤ zGd F → B R = zD F R) : ∀ (z k : Nat), k + z = cn → 0 ≤ zPn F i z k → gm_ru mX11_partnerOf 6 (51, [some (.ref m), some (.int (zI (i : Int))), some (.int (zI ((zGd F : Nat) : Int))), some (.int (zI (k : Int)))], [], h) (.inl (some (.int (zI (zPn F i z k))))) h := by
  intro z
  induction z with
  | zero =>
    intro k hk hz
    exact absurd hz (by simp [zPn])
  | succ z ih =>
    intro k hk hz
    have k8 : k < 8 := by omega
    have gd : zGd F < 256 := zGd_lt hv
    have tb := z_tb (zGd F) k
    rw [zPn] at hz ⊢
    have lc := zC_le2 (zGd F) gd i h8 k k8
    have lc1 := zC_lt (zGd F) gd i h8
    have r1 := hR (zC (zC (zGd F) i) k) (by omega)
    have r2 := hR (zGd F) (by omega)
    have dr1 := zD_r F (zC (zC (zGd F) i) k)
    have dr2 := zD_r F (zGd F)
    have df := zDf_r hv.2.2.1 h8 k8
    by_cases c1 : k = i
    ·
      rw [if_neg (fun z => z.1 c1)] at hz ⊢
      refine gm_go.ru (gm_iload_n dX11_partnerOf_51 rfl) ?_
      refine gm_go.ru (gm_aload_n dX11_partnerOf_52 rfl (by first | exact Or.inl ⟨_, rfl⟩ | exact Or.inr ⟨_, rfl⟩)) ?_
      refine gm_go.ru (gm_get dX11_partnerOf_53 (fl_X11_16 rfl) hM rfl) ?_
      refine gm_go.ru (gi_const dX11_partnerOf_56) ?_
      refine gm_go.ru (gi_aldN (a := 0) dX11_partnerOf_57 hV (by decide) (by decide)) ?_
      rw [hc]
      refine gm_go.ru (gi_icmp_ge_f 119 dX11_partnerOf_58 (by decide) (by omega) (by omega) (by omega)) ?_
      refine gm_go.ru (gm_iload_n dX11_partnerOf_61 rfl) ?_
      refine gm_go.ru (gm_iload_n dX11_partnerOf_62 rfl) ?_
      refine gm_go.ru (gi_icmp_eq_t (tgt := 113) dX11_partnerOf_63 (by decide) (by omega) (by omega) (by omega)) ?_
      refine gm_go.ru (gi_iinc (ls' := [_, _, _, _]) dX11_partnerOf_113 rfl (by decide) rfl) ?_
      refine gm_go.ru (gm_goto (tgt := 51) dX11_partnerOf_116 (by decide)) ?_
      exact ih (k + 1) (by omega) hz
    ·
      cases hb : (zGd F).testBit k
      ·
        rw [hb, if_neg (by decide)] at tb
        rw [if_neg (fun z => by first | exact absurd z.2.1 (by decide) | (have z9 := z.2.1; rw [hb] at z9; exact absurd z9 (by decide)))] at hz ⊢
        refine gm_go.ru (gm_iload_n dX11_partnerOf_51 rfl) ?_
        refine gm_go.ru (gm_aload_n dX11_partnerOf_52 rfl (by first | exact Or.inl ⟨_, rfl⟩ | exact Or.inr ⟨_, rfl⟩)) ?_
        refine gm_go.ru (gm_get dX11_partnerOf_53 (fl_X11_16 rfl) hM rfl) ?_
        refine gm_go.ru (gi_const dX11_partnerOf_56) ?_
        refine gm_go.ru (gi_aldN (a := 0) dX11_partnerOf_57 hV (by decide) (by decide)) ?_
        rw [hc]
        refine gm_go.ru (gi_icmp_ge_f 119 dX11_partnerOf_58 (by decide) (by omega) (by omega) (by omega)) ?_
        refine gm_go.ru (gm_iload_n dX11_partnerOf_61 rfl) ?_
        refine gm_go.ru (gm_iload_n dX11_partnerOf_62 rfl) ?_
        refine gm_go.ru (gi_icmp_eq_f 113 dX11_partnerOf_63 (by decide) (by omega) (by omega) (by omega)) ?_
        refine gm_go.ru (gm_iload_n dX11_partnerOf_66 rfl) ?_
        refine gm_go.ru (gm_iload_n dX11_partnerOf_67 rfl) ?_
        refine gm_go.ru (gi_shr dX11_partnerOf_68 (by omega) (by omega)) ?_
        refine gm_go.ru (gi_const dX11_partnerOf_69) ?_
        refine gm_go.ru (gi_and1 dX11_partnerOf_70) ?_
        rw [tb]
        refine gm_go.ru (gi_if_ne_f 77 dX11_partnerOf_71 (by decide) (by decide) rfl) ?_
        refine gm_go.ru (gm_goto (tgt := 113) dX11_partnerOf_74 (by decide)) ?_
        refine gm_go.ru (gi_iinc (ls' := [_, _, _, _]) dX11_partnerOf_113 rfl (by decide) rfl) ?_
        refine gm_go.ru (gm_goto (tgt := 51) dX11_partnerOf_116 (by decide)) ?_
        exact ih (k + 1) (by omega) hz
      ·
        rw [hb, if_pos rfl] at tb
        by_cases c2 : zDf F i k + zD F (zC (zC (zGd F) i) k) = zD F (zGd F)
        ·
          rw [if_pos ⟨c1, (by first | rfl | exact hb), c2⟩]
          refine gm_go.ru (gm_iload_n dX11_partnerOf_51 rfl) ?_
          refine gm_go.ru (gm_aload_n dX11_partnerOf_52 rfl (by first | exact Or.inl ⟨_, rfl⟩ | exact Or.inr ⟨_, rfl⟩)) ?_
          refine gm_go.ru (gm_get dX11_partnerOf_53 (fl_X11_16 rfl) hM rfl) ?_
          refine gm_go.ru (gi_const dX11_partnerOf_56) ?_
          refine gm_go.ru (gi_aldN (a := 0) dX11_partnerOf_57 hV (by decide) (by decide)) ?_
          rw [hc]
          refine gm_go.ru (gi_icmp_ge_f 119 dX11_partnerOf_58 (by decide) (by omega) (by omega) (by omega)) ?_
          refine gm_go.ru (gm_iload_n dX11_partnerOf_61 rfl) ?_
          refine gm_go.ru (gm_iload_n dX11_partnerOf_62 rfl) ?_
          refine gm_go.ru (gi_icmp_eq_f 113 dX11_partnerOf_63 (by decide) (by omega) (by omega) (by omega)) ?_
          refine gm_go.ru (gm_iload_n dX11_partnerOf_66 rfl) ?_
          refine gm_go.ru (gm_iload_n dX11_partnerOf_67 rfl) ?_
          refine gm_go.ru (gi_shr dX11_partnerOf_68 (by omega) (by omega)) ?_
          refine gm_go.ru (gi_const dX11_partnerOf_69) ?_
          refine gm_go.ru (gi_and1 dX11_partnerOf_70) ?_
          rw [tb]
          refine gm_go.ru (gi_if_ne_t (tgt := 77) dX11_partnerOf_71 (by decide) (by decide) (by decide)) ?_
          refine gm_go.ru (gm_aload_n dX11_partnerOf_77 rfl (by first | exact Or.inl ⟨_, rfl⟩ | exact Or.inr ⟨_, rfl⟩)) ?_
          refine gm_go.ru (gm_iload_n dX11_partnerOf_78 rfl) ?_
          refine gm_go.ru (gm_iload_n dX11_partnerOf_79 rfl) ?_
          refine gm_go.ru (gm_cV dX11_partnerOf_80 (ct_mApart hM hV hv h8 k8) rfl mt_X11_apart mv_X11_apart (lk_X11_164 rfl) (Or.inl ⟨_, 12, _, _, _, rfl, hM, rfl⟩) rfl (Nat.le_of_ble_eq_true rfl) (by decide)) ?_
          refine gm_go.ru (gm_aload_n dX11_partnerOf_83 rfl (by first | exact Or.inl ⟨_, rfl⟩ | exact Or.inr ⟨_, rfl⟩)) ?_
          refine gm_go.ru (gm_get dX11_partnerOf_84 (fl_X11_29 rfl) hM rfl) ?_
          refine gm_go.ru (gm_iload_n dX11_partnerOf_87 rfl) ?_
          refine gm_go.ru (gi_const dX11_partnerOf_88) ?_
          refine gm_go.ru (gm_iload_n dX11_partnerOf_89 rfl) ?_
          refine gm_go.ru (gi_shl1 dX11_partnerOf_90 (by omega)) ?_
          refine gm_go.ru (gi_const dX11_partnerOf_91) ?_
          refine gm_go.ru (gi_not dX11_partnerOf_92) ?_
          refine gm_go.ru (gi_clr dX11_partnerOf_93 gd h8) ?_
          refine gm_go.ru (gi_const dX11_partnerOf_94) ?_
          refine gm_go.ru (gm_iload_n dX11_partnerOf_95 rfl) ?_
          refine gm_go.ru (gi_shl1 dX11_partnerOf_96 (by omega)) ?_
          refine gm_go.ru (gi_const dX11_partnerOf_97) ?_
          refine gm_go.ru (gi_not dX11_partnerOf_98) ?_
          refine gm_go.ru (gi_clr dX11_partnerOf_99 (by omega) k8) ?_
          refine gm_go.ru (gi_aldN dX11_partnerOf_100 hB (by omega) (by decide)) ?_
          rw [r1]
          refine gm_go.ru (gi_add dX11_partnerOf_101) ?_
          refine gm_go.ru (gm_aload_n dX11_partnerOf_102 rfl (by first | exact Or.inl ⟨_, rfl⟩ | exact Or.inr ⟨_, rfl⟩)) ?_
          refine gm_go.ru (gm_get dX11_partnerOf_103 (fl_X11_29 rfl) hM rfl) ?_
          refine gm_go.ru (gm_iload_n dX11_partnerOf_106 rfl) ?_
          refine gm_go.ru (gi_aldN dX11_partnerOf_107 hB gd (by decide)) ?_
          rw [r2]
          refine gm_go.ru (gi_icmp_ne_f 113 dX11_partnerOf_108 (by decide) (by omega) (by omega) c2) ?_
          refine gm_go.ru (gm_iload_n dX11_partnerOf_111 rfl) ?_
          exact gm_iret dX11_partnerOf_112 rfl
        ·
          rw [if_neg (fun z => c2 z.2.2)] at hz ⊢
          refine gm_go.ru (gm_iload_n dX11_partnerOf_51 rfl) ?_
          refine gm_go.ru (gm_aload_n dX11_partnerOf_52 rfl (by first | exact Or.inl ⟨_, rfl⟩ | exact Or.inr ⟨_, rfl⟩)) ?_
          refine gm_go.ru (gm_get dX11_partnerOf_53 (fl_X11_16 rfl) hM rfl) ?_
          refine gm_go.ru (gi_const dX11_partnerOf_56) ?_
          refine gm_go.ru (gi_aldN (a := 0) dX11_partnerOf_57 hV (by decide) (by decide)) ?_
          rw [hc]
          refine gm_go.ru (gi_icmp_ge_f 119 dX11_partnerOf_58 (by decide) (by omega) (by omega) (by omega)) ?_
          refine gm_go.ru (gm_iload_n dX11_partnerOf_61 rfl) ?_
          refine gm_go.ru (gm_iload_n dX11_partnerOf_62 rfl) ?_
          refine gm_go.ru (gi_icmp_eq_f 113 dX11_partnerOf_63 (by decide) (by omega) (by omega) (by omega)) ?_
          refine gm_go.ru (gm_iload_n dX11_partnerOf_66 rfl) ?_
          refine gm_go.ru (gm_iload_n dX11_partnerOf_67 rfl) ?_
          refine gm_go.ru (gi_shr dX11_partnerOf_68 (by omega) (by omega)) ?_
          refine gm_go.ru (gi_const dX11_partnerOf_69) ?_
          refine gm_go.ru (gi_and1 dX11_partnerOf_70) ?_
          rw [tb]
          refine gm_go.ru (gi_if_ne_t (tgt := 77) dX11_partnerOf_71 (by decide) (by decide) (by decide)) ?_
          refine gm_go.ru (gm_aload_n dX11_partnerOf_77 rfl (by first | exact Or.inl ⟨_, rfl⟩ | exact Or.inr ⟨_, rfl⟩)) ?_
          refine gm_go.ru (gm_iload_n dX11_partnerOf_78 rfl) ?_
          refine gm_go.ru (gm_iload_n dX11_partnerOf_79 rfl) ?_
          refine gm_go.ru (gm_cV dX11_partnerOf_80 (ct_mApart hM hV hv h8 k8) rfl mt_X11_apart mv_X11_apart (lk_X11_164 rfl) (Or.inl ⟨_, 12, _, _, _, rfl, hM, rfl⟩) rfl (Nat.le_of_ble_eq_true rfl) (by decide)) ?_
          refine gm_go.ru (gm_aload_n dX11_partnerOf_83 rfl (by first | exact Or.inl ⟨_, rfl⟩ | exact Or.inr ⟨_, rfl⟩)) ?_
          refine gm_go.ru (gm_get dX11_partnerOf_84 (fl_X11_29 rfl) hM rfl) ?_
          refine gm_go.ru (gm_iload_n dX11_partnerOf_87 rfl) ?_
          refine gm_go.ru (gi_const dX11_partnerOf_88) ?_
          refine gm_go.ru (gm_iload_n dX11_partnerOf_89 rfl) ?_
          refine gm_go.ru (gi_shl1 dX11_partnerOf_90 (by omega)) ?_
          refine gm_go.ru (gi_const dX11_partnerOf_91) ?_
          refine gm_go.ru (gi_not dX11_partnerOf_92) ?_
          refine gm_go.ru (gi_clr dX11_partnerOf_93 gd h8) ?_
          refine gm_go.ru (gi_const dX11_partnerOf_94) ?_
          refine gm_go.ru (gm_iload_n dX11_partnerOf_95 rfl) ?_
          refine gm_go.ru (gi_shl1 dX11_partnerOf_96 (by omega)) ?_
          refine gm_go.ru (gi_const dX11_partnerOf_97) ?_
          refine gm_go.ru (gi_not dX11_partnerOf_98) ?_
          refine gm_go.ru (gi_clr dX11_partnerOf_99 (by omega) k8) ?_
          refine gm_go.ru (gi_aldN dX11_partnerOf_100 hB (by omega) (by decide)) ?_
          rw [r1]
          refine gm_go.ru (gi_add dX11_partnerOf_101) ?_
          refine gm_go.ru (gm_aload_n dX11_partnerOf_102 rfl (by first | exact Or.inl ⟨_, rfl⟩ | exact Or.inr ⟨_, rfl⟩)) ?_
          refine gm_go.ru (gm_get dX11_partnerOf_103 (fl_X11_29 rfl) hM rfl) ?_
          refine gm_go.ru (gm_iload_n dX11_partnerOf_106 rfl) ?_
          refine gm_go.ru (gi_aldN dX11_partnerOf_107 hB gd (by decide)) ?_
          rw [r2]
          refine gm_go.ru (gi_icmp_ne_t (tgt := 113) dX11_partnerOf_108 (by decide) (by omega) (by omega) c2) ?_
          refine gm_go.ru (gi_iinc (ls' := [_, _, _, _]) dX11_partnerOf_113 rfl (by decide) rfl) ?_
          refine gm_go.ru (gm_goto (tgt := 51) dX11_partnerOf_116 (by decide)) ?_
          exact ih (k + 1) (by omega) hz
set_option maxRecDepth 4000 in
theorem pt_1X {h : gm_H} {m cn i : Nat} {K F B : Nat → Int} (hM : h.1[m]? = some (md_c m K)) (hV : h.1[m + 1]? = some (gA 118 F)) (hB : h.1[m + 5]? = some (gA 256 B)) (hv : nd_iv F) (hc : F 0 = (cn : Int)) (hc8 : cn ≤ 8) (h8 : i < 8) (hR : ∀ R, R ≤ zGd F → B R = zD F R) : ∀ (z k : Nat), k + z = cn → zPn F i z k < 0 → gm_ru mX11_partnerOf 6 (51, [some (.ref m), some (.int (zI (i : Int))), some (.int (zI ((zGd F : Nat) : Int))), some (.int (zI (k : Int)))], [], h) (.inl (some (.int (zI 0)))) (h.1.set m (md_c m (zU K 0 2)), h.2) := by
  intro z
  induction z with
  | zero =>
    intro k hk hz
    obtain rfl : k = cn := by omega
    refine gm_go.ru (gm_iload_n dX11_partnerOf_51 rfl) ?_
    refine gm_go.ru (gm_aload_n dX11_partnerOf_52 rfl (by first | exact Or.inl ⟨_, rfl⟩ | exact Or.inr ⟨_, rfl⟩)) ?_
    refine gm_go.ru (gm_get dX11_partnerOf_53 (fl_X11_16 rfl) hM rfl) ?_
    refine gm_go.ru (gi_const dX11_partnerOf_56) ?_
    refine gm_go.ru (gi_aldN (a := 0) dX11_partnerOf_57 hV (by decide) (by decide)) ?_
    rw [hc]
    refine gm_go.ru (gi_icmp_ge_t (tgt := 119) dX11_partnerOf_58 (by decide) (by omega) (by omega) (by omega)) ?_
    refine gm_go.ru (gm_aload_n dX11_partnerOf_119 rfl (by first | exact Or.inl ⟨_, rfl⟩ | exact Or.inr ⟨_, rfl⟩)) ?_
    refine gm_go.ru (gi_const dX11_partnerOf_120) ?_
    refine gm_go.ru (gm_cV dX11_partnerOf_121 (ct_mFail hM (x := 2)) rfl mt_X11_fail mv_X11_fail (lk_X11_74 rfl) (Or.inl ⟨_, 12, _, _, _, rfl, hM, rfl⟩) rfl (Nat.le_of_ble_eq_true rfl) (by decide)) ?_
    exact gm_iret dX11_partnerOf_124 rfl
  | succ z ih =>
    intro k hk hz
    have k8 : k < 8 := by omega
    have gd : zGd F < 256 := zGd_lt hv
    have tb := z_tb (zGd F) k
    rw [zPn] at hz
    have lc := zC_le2 (zGd F) gd i h8 k k8
    have lc1 := zC_lt (zGd F) gd i h8
    have r1 := hR (zC (zC (zGd F) i) k) (by omega)
    have r2 := hR (zGd F) (by omega)
    have dr1 := zD_r F (zC (zC (zGd F) i) k)
    have dr2 := zD_r F (zGd F)
    have df := zDf_r hv.2.2.1 h8 k8
    by_cases c1 : k = i
    ·
      rw [if_neg (fun z => z.1 c1)] at hz
      refine gm_go.ru (gm_iload_n dX11_partnerOf_51 rfl) ?_
      refine gm_go.ru (gm_aload_n dX11_partnerOf_52 rfl (by first | exact Or.inl ⟨_, rfl⟩ | exact Or.inr ⟨_, rfl⟩)) ?_
      refine gm_go.ru (gm_get dX11_partnerOf_53 (fl_X11_16 rfl) hM rfl) ?_
      refine gm_go.ru (gi_const dX11_partnerOf_56) ?_
      refine gm_go.ru (gi_aldN (a := 0) dX11_partnerOf_57 hV (by decide) (by decide)) ?_
      rw [hc]
      refine gm_go.ru (gi_icmp_ge_f 119 dX11_partnerOf_58 (by decide) (by omega) (by omega) (by omega)) ?_
      refine gm_go.ru (gm_iload_n dX11_partnerOf_61 rfl) ?_
      refine gm_go.ru (gm_iload_n dX11_partnerOf_62 rfl) ?_
      refine gm_go.ru (gi_icmp_eq_t (tgt := 113) dX11_partnerOf_63 (by decide) (by omega) (by omega) (by omega)) ?_
      refine gm_go.ru (gi_iinc (ls' := [_, _, _, _]) dX11_partnerOf_113 rfl (by decide) rfl) ?_
      refine gm_go.ru (gm_goto (tgt := 51) dX11_partnerOf_116 (by decide)) ?_
      exact ih (k + 1) (by omega) hz
    ·
      cases hb : (zGd F).testBit k
      ·
        rw [hb, if_neg (by decide)] at tb
        rw [if_neg (fun z => by first | exact absurd z.2.1 (by decide) | (have z9 := z.2.1; rw [hb] at z9; exact absurd z9 (by decide)))] at hz
        refine gm_go.ru (gm_iload_n dX11_partnerOf_51 rfl) ?_
        refine gm_go.ru (gm_aload_n dX11_partnerOf_52 rfl (by first | exact Or.inl ⟨_, rfl⟩ | exact Or.inr ⟨_, rfl⟩)) ?_
        refine gm_go.ru (gm_get dX11_partnerOf_53 (fl_X11_16 rfl) hM rfl) ?_
        refine gm_go.ru (gi_const dX11_partnerOf_56) ?_
        refine gm_go.ru (gi_aldN (a := 0) dX11_partnerOf_57 hV (by decide) (by decide)) ?_
        rw [hc]
        refine gm_go.ru (gi_icmp_ge_f 119 dX11_partnerOf_58 (by decide) (by omega) (by omega) (by omega)) ?_
        refine gm_go.ru (gm_iload_n dX11_partnerOf_61 rfl) ?_
        refine gm_go.ru (gm_iload_n dX11_partnerOf_62 rfl) ?_
        refine gm_go.ru (gi_icmp_eq_f 113 dX11_partnerOf_63 (by decide) (by omega) (by omega) (by omega)) ?_
        refine gm_go.ru (gm_iload_n dX11_partnerOf_66 rfl) ?_
        refine gm_go.ru (gm_iload_n dX11_partnerOf_67 rfl) ?_
        refine gm_go.ru (gi_shr dX11_partnerOf_68 (by omega) (by omega)) ?_
        refine gm_go.ru (gi_const dX11_partnerOf_69) ?_
        refine gm_go.ru (gi_and1 dX11_partnerOf_70) ?_
        rw [tb]
        refine gm_go.ru (gi_if_ne_f 77 dX11_partnerOf_71 (by decide) (by decide) rfl) ?_
        refine gm_go.ru (gm_goto (tgt := 113) dX11_partnerOf_74 (by decide)) ?_
        refine gm_go.ru (gi_iinc (ls' := [_, _, _, _]) dX11_partnerOf_113 rfl (by decide) rfl) ?_
        refine gm_go.ru (gm_goto (tgt := 51) dX11_partnerOf_116 (by decide)) ?_
        exact ih (k + 1) (by omega) hz
      ·
        rw [hb, if_pos rfl] at tb
        by_cases c2 : zDf F i k + zD F (zC (zC (zGd F) i) k) = zD F (zGd F)
        ·
          rw [if_pos ⟨c1, (by first | rfl | exact hb), c2⟩] at hz; omega
        ·
          rw [if_neg (fun z => c2 z.2.2)] at hz
          refine gm_go.ru (gm_iload_n dX11_partnerOf_51 rfl) ?_
          refine gm_go.ru (gm_aload_n dX11_partnerOf_52 rfl (by first | exact Or.inl ⟨_, rfl⟩ | exact Or.inr ⟨_, rfl⟩)) ?_
          refine gm_go.ru (gm_get dX11_partnerOf_53 (fl_X11_16 rfl) hM rfl) ?_
          refine gm_go.ru (gi_const dX11_partnerOf_56) ?_
          refine gm_go.ru (gi_aldN (a := 0) dX11_partnerOf_57 hV (by decide) (by decide)) ?_
          rw [hc]
          refine gm_go.ru (gi_icmp_ge_f 119 dX11_partnerOf_58 (by decide) (by omega) (by omega) (by omega)) ?_
          refine gm_go.ru (gm_iload_n dX11_partnerOf_61 rfl) ?_
          refine gm_go.ru (gm_iload_n dX11_partnerOf_62 rfl) ?_
          refine gm_go.ru (gi_icmp_eq_f 113 dX11_partnerOf_63 (by decide) (by omega) (by omega) (by omega)) ?_
          refine gm_go.ru (gm_iload_n dX11_partnerOf_66 rfl) ?_
          refine gm_go.ru (gm_iload_n dX11_partnerOf_67 rfl) ?_
          refine gm_go.ru (gi_shr dX11_partnerOf_68 (by omega) (by omega)) ?_
          refine gm_go.ru (gi_const dX11_partnerOf_69) ?_
          refine gm_go.ru (gi_and1 dX11_partnerOf_70) ?_
          rw [tb]
          refine gm_go.ru (gi_if_ne_t (tgt := 77) dX11_partnerOf_71 (by decide) (by decide) (by decide)) ?_
          refine gm_go.ru (gm_aload_n dX11_partnerOf_77 rfl (by first | exact Or.inl ⟨_, rfl⟩ | exact Or.inr ⟨_, rfl⟩)) ?_
          refine gm_go.ru (gm_iload_n dX11_partnerOf_78 rfl) ?_
          refine gm_go.ru (gm_iload_n dX11_partnerOf_79 rfl) ?_
          refine gm_go.ru (gm_cV dX11_partnerOf_80 (ct_mApart hM hV hv h8 k8) rfl mt_X11_apart mv_X11_apart (lk_X11_164 rfl) (Or.inl ⟨_, 12, _, _, _, rfl, hM, rfl⟩) rfl (Nat.le_of_ble_eq_true rfl) (by decide)) ?_
          refine gm_go.ru (gm_aload_n dX11_partnerOf_83 rfl (by first | exact Or.inl ⟨_, rfl⟩ | exact Or.inr ⟨_, rfl⟩)) ?_
          refine gm_go.ru (gm_get dX11_partnerOf_84 (fl_X11_29 rfl) hM rfl) ?_
          refine gm_go.ru (gm_iload_n dX11_partnerOf_87 rfl) ?_
          refine gm_go.ru (gi_const dX11_partnerOf_88) ?_
          refine gm_go.ru (gm_iload_n dX11_partnerOf_89 rfl) ?_
          refine gm_go.ru (gi_shl1 dX11_partnerOf_90 (by omega)) ?_
          refine gm_go.ru (gi_const dX11_partnerOf_91) ?_
          refine gm_go.ru (gi_not dX11_partnerOf_92) ?_
          refine gm_go.ru (gi_clr dX11_partnerOf_93 gd h8) ?_
          refine gm_go.ru (gi_const dX11_partnerOf_94) ?_
          refine gm_go.ru (gm_iload_n dX11_partnerOf_95 rfl) ?_
          refine gm_go.ru (gi_shl1 dX11_partnerOf_96 (by omega)) ?_
          refine gm_go.ru (gi_const dX11_partnerOf_97) ?_
          refine gm_go.ru (gi_not dX11_partnerOf_98) ?_
          refine gm_go.ru (gi_clr dX11_partnerOf_99 (by omega) k8) ?_
          refine gm_go.ru (gi_aldN dX11_partnerOf_100 hB (by omega) (by decide)) ?_
          rw [r1]
          refine gm_go.ru (gi_add dX11_partnerOf_101) ?_
          refine gm_go.ru (gm_aload_n dX11_partnerOf_102 rfl (by first | exact Or.inl ⟨_, rfl⟩ | exact Or.inr ⟨_, rfl⟩)) ?_
          refine gm_go.ru (gm_get dX11_partnerOf_103 (fl_X11_29 rfl) hM rfl) ?_
          refine gm_go.ru (gm_iload_n dX11_partnerOf_106 rfl) ?_
          refine gm_go.ru (gi_aldN dX11_partnerOf_107 hB gd (by decide)) ?_
          rw [r2]
          refine gm_go.ru (gi_icmp_ne_t (tgt := 113) dX11_partnerOf_108 (by decide) (by omega) (by omega) c2) ?_
          refine gm_go.ru (gi_iinc (ls' := [_, _, _, _]) dX11_partnerOf_113 rfl (by decide) rfl) ?_
          refine gm_go.ru (gm_goto (tgt := 51) dX11_partnerOf_116 (by decide)) ?_
          exact ih (k + 1) (by omega) hz
set_option maxRecDepth 4000 in
theorem ct_m_partnerOf {h : gm_H} {m : Nat} {K F : Nat → Int} (hM : h.1[m]? = some (md_c m K)) (hV : h.1[m + 1]? = some (gA 118 F)) {i : Int} (hi : zR i) {B : Nat → Int} (hB : h.1[m + 5]? = some (gA 256 B)) (hv : nd_iv F) (hq : 0 ≤ i ∧ i < F 0) (hz : 0 ≤ zPt F i.toNat) : ∃ h' B', gm_co mX11_partnerOf 6 [.ref m, .int (zI i)] h (.inl (some (.int (zI (zPt F i.toNat))))) h' ∧ h'.1[m]? = some (md_c m (zU K 0 0)) ∧ h'.1[m + 5]? = some (gA 256 B') ∧ gh_fr h h' (fun k => k = m ∨ k = m + 5) := by
  obtain ⟨i, rfl⟩ : ∃ k : Nat, i = (k : Int) := ⟨i.toNat, by omega⟩
  have h8 : i < 8 := by have := hv.1; omega
  simp only [Int.toNat_natCast] at *
  obtain ⟨a1, ha1⟩ : ∃ y : gm_H, y = (h.1.set m (md_c m (zU K 0 0)), h.2) := ⟨_, rfl⟩
  have M_a1 : a1.1[m]? = some (md_c m (zU K 0 0)) := by rw [ha1]; exact gs_s hM
  have V_a1 : a1.1[m + 1]? = some (gA 118 F) := by rw [ha1]; exact gs_n hV (by omega)
  have f_a1 : gh_fr h a1 (fun k => k = m) := by rw [ha1]; exact gh_set (K := fun k => k = m) gh_rf rfl _
  have gd : zGd F < 256 := zGd_lt hv
  have tb := z_tb (zGd F) i
  obtain ⟨cn, hc, hc8⟩ := nd_cnt hv
  unfold zPt at *
  have B1 := gh_at f_a1 hB (by omega)
  cases hb : (zGd F).testBit i
  ·
    rw [hb] at hz; simp at hz
  ·
    rw [hb, if_pos rfl] at tb hz
    obtain ⟨a2, B', e1, e2, e3, e4⟩ := ct_mPairs M_a1 V_a1 B1 hv
    have M2 := gh_at e4 M_a1 (by omega)
    have V2 := gh_at e4 V_a1 (by omega)
    have g9 : zGd F < 2 ^ (F 0).toNat := zGS_lt F (F 0).toNat
    rw [hc, Int.toNat_natCast] at hz
    refine ⟨a2, B', ?_, M2, e2, gh_tr (gh_mono f_a1 fun k z => Or.inl z) (gh_mono e4 fun k z => Or.inr z)⟩
    rw [if_pos rfl, hc, Int.toNat_natCast]
    refine gm_co_of _ (by decide +kernel) rfl (Nat.le_of_ble_eq_true rfl) rfl ?_
    refine gm_go.ru (gm_aload_n dX11_partnerOf_0 rfl (by first | exact Or.inl ⟨_, rfl⟩ | exact Or.inr ⟨_, rfl⟩)) ?_
    refine gm_go.ru (gm_aload_n dX11_partnerOf_1 rfl (by first | exact Or.inl ⟨_, rfl⟩ | exact Or.inr ⟨_, rfl⟩)) ?_
    refine gm_go.ru (gm_iload_n dX11_partnerOf_2 rfl) ?_
    refine gm_go.ru (gm_cV dX11_partnerOf_3 (ct_mIsN hM hV hv hi) rfl mt_X11_isNeedle mv_X11_isNeedle (lk_X11_87 rfl) (Or.inl ⟨_, 12, _, _, _, rfl, hM, rfl⟩) rfl (Nat.le_of_ble_eq_true rfl) (by decide)) ?_
    rw [zB_t hq]
    refine gm_go.ru (gi_if_eq_f 13 dX11_partnerOf_6 (by decide) (by decide) (by decide)) ?_
    refine gm_go.ru (gi_const dX11_partnerOf_9) ?_
    refine gm_go.ru (gm_goto (tgt := 14) dX11_partnerOf_10 (by decide)) ?_
    refine gm_go.ru (gm_put dX11_partnerOf_14 (fp_X11_53 rfl) hM (Nat.le_of_ble_eq_true rfl) (by first | exact ⟨rfl, rfl⟩ | exact trivial)) ?_
    refine gm_hp ha1 ?_
    refine gm_go.ru (gm_aload_n dX11_partnerOf_17 rfl (by first | exact Or.inl ⟨_, rfl⟩ | exact Or.inr ⟨_, rfl⟩)) ?_
    refine gm_go.ru (gm_get dX11_partnerOf_18 (fl_X11_53 rfl) M_a1 rfl) ?_
    refine gm_go.ru (gi_if_eq_t (tgt := 26) dX11_partnerOf_21 (by decide) (by rw [zU_s]; decide) zU_s) ?_
    refine gm_go.ru (gm_aload_n dX11_partnerOf_26 rfl (by first | exact Or.inl ⟨_, rfl⟩ | exact Or.inr ⟨_, rfl⟩)) ?_
    refine gm_go.ru (gm_cV dX11_partnerOf_27 (ct_mGood M_a1 V_a1 hv) rfl mt_X11_good mv_X11_good (lk_X11_153 rfl) (Or.inl ⟨_, 12, _, _, _, rfl, M_a1, rfl⟩) rfl (Nat.le_of_ble_eq_true rfl) (by decide)) ?_
    refine gm_go.ru (gm_istore_n (ls' := [_, _, _, _]) dX11_partnerOf_30 (by decide) rfl) ?_
    refine gm_go.ru (gm_iload_n dX11_partnerOf_31 rfl) ?_
    refine gm_go.ru (gm_iload_n dX11_partnerOf_32 rfl) ?_
    refine gm_go.ru (gi_shr dX11_partnerOf_33 (by omega) (by omega)) ?_
    refine gm_go.ru (gi_const dX11_partnerOf_34) ?_
    refine gm_go.ru (gi_and1 dX11_partnerOf_35) ?_
    rw [tb]
    refine gm_go.ru (gi_if_ne_t (tgt := 45) dX11_partnerOf_36 (by decide) (by decide) (by decide)) ?_
    refine gm_go.ru (gm_aload_n dX11_partnerOf_45 rfl (by first | exact Or.inl ⟨_, rfl⟩ | exact Or.inr ⟨_, rfl⟩)) ?_
    refine gm_go.ru (gm_cV0 dX11_partnerOf_46 (e1) rfl mt_X11_pairs mv_X11_pairs (lk_X11_167 rfl) (Or.inl ⟨_, 12, _, _, _, rfl, M_a1, rfl⟩) rfl (Nat.le_of_ble_eq_true rfl) (by decide)) ?_
    refine gm_go.ru (gi_const dX11_partnerOf_49) ?_
    refine gm_go.ru (gm_istore_n (ls' := [_, _, _, _]) dX11_partnerOf_50 (by decide) rfl) ?_
    exact pt_1 M2 V2 e2 hv hc hc8 h8 (fun R hR => e3 R (by omega)) cn 0 (by omega) hz
set_option maxRecDepth 4000 in
theorem ct_m_partnerOfY {h : gm_H} {m : Nat} {K F : Nat → Int} (hM : h.1[m]? = some (md_c m K)) (hV : h.1[m + 1]? = some (gA 118 F)) {i : Int} (hi : zR i) {B : Nat → Int} (hB : h.1[m + 5]? = some (gA 256 B)) (hv : nd_iv F) (hq : 0 ≤ i ∧ i < F 0) (hz : zPt F i.toNat < 0) : ∃ h' B', gm_co mX11_partnerOf 6 [.ref m, .int (zI i)] h (.inl (some (.int (zI (0))))) h' ∧ h'.1[m]? = some (md_c m (zU K 0 2)) ∧ h'.1[m + 5]? = some (gA 256 B') ∧ gh_fr h h' (fun k => k = m ∨ k = m + 5) := by
  obtain ⟨i, rfl⟩ : ∃ k : Nat, i = (k : Int) := ⟨i.toNat, by omega⟩
  have h8 : i < 8 := by have := hv.1; omega
  simp only [Int.toNat_natCast] at *
  obtain ⟨a1, ha1⟩ : ∃ y : gm_H, y = (h.1.set m (md_c m (zU K 0 0)), h.2) := ⟨_, rfl⟩
  have M_a1 : a1.1[m]? = some (md_c m (zU K 0 0)) := by rw [ha1]; exact gs_s hM
  have V_a1 : a1.1[m + 1]? = some (gA 118 F) := by rw [ha1]; exact gs_n hV (by omega)
  have f_a1 : gh_fr h a1 (fun k => k = m) := by rw [ha1]; exact gh_set (K := fun k => k = m) gh_rf rfl _
  have gd : zGd F < 256 := zGd_lt hv
  have tb := z_tb (zGd F) i
  obtain ⟨cn, hc, hc8⟩ := nd_cnt hv
  unfold zPt at *
  have B1 := gh_at f_a1 hB (by omega)
  cases hb : (zGd F).testBit i
  ·
    rw [hb, if_neg (by decide)] at tb
    refine ⟨(a1.1.set m (md_c m (zU (zU K 0 0) 0 2)), a1.2), B, ?_, by rw [← zU_zU (x := 0)]; exact gs_s M_a1, gs_n B1 (by omega), gh_set (K := fun k => k = m ∨ k = m + 5) (gh_mono f_a1 fun k z => Or.inl z) (Or.inl rfl) _⟩
    refine gm_co_of _ (by decide +kernel) rfl (Nat.le_of_ble_eq_true rfl) rfl ?_
    refine gm_go.ru (gm_aload_n dX11_partnerOf_0 rfl (by first | exact Or.inl ⟨_, rfl⟩ | exact Or.inr ⟨_, rfl⟩)) ?_
    refine gm_go.ru (gm_aload_n dX11_partnerOf_1 rfl (by first | exact Or.inl ⟨_, rfl⟩ | exact Or.inr ⟨_, rfl⟩)) ?_
    refine gm_go.ru (gm_iload_n dX11_partnerOf_2 rfl) ?_
    refine gm_go.ru (gm_cV dX11_partnerOf_3 (ct_mIsN hM hV hv hi) rfl mt_X11_isNeedle mv_X11_isNeedle (lk_X11_87 rfl) (Or.inl ⟨_, 12, _, _, _, rfl, hM, rfl⟩) rfl (Nat.le_of_ble_eq_true rfl) (by decide)) ?_
    rw [zB_t hq]
    refine gm_go.ru (gi_if_eq_f 13 dX11_partnerOf_6 (by decide) (by decide) (by decide)) ?_
    refine gm_go.ru (gi_const dX11_partnerOf_9) ?_
    refine gm_go.ru (gm_goto (tgt := 14) dX11_partnerOf_10 (by decide)) ?_
    refine gm_go.ru (gm_put dX11_partnerOf_14 (fp_X11_53 rfl) hM (Nat.le_of_ble_eq_true rfl) (by first | exact ⟨rfl, rfl⟩ | exact trivial)) ?_
    refine gm_hp ha1 ?_
    refine gm_go.ru (gm_aload_n dX11_partnerOf_17 rfl (by first | exact Or.inl ⟨_, rfl⟩ | exact Or.inr ⟨_, rfl⟩)) ?_
    refine gm_go.ru (gm_get dX11_partnerOf_18 (fl_X11_53 rfl) M_a1 rfl) ?_
    refine gm_go.ru (gi_if_eq_t (tgt := 26) dX11_partnerOf_21 (by decide) (by rw [zU_s]; decide) zU_s) ?_
    refine gm_go.ru (gm_aload_n dX11_partnerOf_26 rfl (by first | exact Or.inl ⟨_, rfl⟩ | exact Or.inr ⟨_, rfl⟩)) ?_
    refine gm_go.ru (gm_cV dX11_partnerOf_27 (ct_mGood M_a1 V_a1 hv) rfl mt_X11_good mv_X11_good (lk_X11_153 rfl) (Or.inl ⟨_, 12, _, _, _, rfl, M_a1, rfl⟩) rfl (Nat.le_of_ble_eq_true rfl) (by decide)) ?_
    refine gm_go.ru (gm_istore_n (ls' := [_, _, _, _]) dX11_partnerOf_30 (by decide) rfl) ?_
    refine gm_go.ru (gm_iload_n dX11_partnerOf_31 rfl) ?_
    refine gm_go.ru (gm_iload_n dX11_partnerOf_32 rfl) ?_
    refine gm_go.ru (gi_shr dX11_partnerOf_33 (by omega) (by omega)) ?_
    refine gm_go.ru (gi_const dX11_partnerOf_34) ?_
    refine gm_go.ru (gi_and1 dX11_partnerOf_35) ?_
    rw [tb]
    refine gm_go.ru (gi_if_ne_f 45 dX11_partnerOf_36 (by decide) (by decide) rfl) ?_
    refine gm_go.ru (gm_aload_n dX11_partnerOf_39 rfl (by first | exact Or.inl ⟨_, rfl⟩ | exact Or.inr ⟨_, rfl⟩)) ?_
    refine gm_go.ru (gi_const dX11_partnerOf_40) ?_
    refine gm_go.ru (gm_cV dX11_partnerOf_41 (ct_mFail M_a1 (x := 2)) rfl mt_X11_fail mv_X11_fail (lk_X11_74 rfl) (Or.inl ⟨_, 12, _, _, _, rfl, M_a1, rfl⟩) rfl (Nat.le_of_ble_eq_true rfl) (by decide)) ?_
    exact gm_iret dX11_partnerOf_44 rfl
  ·
    rw [hb, if_pos rfl] at tb hz
    obtain ⟨a2, B', e1, e2, e3, e4⟩ := ct_mPairs M_a1 V_a1 B1 hv
    have M2 := gh_at e4 M_a1 (by omega)
    have V2 := gh_at e4 V_a1 (by omega)
    have g9 : zGd F < 2 ^ (F 0).toNat := zGS_lt F (F 0).toNat
    rw [hc, Int.toNat_natCast] at hz
    refine ⟨(a2.1.set m (md_c m (zU (zU K 0 0) 0 2)), a2.2), B', ?_, by rw [← zU_zU (x := 0)]; exact gs_s M2, gs_n e2 (by omega), gh_set (K := fun k => k = m ∨ k = m + 5) (gh_tr (gh_mono f_a1 fun k z => Or.inl z) (gh_mono e4 fun k z => Or.inr z)) (Or.inl rfl) _⟩
    refine gm_co_of _ (by decide +kernel) rfl (Nat.le_of_ble_eq_true rfl) rfl ?_
    refine gm_go.ru (gm_aload_n dX11_partnerOf_0 rfl (by first | exact Or.inl ⟨_, rfl⟩ | exact Or.inr ⟨_, rfl⟩)) ?_
    refine gm_go.ru (gm_aload_n dX11_partnerOf_1 rfl (by first | exact Or.inl ⟨_, rfl⟩ | exact Or.inr ⟨_, rfl⟩)) ?_
    refine gm_go.ru (gm_iload_n dX11_partnerOf_2 rfl) ?_
    refine gm_go.ru (gm_cV dX11_partnerOf_3 (ct_mIsN hM hV hv hi) rfl mt_X11_isNeedle mv_X11_isNeedle (lk_X11_87 rfl) (Or.inl ⟨_, 12, _, _, _, rfl, hM, rfl⟩) rfl (Nat.le_of_ble_eq_true rfl) (by decide)) ?_
    rw [zB_t hq]
    refine gm_go.ru (gi_if_eq_f 13 dX11_partnerOf_6 (by decide) (by decide) (by decide)) ?_
    refine gm_go.ru (gi_const dX11_partnerOf_9) ?_
    refine gm_go.ru (gm_goto (tgt := 14) dX11_partnerOf_10 (by decide)) ?_
    refine gm_go.ru (gm_put dX11_partnerOf_14 (fp_X11_53 rfl) hM (Nat.le_of_ble_eq_true rfl) (by first | exact ⟨rfl, rfl⟩ | exact trivial)) ?_
    refine gm_hp ha1 ?_
    refine gm_go.ru (gm_aload_n dX11_partnerOf_17 rfl (by first | exact Or.inl ⟨_, rfl⟩ | exact Or.inr ⟨_, rfl⟩)) ?_
    refine gm_go.ru (gm_get dX11_partnerOf_18 (fl_X11_53 rfl) M_a1 rfl) ?_
    refine gm_go.ru (gi_if_eq_t (tgt := 26) dX11_partnerOf_21 (by decide) (by rw [zU_s]; decide) zU_s) ?_
    refine gm_go.ru (gm_aload_n dX11_partnerOf_26 rfl (by first | exact Or.inl ⟨_, rfl⟩ | exact Or.inr ⟨_, rfl⟩)) ?_
    refine gm_go.ru (gm_cV dX11_partnerOf_27 (ct_mGood M_a1 V_a1 hv) rfl mt_X11_good mv_X11_good (lk_X11_153 rfl) (Or.inl ⟨_, 12, _, _, _, rfl, M_a1, rfl⟩) rfl (Nat.le_of_ble_eq_true rfl) (by decide)) ?_
    refine gm_go.ru (gm_istore_n (ls' := [_, _, _, _]) dX11_partnerOf_30 (by decide) rfl) ?_
    refine gm_go.ru (gm_iload_n dX11_partnerOf_31 rfl) ?_
    refine gm_go.ru (gm_iload_n dX11_partnerOf_32 rfl) ?_
    refine gm_go.ru (gi_shr dX11_partnerOf_33 (by omega) (by omega)) ?_
    refine gm_go.ru (gi_const dX11_partnerOf_34) ?_
    refine gm_go.ru (gi_and1 dX11_partnerOf_35) ?_
    rw [tb]
    refine gm_go.ru (gi_if_ne_t (tgt := 45) dX11_partnerOf_36 (by decide) (by decide) (by decide)) ?_
    refine gm_go.ru (gm_aload_n dX11_partnerOf_45 rfl (by first | exact Or.inl ⟨_, rfl⟩ | exact Or.inr ⟨_, rfl⟩)) ?_
    refine gm_go.ru (gm_cV0 dX11_partnerOf_46 (e1) rfl mt_X11_pairs mv_X11_pairs (lk_X11_167 rfl) (Or.inl ⟨_, 12, _, _, _, rfl, M_a1, rfl⟩) rfl (Nat.le_of_ble_eq_true rfl) (by decide)) ?_
    refine gm_go.ru (gi_const dX11_partnerOf_49) ?_
    refine gm_go.ru (gm_istore_n (ls' := [_, _, _, _]) dX11_partnerOf_50 (by decide) rfl) ?_
    exact pt_1X M2 V2 e2 hv hc hc8 h8 (fun R hR => e3 R (by omega)) cn 0 (by omega) hz
