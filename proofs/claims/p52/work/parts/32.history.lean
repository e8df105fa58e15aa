abbrev gQ (n : Nat) (f : Nat → Option Nat) : gm_cl := .inl (5, n, .inr (.inr (.inr (.inr f))))
theorem gi_aald {M : gm_M} {d pc : Nat} {ls : List (Option Value)} {st : List Value} {h : gm_H} {k n j i : Nat} {f : Nat → Option Nat} (hd : decode M.2.1 pc = .ok (.aaload, 1)) (hk : h.1[k]? = some (gQ n f)) (hi : i < n) (hn : n ≤ 2147483647) (hj : f i = some j) : gm_go M d (pc, ls, .int (zI (i : Int)) :: .ref k :: st, h) (pc + 1, ls, .ref j :: st, h) :=
  gm_aald hd hk (zI_in (by omega) (by omega) hn) (by rw [zI_cl (by omega)]; rw [show ((i : Int)).toNat = i by omega]; exact hj)
/-! History: its two cells and nine states behind them -/
abbrev hi_c (n f c : Nat) : gm_cl := .inr (4, [.ref (n + 1), .int (zI (f : Int)), .int (zI (c : Int))])
def hi_q (n : Nat) : Nat → Option Nat := fun i => if i < 9 then some (n + 2 + 9 * i) else none
def hi_R (h : gm_H) (n f c : Nat) (R : Nat → Nat → Int) : Prop := f < 9 ∧ c ≤ 8 ∧ h.1[n]? = some (hi_c n f c) ∧ h.1[n + 1]? = some (gQ 9 (hi_q n)) ∧ ∀ i, i < 9 → st_at h (n + 2 + 9 * i) (R i) ∧ R i 4 ≤ 7
/-- the states that can be brought back: P 0 to P (c - 1) -/
def hi_at (h : gm_H) (n : Nat) (P : Nat → Nat → Int) (c : Nat) : Prop := ∃ f R, hi_R h n f c R ∧ ∀ k, k < c → R ((f + k) % 9) = P k
/-- and v in the free room -/
def hi_pr (h : gm_H) (n : Nat) (P : Nat → Nat → Int) (c : Nat) (v : Nat → Int) : Prop := ∃ f R, hi_R h n f c R ∧ (∀ k, k < c → R ((f + k) % 9) = P k) ∧ R ((f + c) % 9) = v
def hi_K (n : Nat) : Nat → Prop := fun k => n ≤ k ∧ k < n + 83
theorem hi_Rfr {h h' : gm_H} {K : Nat → Prop} {n f c : Nat} {R : Nat → Nat → Int} (e : gh_fr h h' K) (hK : ∀ k, hi_K n k → ¬ K k) (hN : hi_R h n f c R) : hi_R h' n f c R :=
  ⟨hN.1, hN.2.1, gh_at e hN.2.2.1 (hK n ⟨by omega, by omega⟩), gh_at e hN.2.2.2.1 (hK _ ⟨by omega, by omega⟩), fun i hi => ⟨st_fr e (fun k hk => hK k ⟨by have := hk.1; omega, by have := hk.2; omega⟩) (hN.2.2.2.2 i hi).1, (hN.2.2.2.2 i hi).2⟩⟩
theorem hi_fr {h h' : gm_H} {K : Nat → Prop} {n c : Nat} {P : Nat → Nat → Int} (e : gh_fr h h' K) (hK : ∀ k, hi_K n k → ¬ K k) (hN : hi_at h n P c) : hi_at h' n P c := by
  obtain ⟨f, R, h1, h2⟩ := hN
  exact ⟨f, R, hi_Rfr e hK h1, h2⟩
theorem hi_prfr {h h' : gm_H} {K : Nat → Prop} {n c : Nat} {P : Nat → Nat → Int} {v : Nat → Int} (e : gh_fr h h' K) (hK : ∀ k, hi_K n k → ¬ K k) (hN : hi_pr h n P c v) : hi_pr h' n P c v := by
  obtain ⟨f, R, h1, h2, h3⟩ := hN
  exact ⟨f, R, hi_Rfr e hK h1, h2, h3⟩
theorem hi_of {h : gm_H} {n c : Nat} {P : Nat → Nat → Int} {v : Nat → Int} (hN : hi_pr h n P c v) : hi_at h n P c := by
  obtain ⟨f, R, h1, h2, _⟩ := hN
  exact ⟨f, R, h1, h2⟩
theorem hi_mod {f c : Nat} : ((f : Int) + (c : Int)).tmod 9 = (((f + c) % 9 : Nat) : Int) := by rw [z_tmod (by decide), if_pos (by omega)]; omega
/-- what is kept after one more -/
def zPush (P : Nat → Nat → Int) (c : Nat) (v : Nat → Int) : Nat → Nat → Int := if c < 8 then zU P c v else fun k => if k = 7 then v else P (k + 1)
theorem hi_set {h : gm_H} {n f c f' c' : Nat} {R : Nat → Nat → Int} (hN : hi_R h n f c R) (hf : f' < 9) (hc : c' ≤ 8) : hi_R (h.1.set n (hi_c n f' c'), h.2) n f' c' R :=
  ⟨hf, hc, gs_s hN.2.2.1, gs_n hN.2.2.2.1 (by omega), fun i hi => ⟨st_fr (K := fun k => k = n) (gh_set (K := fun k => k = n) gh_rf rfl _) (fun k hk z => by have := hk.1; omega) (hN.2.2.2.2 i hi).1, (hN.2.2.2.2 i hi).2⟩⟩
set_option maxRecDepth 4000 in
theorem ct_prepare {h : gm_H} {n c r : Nat} {P : Nat → Nat → Int} {v : Nat → Int} (hH : hi_at h n P c) (hS : st_at h r v) (hu : v 4 ≤ 7) (hd : r + 9 ≤ n ∨ n + 83 ≤ r) : ∃ h', gm_co mX2_prepare 3 [.ref n, .ref r] h (.inl none) h' ∧ hi_pr h' n P c v ∧ gh_fr h h' (hi_K n) := by
  obtain ⟨f, R, ⟨hf, hc, h1, h2, h3⟩, h4⟩ := id hH
  obtain ⟨g1, g2⟩ := h3 ((f + c) % 9) (by omega)
  obtain ⟨s0, sN, sO⟩ := id g1
  obtain ⟨h', hc', hn, hF⟩ := ct_stcopy g1 hS (by omega) hu
  refine ⟨h', ?_, ⟨f, zU R ((f + c) % 9) v, ⟨hf, hc, gh_at hF h1 (fun z => by have := z.1; omega), gh_at hF h2 (fun z => by have := z.1; omega), fun i hi => ?_⟩, fun k hk => ?_, zU_s⟩, gh_mono hF fun k hk => ⟨by have := hk.1; omega, by have := hk.2; omega⟩⟩
  · refine gm_co_of _ (by decide +kernel) rfl (Nat.le_of_ble_eq_true rfl) rfl ?_
    refine gm_go.ru (gm_aload_n dX2_prepare_0 rfl (by first | exact Or.inl ⟨_, rfl⟩ | exact Or.inr ⟨_, rfl⟩)) ?_
    refine gm_go.ru (gm_get dX2_prepare_1 (fl_X2_13 rfl) (by assumption) rfl) ?_
    refine gm_go.ru (gm_aload_n dX2_prepare_4 rfl (by first | exact Or.inl ⟨_, rfl⟩ | exact Or.inr ⟨_, rfl⟩)) ?_
    refine gm_go.ru (gm_get dX2_prepare_5 (fl_X2_18 rfl) (by assumption) rfl) ?_
    refine gm_go.ru (gm_aload_n dX2_prepare_8 rfl (by first | exact Or.inl ⟨_, rfl⟩ | exact Or.inr ⟨_, rfl⟩)) ?_
    refine gm_go.ru (gm_get dX2_prepare_9 (fl_X2_22 rfl) (by assumption) rfl) ?_
    refine gm_go.ru (gi_add dX2_prepare_12) ?_
    refine gm_go.ru (gi_bipush dX2_prepare_13 (by decide +kernel)) ?_
    refine gm_go.ru (gi_rem dX2_prepare_15 (by omega) (by omega) (by omega)) ?_
    rw [hi_mod]
    refine gm_go.ru (gi_aald (i := (f + c) % 9) dX2_prepare_16 h2 (by omega) (by decide) (if_pos (by omega))) ?_
    refine gm_go.ru (gm_aload_n dX2_prepare_17 rfl (by first | exact Or.inl ⟨_, rfl⟩ | exact Or.inr ⟨_, rfl⟩)) ?_
    refine gm_go.ru (gm_cV0 dX2_prepare_18 (hc') rfl mt_X9_copyFrom mv_X9_copyFrom (lk_X2_25 rfl) (Or.inl ⟨_, 10, _, _, _, rfl, s0, rfl⟩) rfl (Nat.le_of_ble_eq_true rfl) (by decide)) ?_
    exact gm_vret dX2_prepare_21 rfl
  · by_cases e : i = (f + c) % 9
    · rw [e, zU_s]; exact ⟨hn, hu⟩
    · rw [zU_n e]; exact ⟨st_fr hF (fun k hk z => by have := hk.1; have := hk.2; have := z.1; have := z.2; omega) (h3 i hi).1, (h3 i hi).2⟩
  · rw [zU_n (by omega)]; exact h4 k hk
set_option maxRecDepth 4000 in
theorem ct_putBack {h : gm_H} {n c r : Nat} {P : Nat → Nat → Int} {v u : Nat → Int} (hH : hi_pr h n P c u) (hS : st_at h r v) (hd : r + 9 ≤ n ∨ n + 83 ≤ r) : ∃ h', gm_co mX2_putBack 3 [.ref n, .ref r] h (.inl none) h' ∧ st_at h' r u ∧ gh_fr h h' (st_K r) := by
  obtain ⟨f, R, ⟨hf, hc, h1, h2, h3⟩, h4, h5⟩ := id hH
  obtain ⟨g1, g2⟩ := h3 ((f + c) % 9) (by omega)
  rw [h5] at g1 g2
  obtain ⟨s0, sN, sO⟩ := id hS
  obtain ⟨h', hc', hn, hF⟩ := ct_stcopy hS g1 (by omega) g2
  refine ⟨h', ?_, hn, hF⟩
  refine gm_co_of _ (by decide +kernel) rfl (Nat.le_of_ble_eq_true rfl) rfl ?_
  refine gm_go.ru (gm_aload_n dX2_putBack_0 rfl (by first | exact Or.inl ⟨_, rfl⟩ | exact Or.inr ⟨_, rfl⟩)) ?_
  refine gm_go.ru (gm_aload_n dX2_putBack_1 rfl (by first | exact Or.inl ⟨_, rfl⟩ | exact Or.inr ⟨_, rfl⟩)) ?_
  refine gm_go.ru (gm_get dX2_putBack_2 (fl_X2_13 rfl) (by assumption) rfl) ?_
  refine gm_go.ru (gm_aload_n dX2_putBack_5 rfl (by first | exact Or.inl ⟨_, rfl⟩ | exact Or.inr ⟨_, rfl⟩)) ?_
  refine gm_go.ru (gm_get dX2_putBack_6 (fl_X2_18 rfl) (by assumption) rfl) ?_
  refine gm_go.ru (gm_aload_n dX2_putBack_9 rfl (by first | exact Or.inl ⟨_, rfl⟩ | exact Or.inr ⟨_, rfl⟩)) ?_
  refine gm_go.ru (gm_get dX2_putBack_10 (fl_X2_22 rfl) (by assumption) rfl) ?_
  refine gm_go.ru (gi_add dX2_putBack_13) ?_
  refine gm_go.ru (gi_bipush dX2_putBack_14 (by decide +kernel)) ?_
  refine gm_go.ru (gi_rem dX2_putBack_16 (by omega) (by omega) (by omega)) ?_
  rw [hi_mod]
  refine gm_go.ru (gi_aald (i := (f + c) % 9) dX2_putBack_17 h2 (by omega) (by decide) (if_pos (by omega))) ?_
  refine gm_go.ru (gm_cV0 dX2_putBack_18 (hc') rfl mt_X9_copyFrom mv_X9_copyFrom (lk_X2_25 rfl) (Or.inl ⟨_, 10, _, _, _, rfl, s0, rfl⟩) rfl (Nat.le_of_ble_eq_true rfl) (by decide)) ?_
  exact gm_vret dX2_putBack_21 rfl
set_option maxRecDepth 4000 in
theorem ct_keepPrepared {h : gm_H} {n c : Nat} {P : Nat → Nat → Int} {v : Nat → Int} (hH : hi_pr h n P c v) : ∃ h', gm_co mX2_keepPrepared 1 [.ref n] h (.inl none) h' ∧ hi_at h' n (zPush P c v) (min (c + 1) 8) ∧ gh_fr h h' (hi_K n) := by
  obtain ⟨f, R, hR, h4, h5⟩ := id hH
  obtain ⟨hf, hc, h1, h2, h3⟩ := id hR
  by_cases c8 : c < 8
  ·
    obtain ⟨a1, ha1⟩ : ∃ x : gm_H, x = (h.1.set n (hi_c n f (c + 1)), h.2) := ⟨_, rfl⟩
    refine ⟨a1, ?_, ⟨f, R, ?_, fun k hk => ?_⟩, ?_⟩
    · refine gm_co_of _ (by decide +kernel) rfl (Nat.le_of_ble_eq_true rfl) rfl ?_
      refine gm_go.ru (gm_aload_n dX2_keepPrepared_0 rfl (by first | exact Or.inl ⟨_, rfl⟩ | exact Or.inr ⟨_, rfl⟩)) ?_
      refine gm_go.ru (gm_get dX2_keepPrepared_1 (fl_X2_22 rfl) (by assumption) rfl) ?_
      refine gm_go.ru (gi_bipush dX2_keepPrepared_4 (by decide +kernel)) ?_
      refine gm_go.ru (gi_icmp_ge_f 22 dX2_keepPrepared_6 (by decide) (by omega) (by omega) (by omega)) ?_
      refine gm_go.ru (gm_aload_n dX2_keepPrepared_9 rfl (by first | exact Or.inl ⟨_, rfl⟩ | exact Or.inr ⟨_, rfl⟩)) ?_
      refine gm_go.ru (gm_dup dX2_keepPrepared_10 rfl) ?_
      refine gm_go.ru (gm_get dX2_keepPrepared_11 (fl_X2_22 rfl) (by assumption) rfl) ?_
      refine gm_go.ru (gi_const dX2_keepPrepared_14) ?_
      refine gm_go.ru (gi_add dX2_keepPrepared_15) ?_
      refine gm_go.ru (gm_put dX2_keepPrepared_16 (fp_X2_22 rfl) (by assumption) (Nat.le_of_ble_eq_true rfl) (by first | exact ⟨rfl, rfl⟩ | exact trivial)) ?_
      refine gm_hp ha1 ?_
      refine gm_go.ru (gm_goto (tgt := 35) dX2_keepPrepared_19 (by decide)) ?_
      exact gm_vret dX2_keepPrepared_35 rfl
    · rw [ha1, show min (c + 1) 8 = c + 1 by omega]; exact hi_set hR hf (by omega)
    · unfold zPush; rw [if_pos c8]; by_cases e : k = c
      · rw [e, zU_s]; exact h5
      · rw [zU_n e]; exact h4 k (by omega)
    · subst ha1; exact gh_set gh_rf ⟨by omega, by omega⟩ _
  ·
    obtain rfl : c = 8 := by omega
    obtain ⟨a1, ha1⟩ : ∃ x : gm_H, x = (h.1.set n (hi_c n ((f + 1) % 9) 8), h.2) := ⟨_, rfl⟩
    refine ⟨a1, ?_, ⟨(f + 1) % 9, R, ?_, fun k hk => ?_⟩, ?_⟩
    · refine gm_co_of _ (by decide +kernel) rfl (Nat.le_of_ble_eq_true rfl) rfl ?_
      refine gm_go.ru (gm_aload_n dX2_keepPrepared_0 rfl (by first | exact Or.inl ⟨_, rfl⟩ | exact Or.inr ⟨_, rfl⟩)) ?_
      refine gm_go.ru (gm_get dX2_keepPrepared_1 (fl_X2_22 rfl) (by assumption) rfl) ?_
      refine gm_go.ru (gi_bipush dX2_keepPrepared_4 (by decide +kernel)) ?_
      refine gm_go.ru (gi_icmp_ge_t (tgt := 22) dX2_keepPrepared_6 (by decide) (by omega) (by omega) (by omega)) ?_
      refine gm_go.ru (gm_aload_n dX2_keepPrepared_22 rfl (by first | exact Or.inl ⟨_, rfl⟩ | exact Or.inr ⟨_, rfl⟩)) ?_
      refine gm_go.ru (gm_aload_n dX2_keepPrepared_23 rfl (by first | exact Or.inl ⟨_, rfl⟩ | exact Or.inr ⟨_, rfl⟩)) ?_
      refine gm_go.ru (gm_get dX2_keepPrepared_24 (fl_X2_18 rfl) (by assumption) rfl) ?_
      refine gm_go.ru (gi_const dX2_keepPrepared_27) ?_
      refine gm_go.ru (gi_add dX2_keepPrepared_28) ?_
      refine gm_go.ru (gi_bipush dX2_keepPrepared_29 (by decide +kernel)) ?_
      refine gm_go.ru (gi_rem dX2_keepPrepared_31 (by omega) (by omega) (by omega)) ?_
      rw [show ((f : Int) + 1).tmod 9 = (((f + 1) % 9 : Nat) : Int) from hi_mod (f := f) (c := 1)]
      refine gm_go.ru (gm_put dX2_keepPrepared_32 (fp_X2_18 rfl) (by assumption) (Nat.le_of_ble_eq_true rfl) (by first | exact ⟨rfl, rfl⟩ | exact trivial)) ?_
      refine gm_hp ha1 ?_
      exact gm_vret dX2_keepPrepared_35 rfl
    · rw [ha1]; exact hi_set hR (by omega) (by omega)
    · unfold zPush; rw [if_neg (by omega)]; show _ = if k = 7 then v else P (k + 1)
      by_cases e : k = 7
      · rw [if_pos e, ← h5]; congr 1; omega
      · rw [if_neg e, ← h4 (k + 1) (by omega)]; congr 1; omega
    · subst ha1; exact gh_set gh_rf ⟨by omega, by omega⟩ _
set_option maxRecDepth 4000 in
theorem ct_takeBack {h : gm_H} {n c r : Nat} {P : Nat → Nat → Int} {v : Nat → Int} (hH : hi_at h n P (c + 1)) (hS : st_at h r v) (hd : r + 9 ≤ n ∨ n + 83 ≤ r) : ∃ h', gm_co mX2_takeBack 4 [.ref n, .ref r] h (.inl none) h' ∧ hi_at h' n P c ∧ st_at h' r (P c) ∧ gh_fr h h' (fun k => k = n ∨ st_K r k) := by
  obtain ⟨f, R, hR, h4⟩ := id hH
  obtain ⟨hf, hc, h1, h2, h3⟩ := id hR
  obtain ⟨a1, ha1⟩ : ∃ x : gm_H, x = (h.1.set n (hi_c n f c), h.2) := ⟨_, rfl⟩
  have hF1 : gh_fr h a1 (fun k => k = n) := by rw [ha1]; exact gh_set (K := fun k => k = n) gh_rf rfl _
  have hR1 : hi_R a1 n f c R := by rw [ha1]; exact hi_set hR hf (by omega)
  have hP : hi_pr a1 n P c (P c) := ⟨f, R, hR1, fun k hk => h4 k (by omega), h4 c (by omega)⟩
  obtain ⟨h', hc', hn, hF⟩ := ct_putBack hP (st_fr hF1 (fun k hk z => by have := hk.1; have := hk.2; omega) hS) hd
  obtain ⟨p1, p2, g1, p3⟩ := id hR1
  refine ⟨h', ?_, hi_fr hF (fun k hk z => by have := hk.1; have := hk.2; have := z.1; have := z.2; omega) (hi_of hP), hn, gh_tr (gh_mono hF1 fun k hk => Or.inl hk) (gh_mono hF fun k hk => Or.inr hk)⟩
  refine gm_co_of _ (by decide +kernel) rfl (Nat.le_of_ble_eq_true rfl) rfl ?_
  refine gm_go.ru (gm_aload_n dX2_takeBack_0 rfl (by first | exact Or.inl ⟨_, rfl⟩ | exact Or.inr ⟨_, rfl⟩)) ?_
  refine gm_go.ru (gm_get dX2_takeBack_1 (fl_X2_22 rfl) (by assumption) rfl) ?_
  refine gm_go.ru (gi_if_le_f 22 dX2_takeBack_4 (by decide) (by omega) (by omega)) ?_
  refine gm_go.ru (gm_aload_n dX2_takeBack_7 rfl (by first | exact Or.inl ⟨_, rfl⟩ | exact Or.inr ⟨_, rfl⟩)) ?_
  refine gm_go.ru (gm_dup dX2_takeBack_8 rfl) ?_
  refine gm_go.ru (gm_get dX2_takeBack_9 (fl_X2_22 rfl) (by assumption) rfl) ?_
  refine gm_go.ru (gi_const dX2_takeBack_12) ?_
  refine gm_go.ru (gi_sub dX2_takeBack_13) ?_
  rw [show (((c + 1 : Nat) : Int)) - 1 = (c : Int) by omega]
  refine gm_go.ru (gm_put dX2_takeBack_14 (fp_X2_22 rfl) (by assumption) (Nat.le_of_ble_eq_true rfl) (by first | exact ⟨rfl, rfl⟩ | exact trivial)) ?_
  refine gm_hp ha1 ?_
  refine gm_go.ru (gm_aload_n dX2_takeBack_17 rfl (by first | exact Or.inl ⟨_, rfl⟩ | exact Or.inr ⟨_, rfl⟩)) ?_
  refine gm_go.ru (gm_aload_n dX2_takeBack_18 rfl (by first | exact Or.inl ⟨_, rfl⟩ | exact Or.inr ⟨_, rfl⟩)) ?_
  refine gm_go.ru (gm_cV0 dX2_takeBack_19 (hc') rfl mt_X2_putBack mv_X2_putBack (lk_X2_29 rfl) (Or.inl ⟨_, 4, _, _, _, rfl, g1, rfl⟩) rfl (Nat.le_of_ble_eq_true rfl) (by decide)) ?_
  exact gm_vret dX2_takeBack_22 rfl
set_option maxRecDepth 4000 in
theorem ct_forget {h : gm_H} {n c : Nat} {P : Nat → Nat → Int} (hH : hi_at h n P c) : ∃ h', gm_co mX2_forget 1 [.ref n] h (.inl none) h' ∧ hi_at h' n P 0 ∧ gh_fr h h' (fun k => k = n) := by
  obtain ⟨f, R, hR, h4⟩ := id hH
  obtain ⟨hf, hc, h1, h2, h3⟩ := id hR
  obtain ⟨a1, ha1⟩ : ∃ x : gm_H, x = (h.1.set n (hi_c n f 0), h.2) := ⟨_, rfl⟩
  refine ⟨a1, ?_, ⟨f, R, by rw [ha1]; exact hi_set hR hf (by omega), fun k hk => absurd hk (by omega)⟩, by rw [ha1]; exact gh_set (K := fun k => k = n) gh_rf rfl _⟩
  refine gm_co_of _ (by decide +kernel) rfl (Nat.le_of_ble_eq_true rfl) rfl ?_
  refine gm_go.ru (gm_aload_n dX2_forget_0 rfl (by first | exact Or.inl ⟨_, rfl⟩ | exact Or.inr ⟨_, rfl⟩)) ?_
  refine gm_go.ru (gi_const dX2_forget_1) ?_
  refine gm_go.ru (gm_put dX2_forget_2 (fp_X2_22 rfl) (by assumption) (Nat.le_of_ble_eq_true rfl) (by first | exact ⟨rfl, rfl⟩ | exact trivial)) ?_
  refine gm_hp ha1 ?_
  exact gm_vret dX2_forget_5 rfl
