/-! Program: its three cells; w the last change, k how many numbers -/
abbrev pg_c (g : Nat) (L p w k : Nat) : gm_cl := .inr (9, [.ref (g + 1), .int (zI (L : Int)), .int (zI (p : Int)), .retAddr (7 + w), .ref (g + 2), .int (zI (k : Int))])
def pg_at (h : gm_H) (g : Nat) (X : Nat → Int) (L p w : Nat) (N : Nat → Int) (k : Nat) : Prop := h.1[g]? = some (pg_c g L p w k) ∧ h.1[g + 1]? = some (gC 60 X) ∧ h.1[g + 2]? = some (gA 3 N) ∧ L ≤ 60 ∧ p ≤ 61 ∧ (∀ i, i < L → 32 ≤ X i ∧ X i ≤ 126) ∧ k ≤ 3
def pg_K (g : Nat) : Nat → Prop := fun k => g ≤ k ∧ k < g + 3
theorem pg_fr {h h' : gm_H} {K : Nat → Prop} {g L p w k : Nat} {X N : Nat → Int} (f : gh_fr h h' K) (hK : ∀ k, pg_K g k → ¬ K k) (hP : pg_at h g X L p w N k) : pg_at h' g X L p w N k :=
  ⟨gh_at f hP.1 (hK g ⟨by omega, by omega⟩), gh_at f hP.2.1 (hK _ ⟨by omega, by omega⟩), gh_at f hP.2.2.1 (hK _ ⟨by omega, by omega⟩), hP.2.2.2⟩
/-- the object's own fields set -/
theorem pg_set {h : gm_H} {g L p w k : Nat} {X N : Nat → Int} (hP : pg_at h g X L p w N k) (L' p' w' k' : Nat) (hL : L' ≤ 60) (hp : p' ≤ 61) (hX : ∀ i, i < L' → 32 ≤ X i ∧ X i ≤ 126) (hk : k' ≤ 3) : pg_at (h.1.set g (pg_c g L' p' w' k'), h.2) g X L' p' w' N k' :=
  ⟨gs_s hP.1, gs_n hP.2.1 (by omega), gs_n hP.2.2.1 (by omega), hL, hp, hX, hk⟩
set_option maxRecDepth 4000 in
theorem ct_pgAppend {h : gm_H} {g L p w k : Nat} {X N : Nat → Int} (hP : pg_at h g X L p w N k) {c : Int} (hc : 32 ≤ c ∧ c ≤ 126) (h60 : L < 60) : ∃ h', gm_co mX7_append 1 [.ref g, .int (zI c)] h (.inl none) h' ∧ pg_at h' g (zU X L c) (L + 1) p w N k ∧ gh_fr h h' (pg_K g) := by
  obtain ⟨h1, h2, h3, hL, hp, hX, hk⟩ := id hP
  obtain ⟨a1, ha1⟩ : ∃ x : gm_H, x = (h.1.set (g + 1) (gC 60 (zU X L c)), h.2) := ⟨_, rfl⟩
  have e1 : a1.1[g]? = some (pg_c g L p w k) := by rw [ha1]; exact gs_n h1 (by omega)
  have e2 : a1.1[g + 1]? = some (gC 60 (zU X L c)) := by rw [ha1]; exact gs_s h2
  have e3 : a1.1[g + 2]? = some (gA 3 N) := by rw [ha1]; exact gs_n h3 (by omega)
  obtain ⟨a2, ha2⟩ : ∃ x : gm_H, x = (a1.1.set g (pg_c g (L + 1) p w k), a1.2) := ⟨_, rfl⟩
  refine ⟨a2, ?_, ?_, ?_⟩
  · refine gm_co_of _ (by decide +kernel) rfl (Nat.le_of_ble_eq_true rfl) rfl ?_
    refine gm_go.ru (gm_aload_n dX7_append_0 rfl (by first | exact Or.inl ⟨_, rfl⟩ | exact Or.inr ⟨_, rfl⟩)) ?_
    refine gm_go.ru (gm_get dX7_append_1 (fl_X7_9 rfl) h1 rfl) ?_
    refine gm_go.ru (gm_aload_n dX7_append_4 rfl (by first | exact Or.inl ⟨_, rfl⟩ | exact Or.inr ⟨_, rfl⟩)) ?_
    refine gm_go.ru (gm_get dX7_append_5 (fl_X7_28 rfl) h1 rfl) ?_
    refine gm_go.ru (gm_iload_n dX7_append_8 rfl) ?_
    refine gm_go.ru (gi_cast dX7_append_9 h2 (by omega) (by omega) (by decide) (by omega) (by omega)) ?_
    refine gm_hp ha1 ?_
    refine gm_go.ru (gm_aload_n dX7_append_10 rfl (by first | exact Or.inl ⟨_, rfl⟩ | exact Or.inr ⟨_, rfl⟩)) ?_
    refine gm_go.ru (gm_dup dX7_append_11 rfl) ?_
    refine gm_go.ru (gm_get dX7_append_12 (fl_X7_28 rfl) e1 rfl) ?_
    refine gm_go.ru (gi_const dX7_append_15) ?_
    refine gm_go.ru (gi_add dX7_append_16) ?_
    refine gm_go.ru (gm_put dX7_append_17 (fp_X7_28 rfl) e1 (Nat.le_of_ble_eq_true rfl) (by first | exact ⟨rfl, rfl⟩ | exact trivial)) ?_
    refine gm_hp ha2 ?_
    exact gm_vret dX7_append_20 rfl
  · rw [ha2]; exact ⟨gs_s e1, gs_n e2 (by omega), gs_n e3 (by omega), by omega, hp, fun i hi => by
      by_cases e : i = L
      · rw [e, zU_s]; exact hc
      · rw [zU_n e]; exact hX i (by omega), hk⟩
  · rw [ha2, ha1]; exact gh_set (gh_set gh_rf ⟨by omega, by omega⟩ _) ⟨by omega, by omega⟩ _
set_option maxRecDepth 4000 in
theorem ct_pgEmpty {h : gm_H} {g L p w k : Nat} {X N : Nat → Int} (hP : pg_at h g X L p w N k) : ∃ h', gm_co mX7_empty 1 [.ref g] h (.inl none) h' ∧ pg_at h' g X 0 p w N k ∧ gh_fr h h' (pg_K g) := by
  obtain ⟨h1, h2, h3, hL, hp, hX, hk⟩ := id hP
  obtain ⟨a1, ha1⟩ : ∃ x : gm_H, x = (h.1.set g (pg_c g 0 p w k), h.2) := ⟨_, rfl⟩
  refine ⟨a1, ?_, by rw [ha1]; exact pg_set hP 0 p w k (by omega) hp (fun i hi => absurd hi (by omega)) hk, by rw [ha1]; exact gh_set gh_rf ⟨by omega, by omega⟩ _⟩
  refine gm_co_of _ (by decide +kernel) rfl (Nat.le_of_ble_eq_true rfl) rfl ?_
  refine gm_go.ru (gm_aload_n dX7_empty_0 rfl (by first | exact Or.inl ⟨_, rfl⟩ | exact Or.inr ⟨_, rfl⟩)) ?_
  refine gm_go.ru (gi_const dX7_empty_1) ?_
  refine gm_go.ru (gm_put dX7_empty_2 (fp_X7_28 rfl) h1 (Nat.le_of_ble_eq_true rfl) (by first | exact ⟨rfl, rfl⟩ | exact trivial)) ?_
  refine gm_hp ha1 ?_
  exact gm_vret dX7_empty_5 rfl
def zsg (X : Nat → Int) (L p : Nat) (c : Int) : Bool := decide (p < L ∧ X p = c)
def zdg (X : Nat → Int) (L p : Nat) : Bool := decide (p < L ∧ 48 ≤ X p ∧ X p ≤ 57)
set_option maxRecDepth 4000 in
theorem ct_takesSign {h : gm_H} {g L p w k : Nat} {X N : Nat → Int} (hP : pg_at h g X L p w N k) {c : Int} (hc : zR c) : ∃ h', gm_co mX7_takesSign 1 [.ref g, .int (zI c)] h (.inl (some (.int (zI (zB (zsg X L p c)))))) h' ∧ pg_at h' g X L (if zsg X L p c = true then p + 1 else p) w N k ∧ gh_fr h h' (pg_K g) := by
  obtain ⟨h1, h2, h3, hL, hp, hX, hk⟩ := id hP
  by_cases c1 : p < L
  ·
    have xp := hX p c1
    by_cases c2 : X p = c
    ·
      rw [show zsg X L p c = true from decide_eq_true ⟨c1, c2⟩, if_pos rfl]
      obtain ⟨a1, ha1⟩ : ∃ x : gm_H, x = (h.1.set g (pg_c g L (p + 1) w k), h.2) := ⟨_, rfl⟩
      refine ⟨a1, ?_, by rw [ha1]; exact pg_set hP L (p + 1) w k hL (by omega) hX hk, by rw [ha1]; exact gh_set gh_rf ⟨by omega, by omega⟩ _⟩
      refine gm_co_of _ (by decide +kernel) rfl (Nat.le_of_ble_eq_true rfl) rfl ?_
      refine gm_go.ru (gm_aload_n dX7_takesSign_0 rfl (by first | exact Or.inl ⟨_, rfl⟩ | exact Or.inr ⟨_, rfl⟩)) ?_
      refine gm_go.ru (gm_get dX7_takesSign_1 (fl_X7_32 rfl) h1 rfl) ?_
      refine gm_go.ru (gm_aload_n dX7_takesSign_4 rfl (by first | exact Or.inl ⟨_, rfl⟩ | exact Or.inr ⟨_, rfl⟩)) ?_
      refine gm_go.ru (gm_get dX7_takesSign_5 (fl_X7_28 rfl) h1 rfl) ?_
      refine gm_go.ru (gi_icmp_ge_f 24 dX7_takesSign_8 (by decide) (by omega) (by omega) (by omega)) ?_
      refine gm_go.ru (gm_aload_n dX7_takesSign_11 rfl (by first | exact Or.inl ⟨_, rfl⟩ | exact Or.inr ⟨_, rfl⟩)) ?_
      refine gm_go.ru (gm_get dX7_takesSign_12 (fl_X7_9 rfl) h1 rfl) ?_
      refine gm_go.ru (gm_aload_n dX7_takesSign_15 rfl (by first | exact Or.inl ⟨_, rfl⟩ | exact Or.inr ⟨_, rfl⟩)) ?_
      refine gm_go.ru (gm_get dX7_takesSign_16 (fl_X7_32 rfl) h1 rfl) ?_
      refine gm_go.ru (gi_cald dX7_takesSign_19 h2 (by omega) (by omega) (by decide)) ?_
      refine gm_go.ru (gm_iload_n dX7_takesSign_20 rfl) ?_
      rw [Int.toNat_natCast]
      refine gm_go.ru (gi_icmp_eq_t (tgt := 26) dX7_takesSign_21 (by decide) (by omega) (by omega) c2) ?_
      refine gm_go.ru (gm_aload_n dX7_takesSign_26 rfl (by first | exact Or.inl ⟨_, rfl⟩ | exact Or.inr ⟨_, rfl⟩)) ?_
      refine gm_go.ru (gm_dup dX7_takesSign_27 rfl) ?_
      refine gm_go.ru (gm_get dX7_takesSign_28 (fl_X7_32 rfl) h1 rfl) ?_
      refine gm_go.ru (gi_const dX7_takesSign_31) ?_
      refine gm_go.ru (gi_add dX7_takesSign_32) ?_
      refine gm_go.ru (gm_put dX7_takesSign_33 (fp_X7_32 rfl) h1 (Nat.le_of_ble_eq_true rfl) (by first | exact ⟨rfl, rfl⟩ | exact trivial)) ?_
      refine gm_hp ha1 ?_
      refine gm_go.ru (gi_const dX7_takesSign_36) ?_
      exact gm_zret' dX7_takesSign_37 rfl rfl
    ·
      have e0 : zsg X L p c = false := decide_eq_false (fun z => c2 z.2)
      rw [e0, if_neg (by decide)]
      refine ⟨h, ?_, hP, gh_rf⟩
      refine gm_co_of _ (by decide +kernel) rfl (Nat.le_of_ble_eq_true rfl) rfl ?_
      refine gm_go.ru (gm_aload_n dX7_takesSign_0 rfl (by first | exact Or.inl ⟨_, rfl⟩ | exact Or.inr ⟨_, rfl⟩)) ?_
      refine gm_go.ru (gm_get dX7_takesSign_1 (fl_X7_32 rfl) h1 rfl) ?_
      refine gm_go.ru (gm_aload_n dX7_takesSign_4 rfl (by first | exact Or.inl ⟨_, rfl⟩ | exact Or.inr ⟨_, rfl⟩)) ?_
      refine gm_go.ru (gm_get dX7_takesSign_5 (fl_X7_28 rfl) h1 rfl) ?_
      refine gm_go.ru (gi_icmp_ge_f 24 dX7_takesSign_8 (by decide) (by omega) (by omega) (by omega)) ?_
      refine gm_go.ru (gm_aload_n dX7_takesSign_11 rfl (by first | exact Or.inl ⟨_, rfl⟩ | exact Or.inr ⟨_, rfl⟩)) ?_
      refine gm_go.ru (gm_get dX7_takesSign_12 (fl_X7_9 rfl) h1 rfl) ?_
      refine gm_go.ru (gm_aload_n dX7_takesSign_15 rfl (by first | exact Or.inl ⟨_, rfl⟩ | exact Or.inr ⟨_, rfl⟩)) ?_
      refine gm_go.ru (gm_get dX7_takesSign_16 (fl_X7_32 rfl) h1 rfl) ?_
      refine gm_go.ru (gi_cald dX7_takesSign_19 h2 (by omega) (by omega) (by decide)) ?_
      refine gm_go.ru (gm_iload_n dX7_takesSign_20 rfl) ?_
      rw [Int.toNat_natCast]
      refine gm_go.ru (gi_icmp_eq_f 26 dX7_takesSign_21 (by decide) (by omega) (by omega) c2) ?_
      refine gm_go.ru (gi_const dX7_takesSign_24) ?_
      exact gm_zret' dX7_takesSign_25 rfl rfl
  ·
    have e0 : zsg X L p c = false := decide_eq_false (fun z => c1 z.1)
    rw [e0, if_neg (by decide)]
    refine ⟨h, ?_, hP, gh_rf⟩
    refine gm_co_of _ (by decide +kernel) rfl (Nat.le_of_ble_eq_true rfl) rfl ?_
    refine gm_go.ru (gm_aload_n dX7_takesSign_0 rfl (by first | exact Or.inl ⟨_, rfl⟩ | exact Or.inr ⟨_, rfl⟩)) ?_
    refine gm_go.ru (gm_get dX7_takesSign_1 (fl_X7_32 rfl) h1 rfl) ?_
    refine gm_go.ru (gm_aload_n dX7_takesSign_4 rfl (by first | exact Or.inl ⟨_, rfl⟩ | exact Or.inr ⟨_, rfl⟩)) ?_
    refine gm_go.ru (gm_get dX7_takesSign_5 (fl_X7_28 rfl) h1 rfl) ?_
    refine gm_go.ru (gi_icmp_ge_t (tgt := 24) dX7_takesSign_8 (by decide) (by omega) (by omega) (by omega)) ?_
    refine gm_go.ru (gi_const dX7_takesSign_24) ?_
    exact gm_zret' dX7_takesSign_25 rfl rfl
set_option maxRecDepth 4000 in
theorem ct_atDigit {h : gm_H} {g L p w k : Nat} {X N : Nat → Int} (hP : pg_at h g X L p w N k) : gm_co mX7_atDigit 1 [.ref g] h (.inl (some (.int (zI (zB (zdg X L p)))))) h := by
  refine gm_co_of _ (by decide +kernel) rfl (Nat.le_of_ble_eq_true rfl) rfl ?_
  obtain ⟨h1, h2, h3, hL, hp, hX, hk⟩ := id hP
  by_cases c1 : p < L
  ·
    have xp := hX p c1
    by_cases c2 : 48 ≤ X p
    ·
      by_cases c3 : X p ≤ 57
      ·
        rw [show zdg X L p = true from decide_eq_true ⟨c1, c2, c3⟩]
        refine gm_go.ru (gm_aload_n dX7_atDigit_0 rfl (by first | exact Or.inl ⟨_, rfl⟩ | exact Or.inr ⟨_, rfl⟩)) ?_
        refine gm_go.ru (gm_get dX7_atDigit_1 (fl_X7_32 rfl) h1 rfl) ?_
        refine gm_go.ru (gm_aload_n dX7_atDigit_4 rfl (by first | exact Or.inl ⟨_, rfl⟩ | exact Or.inr ⟨_, rfl⟩)) ?_
        refine gm_go.ru (gm_get dX7_atDigit_5 (fl_X7_28 rfl) h1 rfl) ?_
        refine gm_go.ru (gi_icmp_ge_f 43 dX7_atDigit_8 (by decide) (by omega) (by omega) (by omega)) ?_
        refine gm_go.ru (gm_aload_n dX7_atDigit_11 rfl (by first | exact Or.inl ⟨_, rfl⟩ | exact Or.inr ⟨_, rfl⟩)) ?_
        refine gm_go.ru (gm_get dX7_atDigit_12 (fl_X7_9 rfl) h1 rfl) ?_
        refine gm_go.ru (gm_aload_n dX7_atDigit_15 rfl (by first | exact Or.inl ⟨_, rfl⟩ | exact Or.inr ⟨_, rfl⟩)) ?_
        refine gm_go.ru (gm_get dX7_atDigit_16 (fl_X7_32 rfl) h1 rfl) ?_
        refine gm_go.ru (gi_cald dX7_atDigit_19 h2 (by omega) (by omega) (by decide)) ?_
        rw [Int.toNat_natCast]
        refine gm_go.ru (gi_bipush dX7_atDigit_20 (by decide +kernel)) ?_
        refine gm_go.ru (gi_icmp_lt_f 43 dX7_atDigit_22 (by decide) (by omega) (by omega) (by omega)) ?_
        refine gm_go.ru (gm_aload_n dX7_atDigit_25 rfl (by first | exact Or.inl ⟨_, rfl⟩ | exact Or.inr ⟨_, rfl⟩)) ?_
        refine gm_go.ru (gm_get dX7_atDigit_26 (fl_X7_9 rfl) h1 rfl) ?_
        refine gm_go.ru (gm_aload_n dX7_atDigit_29 rfl (by first | exact Or.inl ⟨_, rfl⟩ | exact Or.inr ⟨_, rfl⟩)) ?_
        refine gm_go.ru (gm_get dX7_atDigit_30 (fl_X7_32 rfl) h1 rfl) ?_
        refine gm_go.ru (gi_cald dX7_atDigit_33 h2 (by omega) (by omega) (by decide)) ?_
        rw [Int.toNat_natCast]
        refine gm_go.ru (gi_bipush dX7_atDigit_34 (by decide +kernel)) ?_
        refine gm_go.ru (gi_icmp_gt_f 43 dX7_atDigit_36 (by decide) (by omega) (by omega) (by omega)) ?_
        refine gm_go.ru (gi_const dX7_atDigit_39) ?_
        refine gm_go.ru (gm_goto (tgt := 44) dX7_atDigit_40 (by decide)) ?_
        exact gm_zret' dX7_atDigit_44 rfl rfl
      ·
        rw [show zdg X L p = false from decide_eq_false (fun z => c3 z.2.2)]
        refine gm_go.ru (gm_aload_n dX7_atDigit_0 rfl (by first | exact Or.inl ⟨_, rfl⟩ | exact Or.inr ⟨_, rfl⟩)) ?_
        refine gm_go.ru (gm_get dX7_atDigit_1 (fl_X7_32 rfl) h1 rfl) ?_
        refine gm_go.ru (gm_aload_n dX7_atDigit_4 rfl (by first | exact Or.inl ⟨_, rfl⟩ | exact Or.inr ⟨_, rfl⟩)) ?_
        refine gm_go.ru (gm_get dX7_atDigit_5 (fl_X7_28 rfl) h1 rfl) ?_
        refine gm_go.ru (gi_icmp_ge_f 43 dX7_atDigit_8 (by decide) (by omega) (by omega) (by omega)) ?_
        refine gm_go.ru (gm_aload_n dX7_atDigit_11 rfl (by first | exact Or.inl ⟨_, rfl⟩ | exact Or.inr ⟨_, rfl⟩)) ?_
        refine gm_go.ru (gm_get dX7_atDigit_12 (fl_X7_9 rfl) h1 rfl) ?_
        refine gm_go.ru (gm_aload_n dX7_atDigit_15 rfl (by first | exact Or.inl ⟨_, rfl⟩ | exact Or.inr ⟨_, rfl⟩)) ?_
        refine gm_go.ru (gm_get dX7_atDigit_16 (fl_X7_32 rfl) h1 rfl) ?_
        refine gm_go.ru (gi_cald dX7_atDigit_19 h2 (by omega) (by omega) (by decide)) ?_
        rw [Int.toNat_natCast]
        refine gm_go.ru (gi_bipush dX7_atDigit_20 (by decide +kernel)) ?_
        refine gm_go.ru (gi_icmp_lt_f 43 dX7_atDigit_22 (by decide) (by omega) (by omega) (by omega)) ?_
        refine gm_go.ru (gm_aload_n dX7_atDigit_25 rfl (by first | exact Or.inl ⟨_, rfl⟩ | exact Or.inr ⟨_, rfl⟩)) ?_
        refine gm_go.ru (gm_get dX7_atDigit_26 (fl_X7_9 rfl) h1 rfl) ?_
        refine gm_go.ru (gm_aload_n dX7_atDigit_29 rfl (by first | exact Or.inl ⟨_, rfl⟩ | exact Or.inr ⟨_, rfl⟩)) ?_
        refine gm_go.ru (gm_get dX7_atDigit_30 (fl_X7_32 rfl) h1 rfl) ?_
        refine gm_go.ru (gi_cald dX7_atDigit_33 h2 (by omega) (by omega) (by decide)) ?_
        rw [Int.toNat_natCast]
        refine gm_go.ru (gi_bipush dX7_atDigit_34 (by decide +kernel)) ?_
        refine gm_go.ru (gi_icmp_gt_t (tgt := 43) dX7_atDigit_36 (by decide) (by omega) (by omega) (by omega)) ?_
        refine gm_go.ru (gi_const dX7_atDigit_43) ?_
        exact gm_zret' dX7_atDigit_44 rfl rfl
    ·
      rw [show zdg X L p = false from decide_eq_false (fun z => c2 z.2.1)]
      refine gm_go.ru (gm_aload_n dX7_atDigit_0 rfl (by first | exact Or.inl ⟨_, rfl⟩ | exact Or.inr ⟨_, rfl⟩)) ?_
      refine gm_go.ru (gm_get dX7_atDigit_1 (fl_X7_32 rfl) h1 rfl) ?_
      refine gm_go.ru (gm_aload_n dX7_atDigit_4 rfl (by first | exact Or.inl ⟨_, rfl⟩ | exact Or.inr ⟨_, rfl⟩)) ?_
      refine gm_go.ru (gm_get dX7_atDigit_5 (fl_X7_28 rfl) h1 rfl) ?_
      refine gm_go.ru (gi_icmp_ge_f 43 dX7_atDigit_8 (by decide) (by omega) (by omega) (by omega)) ?_
      refine gm_go.ru (gm_aload_n dX7_atDigit_11 rfl (by first | exact Or.inl ⟨_, rfl⟩ | exact Or.inr ⟨_, rfl⟩)) ?_
      refine gm_go.ru (gm_get dX7_atDigit_12 (fl_X7_9 rfl) h1 rfl) ?_
      refine gm_go.ru (gm_aload_n dX7_atDigit_15 rfl (by first | exact Or.inl ⟨_, rfl⟩ | exact Or.inr ⟨_, rfl⟩)) ?_
      refine gm_go.ru (gm_get dX7_atDigit_16 (fl_X7_32 rfl) h1 rfl) ?_
      refine gm_go.ru (gi_cald dX7_atDigit_19 h2 (by omega) (by omega) (by decide)) ?_
      rw [Int.toNat_natCast]
      refine gm_go.ru (gi_bipush dX7_atDigit_20 (by decide +kernel)) ?_
      refine gm_go.ru (gi_icmp_lt_t (tgt := 43) dX7_atDigit_22 (by decide) (by omega) (by omega) (by omega)) ?_
      refine gm_go.ru (gi_const dX7_atDigit_43) ?_
      exact gm_zret' dX7_atDigit_44 rfl rfl
  ·
    rw [show zdg X L p = false from decide_eq_false (fun z => c1 z.1)]
    refine gm_go.ru (gm_aload_n dX7_atDigit_0 rfl (by first | exact Or.inl ⟨_, rfl⟩ | exact Or.inr ⟨_, rfl⟩)) ?_
    refine gm_go.ru (gm_get dX7_atDigit_1 (fl_X7_32 rfl) h1 rfl) ?_
    refine gm_go.ru (gm_aload_n dX7_atDigit_4 rfl (by first | exact Or.inl ⟨_, rfl⟩ | exact Or.inr ⟨_, rfl⟩)) ?_
    refine gm_go.ru (gm_get dX7_atDigit_5 (fl_X7_28 rfl) h1 rfl) ?_
    refine gm_go.ru (gi_icmp_ge_t (tgt := 43) dX7_atDigit_8 (by decide) (by omega) (by omega) (by omega)) ?_
    refine gm_go.ru (gi_const dX7_atDigit_43) ?_
    exact gm_zret' dX7_atDigit_44 rfl rfl
