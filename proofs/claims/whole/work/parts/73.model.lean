/-- the first j places from G, the others from F -/
def zLy (G F : Nat → Int) (j : Nat) : Nat → Int := fun k => if k < j then G k else F k
theorem zLy_0 (G F : Nat → Int) : zLy G F 0 = F := by funext k; unfold zLy; rw [if_neg (by omega)]
theorem zLy_s (G F : Nat → Int) (j : Nat) : zU (zLy G F j) j (G j) = zLy G F (j + 1) := by
  funext k
  unfold zU zLy
  by_cases e : k = j
  · rw [if_pos e, e, if_pos (by omega)]
  · rw [if_neg e]
    by_cases c : k < j
    · rw [if_pos c, if_pos (by omega)]
    · rw [if_neg c, if_neg (by omega)]
theorem zLy_in (G F : Nat → Int) {j k : Nat} (h : k < j) : zLy G F j k = G k := by unfold zLy; rw [if_pos h]
theorem zLy_out (G F : Nat → Int) {j k : Nat} (h : ¬ k < j) : zLy G F j k = F k := by unfold zLy; rw [if_neg h]
set_option maxRecDepth 4000 in
theorem ly_in {p q : Nat} {F G : Nat → Int} (hpq : p ≠ q) : ∀ (z j : Nat) (h : gm_H), j + z = 118 → h.1[p]? = some (gA 118 (zLy G F j)) → h.1[q]? = some (gA 118 G) → ∃ h', gm_ru mX11_lays 1 (2, [some (.ref p), some (.ref q), some (.int (zI (j : Int)))], [], h) (.inl none) h' ∧ h'.1[p]? = some (gA 118 (zLy G F 118)) ∧ gh_fr h h' (fun k => k = p) := by
  intro z
  induction z with
  | zero =>
    intro j h hj hp hq
    obtain rfl : j = 118 := by omega
    refine ⟨h, ?_, hp, gh_rf⟩
    refine gm_go.ru (gm_iload_n dX11_lays_2 rfl) ?_
    refine gm_go.ru (gi_bipush dX11_lays_3 (by decide +kernel)) ?_
    refine gm_go.ru (gi_icmp_ge_t (tgt := 20) dX11_lays_5 (by decide) (by omega) (by omega) (by omega)) ?_
    exact gm_vret dX11_lays_20 rfl
  | succ z ih =>
    intro j h hj hp hq
    obtain ⟨a1, ha1⟩ : ∃ y : gm_H, y = (h.1.set p (gA 118 (zU (zLy G F j) j (G j))), h.2) := ⟨_, rfl⟩
    have p1 : a1.1[p]? = some (gA 118 (zLy G F (j + 1))) := by rw [ha1, zLy_s]; exact gs_s hp
    have q1 := gs_n (c' := gA 118 (zU (zLy G F j) j (G j))) hq hpq
    rw [← ha1] at q1
    have f1 : gh_fr h a1 (fun k => k = p) := by rw [ha1]; exact gh_set (K := fun k => k = p) gh_rf rfl _
    obtain ⟨h', e1, e2, e3⟩ := ih (j + 1) a1 (by omega) p1 q1
    refine ⟨h', ?_, e2, gh_tr f1 e3⟩
    refine gm_go.ru (gm_iload_n dX11_lays_2 rfl) ?_
    refine gm_go.ru (gi_bipush dX11_lays_3 (by decide +kernel)) ?_
    refine gm_go.ru (gi_icmp_ge_f 20 dX11_lays_5 (by decide) (by omega) (by omega) (by omega)) ?_
    refine gm_go.ru (gm_aload_n dX11_lays_8 rfl (by first | exact Or.inl ⟨_, rfl⟩ | exact Or.inr ⟨_, rfl⟩)) ?_
    refine gm_go.ru (gm_iload_n dX11_lays_9 rfl) ?_
    refine gm_go.ru (gm_aload_n dX11_lays_10 rfl (by first | exact Or.inl ⟨_, rfl⟩ | exact Or.inr ⟨_, rfl⟩)) ?_
    refine gm_go.ru (gm_iload_n dX11_lays_11 rfl) ?_
    refine gm_go.ru (gi_aldN dX11_lays_12 hq (by omega) (by decide)) ?_
    refine gm_go.ru (gi_astN dX11_lays_13 hp (by omega) (by decide)) ?_
    refine gm_hp ha1 ?_
    refine gm_go.ru (gi_iinc (ls' := [_, _, _]) dX11_lays_14 rfl (by decide) rfl) ?_
    refine gm_go.ru (gm_goto (tgt := 2) dX11_lays_17 (by decide)) ?_
    exact e1
set_option maxRecDepth 4000 in
theorem ct_mLays {h : gm_H} {p q : Nat} {F G : Nat → Int} (hpq : p ≠ q) (hp : h.1[p]? = some (gA 118 F)) (hq : h.1[q]? = some (gA 118 G)) : ∃ h', gm_co mX11_lays 1 [.ref p, .ref q] h (.inl none) h' ∧ h'.1[p]? = some (gA 118 (zLy G F 118)) ∧ gh_fr h h' (fun k => k = p) := by
  obtain ⟨h', e1, e2⟩ := ly_in hpq 118 0 h rfl (by rw [zLy_0]; exact hp) hq
  refine ⟨h', ?_, e2⟩
  refine gm_co_of _ (by decide +kernel) rfl (Nat.le_of_ble_eq_true rfl) rfl ?_
  refine gm_go.ru (gi_const dX11_lays_0) ?_
  refine gm_go.ru (gm_istore_n (ls' := [_, _, _]) dX11_lays_1 (by decide) rfl) ?_
  exact e1
set_option maxRecDepth 4000 in
theorem ct_mBegins {h : gm_H} {m : Nat} {K F : Nat → Int} (hM : h.1[m]? = some (md_c m K)) (hV : h.1[m + 1]? = some (gA 118 F)) {B : Nat → Int} (hB : h.1[m + 2]? = some (gA 118 B)) : ∃ h', gm_co mX11_begins 2 [.ref m] h (.inl none) h' ∧ h'.1[m]? = some (md_c m (zU K 0 0)) ∧ h'.1[m + 1]? = some (gA 118 F) ∧ h'.1[m + 2]? = some (gA 118 (zLy F B 118)) ∧ gh_fr h h' (fun k => k = m ∨ k = m + 2) := by
  obtain ⟨a1, ha1⟩ : ∃ y : gm_H, y = (h.1.set m (md_c m (zU K 0 0)), h.2) := ⟨_, rfl⟩
  have M1 : a1.1[m]? = some (md_c m (zU K 0 0)) := by rw [ha1]; exact gs_s hM
  have V1 : a1.1[m + 1]? = some (gA 118 F) := by rw [ha1]; exact gs_n hV (by omega)
  have B1 : a1.1[m + 2]? = some (gA 118 B) := by rw [ha1]; exact gs_n hB (by omega)
  have f1 : gh_fr h a1 (fun k => k = m ∨ k = m + 2) := by rw [ha1]; exact gh_set gh_rf (Or.inl rfl) _
  obtain ⟨h', e1, e2, e3⟩ := ct_mLays (show m + 2 ≠ m + 1 by omega) B1 V1
  refine ⟨h', ?_, gh_at e3 M1 (by omega), gh_at e3 V1 (by omega), e2, gh_tr f1 (gh_mono e3 fun k z => Or.inr z)⟩
  refine gm_co_of _ (by decide +kernel) rfl (Nat.le_of_ble_eq_true rfl) rfl ?_
  refine gm_go.ru (gm_aload_n dX11_begins_0 rfl (by first | exact Or.inl ⟨_, rfl⟩ | exact Or.inr ⟨_, rfl⟩)) ?_
  refine gm_go.ru (gi_const dX11_begins_1) ?_
  refine gm_go.ru (gm_put dX11_begins_2 (fp_X11_53 rfl) hM (Nat.le_of_ble_eq_true rfl) (by first | exact ⟨rfl, rfl⟩ | exact trivial)) ?_
  refine gm_hp ha1 ?_
  refine gm_go.ru (gm_aload_n dX11_begins_5 rfl (by first | exact Or.inl ⟨_, rfl⟩ | exact Or.inr ⟨_, rfl⟩)) ?_
  refine gm_go.ru (gm_get dX11_begins_6 (fl_X11_20 rfl) M1 rfl) ?_
  refine gm_go.ru (gm_aload_n dX11_begins_9 rfl (by first | exact Or.inl ⟨_, rfl⟩ | exact Or.inr ⟨_, rfl⟩)) ?_
  refine gm_go.ru (gm_get dX11_begins_10 (fl_X11_16 rfl) M1 rfl) ?_
  refine gm_go.ru (gm_cS0 dX11_begins_13 (e1) rfl mt_X11_lays ms_X11_lays (lk_X11_56 rfl) rfl (Nat.le_of_ble_eq_true rfl) (by decide)) ?_
  exact gm_vret dX11_begins_16 rfl
set_option maxRecDepth 4000 in
theorem ct_mEndsX {h : gm_H} {m : Nat} {K F : Nat → Int} (hM : h.1[m]? = some (md_c m K)) (hV : h.1[m + 1]? = some (gA 118 F)) {B : Nat → Int} (hB : h.1[m + 2]? = some (gA 118 B)) (hK : zR (K 0)) (hq : ¬ K 0 = 0) {x : Int} : ∃ h', gm_co mX11_ends 2 [.ref m, .int (zI x)] h (.inl (some (.int (zI 0)))) h' ∧ h'.1[m + 1]? = some (gA 118 (zLy B F 118)) ∧ gh_fr h h' (fun k => k = m + 1) := by
  obtain ⟨h', e1, e2, e3⟩ := ct_mLays (show m + 1 ≠ m + 2 by omega) hV hB
  refine ⟨h', ?_, e2, e3⟩
  refine gm_co_of _ (by decide +kernel) rfl (Nat.le_of_ble_eq_true rfl) rfl ?_
  refine gm_go.ru (gm_aload_n dX11_ends_0 rfl (by first | exact Or.inl ⟨_, rfl⟩ | exact Or.inr ⟨_, rfl⟩)) ?_
  refine gm_go.ru (gm_get dX11_ends_1 (fl_X11_53 rfl) hM rfl) ?_
  refine gm_go.ru (gi_if_eq_f 20 dX11_ends_4 (by decide) hK hq) ?_
  refine gm_go.ru (gm_aload_n dX11_ends_7 rfl (by first | exact Or.inl ⟨_, rfl⟩ | exact Or.inr ⟨_, rfl⟩)) ?_
  refine gm_go.ru (gm_get dX11_ends_8 (fl_X11_16 rfl) hM rfl) ?_
  refine gm_go.ru (gm_aload_n dX11_ends_11 rfl (by first | exact Or.inl ⟨_, rfl⟩ | exact Or.inr ⟨_, rfl⟩)) ?_
  refine gm_go.ru (gm_get dX11_ends_12 (fl_X11_20 rfl) hM rfl) ?_
  refine gm_go.ru (gm_cS0 dX11_ends_15 (e1) rfl mt_X11_lays ms_X11_lays (lk_X11_56 rfl) rfl (Nat.le_of_ble_eq_true rfl) (by decide)) ?_
  refine gm_go.ru (gi_const dX11_ends_18) ?_
  exact gm_iret dX11_ends_19 rfl
/-- the past moved down by one state as far as j -/
def zMd (P : Nat → Int) (j : Nat) : Nat → Int := fun k => if k < j then P (k + 118) else P k
theorem zMd_0 (P : Nat → Int) : zMd P 0 = P := by funext k; unfold zMd; rw [if_neg (by omega)]
theorem zMd_s (P : Nat → Int) (j : Nat) : zU (zMd P j) j (P (j + 118)) = zMd P (j + 1) := by
  funext k
  unfold zU zMd
  by_cases e : k = j
  · rw [if_pos e, e, if_pos (by omega)]
  · rw [if_neg e]
    by_cases c : k < j
    · rw [if_pos c, if_pos (by omega)]
    · rw [if_neg c, if_neg (by omega)]
/-- B laid behind the place b as far as j -/
def zLb (P B : Nat → Int) (b j : Nat) : Nat → Int := fun k => if b ≤ k ∧ k < b + j then B (k - b) else P k
theorem zLb_0 (P B : Nat → Int) (b : Nat) : zLb P B b 0 = P := by funext k; unfold zLb; rw [if_neg (by omega)]
theorem zLb_s (P B : Nat → Int) (b j : Nat) : zU (zLb P B b j) (b + j) (B j) = zLb P B b (j + 1) := by
  funext k
  unfold zU zLb
  by_cases e : k = b + j
  · rw [if_pos e, if_pos (by omega), show k - b = j by omega]
  · rw [if_neg e]
    by_cases c : b ≤ k ∧ k < b + j
    · rw [if_pos c, if_pos (by omega)]
    · rw [if_neg c, if_neg (by omega)]
def zSt8 (P : Nat → Int) : Nat → Nat → Int := fun i k => P (118 * i + k)
set_option maxRecDepth 4000 in
theorem en_1 {m : Nat} {K P : Nat → Int} {x : Int} : ∀ (z j : Nat) (h : gm_H), j + z = 826 → h.1[m]? = some (md_c m K) → h.1[m + 4]? = some (gA 944 (zMd P j)) → ∃ h', gm_go mX11_ends 2 (31, [some (.ref m), some (.int (zI x)), some (.int (zI (j : Int)))], [], h) (59, [some (.ref m), some (.int (zI x)), some (.int (zI (826 : Int)))], [], h') ∧ h'.1[m]? = some (md_c m K) ∧ h'.1[m + 4]? = some (gA 944 (zMd P 826)) ∧ gh_fr h h' (fun k => k = m + 4) := by
  intro z
  induction z with
  | zero =>
    intro j h hj hM hP
    obtain rfl : j = 826 := by omega
    refine ⟨h, ?_, hM, hP, gh_rf⟩
    refine gm_go_tr (gm_iload_n dX11_ends_31 rfl) ?_
    refine gm_go_tr (gi_sipush dX11_ends_32 (by decide +kernel)) ?_
    refine gm_go_tr (gi_icmp_ge_t (tgt := 59) dX11_ends_35 (by decide) (by omega) (by omega) (by omega)) ?_
    exact gm_go_rf
  | succ z ih =>
    intro j h hj hM hP
    obtain ⟨a1, ha1⟩ : ∃ y : gm_H, y = (h.1.set (m + 4) (gA 944 (zU (zMd P j) j (P (j + 118)))), h.2) := ⟨_, rfl⟩
    have P1 : a1.1[m + 4]? = some (gA 944 (zMd P (j + 1))) := by rw [ha1, zMd_s]; exact gs_s hP
    have M1 := gs_n (c' := gA 944 (zU (zMd P j) j (P (j + 118)))) hM (show m + 4 ≠ m by omega)
    rw [← ha1] at M1
    have f1 : gh_fr h a1 (fun k => k = m + 4) := by rw [ha1]; exact gh_set (K := (fun k => k = m + 4)) gh_rf rfl _
    have e0 : zMd P j (j + 118) = P (j + 118) := by unfold zMd; rw [if_neg (by omega)]
    obtain ⟨h', e1, e2, e3, e4⟩ := ih (j + 1) a1 (by omega) M1 P1
    refine ⟨h', ?_, e2, e3, gh_tr f1 e4⟩
    refine gm_go_tr (gm_iload_n dX11_ends_31 rfl) ?_
    refine gm_go_tr (gi_sipush dX11_ends_32 (by decide +kernel)) ?_
    refine gm_go_tr (gi_icmp_ge_f 59 dX11_ends_35 (by decide) (by omega) (by omega) (by omega)) ?_
    refine gm_go_tr (gm_aload_n dX11_ends_38 rfl (by first | exact Or.inl ⟨_, rfl⟩ | exact Or.inr ⟨_, rfl⟩)) ?_
    refine gm_go_tr (gm_get dX11_ends_39 (fl_X11_26 rfl) hM rfl) ?_
    refine gm_go_tr (gm_iload_n dX11_ends_42 rfl) ?_
    refine gm_go_tr (gm_aload_n dX11_ends_43 rfl (by first | exact Or.inl ⟨_, rfl⟩ | exact Or.inr ⟨_, rfl⟩)) ?_
    refine gm_go_tr (gm_get dX11_ends_44 (fl_X11_26 rfl) hM rfl) ?_
    refine gm_go_tr (gm_iload_n dX11_ends_47 rfl) ?_
    refine gm_go_tr (gi_bipush dX11_ends_48 (by decide +kernel)) ?_
    refine gm_go_tr (gi_add dX11_ends_50) ?_
    refine gm_go_tr (gi_aldN (a := j + 118) dX11_ends_51 hP (by omega) (by decide)) ?_
    rw [e0]
    refine gm_go_tr (gi_astN dX11_ends_52 hP (by omega) (by decide)) ?_
    refine gm_hq ha1 ?_
    refine gm_go_tr (gi_iinc (ls' := [_, _, _]) dX11_ends_53 rfl (by decide) rfl) ?_
    refine gm_go_tr (gm_goto (tgt := 31) dX11_ends_56 (by decide)) ?_
    exact e1
set_option maxRecDepth 4000 in
theorem en_2 {m c : Nat} {K P B : Nat → Int} {x : Int} (h8 : c < 8) (hc : K 1 = (c : Int)) : ∀ (z j : Nat) (h : gm_H), j + z = 118 → h.1[m]? = some (md_c m K) → h.1[m + 2]? = some (gA 118 B) → h.1[m + 4]? = some (gA 944 (zLb P B (118 * c) j)) → ∃ h', gm_ru mX11_ends 2 (71, [some (.ref m), some (.int (zI x)), some (.int (zI (j : Int)))], [], h) (.inl (some (.int (zI x)))) h' ∧ h'.1[m]? = some (md_c m (zU K 1 ((c + 1 : Nat) : Int))) ∧ h'.1[m + 4]? = some (gA 944 (zLb P B (118 * c) 118)) ∧ gh_fr h h' (fun k => k = m ∨ k = m + 4) := by
  intro z
  induction z with
  | zero =>
    intro j h hj hM hB hP
    obtain rfl : j = 118 := by omega
    obtain ⟨a1, ha1⟩ : ∃ y : gm_H, y = (h.1.set m (md_c m (zU K 1 ((c + 1 : Nat) : Int))), h.2) := ⟨_, rfl⟩
    refine ⟨a1, ?_, by rw [ha1]; exact gs_s hM, by rw [ha1]; exact gs_n hP (by omega), by rw [ha1]; exact gh_set gh_rf (Or.inl rfl) _⟩
    refine gm_go.ru (gm_iload_n dX11_ends_71 rfl) ?_
    refine gm_go.ru (gi_bipush dX11_ends_72 (by decide +kernel)) ?_
    refine gm_go.ru (gi_icmp_ge_t (tgt := 103) dX11_ends_74 (by decide) (by omega) (by omega) (by omega)) ?_
    refine gm_go.ru (gm_aload_n dX11_ends_103 rfl (by first | exact Or.inl ⟨_, rfl⟩ | exact Or.inr ⟨_, rfl⟩)) ?_
    refine gm_go.ru (gm_dup dX11_ends_104 rfl) ?_
    refine gm_go.ru (gm_get dX11_ends_105 (fl_X11_60 rfl) hM rfl) ?_
    rw [hc]
    refine gm_go.ru (gi_const dX11_ends_108) ?_
    refine gm_go.ru (gi_add dX11_ends_109) ?_
    refine gm_go.ru (gm_put dX11_ends_110 (fp_X11_60 rfl) hM (Nat.le_of_ble_eq_true rfl) (by first | exact ⟨rfl, rfl⟩ | exact trivial)) ?_
    refine gm_hp ha1 ?_
    refine gm_go.ru (gm_iload_n dX11_ends_113 rfl) ?_
    exact gm_iret dX11_ends_114 rfl
  | succ z ih =>
    intro j h hj hM hB hP
    obtain ⟨a1, ha1⟩ : ∃ y : gm_H, y = (h.1.set (m + 4) (gA 944 (zU (zLb P B (118 * c) j) (118 * c + j) (B j))), h.2) := ⟨_, rfl⟩
    have P1 : a1.1[m + 4]? = some (gA 944 (zLb P B (118 * c) (j + 1))) := by rw [ha1, zLb_s]; exact gs_s hP
    have M1 := gs_n (c' := gA 944 (zU (zLb P B (118 * c) j) (118 * c + j) (B j))) hM (show m + 4 ≠ m by omega)
    have B1 := gs_n (c' := gA 944 (zU (zLb P B (118 * c) j) (118 * c + j) (B j))) hB (show m + 4 ≠ m + 2 by omega)
    rw [← ha1] at M1 B1
    have f1 : gh_fr h a1 (fun k => k = m ∨ k = m + 4) := by rw [ha1]; exact gh_set gh_rf (Or.inr rfl) _
    obtain ⟨h', e1, e2, e3, e4⟩ := ih (j + 1) a1 (by omega) M1 B1 P1
    refine ⟨h', ?_, e2, e3, gh_tr f1 e4⟩
    refine gm_go.ru (gm_iload_n dX11_ends_71 rfl) ?_
    refine gm_go.ru (gi_bipush dX11_ends_72 (by decide +kernel)) ?_
    refine gm_go.ru (gi_icmp_ge_f 103 dX11_ends_74 (by decide) (by omega) (by omega) (by omega)) ?_
    refine gm_go.ru (gm_aload_n dX11_ends_77 rfl (by first | exact Or.inl ⟨_, rfl⟩ | exact Or.inr ⟨_, rfl⟩)) ?_
    refine gm_go.ru (gm_get dX11_ends_78 (fl_X11_26 rfl) hM rfl) ?_
    refine gm_go.ru (gm_aload_n dX11_ends_81 rfl (by first | exact Or.inl ⟨_, rfl⟩ | exact Or.inr ⟨_, rfl⟩)) ?_
    refine gm_go.ru (gm_get dX11_ends_82 (fl_X11_60 rfl) hM rfl) ?_
    rw [hc]
    refine gm_go.ru (gi_bipush dX11_ends_85 (by decide +kernel)) ?_
    refine gm_go.ru (gi_mul dX11_ends_87) ?_
    refine gm_go.ru (gm_iload_n dX11_ends_88 rfl) ?_
    refine gm_go.ru (gi_add dX11_ends_89) ?_
    refine gm_go.ru (gm_aload_n dX11_ends_90 rfl (by first | exact Or.inl ⟨_, rfl⟩ | exact Or.inr ⟨_, rfl⟩)) ?_
    refine gm_go.ru (gm_get dX11_ends_91 (fl_X11_20 rfl) hM rfl) ?_
    refine gm_go.ru (gm_iload_n dX11_ends_94 rfl) ?_
    refine gm_go.ru (gi_aldN dX11_ends_95 hB (by omega) (by decide)) ?_
    rw [show (c : Int) * 118 + (j : Int) = ((118 * c + j : Nat) : Int) by omega]
    refine gm_go.ru (gi_astN dX11_ends_96 hP (by omega) (by decide)) ?_
    refine gm_hp ha1 ?_
    refine gm_go.ru (gi_iinc (ls' := [_, _, _]) dX11_ends_97 rfl (by decide) rfl) ?_
    refine gm_go.ru (gm_goto (tgt := 71) dX11_ends_100 (by decide)) ?_
    exact e1
theorem zU_zU {F : Nat → Int} {k : Nat} {x y : Int} : zU (zU F k x) k y = zU F k y := by
  funext j
  unfold zU
  by_cases e : j = k
  · rw [if_pos e, if_pos e]
  · rw [if_neg e, if_neg e, if_neg e]
set_option maxRecDepth 4000 in
theorem ct_mEnds {h : gm_H} {m c : Nat} {K B P : Nat → Int} (hM : h.1[m]? = some (md_c m K)) (hB : h.1[m + 2]? = some (gA 118 B)) (hP : h.1[m + 4]? = some (gA 944 P)) (hq : K 0 = 0) (hc : K 1 = (c : Int)) (hc8 : c ≤ 8) {x : Int} : ∃ h' P', gm_co mX11_ends 2 [.ref m, .int (zI x)] h (.inl (some (.int (zI x)))) h' ∧ h'.1[m]? = some (md_c m (zU K 1 ((min (c + 1) 8 : Nat) : Int))) ∧ h'.1[m + 4]? = some (gA 944 P') ∧ (∀ i, i < min (c + 1) 8 → ∀ k, k < 118 → zSt8 P' i k = zPush (zSt8 P) c B i k) ∧ gh_fr h h' (fun k => k = m ∨ k = m + 4) := by
  by_cases h8 : c < 8
  ·
    obtain ⟨h', e1, e2, e3, e4⟩ := en_2 (P := P) (B := B) (x := x) h8 hc 118 0 h rfl hM hB (by rw [zLb_0]; exact hP)
    refine ⟨h', _, ?_, by rw [show min (c + 1) 8 = c + 1 by omega]; exact e2, e3, fun i hi k hk => ?_, e4⟩
    ·
      refine gm_co_of _ (by decide +kernel) rfl (Nat.le_of_ble_eq_true rfl) rfl ?_
      refine gm_go.ru (gm_aload_n dX11_ends_0 rfl (by first | exact Or.inl ⟨_, rfl⟩ | exact Or.inr ⟨_, rfl⟩)) ?_
      refine gm_go.ru (gm_get dX11_ends_1 (fl_X11_53 rfl) hM rfl) ?_
      refine gm_go.ru (gi_if_eq_t (tgt := 20) dX11_ends_4 (by decide) (by rw [hq]; decide) hq) ?_
      refine gm_go.ru (gm_aload_n dX11_ends_20 rfl (by first | exact Or.inl ⟨_, rfl⟩ | exact Or.inr ⟨_, rfl⟩)) ?_
      refine gm_go.ru (gm_get dX11_ends_21 (fl_X11_60 rfl) hM rfl) ?_
      rw [hc]
      refine gm_go.ru (gi_bipush dX11_ends_24 (by decide +kernel)) ?_
      refine gm_go.ru (gi_icmp_ne_t (tgt := 69) dX11_ends_26 (by decide) (by omega) (by omega) (by omega)) ?_
      refine gm_go.ru (gi_const dX11_ends_69) ?_
      refine gm_go.ru (gm_istore_n (ls' := [_, _, _]) dX11_ends_70 (by decide) rfl) ?_
      exact e1
    ·
      unfold zPush zSt8 zLb
      rw [if_pos h8]
      by_cases e : i = c
      · rw [e, zU_s, if_pos (by omega), show 118 * c + k - 118 * c = k by omega]
      · rw [zU_n e, if_neg (by omega)]
  ·
    obtain rfl : c = 8 := by omega
    obtain ⟨g, d1, d2, d3, d4⟩ := en_1 (K := K) (P := P) (x := x) 826 0 h rfl hM (by rw [zMd_0]; exact hP)
    have B1 := gh_at d4 hB (by omega)
    obtain ⟨a1, ha1⟩ : ∃ y : gm_H, y = (g.1.set m (md_c m (zU K 1 ((7 : Nat) : Int))), g.2) := ⟨_, rfl⟩
    have M1 : a1.1[m]? = some (md_c m (zU K 1 ((7 : Nat) : Int))) := by rw [ha1]; exact gs_s d2
    have P1 : a1.1[m + 4]? = some (gA 944 (zMd P 826)) := by rw [ha1]; exact gs_n d3 (by omega)
    have B2 : a1.1[m + 2]? = some (gA 118 B) := by rw [ha1]; exact gs_n B1 (by omega)
    have f1 : gh_fr g a1 (fun k => k = m ∨ k = m + 4) := by rw [ha1]; exact gh_set gh_rf (Or.inl rfl) _
    obtain ⟨h', e1, e2, e3, e4⟩ := en_2 (P := zMd P 826) (B := B) (x := x) (c := 7) (by decide) zU_s 118 0 a1 rfl M1 B2 (by rw [zLb_0]; exact P1)
    rw [zU_zU] at e2
    refine ⟨h', _, ?_, e2, e3, fun i hi k hk => ?_, gh_tr (gh_mono d4 fun k z => Or.inr z) (gh_tr f1 e4)⟩
    ·
      refine gm_co_of _ (by decide +kernel) rfl (Nat.le_of_ble_eq_true rfl) rfl ?_
      refine gm_go.ru (gm_aload_n dX11_ends_0 rfl (by first | exact Or.inl ⟨_, rfl⟩ | exact Or.inr ⟨_, rfl⟩)) ?_
      refine gm_go.ru (gm_get dX11_ends_1 (fl_X11_53 rfl) hM rfl) ?_
      refine gm_go.ru (gi_if_eq_t (tgt := 20) dX11_ends_4 (by decide) (by rw [hq]; decide) hq) ?_
      refine gm_go.ru (gm_aload_n dX11_ends_20 rfl (by first | exact Or.inl ⟨_, rfl⟩ | exact Or.inr ⟨_, rfl⟩)) ?_
      refine gm_go.ru (gm_get dX11_ends_21 (fl_X11_60 rfl) hM rfl) ?_
      rw [hc]
      refine gm_go.ru (gi_bipush dX11_ends_24 (by decide +kernel)) ?_
      refine gm_go.ru (gi_icmp_ne_f 69 dX11_ends_26 (by decide) (by decide) (by decide) rfl) ?_
      refine gm_go.ru (gi_const dX11_ends_29) ?_
      refine gm_go.ru (gm_istore_n (ls' := [_, _, _]) dX11_ends_30 (by decide) rfl) ?_
      refine gm_go.ru d1 ?_
      refine gm_go.ru (gm_aload_n dX11_ends_59 rfl (by first | exact Or.inl ⟨_, rfl⟩ | exact Or.inr ⟨_, rfl⟩)) ?_
      refine gm_go.ru (gm_dup dX11_ends_60 rfl) ?_
      refine gm_go.ru (gm_get dX11_ends_61 (fl_X11_60 rfl) d2 rfl) ?_
      rw [hc]
      refine gm_go.ru (gi_const dX11_ends_64) ?_
      refine gm_go.ru (gi_sub dX11_ends_65) ?_
      refine gm_go.ru (gm_put dX11_ends_66 (fp_X11_60 rfl) d2 (Nat.le_of_ble_eq_true rfl) (by first | exact ⟨rfl, rfl⟩ | exact trivial)) ?_
      refine gm_hp ha1 ?_
      refine gm_go.ru (gi_const dX11_ends_69) ?_
      refine gm_go.ru (gm_istore_n (ls' := [_, _, _]) dX11_ends_70 (by decide) rfl) ?_
      exact e1
    ·
      unfold zPush zSt8 zLb zMd
      rw [if_neg (show ¬ ((8 : Nat) < 8) by decide)]
      show _ = (if i = 7 then B else fun k1 => P (118 * (i + 1) + k1)) k
      by_cases e : i = 7
      · rw [if_pos e, if_pos (show 118 * 7 ≤ 118 * i + k ∧ 118 * i + k < 118 * 7 + 118 by omega), show 118 * i + k - 118 * 7 = k by omega]
      · rw [if_neg e, if_neg (show ¬ (118 * 7 ≤ 118 * i + k ∧ 118 * i + k < 118 * 7 + 118) by omega), if_pos (show 118 * i + k < 826 by omega), show 118 * i + k + 118 = 118 * (i + 1) + k by omega]
def mk_K (m : Nat) : Nat → Prop := fun k => k = m ∨ k = m + 1 ∨ k = m + 2 ∨ k = m + 4
theorem zCd_0 : ∀ w : Nat, w < 10 → ∀ y : Nat, y < 7 → 0 ≤ zCd w y ∧ zCd w y ≤ 4 := by decide
theorem zAdd7 (v : Nat → Int) (a : Int) : zqAdd v a = 0 ∨ zqAdd v a = 2 ∨ zqAdd v a = 4 := by unfold zqAdd; (repeat' split) <;> omega
theorem zCd_p (v : Nat → Int) {w : Nat} (hw : w < 10) (a b c : Int) (h : zqWhy v w a b c ≠ 0) : ¬ zCd w (zqWhy v w a b c) = 0 := by
  match w, hw with
  | 0, _ => unfold zqWhy zqAdd at *; simp only at *; (repeat' split at h) <;> (try split) <;> (try split) <;> simp_all [zCd]
  | 1, _ => unfold zqWhy zqPut at *; simp only at *; (repeat' split at h) <;> (try split) <;> (try split) <;> (try split) <;> simp_all [zCd]
  | 2, _ => unfold zqWhy zqShift zqMove at *; simp only at *; (repeat' split at h) <;> (try split) <;> (try split) <;> (try split) <;> (try split) <;> simp_all [zCd]
  | 3, _ => unfold zqWhy zqCorrect zqMove at *; simp only at *; (repeat' split at h) <;> (try split) <;> (try split) <;> (try split) <;> simp_all [zCd]
  | 4, _ => unfold zqWhy zqDiscard at *; simp only at *; (repeat' split at h) <;> (try split) <;> (try split) <;> simp_all [zCd]
  | 5, _ => unfold zqWhy at *; simp only at *; split at h <;> (try split) <;> simp_all [zCd]
  | 6, _ => unfold zqWhy zqBatch at *; simp only at *; (repeat' split at h) <;> (try split) <;> (try split) <;> simp_all [zCd]
  | 7, _ => unfold zqWhy at *; simp only at *; split at h <;> (try split) <;> simp_all [zCd]
  | 8, _ => unfold zqWhy at *; simp only at *; split at h <;> (try split) <;> simp_all [zCd]
  | 9, _ => unfold zqWhy at *; simp only at *; split at h <;> (try split) <;> simp_all [zCd]
  | n + 10, h => exact absurd h (by omega)
theorem zPush_c {P : Nat → Nat → Int} {c : Nat} {B F : Nat → Int} (e : ∀ k, k < 118 → B k = F k) : ∀ i k, k < 118 → zPush P c B i k = zPush P c F i k := by
  intro i k hk
  unfold zPush
  split
  · by_cases c1 : i = c
    · rw [c1, zU_s, zU_s]; exact e k hk
    · rw [zU_n c1, zU_n c1]
  · simp only
    split
    · exact e k hk
    · rfl
set_option maxRecDepth 4000 in
theorem ct_m_addNeedle {h : gm_H} {m : Nat} {K F : Nat → Int} (hM : h.1[m]? = some (md_c m K)) (hV : h.1[m + 1]? = some (gA 118 F)) {B P : Nat → Int} (hB : h.1[m + 2]? = some (gA 118 B)) (hP : h.1[m + 4]? = some (gA 944 P)) {T : Nat} {a : Int} (hv : st_iv T F) (ha : zR a) (hq : zqWhy F 0 a 0 0 = 0) {n : Nat} (hn : K 1 = (n : Int)) (hn8 : n ≤ 8) : ∃ h' F' B' P', gm_co mX11_addNeedle 8 [.ref m, .int (zI a)] h (.inl (some (.int (zI (zAn F 0 a 0 0))))) h' ∧ h'.1[m]? = some (md_c m (zU (zU K 0 0) 1 ((min (n + 1) 8 : Nat) : Int))) ∧ h'.1[m + 1]? = some (gA 118 F') ∧ (∀ k, k < 118 → F' k = zDo F 0 a 0 0 k) ∧ h'.1[m + 2]? = some (gA 118 B') ∧ h'.1[m + 4]? = some (gA 944 P') ∧ (∀ i, i < min (n + 1) 8 → ∀ k, k < 118 → zSt8 P' i k = zPush (zSt8 P) n F i k) ∧ gh_fr h h' (mk_K m) := by
  obtain ⟨b0, b1, b2, b3, b4, b5⟩ := ct_mBegins hM hV hB
  obtain ⟨e0, F', e1, e2, e3, e4, e5⟩ := ct_madds (b := 0) (c := 0) b2 b3 hv ha hq
  have B2 := gh_at e5 b4 (by omega)
  have P2 := gh_at e5 (gh_at b5 hP (by omega)) (by omega)
  obtain ⟨g0, P', g1, g2, g3, g4, g5⟩ := ct_mEnds e2 B2 P2 zU_s ((zU_n (by omega)).trans hn) hn8 (x := zAn F 0 a 0 0)
  refine ⟨g0, F', _, P', ?_, g2, gh_at g5 e3 (by omega), e4, gh_at g5 B2 (by omega), g3, fun i hi k hk => (g4 i hi k hk).trans ?_, ?_⟩
  ·
    refine gm_co_of _ (by decide +kernel) rfl (Nat.le_of_ble_eq_true rfl) rfl ?_
    refine gm_go.ru (gm_aload_n dX11_addNeedle_0 rfl (by first | exact Or.inl ⟨_, rfl⟩ | exact Or.inr ⟨_, rfl⟩)) ?_
    refine gm_go.ru (gm_cV0 dX11_addNeedle_1 (b1) rfl mt_X11_begins mv_X11_begins (lk_X11_78 rfl) (Or.inl ⟨_, 12, _, _, _, rfl, hM, rfl⟩) rfl (Nat.le_of_ble_eq_true rfl) (by decide)) ?_
    refine gm_go.ru (gm_aload_n dX11_addNeedle_4 rfl (by first | exact Or.inl ⟨_, rfl⟩ | exact Or.inr ⟨_, rfl⟩)) ?_
    refine gm_go.ru (gm_aload_n dX11_addNeedle_5 rfl (by first | exact Or.inl ⟨_, rfl⟩ | exact Or.inr ⟨_, rfl⟩)) ?_
    refine gm_go.ru (gm_iload_n dX11_addNeedle_6 rfl) ?_
    refine gm_go.ru (gm_cV dX11_addNeedle_7 (e1) rfl mt_X11_adds mv_X11_adds (lk_X11_81 rfl) (Or.inl ⟨_, 12, _, _, _, rfl, b2, rfl⟩) rfl (Nat.le_of_ble_eq_true rfl) (by decide)) ?_
    refine gm_go.ru (gm_cV dX11_addNeedle_10 (g1) rfl mt_X11_ends mv_X11_ends (lk_X11_84 rfl) (Or.inl ⟨_, 12, _, _, _, rfl, e2, rfl⟩) rfl (Nat.le_of_ble_eq_true rfl) (by decide)) ?_
    exact gm_iret dX11_addNeedle_13 rfl
  · exact zPush_c (fun k hk => zLy_in F B hk) i k hk
  · exact gh_tr (gh_mono b5 fun k z => by unfold mk_K; omega) (gh_tr (gh_mono e5 fun k z => by unfold mk_K; omega) (gh_mono g5 fun k z => by unfold mk_K; omega))
set_option maxRecDepth 4000 in
theorem ct_m_addNeedleX {h : gm_H} {m : Nat} {K F : Nat → Int} (hM : h.1[m]? = some (md_c m K)) (hV : h.1[m + 1]? = some (gA 118 F)) {B P : Nat → Int} (hB : h.1[m + 2]? = some (gA 118 B)) (hP : h.1[m + 4]? = some (gA 944 P)) {T : Nat} {a : Int} (hv : st_iv T F) (ha : zR a) (hq : zqWhy F 0 a 0 0 ≠ 0) : ∃ h' F' B', gm_co mX11_addNeedle 8 [.ref m, .int (zI a)] h (.inl (some (.int (zI 0)))) h' ∧ h'.1[m]? = some (md_c m (zU K 0 (zCd 0 (zqWhy F 0 a 0 0)))) ∧ h'.1[m + 1]? = some (gA 118 F') ∧ (∀ k, k < 118 → F' k = F k) ∧ h'.1[m + 2]? = some (gA 118 B') ∧ h'.1[m + 4]? = some (gA 944 P) ∧ gh_fr h h' (mk_K m) := by
  obtain ⟨b0, b1, b2, b3, b4, b5⟩ := ct_mBegins hM hV hB
  obtain ⟨e0, F', e1, e2, e3, e5⟩ := ct_maddsX (b := 0) (c := 0) b2 b3 hv ha hq
  have B2 := gh_at e5 b4 (by omega)
  have P2 := gh_at e5 (gh_at b5 hP (by omega)) (by omega)
  rw [zU_zU] at e2
  have z7 := zCd_0 0 (by decide) (zqWhy F 0 a 0 0) (zqWhy_7 F 0 a 0 0)
  have zp := zCd_p F (w := 0) (by decide) a 0 0 hq
  obtain ⟨g0, g1, g3, g5⟩ := ct_mEndsX e2 e3 B2 (by rw [zU_s]; omega) (by rw [zU_s]; exact zp) (x := 0)
  refine ⟨g0, _, _, ?_, gh_at g5 e2 (by omega), g3, fun k hk => (zLy_in _ F' hk).trans (zLy_in F B hk), gh_at g5 B2 (by omega), gh_at g5 P2 (by omega), ?_⟩
  ·
    refine gm_co_of _ (by decide +kernel) rfl (Nat.le_of_ble_eq_true rfl) rfl ?_
    refine gm_go.ru (gm_aload_n dX11_addNeedle_0 rfl (by first | exact Or.inl ⟨_, rfl⟩ | exact Or.inr ⟨_, rfl⟩)) ?_
    refine gm_go.ru (gm_cV0 dX11_addNeedle_1 (b1) rfl mt_X11_begins mv_X11_begins (lk_X11_78 rfl) (Or.inl ⟨_, 12, _, _, _, rfl, hM, rfl⟩) rfl (Nat.le_of_ble_eq_true rfl) (by decide)) ?_
    refine gm_go.ru (gm_aload_n dX11_addNeedle_4 rfl (by first | exact Or.inl ⟨_, rfl⟩ | exact Or.inr ⟨_, rfl⟩)) ?_
    refine gm_go.ru (gm_aload_n dX11_addNeedle_5 rfl (by first | exact Or.inl ⟨_, rfl⟩ | exact Or.inr ⟨_, rfl⟩)) ?_
    refine gm_go.ru (gm_iload_n dX11_addNeedle_6 rfl) ?_
    refine gm_go.ru (gm_cV dX11_addNeedle_7 (e1) rfl mt_X11_adds mv_X11_adds (lk_X11_81 rfl) (Or.inl ⟨_, 12, _, _, _, rfl, b2, rfl⟩) rfl (Nat.le_of_ble_eq_true rfl) (by decide)) ?_
    refine gm_go.ru (gm_cV dX11_addNeedle_10 (g1) rfl mt_X11_ends mv_X11_ends (lk_X11_84 rfl) (Or.inl ⟨_, 12, _, _, _, rfl, e2, rfl⟩) rfl (Nat.le_of_ble_eq_true rfl) (by decide)) ?_
    exact gm_iret dX11_addNeedle_13 rfl
  · exact gh_tr (gh_mono b5 fun k z => by unfold mk_K; omega) (gh_tr (gh_mono e5 fun k z => by unfold mk_K; omega) (gh_mono g5 fun k z => by unfold mk_K; omega))
set_option maxRecDepth 4000 in
theorem ct_m_setDeviation {h : gm_H} {m : Nat} {K F : Nat → Int} (hM : h.1[m]? = some (md_c m K)) (hV : h.1[m + 1]? = some (gA 118 F)) {B P : Nat → Int} (hB : h.1[m + 2]? = some (gA 118 B)) (hP : h.1[m + 4]? = some (gA 944 P)) {T : Nat} {a b c : Int} (hv : st_iv T F) (ha : zR a) (hb : zR b) (hc : zR c) (hq : zqWhy F 1 a b c = 0) {n : Nat} (hn : K 1 = (n : Int)) (hn8 : n ≤ 8) : ∃ h' F' B' P', gm_co mX11_setDeviation 8 [.ref m, .int (zI a), .int (zI b), .int (zI c)] h (.inl (some (.int (zI (zAn F 1 a b c))))) h' ∧ h'.1[m]? = some (md_c m (zU (zU K 0 0) 1 ((min (n + 1) 8 : Nat) : Int))) ∧ h'.1[m + 1]? = some (gA 118 F') ∧ (∀ k, k < 118 → F' k = zDo F 1 a b c k) ∧ h'.1[m + 2]? = some (gA 118 B') ∧ h'.1[m + 4]? = some (gA 944 P') ∧ (∀ i, i < min (n + 1) 8 → ∀ k, k < 118 → zSt8 P' i k = zPush (zSt8 P) n F i k) ∧ gh_fr h h' (mk_K m) := by
  obtain ⟨b0, b1, b2, b3, b4, b5⟩ := ct_mBegins hM hV hB
  obtain ⟨e0, F', e1, e2, e3, e4, e5⟩ := ct_msets b2 b3 hv ha hb hc hq
  have B2 := gh_at e5 b4 (by omega)
  have P2 := gh_at e5 (gh_at b5 hP (by omega)) (by omega)
  obtain ⟨g0, P', g1, g2, g3, g4, g5⟩ := ct_mEnds e2 B2 P2 zU_s ((zU_n (by omega)).trans hn) hn8 (x := zAn F 1 a b c)
  refine ⟨g0, F', _, P', ?_, g2, gh_at g5 e3 (by omega), e4, gh_at g5 B2 (by omega), g3, fun i hi k hk => (g4 i hi k hk).trans ?_, ?_⟩
  ·
    refine gm_co_of _ (by decide +kernel) rfl (Nat.le_of_ble_eq_true rfl) rfl ?_
    refine gm_go.ru (gm_aload_n dX11_setDeviation_0 rfl (by first | exact Or.inl ⟨_, rfl⟩ | exact Or.inr ⟨_, rfl⟩)) ?_
    refine gm_go.ru (gm_cV0 dX11_setDeviation_1 (b1) rfl mt_X11_begins mv_X11_begins (lk_X11_78 rfl) (Or.inl ⟨_, 12, _, _, _, rfl, hM, rfl⟩) rfl (Nat.le_of_ble_eq_true rfl) (by decide)) ?_
    refine gm_go.ru (gm_aload_n dX11_setDeviation_4 rfl (by first | exact Or.inl ⟨_, rfl⟩ | exact Or.inr ⟨_, rfl⟩)) ?_
    refine gm_go.ru (gm_aload_n dX11_setDeviation_5 rfl (by first | exact Or.inl ⟨_, rfl⟩ | exact Or.inr ⟨_, rfl⟩)) ?_
    refine gm_go.ru (gm_iload_n dX11_setDeviation_6 rfl) ?_
    refine gm_go.ru (gm_iload_n dX11_setDeviation_7 rfl) ?_
    refine gm_go.ru (gm_iload_n dX11_setDeviation_8 rfl) ?_
    refine gm_go.ru (gm_cV dX11_setDeviation_9 (e1) rfl mt_X11_sets mv_X11_sets (lk_X11_94 rfl) (Or.inl ⟨_, 12, _, _, _, rfl, b2, rfl⟩) rfl (Nat.le_of_ble_eq_true rfl) (by decide)) ?_
    refine gm_go.ru (gm_cV dX11_setDeviation_12 (g1) rfl mt_X11_ends mv_X11_ends (lk_X11_84 rfl) (Or.inl ⟨_, 12, _, _, _, rfl, e2, rfl⟩) rfl (Nat.le_of_ble_eq_true rfl) (by decide)) ?_
    exact gm_iret dX11_setDeviation_15 rfl
  · exact zPush_c (fun k hk => zLy_in F B hk) i k hk
  · exact gh_tr (gh_mono b5 fun k z => by unfold mk_K; omega) (gh_tr (gh_mono e5 fun k z => by unfold mk_K; omega) (gh_mono g5 fun k z => by unfold mk_K; omega))
set_option maxRecDepth 4000 in
theorem ct_m_setDeviationX {h : gm_H} {m : Nat} {K F : Nat → Int} (hM : h.1[m]? = some (md_c m K)) (hV : h.1[m + 1]? = some (gA 118 F)) {B P : Nat → Int} (hB : h.1[m + 2]? = some (gA 118 B)) (hP : h.1[m + 4]? = some (gA 944 P)) {T : Nat} {a b c : Int} (hv : st_iv T F) (ha : zR a) (hb : zR b) (hc : zR c) (hq : zqWhy F 1 a b c ≠ 0) : ∃ h' F' B', gm_co mX11_setDeviation 8 [.ref m, .int (zI a), .int (zI b), .int (zI c)] h (.inl (some (.int (zI 0)))) h' ∧ h'.1[m]? = some (md_c m (zU K 0 (zCd 1 (zqWhy F 1 a b c)))) ∧ h'.1[m + 1]? = some (gA 118 F') ∧ (∀ k, k < 118 → F' k = F k) ∧ h'.1[m + 2]? = some (gA 118 B') ∧ h'.1[m + 4]? = some (gA 944 P) ∧ gh_fr h h' (mk_K m) := by
  obtain ⟨b0, b1, b2, b3, b4, b5⟩ := ct_mBegins hM hV hB
  obtain ⟨e0, F', e1, e2, e3, e5⟩ := ct_msetsX b2 b3 hv ha hb hc hq
  have B2 := gh_at e5 b4 (by omega)
  have P2 := gh_at e5 (gh_at b5 hP (by omega)) (by omega)
  rw [zU_zU] at e2
  have z7 := zCd_0 1 (by decide) (zqWhy F 1 a b c) (zqWhy_7 F 1 a b c)
  have zp := zCd_p F (w := 1) (by decide) a b c hq
  obtain ⟨g0, g1, g3, g5⟩ := ct_mEndsX e2 e3 B2 (by rw [zU_s]; omega) (by rw [zU_s]; exact zp) (x := 0)
  refine ⟨g0, _, _, ?_, gh_at g5 e2 (by omega), g3, fun k hk => (zLy_in _ F' hk).trans (zLy_in F B hk), gh_at g5 B2 (by omega), gh_at g5 P2 (by omega), ?_⟩
  ·
    refine gm_co_of _ (by decide +kernel) rfl (Nat.le_of_ble_eq_true rfl) rfl ?_
    refine gm_go.ru (gm_aload_n dX11_setDeviation_0 rfl (by first | exact Or.inl ⟨_, rfl⟩ | exact Or.inr ⟨_, rfl⟩)) ?_
    refine gm_go.ru (gm_cV0 dX11_setDeviation_1 (b1) rfl mt_X11_begins mv_X11_begins (lk_X11_78 rfl) (Or.inl ⟨_, 12, _, _, _, rfl, hM, rfl⟩) rfl (Nat.le_of_ble_eq_true rfl) (by decide)) ?_
    refine gm_go.ru (gm_aload_n dX11_setDeviation_4 rfl (by first | exact Or.inl ⟨_, rfl⟩ | exact Or.inr ⟨_, rfl⟩)) ?_
    refine gm_go.ru (gm_aload_n dX11_setDeviation_5 rfl (by first | exact Or.inl ⟨_, rfl⟩ | exact Or.inr ⟨_, rfl⟩)) ?_
    refine gm_go.ru (gm_iload_n dX11_setDeviation_6 rfl) ?_
    refine gm_go.ru (gm_iload_n dX11_setDeviation_7 rfl) ?_
    refine gm_go.ru (gm_iload_n dX11_setDeviation_8 rfl) ?_
    refine gm_go.ru (gm_cV dX11_setDeviation_9 (e1) rfl mt_X11_sets mv_X11_sets (lk_X11_94 rfl) (Or.inl ⟨_, 12, _, _, _, rfl, b2, rfl⟩) rfl (Nat.le_of_ble_eq_true rfl) (by decide)) ?_
    refine gm_go.ru (gm_cV dX11_setDeviation_12 (g1) rfl mt_X11_ends mv_X11_ends (lk_X11_84 rfl) (Or.inl ⟨_, 12, _, _, _, rfl, e2, rfl⟩) rfl (Nat.le_of_ble_eq_true rfl) (by decide)) ?_
    exact gm_iret dX11_setDeviation_15 rfl
  · exact gh_tr (gh_mono b5 fun k z => by unfold mk_K; omega) (gh_tr (gh_mono e5 fun k z => by unfold mk_K; omega) (gh_mono g5 fun k z => by unfold mk_K; omega))
set_option maxRecDepth 4000 in
theorem ct_m_shift {h : gm_H} {m : Nat} {K F : Nat → Int} (hM : h.1[m]? = some (md_c m K)) (hV : h.1[m + 1]? = some (gA 118 F)) {B P : Nat → Int} (hB : h.1[m + 2]? = some (gA 118 B)) (hP : h.1[m + 4]? = some (gA 944 P)) {T : Nat} {a b : Int} (hv : st_iv T F) (ha : zR a) (hb : zR b) (hq : zqWhy F 2 a b 0 = 0) {n : Nat} (hn : K 1 = (n : Int)) (hn8 : n ≤ 8) : ∃ h' F' B' P', gm_co mX11_shift 8 [.ref m, .int (zI a), .int (zI b)] h (.inl (some (.int (zI (zAn F 2 a b 0))))) h' ∧ h'.1[m]? = some (md_c m (zU (zU K 0 0) 1 ((min (n + 1) 8 : Nat) : Int))) ∧ h'.1[m + 1]? = some (gA 118 F') ∧ (∀ k, k < 118 → F' k = zDo F 2 a b 0 k) ∧ h'.1[m + 2]? = some (gA 118 B') ∧ h'.1[m + 4]? = some (gA 944 P') ∧ (∀ i, i < min (n + 1) 8 → ∀ k, k < 118 → zSt8 P' i k = zPush (zSt8 P) n F i k) ∧ gh_fr h h' (mk_K m) := by
  obtain ⟨b0, b1, b2, b3, b4, b5⟩ := ct_mBegins hM hV hB
  obtain ⟨e0, F', e1, e2, e3, e4, e5⟩ := ct_mshifts (c := 0) b2 b3 hv ha hb hq
  have B2 := gh_at e5 b4 (by omega)
  have P2 := gh_at e5 (gh_at b5 hP (by omega)) (by omega)
  obtain ⟨g0, P', g1, g2, g3, g4, g5⟩ := ct_mEnds e2 B2 P2 zU_s ((zU_n (by omega)).trans hn) hn8 (x := zAn F 2 a b 0)
  refine ⟨g0, F', _, P', ?_, g2, gh_at g5 e3 (by omega), e4, gh_at g5 B2 (by omega), g3, fun i hi k hk => (g4 i hi k hk).trans ?_, ?_⟩
  ·
    refine gm_co_of _ (by decide +kernel) rfl (Nat.le_of_ble_eq_true rfl) rfl ?_
    refine gm_go.ru (gm_aload_n dX11_shift_0 rfl (by first | exact Or.inl ⟨_, rfl⟩ | exact Or.inr ⟨_, rfl⟩)) ?_
    refine gm_go.ru (gm_cV0 dX11_shift_1 (b1) rfl mt_X11_begins mv_X11_begins (lk_X11_78 rfl) (Or.inl ⟨_, 12, _, _, _, rfl, hM, rfl⟩) rfl (Nat.le_of_ble_eq_true rfl) (by decide)) ?_
    refine gm_go.ru (gm_aload_n dX11_shift_4 rfl (by first | exact Or.inl ⟨_, rfl⟩ | exact Or.inr ⟨_, rfl⟩)) ?_
    refine gm_go.ru (gm_aload_n dX11_shift_5 rfl (by first | exact Or.inl ⟨_, rfl⟩ | exact Or.inr ⟨_, rfl⟩)) ?_
    refine gm_go.ru (gm_iload_n dX11_shift_6 rfl) ?_
    refine gm_go.ru (gm_iload_n dX11_shift_7 rfl) ?_
    refine gm_go.ru (gm_cV dX11_shift_8 (e1) rfl mt_X11_shifts mv_X11_shifts (lk_X11_105 rfl) (Or.inl ⟨_, 12, _, _, _, rfl, b2, rfl⟩) rfl (Nat.le_of_ble_eq_true rfl) (by decide)) ?_
    refine gm_go.ru (gm_cV dX11_shift_11 (g1) rfl mt_X11_ends mv_X11_ends (lk_X11_84 rfl) (Or.inl ⟨_, 12, _, _, _, rfl, e2, rfl⟩) rfl (Nat.le_of_ble_eq_true rfl) (by decide)) ?_
    exact gm_iret dX11_shift_14 rfl
  · exact zPush_c (fun k hk => zLy_in F B hk) i k hk
  · exact gh_tr (gh_mono b5 fun k z => by unfold mk_K; omega) (gh_tr (gh_mono e5 fun k z => by unfold mk_K; omega) (gh_mono g5 fun k z => by unfold mk_K; omega))
set_option maxRecDepth 4000 in
theorem ct_m_shiftX {h : gm_H} {m : Nat} {K F : Nat → Int} (hM : h.1[m]? = some (md_c m K)) (hV : h.1[m + 1]? = some (gA 118 F)) {B P : Nat → Int} (hB : h.1[m + 2]? = some (gA 118 B)) (hP : h.1[m + 4]? = some (gA 944 P)) {T : Nat} {a b : Int} (hv : st_iv T F) (ha : zR a) (hb : zR b) (hq : zqWhy F 2 a b 0 ≠ 0) : ∃ h' F' B', gm_co mX11_shift 8 [.ref m, .int (zI a), .int (zI b)] h (.inl (some (.int (zI 0)))) h' ∧ h'.1[m]? = some (md_c m (zU K 0 (zCd 2 (zqWhy F 2 a b 0)))) ∧ h'.1[m + 1]? = some (gA 118 F') ∧ (∀ k, k < 118 → F' k = F k) ∧ h'.1[m + 2]? = some (gA 118 B') ∧ h'.1[m + 4]? = some (gA 944 P) ∧ gh_fr h h' (mk_K m) := by
  obtain ⟨b0, b1, b2, b3, b4, b5⟩ := ct_mBegins hM hV hB
  obtain ⟨e0, F', e1, e2, e3, e5⟩ := ct_mshiftsX (c := 0) b2 b3 hv ha hb hq
  have B2 := gh_at e5 b4 (by omega)
  have P2 := gh_at e5 (gh_at b5 hP (by omega)) (by omega)
  rw [zU_zU] at e2
  have z7 := zCd_0 2 (by decide) (zqWhy F 2 a b 0) (zqWhy_7 F 2 a b 0)
  have zp := zCd_p F (w := 2) (by decide) a b 0 hq
  obtain ⟨g0, g1, g3, g5⟩ := ct_mEndsX e2 e3 B2 (by rw [zU_s]; omega) (by rw [zU_s]; exact zp) (x := 0)
  refine ⟨g0, _, _, ?_, gh_at g5 e2 (by omega), g3, fun k hk => (zLy_in _ F' hk).trans (zLy_in F B hk), gh_at g5 B2 (by omega), gh_at g5 P2 (by omega), ?_⟩
  ·
    refine gm_co_of _ (by decide +kernel) rfl (Nat.le_of_ble_eq_true rfl) rfl ?_
    refine gm_go.ru (gm_aload_n dX11_shift_0 rfl (by first | exact Or.inl ⟨_, rfl⟩ | exact Or.inr ⟨_, rfl⟩)) ?_
    refine gm_go.ru (gm_cV0 dX11_shift_1 (b1) rfl mt_X11_begins mv_X11_begins (lk_X11_78 rfl) (Or.inl ⟨_, 12, _, _, _, rfl, hM, rfl⟩) rfl (Nat.le_of_ble_eq_true rfl) (by decide)) ?_
    refine gm_go.ru (gm_aload_n dX11_shift_4 rfl (by first | exact Or.inl ⟨_, rfl⟩ | exact Or.inr ⟨_, rfl⟩)) ?_
    refine gm_go.ru (gm_aload_n dX11_shift_5 rfl (by first | exact Or.inl ⟨_, rfl⟩ | exact Or.inr ⟨_, rfl⟩)) ?_
    refine gm_go.ru (gm_iload_n dX11_shift_6 rfl) ?_
    refine gm_go.ru (gm_iload_n dX11_shift_7 rfl) ?_
    refine gm_go.ru (gm_cV dX11_shift_8 (e1) rfl mt_X11_shifts mv_X11_shifts (lk_X11_105 rfl) (Or.inl ⟨_, 12, _, _, _, rfl, b2, rfl⟩) rfl (Nat.le_of_ble_eq_true rfl) (by decide)) ?_
    refine gm_go.ru (gm_cV dX11_shift_11 (g1) rfl mt_X11_ends mv_X11_ends (lk_X11_84 rfl) (Or.inl ⟨_, 12, _, _, _, rfl, e2, rfl⟩) rfl (Nat.le_of_ble_eq_true rfl) (by decide)) ?_
    exact gm_iret dX11_shift_14 rfl
  · exact gh_tr (gh_mono b5 fun k z => by unfold mk_K; omega) (gh_tr (gh_mono e5 fun k z => by unfold mk_K; omega) (gh_mono g5 fun k z => by unfold mk_K; omega))
set_option maxRecDepth 4000 in
theorem ct_m_correct {h : gm_H} {m : Nat} {K F : Nat → Int} (hM : h.1[m]? = some (md_c m K)) (hV : h.1[m + 1]? = some (gA 118 F)) {B P : Nat → Int} (hB : h.1[m + 2]? = some (gA 118 B)) (hP : h.1[m + 4]? = some (gA 944 P)) {T : Nat} {a : Int} (hv : st_iv T F) (ha : zR a) (hq : zqWhy F 3 a 0 0 = 0) {n : Nat} (hn : K 1 = (n : Int)) (hn8 : n ≤ 8) : ∃ h' F' B' P', gm_co mX11_correct 8 [.ref m, .int (zI a)] h (.inl (some (.int (zI (zAn F 3 a 0 0))))) h' ∧ h'.1[m]? = some (md_c m (zU (zU K 0 0) 1 ((min (n + 1) 8 : Nat) : Int))) ∧ h'.1[m + 1]? = some (gA 118 F') ∧ (∀ k, k < 118 → F' k = zDo F 3 a 0 0 k) ∧ h'.1[m + 2]? = some (gA 118 B') ∧ h'.1[m + 4]? = some (gA 944 P') ∧ (∀ i, i < min (n + 1) 8 → ∀ k, k < 118 → zSt8 P' i k = zPush (zSt8 P) n F i k) ∧ gh_fr h h' (mk_K m) := by
  obtain ⟨b0, b1, b2, b3, b4, b5⟩ := ct_mBegins hM hV hB
  obtain ⟨e0, F', e1, e2, e3, e4, e5⟩ := ct_mcorrects (b := 0) (c := 0) b2 b3 hv ha hq
  have B2 := gh_at e5 b4 (by omega)
  have P2 := gh_at e5 (gh_at b5 hP (by omega)) (by omega)
  obtain ⟨g0, P', g1, g2, g3, g4, g5⟩ := ct_mEnds e2 B2 P2 zU_s ((zU_n (by omega)).trans hn) hn8 (x := zAn F 3 a 0 0)
  refine ⟨g0, F', _, P', ?_, g2, gh_at g5 e3 (by omega), e4, gh_at g5 B2 (by omega), g3, fun i hi k hk => (g4 i hi k hk).trans ?_, ?_⟩
  ·
    refine gm_co_of _ (by decide +kernel) rfl (Nat.le_of_ble_eq_true rfl) rfl ?_
    refine gm_go.ru (gm_aload_n dX11_correct_0 rfl (by first | exact Or.inl ⟨_, rfl⟩ | exact Or.inr ⟨_, rfl⟩)) ?_
    refine gm_go.ru (gm_cV0 dX11_correct_1 (b1) rfl mt_X11_begins mv_X11_begins (lk_X11_78 rfl) (Or.inl ⟨_, 12, _, _, _, rfl, hM, rfl⟩) rfl (Nat.le_of_ble_eq_true rfl) (by decide)) ?_
    refine gm_go.ru (gm_aload_n dX11_correct_4 rfl (by first | exact Or.inl ⟨_, rfl⟩ | exact Or.inr ⟨_, rfl⟩)) ?_
    refine gm_go.ru (gm_aload_n dX11_correct_5 rfl (by first | exact Or.inl ⟨_, rfl⟩ | exact Or.inr ⟨_, rfl⟩)) ?_
    refine gm_go.ru (gm_iload_n dX11_correct_6 rfl) ?_
    refine gm_go.ru (gm_cV dX11_correct_7 (e1) rfl mt_X11_corrects mv_X11_corrects (lk_X11_111 rfl) (Or.inl ⟨_, 12, _, _, _, rfl, b2, rfl⟩) rfl (Nat.le_of_ble_eq_true rfl) (by decide)) ?_
    refine gm_go.ru (gm_cV dX11_correct_10 (g1) rfl mt_X11_ends mv_X11_ends (lk_X11_84 rfl) (Or.inl ⟨_, 12, _, _, _, rfl, e2, rfl⟩) rfl (Nat.le_of_ble_eq_true rfl) (by decide)) ?_
    exact gm_iret dX11_correct_13 rfl
  · exact zPush_c (fun k hk => zLy_in F B hk) i k hk
  · exact gh_tr (gh_mono b5 fun k z => by unfold mk_K; omega) (gh_tr (gh_mono e5 fun k z => by unfold mk_K; omega) (gh_mono g5 fun k z => by unfold mk_K; omega))
set_option maxRecDepth 4000 in
theorem ct_m_correctX {h : gm_H} {m : Nat} {K F : Nat → Int} (hM : h.1[m]? = some (md_c m K)) (hV : h.1[m + 1]? = some (gA 118 F)) {B P : Nat → Int} (hB : h.1[m + 2]? = some (gA 118 B)) (hP : h.1[m + 4]? = some (gA 944 P)) {T : Nat} {a : Int} (hv : st_iv T F) (ha : zR a) (hq : zqWhy F 3 a 0 0 ≠ 0) : ∃ h' F' B', gm_co mX11_correct 8 [.ref m, .int (zI a)] h (.inl (some (.int (zI 0)))) h' ∧ h'.1[m]? = some (md_c m (zU K 0 (zCd 3 (zqWhy F 3 a 0 0)))) ∧ h'.1[m + 1]? = some (gA 118 F') ∧ (∀ k, k < 118 → F' k = F k) ∧ h'.1[m + 2]? = some (gA 118 B') ∧ h'.1[m + 4]? = some (gA 944 P) ∧ gh_fr h h' (mk_K m) := by
  obtain ⟨b0, b1, b2, b3, b4, b5⟩ := ct_mBegins hM hV hB
  obtain ⟨e0, F', e1, e2, e3, e5⟩ := ct_mcorrectsX (b := 0) (c := 0) b2 b3 hv ha hq
  have B2 := gh_at e5 b4 (by omega)
  have P2 := gh_at e5 (gh_at b5 hP (by omega)) (by omega)
  rw [zU_zU] at e2
  have z7 := zCd_0 3 (by decide) (zqWhy F 3 a 0 0) (zqWhy_7 F 3 a 0 0)
  have zp := zCd_p F (w := 3) (by decide) a 0 0 hq
  obtain ⟨g0, g1, g3, g5⟩ := ct_mEndsX e2 e3 B2 (by rw [zU_s]; omega) (by rw [zU_s]; exact zp) (x := 0)
  refine ⟨g0, _, _, ?_, gh_at g5 e2 (by omega), g3, fun k hk => (zLy_in _ F' hk).trans (zLy_in F B hk), gh_at g5 B2 (by omega), gh_at g5 P2 (by omega), ?_⟩
  ·
    refine gm_co_of _ (by decide +kernel) rfl (Nat.le_of_ble_eq_true rfl) rfl ?_
    refine gm_go.ru (gm_aload_n dX11_correct_0 rfl (by first | exact Or.inl ⟨_, rfl⟩ | exact Or.inr ⟨_, rfl⟩)) ?_
    refine gm_go.ru (gm_cV0 dX11_correct_1 (b1) rfl mt_X11_begins mv_X11_begins (lk_X11_78 rfl) (Or.inl ⟨_, 12, _, _, _, rfl, hM, rfl⟩) rfl (Nat.le_of_ble_eq_true rfl) (by decide)) ?_
    refine gm_go.ru (gm_aload_n dX11_correct_4 rfl (by first | exact Or.inl ⟨_, rfl⟩ | exact Or.inr ⟨_, rfl⟩)) ?_
    refine gm_go.ru (gm_aload_n dX11_correct_5 rfl (by first | exact Or.inl ⟨_, rfl⟩ | exact Or.inr ⟨_, rfl⟩)) ?_
    refine gm_go.ru (gm_iload_n dX11_correct_6 rfl) ?_
    refine gm_go.ru (gm_cV dX11_correct_7 (e1) rfl mt_X11_corrects mv_X11_corrects (lk_X11_111 rfl) (Or.inl ⟨_, 12, _, _, _, rfl, b2, rfl⟩) rfl (Nat.le_of_ble_eq_true rfl) (by decide)) ?_
    refine gm_go.ru (gm_cV dX11_correct_10 (g1) rfl mt_X11_ends mv_X11_ends (lk_X11_84 rfl) (Or.inl ⟨_, 12, _, _, _, rfl, e2, rfl⟩) rfl (Nat.le_of_ble_eq_true rfl) (by decide)) ?_
    exact gm_iret dX11_correct_13 rfl
  · exact gh_tr (gh_mono b5 fun k z => by unfold mk_K; omega) (gh_tr (gh_mono e5 fun k z => by unfold mk_K; omega) (gh_mono g5 fun k z => by unfold mk_K; omega))
set_option maxRecDepth 4000 in
theorem ct_m_discard {h : gm_H} {m : Nat} {K F : Nat → Int} (hM : h.1[m]? = some (md_c m K)) (hV : h.1[m + 1]? = some (gA 118 F)) {B P : Nat → Int} (hB : h.1[m + 2]? = some (gA 118 B)) (hP : h.1[m + 4]? = some (gA 944 P)) {T : Nat} {a : Int} (hv : st_iv T F) (ha : zR a) (hq : zqWhy F 4 a 0 0 = 0) {n : Nat} (hn : K 1 = (n : Int)) (hn8 : n ≤ 8) : ∃ h' F' B' P', gm_co mX11_discard 8 [.ref m, .int (zI a)] h (.inl (some (.int (zI (zAn F 4 a 0 0))))) h' ∧ h'.1[m]? = some (md_c m (zU (zU K 0 0) 1 ((min (n + 1) 8 : Nat) : Int))) ∧ h'.1[m + 1]? = some (gA 118 F') ∧ (∀ k, k < 118 → F' k = zDo F 4 a 0 0 k) ∧ h'.1[m + 2]? = some (gA 118 B') ∧ h'.1[m + 4]? = some (gA 944 P') ∧ (∀ i, i < min (n + 1) 8 → ∀ k, k < 118 → zSt8 P' i k = zPush (zSt8 P) n F i k) ∧ gh_fr h h' (mk_K m) := by
  obtain ⟨b0, b1, b2, b3, b4, b5⟩ := ct_mBegins hM hV hB
  obtain ⟨e0, F', e1, e2, e3, e4, e5⟩ := ct_mdrops (b := 0) (c := 0) b2 b3 hv ha hq
  have B2 := gh_at e5 b4 (by omega)
  have P2 := gh_at e5 (gh_at b5 hP (by omega)) (by omega)
  obtain ⟨g0, P', g1, g2, g3, g4, g5⟩ := ct_mEnds e2 B2 P2 zU_s ((zU_n (by omega)).trans hn) hn8 (x := zAn F 4 a 0 0)
  refine ⟨g0, F', _, P', ?_, g2, gh_at g5 e3 (by omega), e4, gh_at g5 B2 (by omega), g3, fun i hi k hk => (g4 i hi k hk).trans ?_, ?_⟩
  ·
    refine gm_co_of _ (by decide +kernel) rfl (Nat.le_of_ble_eq_true rfl) rfl ?_
    refine gm_go.ru (gm_aload_n dX11_discard_0 rfl (by first | exact Or.inl ⟨_, rfl⟩ | exact Or.inr ⟨_, rfl⟩)) ?_
    refine gm_go.ru (gm_cV0 dX11_discard_1 (b1) rfl mt_X11_begins mv_X11_begins (lk_X11_78 rfl) (Or.inl ⟨_, 12, _, _, _, rfl, hM, rfl⟩) rfl (Nat.le_of_ble_eq_true rfl) (by decide)) ?_
    refine gm_go.ru (gm_aload_n dX11_discard_4 rfl (by first | exact Or.inl ⟨_, rfl⟩ | exact Or.inr ⟨_, rfl⟩)) ?_
    refine gm_go.ru (gm_aload_n dX11_discard_5 rfl (by first | exact Or.inl ⟨_, rfl⟩ | exact Or.inr ⟨_, rfl⟩)) ?_
    refine gm_go.ru (gm_iload_n dX11_discard_6 rfl) ?_
    refine gm_go.ru (gm_cV dX11_discard_7 (e1) rfl mt_X11_drops mv_X11_drops (lk_X11_114 rfl) (Or.inl ⟨_, 12, _, _, _, rfl, b2, rfl⟩) rfl (Nat.le_of_ble_eq_true rfl) (by decide)) ?_
    refine gm_go.ru (gm_cV dX11_discard_10 (g1) rfl mt_X11_ends mv_X11_ends (lk_X11_84 rfl) (Or.inl ⟨_, 12, _, _, _, rfl, e2, rfl⟩) rfl (Nat.le_of_ble_eq_true rfl) (by decide)) ?_
    exact gm_iret dX11_discard_13 rfl
  · exact zPush_c (fun k hk => zLy_in F B hk) i k hk
  · exact gh_tr (gh_mono b5 fun k z => by unfold mk_K; omega) (gh_tr (gh_mono e5 fun k z => by unfold mk_K; omega) (gh_mono g5 fun k z => by unfold mk_K; omega))
set_option maxRecDepth 4000 in
theorem ct_m_discardX {h : gm_H} {m : Nat} {K F : Nat → Int} (hM : h.1[m]? = some (md_c m K)) (hV : h.1[m + 1]? = some (gA 118 F)) {B P : Nat → Int} (hB : h.1[m + 2]? = some (gA 118 B)) (hP : h.1[m + 4]? = some (gA 944 P)) {T : Nat} {a : Int} (hv : st_iv T F) (ha : zR a) (hq : zqWhy F 4 a 0 0 ≠ 0) : ∃ h' F' B', gm_co mX11_discard 8 [.ref m, .int (zI a)] h (.inl (some (.int (zI 0)))) h' ∧ h'.1[m]? = some (md_c m (zU K 0 (zCd 4 (zqWhy F 4 a 0 0)))) ∧ h'.1[m + 1]? = some (gA 118 F') ∧ (∀ k, k < 118 → F' k = F k) ∧ h'.1[m + 2]? = some (gA 118 B') ∧ h'.1[m + 4]? = some (gA 944 P) ∧ gh_fr h h' (mk_K m) := by
  obtain ⟨b0, b1, b2, b3, b4, b5⟩ := ct_mBegins hM hV hB
  obtain ⟨e0, F', e1, e2, e3, e5⟩ := ct_mdropsX (b := 0) (c := 0) b2 b3 hv ha hq
  have B2 := gh_at e5 b4 (by omega)
  have P2 := gh_at e5 (gh_at b5 hP (by omega)) (by omega)
  rw [zU_zU] at e2
  have z7 := zCd_0 4 (by decide) (zqWhy F 4 a 0 0) (zqWhy_7 F 4 a 0 0)
  have zp := zCd_p F (w := 4) (by decide) a 0 0 hq
  obtain ⟨g0, g1, g3, g5⟩ := ct_mEndsX e2 e3 B2 (by rw [zU_s]; omega) (by rw [zU_s]; exact zp) (x := 0)
  refine ⟨g0, _, _, ?_, gh_at g5 e2 (by omega), g3, fun k hk => (zLy_in _ F' hk).trans (zLy_in F B hk), gh_at g5 B2 (by omega), gh_at g5 P2 (by omega), ?_⟩
  ·
    refine gm_co_of _ (by decide +kernel) rfl (Nat.le_of_ble_eq_true rfl) rfl ?_
    refine gm_go.ru (gm_aload_n dX11_discard_0 rfl (by first | exact Or.inl ⟨_, rfl⟩ | exact Or.inr ⟨_, rfl⟩)) ?_
    refine gm_go.ru (gm_cV0 dX11_discard_1 (b1) rfl mt_X11_begins mv_X11_begins (lk_X11_78 rfl) (Or.inl ⟨_, 12, _, _, _, rfl, hM, rfl⟩) rfl (Nat.le_of_ble_eq_true rfl) (by decide)) ?_
    refine gm_go.ru (gm_aload_n dX11_discard_4 rfl (by first | exact Or.inl ⟨_, rfl⟩ | exact Or.inr ⟨_, rfl⟩)) ?_
    refine gm_go.ru (gm_aload_n dX11_discard_5 rfl (by first | exact Or.inl ⟨_, rfl⟩ | exact Or.inr ⟨_, rfl⟩)) ?_
    refine gm_go.ru (gm_iload_n dX11_discard_6 rfl) ?_
    refine gm_go.ru (gm_cV dX11_discard_7 (e1) rfl mt_X11_drops mv_X11_drops (lk_X11_114 rfl) (Or.inl ⟨_, 12, _, _, _, rfl, b2, rfl⟩) rfl (Nat.le_of_ble_eq_true rfl) (by decide)) ?_
    refine gm_go.ru (gm_cV dX11_discard_10 (g1) rfl mt_X11_ends mv_X11_ends (lk_X11_84 rfl) (Or.inl ⟨_, 12, _, _, _, rfl, e2, rfl⟩) rfl (Nat.le_of_ble_eq_true rfl) (by decide)) ?_
    exact gm_iret dX11_discard_13 rfl
  · exact gh_tr (gh_mono b5 fun k z => by unfold mk_K; omega) (gh_tr (gh_mono e5 fun k z => by unfold mk_K; omega) (gh_mono g5 fun k z => by unfold mk_K; omega))
set_option maxRecDepth 4000 in
theorem ct_m_setTolerance {h : gm_H} {m : Nat} {K F : Nat → Int} (hM : h.1[m]? = some (md_c m K)) (hV : h.1[m + 1]? = some (gA 118 F)) {B P : Nat → Int} (hB : h.1[m + 2]? = some (gA 118 B)) (hP : h.1[m + 4]? = some (gA 944 P)) {T : Nat} {a : Int} (hv : st_iv T F) (ha : zR a) (hq : zqWhy F 5 a 0 0 = 0) {n : Nat} (hn : K 1 = (n : Int)) (hn8 : n ≤ 8) : ∃ h' F' B' P', gm_co mX11_setTolerance 8 [.ref m, .int (zI a)] h (.inl (some (.int (zI (zAn F 5 a 0 0))))) h' ∧ h'.1[m]? = some (md_c m (zU (zU K 0 0) 1 ((min (n + 1) 8 : Nat) : Int))) ∧ h'.1[m + 1]? = some (gA 118 F') ∧ (∀ k, k < 118 → F' k = zDo F 5 a 0 0 k) ∧ h'.1[m + 2]? = some (gA 118 B') ∧ h'.1[m + 4]? = some (gA 944 P') ∧ (∀ i, i < min (n + 1) 8 → ∀ k, k < 118 → zSt8 P' i k = zPush (zSt8 P) n F i k) ∧ gh_fr h h' (mk_K m) := by
  obtain ⟨b0, b1, b2, b3, b4, b5⟩ := ct_mBegins hM hV hB
  obtain ⟨e0, F', e1, e2, e3, e4, e5⟩ := ct_mlimits (b := 0) (c := 0) b2 b3 hv ha hq
  have B2 := gh_at e5 b4 (by omega)
  have P2 := gh_at e5 (gh_at b5 hP (by omega)) (by omega)
  obtain ⟨g0, P', g1, g2, g3, g4, g5⟩ := ct_mEnds e2 B2 P2 zU_s ((zU_n (by omega)).trans hn) hn8 (x := zAn F 5 a 0 0)
  refine ⟨g0, F', _, P', ?_, g2, gh_at g5 e3 (by omega), e4, gh_at g5 B2 (by omega), g3, fun i hi k hk => (g4 i hi k hk).trans ?_, ?_⟩
  ·
    refine gm_co_of _ (by decide +kernel) rfl (Nat.le_of_ble_eq_true rfl) rfl ?_
    refine gm_go.ru (gm_aload_n dX11_setTolerance_0 rfl (by first | exact Or.inl ⟨_, rfl⟩ | exact Or.inr ⟨_, rfl⟩)) ?_
    refine gm_go.ru (gm_cV0 dX11_setTolerance_1 (b1) rfl mt_X11_begins mv_X11_begins (lk_X11_78 rfl) (Or.inl ⟨_, 12, _, _, _, rfl, hM, rfl⟩) rfl (Nat.le_of_ble_eq_true rfl) (by decide)) ?_
    refine gm_go.ru (gm_aload_n dX11_setTolerance_4 rfl (by first | exact Or.inl ⟨_, rfl⟩ | exact Or.inr ⟨_, rfl⟩)) ?_
    refine gm_go.ru (gm_aload_n dX11_setTolerance_5 rfl (by first | exact Or.inl ⟨_, rfl⟩ | exact Or.inr ⟨_, rfl⟩)) ?_
    refine gm_go.ru (gm_iload_n dX11_setTolerance_6 rfl) ?_
    refine gm_go.ru (gm_cV dX11_setTolerance_7 (e1) rfl mt_X11_limits mv_X11_limits (lk_X11_120 rfl) (Or.inl ⟨_, 12, _, _, _, rfl, b2, rfl⟩) rfl (Nat.le_of_ble_eq_true rfl) (by decide)) ?_
    refine gm_go.ru (gm_cV dX11_setTolerance_10 (g1) rfl mt_X11_ends mv_X11_ends (lk_X11_84 rfl) (Or.inl ⟨_, 12, _, _, _, rfl, e2, rfl⟩) rfl (Nat.le_of_ble_eq_true rfl) (by decide)) ?_
    exact gm_iret dX11_setTolerance_13 rfl
  · exact zPush_c (fun k hk => zLy_in F B hk) i k hk
  · exact gh_tr (gh_mono b5 fun k z => by unfold mk_K; omega) (gh_tr (gh_mono e5 fun k z => by unfold mk_K; omega) (gh_mono g5 fun k z => by unfold mk_K; omega))
set_option maxRecDepth 4000 in
theorem ct_m_setToleranceX {h : gm_H} {m : Nat} {K F : Nat → Int} (hM : h.1[m]? = some (md_c m K)) (hV : h.1[m + 1]? = some (gA 118 F)) {B P : Nat → Int} (hB : h.1[m + 2]? = some (gA 118 B)) (hP : h.1[m + 4]? = some (gA 944 P)) {T : Nat} {a : Int} (hv : st_iv T F) (ha : zR a) (hq : zqWhy F 5 a 0 0 ≠ 0) : ∃ h' F' B', gm_co mX11_setTolerance 8 [.ref m, .int (zI a)] h (.inl (some (.int (zI 0)))) h' ∧ h'.1[m]? = some (md_c m (zU K 0 (zCd 5 (zqWhy F 5 a 0 0)))) ∧ h'.1[m + 1]? = some (gA 118 F') ∧ (∀ k, k < 118 → F' k = F k) ∧ h'.1[m + 2]? = some (gA 118 B') ∧ h'.1[m + 4]? = some (gA 944 P) ∧ gh_fr h h' (mk_K m) := by
  obtain ⟨b0, b1, b2, b3, b4, b5⟩ := ct_mBegins hM hV hB
  obtain ⟨e0, F', e1, e2, e3, e5⟩ := ct_mlimitsX (b := 0) (c := 0) b2 b3 hv ha hq
  have B2 := gh_at e5 b4 (by omega)
  have P2 := gh_at e5 (gh_at b5 hP (by omega)) (by omega)
  rw [zU_zU] at e2
  have z7 := zCd_0 5 (by decide) (zqWhy F 5 a 0 0) (zqWhy_7 F 5 a 0 0)
  have zp := zCd_p F (w := 5) (by decide) a 0 0 hq
  obtain ⟨g0, g1, g3, g5⟩ := ct_mEndsX e2 e3 B2 (by rw [zU_s]; omega) (by rw [zU_s]; exact zp) (x := 0)
  refine ⟨g0, _, _, ?_, gh_at g5 e2 (by omega), g3, fun k hk => (zLy_in _ F' hk).trans (zLy_in F B hk), gh_at g5 B2 (by omega), gh_at g5 P2 (by omega), ?_⟩
  ·
    refine gm_co_of _ (by decide +kernel) rfl (Nat.le_of_ble_eq_true rfl) rfl ?_
    refine gm_go.ru (gm_aload_n dX11_setTolerance_0 rfl (by first | exact Or.inl ⟨_, rfl⟩ | exact Or.inr ⟨_, rfl⟩)) ?_
    refine gm_go.ru (gm_cV0 dX11_setTolerance_1 (b1) rfl mt_X11_begins mv_X11_begins (lk_X11_78 rfl) (Or.inl ⟨_, 12, _, _, _, rfl, hM, rfl⟩) rfl (Nat.le_of_ble_eq_true rfl) (by decide)) ?_
    refine gm_go.ru (gm_aload_n dX11_setTolerance_4 rfl (by first | exact Or.inl ⟨_, rfl⟩ | exact Or.inr ⟨_, rfl⟩)) ?_
    refine gm_go.ru (gm_aload_n dX11_setTolerance_5 rfl (by first | exact Or.inl ⟨_, rfl⟩ | exact Or.inr ⟨_, rfl⟩)) ?_
    refine gm_go.ru (gm_iload_n dX11_setTolerance_6 rfl) ?_
    refine gm_go.ru (gm_cV dX11_setTolerance_7 (e1) rfl mt_X11_limits mv_X11_limits (lk_X11_120 rfl) (Or.inl ⟨_, 12, _, _, _, rfl, b2, rfl⟩) rfl (Nat.le_of_ble_eq_true rfl) (by decide)) ?_
    refine gm_go.ru (gm_cV dX11_setTolerance_10 (g1) rfl mt_X11_ends mv_X11_ends (lk_X11_84 rfl) (Or.inl ⟨_, 12, _, _, _, rfl, e2, rfl⟩) rfl (Nat.le_of_ble_eq_true rfl) (by decide)) ?_
    exact gm_iret dX11_setTolerance_13 rfl
  · exact gh_tr (gh_mono b5 fun k z => by unfold mk_K; omega) (gh_tr (gh_mono e5 fun k z => by unfold mk_K; omega) (gh_mono g5 fun k z => by unfold mk_K; omega))
set_option maxRecDepth 4000 in
theorem ct_m_addBatch {h : gm_H} {m : Nat} {K F : Nat → Int} (hM : h.1[m]? = some (md_c m K)) (hV : h.1[m + 1]? = some (gA 118 F)) {B P : Nat → Int} (hB : h.1[m + 2]? = some (gA 118 B)) (hP : h.1[m + 4]? = some (gA 944 P)) {T : Nat} {a b c : Int} (hv : st_iv T F) (ha : zR a) (hb : zR b) (hc : zR c) (hq : zqWhy F 6 a b c = 0) {n : Nat} (hn : K 1 = (n : Int)) (hn8 : n ≤ 8) : ∃ h' F' B' P', gm_co mX11_addBatch 8 [.ref m, .int (zI a), .int (zI b), .int (zI c)] h (.inl (some (.int (zI (zAn F 6 a b c))))) h' ∧ h'.1[m]? = some (md_c m (zU (zU K 0 0) 1 ((min (n + 1) 8 : Nat) : Int))) ∧ h'.1[m + 1]? = some (gA 118 F') ∧ (∀ k, k < 118 → F' k = zDo F 6 a b c k) ∧ h'.1[m + 2]? = some (gA 118 B') ∧ h'.1[m + 4]? = some (gA 944 P') ∧ (∀ i, i < min (n + 1) 8 → ∀ k, k < 118 → zSt8 P' i k = zPush (zSt8 P) n F i k) ∧ gh_fr h h' (mk_K m) := by
  obtain ⟨b0, b1, b2, b3, b4, b5⟩ := ct_mBegins hM hV hB
  obtain ⟨e0, F', e1, e2, e3, e4, e5⟩ := ct_mputs b2 b3 hv ha hb hc hq
  have B2 := gh_at e5 b4 (by omega)
  have P2 := gh_at e5 (gh_at b5 hP (by omega)) (by omega)
  obtain ⟨g0, P', g1, g2, g3, g4, g5⟩ := ct_mEnds e2 B2 P2 zU_s ((zU_n (by omega)).trans hn) hn8 (x := zAn F 6 a b c)
  refine ⟨g0, F', _, P', ?_, g2, gh_at g5 e3 (by omega), e4, gh_at g5 B2 (by omega), g3, fun i hi k hk => (g4 i hi k hk).trans ?_, ?_⟩
  ·
    refine gm_co_of _ (by decide +kernel) rfl (Nat.le_of_ble_eq_true rfl) rfl ?_
    refine gm_go.ru (gm_aload_n dX11_addBatch_0 rfl (by first | exact Or.inl ⟨_, rfl⟩ | exact Or.inr ⟨_, rfl⟩)) ?_
    refine gm_go.ru (gm_cV0 dX11_addBatch_1 (b1) rfl mt_X11_begins mv_X11_begins (lk_X11_78 rfl) (Or.inl ⟨_, 12, _, _, _, rfl, hM, rfl⟩) rfl (Nat.le_of_ble_eq_true rfl) (by decide)) ?_
    refine gm_go.ru (gm_aload_n dX11_addBatch_4 rfl (by first | exact Or.inl ⟨_, rfl⟩ | exact Or.inr ⟨_, rfl⟩)) ?_
    refine gm_go.ru (gm_aload_n dX11_addBatch_5 rfl (by first | exact Or.inl ⟨_, rfl⟩ | exact Or.inr ⟨_, rfl⟩)) ?_
    refine gm_go.ru (gm_iload_n dX11_addBatch_6 rfl) ?_
    refine gm_go.ru (gm_iload_n dX11_addBatch_7 rfl) ?_
    refine gm_go.ru (gm_iload_n dX11_addBatch_8 rfl) ?_
    refine gm_go.ru (gm_cV dX11_addBatch_9 (e1) rfl mt_X11_puts mv_X11_puts (lk_X11_173 rfl) (Or.inl ⟨_, 12, _, _, _, rfl, b2, rfl⟩) rfl (Nat.le_of_ble_eq_true rfl) (by decide)) ?_
    refine gm_go.ru (gm_cV dX11_addBatch_12 (g1) rfl mt_X11_ends mv_X11_ends (lk_X11_84 rfl) (Or.inl ⟨_, 12, _, _, _, rfl, e2, rfl⟩) rfl (Nat.le_of_ble_eq_true rfl) (by decide)) ?_
    exact gm_iret dX11_addBatch_15 rfl
  · exact zPush_c (fun k hk => zLy_in F B hk) i k hk
  · exact gh_tr (gh_mono b5 fun k z => by unfold mk_K; omega) (gh_tr (gh_mono e5 fun k z => by unfold mk_K; omega) (gh_mono g5 fun k z => by unfold mk_K; omega))
set_option maxRecDepth 4000 in
theorem ct_m_addBatchX {h : gm_H} {m : Nat} {K F : Nat → Int} (hM : h.1[m]? = some (md_c m K)) (hV : h.1[m + 1]? = some (gA 118 F)) {B P : Nat → Int} (hB : h.1[m + 2]? = some (gA 118 B)) (hP : h.1[m + 4]? = some (gA 944 P)) {T : Nat} {a b c : Int} (hv : st_iv T F) (ha : zR a) (hb : zR b) (hc : zR c) (hq : zqWhy F 6 a b c ≠ 0) : ∃ h' F' B', gm_co mX11_addBatch 8 [.ref m, .int (zI a), .int (zI b), .int (zI c)] h (.inl (some (.int (zI 0)))) h' ∧ h'.1[m]? = some (md_c m (zU K 0 (zCd 6 (zqWhy F 6 a b c)))) ∧ h'.1[m + 1]? = some (gA 118 F') ∧ (∀ k, k < 118 → F' k = F k) ∧ h'.1[m + 2]? = some (gA 118 B') ∧ h'.1[m + 4]? = some (gA 944 P) ∧ gh_fr h h' (mk_K m) := by
  obtain ⟨b0, b1, b2, b3, b4, b5⟩ := ct_mBegins hM hV hB
  obtain ⟨e0, F', e1, e2, e3, e5⟩ := ct_mputsX b2 b3 hv ha hb hc hq
  have B2 := gh_at e5 b4 (by omega)
  have P2 := gh_at e5 (gh_at b5 hP (by omega)) (by omega)
  rw [zU_zU] at e2
  have z7 := zCd_0 6 (by decide) (zqWhy F 6 a b c) (zqWhy_7 F 6 a b c)
  have zp := zCd_p F (w := 6) (by decide) a b c hq
  obtain ⟨g0, g1, g3, g5⟩ := ct_mEndsX e2 e3 B2 (by rw [zU_s]; omega) (by rw [zU_s]; exact zp) (x := 0)
  refine ⟨g0, _, _, ?_, gh_at g5 e2 (by omega), g3, fun k hk => (zLy_in _ F' hk).trans (zLy_in F B hk), gh_at g5 B2 (by omega), gh_at g5 P2 (by omega), ?_⟩
  ·
    refine gm_co_of _ (by decide +kernel) rfl (Nat.le_of_ble_eq_true rfl) rfl ?_
    refine gm_go.ru (gm_aload_n dX11_addBatch_0 rfl (by first | exact Or.inl ⟨_, rfl⟩ | exact Or.inr ⟨_, rfl⟩)) ?_
    refine gm_go.ru (gm_cV0 dX11_addBatch_1 (b1) rfl mt_X11_begins mv_X11_begins (lk_X11_78 rfl) (Or.inl ⟨_, 12, _, _, _, rfl, hM, rfl⟩) rfl (Nat.le_of_ble_eq_true rfl) (by decide)) ?_
    refine gm_go.ru (gm_aload_n dX11_addBatch_4 rfl (by first | exact Or.inl ⟨_, rfl⟩ | exact Or.inr ⟨_, rfl⟩)) ?_
    refine gm_go.ru (gm_aload_n dX11_addBatch_5 rfl (by first | exact Or.inl ⟨_, rfl⟩ | exact Or.inr ⟨_, rfl⟩)) ?_
    refine gm_go.ru (gm_iload_n dX11_addBatch_6 rfl) ?_
    refine gm_go.ru (gm_iload_n dX11_addBatch_7 rfl) ?_
    refine gm_go.ru (gm_iload_n dX11_addBatch_8 rfl) ?_
    refine gm_go.ru (gm_cV dX11_addBatch_9 (e1) rfl mt_X11_puts mv_X11_puts (lk_X11_173 rfl) (Or.inl ⟨_, 12, _, _, _, rfl, b2, rfl⟩) rfl (Nat.le_of_ble_eq_true rfl) (by decide)) ?_
    refine gm_go.ru (gm_cV dX11_addBatch_12 (g1) rfl mt_X11_ends mv_X11_ends (lk_X11_84 rfl) (Or.inl ⟨_, 12, _, _, _, rfl, e2, rfl⟩) rfl (Nat.le_of_ble_eq_true rfl) (by decide)) ?_
    exact gm_iret dX11_addBatch_15 rfl
  · exact gh_tr (gh_mono b5 fun k z => by unfold mk_K; omega) (gh_tr (gh_mono e5 fun k z => by unfold mk_K; omega) (gh_mono g5 fun k z => by unfold mk_K; omega))
set_option maxRecDepth 4000 in
theorem ct_m_dropBatch {h : gm_H} {m : Nat} {K F : Nat → Int} (hM : h.1[m]? = some (md_c m K)) (hV : h.1[m + 1]? = some (gA 118 F)) {B P : Nat → Int} (hB : h.1[m + 2]? = some (gA 118 B)) (hP : h.1[m + 4]? = some (gA 944 P)) {T : Nat} {a : Int} (hv : st_iv T F) (ha : zR a) (hq : zqWhy F 7 a 0 0 = 0) {n : Nat} (hn : K 1 = (n : Int)) (hn8 : n ≤ 8) : ∃ h' F' B' P', gm_co mX11_dropBatch 8 [.ref m, .int (zI a)] h (.inl (some (.int (zI (zAn F 7 a 0 0))))) h' ∧ h'.1[m]? = some (md_c m (zU (zU K 0 0) 1 ((min (n + 1) 8 : Nat) : Int))) ∧ h'.1[m + 1]? = some (gA 118 F') ∧ (∀ k, k < 118 → F' k = zDo F 7 a 0 0 k) ∧ h'.1[m + 2]? = some (gA 118 B') ∧ h'.1[m + 4]? = some (gA 944 P') ∧ (∀ i, i < min (n + 1) 8 → ∀ k, k < 118 → zSt8 P' i k = zPush (zSt8 P) n F i k) ∧ gh_fr h h' (mk_K m) := by
  obtain ⟨b0, b1, b2, b3, b4, b5⟩ := ct_mBegins hM hV hB
  obtain ⟨e0, F', e1, e2, e3, e4, e5⟩ := ct_mgoes (b := 0) (c := 0) b2 b3 hv ha hq
  have B2 := gh_at e5 b4 (by omega)
  have P2 := gh_at e5 (gh_at b5 hP (by omega)) (by omega)
  obtain ⟨g0, P', g1, g2, g3, g4, g5⟩ := ct_mEnds e2 B2 P2 zU_s ((zU_n (by omega)).trans hn) hn8 (x := zAn F 7 a 0 0)
  refine ⟨g0, F', _, P', ?_, g2, gh_at g5 e3 (by omega), e4, gh_at g5 B2 (by omega), g3, fun i hi k hk => (g4 i hi k hk).trans ?_, ?_⟩
  ·
    refine gm_co_of _ (by decide +kernel) rfl (Nat.le_of_ble_eq_true rfl) rfl ?_
    refine gm_go.ru (gm_aload_n dX11_dropBatch_0 rfl (by first | exact Or.inl ⟨_, rfl⟩ | exact Or.inr ⟨_, rfl⟩)) ?_
    refine gm_go.ru (gm_cV0 dX11_dropBatch_1 (b1) rfl mt_X11_begins mv_X11_begins (lk_X11_78 rfl) (Or.inl ⟨_, 12, _, _, _, rfl, hM, rfl⟩) rfl (Nat.le_of_ble_eq_true rfl) (by decide)) ?_
    refine gm_go.ru (gm_aload_n dX11_dropBatch_4 rfl (by first | exact Or.inl ⟨_, rfl⟩ | exact Or.inr ⟨_, rfl⟩)) ?_
    refine gm_go.ru (gm_aload_n dX11_dropBatch_5 rfl (by first | exact Or.inl ⟨_, rfl⟩ | exact Or.inr ⟨_, rfl⟩)) ?_
    refine gm_go.ru (gm_aload_n dX11_dropBatch_6 rfl (by first | exact Or.inl ⟨_, rfl⟩ | exact Or.inr ⟨_, rfl⟩)) ?_
    refine gm_go.ru (gm_iload_n dX11_dropBatch_7 rfl) ?_
    refine gm_go.ru (gm_cV dX11_dropBatch_8 (ct_mFind b2 b3 hv.2 ha) rfl mt_X11_find mv_X11_find (lk_X11_176 rfl) (Or.inl ⟨_, 12, _, _, _, rfl, b2, rfl⟩) rfl (Nat.le_of_ble_eq_true rfl) (by decide)) ?_
    refine gm_go.ru (gm_cV dX11_dropBatch_11 (e1) rfl mt_X11_goes mv_X11_goes (lk_X11_179 rfl) (Or.inl ⟨_, 12, _, _, _, rfl, b2, rfl⟩) rfl (Nat.le_of_ble_eq_true rfl) (by decide)) ?_
    refine gm_go.ru (gm_cV dX11_dropBatch_14 (g1) rfl mt_X11_ends mv_X11_ends (lk_X11_84 rfl) (Or.inl ⟨_, 12, _, _, _, rfl, e2, rfl⟩) rfl (Nat.le_of_ble_eq_true rfl) (by decide)) ?_
    exact gm_iret dX11_dropBatch_17 rfl
  · exact zPush_c (fun k hk => zLy_in F B hk) i k hk
  · exact gh_tr (gh_mono b5 fun k z => by unfold mk_K; omega) (gh_tr (gh_mono e5 fun k z => by unfold mk_K; omega) (gh_mono g5 fun k z => by unfold mk_K; omega))
set_option maxRecDepth 4000 in
theorem ct_m_dropBatchX {h : gm_H} {m : Nat} {K F : Nat → Int} (hM : h.1[m]? = some (md_c m K)) (hV : h.1[m + 1]? = some (gA 118 F)) {B P : Nat → Int} (hB : h.1[m + 2]? = some (gA 118 B)) (hP : h.1[m + 4]? = some (gA 944 P)) {T : Nat} {a : Int} (hv : st_iv T F) (ha : zR a) (hq : zqWhy F 7 a 0 0 ≠ 0) : ∃ h' F' B', gm_co mX11_dropBatch 8 [.ref m, .int (zI a)] h (.inl (some (.int (zI 0)))) h' ∧ h'.1[m]? = some (md_c m (zU K 0 (zCd 7 (zqWhy F 7 a 0 0)))) ∧ h'.1[m + 1]? = some (gA 118 F') ∧ (∀ k, k < 118 → F' k = F k) ∧ h'.1[m + 2]? = some (gA 118 B') ∧ h'.1[m + 4]? = some (gA 944 P) ∧ gh_fr h h' (mk_K m) := by
  obtain ⟨b0, b1, b2, b3, b4, b5⟩ := ct_mBegins hM hV hB
  obtain ⟨e0, F', e1, e2, e3, e5⟩ := ct_mgoesX (b := 0) (c := 0) b2 b3 hv ha hq
  have B2 := gh_at e5 b4 (by omega)
  have P2 := gh_at e5 (gh_at b5 hP (by omega)) (by omega)
  rw [zU_zU] at e2
  have z7 := zCd_0 7 (by decide) (zqWhy F 7 a 0 0) (zqWhy_7 F 7 a 0 0)
  have zp := zCd_p F (w := 7) (by decide) a 0 0 hq
  obtain ⟨g0, g1, g3, g5⟩ := ct_mEndsX e2 e3 B2 (by rw [zU_s]; omega) (by rw [zU_s]; exact zp) (x := 0)
  refine ⟨g0, _, _, ?_, gh_at g5 e2 (by omega), g3, fun k hk => (zLy_in _ F' hk).trans (zLy_in F B hk), gh_at g5 B2 (by omega), gh_at g5 P2 (by omega), ?_⟩
  ·
    refine gm_co_of _ (by decide +kernel) rfl (Nat.le_of_ble_eq_true rfl) rfl ?_
    refine gm_go.ru (gm_aload_n dX11_dropBatch_0 rfl (by first | exact Or.inl ⟨_, rfl⟩ | exact Or.inr ⟨_, rfl⟩)) ?_
    refine gm_go.ru (gm_cV0 dX11_dropBatch_1 (b1) rfl mt_X11_begins mv_X11_begins (lk_X11_78 rfl) (Or.inl ⟨_, 12, _, _, _, rfl, hM, rfl⟩) rfl (Nat.le_of_ble_eq_true rfl) (by decide)) ?_
    refine gm_go.ru (gm_aload_n dX11_dropBatch_4 rfl (by first | exact Or.inl ⟨_, rfl⟩ | exact Or.inr ⟨_, rfl⟩)) ?_
    refine gm_go.ru (gm_aload_n dX11_dropBatch_5 rfl (by first | exact Or.inl ⟨_, rfl⟩ | exact Or.inr ⟨_, rfl⟩)) ?_
    refine gm_go.ru (gm_aload_n dX11_dropBatch_6 rfl (by first | exact Or.inl ⟨_, rfl⟩ | exact Or.inr ⟨_, rfl⟩)) ?_
    refine gm_go.ru (gm_iload_n dX11_dropBatch_7 rfl) ?_
    refine gm_go.ru (gm_cV dX11_dropBatch_8 (ct_mFind b2 b3 hv.2 ha) rfl mt_X11_find mv_X11_find (lk_X11_176 rfl) (Or.inl ⟨_, 12, _, _, _, rfl, b2, rfl⟩) rfl (Nat.le_of_ble_eq_true rfl) (by decide)) ?_
    refine gm_go.ru (gm_cV dX11_dropBatch_11 (e1) rfl mt_X11_goes mv_X11_goes (lk_X11_179 rfl) (Or.inl ⟨_, 12, _, _, _, rfl, b2, rfl⟩) rfl (Nat.le_of_ble_eq_true rfl) (by decide)) ?_
    refine gm_go.ru (gm_cV dX11_dropBatch_14 (g1) rfl mt_X11_ends mv_X11_ends (lk_X11_84 rfl) (Or.inl ⟨_, 12, _, _, _, rfl, e2, rfl⟩) rfl (Nat.le_of_ble_eq_true rfl) (by decide)) ?_
    exact gm_iret dX11_dropBatch_17 rfl
  · exact gh_tr (gh_mono b5 fun k z => by unfold mk_K; omega) (gh_tr (gh_mono e5 fun k z => by unfold mk_K; omega) (gh_mono g5 fun k z => by unfold mk_K; omega))
set_option maxRecDepth 4000 in
theorem ct_m_bake {h : gm_H} {m : Nat} {K F : Nat → Int} (hM : h.1[m]? = some (md_c m K)) (hV : h.1[m + 1]? = some (gA 118 F)) {B P : Nat → Int} (hB : h.1[m + 2]? = some (gA 118 B)) (hP : h.1[m + 4]? = some (gA 944 P)) {T : Nat} {a : Int} (hv : st_iv T F) (ha : zR a) (hT : T < 1000) (hq : zqWhy F 8 a 0 0 = 0) {n : Nat} (hn : K 1 = (n : Int)) (hn8 : n ≤ 8) : ∃ h' F' B' P', gm_co mX11_bake 8 [.ref m, .int (zI a)] h (.inl (some (.int (zI (zAn F 8 a 0 0))))) h' ∧ h'.1[m]? = some (md_c m (zU (zU K 0 0) 1 ((min (n + 1) 8 : Nat) : Int))) ∧ h'.1[m + 1]? = some (gA 118 F') ∧ (∀ k, k < 118 → F' k = zDo F 8 a 0 0 k) ∧ h'.1[m + 2]? = some (gA 118 B') ∧ h'.1[m + 4]? = some (gA 944 P') ∧ (∀ i, i < min (n + 1) 8 → ∀ k, k < 118 → zSt8 P' i k = zPush (zSt8 P) n F i k) ∧ gh_fr h h' (mk_K m) := by
  obtain ⟨b0, b1, b2, b3, b4, b5⟩ := ct_mBegins hM hV hB
  obtain ⟨e0, F', e1, e2, e3, e4, e5⟩ := ct_mbakes (b := 0) (c := 0) b2 b3 hv ha hT hq
  have B2 := gh_at e5 b4 (by omega)
  have P2 := gh_at e5 (gh_at b5 hP (by omega)) (by omega)
  obtain ⟨g0, P', g1, g2, g3, g4, g5⟩ := ct_mEnds e2 B2 P2 zU_s ((zU_n (by omega)).trans hn) hn8 (x := zAn F 8 a 0 0)
  refine ⟨g0, F', _, P', ?_, g2, gh_at g5 e3 (by omega), e4, gh_at g5 B2 (by omega), g3, fun i hi k hk => (g4 i hi k hk).trans ?_, ?_⟩
  ·
    refine gm_co_of _ (by decide +kernel) rfl (Nat.le_of_ble_eq_true rfl) rfl ?_
    refine gm_go.ru (gm_aload_n dX11_bake_0 rfl (by first | exact Or.inl ⟨_, rfl⟩ | exact Or.inr ⟨_, rfl⟩)) ?_
    refine gm_go.ru (gm_cV0 dX11_bake_1 (b1) rfl mt_X11_begins mv_X11_begins (lk_X11_78 rfl) (Or.inl ⟨_, 12, _, _, _, rfl, hM, rfl⟩) rfl (Nat.le_of_ble_eq_true rfl) (by decide)) ?_
    refine gm_go.ru (gm_aload_n dX11_bake_4 rfl (by first | exact Or.inl ⟨_, rfl⟩ | exact Or.inr ⟨_, rfl⟩)) ?_
    refine gm_go.ru (gm_aload_n dX11_bake_5 rfl (by first | exact Or.inl ⟨_, rfl⟩ | exact Or.inr ⟨_, rfl⟩)) ?_
    refine gm_go.ru (gm_aload_n dX11_bake_6 rfl (by first | exact Or.inl ⟨_, rfl⟩ | exact Or.inr ⟨_, rfl⟩)) ?_
    refine gm_go.ru (gm_iload_n dX11_bake_7 rfl) ?_
    refine gm_go.ru (gm_cV dX11_bake_8 (ct_mFind b2 b3 hv.2 ha) rfl mt_X11_find mv_X11_find (lk_X11_176 rfl) (Or.inl ⟨_, 12, _, _, _, rfl, b2, rfl⟩) rfl (Nat.le_of_ble_eq_true rfl) (by decide)) ?_
    refine gm_go.ru (gm_cV dX11_bake_11 (e1) rfl mt_X11_bakes mv_X11_bakes (lk_X11_186 rfl) (Or.inl ⟨_, 12, _, _, _, rfl, b2, rfl⟩) rfl (Nat.le_of_ble_eq_true rfl) (by decide)) ?_
    refine gm_go.ru (gm_cV dX11_bake_14 (g1) rfl mt_X11_ends mv_X11_ends (lk_X11_84 rfl) (Or.inl ⟨_, 12, _, _, _, rfl, e2, rfl⟩) rfl (Nat.le_of_ble_eq_true rfl) (by decide)) ?_
    exact gm_iret dX11_bake_17 rfl
  · exact zPush_c (fun k hk => zLy_in F B hk) i k hk
  · exact gh_tr (gh_mono b5 fun k z => by unfold mk_K; omega) (gh_tr (gh_mono e5 fun k z => by unfold mk_K; omega) (gh_mono g5 fun k z => by unfold mk_K; omega))
set_option maxRecDepth 4000 in
theorem ct_m_bakeX {h : gm_H} {m : Nat} {K F : Nat → Int} (hM : h.1[m]? = some (md_c m K)) (hV : h.1[m + 1]? = some (gA 118 F)) {B P : Nat → Int} (hB : h.1[m + 2]? = some (gA 118 B)) (hP : h.1[m + 4]? = some (gA 944 P)) {T : Nat} {a : Int} (hv : st_iv T F) (ha : zR a) (hq : zqWhy F 8 a 0 0 ≠ 0) : ∃ h' F' B', gm_co mX11_bake 8 [.ref m, .int (zI a)] h (.inl (some (.int (zI 0)))) h' ∧ h'.1[m]? = some (md_c m (zU K 0 (zCd 8 (zqWhy F 8 a 0 0)))) ∧ h'.1[m + 1]? = some (gA 118 F') ∧ (∀ k, k < 118 → F' k = F k) ∧ h'.1[m + 2]? = some (gA 118 B') ∧ h'.1[m + 4]? = some (gA 944 P) ∧ gh_fr h h' (mk_K m) := by
  obtain ⟨b0, b1, b2, b3, b4, b5⟩ := ct_mBegins hM hV hB
  obtain ⟨e0, F', e1, e2, e3, e5⟩ := ct_mbakesX (b := 0) (c := 0) b2 b3 hv ha hq
  have B2 := gh_at e5 b4 (by omega)
  have P2 := gh_at e5 (gh_at b5 hP (by omega)) (by omega)
  rw [zU_zU] at e2
  have z7 := zCd_0 8 (by decide) (zqWhy F 8 a 0 0) (zqWhy_7 F 8 a 0 0)
  have zp := zCd_p F (w := 8) (by decide) a 0 0 hq
  obtain ⟨g0, g1, g3, g5⟩ := ct_mEndsX e2 e3 B2 (by rw [zU_s]; omega) (by rw [zU_s]; exact zp) (x := 0)
  refine ⟨g0, _, _, ?_, gh_at g5 e2 (by omega), g3, fun k hk => (zLy_in _ F' hk).trans (zLy_in F B hk), gh_at g5 B2 (by omega), gh_at g5 P2 (by omega), ?_⟩
  ·
    refine gm_co_of _ (by decide +kernel) rfl (Nat.le_of_ble_eq_true rfl) rfl ?_
    refine gm_go.ru (gm_aload_n dX11_bake_0 rfl (by first | exact Or.inl ⟨_, rfl⟩ | exact Or.inr ⟨_, rfl⟩)) ?_
    refine gm_go.ru (gm_cV0 dX11_bake_1 (b1) rfl mt_X11_begins mv_X11_begins (lk_X11_78 rfl) (Or.inl ⟨_, 12, _, _, _, rfl, hM, rfl⟩) rfl (Nat.le_of_ble_eq_true rfl) (by decide)) ?_
    refine gm_go.ru (gm_aload_n dX11_bake_4 rfl (by first | exact Or.inl ⟨_, rfl⟩ | exact Or.inr ⟨_, rfl⟩)) ?_
    refine gm_go.ru (gm_aload_n dX11_bake_5 rfl (by first | exact Or.inl ⟨_, rfl⟩ | exact Or.inr ⟨_, rfl⟩)) ?_
    refine gm_go.ru (gm_aload_n dX11_bake_6 rfl (by first | exact Or.inl ⟨_, rfl⟩ | exact Or.inr ⟨_, rfl⟩)) ?_
    refine gm_go.ru (gm_iload_n dX11_bake_7 rfl) ?_
    refine gm_go.ru (gm_cV dX11_bake_8 (ct_mFind b2 b3 hv.2 ha) rfl mt_X11_find mv_X11_find (lk_X11_176 rfl) (Or.inl ⟨_, 12, _, _, _, rfl, b2, rfl⟩) rfl (Nat.le_of_ble_eq_true rfl) (by decide)) ?_
    refine gm_go.ru (gm_cV dX11_bake_11 (e1) rfl mt_X11_bakes mv_X11_bakes (lk_X11_186 rfl) (Or.inl ⟨_, 12, _, _, _, rfl, b2, rfl⟩) rfl (Nat.le_of_ble_eq_true rfl) (by decide)) ?_
    refine gm_go.ru (gm_cV dX11_bake_14 (g1) rfl mt_X11_ends mv_X11_ends (lk_X11_84 rfl) (Or.inl ⟨_, 12, _, _, _, rfl, e2, rfl⟩) rfl (Nat.le_of_ble_eq_true rfl) (by decide)) ?_
    exact gm_iret dX11_bake_17 rfl
  · exact gh_tr (gh_mono b5 fun k z => by unfold mk_K; omega) (gh_tr (gh_mono e5 fun k z => by unfold mk_K; omega) (gh_mono g5 fun k z => by unfold mk_K; omega))
set_option maxRecDepth 4000 in
theorem ct_m_rest {h : gm_H} {m : Nat} {K F : Nat → Int} (hM : h.1[m]? = some (md_c m K)) (hV : h.1[m + 1]? = some (gA 118 F)) {B P : Nat → Int} (hB : h.1[m + 2]? = some (gA 118 B)) (hP : h.1[m + 4]? = some (gA 944 P)) {T : Nat} {a : Int} (hv : st_iv T F) (ha : zR a) (hq : zqWhy F 9 a 0 0 = 0) {n : Nat} (hn : K 1 = (n : Int)) (hn8 : n ≤ 8) : ∃ h' F' B' P', gm_co mX11_rest 8 [.ref m, .int (zI a)] h (.inl (some (.int (zI (zAn F 9 a 0 0))))) h' ∧ h'.1[m]? = some (md_c m (zU (zU K 0 0) 1 ((min (n + 1) 8 : Nat) : Int))) ∧ h'.1[m + 1]? = some (gA 118 F') ∧ (∀ k, k < 118 → F' k = zDo F 9 a 0 0 k) ∧ h'.1[m + 2]? = some (gA 118 B') ∧ h'.1[m + 4]? = some (gA 944 P') ∧ (∀ i, i < min (n + 1) 8 → ∀ k, k < 118 → zSt8 P' i k = zPush (zSt8 P) n F i k) ∧ gh_fr h h' (mk_K m) := by
  obtain ⟨b0, b1, b2, b3, b4, b5⟩ := ct_mBegins hM hV hB
  obtain ⟨e0, F', e1, e2, e3, e4, e5⟩ := ct_mrests (b := 0) (c := 0) b2 b3 hv ha hq
  have B2 := gh_at e5 b4 (by omega)
  have P2 := gh_at e5 (gh_at b5 hP (by omega)) (by omega)
  obtain ⟨g0, P', g1, g2, g3, g4, g5⟩ := ct_mEnds e2 B2 P2 zU_s ((zU_n (by omega)).trans hn) hn8 (x := zAn F 9 a 0 0)
  refine ⟨g0, F', _, P', ?_, g2, gh_at g5 e3 (by omega), e4, gh_at g5 B2 (by omega), g3, fun i hi k hk => (g4 i hi k hk).trans ?_, ?_⟩
  ·
    refine gm_co_of _ (by decide +kernel) rfl (Nat.le_of_ble_eq_true rfl) rfl ?_
    refine gm_go.ru (gm_aload_n dX11_rest_0 rfl (by first | exact Or.inl ⟨_, rfl⟩ | exact Or.inr ⟨_, rfl⟩)) ?_
    refine gm_go.ru (gm_cV0 dX11_rest_1 (b1) rfl mt_X11_begins mv_X11_begins (lk_X11_78 rfl) (Or.inl ⟨_, 12, _, _, _, rfl, hM, rfl⟩) rfl (Nat.le_of_ble_eq_true rfl) (by decide)) ?_
    refine gm_go.ru (gm_aload_n dX11_rest_4 rfl (by first | exact Or.inl ⟨_, rfl⟩ | exact Or.inr ⟨_, rfl⟩)) ?_
    refine gm_go.ru (gm_aload_n dX11_rest_5 rfl (by first | exact Or.inl ⟨_, rfl⟩ | exact Or.inr ⟨_, rfl⟩)) ?_
    refine gm_go.ru (gm_iload_n dX11_rest_6 rfl) ?_
    refine gm_go.ru (gm_cV dX11_rest_7 (e1) rfl mt_X11_rests mv_X11_rests (lk_X11_189 rfl) (Or.inl ⟨_, 12, _, _, _, rfl, b2, rfl⟩) rfl (Nat.le_of_ble_eq_true rfl) (by decide)) ?_
    refine gm_go.ru (gm_cV dX11_rest_10 (g1) rfl mt_X11_ends mv_X11_ends (lk_X11_84 rfl) (Or.inl ⟨_, 12, _, _, _, rfl, e2, rfl⟩) rfl (Nat.le_of_ble_eq_true rfl) (by decide)) ?_
    exact gm_iret dX11_rest_13 rfl
  · exact zPush_c (fun k hk => zLy_in F B hk) i k hk
  · exact gh_tr (gh_mono b5 fun k z => by unfold mk_K; omega) (gh_tr (gh_mono e5 fun k z => by unfold mk_K; omega) (gh_mono g5 fun k z => by unfold mk_K; omega))
set_option maxRecDepth 4000 in
theorem ct_m_restX {h : gm_H} {m : Nat} {K F : Nat → Int} (hM : h.1[m]? = some (md_c m K)) (hV : h.1[m + 1]? = some (gA 118 F)) {B P : Nat → Int} (hB : h.1[m + 2]? = some (gA 118 B)) (hP : h.1[m + 4]? = some (gA 944 P)) {T : Nat} {a : Int} (hv : st_iv T F) (ha : zR a) (hq : zqWhy F 9 a 0 0 ≠ 0) : ∃ h' F' B', gm_co mX11_rest 8 [.ref m, .int (zI a)] h (.inl (some (.int (zI 0)))) h' ∧ h'.1[m]? = some (md_c m (zU K 0 (zCd 9 (zqWhy F 9 a 0 0)))) ∧ h'.1[m + 1]? = some (gA 118 F') ∧ (∀ k, k < 118 → F' k = F k) ∧ h'.1[m + 2]? = some (gA 118 B') ∧ h'.1[m + 4]? = some (gA 944 P) ∧ gh_fr h h' (mk_K m) := by
  obtain ⟨b0, b1, b2, b3, b4, b5⟩ := ct_mBegins hM hV hB
  obtain ⟨e0, F', e1, e2, e3, e5⟩ := ct_mrestsX (b := 0) (c := 0) b2 b3 hv ha hq
  have B2 := gh_at e5 b4 (by omega)
  have P2 := gh_at e5 (gh_at b5 hP (by omega)) (by omega)
  rw [zU_zU] at e2
  have z7 := zCd_0 9 (by decide) (zqWhy F 9 a 0 0) (zqWhy_7 F 9 a 0 0)
  have zp := zCd_p F (w := 9) (by decide) a 0 0 hq
  obtain ⟨g0, g1, g3, g5⟩ := ct_mEndsX e2 e3 B2 (by rw [zU_s]; omega) (by rw [zU_s]; exact zp) (x := 0)
  refine ⟨g0, _, _, ?_, gh_at g5 e2 (by omega), g3, fun k hk => (zLy_in _ F' hk).trans (zLy_in F B hk), gh_at g5 B2 (by omega), gh_at g5 P2 (by omega), ?_⟩
  ·
    refine gm_co_of _ (by decide +kernel) rfl (Nat.le_of_ble_eq_true rfl) rfl ?_
    refine gm_go.ru (gm_aload_n dX11_rest_0 rfl (by first | exact Or.inl ⟨_, rfl⟩ | exact Or.inr ⟨_, rfl⟩)) ?_
    refine gm_go.ru (gm_cV0 dX11_rest_1 (b1) rfl mt_X11_begins mv_X11_begins (lk_X11_78 rfl) (Or.inl ⟨_, 12, _, _, _, rfl, hM, rfl⟩) rfl (Nat.le_of_ble_eq_true rfl) (by decide)) ?_
    refine gm_go.ru (gm_aload_n dX11_rest_4 rfl (by first | exact Or.inl ⟨_, rfl⟩ | exact Or.inr ⟨_, rfl⟩)) ?_
    refine gm_go.ru (gm_aload_n dX11_rest_5 rfl (by first | exact Or.inl ⟨_, rfl⟩ | exact Or.inr ⟨_, rfl⟩)) ?_
    refine gm_go.ru (gm_iload_n dX11_rest_6 rfl) ?_
    refine gm_go.ru (gm_cV dX11_rest_7 (e1) rfl mt_X11_rests mv_X11_rests (lk_X11_189 rfl) (Or.inl ⟨_, 12, _, _, _, rfl, b2, rfl⟩) rfl (Nat.le_of_ble_eq_true rfl) (by decide)) ?_
    refine gm_go.ru (gm_cV dX11_rest_10 (g1) rfl mt_X11_ends mv_X11_ends (lk_X11_84 rfl) (Or.inl ⟨_, 12, _, _, _, rfl, e2, rfl⟩) rfl (Nat.le_of_ble_eq_true rfl) (by decide)) ?_
    exact gm_iret dX11_rest_13 rfl
  · exact gh_tr (gh_mono b5 fun k z => by unfold mk_K; omega) (gh_tr (gh_mono e5 fun k z => by unfold mk_K; omega) (gh_mono g5 fun k z => by unfold mk_K; omega))
