/-- the forms of the commands, letter by letter -/
def zForms : List (List Nat) := [[110, 101, 101, 100, 108, 101, 32, 78], [115, 101, 116, 32, 68, 32, 68, 32, 71], [115, 104, 105, 102, 116, 32, 68, 32, 71], [99, 111, 114, 114, 101, 99, 116, 32, 68], [100, 105, 115, 99, 97, 114, 100, 32, 68], [108, 105, 109, 105, 116, 32, 78], [98, 97, 116, 99, 104, 32, 78, 47, 78, 32, 68], [100, 114, 111, 112, 32, 78], [98, 97, 107, 101, 32, 78], [114, 101, 115, 116, 32, 78]]
def zForm (w : Nat) : List Nat := zForms.getD w []
abbrev zCs (cs : List Nat) : List Int32 := cs.map (fun c : Nat => zI (c : Int))
theorem ks_f1 : ∀ w : Nat, w < 10 → (92 + 2 * w, "java/lang/String", "value", "[B", Value.retAddr (93 + 2 * w)) ∈ gm_Kf := by decide +kernel
theorem ks_f2 : ∀ w : Nat, w < 10 → (92 + 2 * w, "java/lang/String", "coder", "B", Value.int (zI 0)) ∈ gm_Kf := by decide +kernel
theorem ks_f3 : ∀ w : Nat, w < 10 → (92 + 2 * w, "java/lang/String") ∈ gm_Ko := by decide +kernel
theorem ks_f4 : ∀ w : Fin 10, (93 + 2 * w.val, FieldType.byte, zCs (zForm w.val)) ∈ gm_Kb := by
  intro w
  match w with
  | 0 | 1 | 2 | 3 | 4 | 5 | 6 | 7 | 8 | 9 => decide +kernel
theorem ks_f5 : ∀ w : Nat, w < 10 → (zCs (zForm w)).length ≤ 1000 := by decide +kernel
theorem ks_f6 : ∀ w : Nat, w < 10 → (zForm w).all (fun c => c < 128) = true := by decide +kernel
theorem ks_f7 : ∀ w : Nat, w < 10 → (7 + w, "NeedleBakery$Change", "form", "Ljava/lang/String;", Value.retAddr (92 + 2 * w)) ∈ gm_Kf := by decide +kernel
theorem ks_form {w : Nat} (hw : w < 10) : ks_at (92 + 2 * w) (93 + 2 * w) (zCs (zForm w)) := ⟨ks_f1 w hw, ks_f2 w hw, ks_f3 w hw, ks_f4 ⟨w, hw⟩, ks_f5 w hw⟩
def zFol (X : Nat → Int) (L : Nat) : List Nat → zPS → Bool × zPS
  | [], s => (true, s)
  | c :: cs, s => if (zPart X L (c : Int) s).1 = true then zFol X L cs (zPart X L (c : Int) s).2 else (false, (zPart X L (c : Int) s).2)
def zN0 (N : Nat → Int) : Nat → Int := fun j => if j < 3 then 0 else N j
set_option maxRecDepth 4000 in
theorem fo_in {g L w k b : Nat} {X : Nat → Int} {cs : List Nat} (hk : ks_at k b (zCs cs)) (hall : cs.all (fun c => c < 128) = true) : ∀ (rest : List Nat) (i : Nat) (s : zPS) (h : gm_H), cs.drop i = rest → i + rest.length = cs.length → pg_st h g X L w s → ∃ h', gm_ru mX7_follows 5 (15, [some (.ref g), some (.retAddr k), some (.int (zI (i : Int)))], [], h) (.inl (some (.int (zI (zB (zFol X L rest s).1))))) h' ∧ pg_st h' g X L w (zFol X L rest s).2 ∧ gh_fr h h' (pg_K g) := by
  intro rest
  have hkl := hk.2.2.2.2
  have hlen0 : (zCs cs).length = cs.length := List.length_map _
  induction rest with
  | nil =>
    intro i s h hi hil hP
    have hlen : (zCs cs).length = cs.length := List.length_map _
    obtain rfl : i = cs.length := by simpa using hil
    refine ⟨h, ?_, hP, gh_rf⟩
    refine gm_go.ru (gm_iload_n dX7_follows_15 rfl) ?_
    refine gm_go.ru (gm_aload_n dX7_follows_16 rfl (by first | exact Or.inl ⟨_, rfl⟩ | exact Or.inr ⟨_, rfl⟩)) ?_
    refine gm_go.ru (gm_cV dX7_follows_17 (ct_lengthK hk) rfl mt_J0_length_8abf5 mv_J0_length_8abf5 (lk_X7_70 rfl) (Or.inr ⟨_, rfl, hk.2.2.1⟩) rfl (Nat.le_of_ble_eq_true rfl) (by decide)) ?_
    rw [hlen]
    refine gm_go.ru (gi_icmp_ge_t (tgt := 43) dX7_follows_20 (by decide) (by omega) (by omega) (by omega)) ?_
    refine gm_go.ru (gi_const dX7_follows_43) ?_
    exact gm_zret' dX7_follows_44 rfl rfl
  | cons c rest ih =>
    intro i s h hi hil hP
    have hlen : (zCs cs).length = cs.length := List.length_map _
    have hil2 : i + (rest.length + 1) = cs.length := hil
    obtain ⟨h1, hr⟩ := id hP
    have hci : cs[i]? = some c := by rw [← List.head?_drop, hi]; rfl
    have hc128 : c < 128 := by have := List.mem_of_getElem? hci; have := List.all_eq_true.mp hall c this; simpa using this
    have hx : (zCs cs).getD i 0 = zI (c : Int) := by simp [zCs, List.getD, hci]
    obtain ⟨a1, e1, e2, e3⟩ := ct_takesPart hP (c := (c : Int)) (by omega)
    have hdr : cs.drop (i + 1) = rest := by rw [← List.tail_drop, hi]; rfl
    rw [zFol]
    cases hb : (zPart X L (c : Int) s).1
    ·
      rw [if_neg (by decide)]
      refine ⟨a1, ?_, e2, e3⟩
      refine gm_go.ru (gm_iload_n dX7_follows_15 rfl) ?_
      refine gm_go.ru (gm_aload_n dX7_follows_16 rfl (by first | exact Or.inl ⟨_, rfl⟩ | exact Or.inr ⟨_, rfl⟩)) ?_
      refine gm_go.ru (gm_cV dX7_follows_17 (ct_lengthK hk) rfl mt_J0_length_8abf5 mv_J0_length_8abf5 (lk_X7_70 rfl) (Or.inr ⟨_, rfl, hk.2.2.1⟩) rfl (Nat.le_of_ble_eq_true rfl) (by decide)) ?_
      rw [hlen]
      refine gm_go.ru (gi_icmp_ge_f 43 dX7_follows_20 (by decide) (by omega) (by omega) (by omega)) ?_
      refine gm_go.ru (gm_aload_n dX7_follows_23 rfl (by first | exact Or.inl ⟨_, rfl⟩ | exact Or.inr ⟨_, rfl⟩)) ?_
      refine gm_go.ru (gm_aload_n dX7_follows_24 rfl (by first | exact Or.inl ⟨_, rfl⟩ | exact Or.inr ⟨_, rfl⟩)) ?_
      refine gm_go.ru (gm_iload_n dX7_follows_25 rfl) ?_
      refine gm_go.ru (gm_cV dX7_follows_26 (ct_charAtK hk (i := i) (by omega) hx hc128) rfl mt_J0_charAt_5068e mv_J0_charAt_5068e (lk_X7_75 rfl) (Or.inr ⟨_, rfl, hk.2.2.1⟩) rfl (Nat.le_of_ble_eq_true rfl) (by decide)) ?_
      refine gm_go.ru (gm_cV dX7_follows_29 (e1) rfl mt_X7_takesPart mv_X7_takesPart (lk_X7_79 rfl) (Or.inl ⟨_, 9, _, _, _, rfl, h1, rfl⟩) rfl (Nat.le_of_ble_eq_true rfl) (by decide)) ?_
      rw [hb]
      refine gm_go.ru (gi_if_ne_f 37 dX7_follows_32 (by decide) (by decide) (by decide)) ?_
      refine gm_go.ru (gi_const dX7_follows_35) ?_
      exact gm_zret' dX7_follows_36 rfl rfl
    ·
      rw [if_pos rfl]
      obtain ⟨h', k1, k2, k3⟩ := ih (i + 1) (zPart X L (c : Int) s).2 a1 hdr (by omega) e2
      refine ⟨h', ?_, k2, gh_tr e3 k3⟩
      refine gm_go.ru (gm_iload_n dX7_follows_15 rfl) ?_
      refine gm_go.ru (gm_aload_n dX7_follows_16 rfl (by first | exact Or.inl ⟨_, rfl⟩ | exact Or.inr ⟨_, rfl⟩)) ?_
      refine gm_go.ru (gm_cV dX7_follows_17 (ct_lengthK hk) rfl mt_J0_length_8abf5 mv_J0_length_8abf5 (lk_X7_70 rfl) (Or.inr ⟨_, rfl, hk.2.2.1⟩) rfl (Nat.le_of_ble_eq_true rfl) (by decide)) ?_
      rw [hlen]
      refine gm_go.ru (gi_icmp_ge_f 43 dX7_follows_20 (by decide) (by omega) (by omega) (by omega)) ?_
      refine gm_go.ru (gm_aload_n dX7_follows_23 rfl (by first | exact Or.inl ⟨_, rfl⟩ | exact Or.inr ⟨_, rfl⟩)) ?_
      refine gm_go.ru (gm_aload_n dX7_follows_24 rfl (by first | exact Or.inl ⟨_, rfl⟩ | exact Or.inr ⟨_, rfl⟩)) ?_
      refine gm_go.ru (gm_iload_n dX7_follows_25 rfl) ?_
      refine gm_go.ru (gm_cV dX7_follows_26 (ct_charAtK hk (i := i) (by omega) hx hc128) rfl mt_J0_charAt_5068e mv_J0_charAt_5068e (lk_X7_75 rfl) (Or.inr ⟨_, rfl, hk.2.2.1⟩) rfl (Nat.le_of_ble_eq_true rfl) (by decide)) ?_
      refine gm_go.ru (gm_cV dX7_follows_29 (e1) rfl mt_X7_takesPart mv_X7_takesPart (lk_X7_79 rfl) (Or.inl ⟨_, 9, _, _, _, rfl, h1, rfl⟩) rfl (Nat.le_of_ble_eq_true rfl) (by decide)) ?_
      rw [hb]
      refine gm_go.ru (gi_if_ne_t (tgt := 37) dX7_follows_32 (by decide) (by decide) (by decide)) ?_
      refine gm_go.ru (gi_iinc (ls' := [_, _, _]) dX7_follows_37 rfl (by decide) rfl) ?_
      refine gm_go.ru (gm_goto (tgt := 15) dX7_follows_40 (by decide)) ?_
      exact k1
set_option maxRecDepth 4000 in
theorem ct_follows {h : gm_H} {g L p w k k9 b : Nat} {X N : Nat → Int} {cs : List Nat} (hP : pg_at h g X L p w N k) (hk : ks_at k9 b (zCs cs)) (hall : cs.all (fun c => c < 128) = true) : ∃ h', gm_co mX7_follows 5 [.ref g, .retAddr k9] h (.inl (some (.int (zI (zB (zFol X L cs (p, (zN0 N, 0))).1))))) h' ∧ pg_st h' g X L w (zFol X L cs (p, (zN0 N, 0))).2 ∧ gh_fr h h' (pg_K g) := by
  obtain ⟨h1, h2, h3, hL, hp, hX, hk3⟩ := id hP
  obtain ⟨q, q1, q2, q3⟩ := ct_fill (z := 0) h3 (by omega)
  have g1 := gh_at q3 h1 (by omega)
  have g2 := gh_at q3 h2 (by omega)
  obtain ⟨a1, ha1⟩ : ∃ x : gm_H, x = (q.1.set g (pg_c g L p w 0), q.2) := ⟨_, rfl⟩
  have hS : pg_st a1 g X L w (p, (zN0 N, 0)) := by rw [ha1]; exact ⟨gs_s g1, gs_n g2 (by omega), gs_n q2 (by omega), hL, hp, hX, Nat.zero_le 3⟩
  have hF : gh_fr h a1 (pg_K g) := by rw [ha1]; exact gh_set (gh_mono q3 fun x hx => ⟨by omega, by omega⟩) ⟨by omega, by omega⟩ _
  obtain ⟨h', e1, e2, e3⟩ := fo_in hk hall cs 0 (p, (zN0 N, 0)) a1 rfl (by omega) hS
  refine ⟨h', ?_, e2, gh_tr hF e3⟩
  refine gm_co_of _ (by decide +kernel) rfl (Nat.le_of_ble_eq_true rfl) rfl ?_
  refine gm_go.ru (gm_aload_n dX7_follows_0 rfl (by first | exact Or.inl ⟨_, rfl⟩ | exact Or.inr ⟨_, rfl⟩)) ?_
  refine gm_go.ru (gm_get dX7_follows_1 (fl_X7_24 rfl) h1 rfl) ?_
  refine gm_go.ru (gi_const dX7_follows_4) ?_
  refine gm_go.ru (gm_cS0 dX7_follows_5 (q1) rfl mt_J7_fill_53178 ms_J7_fill_53178 (lk_X7_61 rfl) rfl (Nat.le_of_ble_eq_true rfl) (by decide)) ?_
  refine gm_go.ru (gm_aload_n dX7_follows_8 rfl (by first | exact Or.inl ⟨_, rfl⟩ | exact Or.inr ⟨_, rfl⟩)) ?_
  refine gm_go.ru (gi_const dX7_follows_9) ?_
  refine gm_go.ru (gm_put dX7_follows_10 (fp_X7_67 rfl) g1 (Nat.le_of_ble_eq_true rfl) (by first | exact ⟨rfl, rfl⟩ | exact trivial)) ?_
  refine gm_hp ha1 ?_
  refine gm_go.ru (gi_const dX7_follows_13) ?_
  refine gm_go.ru (gm_istore_n (ls' := [_, _, _]) dX7_follows_14 (by decide) rfl) ?_
  exact e1
