theorem slq_J0_1053 {M : gm_M} (h : M.1.cls = RJ0) : Cond.fieldLink M.1.cls 1053 "jdk/internal/util/Preconditions" "SIOOBE_FORMATTER" "Ljava/util/function/BiFunction;" ∈ gm_big := by rw [h]; exact gm_in (i := 1048) (by decide +kernel) (by decide +kernel)
theorem sl_J0_9 {M : gm_M} (h : M.1.cls = RJ0) : gm_sl M 9 "java/lang/String" "value" "[B" := Or.inl (by rw [h]; exact gm_in (i := 1186) (by decide +kernel) (by decide +kernel))
theorem sl_J0_15 {M : gm_M} (h : M.1.cls = RJ0) : gm_sl M 15 "java/lang/String" "coder" "B" := Or.inl (by rw [h]; exact gm_in (i := 1187) (by decide +kernel) (by decide +kernel))
theorem gi_kb {M : gm_M} {d pc : Nat} {ls : List (Option Value)} {st : List Value} {h : gm_H} {k w : Nat} {x : Int} {l : List Int32} (hd : decode M.2.1 pc = .ok (.baload, 1)) (hz : (k, .byte, l) ∈ gm_Kb) (hw : w < l.length) (hb : l.length ≤ 2147483647) (hx : l.getD w 0 = zI x) : gm_go M d (pc, ls, .int (zI (w : Int)) :: .retAddr k :: st, h) (pc + 1, ls, .int (zI x) :: st, h) := by
  have h0 : (zI (w : Int)).toNatClampNeg = w := by rw [zI_cl (by omega)]; omega
  have h1 := gm_kb (M := M) (d := d) (ls := ls) (st := st) (h := h) hd (ka_b hz) (zI_in (a := (w : Int)) (by omega) (by omega) hb) rfl
  rw [h0, hx] at h1
  exact h1
theorem zCh_nar : ∀ c : Nat, c < 128 → narrow .char (.int (zI (c : Int))) = .int (zI (c : Int)) := by decide +kernel
theorem zCh_and : ∀ c : Nat, c < 128 → c &&& 255 = c := by decide +kernel
/-- a constant string: its place k, that of its bytes b, its bytes l -/
def ks_at (k b : Nat) (l : List Int32) : Prop := (k, "java/lang/String", "value", "[B", Value.retAddr b) ∈ gm_Kf ∧ (k, "java/lang/String", "coder", "B", Value.int (zI 0)) ∈ gm_Kf ∧ (k, "java/lang/String") ∈ gm_Ko ∧ (b, .byte, l) ∈ gm_Kb ∧ l.length ≤ 1000
set_option maxRecDepth 4000 in
theorem ct_coderK {h : gm_H} {k b : Nat} {l : List Int32} (hk : ks_at k b l) : gm_co mJ0_coder_7d493 1 [.retAddr k] h (.inl (some (.int (zI 0)))) h := by
  first
  | refine gm_co_of _ (by decide +kernel) rfl (Nat.le_of_ble_eq_true rfl) rfl ?_
  | refine gm_co_ofF _ (by decide +kernel) rfl (Nat.le_of_ble_eq_true rfl) rfl ?_
  refine gm_go.ru (gm_gets (v := .int (zI 1)) dJ0_coder_7d493_0 (by decide +kernel) (sl_J0_38 rfl) rfl) ?_
  refine gm_go.ru (gi_if_eq_f 13 dJ0_coder_7d493_3 (by decide) (by decide) (by decide)) ?_
  refine gm_go.ru (gm_aload_n dJ0_coder_7d493_6 rfl (by first | exact Or.inl ⟨_, rfl⟩ | exact Or.inr ⟨_, rfl⟩)) ?_
  refine gm_go.ru (gm_getk dJ0_coder_7d493_7 hk.2.1 (sl_J0_15 rfl) rfl) ?_
  refine gm_go.ru (gm_goto (tgt := 14) dJ0_coder_7d493_10 (by decide)) ?_
  exact gm_zret dJ0_coder_7d493_14 rfl (by decide +kernel)
set_option maxRecDepth 4000 in
theorem ct_isLatin1K {h : gm_H} {k b : Nat} {l : List Int32} (hk : ks_at k b l) : gm_co mJ0_isLatin1_aae02 1 [.retAddr k] h (.inl (some (.int (zI 1)))) h := by
  first
  | refine gm_co_of _ (by decide +kernel) rfl (Nat.le_of_ble_eq_true rfl) rfl ?_
  | refine gm_co_ofF _ (by decide +kernel) rfl (Nat.le_of_ble_eq_true rfl) rfl ?_
  refine gm_go.ru (gm_gets (v := .int (zI 1)) dJ0_isLatin1_aae02_0 (by decide +kernel) (sl_J0_38 rfl) rfl) ?_
  refine gm_go.ru (gi_if_eq_f 17 dJ0_isLatin1_aae02_3 (by decide) (by decide) (by decide)) ?_
  refine gm_go.ru (gm_aload_n dJ0_isLatin1_aae02_6 rfl (by first | exact Or.inl ⟨_, rfl⟩ | exact Or.inr ⟨_, rfl⟩)) ?_
  refine gm_go.ru (gm_getk dJ0_isLatin1_aae02_7 hk.2.1 (sl_J0_15 rfl) rfl) ?_
  refine gm_go.ru (gi_if_ne_f 17 dJ0_isLatin1_aae02_10 (by decide) (by decide) rfl) ?_
  refine gm_go.ru (gi_const dJ0_isLatin1_aae02_13) ?_
  refine gm_go.ru (gm_goto (tgt := 18) dJ0_isLatin1_aae02_14 (by decide)) ?_
  exact gm_zret dJ0_isLatin1_aae02_18 rfl (by decide +kernel)
set_option maxRecDepth 4000 in
theorem ct_lengthK {h : gm_H} {k b : Nat} {l : List Int32} (hk : ks_at k b l) : gm_co mJ0_length_8abf5 2 [.retAddr k] h (.inl (some (.int (zI (l.length : Int))))) h := by
  first
  | refine gm_co_of _ (by decide +kernel) rfl (Nat.le_of_ble_eq_true rfl) rfl ?_
  | refine gm_co_ofF _ (by decide +kernel) rfl (Nat.le_of_ble_eq_true rfl) rfl ?_
  refine gm_go.ru (gm_aload_n dJ0_length_8abf5_0 rfl (by first | exact Or.inl ⟨_, rfl⟩ | exact Or.inr ⟨_, rfl⟩)) ?_
  refine gm_go.ru (gm_getk dJ0_length_8abf5_1 hk.1 (sl_J0_9 rfl) rfl) ?_
  refine gm_go.ru (gm_klen (x := zI (l.length : Int)) dJ0_length_8abf5_4 (ka_b hk.2.2.2.1) (zI_nat _).symm) ?_
  refine gm_go.ru (gm_aload_n dJ0_length_8abf5_5 rfl (by first | exact Or.inl ⟨_, rfl⟩ | exact Or.inr ⟨_, rfl⟩)) ?_
  refine gm_go.ru (gm_cV dJ0_length_8abf5_6 (ct_coderK hk) rfl mt_J0_coder_7d493 mv_J0_coder_7d493 (lk_J0_335 rfl) (Or.inr ⟨_, rfl, hk.2.2.1⟩) rfl (Nat.le_of_ble_eq_true rfl) (by decide)) ?_
  refine gm_go.ru (gi_shr (k := 0) dJ0_length_8abf5_9 (by have := hk.2.2.2.2; omega) (by decide)) ?_
  exact gm_iret' dJ0_length_8abf5_10 rfl (congrArg zI (by simp)) rfl
set_option maxRecDepth 4000 in
theorem ct_checkIndex3 {h : gm_H} {i n : Int} (hi : 0 ≤ i ∧ i < n) (hn : n ≤ 2147483647) : gm_co mJ3_checkIndex_8e157 1 [.int (zI i), .int (zI n), .null] h (.inl (some (.int (zI i)))) h := by
  first
  | refine gm_co_of _ (by decide +kernel) rfl (Nat.le_of_ble_eq_true rfl) rfl ?_
  | refine gm_co_ofF _ (by decide +kernel) rfl (Nat.le_of_ble_eq_true rfl) rfl ?_
  refine gm_go.ru (gm_iload_n dJ3_checkIndex_8e157_0 rfl) ?_
  refine gm_go.ru (gi_if_lt_f 9 dJ3_checkIndex_8e157_1 (by decide) (by omega) (by omega)) ?_
  refine gm_go.ru (gm_iload_n dJ3_checkIndex_8e157_4 rfl) ?_
  refine gm_go.ru (gm_iload_n dJ3_checkIndex_8e157_5 rfl) ?_
  refine gm_go.ru (gi_icmp_lt_t (tgt := 16) dJ3_checkIndex_8e157_6 (by decide) (by omega) (by omega) (by omega)) ?_
  refine gm_go.ru (gm_iload_n dJ3_checkIndex_8e157_16 rfl) ?_
  exact gm_iret dJ3_checkIndex_8e157_17 rfl
set_option maxRecDepth 4000 in
theorem ct_checkIndex0 {h : gm_H} {i n : Int} (hi : 0 ≤ i ∧ i < n) (hn : n ≤ 2147483647) : gm_co mJ0_checkIndex_df160 2 [.int (zI i), .int (zI n)] h (.inl none) h := by
  first
  | refine gm_co_of _ (by decide +kernel) rfl (Nat.le_of_ble_eq_true rfl) rfl ?_
  | refine gm_co_ofF _ (by decide +kernel) rfl (Nat.le_of_ble_eq_true rfl) rfl ?_
  refine gm_go.ru (gm_iload_n dJ0_checkIndex_df160_0 rfl) ?_
  refine gm_go.ru (gm_iload_n dJ0_checkIndex_df160_1 rfl) ?_
  refine gm_go.ru (gm_getsq dJ0_checkIndex_df160_2 (by decide +kernel) (slq_J0_1053 rfl)) ?_
  refine gm_go.ru (gm_cS dJ0_checkIndex_df160_5 (ct_checkIndex3 hi hn) rfl mt_J3_checkIndex_8e157 ms_J3_checkIndex_8e157 (lk_J0_1059 rfl) rfl (Nat.le_of_ble_eq_true rfl) (by decide)) ?_
  refine gm_go.ru (gm_pop dJ0_checkIndex_df160_8 rfl) ?_
  exact gm_vret dJ0_checkIndex_df160_9 rfl
set_option maxRecDepth 4000 in
theorem ct_charAt1K {h : gm_H} {k b : Nat} {l : List Int32} (hk : ks_at k b l) {i c : Nat} (hi : i < l.length) (hx : l.getD i 0 = zI (c : Int)) (hc : c < 128) : gm_co mJ1_charAt_3b067 3 [.retAddr b, .int (zI (i : Int))] h (.inl (some (.int (zI (c : Int))))) h := by
  first
  | refine gm_co_of _ (by decide +kernel) rfl (Nat.le_of_ble_eq_true rfl) rfl ?_
  | refine gm_co_ofF _ (by decide +kernel) rfl (Nat.le_of_ble_eq_true rfl) rfl ?_
  refine gm_go.ru (gm_iload_n dJ1_charAt_3b067_0 rfl) ?_
  refine gm_go.ru (gm_aload_n dJ1_charAt_3b067_1 rfl (by first | exact Or.inl ⟨_, rfl⟩ | exact Or.inr ⟨_, rfl⟩)) ?_
  refine gm_go.ru (gm_klen (x := zI (l.length : Int)) dJ1_charAt_3b067_2 (ka_b hk.2.2.2.1) (zI_nat _).symm) ?_
  have hl9 := hk.2.2.2.2
  refine gm_go.ru (gm_cS0 dJ1_charAt_3b067_3 (ct_checkIndex0 (by omega) (by omega)) rfl mt_J0_checkIndex_df160 ms_J0_checkIndex_df160 (lk_J1_9 rfl) rfl (Nat.le_of_ble_eq_true rfl) (by decide)) ?_
  refine gm_go.ru (gm_aload_n dJ1_charAt_3b067_6 rfl (by first | exact Or.inl ⟨_, rfl⟩ | exact Or.inr ⟨_, rfl⟩)) ?_
  refine gm_go.ru (gm_iload_n dJ1_charAt_3b067_7 rfl) ?_
  refine gm_go.ru (gi_kb dJ1_charAt_3b067_8 hk.2.2.2.1 hi (by omega) hx) ?_
  refine gm_go.ru (gi_sipush dJ1_charAt_3b067_9 (by decide +kernel)) ?_
  refine gm_go.ru (gi_and (a := c) (b := 255) dJ1_charAt_3b067_12) ?_
  rw [zCh_and c hc]
  refine gm_go.ru (gi_i2c dJ1_charAt_3b067_13 (by omega) (by omega)) ?_
  exact gm_zret dJ1_charAt_3b067_14 rfl (zCh_nar c hc)
set_option maxRecDepth 4000 in
theorem ct_charAtK {h : gm_H} {k b : Nat} {l : List Int32} (hk : ks_at k b l) {i c : Nat} (hi : i < l.length) (hx : l.getD i 0 = zI (c : Int)) (hc : c < 128) : gm_co mJ0_charAt_5068e 4 [.retAddr k, .int (zI (i : Int))] h (.inl (some (.int (zI (c : Int))))) h := by
  first
  | refine gm_co_of _ (by decide +kernel) rfl (Nat.le_of_ble_eq_true rfl) rfl ?_
  | refine gm_co_ofF _ (by decide +kernel) rfl (Nat.le_of_ble_eq_true rfl) rfl ?_
  refine gm_go.ru (gm_aload_n dJ0_charAt_5068e_0 rfl (by first | exact Or.inl ⟨_, rfl⟩ | exact Or.inr ⟨_, rfl⟩)) ?_
  refine gm_go.ru (gm_cV dJ0_charAt_5068e_1 (ct_isLatin1K hk) rfl mt_J0_isLatin1_aae02 mv_J0_isLatin1_aae02 (lk_J0_492 rfl) (Or.inr ⟨_, rfl, hk.2.2.1⟩) rfl (Nat.le_of_ble_eq_true rfl) (by decide)) ?_
  refine gm_go.ru (gi_if_eq_f 16 dJ0_charAt_5068e_4 (by decide) (by decide) (by decide)) ?_
  refine gm_go.ru (gm_aload_n dJ0_charAt_5068e_7 rfl (by first | exact Or.inl ⟨_, rfl⟩ | exact Or.inr ⟨_, rfl⟩)) ?_
  refine gm_go.ru (gm_getk dJ0_charAt_5068e_8 hk.1 (sl_J0_9 rfl) rfl) ?_
  refine gm_go.ru (gm_iload_n dJ0_charAt_5068e_11 rfl) ?_
  refine gm_go.ru (gm_cS dJ0_charAt_5068e_12 (ct_charAt1K hk hi hx hc) rfl mt_J1_charAt_3b067 ms_J1_charAt_3b067 (lk_J0_495 rfl) rfl (Nat.le_of_ble_eq_true rfl) (by decide)) ?_
  exact gm_zret dJ0_charAt_5068e_15 rfl (zCh_nar c hc)
set_option maxRecDepth 4000 in
theorem ct_fill {h : gm_H} {q n : Nat} {z : Int} {F : Nat → Int} (hq : h.1[q]? = some (gA n F)) (hn : n ≤ 1000) : ∃ h', gm_co mJ7_fill_53178 1 [.ref q, .int (zI z)] h (.inl none) h' ∧ h'.1[q]? = some (gA n (fun k => if k < n then z else F k)) ∧ gh_fr h h' (fun k => k = q) := by
  obtain ⟨f', hgo, g, rfl, g1, hF⟩ := gl_up (M := mJ7_fill_53178) (d := 1) (fun j f => ∃ g, f = (5, [some (.ref q), some (.int (zI z)), some (.int (zI (j : Nat))), some (.int (zI (n : Nat)))], [], g) ∧ g.1[q]? = some (gA n (fun k => if k < j then z else F k)) ∧ gh_fr h g (fun k => k = q)) n (by
    rintro j f hj ⟨g, rfl, g1, hF⟩
    refine ⟨(5, [some (.ref q), some (.int (zI z)), some (.int (zI ((j + 1 : Nat) : Int))), some (.int (zI (n : Nat)))], [], (g.1.set q (gA n (zU (fun k => if k < j then z else F k) j z)), g.2)), ?_, _, rfl, ?_, gh_set (K := fun k => k = q) hF rfl _⟩
    ·
      refine gm_go_tr (gm_iload_n dJ7_fill_53178_5 rfl) ?_
      refine gm_go_tr (gm_iload_n dJ7_fill_53178_6 rfl) ?_
      refine gm_go_tr (gi_icmp_ge_f 20 dJ7_fill_53178_7 (by decide) (by omega) (by omega) (by omega)) ?_
      refine gm_go_tr (gm_aload_n dJ7_fill_53178_10 rfl (by first | exact Or.inl ⟨_, rfl⟩ | exact Or.inr ⟨_, rfl⟩)) ?_
      refine gm_go_tr (gm_iload_n dJ7_fill_53178_11 rfl) ?_
      refine gm_go_tr (gm_iload_n dJ7_fill_53178_12 rfl) ?_
      refine gm_go_tr (gi_ast dJ7_fill_53178_13 g1 (by omega) (by omega) (by omega)) ?_
      rw [Int.toNat_natCast]
      refine gm_go_tr (gi_iinc (ls' := [_, _, _, _]) dJ7_fill_53178_14 rfl (by decide) rfl) ?_
      exact gm_goto (tgt := 5) dJ7_fill_53178_17 (by decide)
    · have e : zU (fun k => if k < j then z else F k) j z = fun k => if k < j + 1 then z else F k := by
        funext k
        unfold zU
        by_cases e : k = j
        · rw [if_pos e, if_pos (by omega)]
        · rw [if_neg e]
          show (if k < j then z else F k) = _
          by_cases c : k < j
          · rw [if_pos c, if_pos (by omega)]
          · rw [if_neg c, if_neg (by omega)]
      rw [← e]; exact gs_s g1
    ) 0 (5, [some (.ref q), some (.int (zI z)), some (.int (zI (0 : Nat))), some (.int (zI (n : Nat)))], [], h) (by omega) ⟨h, rfl, by simpa using hq, gh_rf⟩
  refine ⟨g, ?_, g1, hF⟩
  first
  | refine gm_co_of _ (by decide +kernel) rfl (Nat.le_of_ble_eq_true rfl) rfl ?_
  | refine gm_co_ofF _ (by decide +kernel) rfl (Nat.le_of_ble_eq_true rfl) rfl ?_
  refine gm_go.ru (gi_const dJ7_fill_53178_0) ?_
  refine gm_go.ru (gm_istore_n (ls' := [_, _, _, _]) dJ7_fill_53178_1 (by decide) rfl) ?_
  refine gm_go.ru (gm_aload_n dJ7_fill_53178_2 rfl (by first | exact Or.inl ⟨_, rfl⟩ | exact Or.inr ⟨_, rfl⟩)) ?_
  refine gm_go.ru (gi_alen dJ7_fill_53178_3 hq) ?_
  refine gm_go.ru (gm_istore_n (ls' := [_, _, _, _]) dJ7_fill_53178_4 (by decide) rfl) ?_
  refine gm_go.ru hgo ?_
  refine gm_go.ru (gm_iload_n dJ7_fill_53178_5 rfl) ?_
  refine gm_go.ru (gm_iload_n dJ7_fill_53178_6 rfl) ?_
  refine gm_go.ru (gi_icmp_ge_t (tgt := 20) dJ7_fill_53178_7 (by decide) (by omega) (by omega) (by omega)) ?_
  exact gm_vret dJ7_fill_53178_20 rfl
