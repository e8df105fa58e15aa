/-! bytes -/
abbrev gB (n : Nat) (F : Nat → Int) : gm_cl := .inl (4, n, .inl (fun j => zI (F j)))
def zBy (F : Nat → Int) : Prop := ∀ k, 0 ≤ F k ∧ F k < 128
theorem zBy_nar : ∀ c : Nat, c < 128 → vp_nar .byte (zI (c : Int)) = zI (c : Int) := by decide +kernel
theorem zBy_i2b : ∀ c : Nat, c < 128 → (zI (c : Int)).toInt8.toInt32 = zI (c : Int) := by decide +kernel
theorem zBy_fit : ∀ c : Nat, c < 128 → fits .byte (.int (zI (c : Int))) = true := by decide +kernel
theorem zBy_u {F : Nat → Int} (h : zBy F) {k : Nat} {z : Int} (hz : 0 ≤ z ∧ z < 128) : zBy (zU F k z) := fun j => by
  by_cases e : j = k
  · rw [e, zU_s]; exact hz
  · rw [zU_n e]; exact h j
theorem gi_bald {M : gm_M} {d pc : Nat} {ls : List (Option Value)} {st : List Value} {h : gm_H} {k n : Nat} {a : Int} {F : Nat → Int} (hd : decode M.2.1 pc = .ok (.baload, 1)) (hk : h.1[k]? = some (gB n F)) (h0 : 0 ≤ a) (h1 : a < n) (hn : n ≤ 2147483647) : gm_go M d (pc, ls, .int (zI a) :: .ref k :: st, h) (pc + 1, ls, .int (zI (F a.toNat)) :: st, h) := by
  have h9 := gm_bald (st := st) (ls := ls) (d := d) (i := zI a) hd hk (zI_in h0 h1 hn)
  rw [zI_cl (by omega)] at h9
  exact h9
theorem gi_bast {M : gm_M} {d pc : Nat} {ls : List (Option Value)} {st : List Value} {h : gm_H} {k n : Nat} {a z : Int} {F : Nat → Int} (hd : decode M.2.1 pc = .ok (.bastore, 1)) (hk : h.1[k]? = some (gB n F)) (h0 : 0 ≤ a) (h1 : a < n) (hn : n ≤ 2147483647) (hz : 0 ≤ z) (hz2 : z < 128) : gm_go M d (pc, ls, .int (zI z) :: .int (zI a) :: .ref k :: st, h) (pc + 1, ls, st, (h.1.set k (gB n (zU F a.toNat z)), h.2)) := by
  obtain ⟨c, rfl⟩ : ∃ c : Nat, z = (c : Int) := ⟨z.toNat, by omega⟩
  have h9 := gm_bast (st := st) (ls := ls) (d := d) (i := zI a) (x := zI (c : Int)) hd hk (zI_in h0 h1 hn)
  rw [zI_cl (by omega), zBy_nar c (by omega), gA_up] at h9
  exact h9
theorem gi_i2b {M : gm_M} {d pc : Nat} {ls : List (Option Value)} {st : List Value} {h : gm_H} {z : Int} (hd : decode M.2.1 pc = .ok (.i2b, 1)) (h0 : 0 ≤ z) (h1 : z < 128) : gm_go M d (pc, ls, .int (zI z) :: st, h) (pc + 1, ls, .int (zI z) :: st, h) := by
  obtain ⟨c, rfl⟩ : ∃ c : Nat, z = (c : Int) := ⟨z.toNat, by omega⟩
  have h9 := gm_i2b (st := st) (ls := ls) (d := d) (h := h) (x := zI (c : Int)) hd
  rw [zBy_i2b c (by omega)] at h9
  exact h9
theorem z_sh0 (x : Int32) : x <<< (zI 0 &&& 31) = x ∧ x >>> (zI 0 &&& 31) = x := by
  rw [show zI 0 &&& 31 = 0 by decide]
  constructor <;> simp
theorem gi_shl0 {M : gm_M} {d pc : Nat} {ls : List (Option Value)} {st : List Value} {h : gm_H} {x : Int32} (hd : decode M.2.1 pc = .ok (.ishl, 1)) : gm_go M d (pc, ls, .int (zI 0) :: .int x :: st, h) (pc + 1, ls, .int x :: st, h) := by
  have h9 := gm_ishl (st := st) (ls := ls) (d := d) (h := h) (x := x) (y := zI 0) hd
  rw [(z_sh0 x).1] at h9
  exact h9
theorem gi_shr0 {M : gm_M} {d pc : Nat} {ls : List (Option Value)} {st : List Value} {h : gm_H} {x : Int32} (hd : decode M.2.1 pc = .ok (.ishr, 1)) : gm_go M d (pc, ls, .int (zI 0) :: .int x :: st, h) (pc + 1, ls, .int x :: st, h) := by
  have h9 := gm_ishr (st := st) (ls := ls) (d := d) (h := h) (x := x) (y := zI 0) hd
  rw [(z_sh0 x).2] at h9
  exact h9
theorem gi_blen {M : gm_M} {d pc : Nat} {ls : List (Option Value)} {st : List Value} {h : gm_H} {k n : Nat} {F : Nat → Int} (hd : decode M.2.1 pc = .ok (.arraylength, 1)) (hk : h.1[k]? = some (gB n F)) : gm_go M d (pc, ls, .ref k :: st, h) (pc + 1, ls, .int (zI n) :: st, h) := gm_alen hd hk (zI_nat n).symm
theorem z_neg {n : Nat} (hn : n ≤ 2147483647) : ¬ zI (n : Int) < 0 := by rw [zI_0, zI_lt (by omega) zR_0]; omega
theorem z_cl {n : Nat} (hn : n ≤ 2147483647) : (zI (n : Int)).toNatClampNeg = n := by rw [zI_cl (by omega)]; omega
theorem gi_copyB {M : gm_M} {d pc : Nat} {ls : List (Option Value)} {st : List Value} {h : gm_H} {index k0 k1 n0 n1 n : Nat} {F G : Nat → Int} (hd : decode M.2.1 pc = .ok (.invokestatic index, 3)) (hw : gm_cp M index) (hk0 : h.1[k0]? = some (gB n0 F)) (hk1 : h.1[k1]? = some (gB n1 G)) (hF : zBy F)
    (h4 : n ≤ n0) (h5 : n ≤ n1) (hn : n ≤ 2147483647) (hrest : (st.map fun v => v.category).sum ≤ 8) (hdd : 1 ≤ d) :
    gm_go M d (pc, ls, .int (zI n) :: .int (zI 0) :: .ref k1 :: .int (zI 0) :: .ref k0 :: st, h) (pc + 3, ls, st, (h.1.set k1 (gB n1 (zCp F G n)), h.2)) := by
  have hc : (zI (n : Int)).toNatClampNeg = n := z_cl hn
  have h0 : (zI 0).toNatClampNeg = 0 := rfl
  have h9 := gm_copy (st := st) (ls := ls) (d := d) (t := 4) (sp := zI 0) (dp := zI 0) (n := zI n) hd hw rfl hk0 hk1 rfl (by decide) (by decide) (z_neg hn) (by rw [h0, hc]; omega) (by rw [h0, hc]; omega) (fun i hi => by
    have h1 := hF ((zI 0).toNatClampNeg + i)
    have h2 := zBy_fit (F ((zI 0).toNatClampNeg + i)).toNat (by omega)
    rwa [Int.toNat_of_nonneg h1.1] at h2) hrest hdd
  rw [h0, hc] at h9
  have e : va_cpy (fun j => zI (F j)) (fun j => zI (G j)) 0 0 n = fun j => zI (zCp F G n j) := by
    funext j
    unfold va_cpy zCp
    by_cases hj : j < n
    · rw [if_pos ⟨Nat.zero_le _, by omega⟩, if_pos hj]
      simp
    · rw [if_neg (by omega), if_neg hj]
  rw [e] at h9
  exact h9
theorem gi_copyK {M : gm_M} {d pc : Nat} {ls : List (Option Value)} {st : List Value} {h : gm_H} {index b k1 n1 c y : Nat} {G : Nat → Int} (hd : decode M.2.1 pc = .ok (.invokestatic index, 3)) (hw : gm_cp M index) (hk0 : (b, FieldType.byte, [zI 32, zI (y : Int)]) ∈ gm_Kb) (hk1 : h.1[k1]? = some (gB n1 G)) (hy : y < 128)
    (h5 : c + 2 ≤ n1) (hn : n1 ≤ 2147483647) (hrest : (st.map fun v => v.category).sum ≤ 8) (hdd : 1 ≤ d) :
    gm_go M d (pc, ls, .int (zI 2) :: .int (zI (c : Int)) :: .ref k1 :: .int (zI 0) :: .retAddr b :: st, h) (pc + 3, ls, st, (h.1.set k1 (gB n1 (zU (zU G c 32) (c + 1) (y : Int))), h.2)) := by
  have hc : (zI (c : Int)).toNatClampNeg = c := z_cl (by omega)
  have h0 : (zI 0).toNatClampNeg = 0 := rfl
  have h2 : (zI 2).toNatClampNeg = 2 := by decide
  have h9 := gm_copyt (st := st) (ls := ls) (d := d) (sp := zI 0) (dp := zI (c : Int)) (n := zI 2) (f := fun j => [zI 32, zI (y : Int)].getD j 0) (n0 := 2) hd hw (ka_b hk0) hk1 (by decide) (z_neg (by omega)) (by decide) (by rw [h0, h2]; omega) (by rw [hc, h2]; omega) (fun i hi => by
    rw [h2] at hi
    rw [h0]
    match i, hi with
    | 0, _ => exact zBy_fit 32 (by decide)
    | 1, _ => exact zBy_fit y hy
    | i + 2, hi => exact absurd hi (by omega)) hrest hdd
  rw [h0, hc, h2] at h9
  have e : va_cpy (fun j => [zI 32, zI (y : Int)].getD j 0) (fun j => zI (G j)) 0 c 2 = fun j => zI (zU (zU G c 32) (c + 1) (y : Int) j) := by
    funext j
    unfold va_cpy
    by_cases hj : c ≤ j ∧ j < c + 2
    · rw [if_pos hj]
      by_cases e1 : j = c
      · rw [e1, zU_n (by omega), zU_s, Nat.sub_self]; rfl
      · rw [show j = c + 1 by omega, zU_s, show 0 + (c + 1 - c) = 1 by omega]; rfl
    · rw [if_neg hj, zU_n (by omega), zU_n (by omega)]
  rw [e] at h9
  exact h9
/-! StringBuilder: s its cell, q the cell of its bytes and their room, G what stands in it, c how much -/
abbrev sbr_c (b : Nat) (ml : Int) (c : Nat) : gm_cl := .inr (1, [.ref b, .int (zI 0), .int (zI ml), .int (zI (c : Int))])
def sbr_at (h : gm_H) (s : Nat) (q : Nat × Nat) (G : Nat → Int) (c : Nat) : Prop := (q.2 = 16 ∨ q.2 = 34 ∨ q.2 = 70) ∧ q.1 ≠ s ∧ c ≤ q.2 ∧ ∃ ml F, h.1[s]? = some (sbr_c q.1 ml c) ∧ h.1[q.1]? = some (gB q.2 F) ∧ (∀ k, k < c → F k = G k) ∧ zBy F
def zq1 (c : Nat) : Nat := if c = 16 then 2 else if c = 34 then 1 else 0
def zq2 (c : Nat) : Nat := if c = 16 then 104 else if c = 34 then 70 else 0
theorem zq_s (c : Nat) (h : c = 16 ∨ c = 34) : zq1 (2 * c + 2) + 1 ≤ zq1 c ∧ zq2 (2 * c + 2) + (2 * c + 2) ≤ zq2 c := by rcases h with rfl | rfl <;> decide
/-- what a run of the builder at s leaves alone, and what room it takes -/
def sx (h h' : gm_H) (s : Nat) (q q' : Nat × Nat) : Prop := h.1.length ≤ h'.1.length ∧ (q'.1 = q.1 ∨ h.1.length ≤ q'.1) ∧ (∀ k, k < h.1.length → k ≠ s → k ≠ q.1 → h'.1[k]? = h.1[k]?) ∧ (h.2.1 ≤ h'.2.1 ∧ h'.2.1 + zq1 q'.2 ≤ h.2.1 + zq1 q.2) ∧ h.2.2 ≤ h'.2.2 ∧ h'.2.2 + zq2 q'.2 ≤ h.2.2 + zq2 q.2
theorem sx_rf {h : gm_H} {s : Nat} {q : Nat × Nat} : sx h h s q q := ⟨Nat.le_refl _, Or.inl rfl, fun _ _ _ _ => rfl, ⟨Nat.le_refl _, Nat.le_refl _⟩, Nat.le_refl _, Nat.le_refl _⟩
theorem sx_fr {h h' : gm_H} {s : Nat} {q : Nat × Nat} (f : gh_fr h h' (fun k => k = s ∨ k = q.1)) : sx h h' s q q := by
  obtain ⟨f1, f2, f3⟩ := f
  refine ⟨by omega, Or.inl rfl, fun k _ h1 h2 => f3 k (by omega), ?_, ?_⟩ <;> rw [f1] <;> omega
theorem sx_tr {a b c : gm_H} {s : Nat} {q r t : Nat × Nat} (f : sx a b s q r) (g : sx b c s r t) : sx a c s q t := by
  obtain ⟨f1, f2, f3, f4, f5, f6⟩ := f
  obtain ⟨g1, g2, g3, g4, g5, g6⟩ := g
  exact ⟨by omega, by omega, fun k hk h1 h2 => (g3 k (by omega) h1 (by omega)).trans (f3 k hk h1 h2), by omega, by omega, by omega⟩
set_option maxRecDepth 4000 in
theorem ct_sbLat {h : gm_H} {s : Nat} {q : Nat × Nat} {G : Nat → Int} {c : Nat} (hS : sbr_at h s q G c) : gm_co mJ5_isLatin1_aae02 1 [.ref s] h (.inl (some (.int (zI 1)))) h := by
  first
  | refine gm_co_of _ (by decide +kernel) rfl (Nat.le_of_ble_eq_true rfl) rfl ?_
  | refine gm_co_ofF _ (by decide +kernel) rfl (Nat.le_of_ble_eq_true rfl) rfl ?_
  obtain ⟨qc, qs, cq, ml, F, c1, c2, cF, cB⟩ := id hS
  refine gm_go.ru (gm_gets (v := .int (zI 1)) dJ5_isLatin1_aae02_0 (by decide +kernel) (sl_J5_18 rfl) rfl) ?_
  refine gm_go.ru (gi_if_eq_f 17 dJ5_isLatin1_aae02_3 (by decide) (by decide) (by decide)) ?_
  refine gm_go.ru (gm_aload_n dJ5_isLatin1_aae02_6 rfl (by first | exact Or.inl ⟨_, rfl⟩ | exact Or.inr ⟨_, rfl⟩)) ?_
  refine gm_go.ru (gm_get dJ5_isLatin1_aae02_7 (fl_J5_22 rfl) c1 rfl) ?_
  refine gm_go.ru (gi_if_ne_f 17 dJ5_isLatin1_aae02_10 (by decide) (by decide) rfl) ?_
  refine gm_go.ru (gi_const dJ5_isLatin1_aae02_13) ?_
  refine gm_go.ru (gm_goto (tgt := 18) dJ5_isLatin1_aae02_14 (by decide)) ?_
  exact gm_zret dJ5_isLatin1_aae02_18 rfl (by decide +kernel)
set_option maxRecDepth 4000 in
theorem ct_newLen {h : gm_H} {x y z : Int} (hx : 0 ≤ x ∧ x ≤ 1000) (hy : 0 ≤ y ∧ y ≤ 1000) (hz : 1 ≤ z ∧ z ≤ 1000) : gm_co mJ8_newLength_cabcc 2 [.int (zI x), .int (zI y), .int (zI z)] h (.inl (some (.int (zI (x + max y z))))) h := by
  first
  | refine gm_co_of _ (by decide +kernel) rfl (Nat.le_of_ble_eq_true rfl) rfl ?_
  | refine gm_co_ofF _ (by decide +kernel) rfl (Nat.le_of_ble_eq_true rfl) rfl ?_
  refine gm_go.ru (gm_iload_n dJ8_newLength_cabcc_0 rfl) ?_
  refine gm_go.ru (gm_iload_n dJ8_newLength_cabcc_1 rfl) ?_
  refine gm_go.ru (gm_iload_n dJ8_newLength_cabcc_2 rfl) ?_
  refine gm_go.ru (gm_cS dJ8_newLength_cabcc_3 (ct_max (by omega) (by omega)) rfl mt_J9_max_7cf53 ms_J9_max_7cf53 (lk_J8_194 rfl) rfl (Nat.le_of_ble_eq_true rfl) (by decide)) ?_
  refine gm_go.ru (gi_add dJ8_newLength_cabcc_6) ?_
  refine gm_go.ru (gm_istore_n (ls' := [_, _, _, _]) dJ8_newLength_cabcc_7 (by decide) rfl) ?_
  refine gm_go.ru (gi_const dJ8_newLength_cabcc_8) ?_
  refine gm_go.ru (gm_iload_n dJ8_newLength_cabcc_9 rfl) ?_
  refine gm_go.ru (gi_icmp_ge_f 21 dJ8_newLength_cabcc_10 (by decide) (by omega) (by omega) (by omega)) ?_
  refine gm_go.ru (gm_iload_n dJ8_newLength_cabcc_13 rfl) ?_
  refine gm_go.ru (gm_ldci (v := zI 2147483639) dJ8_newLength_cabcc_14 (kc_J8_200 rfl)) ?_
  refine gm_go.ru (gi_icmp_gt_f 21 dJ8_newLength_cabcc_16 (by decide) (by omega) (by omega) (by omega)) ?_
  refine gm_go.ru (gm_iload_n dJ8_newLength_cabcc_19 rfl) ?_
  exact gm_iret dJ8_newLength_cabcc_20 rfl
set_option maxRecDepth 4000 in
theorem ct_sbNew {h : gm_H} {s : Nat} {q : Nat × Nat} {G : Nat → Int} {c : Nat} (hS : sbr_at h s q G c) {mn : Int} (h1 : (q.2 : Int) < mn) (h2 : mn ≤ q.2 + 3) : gm_co mJ5_newCapacity_0f7a4 3 [.ref s, .int (zI mn)] h (.inl (some (.int (zI ((2 * q.2 + 2 : Nat) : Int))))) h := by
  first
  | refine gm_co_of _ (by decide +kernel) rfl (Nat.le_of_ble_eq_true rfl) rfl ?_
  | refine gm_co_ofF _ (by decide +kernel) rfl (Nat.le_of_ble_eq_true rfl) rfl ?_
  obtain ⟨qc, qs, cq, ml, F, c1, c2, cF, cB⟩ := id hS
  refine gm_go.ru (gm_aload_n dJ5_newCapacity_0f7a4_0 rfl (by first | exact Or.inl ⟨_, rfl⟩ | exact Or.inr ⟨_, rfl⟩)) ?_
  refine gm_go.ru (gm_get dJ5_newCapacity_0f7a4_1 (fl_J5_15 rfl) c1 rfl) ?_
  refine gm_go.ru (gi_blen dJ5_newCapacity_0f7a4_4 c2) ?_
  refine gm_go.ru (gm_istore_n (ls' := [_, _, _, _, _, _]) dJ5_newCapacity_0f7a4_5 (by decide) rfl) ?_
  refine gm_go.ru (gm_iload_n dJ5_newCapacity_0f7a4_6 rfl) ?_
  refine gm_go.ru (gm_aload_n dJ5_newCapacity_0f7a4_7 rfl (by first | exact Or.inl ⟨_, rfl⟩ | exact Or.inr ⟨_, rfl⟩)) ?_
  refine gm_go.ru (gm_get dJ5_newCapacity_0f7a4_8 (fl_J5_22 rfl) c1 rfl) ?_
  refine gm_go.ru (gi_shl0 dJ5_newCapacity_0f7a4_11) ?_
  refine gm_go.ru (gm_istore_n (ls' := [_, _, _, _, _, _]) dJ5_newCapacity_0f7a4_12 (by decide) rfl) ?_
  refine gm_go.ru (gm_iload_n dJ5_newCapacity_0f7a4_13 rfl) ?_
  refine gm_go.ru (gm_iload_n dJ5_newCapacity_0f7a4_14 rfl) ?_
  refine gm_go.ru (gi_sub dJ5_newCapacity_0f7a4_15) ?_
  refine gm_go.ru (gm_istore (ls' := [_, _, _, _, _, _]) dJ5_newCapacity_0f7a4_16 (by decide) rfl) ?_
  refine gm_go.ru (gm_iload_n dJ5_newCapacity_0f7a4_18 rfl) ?_
  refine gm_go.ru (gm_iload dJ5_newCapacity_0f7a4_19 rfl) ?_
  refine gm_go.ru (gm_iload_n dJ5_newCapacity_0f7a4_21 rfl) ?_
  refine gm_go.ru (gi_const dJ5_newCapacity_0f7a4_22) ?_
  refine gm_go.ru (gm_aload_n dJ5_newCapacity_0f7a4_23 rfl (by first | exact Or.inl ⟨_, rfl⟩ | exact Or.inr ⟨_, rfl⟩)) ?_
  refine gm_go.ru (gm_get dJ5_newCapacity_0f7a4_24 (fl_J5_22 rfl) c1 rfl) ?_
  refine gm_go.ru (gi_shl0 dJ5_newCapacity_0f7a4_27) ?_
  refine gm_go.ru (gi_add dJ5_newCapacity_0f7a4_28) ?_
  refine gm_go.ru (gm_cS dJ5_newCapacity_0f7a4_29 (ct_newLen (by omega) (by omega) (by omega)) rfl mt_J8_newLength_cabcc ms_J8_newLength_cabcc (lk_J5_114 rfl) rfl (Nat.le_of_ble_eq_true rfl) (by decide)) ?_
  refine gm_go.ru (gm_istore (ls' := [_, _, _, _, _, _]) dJ5_newCapacity_0f7a4_32 (by decide) rfl) ?_
  refine gm_go.ru (gm_iload dJ5_newCapacity_0f7a4_34 rfl) ?_
  refine gm_go.ru (gm_ldci (v := zI 2147483647) dJ5_newCapacity_0f7a4_36 (kc_J5_39 rfl)) ?_
  refine gm_go.ru (gi_icmp_ne_t (tgt := 51) dJ5_newCapacity_0f7a4_38 (by decide) (by omega) (by omega) (by omega)) ?_
  refine gm_go.ru (gm_iload dJ5_newCapacity_0f7a4_51 rfl) ?_
  refine gm_go.ru (gm_aload_n dJ5_newCapacity_0f7a4_53 rfl (by first | exact Or.inl ⟨_, rfl⟩ | exact Or.inr ⟨_, rfl⟩)) ?_
  refine gm_go.ru (gm_get dJ5_newCapacity_0f7a4_54 (fl_J5_22 rfl) c1 rfl) ?_
  refine gm_go.ru (gi_shr0 dJ5_newCapacity_0f7a4_57) ?_
  exact gm_iret' dJ5_newCapacity_0f7a4_58 rfl (congrArg zI (by omega)) rfl
set_option maxRecDepth 4000 in
theorem ct_copyOf {h : gm_H} {b n m : Nat} {F : Nat → Int} (hb : h.1[b]? = some (gB n F)) (hF : zBy F) (hnm : n < m) (hm : m ≤ 1000) : ∃ h', gm_co mJ7_copyOf_9075b 2 [.ref b, .int (zI (m : Int))] h (.inl (some (.ref h.1.length))) h' ∧ h'.1[h.1.length]? = some (gB m (zCp F (fun _ => 0) n)) ∧ h'.1.length = h.1.length + 1 ∧ (∀ k, k < h.1.length → h'.1[k]? = h.1[k]?) ∧ h'.2 = (h.2.1 + 1, h.2.2 + m) := by
  obtain ⟨a1, ha1⟩ : ∃ y9 : gm_H, y9 = (h.1 ++ [gB m (fun _ => 0)], (h.2.1 + 1, h.2.2 + m)) := ⟨_, rfl⟩
  have b1 : a1.1[b]? = some (gB n F) := by rw [ha1]; exact ga_l hb
  have b2 : a1.1[h.1.length]? = some (gB m (fun _ => 0)) := by rw [ha1]; exact ga_r rfl
  obtain ⟨a2, ha2⟩ : ∃ y9 : gm_H, y9 = (a1.1.set h.1.length (gB m (zCp F (fun _ => 0) n)), a1.2) := ⟨_, rfl⟩
  refine ⟨a2, ?_, by rw [ha2]; exact gs_s b2, by rw [ha2, ha1]; simp, fun k hk => by rw [ha2, ha1]; show ((h.1 ++ [gB m (fun _ => 0)]).set h.1.length _)[k]? = _; rw [List.getElem?_set_ne (by omega), List.getElem?_append_left hk], by rw [ha2, ha1]⟩
  refine gm_co_of _ (by decide +kernel) rfl (Nat.le_of_ble_eq_true rfl) rfl ?_
  refine gm_go.ru (gm_iload_n dJ7_copyOf_9075b_0 rfl) ?_
  refine gm_go.ru (gm_aload_n dJ7_copyOf_9075b_1 rfl (by first | exact Or.inl ⟨_, rfl⟩ | exact Or.inr ⟨_, rfl⟩)) ?_
  refine gm_go.ru (gi_blen dJ7_copyOf_9075b_2 hb) ?_
  refine gm_go.ru (gi_icmp_ne_t (tgt := 14) dJ7_copyOf_9075b_3 (by decide) (by omega) (by omega) (by omega)) ?_
  refine gm_go.ru (gm_iload_n dJ7_copyOf_9075b_14 rfl) ?_
  refine gm_go.ru (gm_newa_byte dJ7_copyOf_9075b_15 ac_byte (z_neg (by omega)) (z_cl (by omega)) (by omega)) ?_
  refine gm_hp ha1 ?_
  refine gm_go.ru (gm_astore_n (ls' := [_, _, _]) dJ7_copyOf_9075b_17 (by first | exact Or.inl ⟨_, rfl⟩ | exact Or.inr ⟨_, rfl⟩) (by decide) rfl) ?_
  refine gm_go.ru (gm_aload_n dJ7_copyOf_9075b_18 rfl (by first | exact Or.inl ⟨_, rfl⟩ | exact Or.inr ⟨_, rfl⟩)) ?_
  refine gm_go.ru (gi_const dJ7_copyOf_9075b_19) ?_
  refine gm_go.ru (gm_aload_n dJ7_copyOf_9075b_20 rfl (by first | exact Or.inl ⟨_, rfl⟩ | exact Or.inr ⟨_, rfl⟩)) ?_
  refine gm_go.ru (gi_const dJ7_copyOf_9075b_21) ?_
  refine gm_go.ru (gm_aload_n dJ7_copyOf_9075b_22 rfl (by first | exact Or.inl ⟨_, rfl⟩ | exact Or.inr ⟨_, rfl⟩)) ?_
  refine gm_go.ru (gi_blen dJ7_copyOf_9075b_23 b1) ?_
  refine gm_go.ru (gm_iload_n dJ7_copyOf_9075b_24 rfl) ?_
  refine gm_go.ru (gm_cS dJ7_copyOf_9075b_25 (ct_min (by omega) (by omega)) rfl mt_J9_min_7cf53 ms_J9_min_7cf53 (lk_J7_304 rfl) rfl (Nat.le_of_ble_eq_true rfl) (by decide)) ?_
  rw [show min (n : Int) (m : Int) = ((n : Nat) : Int) by omega]
  refine gm_go.ru (gi_copyB (n := n) dJ7_copyOf_9075b_28 (cp_J7_150 rfl) b1 b2 hF (by omega) (by omega) (by omega) (Nat.le_of_ble_eq_true rfl) (by decide)) ?_
  refine gm_hp ha2 ?_
  refine gm_go.ru (gm_aload_n dJ7_copyOf_9075b_31 rfl (by first | exact Or.inl ⟨_, rfl⟩ | exact Or.inr ⟨_, rfl⟩)) ?_
  exact gm_aret dJ7_copyOf_9075b_32 rfl (by first | exact Or.inl ⟨_, rfl⟩ | exact Or.inr ⟨_, rfl⟩) (by first | exact Or.inl ⟨_, rfl⟩ | exact Or.inr ⟨_, rfl⟩)
set_option maxRecDepth 4000 in
theorem ct_sbEns {h : gm_H} {s : Nat} {q : Nat × Nat} {G : Nat → Int} {c : Nat} (hS : sbr_at h s q G c) {mn : Int} (h0 : 0 ≤ mn) (h1 : mn ≤ c + 3) (h2 : mn ≤ 70) : ∃ h' q', gm_co mJ5_ensureCapacityInternal_d00df 4 [.ref s, .int (zI mn)] h (.inl none) h' ∧ sbr_at h' s q' G c ∧ mn ≤ q'.2 ∧ sx h h' s q q' := by
  obtain ⟨qc, qs, cq, ml, F, c1, c2, cF, cB⟩ := id hS
  by_cases cz : mn ≤ q.2
  ·
    refine ⟨h, q, ?_, hS, cz, sx_rf⟩
    refine gm_co_of _ (by decide +kernel) rfl (Nat.le_of_ble_eq_true rfl) rfl ?_
    refine gm_go.ru (gm_aload_n dJ5_ensureCapacityInternal_d00df_0 rfl (by first | exact Or.inl ⟨_, rfl⟩ | exact Or.inr ⟨_, rfl⟩)) ?_
    refine gm_go.ru (gm_get dJ5_ensureCapacityInternal_d00df_1 (fl_J5_15 rfl) c1 rfl) ?_
    refine gm_go.ru (gi_blen dJ5_ensureCapacityInternal_d00df_4 c2) ?_
    refine gm_go.ru (gm_aload_n dJ5_ensureCapacityInternal_d00df_5 rfl (by first | exact Or.inl ⟨_, rfl⟩ | exact Or.inr ⟨_, rfl⟩)) ?_
    refine gm_go.ru (gm_get dJ5_ensureCapacityInternal_d00df_6 (fl_J5_22 rfl) c1 rfl) ?_
    refine gm_go.ru (gi_shr0 dJ5_ensureCapacityInternal_d00df_9) ?_
    refine gm_go.ru (gm_istore_n (ls' := [_, _, _]) dJ5_ensureCapacityInternal_d00df_10 (by decide) rfl) ?_
    refine gm_go.ru (gm_iload_n dJ5_ensureCapacityInternal_d00df_11 rfl) ?_
    refine gm_go.ru (gm_iload_n dJ5_ensureCapacityInternal_d00df_12 rfl) ?_
    refine gm_go.ru (gi_sub dJ5_ensureCapacityInternal_d00df_13) ?_
    refine gm_go.ru (gi_if_le_t (tgt := 38) dJ5_ensureCapacityInternal_d00df_14 (by decide) (by omega) (by omega)) ?_
    exact gm_vret dJ5_ensureCapacityInternal_d00df_38 rfl
  ·
    have s9 := (List.getElem?_eq_some_iff.mp c1).1
    have b9 := (List.getElem?_eq_some_iff.mp c2).1
    obtain ⟨a1, e1, e2, e3, e4, e5⟩ := ct_copyOf c2 cB (m := 2 * q.2 + 2) (by omega) (by omega)
    have d1 : a1.1[s]? = some (sbr_c q.1 ml c) := (e4 s s9).trans c1
    obtain ⟨a2, ha2⟩ : ∃ y9 : gm_H, y9 = (a1.1.set s (sbr_c h.1.length ml c), a1.2) := ⟨_, rfl⟩
    refine ⟨a2, (h.1.length, 2 * q.2 + 2), ?_, ⟨by show 2 * q.2 + 2 = 16 ∨ 2 * q.2 + 2 = 34 ∨ 2 * q.2 + 2 = 70; omega, by show h.1.length ≠ s; omega, by show c ≤ 2 * q.2 + 2; omega, ml, _, by rw [ha2]; exact gs_s d1, by rw [ha2]; exact gs_n e2 (by omega), fun k hk => ?_, fun k => ?_⟩, by show mn ≤ ((2 * q.2 + 2 : Nat) : Int); omega, ?_⟩
    ·
      refine gm_co_of _ (by decide +kernel) rfl (Nat.le_of_ble_eq_true rfl) rfl ?_
      refine gm_go.ru (gm_aload_n dJ5_ensureCapacityInternal_d00df_0 rfl (by first | exact Or.inl ⟨_, rfl⟩ | exact Or.inr ⟨_, rfl⟩)) ?_
      refine gm_go.ru (gm_get dJ5_ensureCapacityInternal_d00df_1 (fl_J5_15 rfl) c1 rfl) ?_
      refine gm_go.ru (gi_blen dJ5_ensureCapacityInternal_d00df_4 c2) ?_
      refine gm_go.ru (gm_aload_n dJ5_ensureCapacityInternal_d00df_5 rfl (by first | exact Or.inl ⟨_, rfl⟩ | exact Or.inr ⟨_, rfl⟩)) ?_
      refine gm_go.ru (gm_get dJ5_ensureCapacityInternal_d00df_6 (fl_J5_22 rfl) c1 rfl) ?_
      refine gm_go.ru (gi_shr0 dJ5_ensureCapacityInternal_d00df_9) ?_
      refine gm_go.ru (gm_istore_n (ls' := [_, _, _]) dJ5_ensureCapacityInternal_d00df_10 (by decide) rfl) ?_
      refine gm_go.ru (gm_iload_n dJ5_ensureCapacityInternal_d00df_11 rfl) ?_
      refine gm_go.ru (gm_iload_n dJ5_ensureCapacityInternal_d00df_12 rfl) ?_
      refine gm_go.ru (gi_sub dJ5_ensureCapacityInternal_d00df_13) ?_
      refine gm_go.ru (gi_if_le_f 38 dJ5_ensureCapacityInternal_d00df_14 (by decide) (by omega) (by omega)) ?_
      refine gm_go.ru (gm_aload_n dJ5_ensureCapacityInternal_d00df_17 rfl (by first | exact Or.inl ⟨_, rfl⟩ | exact Or.inr ⟨_, rfl⟩)) ?_
      refine gm_go.ru (gm_aload_n dJ5_ensureCapacityInternal_d00df_18 rfl (by first | exact Or.inl ⟨_, rfl⟩ | exact Or.inr ⟨_, rfl⟩)) ?_
      refine gm_go.ru (gm_get dJ5_ensureCapacityInternal_d00df_19 (fl_J5_15 rfl) c1 rfl) ?_
      refine gm_go.ru (gm_aload_n dJ5_ensureCapacityInternal_d00df_22 rfl (by first | exact Or.inl ⟨_, rfl⟩ | exact Or.inr ⟨_, rfl⟩)) ?_
      refine gm_go.ru (gm_iload_n dJ5_ensureCapacityInternal_d00df_23 rfl) ?_
      refine gm_go.ru (gm_cV dJ5_ensureCapacityInternal_d00df_24 (ct_sbNew hS (by omega) (by omega)) rfl mt_J5_newCapacity_0f7a4 mv_J5_newCapacity_0f7a4 (lk_J5_104 rfl) (Or.inl ⟨_, 1, _, _, _, rfl, c1, rfl⟩) rfl (Nat.le_of_ble_eq_true rfl) (by decide)) ?_
      refine gm_go.ru (gm_aload_n dJ5_ensureCapacityInternal_d00df_27 rfl (by first | exact Or.inl ⟨_, rfl⟩ | exact Or.inr ⟨_, rfl⟩)) ?_
      refine gm_go.ru (gm_get dJ5_ensureCapacityInternal_d00df_28 (fl_J5_22 rfl) c1 rfl) ?_
      refine gm_go.ru (gi_shl0 dJ5_ensureCapacityInternal_d00df_31) ?_
      refine gm_go.ru (gm_cS dJ5_ensureCapacityInternal_d00df_32 (e1) rfl mt_J7_copyOf_9075b ms_J7_copyOf_9075b (lk_J5_108 rfl) rfl (Nat.le_of_ble_eq_true rfl) (by decide)) ?_
      refine gm_go.ru (gm_put dJ5_ensureCapacityInternal_d00df_35 (fp_J5_15 rfl) d1 (Nat.le_of_ble_eq_true rfl) (by first | exact ⟨rfl, rfl⟩ | exact trivial)) ?_
      refine gm_hp ha2 ?_
      exact gm_vret dJ5_ensureCapacityInternal_d00df_38 rfl
    · rw [← cF k hk]; unfold zCp; rw [if_pos (by omega)]
    · unfold zCp; split
      · exact cB k
      · show (0 : Int) ≤ 0 ∧ (0 : Int) < 128
        decide
    · have f1 : gh_fr a1 a2 (fun k => k = s) := by rw [ha2]; exact gh_set (K := fun k => k = s) gh_rf rfl _
      have l2 := f1.2.1
      have v2 := f1.1
      refine ⟨by omega, Or.inr (Nat.le_refl _), fun k hk h1 h2 => (f1.2.2 k h1).trans (e4 k hk), ?_⟩
      rw [v2, e5]
      have zs := zq_s q.2 (by omega)
      show (h.2.1 ≤ h.2.1 + 1 ∧ h.2.1 + 1 + zq1 (2 * q.2 + 2) ≤ h.2.1 + zq1 q.2) ∧ h.2.2 ≤ h.2.2 + (2 * q.2 + 2) ∧ h.2.2 + (2 * q.2 + 2) + zq2 (2 * q.2 + 2) ≤ h.2.2 + zq2 q.2
      omega
set_option maxRecDepth 4000 in
theorem ct_canEnc {h : gm_H} {x : Int} (hx : 0 ≤ x ∧ x < 128) : gm_co mJ1_canEncode_fc78d 1 [.int (zI x)] h (.inl (some (.int (zI 1)))) h := by
  first
  | refine gm_co_of _ (by decide +kernel) rfl (Nat.le_of_ble_eq_true rfl) rfl ?_
  | refine gm_co_ofF _ (by decide +kernel) rfl (Nat.le_of_ble_eq_true rfl) rfl ?_
  refine gm_go.ru (gm_iload_n dJ1_canEncode_fc78d_0 rfl) ?_
  refine gm_go.ru (gi_sipush dJ1_canEncode_fc78d_1 (by decide +kernel)) ?_
  refine gm_go.ru (gi_icmp_gt_f 11 dJ1_canEncode_fc78d_4 (by decide) (by omega) (by omega) (by omega)) ?_
  refine gm_go.ru (gi_const dJ1_canEncode_fc78d_7) ?_
  refine gm_go.ru (gm_goto (tgt := 12) dJ1_canEncode_fc78d_8 (by decide)) ?_
  exact gm_zret dJ1_canEncode_fc78d_12 rfl (by decide +kernel)
set_option maxRecDepth 4000 in
theorem ct_sbC5 {h : gm_H} {s : Nat} {q : Nat × Nat} {G : Nat → Int} {c : Nat} (hS : sbr_at h s q G c) {x : Int} (hx : 0 ≤ x ∧ x < 128) (hc : c ≤ 60) : ∃ h' q', gm_co mJ5_append_3fe6f 5 [.ref s, .int (zI x)] h (.inl (some (.ref s))) h' ∧ sbr_at h' s q' (zU G c x) (c + 1) ∧ sx h h' s q q' := by
  obtain ⟨qc, qs, cq, ml, F, c1, c2, cF, cB⟩ := id hS
  obtain ⟨a1, r, e1, e2, e3, e4⟩ := ct_sbEns hS (mn := (c : Int) + 1) (by omega) (by omega) (by omega)
  obtain ⟨rc, rs, cr, ml2, F2, d1, d2, dF, dB⟩ := id e2
  obtain ⟨a2, ha2⟩ : ∃ y9 : gm_H, y9 = (a1.1.set s (sbr_c r.1 ml2 (c + 1)), a1.2) := ⟨_, rfl⟩
  have g1 : a2.1[s]? = some (sbr_c r.1 ml2 (c + 1)) := by rw [ha2]; exact gs_s d1
  have g2 : a2.1[r.1]? = some (gB r.2 F2) := by rw [ha2]; exact gs_n d2 (by omega)
  obtain ⟨a3, ha3⟩ : ∃ y9 : gm_H, y9 = (a2.1.set r.1 (gB r.2 (zU F2 c x)), a2.2) := ⟨_, rfl⟩
  have f2 : gh_fr a1 a2 (fun k => k = s ∨ k = r.1) := by rw [ha2]; exact gh_set gh_rf (Or.inl rfl) _
  have f3 : gh_fr a2 a3 (fun k => k = s ∨ k = r.1) := by rw [ha3]; exact gh_set gh_rf (Or.inr rfl) _
  refine ⟨a3, r, ?_, ⟨rc, rs, by omega, ml2, zU F2 c x, by rw [ha3]; exact gs_n g1 (by omega), by rw [ha3]; exact gs_s g2, fun k hk => ?_, zBy_u dB hx⟩, sx_tr e4 (sx_fr (gh_tr f2 f3))⟩
  ·
    refine gm_co_of _ (by decide +kernel) rfl (Nat.le_of_ble_eq_true rfl) rfl ?_
    refine gm_go.ru (gm_aload_n dJ5_append_3fe6f_0 rfl (by first | exact Or.inl ⟨_, rfl⟩ | exact Or.inr ⟨_, rfl⟩)) ?_
    refine gm_go.ru (gm_aload_n dJ5_append_3fe6f_1 rfl (by first | exact Or.inl ⟨_, rfl⟩ | exact Or.inr ⟨_, rfl⟩)) ?_
    refine gm_go.ru (gm_get dJ5_append_3fe6f_2 (fl_J5_79 rfl) c1 rfl) ?_
    refine gm_go.ru (gi_const dJ5_append_3fe6f_5) ?_
    refine gm_go.ru (gi_add dJ5_append_3fe6f_6) ?_
    refine gm_go.ru (gm_cV0 dJ5_append_3fe6f_7 (e1) rfl mt_J5_ensureCapacityInternal_d00df mv_J5_ensureCapacityInternal_d00df (lk_J5_100 rfl) (Or.inl ⟨_, 1, _, _, _, rfl, c1, rfl⟩) rfl (Nat.le_of_ble_eq_true rfl) (by decide)) ?_
    refine gm_go.ru (gm_aload_n dJ5_append_3fe6f_10 rfl (by first | exact Or.inl ⟨_, rfl⟩ | exact Or.inr ⟨_, rfl⟩)) ?_
    refine gm_go.ru (gm_cV dJ5_append_3fe6f_11 (ct_sbLat e2) rfl mt_J5_isLatin1_aae02 mv_J5_isLatin1_aae02 (lk_J5_83 rfl) (Or.inl ⟨_, 1, _, _, _, rfl, d1, rfl⟩) rfl (Nat.le_of_ble_eq_true rfl) (by decide)) ?_
    refine gm_go.ru (gi_if_eq_f 45 dJ5_append_3fe6f_14 (by decide) (by decide) (by decide)) ?_
    refine gm_go.ru (gm_iload_n dJ5_append_3fe6f_17 rfl) ?_
    refine gm_go.ru (gm_cS dJ5_append_3fe6f_18 (ct_canEnc hx) rfl mt_J1_canEncode_fc78d ms_J1_canEncode_fc78d (lk_J5_191 rfl) rfl (Nat.le_of_ble_eq_true rfl) (by decide)) ?_
    refine gm_go.ru (gi_if_eq_f 45 dJ5_append_3fe6f_21 (by decide) (by decide) (by decide)) ?_
    refine gm_go.ru (gm_aload_n dJ5_append_3fe6f_24 rfl (by first | exact Or.inl ⟨_, rfl⟩ | exact Or.inr ⟨_, rfl⟩)) ?_
    refine gm_go.ru (gm_get dJ5_append_3fe6f_25 (fl_J5_15 rfl) d1 rfl) ?_
    refine gm_go.ru (gm_aload_n dJ5_append_3fe6f_28 rfl (by first | exact Or.inl ⟨_, rfl⟩ | exact Or.inr ⟨_, rfl⟩)) ?_
    refine gm_go.ru (gm_dup dJ5_append_3fe6f_29 rfl) ?_
    refine gm_go.ru (gm_get dJ5_append_3fe6f_30 (fl_J5_79 rfl) d1 rfl) ?_
    refine gm_go.ru (gm_dup_x1 dJ5_append_3fe6f_33 rfl rfl) ?_
    refine gm_go.ru (gi_const dJ5_append_3fe6f_34) ?_
    refine gm_go.ru (gi_add dJ5_append_3fe6f_35) ?_
    refine gm_go.ru (gm_put dJ5_append_3fe6f_36 (fp_J5_79 rfl) d1 (Nat.le_of_ble_eq_true rfl) (by first | exact ⟨rfl, rfl⟩ | exact trivial)) ?_
    refine gm_hp ha2 ?_
    refine gm_go.ru (gm_iload_n dJ5_append_3fe6f_39 rfl) ?_
    refine gm_go.ru (gi_i2b dJ5_append_3fe6f_40 (by omega) (by omega)) ?_
    refine gm_go.ru (gi_bast dJ5_append_3fe6f_41 g2 (by omega) (by omega) (by omega) (by omega) (by omega)) ?_
    rw [Int.toNat_natCast]
    refine gm_hp ha3 ?_
    refine gm_go.ru (gm_goto (tgt := 75) dJ5_append_3fe6f_42 (by decide)) ?_
    refine gm_go.ru (gm_aload_n dJ5_append_3fe6f_75 rfl (by first | exact Or.inl ⟨_, rfl⟩ | exact Or.inr ⟨_, rfl⟩)) ?_
    exact gm_aret dJ5_append_3fe6f_76 rfl (by first | exact Or.inl ⟨_, rfl⟩ | exact Or.inr ⟨_, rfl⟩) (by first | exact Or.inl ⟨_, rfl⟩ | exact Or.inr ⟨_, rfl⟩)
  · by_cases e : k = c
    · rw [e, zU_s, zU_s]
    · rw [zU_n e, zU_n e]; exact dF k (by omega)
set_option maxRecDepth 4000 in
theorem ct_sbC {h : gm_H} {s : Nat} {q : Nat × Nat} {G : Nat → Int} {c : Nat} (hS : sbr_at h s q G c) {x : Int} (hx : 0 ≤ x ∧ x < 128) (hc : c ≤ 60) : ∃ h' q', gm_co mJ4_append_cf468 6 [.ref s, .int (zI x)] h (.inl (some (.ref s))) h' ∧ sbr_at h' s q' (zU G c x) (c + 1) ∧ sx h h' s q q' := by
  obtain ⟨qc, qs, cq, ml, F, c1, c2, cF, cB⟩ := id hS
  obtain ⟨h', q', e1, e2, e3⟩ := ct_sbC5 hS hx hc
  refine ⟨h', q', ?_, e2, e3⟩
  refine gm_co_of _ (by decide +kernel) rfl (Nat.le_of_ble_eq_true rfl) rfl ?_
  refine gm_go.ru (gm_aload_n dJ4_append_cf468_0 rfl (by first | exact Or.inl ⟨_, rfl⟩ | exact Or.inr ⟨_, rfl⟩)) ?_
  refine gm_go.ru (gm_iload_n dJ4_append_cf468_1 rfl) ?_
  refine gm_go.ru (gm_cT dJ4_append_cf468_2 e1 rfl mt_J5_append_3fe6f (l9_J4_50 rfl) (Or.inl ⟨_, 1, _, _, _, rfl, c1, rfl⟩) rfl (Nat.le_of_ble_eq_true rfl) (by decide)) ?_
  refine gm_go.ru (gm_pop dJ4_append_cf468_5 rfl) ?_
  refine gm_go.ru (gm_aload_n dJ4_append_cf468_6 rfl (by first | exact Or.inl ⟨_, rfl⟩ | exact Or.inr ⟨_, rfl⟩)) ?_
  exact gm_aret dJ4_append_cf468_7 rfl (by first | exact Or.inl ⟨_, rfl⟩ | exact Or.inr ⟨_, rfl⟩) (by first | exact Or.inl ⟨_, rfl⟩ | exact Or.inr ⟨_, rfl⟩)
def zsz (i : Int) : Nat := (if i < 0 then 1 else 0) + (if i.natAbs < 10 then 1 else 2)
/-- the text of a number of at most two digits, from c on -/
def zNb (i : Int) (c : Nat) (G : Nat → Int) : Nat → Int :=
  let G1 := if i < 0 then zU G c 45 else G
  let c1 := if i < 0 then c + 1 else c
  if i.natAbs < 10 then zU G1 c1 (48 + (i.natAbs : Int)) else zU (zU G1 c1 (48 + (i.natAbs / 10 : Nat))) (c1 + 1) (48 + (i.natAbs % 10 : Nat))
set_option maxRecDepth 4000 in
theorem ct_strSize {h : gm_H} {i : Int} (hi : -99 ≤ i ∧ i ≤ 99) : gm_co mJ6_stringSize_0f7a4 1 [.int (zI i)] h (.inl (some (.int (zI ((zsz i : Nat) : Int))))) h := by
  first
  | refine gm_co_of _ (by decide +kernel) rfl (Nat.le_of_ble_eq_true rfl) rfl ?_
  | refine gm_co_ofF _ (by decide +kernel) rfl (Nat.le_of_ble_eq_true rfl) rfl ?_
  by_cases c0 : i < 0
  ·
    by_cases c1 : i.natAbs < 10
    ·
      refine gm_go.ru (gi_const dJ6_stringSize_0f7a4_0) ?_
      refine gm_go.ru (gm_istore_n (ls' := [_, _, _, _]) dJ6_stringSize_0f7a4_1 (by decide) rfl) ?_
      refine gm_go.ru (gm_iload_n dJ6_stringSize_0f7a4_2 rfl) ?_
      refine gm_go.ru (gi_if_lt_t (tgt := 11) dJ6_stringSize_0f7a4_3 (by decide) (by omega) c0) ?_
      refine gm_go.ru (gi_bipush dJ6_stringSize_0f7a4_11 (by decide +kernel)) ?_
      refine gm_go.ru (gm_istore_n (ls' := [_, _, _, _]) dJ6_stringSize_0f7a4_13 (by decide) rfl) ?_
      refine gm_go.ru (gi_const dJ6_stringSize_0f7a4_14) ?_
      refine gm_go.ru (gm_istore_n (ls' := [_, _, _, _]) dJ6_stringSize_0f7a4_15 (by decide) rfl) ?_
      refine gm_go.ru (gm_iload_n dJ6_stringSize_0f7a4_16 rfl) ?_
      refine gm_go.ru (gi_bipush dJ6_stringSize_0f7a4_17 (by decide +kernel)) ?_
      refine gm_go.ru (gi_icmp_ge_f 42 dJ6_stringSize_0f7a4_19 (by decide) (by omega) (by omega) (by omega)) ?_
      refine gm_go.ru (gm_iload_n dJ6_stringSize_0f7a4_22 rfl) ?_
      refine gm_go.ru (gm_iload_n dJ6_stringSize_0f7a4_23 rfl) ?_
      refine gm_go.ru (gi_icmp_le_f 31 dJ6_stringSize_0f7a4_24 (by decide) (by omega) (by omega) (by omega)) ?_
      refine gm_go.ru (gm_iload_n dJ6_stringSize_0f7a4_27 rfl) ?_
      refine gm_go.ru (gm_iload_n dJ6_stringSize_0f7a4_28 rfl) ?_
      refine gm_go.ru (gi_add dJ6_stringSize_0f7a4_29) ?_
      exact gm_iret' dJ6_stringSize_0f7a4_30 rfl (congrArg zI (by unfold zsz; rw [if_pos c0, if_pos c1]; rfl)) rfl
    ·
      refine gm_go.ru (gi_const dJ6_stringSize_0f7a4_0) ?_
      refine gm_go.ru (gm_istore_n (ls' := [_, _, _, _]) dJ6_stringSize_0f7a4_1 (by decide) rfl) ?_
      refine gm_go.ru (gm_iload_n dJ6_stringSize_0f7a4_2 rfl) ?_
      refine gm_go.ru (gi_if_lt_t (tgt := 11) dJ6_stringSize_0f7a4_3 (by decide) (by omega) c0) ?_
      refine gm_go.ru (gi_bipush dJ6_stringSize_0f7a4_11 (by decide +kernel)) ?_
      refine gm_go.ru (gm_istore_n (ls' := [_, _, _, _]) dJ6_stringSize_0f7a4_13 (by decide) rfl) ?_
      refine gm_go.ru (gi_const dJ6_stringSize_0f7a4_14) ?_
      refine gm_go.ru (gm_istore_n (ls' := [_, _, _, _]) dJ6_stringSize_0f7a4_15 (by decide) rfl) ?_
      refine gm_go.ru (gm_iload_n dJ6_stringSize_0f7a4_16 rfl) ?_
      refine gm_go.ru (gi_bipush dJ6_stringSize_0f7a4_17 (by decide +kernel)) ?_
      refine gm_go.ru (gi_icmp_ge_f 42 dJ6_stringSize_0f7a4_19 (by decide) (by omega) (by omega) (by omega)) ?_
      refine gm_go.ru (gm_iload_n dJ6_stringSize_0f7a4_22 rfl) ?_
      refine gm_go.ru (gm_iload_n dJ6_stringSize_0f7a4_23 rfl) ?_
      refine gm_go.ru (gi_icmp_le_t (tgt := 31) dJ6_stringSize_0f7a4_24 (by decide) (by omega) (by omega) (by omega)) ?_
      refine gm_go.ru (gi_bipush dJ6_stringSize_0f7a4_31 (by decide +kernel)) ?_
      refine gm_go.ru (gm_iload_n dJ6_stringSize_0f7a4_33 rfl) ?_
      refine gm_go.ru (gi_mul dJ6_stringSize_0f7a4_34) ?_
      refine gm_go.ru (gm_istore_n (ls' := [_, _, _, _]) dJ6_stringSize_0f7a4_35 (by decide) rfl) ?_
      refine gm_go.ru (gi_iinc (ls' := [_, _, _, _]) dJ6_stringSize_0f7a4_36 rfl (by decide) rfl) ?_
      refine gm_go.ru (gm_goto (tgt := 16) dJ6_stringSize_0f7a4_39 (by decide)) ?_
      refine gm_go.ru (gm_iload_n dJ6_stringSize_0f7a4_16 rfl) ?_
      refine gm_go.ru (gi_bipush dJ6_stringSize_0f7a4_17 (by decide +kernel)) ?_
      refine gm_go.ru (gi_icmp_ge_f 42 dJ6_stringSize_0f7a4_19 (by decide) (by omega) (by omega) (by omega)) ?_
      refine gm_go.ru (gm_iload_n dJ6_stringSize_0f7a4_22 rfl) ?_
      refine gm_go.ru (gm_iload_n dJ6_stringSize_0f7a4_23 rfl) ?_
      refine gm_go.ru (gi_icmp_le_f 31 dJ6_stringSize_0f7a4_24 (by decide) (by omega) (by omega) (by omega)) ?_
      refine gm_go.ru (gm_iload_n dJ6_stringSize_0f7a4_27 rfl) ?_
      refine gm_go.ru (gm_iload_n dJ6_stringSize_0f7a4_28 rfl) ?_
      refine gm_go.ru (gi_add dJ6_stringSize_0f7a4_29) ?_
      exact gm_iret' dJ6_stringSize_0f7a4_30 rfl (congrArg zI (by unfold zsz; rw [if_pos c0, if_neg c1]; rfl)) rfl
  ·
    by_cases c1 : i.natAbs < 10
    ·
      refine gm_go.ru (gi_const dJ6_stringSize_0f7a4_0) ?_
      refine gm_go.ru (gm_istore_n (ls' := [_, _, _, _]) dJ6_stringSize_0f7a4_1 (by decide) rfl) ?_
      refine gm_go.ru (gm_iload_n dJ6_stringSize_0f7a4_2 rfl) ?_
      refine gm_go.ru (gi_if_lt_f 11 dJ6_stringSize_0f7a4_3 (by decide) (by omega) c0) ?_
      refine gm_go.ru (gi_const dJ6_stringSize_0f7a4_6) ?_
      refine gm_go.ru (gm_istore_n (ls' := [_, _, _, _]) dJ6_stringSize_0f7a4_7 (by decide) rfl) ?_
      refine gm_go.ru (gm_iload_n dJ6_stringSize_0f7a4_8 rfl) ?_
      refine gm_go.ru (gi_neg dJ6_stringSize_0f7a4_9) ?_
      refine gm_go.ru (gm_istore_n (ls' := [_, _, _, _]) dJ6_stringSize_0f7a4_10 (by decide) rfl) ?_
      refine gm_go.ru (gi_bipush dJ6_stringSize_0f7a4_11 (by decide +kernel)) ?_
      refine gm_go.ru (gm_istore_n (ls' := [_, _, _, _]) dJ6_stringSize_0f7a4_13 (by decide) rfl) ?_
      refine gm_go.ru (gi_const dJ6_stringSize_0f7a4_14) ?_
      refine gm_go.ru (gm_istore_n (ls' := [_, _, _, _]) dJ6_stringSize_0f7a4_15 (by decide) rfl) ?_
      refine gm_go.ru (gm_iload_n dJ6_stringSize_0f7a4_16 rfl) ?_
      refine gm_go.ru (gi_bipush dJ6_stringSize_0f7a4_17 (by decide +kernel)) ?_
      refine gm_go.ru (gi_icmp_ge_f 42 dJ6_stringSize_0f7a4_19 (by decide) (by omega) (by omega) (by omega)) ?_
      refine gm_go.ru (gm_iload_n dJ6_stringSize_0f7a4_22 rfl) ?_
      refine gm_go.ru (gm_iload_n dJ6_stringSize_0f7a4_23 rfl) ?_
      refine gm_go.ru (gi_icmp_le_f 31 dJ6_stringSize_0f7a4_24 (by decide) (by omega) (by omega) (by omega)) ?_
      refine gm_go.ru (gm_iload_n dJ6_stringSize_0f7a4_27 rfl) ?_
      refine gm_go.ru (gm_iload_n dJ6_stringSize_0f7a4_28 rfl) ?_
      refine gm_go.ru (gi_add dJ6_stringSize_0f7a4_29) ?_
      exact gm_iret' dJ6_stringSize_0f7a4_30 rfl (congrArg zI (by unfold zsz; rw [if_neg c0, if_pos c1]; rfl)) rfl
    ·
      refine gm_go.ru (gi_const dJ6_stringSize_0f7a4_0) ?_
      refine gm_go.ru (gm_istore_n (ls' := [_, _, _, _]) dJ6_stringSize_0f7a4_1 (by decide) rfl) ?_
      refine gm_go.ru (gm_iload_n dJ6_stringSize_0f7a4_2 rfl) ?_
      refine gm_go.ru (gi_if_lt_f 11 dJ6_stringSize_0f7a4_3 (by decide) (by omega) c0) ?_
      refine gm_go.ru (gi_const dJ6_stringSize_0f7a4_6) ?_
      refine gm_go.ru (gm_istore_n (ls' := [_, _, _, _]) dJ6_stringSize_0f7a4_7 (by decide) rfl) ?_
      refine gm_go.ru (gm_iload_n dJ6_stringSize_0f7a4_8 rfl) ?_
      refine gm_go.ru (gi_neg dJ6_stringSize_0f7a4_9) ?_
      refine gm_go.ru (gm_istore_n (ls' := [_, _, _, _]) dJ6_stringSize_0f7a4_10 (by decide) rfl) ?_
      refine gm_go.ru (gi_bipush dJ6_stringSize_0f7a4_11 (by decide +kernel)) ?_
      refine gm_go.ru (gm_istore_n (ls' := [_, _, _, _]) dJ6_stringSize_0f7a4_13 (by decide) rfl) ?_
      refine gm_go.ru (gi_const dJ6_stringSize_0f7a4_14) ?_
      refine gm_go.ru (gm_istore_n (ls' := [_, _, _, _]) dJ6_stringSize_0f7a4_15 (by decide) rfl) ?_
      refine gm_go.ru (gm_iload_n dJ6_stringSize_0f7a4_16 rfl) ?_
      refine gm_go.ru (gi_bipush dJ6_stringSize_0f7a4_17 (by decide +kernel)) ?_
      refine gm_go.ru (gi_icmp_ge_f 42 dJ6_stringSize_0f7a4_19 (by decide) (by omega) (by omega) (by omega)) ?_
      refine gm_go.ru (gm_iload_n dJ6_stringSize_0f7a4_22 rfl) ?_
      refine gm_go.ru (gm_iload_n dJ6_stringSize_0f7a4_23 rfl) ?_
      refine gm_go.ru (gi_icmp_le_t (tgt := 31) dJ6_stringSize_0f7a4_24 (by decide) (by omega) (by omega) (by omega)) ?_
      refine gm_go.ru (gi_bipush dJ6_stringSize_0f7a4_31 (by decide +kernel)) ?_
      refine gm_go.ru (gm_iload_n dJ6_stringSize_0f7a4_33 rfl) ?_
      refine gm_go.ru (gi_mul dJ6_stringSize_0f7a4_34) ?_
      refine gm_go.ru (gm_istore_n (ls' := [_, _, _, _]) dJ6_stringSize_0f7a4_35 (by decide) rfl) ?_
      refine gm_go.ru (gi_iinc (ls' := [_, _, _, _]) dJ6_stringSize_0f7a4_36 rfl (by decide) rfl) ?_
      refine gm_go.ru (gm_goto (tgt := 16) dJ6_stringSize_0f7a4_39 (by decide)) ?_
      refine gm_go.ru (gm_iload_n dJ6_stringSize_0f7a4_16 rfl) ?_
      refine gm_go.ru (gi_bipush dJ6_stringSize_0f7a4_17 (by decide +kernel)) ?_
      refine gm_go.ru (gi_icmp_ge_f 42 dJ6_stringSize_0f7a4_19 (by decide) (by omega) (by omega) (by omega)) ?_
      refine gm_go.ru (gm_iload_n dJ6_stringSize_0f7a4_22 rfl) ?_
      refine gm_go.ru (gm_iload_n dJ6_stringSize_0f7a4_23 rfl) ?_
      refine gm_go.ru (gi_icmp_le_f 31 dJ6_stringSize_0f7a4_24 (by decide) (by omega) (by omega) (by omega)) ?_
      refine gm_go.ru (gm_iload_n dJ6_stringSize_0f7a4_27 rfl) ?_
      refine gm_go.ru (gm_iload_n dJ6_stringSize_0f7a4_28 rfl) ?_
      refine gm_go.ru (gi_add dJ6_stringSize_0f7a4_29) ?_
      exact gm_iret' dJ6_stringSize_0f7a4_30 rfl (congrArg zI (by unfold zsz; rw [if_neg c0, if_neg c1]; rfl)) rfl
def zDg1 : List Int32 := (List.range 100).map (fun w => zI (48 + (w % 10 : Nat)))
def zDg2 : List Int32 := (List.range 100).map (fun w => zI (48 + (w / 10 : Nat)))
theorem zDg1_k : (20, FieldType.byte, zDg1) ∈ gm_Kb := by decide +kernel
theorem zDg2_k : (21, FieldType.byte, zDg2) ∈ gm_Kb := by decide +kernel
theorem zDg1_v : ∀ w : Nat, w < 100 → zDg1.getD w 0 = zI (48 + (w % 10 : Nat)) := by decide +kernel
theorem zDg2_v : ∀ w : Nat, w < 100 → zDg2.getD w 0 = zI (48 + (w / 10 : Nat)) := by decide +kernel
theorem zDg1_l : zDg1.length = 100 := by decide +kernel
theorem zDg2_l : zDg2.length = 100 := by decide +kernel
set_option maxRecDepth 4000 in
theorem ct_gCn2 {h : gm_H} {b n e a : Nat} {F : Nat → Int} (hb : h.1[b]? = some (gB n F)) (he : e ≤ n) (hn : n ≤ 1000) (ha : 10 ≤ a ∧ a ≤ 99) (h1 : 3 ≤ e) : ∃ h' x, gm_co mJ6_getChars_ba4f3 1 [.int (zI (-(a : Int))), .int (zI (e : Int)), .ref b] h (.inl (some (.int (zI x)))) h' ∧ h'.1[b]? = some (gB n (zU (zU (zU F (e - 1) (48 + (a % 10 : Nat))) (e - 2) (48 + (a / 10 : Nat))) (e - 3) 45)) ∧ gh_fr h h' (fun k => k = b) := by
  obtain ⟨a1, ha1⟩ : ∃ y9 : gm_H, y9 = (h.1.set b (gB n (zU F (e - 1) (48 + (a % 10 : Nat)))), h.2) := ⟨_, rfl⟩
  have g1 : a1.1[b]? = some (gB n (zU F (e - 1) (48 + (a % 10 : Nat)))) := by rw [ha1]; exact gs_s hb
  have f1 : gh_fr h a1 (fun k => k = b) := by rw [ha1]; exact gh_set (K := fun k => k = b) gh_rf rfl _
  obtain ⟨a2, ha2⟩ : ∃ y9 : gm_H, y9 = (a1.1.set b (gB n (zU (zU F (e - 1) (48 + (a % 10 : Nat))) (e - 2) (48 + (a / 10 : Nat)))), a1.2) := ⟨_, rfl⟩
  have g2 : a2.1[b]? = some (gB n (zU (zU F (e - 1) (48 + (a % 10 : Nat))) (e - 2) (48 + (a / 10 : Nat)))) := by rw [ha2]; exact gs_s g1
  have f2 : gh_fr a1 a2 (fun k => k = b) := by rw [ha2]; exact gh_set (K := fun k => k = b) gh_rf rfl _
  obtain ⟨a3, ha3⟩ : ∃ y9 : gm_H, y9 = (a2.1.set b (gB n (zU (zU (zU F (e - 1) (48 + (a % 10 : Nat))) (e - 2) (48 + (a / 10 : Nat))) (e - 3) 45)), a2.2) := ⟨_, rfl⟩
  have g3 : a3.1[b]? = some (gB n (zU (zU (zU F (e - 1) (48 + (a % 10 : Nat))) (e - 2) (48 + (a / 10 : Nat))) (e - 3) 45)) := by rw [ha3]; exact gs_s g2
  have f3 : gh_fr a2 a3 (fun k => k = b) := by rw [ha3]; exact gh_set (K := fun k => k = b) gh_rf rfl _
  refine ⟨a3, (e : Int) + (-1) + (-1) + (-1), ?_, g3, gh_tr (gh_tr f1 f2) f3⟩
  refine gm_co_of _ (by decide +kernel) rfl (Nat.le_of_ble_eq_true rfl) rfl ?_
  refine gm_go.ru (gm_iload_n dJ6_getChars_ba4f3_0 rfl) ?_
  refine gm_go.ru (gm_istore (ls' := [_, _, _, _, _, _, _]) dJ6_getChars_ba4f3_1 (by decide) rfl) ?_
  refine gm_go.ru (gm_iload_n dJ6_getChars_ba4f3_3 rfl) ?_
  refine gm_go.ru (gi_if_ge_f 11 dJ6_getChars_ba4f3_4 (by decide) (by omega) (by omega)) ?_
  refine gm_go.ru (gi_const dJ6_getChars_ba4f3_7) ?_
  refine gm_go.ru (gm_goto (tgt := 12) dJ6_getChars_ba4f3_8 (by decide)) ?_
  refine gm_go.ru (gm_istore (ls' := [_, _, _, _, _, _, _]) dJ6_getChars_ba4f3_12 (by decide) rfl) ?_
  refine gm_go.ru (gm_iload dJ6_getChars_ba4f3_14 rfl) ?_
  refine gm_go.ru (gi_if_ne_t (tgt := 22) dJ6_getChars_ba4f3_16 (by decide) (by decide) (by decide)) ?_
  refine gm_go.ru (gm_iload_n dJ6_getChars_ba4f3_22 rfl) ?_
  refine gm_go.ru (gi_bipush dJ6_getChars_ba4f3_23 (by decide +kernel)) ?_
  refine gm_go.ru (gi_icmp_gt_t (tgt := 72) dJ6_getChars_ba4f3_25 (by decide) (by omega) (by omega) (by omega)) ?_
  refine gm_go.ru (gm_aload_n dJ6_getChars_ba4f3_72 rfl (by first | exact Or.inl ⟨_, rfl⟩ | exact Or.inr ⟨_, rfl⟩)) ?_
  refine gm_go.ru (gi_iinc (ls' := [_, _, _, _, _, _, _]) dJ6_getChars_ba4f3_73 rfl (by decide) rfl) ?_
  refine gm_go.ru (gm_iload dJ6_getChars_ba4f3_76 rfl) ?_
  refine gm_go.ru (gm_gets (v := .retAddr 20) dJ6_getChars_ba4f3_78 (by decide +kernel) (sl_J6_83 rfl) rfl) ?_
  refine gm_go.ru (gm_iload_n dJ6_getChars_ba4f3_81 rfl) ?_
  refine gm_go.ru (gi_neg dJ6_getChars_ba4f3_82) ?_
  rw [Int.neg_neg]
  refine gm_go.ru (gi_kb dJ6_getChars_ba4f3_83 zDg1_k (by rw [zDg1_l]; omega) (by rw [zDg1_l]; decide) (zDg1_v a (by omega))) ?_
  refine gm_go.ru (gi_bast dJ6_getChars_ba4f3_84 hb (by omega) (by omega) (by omega) (by omega) (by omega)) ?_
  rw [show ((e : Int) + (-1)).toNat = e - 1 by omega]
  refine gm_hp ha1 ?_
  refine gm_go.ru (gm_iload_n dJ6_getChars_ba4f3_85 rfl) ?_
  refine gm_go.ru (gi_bipush dJ6_getChars_ba4f3_86 (by decide +kernel)) ?_
  refine gm_go.ru (gi_icmp_ge_f 104 dJ6_getChars_ba4f3_88 (by decide) (by omega) (by omega) (by omega)) ?_
  refine gm_go.ru (gm_aload_n dJ6_getChars_ba4f3_91 rfl (by first | exact Or.inl ⟨_, rfl⟩ | exact Or.inr ⟨_, rfl⟩)) ?_
  refine gm_go.ru (gi_iinc (ls' := [_, _, _, _, _, _, _]) dJ6_getChars_ba4f3_92 rfl (by decide) rfl) ?_
  refine gm_go.ru (gm_iload dJ6_getChars_ba4f3_95 rfl) ?_
  refine gm_go.ru (gm_gets (v := .retAddr 21) dJ6_getChars_ba4f3_97 (by decide +kernel) (sl_J6_87 rfl) rfl) ?_
  refine gm_go.ru (gm_iload_n dJ6_getChars_ba4f3_100 rfl) ?_
  refine gm_go.ru (gi_neg dJ6_getChars_ba4f3_101) ?_
  rw [Int.neg_neg]
  refine gm_go.ru (gi_kb dJ6_getChars_ba4f3_102 zDg2_k (by rw [zDg2_l]; omega) (by rw [zDg2_l]; decide) (zDg2_v a (by omega))) ?_
  refine gm_go.ru (gi_bast dJ6_getChars_ba4f3_103 g1 (by omega) (by omega) (by omega) (by omega) (by omega)) ?_
  rw [show ((e : Int) + (-1) + (-1)).toNat = e - 2 by omega]
  refine gm_hp ha2 ?_
  refine gm_go.ru (gm_iload dJ6_getChars_ba4f3_104 rfl) ?_
  refine gm_go.ru (gi_if_eq_f 118 dJ6_getChars_ba4f3_106 (by decide) (by decide) (by decide)) ?_
  refine gm_go.ru (gm_aload_n dJ6_getChars_ba4f3_109 rfl (by first | exact Or.inl ⟨_, rfl⟩ | exact Or.inr ⟨_, rfl⟩)) ?_
  refine gm_go.ru (gi_iinc (ls' := [_, _, _, _, _, _, _]) dJ6_getChars_ba4f3_110 rfl (by decide) rfl) ?_
  refine gm_go.ru (gm_iload dJ6_getChars_ba4f3_113 rfl) ?_
  refine gm_go.ru (gi_bipush dJ6_getChars_ba4f3_115 (by decide +kernel)) ?_
  refine gm_go.ru (gi_bast dJ6_getChars_ba4f3_117 g2 (by omega) (by omega) (by omega) (by decide) (by decide)) ?_
  rw [show ((e : Int) + (-1) + (-1) + (-1)).toNat = e - 3 by omega]
  refine gm_hp ha3 ?_
  refine gm_go.ru (gm_iload dJ6_getChars_ba4f3_118 rfl) ?_
  exact gm_iret dJ6_getChars_ba4f3_120 rfl
set_option maxRecDepth 4000 in
theorem ct_gCn1 {h : gm_H} {b n e a : Nat} {F : Nat → Int} (hb : h.1[b]? = some (gB n F)) (he : e ≤ n) (hn : n ≤ 1000) (ha : 1 ≤ a ∧ a ≤ 9) (h1 : 2 ≤ e) : ∃ h' x, gm_co mJ6_getChars_ba4f3 1 [.int (zI (-(a : Int))), .int (zI (e : Int)), .ref b] h (.inl (some (.int (zI x)))) h' ∧ h'.1[b]? = some (gB n (zU (zU F (e - 1) (48 + (a % 10 : Nat))) (e - 2) 45)) ∧ gh_fr h h' (fun k => k = b) := by
  obtain ⟨a1, ha1⟩ : ∃ y9 : gm_H, y9 = (h.1.set b (gB n (zU F (e - 1) (48 + (a % 10 : Nat)))), h.2) := ⟨_, rfl⟩
  have g1 : a1.1[b]? = some (gB n (zU F (e - 1) (48 + (a % 10 : Nat)))) := by rw [ha1]; exact gs_s hb
  have f1 : gh_fr h a1 (fun k => k = b) := by rw [ha1]; exact gh_set (K := fun k => k = b) gh_rf rfl _
  obtain ⟨a3, ha3⟩ : ∃ y9 : gm_H, y9 = (a1.1.set b (gB n (zU (zU F (e - 1) (48 + (a % 10 : Nat))) (e - 2) 45)), a1.2) := ⟨_, rfl⟩
  have g3 : a3.1[b]? = some (gB n (zU (zU F (e - 1) (48 + (a % 10 : Nat))) (e - 2) 45)) := by rw [ha3]; exact gs_s g1
  have f3 : gh_fr a1 a3 (fun k => k = b) := by rw [ha3]; exact gh_set (K := fun k => k = b) gh_rf rfl _
  refine ⟨a3, (e : Int) + (-1) + (-1), ?_, g3, gh_tr (f1) f3⟩
  refine gm_co_of _ (by decide +kernel) rfl (Nat.le_of_ble_eq_true rfl) rfl ?_
  refine gm_go.ru (gm_iload_n dJ6_getChars_ba4f3_0 rfl) ?_
  refine gm_go.ru (gm_istore (ls' := [_, _, _, _, _, _, _]) dJ6_getChars_ba4f3_1 (by decide) rfl) ?_
  refine gm_go.ru (gm_iload_n dJ6_getChars_ba4f3_3 rfl) ?_
  refine gm_go.ru (gi_if_ge_f 11 dJ6_getChars_ba4f3_4 (by decide) (by omega) (by omega)) ?_
  refine gm_go.ru (gi_const dJ6_getChars_ba4f3_7) ?_
  refine gm_go.ru (gm_goto (tgt := 12) dJ6_getChars_ba4f3_8 (by decide)) ?_
  refine gm_go.ru (gm_istore (ls' := [_, _, _, _, _, _, _]) dJ6_getChars_ba4f3_12 (by decide) rfl) ?_
  refine gm_go.ru (gm_iload dJ6_getChars_ba4f3_14 rfl) ?_
  refine gm_go.ru (gi_if_ne_t (tgt := 22) dJ6_getChars_ba4f3_16 (by decide) (by decide) (by decide)) ?_
  refine gm_go.ru (gm_iload_n dJ6_getChars_ba4f3_22 rfl) ?_
  refine gm_go.ru (gi_bipush dJ6_getChars_ba4f3_23 (by decide +kernel)) ?_
  refine gm_go.ru (gi_icmp_gt_t (tgt := 72) dJ6_getChars_ba4f3_25 (by decide) (by omega) (by omega) (by omega)) ?_
  refine gm_go.ru (gm_aload_n dJ6_getChars_ba4f3_72 rfl (by first | exact Or.inl ⟨_, rfl⟩ | exact Or.inr ⟨_, rfl⟩)) ?_
  refine gm_go.ru (gi_iinc (ls' := [_, _, _, _, _, _, _]) dJ6_getChars_ba4f3_73 rfl (by decide) rfl) ?_
  refine gm_go.ru (gm_iload dJ6_getChars_ba4f3_76 rfl) ?_
  refine gm_go.ru (gm_gets (v := .retAddr 20) dJ6_getChars_ba4f3_78 (by decide +kernel) (sl_J6_83 rfl) rfl) ?_
  refine gm_go.ru (gm_iload_n dJ6_getChars_ba4f3_81 rfl) ?_
  refine gm_go.ru (gi_neg dJ6_getChars_ba4f3_82) ?_
  rw [Int.neg_neg]
  refine gm_go.ru (gi_kb dJ6_getChars_ba4f3_83 zDg1_k (by rw [zDg1_l]; omega) (by rw [zDg1_l]; decide) (zDg1_v a (by omega))) ?_
  refine gm_go.ru (gi_bast dJ6_getChars_ba4f3_84 hb (by omega) (by omega) (by omega) (by omega) (by omega)) ?_
  rw [show ((e : Int) + (-1)).toNat = e - 1 by omega]
  refine gm_hp ha1 ?_
  refine gm_go.ru (gm_iload_n dJ6_getChars_ba4f3_85 rfl) ?_
  refine gm_go.ru (gi_bipush dJ6_getChars_ba4f3_86 (by decide +kernel)) ?_
  refine gm_go.ru (gi_icmp_ge_t (tgt := 104) dJ6_getChars_ba4f3_88 (by decide) (by omega) (by omega) (by omega)) ?_
  refine gm_go.ru (gm_iload dJ6_getChars_ba4f3_104 rfl) ?_
  refine gm_go.ru (gi_if_eq_f 118 dJ6_getChars_ba4f3_106 (by decide) (by decide) (by decide)) ?_
  refine gm_go.ru (gm_aload_n dJ6_getChars_ba4f3_109 rfl (by first | exact Or.inl ⟨_, rfl⟩ | exact Or.inr ⟨_, rfl⟩)) ?_
  refine gm_go.ru (gi_iinc (ls' := [_, _, _, _, _, _, _]) dJ6_getChars_ba4f3_110 rfl (by decide) rfl) ?_
  refine gm_go.ru (gm_iload dJ6_getChars_ba4f3_113 rfl) ?_
  refine gm_go.ru (gi_bipush dJ6_getChars_ba4f3_115 (by decide +kernel)) ?_
  refine gm_go.ru (gi_bast dJ6_getChars_ba4f3_117 g1 (by omega) (by omega) (by omega) (by decide) (by decide)) ?_
  rw [show ((e : Int) + (-1) + (-1)).toNat = e - 2 by omega]
  refine gm_hp ha3 ?_
  refine gm_go.ru (gm_iload dJ6_getChars_ba4f3_118 rfl) ?_
  exact gm_iret dJ6_getChars_ba4f3_120 rfl
set_option maxRecDepth 4000 in
theorem ct_gCp2 {h : gm_H} {b n e a : Nat} {F : Nat → Int} (hb : h.1[b]? = some (gB n F)) (he : e ≤ n) (hn : n ≤ 1000) (ha : 10 ≤ a ∧ a ≤ 99) (h1 : 2 ≤ e) : ∃ h' x, gm_co mJ6_getChars_ba4f3 1 [.int (zI ((a : Int))), .int (zI (e : Int)), .ref b] h (.inl (some (.int (zI x)))) h' ∧ h'.1[b]? = some (gB n (zU (zU F (e - 1) (48 + (a % 10 : Nat))) (e - 2) (48 + (a / 10 : Nat)))) ∧ gh_fr h h' (fun k => k = b) := by
  obtain ⟨a1, ha1⟩ : ∃ y9 : gm_H, y9 = (h.1.set b (gB n (zU F (e - 1) (48 + (a % 10 : Nat)))), h.2) := ⟨_, rfl⟩
  have g1 : a1.1[b]? = some (gB n (zU F (e - 1) (48 + (a % 10 : Nat)))) := by rw [ha1]; exact gs_s hb
  have f1 : gh_fr h a1 (fun k => k = b) := by rw [ha1]; exact gh_set (K := fun k => k = b) gh_rf rfl _
  obtain ⟨a2, ha2⟩ : ∃ y9 : gm_H, y9 = (a1.1.set b (gB n (zU (zU F (e - 1) (48 + (a % 10 : Nat))) (e - 2) (48 + (a / 10 : Nat)))), a1.2) := ⟨_, rfl⟩
  have g2 : a2.1[b]? = some (gB n (zU (zU F (e - 1) (48 + (a % 10 : Nat))) (e - 2) (48 + (a / 10 : Nat)))) := by rw [ha2]; exact gs_s g1
  have f2 : gh_fr a1 a2 (fun k => k = b) := by rw [ha2]; exact gh_set (K := fun k => k = b) gh_rf rfl _
  refine ⟨a2, (e : Int) + (-1) + (-1), ?_, g2, gh_tr f1 f2⟩
  refine gm_co_of _ (by decide +kernel) rfl (Nat.le_of_ble_eq_true rfl) rfl ?_
  refine gm_go.ru (gm_iload_n dJ6_getChars_ba4f3_0 rfl) ?_
  refine gm_go.ru (gm_istore (ls' := [_, _, _, _, _, _, _]) dJ6_getChars_ba4f3_1 (by decide) rfl) ?_
  refine gm_go.ru (gm_iload_n dJ6_getChars_ba4f3_3 rfl) ?_
  refine gm_go.ru (gi_if_ge_t (tgt := 11) dJ6_getChars_ba4f3_4 (by decide) (by omega) (by omega)) ?_
  refine gm_go.ru (gi_const dJ6_getChars_ba4f3_11) ?_
  refine gm_go.ru (gm_istore (ls' := [_, _, _, _, _, _, _]) dJ6_getChars_ba4f3_12 (by decide) rfl) ?_
  refine gm_go.ru (gm_iload dJ6_getChars_ba4f3_14 rfl) ?_
  refine gm_go.ru (gi_if_ne_f 22 dJ6_getChars_ba4f3_16 (by decide) (by decide) rfl) ?_
  refine gm_go.ru (gm_iload_n dJ6_getChars_ba4f3_19 rfl) ?_
  refine gm_go.ru (gi_neg dJ6_getChars_ba4f3_20) ?_
  refine gm_go.ru (gm_istore_n (ls' := [_, _, _, _, _, _, _]) dJ6_getChars_ba4f3_21 (by decide) rfl) ?_
  refine gm_go.ru (gm_iload_n dJ6_getChars_ba4f3_22 rfl) ?_
  refine gm_go.ru (gi_bipush dJ6_getChars_ba4f3_23 (by decide +kernel)) ?_
  refine gm_go.ru (gi_icmp_gt_t (tgt := 72) dJ6_getChars_ba4f3_25 (by decide) (by omega) (by omega) (by omega)) ?_
  refine gm_go.ru (gm_aload_n dJ6_getChars_ba4f3_72 rfl (by first | exact Or.inl ⟨_, rfl⟩ | exact Or.inr ⟨_, rfl⟩)) ?_
  refine gm_go.ru (gi_iinc (ls' := [_, _, _, _, _, _, _]) dJ6_getChars_ba4f3_73 rfl (by decide) rfl) ?_
  refine gm_go.ru (gm_iload dJ6_getChars_ba4f3_76 rfl) ?_
  refine gm_go.ru (gm_gets (v := .retAddr 20) dJ6_getChars_ba4f3_78 (by decide +kernel) (sl_J6_83 rfl) rfl) ?_
  refine gm_go.ru (gm_iload_n dJ6_getChars_ba4f3_81 rfl) ?_
  refine gm_go.ru (gi_neg dJ6_getChars_ba4f3_82) ?_
  rw [Int.neg_neg]
  refine gm_go.ru (gi_kb dJ6_getChars_ba4f3_83 zDg1_k (by rw [zDg1_l]; omega) (by rw [zDg1_l]; decide) (zDg1_v a (by omega))) ?_
  refine gm_go.ru (gi_bast dJ6_getChars_ba4f3_84 hb (by omega) (by omega) (by omega) (by omega) (by omega)) ?_
  rw [show ((e : Int) + (-1)).toNat = e - 1 by omega]
  refine gm_hp ha1 ?_
  refine gm_go.ru (gm_iload_n dJ6_getChars_ba4f3_85 rfl) ?_
  refine gm_go.ru (gi_bipush dJ6_getChars_ba4f3_86 (by decide +kernel)) ?_
  refine gm_go.ru (gi_icmp_ge_f 104 dJ6_getChars_ba4f3_88 (by decide) (by omega) (by omega) (by omega)) ?_
  refine gm_go.ru (gm_aload_n dJ6_getChars_ba4f3_91 rfl (by first | exact Or.inl ⟨_, rfl⟩ | exact Or.inr ⟨_, rfl⟩)) ?_
  refine gm_go.ru (gi_iinc (ls' := [_, _, _, _, _, _, _]) dJ6_getChars_ba4f3_92 rfl (by decide) rfl) ?_
  refine gm_go.ru (gm_iload dJ6_getChars_ba4f3_95 rfl) ?_
  refine gm_go.ru (gm_gets (v := .retAddr 21) dJ6_getChars_ba4f3_97 (by decide +kernel) (sl_J6_87 rfl) rfl) ?_
  refine gm_go.ru (gm_iload_n dJ6_getChars_ba4f3_100 rfl) ?_
  refine gm_go.ru (gi_neg dJ6_getChars_ba4f3_101) ?_
  rw [Int.neg_neg]
  refine gm_go.ru (gi_kb dJ6_getChars_ba4f3_102 zDg2_k (by rw [zDg2_l]; omega) (by rw [zDg2_l]; decide) (zDg2_v a (by omega))) ?_
  refine gm_go.ru (gi_bast dJ6_getChars_ba4f3_103 g1 (by omega) (by omega) (by omega) (by omega) (by omega)) ?_
  rw [show ((e : Int) + (-1) + (-1)).toNat = e - 2 by omega]
  refine gm_hp ha2 ?_
  refine gm_go.ru (gm_iload dJ6_getChars_ba4f3_104 rfl) ?_
  refine gm_go.ru (gi_if_eq_t (tgt := 118) dJ6_getChars_ba4f3_106 (by decide) (by decide) rfl) ?_
  refine gm_go.ru (gm_iload dJ6_getChars_ba4f3_118 rfl) ?_
  exact gm_iret dJ6_getChars_ba4f3_120 rfl
set_option maxRecDepth 4000 in
theorem ct_gCp1 {h : gm_H} {b n e a : Nat} {F : Nat → Int} (hb : h.1[b]? = some (gB n F)) (he : e ≤ n) (hn : n ≤ 1000) (ha : a ≤ 9) (h1 : 1 ≤ e) : ∃ h' x, gm_co mJ6_getChars_ba4f3 1 [.int (zI ((a : Int))), .int (zI (e : Int)), .ref b] h (.inl (some (.int (zI x)))) h' ∧ h'.1[b]? = some (gB n (zU F (e - 1) (48 + (a % 10 : Nat)))) ∧ gh_fr h h' (fun k => k = b) := by
  obtain ⟨a1, ha1⟩ : ∃ y9 : gm_H, y9 = (h.1.set b (gB n (zU F (e - 1) (48 + (a % 10 : Nat)))), h.2) := ⟨_, rfl⟩
  have g1 : a1.1[b]? = some (gB n (zU F (e - 1) (48 + (a % 10 : Nat)))) := by rw [ha1]; exact gs_s hb
  have f1 : gh_fr h a1 (fun k => k = b) := by rw [ha1]; exact gh_set (K := fun k => k = b) gh_rf rfl _
  refine ⟨a1, (e : Int) + (-1), ?_, g1, f1⟩
  refine gm_co_of _ (by decide +kernel) rfl (Nat.le_of_ble_eq_true rfl) rfl ?_
  refine gm_go.ru (gm_iload_n dJ6_getChars_ba4f3_0 rfl) ?_
  refine gm_go.ru (gm_istore (ls' := [_, _, _, _, _, _, _]) dJ6_getChars_ba4f3_1 (by decide) rfl) ?_
  refine gm_go.ru (gm_iload_n dJ6_getChars_ba4f3_3 rfl) ?_
  refine gm_go.ru (gi_if_ge_t (tgt := 11) dJ6_getChars_ba4f3_4 (by decide) (by omega) (by omega)) ?_
  refine gm_go.ru (gi_const dJ6_getChars_ba4f3_11) ?_
  refine gm_go.ru (gm_istore (ls' := [_, _, _, _, _, _, _]) dJ6_getChars_ba4f3_12 (by decide) rfl) ?_
  refine gm_go.ru (gm_iload dJ6_getChars_ba4f3_14 rfl) ?_
  refine gm_go.ru (gi_if_ne_f 22 dJ6_getChars_ba4f3_16 (by decide) (by decide) rfl) ?_
  refine gm_go.ru (gm_iload_n dJ6_getChars_ba4f3_19 rfl) ?_
  refine gm_go.ru (gi_neg dJ6_getChars_ba4f3_20) ?_
  refine gm_go.ru (gm_istore_n (ls' := [_, _, _, _, _, _, _]) dJ6_getChars_ba4f3_21 (by decide) rfl) ?_
  refine gm_go.ru (gm_iload_n dJ6_getChars_ba4f3_22 rfl) ?_
  refine gm_go.ru (gi_bipush dJ6_getChars_ba4f3_23 (by decide +kernel)) ?_
  refine gm_go.ru (gi_icmp_gt_t (tgt := 72) dJ6_getChars_ba4f3_25 (by decide) (by omega) (by omega) (by omega)) ?_
  refine gm_go.ru (gm_aload_n dJ6_getChars_ba4f3_72 rfl (by first | exact Or.inl ⟨_, rfl⟩ | exact Or.inr ⟨_, rfl⟩)) ?_
  refine gm_go.ru (gi_iinc (ls' := [_, _, _, _, _, _, _]) dJ6_getChars_ba4f3_73 rfl (by decide) rfl) ?_
  refine gm_go.ru (gm_iload dJ6_getChars_ba4f3_76 rfl) ?_
  refine gm_go.ru (gm_gets (v := .retAddr 20) dJ6_getChars_ba4f3_78 (by decide +kernel) (sl_J6_83 rfl) rfl) ?_
  refine gm_go.ru (gm_iload_n dJ6_getChars_ba4f3_81 rfl) ?_
  refine gm_go.ru (gi_neg dJ6_getChars_ba4f3_82) ?_
  rw [Int.neg_neg]
  refine gm_go.ru (gi_kb dJ6_getChars_ba4f3_83 zDg1_k (by rw [zDg1_l]; omega) (by rw [zDg1_l]; decide) (zDg1_v a (by omega))) ?_
  refine gm_go.ru (gi_bast dJ6_getChars_ba4f3_84 hb (by omega) (by omega) (by omega) (by omega) (by omega)) ?_
  rw [show ((e : Int) + (-1)).toNat = e - 1 by omega]
  refine gm_hp ha1 ?_
  refine gm_go.ru (gm_iload_n dJ6_getChars_ba4f3_85 rfl) ?_
  refine gm_go.ru (gi_bipush dJ6_getChars_ba4f3_86 (by decide +kernel)) ?_
  refine gm_go.ru (gi_icmp_ge_t (tgt := 104) dJ6_getChars_ba4f3_88 (by decide) (by omega) (by omega) (by omega)) ?_
  refine gm_go.ru (gm_iload dJ6_getChars_ba4f3_104 rfl) ?_
  refine gm_go.ru (gi_if_eq_t (tgt := 118) dJ6_getChars_ba4f3_106 (by decide) (by decide) rfl) ?_
  refine gm_go.ru (gm_iload dJ6_getChars_ba4f3_118 rfl) ?_
  exact gm_iret dJ6_getChars_ba4f3_120 rfl
theorem zNb_c {F G : Nat → Int} {i : Int} {c : Nat} (hF : ∀ k, k < c → F k = G k) : ∀ k, k < c + zsz i → zNb i c F k = zNb i c G k := by
  intro k hk
  unfold zsz at hk
  unfold zNb
  by_cases c0 : i < 0 <;> by_cases c1 : i.natAbs < 10 <;> simp only [c0, c1, if_true, if_false] at hk ⊢ <;> unfold zU <;> (repeat' split) <;> first | rfl | omega | exact hF k (by omega)
set_option maxRecDepth 4000 in
theorem ct_getChars {h : gm_H} {b n c : Nat} {i : Int} {F : Nat → Int} (hb : h.1[b]? = some (gB n F)) (hB : zBy F) (hi : -99 ≤ i ∧ i ≤ 99) (he : c + zsz i ≤ n) (hn : n ≤ 1000) : ∃ h' x F', gm_co mJ6_getChars_ba4f3 1 [.int (zI i), .int (zI ((c + zsz i : Nat) : Int)), .ref b] h (.inl (some (.int (zI x)))) h' ∧ h'.1[b]? = some (gB n F') ∧ zBy F' ∧ (∀ k, k < c + zsz i → F' k = zNb i c F k) ∧ gh_fr h h' (fun k => k = b) := by
  have hz : zsz i = (if i < 0 then 1 else 0) + (if i.natAbs < 10 then 1 else 2) := rfl
  generalize he' : c + zsz i = e at *
  by_cases c0 : i < 0
  · obtain ⟨a, rfl⟩ : ∃ a : Nat, i = -(a : Int) := ⟨i.natAbs, by omega⟩
    have na : (-(a : Int)).natAbs = a := by omega
    rw [na, if_pos c0] at hz
    by_cases c1 : a < 10
    · rw [if_pos c1] at hz
      obtain ⟨h', x, e1, e2, e3⟩ := ct_gCn1 (e := e) hb (by omega) hn (a := a) (by omega) (by omega)
      refine ⟨h', x, _, e1, e2, zBy_u (zBy_u hB (by omega)) (by omega), fun k hk => ?_, e3⟩
      unfold zNb; simp only [na]; rw [if_pos c0, if_pos c0, if_pos c1]
      unfold zU; (repeat' split) <;> first | rfl | omega
    · rw [if_neg c1] at hz
      obtain ⟨h', x, e1, e2, e3⟩ := ct_gCn2 (e := e) hb (by omega) hn (a := a) (by omega) (by omega)
      refine ⟨h', x, _, e1, e2, zBy_u (zBy_u (zBy_u hB (by omega)) (by omega)) (by omega), fun k hk => ?_, e3⟩
      unfold zNb; simp only [na]; rw [if_pos c0, if_pos c0, if_neg c1]
      unfold zU; (repeat' split) <;> first | rfl | omega
  · obtain ⟨a, rfl⟩ : ∃ a : Nat, i = (a : Int) := ⟨i.natAbs, by omega⟩
    have na : ((a : Int)).natAbs = a := by omega
    rw [na, if_neg c0] at hz
    by_cases c1 : a < 10
    · rw [if_pos c1] at hz
      obtain ⟨h', x, e1, e2, e3⟩ := ct_gCp1 (e := e) hb (by omega) hn (a := a) (by omega) (by omega)
      refine ⟨h', x, _, e1, e2, zBy_u hB (by omega), fun k hk => ?_, e3⟩
      unfold zNb; simp only [na]; rw [if_neg c0, if_neg c0, if_pos c1]
      unfold zU; (repeat' split) <;> first | rfl | omega
    · rw [if_neg c1] at hz
      obtain ⟨h', x, e1, e2, e3⟩ := ct_gCp2 (e := e) hb (by omega) hn (a := a) (by omega) (by omega)
      refine ⟨h', x, _, e1, e2, zBy_u (zBy_u hB (by omega)) (by omega), fun k hk => ?_, e3⟩
      unfold zNb; simp only [na]; rw [if_neg c0, if_neg c0, if_neg c1]
      unfold zU; (repeat' split) <;> first | rfl | omega
theorem zsz_3 (i : Int) : 1 ≤ zsz i ∧ zsz i ≤ 3 := by unfold zsz; (repeat' split) <;> omega
set_option maxRecDepth 4000 in
theorem ct_sbI5 {h : gm_H} {s : Nat} {q : Nat × Nat} {G : Nat → Int} {c : Nat} (hS : sbr_at h s q G c) {i : Int} (hi : -99 ≤ i ∧ i ≤ 99) (hc : c ≤ 60) : ∃ h' q', gm_co mJ5_append_c97b9 5 [.ref s, .int (zI i)] h (.inl (some (.ref s))) h' ∧ sbr_at h' s q' (zNb i c G) (c + zsz i) ∧ sx h h' s q q' := by
  obtain ⟨qc, qs, cq, ml, F, c1, c2, cF, cB⟩ := id hS
  have z3 := zsz_3 i
  obtain ⟨a1, r, e1, e2, e3, e4⟩ := ct_sbEns hS (mn := (c : Int) + (zsz i : Nat)) (by omega) (by omega) (by omega)
  obtain ⟨rc, rs, cr, ml2, F2, d1, d2, dF, dB⟩ := id e2
  obtain ⟨a2, x, F3, g1, g2, gB3, gF, gf⟩ := ct_getChars d2 dB hi (c := c) (by omega) (by omega)
  have d3 := gh_at gf d1 (by omega)
  obtain ⟨a3, ha3⟩ : ∃ y9 : gm_H, y9 = (a2.1.set s (sbr_c r.1 ml2 (c + zsz i)), a2.2) := ⟨_, rfl⟩
  have f3 : gh_fr a2 a3 (fun k => k = s ∨ k = r.1) := by rw [ha3]; exact gh_set gh_rf (Or.inl rfl) _
  refine ⟨a3, r, ?_, ⟨rc, rs, by omega, ml2, F3, by rw [ha3]; exact gs_s d3, by rw [ha3]; exact gs_n g2 (by omega), fun k hk => (gF k hk).trans (zNb_c dF k hk), gB3⟩, sx_tr e4 (sx_fr (gh_tr (gh_mono gf fun k z => Or.inr z) f3))⟩
  refine gm_co_of _ (by decide +kernel) rfl (Nat.le_of_ble_eq_true rfl) rfl ?_
  refine gm_go.ru (gm_aload_n dJ5_append_c97b9_0 rfl (by first | exact Or.inl ⟨_, rfl⟩ | exact Or.inr ⟨_, rfl⟩)) ?_
  refine gm_go.ru (gm_get dJ5_append_c97b9_1 (fl_J5_79 rfl) c1 rfl) ?_
  refine gm_go.ru (gm_istore_n (ls' := [_, _, _, _]) dJ5_append_c97b9_4 (by decide) rfl) ?_
  refine gm_go.ru (gm_iload_n dJ5_append_c97b9_5 rfl) ?_
  refine gm_go.ru (gm_iload_n dJ5_append_c97b9_6 rfl) ?_
  refine gm_go.ru (gm_cS dJ5_append_c97b9_7 (ct_strSize hi) rfl mt_J6_stringSize_0f7a4 ms_J6_stringSize_0f7a4 (lk_J5_245 rfl) rfl (Nat.le_of_ble_eq_true rfl) (by decide)) ?_
  refine gm_go.ru (gi_add dJ5_append_c97b9_10) ?_
  refine gm_go.ru (gm_istore_n (ls' := [_, _, _, _]) dJ5_append_c97b9_11 (by decide) rfl) ?_
  refine gm_go.ru (gm_aload_n dJ5_append_c97b9_12 rfl (by first | exact Or.inl ⟨_, rfl⟩ | exact Or.inr ⟨_, rfl⟩)) ?_
  refine gm_go.ru (gm_iload_n dJ5_append_c97b9_13 rfl) ?_
  refine gm_go.ru (gm_cV0 dJ5_append_c97b9_14 (e1) rfl mt_J5_ensureCapacityInternal_d00df mv_J5_ensureCapacityInternal_d00df (lk_J5_100 rfl) (Or.inl ⟨_, 1, _, _, _, rfl, c1, rfl⟩) rfl (Nat.le_of_ble_eq_true rfl) (by decide)) ?_
  refine gm_go.ru (gm_aload_n dJ5_append_c97b9_17 rfl (by first | exact Or.inl ⟨_, rfl⟩ | exact Or.inr ⟨_, rfl⟩)) ?_
  refine gm_go.ru (gm_cV dJ5_append_c97b9_18 (ct_sbLat e2) rfl mt_J5_isLatin1_aae02 mv_J5_isLatin1_aae02 (lk_J5_83 rfl) (Or.inl ⟨_, 1, _, _, _, rfl, d1, rfl⟩) rfl (Nat.le_of_ble_eq_true rfl) (by decide)) ?_
  refine gm_go.ru (gi_if_eq_f 37 dJ5_append_c97b9_21 (by decide) (by decide) (by decide)) ?_
  refine gm_go.ru (gm_iload_n dJ5_append_c97b9_24 rfl) ?_
  refine gm_go.ru (gm_iload_n dJ5_append_c97b9_25 rfl) ?_
  refine gm_go.ru (gm_aload_n dJ5_append_c97b9_26 rfl (by first | exact Or.inl ⟨_, rfl⟩ | exact Or.inr ⟨_, rfl⟩)) ?_
  refine gm_go.ru (gm_get dJ5_append_c97b9_27 (fl_J5_15 rfl) d1 rfl) ?_
  refine gm_go.ru (gm_cS dJ5_append_c97b9_30 (g1) rfl mt_J6_getChars_ba4f3 ms_J6_getChars_ba4f3 (lk_J5_248 rfl) rfl (Nat.le_of_ble_eq_true rfl) (by decide)) ?_
  refine gm_go.ru (gm_pop dJ5_append_c97b9_33 rfl) ?_
  refine gm_go.ru (gm_goto (tgt := 48) dJ5_append_c97b9_34 (by decide)) ?_
  refine gm_go.ru (gm_aload_n dJ5_append_c97b9_48 rfl (by first | exact Or.inl ⟨_, rfl⟩ | exact Or.inr ⟨_, rfl⟩)) ?_
  refine gm_go.ru (gm_iload_n dJ5_append_c97b9_49 rfl) ?_
  refine gm_go.ru (gm_put dJ5_append_c97b9_50 (fp_J5_79 rfl) d3 (Nat.le_of_ble_eq_true rfl) (by first | exact ⟨rfl, rfl⟩ | exact trivial)) ?_
  refine gm_hp ha3 ?_
  refine gm_go.ru (gm_aload_n dJ5_append_c97b9_53 rfl (by first | exact Or.inl ⟨_, rfl⟩ | exact Or.inr ⟨_, rfl⟩)) ?_
  exact gm_aret dJ5_append_c97b9_54 rfl (by first | exact Or.inl ⟨_, rfl⟩ | exact Or.inr ⟨_, rfl⟩) (by first | exact Or.inl ⟨_, rfl⟩ | exact Or.inr ⟨_, rfl⟩)
set_option maxRecDepth 4000 in
theorem ct_sbI {h : gm_H} {s : Nat} {q : Nat × Nat} {G : Nat → Int} {c : Nat} (hS : sbr_at h s q G c) {i : Int} (hi : -99 ≤ i ∧ i ≤ 99) (hc : c ≤ 60) : ∃ h' q', gm_co mJ4_append_bf812 6 [.ref s, .int (zI i)] h (.inl (some (.ref s))) h' ∧ sbr_at h' s q' (zNb i c G) (c + zsz i) ∧ sx h h' s q q' := by
  obtain ⟨qc, qs, cq, ml, F, c1, c2, cF, cB⟩ := id hS
  obtain ⟨h', q', e1, e2, e3⟩ := ct_sbI5 hS hi hc
  refine ⟨h', q', ?_, e2, e3⟩
  refine gm_co_of _ (by decide +kernel) rfl (Nat.le_of_ble_eq_true rfl) rfl ?_
  refine gm_go.ru (gm_aload_n dJ4_append_bf812_0 rfl (by first | exact Or.inl ⟨_, rfl⟩ | exact Or.inr ⟨_, rfl⟩)) ?_
  refine gm_go.ru (gm_iload_n dJ4_append_bf812_1 rfl) ?_
  refine gm_go.ru (gm_cT dJ4_append_bf812_2 e1 rfl mt_J5_append_c97b9 (l9_J4_53 rfl) (Or.inl ⟨_, 1, _, _, _, rfl, c1, rfl⟩) rfl (Nat.le_of_ble_eq_true rfl) (by decide)) ?_
  refine gm_go.ru (gm_pop dJ4_append_bf812_5 rfl) ?_
  refine gm_go.ru (gm_aload_n dJ4_append_bf812_6 rfl (by first | exact Or.inl ⟨_, rfl⟩ | exact Or.inr ⟨_, rfl⟩)) ?_
  exact gm_aret dJ4_append_bf812_7 rfl (by first | exact Or.inl ⟨_, rfl⟩ | exact Or.inr ⟨_, rfl⟩) (by first | exact Or.inl ⟨_, rfl⟩ | exact Or.inr ⟨_, rfl⟩)
set_option maxRecDepth 4000 in
theorem ct_sbInf {h : gm_H} {s : Nat} {q : Nat × Nat} {G : Nat → Int} {c : Nat} (hS : sbr_at h s q G c) {k b y : Nat} (hk : ks_at k b [zI 32, zI (y : Int)]) (hy : y < 128) : gm_co mJ5_inflateIfNeededFor_a7421 2 [.ref s, .retAddr k] h (.inl none) h := by
  first
  | refine gm_co_of _ (by decide +kernel) rfl (Nat.le_of_ble_eq_true rfl) rfl ?_
  | refine gm_co_ofF _ (by decide +kernel) rfl (Nat.le_of_ble_eq_true rfl) rfl ?_
  obtain ⟨qc, qs, cq, ml, F, c1, c2, cF, cB⟩ := id hS
  refine gm_go.ru (gm_gets (v := .int (zI 1)) dJ5_inflateIfNeededFor_a7421_0 (by decide +kernel) (sl_J5_18 rfl) rfl) ?_
  refine gm_go.ru (gi_if_eq_f 21 dJ5_inflateIfNeededFor_a7421_3 (by decide) (by decide) (by decide)) ?_
  refine gm_go.ru (gm_aload_n dJ5_inflateIfNeededFor_a7421_6 rfl (by first | exact Or.inl ⟨_, rfl⟩ | exact Or.inr ⟨_, rfl⟩)) ?_
  refine gm_go.ru (gm_get dJ5_inflateIfNeededFor_a7421_7 (fl_J5_22 rfl) c1 rfl) ?_
  refine gm_go.ru (gm_aload_n dJ5_inflateIfNeededFor_a7421_10 rfl (by first | exact Or.inl ⟨_, rfl⟩ | exact Or.inr ⟨_, rfl⟩)) ?_
  refine gm_go.ru (gm_cV dJ5_inflateIfNeededFor_a7421_11 (ct_coderK hk) rfl mt_J0_coder_7d493 mv_J0_coder_7d493 (lk_J5_40 rfl) (Or.inr ⟨_, rfl, hk.2.2.1⟩) rfl (Nat.le_of_ble_eq_true rfl) (by decide)) ?_
  refine gm_go.ru (gi_icmp_eq_t (tgt := 21) dJ5_inflateIfNeededFor_a7421_14 (by decide) (by decide) (by decide) rfl) ?_
  exact gm_vret dJ5_inflateIfNeededFor_a7421_21 rfl
set_option maxRecDepth 4000 in
theorem ct_getBytes {h : gm_H} {p n c : Nat} {F : Nat → Int} (hb : h.1[p]? = some (gB n F)) (hc : c + 2 ≤ n) (hn : n ≤ 1000) {k b y : Nat} (hk : ks_at k b [zI 32, zI (y : Int)]) (hy : y < 128) : ∃ h', gm_co mJ0_getBytes_840e7 2 [.retAddr k, .ref p, .int (zI (c : Int)), .int (zI 0)] h (.inl none) h' ∧ h'.1[p]? = some (gB n (zU (zU F c 32) (c + 1) (y : Int))) ∧ gh_fr h h' (fun k => k = p) := by
  obtain ⟨a1, ha1⟩ : ∃ y9 : gm_H, y9 = (h.1.set p (gB n (zU (zU F c 32) (c + 1) (y : Int))), h.2) := ⟨_, rfl⟩
  refine ⟨a1, ?_, by rw [ha1]; exact gs_s hb, by rw [ha1]; exact gh_set (K := fun k => k = p) gh_rf rfl _⟩
  first
  | refine gm_co_of _ (by decide +kernel) rfl (Nat.le_of_ble_eq_true rfl) rfl ?_
  | refine gm_co_ofF _ (by decide +kernel) rfl (Nat.le_of_ble_eq_true rfl) rfl ?_
  refine gm_go.ru (gm_aload_n dJ0_getBytes_840e7_0 rfl (by first | exact Or.inl ⟨_, rfl⟩ | exact Or.inr ⟨_, rfl⟩)) ?_
  refine gm_go.ru (gm_cV dJ0_getBytes_840e7_1 (ct_coderK hk) rfl mt_J0_coder_7d493 mv_J0_coder_7d493 (lk_J0_335 rfl) (Or.inr ⟨_, rfl, hk.2.2.1⟩) rfl (Nat.le_of_ble_eq_true rfl) (by decide)) ?_
  refine gm_go.ru (gm_iload_n dJ0_getBytes_840e7_4 rfl) ?_
  refine gm_go.ru (gi_icmp_ne_f 28 dJ0_getBytes_840e7_5 (by decide) (by decide) (by decide) rfl) ?_
  refine gm_go.ru (gm_aload_n dJ0_getBytes_840e7_8 rfl (by first | exact Or.inl ⟨_, rfl⟩ | exact Or.inr ⟨_, rfl⟩)) ?_
  refine gm_go.ru (gm_getk dJ0_getBytes_840e7_9 hk.1 (sl_J0_9 rfl) rfl) ?_
  refine gm_go.ru (gi_const dJ0_getBytes_840e7_12) ?_
  refine gm_go.ru (gm_aload_n dJ0_getBytes_840e7_13 rfl (by first | exact Or.inl ⟨_, rfl⟩ | exact Or.inr ⟨_, rfl⟩)) ?_
  refine gm_go.ru (gm_iload_n dJ0_getBytes_840e7_14 rfl) ?_
  refine gm_go.ru (gm_iload_n dJ0_getBytes_840e7_15 rfl) ?_
  refine gm_go.ru (gi_shl0 dJ0_getBytes_840e7_16) ?_
  refine gm_go.ru (gm_aload_n dJ0_getBytes_840e7_17 rfl (by first | exact Or.inl ⟨_, rfl⟩ | exact Or.inr ⟨_, rfl⟩)) ?_
  refine gm_go.ru (gm_getk dJ0_getBytes_840e7_18 hk.1 (sl_J0_9 rfl) rfl) ?_
  refine gm_go.ru (gm_klen (x := zI 2) dJ0_getBytes_840e7_21 (ka_b hk.2.2.2.1) rfl) ?_
  refine gm_go.ru (gi_copyK dJ0_getBytes_840e7_22 (cp_J0_212 rfl) hk.2.2.2.1 hb hy hc (by omega) (Nat.le_of_ble_eq_true rfl) (by decide)) ?_
  refine gm_hp ha1 ?_
  refine gm_go.ru (gm_goto (tgt := 43) dJ0_getBytes_840e7_25 (by decide)) ?_
  exact gm_vret dJ0_getBytes_840e7_43 rfl
set_option maxRecDepth 4000 in
theorem ct_sbPut {h : gm_H} {s : Nat} {q : Nat × Nat} {G : Nat → Int} {c : Nat} (hS : sbr_at h s q G c) {k b y : Nat} (hk : ks_at k b [zI 32, zI (y : Int)]) (hy : y < 128) (hc : c + 2 ≤ q.2) : ∃ h' F ml, gm_co mJ5_putStringAt_47b60 3 [.ref s, .int (zI (c : Int)), .retAddr k] h (.inl none) h' ∧ h'.1[s]? = some (sbr_c q.1 ml c) ∧ h'.1[q.1]? = some (gB q.2 (zU (zU F c 32) (c + 1) (y : Int))) ∧ (∀ k, k < c → F k = G k) ∧ zBy F ∧ gh_fr h h' (fun k => k = q.1) := by
  obtain ⟨qc, qs, cq, ml, F, c1, c2, cF, cB⟩ := id hS
  obtain ⟨h', e1, e2, e3⟩ := ct_getBytes c2 hc (by omega) hk hy
  refine ⟨h', F, ml, ?_, gh_at e3 c1 (by omega), e2, cF, cB, e3⟩
  refine gm_co_of _ (by decide +kernel) rfl (Nat.le_of_ble_eq_true rfl) rfl ?_
  refine gm_go.ru (gm_aload_n dJ5_putStringAt_47b60_0 rfl (by first | exact Or.inl ⟨_, rfl⟩ | exact Or.inr ⟨_, rfl⟩)) ?_
  refine gm_go.ru (gm_aload_n dJ5_putStringAt_47b60_1 rfl (by first | exact Or.inl ⟨_, rfl⟩ | exact Or.inr ⟨_, rfl⟩)) ?_
  refine gm_go.ru (gm_cV0 dJ5_putStringAt_47b60_2 (ct_sbInf hS hk hy) rfl mt_J5_inflateIfNeededFor_a7421 mv_J5_inflateIfNeededFor_a7421 (lk_J5_397 rfl) (Or.inl ⟨_, 1, _, _, _, rfl, c1, rfl⟩) rfl (Nat.le_of_ble_eq_true rfl) (by decide)) ?_
  refine gm_go.ru (gm_aload_n dJ5_putStringAt_47b60_5 rfl (by first | exact Or.inl ⟨_, rfl⟩ | exact Or.inr ⟨_, rfl⟩)) ?_
  refine gm_go.ru (gm_aload_n dJ5_putStringAt_47b60_6 rfl (by first | exact Or.inl ⟨_, rfl⟩ | exact Or.inr ⟨_, rfl⟩)) ?_
  refine gm_go.ru (gm_get dJ5_putStringAt_47b60_7 (fl_J5_15 rfl) c1 rfl) ?_
  refine gm_go.ru (gm_iload_n dJ5_putStringAt_47b60_10 rfl) ?_
  refine gm_go.ru (gm_aload_n dJ5_putStringAt_47b60_11 rfl (by first | exact Or.inl ⟨_, rfl⟩ | exact Or.inr ⟨_, rfl⟩)) ?_
  refine gm_go.ru (gm_get dJ5_putStringAt_47b60_12 (fl_J5_22 rfl) c1 rfl) ?_
  refine gm_go.ru (gm_cV0 dJ5_putStringAt_47b60_15 (e1) rfl mt_J0_getBytes_840e7 mv_J0_getBytes_840e7 (lk_J5_399 rfl) (Or.inr ⟨_, rfl, hk.2.2.1⟩) rfl (Nat.le_of_ble_eq_true rfl) (by decide)) ?_
  exact gm_vret dJ5_putStringAt_47b60_18 rfl
set_option maxRecDepth 4000 in
theorem ct_sbS5 {h : gm_H} {s : Nat} {q : Nat × Nat} {G : Nat → Int} {c : Nat} (hS : sbr_at h s q G c) {k b y : Nat} (hk : ks_at k b [zI 32, zI (y : Int)]) (hy : y < 128) (hc : c ≤ 60) : ∃ h' q', gm_co mJ5_append_cf1ce 5 [.ref s, .retAddr k] h (.inl (some (.ref s))) h' ∧ sbr_at h' s q' (zU (zU G c 32) (c + 1) (y : Int)) (c + 2) ∧ sx h h' s q q' := by
  obtain ⟨qc, qs, cq, ml, F, c1, c2, cF, cB⟩ := id hS
  obtain ⟨a1, r, e1, e2, e3, e4⟩ := ct_sbEns hS (mn := (c : Int) + 2) (by omega) (by omega) (by omega)
  obtain ⟨rc, rs, cr, ml0, F0, d1, d2, dF, dB⟩ := id e2
  obtain ⟨a2, F2, ml2, g1, g2, g3, gF, gB2, gf⟩ := ct_sbPut e2 hk hy (by omega)
  obtain ⟨a3, ha3⟩ : ∃ y9 : gm_H, y9 = (a2.1.set s (sbr_c r.1 ml2 (c + 2)), a2.2) := ⟨_, rfl⟩
  have f3 : gh_fr a2 a3 (fun k => k = s ∨ k = r.1) := by rw [ha3]; exact gh_set gh_rf (Or.inl rfl) _
  refine ⟨a3, r, ?_, ⟨rc, rs, by omega, ml2, _, by rw [ha3]; exact gs_s g2, by rw [ha3]; exact gs_n g3 (by omega), fun j hj => ?_, zBy_u (zBy_u gB2 (by decide)) (by omega)⟩, sx_tr e4 (sx_fr (gh_tr (gh_mono gf fun k z => Or.inr z) f3))⟩
  ·
    refine gm_co_of _ (by decide +kernel) rfl (Nat.le_of_ble_eq_true rfl) rfl ?_
    refine gm_go.ru (gm_aload_n dJ5_append_cf1ce_0 rfl (by first | exact Or.inl ⟨_, rfl⟩ | exact Or.inr ⟨_, rfl⟩)) ?_
    refine gm_go.ru (gm_ifnonnull (tgt := 9) dJ5_append_cf1ce_1 (by decide) (Or.inr ⟨_, rfl⟩) (fun z => gm_Ko_998 _ hk.2.2.1 (by injection z))) ?_
    refine gm_go.ru (gm_aload_n dJ5_append_cf1ce_9 rfl (by first | exact Or.inl ⟨_, rfl⟩ | exact Or.inr ⟨_, rfl⟩)) ?_
    refine gm_go.ru (gm_cV dJ5_append_cf1ce_10 (ct_lengthK hk) rfl mt_J0_length_8abf5 mv_J0_length_8abf5 (lk_J5_32 rfl) (Or.inr ⟨_, rfl, hk.2.2.1⟩) rfl (Nat.le_of_ble_eq_true rfl) (by decide)) ?_
    refine gm_go.ru (gm_istore_n (ls' := [_, _, _]) dJ5_append_cf1ce_13 (by decide) rfl) ?_
    refine gm_go.ru (gm_aload_n dJ5_append_cf1ce_14 rfl (by first | exact Or.inl ⟨_, rfl⟩ | exact Or.inr ⟨_, rfl⟩)) ?_
    refine gm_go.ru (gm_aload_n dJ5_append_cf1ce_15 rfl (by first | exact Or.inl ⟨_, rfl⟩ | exact Or.inr ⟨_, rfl⟩)) ?_
    refine gm_go.ru (gm_get dJ5_append_cf1ce_16 (fl_J5_79 rfl) c1 rfl) ?_
    refine gm_go.ru (gm_iload_n dJ5_append_cf1ce_19 rfl) ?_
    refine gm_go.ru (gi_add dJ5_append_cf1ce_20) ?_
    refine gm_go.ru (gm_cV0 dJ5_append_cf1ce_21 (e1) rfl mt_J5_ensureCapacityInternal_d00df mv_J5_ensureCapacityInternal_d00df (lk_J5_100 rfl) (Or.inl ⟨_, 1, _, _, _, rfl, c1, rfl⟩) rfl (Nat.le_of_ble_eq_true rfl) (by decide)) ?_
    refine gm_go.ru (gm_aload_n dJ5_append_cf1ce_24 rfl (by first | exact Or.inl ⟨_, rfl⟩ | exact Or.inr ⟨_, rfl⟩)) ?_
    refine gm_go.ru (gm_aload_n dJ5_append_cf1ce_25 rfl (by first | exact Or.inl ⟨_, rfl⟩ | exact Or.inr ⟨_, rfl⟩)) ?_
    refine gm_go.ru (gm_get dJ5_append_cf1ce_26 (fl_J5_79 rfl) d1 rfl) ?_
    refine gm_go.ru (gm_aload_n dJ5_append_cf1ce_29 rfl (by first | exact Or.inl ⟨_, rfl⟩ | exact Or.inr ⟨_, rfl⟩)) ?_
    refine gm_go.ru (gm_cV0 dJ5_append_cf1ce_30 (g1) rfl mt_J5_putStringAt_47b60 mv_J5_putStringAt_47b60 (lk_J5_208 rfl) (Or.inl ⟨_, 1, _, _, _, rfl, d1, rfl⟩) rfl (Nat.le_of_ble_eq_true rfl) (by decide)) ?_
    refine gm_go.ru (gm_aload_n dJ5_append_cf1ce_33 rfl (by first | exact Or.inl ⟨_, rfl⟩ | exact Or.inr ⟨_, rfl⟩)) ?_
    refine gm_go.ru (gm_dup dJ5_append_cf1ce_34 rfl) ?_
    refine gm_go.ru (gm_get dJ5_append_cf1ce_35 (fl_J5_79 rfl) g2 rfl) ?_
    refine gm_go.ru (gm_iload_n dJ5_append_cf1ce_38 rfl) ?_
    refine gm_go.ru (gi_add dJ5_append_cf1ce_39) ?_
    refine gm_go.ru (gm_put dJ5_append_cf1ce_40 (fp_J5_79 rfl) g2 (Nat.le_of_ble_eq_true rfl) (by first | exact ⟨rfl, rfl⟩ | exact trivial)) ?_
    refine gm_hp ha3 ?_
    refine gm_go.ru (gm_aload_n dJ5_append_cf1ce_43 rfl (by first | exact Or.inl ⟨_, rfl⟩ | exact Or.inr ⟨_, rfl⟩)) ?_
    exact gm_aret dJ5_append_cf1ce_44 rfl (by first | exact Or.inl ⟨_, rfl⟩ | exact Or.inr ⟨_, rfl⟩) (by first | exact Or.inl ⟨_, rfl⟩ | exact Or.inr ⟨_, rfl⟩)
  · unfold zU; (repeat' split) <;> first | rfl | exact gF j (by omega)
set_option maxRecDepth 4000 in
theorem ct_sbS {h : gm_H} {s : Nat} {q : Nat × Nat} {G : Nat → Int} {c : Nat} (hS : sbr_at h s q G c) {k b y : Nat} (hk : ks_at k b [zI 32, zI (y : Int)]) (hy : y < 128) (hc : c ≤ 60) : ∃ h' q', gm_co mJ4_append_15ec4 6 [.ref s, .retAddr k] h (.inl (some (.ref s))) h' ∧ sbr_at h' s q' (zU (zU G c 32) (c + 1) (y : Int)) (c + 2) ∧ sx h h' s q q' := by
  obtain ⟨qc, qs, cq, ml, F, c1, c2, cF, cB⟩ := id hS
  obtain ⟨h', q', e1, e2, e3⟩ := ct_sbS5 hS hk hy hc
  refine ⟨h', q', ?_, e2, e3⟩
  refine gm_co_of _ (by decide +kernel) rfl (Nat.le_of_ble_eq_true rfl) rfl ?_
  refine gm_go.ru (gm_aload_n dJ4_append_15ec4_0 rfl (by first | exact Or.inl ⟨_, rfl⟩ | exact Or.inr ⟨_, rfl⟩)) ?_
  refine gm_go.ru (gm_aload_n dJ4_append_15ec4_1 rfl (by first | exact Or.inl ⟨_, rfl⟩ | exact Or.inr ⟨_, rfl⟩)) ?_
  refine gm_go.ru (gm_cT dJ4_append_15ec4_2 e1 rfl mt_J5_append_cf1ce (l9_J4_29 rfl) (Or.inl ⟨_, 1, _, _, _, rfl, c1, rfl⟩) rfl (Nat.le_of_ble_eq_true rfl) (by decide)) ?_
  refine gm_go.ru (gm_pop dJ4_append_15ec4_5 rfl) ?_
  refine gm_go.ru (gm_aload_n dJ4_append_15ec4_6 rfl (by first | exact Or.inl ⟨_, rfl⟩ | exact Or.inr ⟨_, rfl⟩)) ?_
  exact gm_aret dJ4_append_15ec4_7 rfl (by first | exact Or.inl ⟨_, rfl⟩ | exact Or.inr ⟨_, rfl⟩) (by first | exact Or.inl ⟨_, rfl⟩ | exact Or.inr ⟨_, rfl⟩)
set_option maxRecDepth 4000 in
theorem ct_sbL5 {h : gm_H} {s : Nat} {q : Nat × Nat} {G : Nat → Int} {c : Nat} (hS : sbr_at h s q G c) : gm_co mJ5_length_8abf5 1 [.ref s] h (.inl (some (.int (zI (c : Int))))) h := by
  first
  | refine gm_co_of _ (by decide +kernel) rfl (Nat.le_of_ble_eq_true rfl) rfl ?_
  | refine gm_co_ofF _ (by decide +kernel) rfl (Nat.le_of_ble_eq_true rfl) rfl ?_
  obtain ⟨qc, qs, cq, ml, F, c1, c2, cF, cB⟩ := id hS
  refine gm_go.ru (gm_aload_n dJ5_length_8abf5_0 rfl (by first | exact Or.inl ⟨_, rfl⟩ | exact Or.inr ⟨_, rfl⟩)) ?_
  refine gm_go.ru (gm_get dJ5_length_8abf5_1 (fl_J5_79 rfl) c1 rfl) ?_
  exact gm_iret dJ5_length_8abf5_4 rfl
set_option maxRecDepth 4000 in
theorem ct_sbLen {h : gm_H} {s : Nat} {q : Nat × Nat} {G : Nat → Int} {c : Nat} (hS : sbr_at h s q G c) : gm_co mJ4_length_8abf5 2 [.ref s] h (.inl (some (.int (zI (c : Int))))) h := by
  first
  | refine gm_co_of _ (by decide +kernel) rfl (Nat.le_of_ble_eq_true rfl) rfl ?_
  | refine gm_co_ofF _ (by decide +kernel) rfl (Nat.le_of_ble_eq_true rfl) rfl ?_
  obtain ⟨qc, qs, cq, ml, F, c1, c2, cF, cB⟩ := id hS
  refine gm_go.ru (gm_aload_n dJ4_length_8abf5_0 rfl (by first | exact Or.inl ⟨_, rfl⟩ | exact Or.inr ⟨_, rfl⟩)) ?_
  refine gm_go.ru (gm_cT dJ4_length_8abf5_1 (ct_sbL5 hS) rfl mt_J5_length_8abf5 (l9_J4_343 rfl) (Or.inl ⟨_, 1, _, _, _, rfl, c1, rfl⟩) rfl (Nat.le_of_ble_eq_true rfl) (by decide)) ?_
  exact gm_iret dJ4_length_8abf5_4 rfl
set_option maxRecDepth 4000 in
theorem ct_sbZ5 {h : gm_H} {s : Nat} {q : Nat × Nat} {G : Nat → Int} {c : Nat} (hS : sbr_at h s q G c) : ∃ h' q', gm_co mJ5_setLength_d00df 5 [.ref s, .int (zI 0)] h (.inl none) h' ∧ sbr_at h' s q' G 0 ∧ sx h h' s q q' := by
  obtain ⟨qc, qs, cq, ml, F, c1, c2, cF, cB⟩ := id hS
  obtain ⟨a1, r, e1, e2, e3, e4⟩ := ct_sbEns hS (mn := 0) (by omega) (by omega) (by omega)
  obtain ⟨rc, rs, cr, ml0, F0, d1, d2, dF, dB⟩ := id e2
  by_cases cz : c = 0
  ·
    obtain ⟨a3, ha3⟩ : ∃ y9 : gm_H, y9 = (a1.1.set s (sbr_c r.1 ml0 0), a1.2) := ⟨_, rfl⟩
    have f3 : gh_fr a1 a3 (fun k => k = s ∨ k = r.1) := by rw [ha3]; exact gh_set gh_rf (Or.inl rfl) _
    refine ⟨a3, r, ?_, ⟨rc, rs, by omega, ml0, F0, by rw [ha3]; exact gs_s d1, by rw [ha3]; exact gs_n d2 (by omega), fun j hj => absurd hj (by omega), dB⟩, sx_tr e4 (sx_fr f3)⟩
    refine gm_co_of _ (by decide +kernel) rfl (Nat.le_of_ble_eq_true rfl) rfl ?_
    refine gm_go.ru (gm_iload_n dJ5_setLength_d00df_0 rfl) ?_
    refine gm_go.ru (gi_if_ge_t (tgt := 13) dJ5_setLength_d00df_1 (by decide) (by omega) (by decide)) ?_
    refine gm_go.ru (gm_aload_n dJ5_setLength_d00df_13 rfl (by first | exact Or.inl ⟨_, rfl⟩ | exact Or.inr ⟨_, rfl⟩)) ?_
    refine gm_go.ru (gm_iload_n dJ5_setLength_d00df_14 rfl) ?_
    refine gm_go.ru (gm_cV0 dJ5_setLength_d00df_15 (e1) rfl mt_J5_ensureCapacityInternal_d00df mv_J5_ensureCapacityInternal_d00df (lk_J5_100 rfl) (Or.inl ⟨_, 1, _, _, _, rfl, c1, rfl⟩) rfl (Nat.le_of_ble_eq_true rfl) (by decide)) ?_
    refine gm_go.ru (gm_aload_n dJ5_setLength_d00df_18 rfl (by first | exact Or.inl ⟨_, rfl⟩ | exact Or.inr ⟨_, rfl⟩)) ?_
    refine gm_go.ru (gm_get dJ5_setLength_d00df_19 (fl_J5_79 rfl) d1 rfl) ?_
    refine gm_go.ru (gm_iload_n dJ5_setLength_d00df_22 rfl) ?_
    refine gm_go.ru (gi_icmp_ge_t (tgt := 63) dJ5_setLength_d00df_23 (by decide) (by omega) (by omega) (by omega)) ?_
    refine gm_go.ru (gm_aload_n dJ5_setLength_d00df_63 rfl (by first | exact Or.inl ⟨_, rfl⟩ | exact Or.inr ⟨_, rfl⟩)) ?_
    refine gm_go.ru (gm_get dJ5_setLength_d00df_64 (fl_J5_79 rfl) d1 rfl) ?_
    refine gm_go.ru (gm_iload_n dJ5_setLength_d00df_67 rfl) ?_
    refine gm_go.ru (gi_icmp_le_t (tgt := 76) dJ5_setLength_d00df_68 (by decide) (by omega) (by omega) (by omega)) ?_
    refine gm_go.ru (gm_aload_n dJ5_setLength_d00df_76 rfl (by first | exact Or.inl ⟨_, rfl⟩ | exact Or.inr ⟨_, rfl⟩)) ?_
    refine gm_go.ru (gm_iload_n dJ5_setLength_d00df_77 rfl) ?_
    refine gm_go.ru (gm_put dJ5_setLength_d00df_78 (fp_J5_79 rfl) d1 (Nat.le_of_ble_eq_true rfl) (by first | exact ⟨rfl, rfl⟩ | exact trivial)) ?_
    refine gm_hp ha3 ?_
    exact gm_vret dJ5_setLength_d00df_81 rfl
  ·
    obtain ⟨a2, ha2⟩ : ∃ y9 : gm_H, y9 = (a1.1.set s (sbr_c r.1 1 c), a1.2) := ⟨_, rfl⟩
    have g2 : a2.1[s]? = some (sbr_c r.1 1 c) := by rw [ha2]; exact gs_s d1
    have g3 : a2.1[r.1]? = some (gB r.2 F0) := by rw [ha2]; exact gs_n d2 (by omega)
    have f2 : gh_fr a1 a2 (fun k => k = s ∨ k = r.1) := by rw [ha2]; exact gh_set gh_rf (Or.inl rfl) _
    obtain ⟨a3, ha3⟩ : ∃ y9 : gm_H, y9 = (a2.1.set s (sbr_c r.1 1 0), a2.2) := ⟨_, rfl⟩
    have f3 : gh_fr a2 a3 (fun k => k = s ∨ k = r.1) := by rw [ha3]; exact gh_set gh_rf (Or.inl rfl) _
    refine ⟨a3, r, ?_, ⟨rc, rs, by omega, 1, F0, by rw [ha3]; exact gs_s g2, by rw [ha3]; exact gs_n g3 (by omega), fun j hj => absurd hj (by omega), dB⟩, sx_tr e4 (sx_fr (gh_tr f2 f3))⟩
    refine gm_co_of _ (by decide +kernel) rfl (Nat.le_of_ble_eq_true rfl) rfl ?_
    refine gm_go.ru (gm_iload_n dJ5_setLength_d00df_0 rfl) ?_
    refine gm_go.ru (gi_if_ge_t (tgt := 13) dJ5_setLength_d00df_1 (by decide) (by omega) (by decide)) ?_
    refine gm_go.ru (gm_aload_n dJ5_setLength_d00df_13 rfl (by first | exact Or.inl ⟨_, rfl⟩ | exact Or.inr ⟨_, rfl⟩)) ?_
    refine gm_go.ru (gm_iload_n dJ5_setLength_d00df_14 rfl) ?_
    refine gm_go.ru (gm_cV0 dJ5_setLength_d00df_15 (e1) rfl mt_J5_ensureCapacityInternal_d00df mv_J5_ensureCapacityInternal_d00df (lk_J5_100 rfl) (Or.inl ⟨_, 1, _, _, _, rfl, c1, rfl⟩) rfl (Nat.le_of_ble_eq_true rfl) (by decide)) ?_
    refine gm_go.ru (gm_aload_n dJ5_setLength_d00df_18 rfl (by first | exact Or.inl ⟨_, rfl⟩ | exact Or.inr ⟨_, rfl⟩)) ?_
    refine gm_go.ru (gm_get dJ5_setLength_d00df_19 (fl_J5_79 rfl) d1 rfl) ?_
    refine gm_go.ru (gm_iload_n dJ5_setLength_d00df_22 rfl) ?_
    refine gm_go.ru (gi_icmp_ge_t (tgt := 63) dJ5_setLength_d00df_23 (by decide) (by omega) (by omega) (by omega)) ?_
    refine gm_go.ru (gm_aload_n dJ5_setLength_d00df_63 rfl (by first | exact Or.inl ⟨_, rfl⟩ | exact Or.inr ⟨_, rfl⟩)) ?_
    refine gm_go.ru (gm_get dJ5_setLength_d00df_64 (fl_J5_79 rfl) d1 rfl) ?_
    refine gm_go.ru (gm_iload_n dJ5_setLength_d00df_67 rfl) ?_
    refine gm_go.ru (gi_icmp_le_f 76 dJ5_setLength_d00df_68 (by decide) (by omega) (by omega) (by omega)) ?_
    refine gm_go.ru (gm_aload_n dJ5_setLength_d00df_71 rfl (by first | exact Or.inl ⟨_, rfl⟩ | exact Or.inr ⟨_, rfl⟩)) ?_
    refine gm_go.ru (gi_const dJ5_setLength_d00df_72) ?_
    refine gm_go.ru (gm_put dJ5_setLength_d00df_73 (fp_J5_73 rfl) d1 (Nat.le_of_ble_eq_true rfl) (by first | exact ⟨rfl, rfl⟩ | exact trivial)) ?_
    refine gm_hp ha2 ?_
    refine gm_go.ru (gm_aload_n dJ5_setLength_d00df_76 rfl (by first | exact Or.inl ⟨_, rfl⟩ | exact Or.inr ⟨_, rfl⟩)) ?_
    refine gm_go.ru (gm_iload_n dJ5_setLength_d00df_77 rfl) ?_
    refine gm_go.ru (gm_put dJ5_setLength_d00df_78 (fp_J5_79 rfl) g2 (Nat.le_of_ble_eq_true rfl) (by first | exact ⟨rfl, rfl⟩ | exact trivial)) ?_
    refine gm_hp ha3 ?_
    exact gm_vret dJ5_setLength_d00df_81 rfl
set_option maxRecDepth 4000 in
theorem ct_sbZ {h : gm_H} {s : Nat} {q : Nat × Nat} {G : Nat → Int} {c : Nat} (hS : sbr_at h s q G c) : ∃ h' q', gm_co mJ4_setLength_d00df 6 [.ref s, .int (zI 0)] h (.inl none) h' ∧ sbr_at h' s q' G 0 ∧ sx h h' s q q' := by
  obtain ⟨qc, qs, cq, ml, F, c1, c2, cF, cB⟩ := id hS
  obtain ⟨h', q', e1, e2, e3⟩ := ct_sbZ5 hS
  refine ⟨h', q', ?_, e2, e3⟩
  refine gm_co_of _ (by decide +kernel) rfl (Nat.le_of_ble_eq_true rfl) rfl ?_
  refine gm_go.ru (gm_aload_n dJ4_setLength_d00df_0 rfl (by first | exact Or.inl ⟨_, rfl⟩ | exact Or.inr ⟨_, rfl⟩)) ?_
  refine gm_go.ru (gm_iload_n dJ4_setLength_d00df_1 rfl) ?_
  refine gm_go.ru (gm_cT0 dJ4_setLength_d00df_2 e1 rfl mt_J5_setLength_d00df (l9_J4_333 rfl) (Or.inl ⟨_, 1, _, _, _, rfl, c1, rfl⟩) rfl (Nat.le_of_ble_eq_true rfl) (by decide)) ?_
  exact gm_vret dJ4_setLength_d00df_5 rfl
set_option maxRecDepth 4000 in
theorem ct_sbA5 {h : gm_H} {s : Nat} {q : Nat × Nat} {G : Nat → Int} {c : Nat} (hS : sbr_at h s q G c) {i : Nat} (hi : i < c) : gm_co mJ5_charAt_5068e 3 [.ref s, .int (zI (i : Int))] h (.inl (some (.int (zI (G i))))) h := by
  first
  | refine gm_co_of _ (by decide +kernel) rfl (Nat.le_of_ble_eq_true rfl) rfl ?_
  | refine gm_co_ofF _ (by decide +kernel) rfl (Nat.le_of_ble_eq_true rfl) rfl ?_
  obtain ⟨qc, qs, cq, ml, F, c1, c2, cF, cB⟩ := id hS
  have b8 := cB i
  obtain ⟨y, hy⟩ : ∃ y : Nat, F i = (y : Int) := ⟨(F i).toNat, by omega⟩
  rw [← cF i hi, hy]
  refine gm_go.ru (gm_aload_n dJ5_charAt_5068e_0 rfl (by first | exact Or.inl ⟨_, rfl⟩ | exact Or.inr ⟨_, rfl⟩)) ?_
  refine gm_go.ru (gm_get dJ5_charAt_5068e_1 (fl_J5_22 rfl) c1 rfl) ?_
  refine gm_go.ru (gm_istore_n (ls' := [_, _, _, _, _]) dJ5_charAt_5068e_4 (by decide) rfl) ?_
  refine gm_go.ru (gm_aload_n dJ5_charAt_5068e_5 rfl (by first | exact Or.inl ⟨_, rfl⟩ | exact Or.inr ⟨_, rfl⟩)) ?_
  refine gm_go.ru (gm_get dJ5_charAt_5068e_6 (fl_J5_15 rfl) c1 rfl) ?_
  refine gm_go.ru (gm_astore_n (ls' := [_, _, _, _, _]) dJ5_charAt_5068e_9 (by first | exact Or.inl ⟨_, rfl⟩ | exact Or.inr ⟨_, rfl⟩) (by decide) rfl) ?_
  refine gm_go.ru (gm_aload_n dJ5_charAt_5068e_10 rfl (by first | exact Or.inl ⟨_, rfl⟩ | exact Or.inr ⟨_, rfl⟩)) ?_
  refine gm_go.ru (gm_get dJ5_charAt_5068e_11 (fl_J5_79 rfl) c1 rfl) ?_
  refine gm_go.ru (gm_aload_n dJ5_charAt_5068e_14 rfl (by first | exact Or.inl ⟨_, rfl⟩ | exact Or.inr ⟨_, rfl⟩)) ?_
  refine gm_go.ru (gi_blen dJ5_charAt_5068e_15 c2) ?_
  refine gm_go.ru (gm_iload_n dJ5_charAt_5068e_16 rfl) ?_
  refine gm_go.ru (gi_shr0 dJ5_charAt_5068e_17) ?_
  refine gm_go.ru (gm_cS dJ5_charAt_5068e_18 (ct_min (by omega) (by omega)) rfl mt_J9_min_7cf53 ms_J9_min_7cf53 (lk_J5_138 rfl) rfl (Nat.le_of_ble_eq_true rfl) (by decide)) ?_
  refine gm_go.ru (gm_istore (ls' := [_, _, _, _, _]) dJ5_charAt_5068e_21 (by decide) rfl) ?_
  refine gm_go.ru (gm_iload_n dJ5_charAt_5068e_23 rfl) ?_
  refine gm_go.ru (gm_iload dJ5_charAt_5068e_24 rfl) ?_
  refine gm_go.ru (gm_cS0 dJ5_charAt_5068e_26 (ct_checkIndex0 (by omega) (by omega)) rfl mt_J0_checkIndex_df160 ms_J0_checkIndex_df160 (lk_J5_144 rfl) rfl (Nat.le_of_ble_eq_true rfl) (by decide)) ?_
  refine gm_go.ru (gm_iload_n dJ5_charAt_5068e_29 rfl) ?_
  refine gm_go.ru (gi_if_ne_f 42 dJ5_charAt_5068e_30 (by decide) (by decide) rfl) ?_
  refine gm_go.ru (gm_aload_n dJ5_charAt_5068e_33 rfl (by first | exact Or.inl ⟨_, rfl⟩ | exact Or.inr ⟨_, rfl⟩)) ?_
  refine gm_go.ru (gm_iload_n dJ5_charAt_5068e_34 rfl) ?_
  refine gm_go.ru (gi_bald dJ5_charAt_5068e_35 c2 (by omega) (by omega) (by omega)) ?_
  rw [Int.toNat_natCast, hy]
  refine gm_go.ru (gi_sipush dJ5_charAt_5068e_36 (by decide +kernel)) ?_
  refine gm_go.ru (gi_and (a := y) (b := 255) dJ5_charAt_5068e_39) ?_
  rw [zCh_and y (by omega)]
  refine gm_go.ru (gi_i2c dJ5_charAt_5068e_40 (by omega) (by omega)) ?_
  exact gm_zret dJ5_charAt_5068e_41 rfl (zCh_nar y (by omega))
set_option maxRecDepth 4000 in
theorem ct_sbAt {h : gm_H} {s : Nat} {q : Nat × Nat} {G : Nat → Int} {c : Nat} (hS : sbr_at h s q G c) {i : Nat} (hi : i < c) : gm_co mJ4_charAt_5068e 4 [.ref s, .int (zI (i : Int))] h (.inl (some (.int (zI (G i))))) h := by
  first
  | refine gm_co_of _ (by decide +kernel) rfl (Nat.le_of_ble_eq_true rfl) rfl ?_
  | refine gm_co_ofF _ (by decide +kernel) rfl (Nat.le_of_ble_eq_true rfl) rfl ?_
  obtain ⟨qc, qs, cq, ml, F, c1, c2, cF, cB⟩ := id hS
  have b8 := cB i
  have e8 := cF i hi
  refine gm_go.ru (gm_aload_n dJ4_charAt_5068e_0 rfl (by first | exact Or.inl ⟨_, rfl⟩ | exact Or.inr ⟨_, rfl⟩)) ?_
  refine gm_go.ru (gm_iload_n dJ4_charAt_5068e_1 rfl) ?_
  refine gm_go.ru (gm_cT dJ4_charAt_5068e_2 (ct_sbA5 hS hi) rfl mt_J5_charAt_5068e (l9_J4_329 rfl) (Or.inl ⟨_, 1, _, _, _, rfl, c1, rfl⟩) rfl (Nat.le_of_ble_eq_true rfl) (by decide)) ?_
  obtain ⟨y, hy⟩ : ∃ y : Nat, G i = (y : Int) := ⟨(G i).toNat, by omega⟩
  rw [hy]
  exact gm_zret dJ4_charAt_5068e_5 rfl (zCh_nar y (by omega))
set_option maxRecDepth 4000 in
theorem ct_sbI0 {h : gm_H} {s : Nat} (h0 : h.1[s]? = some (.inr (1, [.null, .int 0, .int 0, .int 0]))) : ∃ h', gm_co mJ5_init_d00df 1 [.ref s, .int (zI 16)] h (.inl none) h' ∧ sbr_at h' s (h.1.length, 16) (fun _ => 0) 0 ∧ h'.1.length = h.1.length + 1 ∧ gh_al h h' s 1 16 := by
  obtain ⟨a1, ha1⟩ : ∃ y9 : gm_H, y9 = (h.1 ++ [gB 16 (fun _ => 0)], (h.2.1 + 1, h.2.2 + 16)) := ⟨_, rfl⟩
  have s9 := (List.getElem?_eq_some_iff.mp h0).1
  have g1 : a1.1[s]? = some (.inr (1, [.null, .int 0, .int 0, .int 0])) := by rw [ha1]; exact ga_l h0
  have g2 : a1.1[h.1.length]? = some (gB 16 (fun _ => 0)) := by rw [ha1]; exact ga_r rfl
  obtain ⟨a2, ha2⟩ : ∃ y9 : gm_H, y9 = (a1.1.set s (.inr (1, [.ref h.1.length, .int 0, .int 0, .int 0])), a1.2) := ⟨_, rfl⟩
  have g3 : a2.1[s]? = some (.inr (1, [.ref h.1.length, .int 0, .int 0, .int 0])) := by rw [ha2]; exact gs_s g1
  have g4 : a2.1[h.1.length]? = some (gB 16 (fun _ => 0)) := by rw [ha2]; exact gs_n g2 (by omega)
  obtain ⟨a3, ha3⟩ : ∃ y9 : gm_H, y9 = (a2.1.set s (.inr (1, [.ref h.1.length, .int 0, .int 0, .int 0])), a2.2) := ⟨_, rfl⟩
  have g5 : a3.1[s]? = some (.inr (1, [.ref h.1.length, .int 0, .int 0, .int 0])) := by rw [ha3]; exact gs_s g3
  have g6 : a3.1[h.1.length]? = some (gB 16 (fun _ => 0)) := by rw [ha3]; exact gs_n g4 (by omega)
  refine ⟨a3, ?_, ⟨Or.inl rfl, by show h.1.length ≠ s; omega, Nat.zero_le _, 0, (fun _ => 0), g5, g6, fun k hk => absurd hk (by omega), fun k => ⟨Int.le_refl 0, by show (0 : Int) < 128; decide⟩⟩, by rw [ha3, ha2, ha1]; simp, ?_⟩
  ·
    refine gm_co_of _ (by decide +kernel) rfl (Nat.le_of_ble_eq_true rfl) rfl ?_
    refine gm_go.ru (gm_aload_n dJ5_init_d00df_0 rfl (by first | exact Or.inl ⟨_, rfl⟩ | exact Or.inr ⟨_, rfl⟩)) ?_
    refine gm_go.ru (gm_objInit dJ5_init_d00df_1 rfl (ol_J5_3 rfl) oi_i oi_c (Nat.le_of_ble_eq_true rfl) (by decide)) ?_
    refine gm_go.ru (gm_gets (v := .int (zI 1)) dJ5_init_d00df_4 (by decide +kernel) (sl_J5_18 rfl) rfl) ?_
    refine gm_go.ru (gi_if_eq_f 25 dJ5_init_d00df_7 (by decide) (by decide) (by decide)) ?_
    refine gm_go.ru (gm_aload_n dJ5_init_d00df_10 rfl (by first | exact Or.inl ⟨_, rfl⟩ | exact Or.inr ⟨_, rfl⟩)) ?_
    refine gm_go.ru (gm_iload_n dJ5_init_d00df_11 rfl) ?_
    refine gm_go.ru (gm_newa_byte dJ5_init_d00df_12 ac_byte (by decide) rfl (by decide)) ?_
    refine gm_hp ha1 ?_
    refine gm_go.ru (gm_put dJ5_init_d00df_14 (fp_J5_15 rfl) g1 (Nat.le_of_ble_eq_true rfl) (by first | exact ⟨rfl, rfl⟩ | exact trivial)) ?_
    refine gm_hp ha2 ?_
    refine gm_go.ru (gm_aload_n dJ5_init_d00df_17 rfl (by first | exact Or.inl ⟨_, rfl⟩ | exact Or.inr ⟨_, rfl⟩)) ?_
    refine gm_go.ru (gi_const dJ5_init_d00df_18) ?_
    refine gm_go.ru (gm_put dJ5_init_d00df_19 (fp_J5_22 rfl) g3 (Nat.le_of_ble_eq_true rfl) (by first | exact ⟨rfl, rfl⟩ | exact trivial)) ?_
    refine gm_hp ha3 ?_
    refine gm_go.ru (gm_goto (tgt := 38) dJ5_init_d00df_22 (by decide)) ?_
    exact gm_vret dJ5_init_d00df_38 rfl
  · rw [ha3, ha2, ha1]; exact al_s (al_s (al_a al_rf rfl (Nat.le_of_lt s9)) (Nat.le_refl _)) (Nat.le_refl _)
set_option maxRecDepth 4000 in
theorem ct_sbInit {h : gm_H} {s : Nat} (h0 : h.1[s]? = some (.inr (1, [.null, .int 0, .int 0, .int 0]))) : ∃ h', gm_co mJ4_init_da8c8 2 [.ref s] h (.inl none) h' ∧ sbr_at h' s (h.1.length, 16) (fun _ => 0) 0 ∧ h'.1.length = h.1.length + 1 ∧ gh_al h h' s 1 16 := by
  obtain ⟨h', e1, e2⟩ := ct_sbI0 h0
  refine ⟨h', ?_, e2⟩
  refine gm_co_of _ (by decide +kernel) rfl (Nat.le_of_ble_eq_true rfl) rfl ?_
  refine gm_go.ru (gm_aload_n dJ4_init_da8c8_0 rfl (by first | exact Or.inl ⟨_, rfl⟩ | exact Or.inr ⟨_, rfl⟩)) ?_
  refine gm_go.ru (gi_bipush dJ4_init_da8c8_1 (by decide +kernel)) ?_
  refine gm_go.ru (gm_cI dJ4_init_da8c8_3 e1 rfl mt_J5_init_d00df mi_J5_init_d00df (lk_J4_1 rfl) (Or.inl ⟨_, 1, _, _, _, rfl, h0, rfl⟩) rfl (Nat.le_of_ble_eq_true rfl) (by decide)) ?_
  exact gm_vret dJ4_init_da8c8_6 rfl
