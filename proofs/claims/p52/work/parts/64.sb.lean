/-! StringBuilder with any room: s its cell, q the cell of its bytes and their room, G what stands in it, c how much -/
def sbh (h : gm_H) (s : Nat) (q : Nat × Nat) (G : Nat → Int) (c : Nat) : Prop := q.1 ≠ s ∧ c ≤ q.2 ∧ ∃ ml F, h.1[s]? = some (sbr_c q.1 ml c) ∧ h.1[q.1]? = some (gB q.2 F) ∧ (∀ k, k < c → F k = G k) ∧ zBy F
def sbg (h : gm_H) (s : Nat) (q : Nat × Nat) (G : Nat → Int) (c : Nat) : Prop := q.2 ≤ 40 + 2 * c ∧ sbh h s q G c
/-- what a run of the builder at s leaves alone, and what room it takes -/
def sy (h h' : gm_H) (s : Nat) (q q' : Nat × Nat) : Prop := h.1.length ≤ h'.1.length ∧ (q'.1 = q.1 ∨ h.1.length ≤ q'.1) ∧ (∀ k, k < h.1.length → k ≠ s → k ≠ q.1 → h'.1[k]? = h.1[k]?) ∧ q.2 ≤ q'.2 ∧ (h.2.1 ≤ h'.2.1 ∧ h'.2.1 + q.2 ≤ h.2.1 + q'.2) ∧ h.2.2 ≤ h'.2.2 ∧ h'.2.2 + 2 * q.2 ≤ h.2.2 + 2 * q'.2
theorem sy_rf {h : gm_H} {s : Nat} {q : Nat × Nat} : sy h h s q q := ⟨Nat.le_refl _, Or.inl rfl, fun _ _ _ _ => rfl, Nat.le_refl _, ⟨Nat.le_refl _, Nat.le_refl _⟩, Nat.le_refl _, Nat.le_refl _⟩
theorem sy_fr {h h' : gm_H} {s : Nat} {q : Nat × Nat} (f : gh_fr h h' (fun k => k = s ∨ k = q.1)) : sy h h' s q q := by
  obtain ⟨f1, f2, f3⟩ := f
  refine ⟨by omega, Or.inl rfl, fun k _ h1 h2 => f3 k (by omega), Nat.le_refl _, ?_, ?_⟩ <;> rw [f1] <;> omega
theorem sy_tr {a b c : gm_H} {s : Nat} {q r t : Nat × Nat} (f : sy a b s q r) (g : sy b c s r t) : sy a c s q t := by
  obtain ⟨f1, f2, f3, f4, f5, f6, f7⟩ := f
  obtain ⟨g1, g2, g3, g4, g5, g6, g7⟩ := g
  exact ⟨by omega, by omega, fun k hk h1 h2 => (g3 k (by omega) h1 (by omega)).trans (f3 k hk h1 h2), by omega, by omega, by omega, by omega⟩
/-- a text of n characters T put at c -/
def zCt (c n : Nat) (T G : Nat → Int) : Nat → Int := fun k => if c ≤ k ∧ k < c + n then T (k - c) else G k
theorem zCt_c {c n : Nat} {T U F G : Nat → Int} (hF : ∀ k, k < c → F k = G k) (hT : ∀ k, k < n → T k = U k) : ∀ k, k < c + n → zCt c n T F k = zCt c n U G k := fun k hk => by
  unfold zCt
  split
  · exact hT _ (by omega)
  · exact hF k (by omega)
theorem zCt_by {c n : Nat} {T G : Nat → Int} (hG : zBy G) (hT : ∀ k, k < n → 0 ≤ T k ∧ T k < 128) : zBy (zCt c n T G) := fun k => by
  unfold zCt
  split
  · exact hT _ (by omega)
  · exact hG k
/-- a String: made, or one of the constants; c its length, T its characters -/
def sv_at (h : gm_H) (rv : Value) (c : Nat) (T : Nat → Int) : Prop :=
  (∃ s b F, rv = .ref s ∧ h.1[s]? = some (.inr (0, [.ref b, .int (zI 0), .int 0, .int 0])) ∧ h.1[b]? = some (gB c F) ∧ zBy F ∧ ∀ k, k < c → F k = T k) ∨
  ∃ k b l, rv = .retAddr k ∧ ks_at k b l ∧ l.length = c ∧ ∀ j, j < c → l.getD j 0 = zI (T j) ∧ 0 ≤ T j ∧ T j < 128
theorem sv_rc {h : gm_H} {rv : Value} {c : Nat} {T : Nat → Int} (hS : sv_at h rv c T) : gm_rc h rv "java/lang/String" := by
  rcases hS with ⟨s, b, F, rfl, h1, -⟩ | ⟨k, b, l, rfl, h1, -⟩
  · exact Or.inl ⟨_, 0, _, _, _, rfl, h1, rfl⟩
  · exact Or.inr ⟨_, rfl, h1.2.2.1⟩
theorem sv_nn {h : gm_H} {rv : Value} {c : Nat} {T : Nat → Int} (hS : sv_at h rv c T) : ((∃ k, rv = .ref k) ∨ ∃ k, rv = .retAddr k) ∧ rv ≠ .retAddr 998 := by
  rcases hS with ⟨s, b, F, rfl, h1, -⟩ | ⟨k, b, l, rfl, h1, -⟩
  · exact ⟨Or.inl ⟨_, rfl⟩, fun z => by cases z⟩
  · exact ⟨Or.inr ⟨_, rfl⟩, fun z => gm_Ko_998 _ h1.2.2.1 (by injection z)⟩
theorem sv_mv {h h' : gm_H} {rv : Value} {c : Nat} {T : Nat → Int} (hS : sv_at h rv c T) (e : ∀ k, k < h.1.length → h'.1[k]? = h.1[k]?) : sv_at h' rv c T := by
  rcases hS with ⟨s, b, F, rfl, h1, h2, h3⟩ | ⟨k, b, l, rfl, h1, h2⟩
  · exact Or.inl ⟨s, b, F, rfl, (e s (List.getElem?_eq_some_iff.mp h1).1).trans h1, (e b (List.getElem?_eq_some_iff.mp h2).1).trans h2, h3⟩
  · exact Or.inr ⟨k, b, l, rfl, h1, h2⟩
theorem sv_by {h : gm_H} {rv : Value} {c : Nat} {T : Nat → Int} (hS : sv_at h rv c T) : ∀ k, k < c → 0 ≤ T k ∧ T k < 128 := by
  rcases hS with ⟨s, b, F, -, -, -, h3, h4⟩ | ⟨k, b, l, -, -, -, h2⟩
  · intro k hk; rw [← h4 k hk]; exact h3 k
  · intro j hj; exact (h2 j hj).2
theorem sv_cg {h : gm_H} {rv : Value} {c : Nat} {T U : Nat → Int} (hS : sv_at h rv c T) (e : ∀ k, k < c → T k = U k) : sv_at h rv c U := by
  rcases hS with ⟨s, b, F, h0, h1, h2, h3, h4⟩ | ⟨k, b, l, h0, h1, h2, h3⟩
  · exact Or.inl ⟨s, b, F, h0, h1, h2, h3, fun k hk => (h4 k hk).trans (e k hk)⟩
  · exact Or.inr ⟨k, b, l, h0, h1, h2, fun j hj => by rw [← e j hj]; exact h3 j hj⟩
theorem gi_copyB2 {M : gm_M} {d pc : Nat} {ls : List (Option Value)} {st : List Value} {h : gm_H} {index k0 k1 n0 n1 n c : Nat} {F G : Nat → Int} (hd : decode M.2.1 pc = .ok (.invokestatic index, 3)) (hw : gm_cp M index) (hk0 : h.1[k0]? = some (gB n0 F)) (hk1 : h.1[k1]? = some (gB n1 G)) (hF : zBy F)
    (h4 : n ≤ n0) (h5 : c + n ≤ n1) (hn : n1 ≤ 2147483647) (hrest : (st.map fun v => v.category).sum ≤ 8) (hdd : 1 ≤ d) :
    gm_go M d (pc, ls, .int (zI (n : Int)) :: .int (zI (c : Int)) :: .ref k1 :: .int (zI 0) :: .ref k0 :: st, h) (pc + 3, ls, st, (h.1.set k1 (gB n1 (zCt c n F G)), h.2)) := by
  have hc : (zI (n : Int)).toNatClampNeg = n := z_cl (by omega)
  have hc2 : (zI (c : Int)).toNatClampNeg = c := z_cl (by omega)
  have h0 : (zI 0).toNatClampNeg = 0 := rfl
  have h9 := gm_copy (st := st) (ls := ls) (d := d) (t := 4) (sp := zI 0) (dp := zI (c : Int)) (n := zI (n : Int)) hd hw rfl hk0 hk1 rfl (by decide) (z_neg (by omega)) (z_neg (by omega)) (by rw [h0, hc]; omega) (by rw [hc2, hc]; omega) (fun i hi => by
    have h1 := hF ((zI 0).toNatClampNeg + i)
    have h2 := zBy_fit (F ((zI 0).toNatClampNeg + i)).toNat (by omega)
    rwa [Int.toNat_of_nonneg h1.1] at h2) hrest hdd
  rw [h0, hc, hc2] at h9
  have e : va_cpy (fun j => zI (F j)) (fun j => zI (G j)) 0 c n = fun j => zI (zCt c n F G j) := by
    funext j
    unfold va_cpy zCt
    by_cases hj : c ≤ j ∧ j < c + n
    · rw [if_pos hj, if_pos hj, Nat.zero_add]
    · rw [if_neg hj, if_neg hj]
  rw [e] at h9
  exact h9
theorem gi_copyT2 {M : gm_M} {d pc : Nat} {ls : List (Option Value)} {st : List Value} {h : gm_H} {index b k1 n1 n c : Nat} {l : List Int32} {T G : Nat → Int} (hd : decode M.2.1 pc = .ok (.invokestatic index, 3)) (hw : gm_cp M index) (hk0 : (b, FieldType.byte, l) ∈ gm_Kb) (hl : l.length = n) (hT : ∀ j, j < n → l.getD j 0 = zI (T j) ∧ 0 ≤ T j ∧ T j < 128) (hk1 : h.1[k1]? = some (gB n1 G))
    (h5 : c + n ≤ n1) (hn : n1 ≤ 2147483647) (hrest : (st.map fun v => v.category).sum ≤ 8) (hdd : 1 ≤ d) :
    gm_go M d (pc, ls, .int (zI (n : Int)) :: .int (zI (c : Int)) :: .ref k1 :: .int (zI 0) :: .retAddr b :: st, h) (pc + 3, ls, st, (h.1.set k1 (gB n1 (zCt c n T G)), h.2)) := by
  have hc : (zI (n : Int)).toNatClampNeg = n := z_cl (by omega)
  have hc2 : (zI (c : Int)).toNatClampNeg = c := z_cl (by omega)
  have h0 : (zI 0).toNatClampNeg = 0 := rfl
  have h9 := gm_copyt (st := st) (ls := ls) (d := d) (sp := zI 0) (dp := zI (c : Int)) (n := zI (n : Int)) (f := fun j => l.getD j 0) (n0 := l.length) hd hw (ka_b hk0) hk1 (by decide) (z_neg (by omega)) (z_neg (by omega)) (by rw [h0, hc]; omega) (by rw [hc2, hc]; omega) (fun i hi => by
    rw [hc] at hi
    rw [h0, Nat.zero_add]
    obtain ⟨q1, q2, q3⟩ := hT i hi
    have h2 := zBy_fit (T i).toNat (by omega)
    rw [Int.toNat_of_nonneg q2] at h2
    show fits .byte (.int (l.getD i 0)) = true
    rw [q1]; exact h2) hrest hdd
  rw [h0, hc, hc2] at h9
  have e : va_cpy (fun j => l.getD j 0) (fun j => zI (G j)) 0 c n = fun j => zI (zCt c n T G j) := by
    funext j
    unfold va_cpy zCt
    by_cases hj : c ≤ j ∧ j < c + n
    · rw [if_pos hj, if_pos hj, Nat.zero_add, (hT (j - c) (by omega)).1]
    · rw [if_neg hj, if_neg hj]
  rw [e] at h9
  exact h9
set_option maxRecDepth 4000 in
theorem cg_sbLat {h : gm_H} {s : Nat} {q : Nat × Nat} {G : Nat → Int} {c : Nat} (hS : sbh h s q G c) : gm_co mJ5_isLatin1_aae02 1 [.ref s] h (.inl (some (.int (zI 1)))) h := by
  first
  | refine gm_co_of _ (by decide +kernel) rfl (Nat.le_of_ble_eq_true rfl) rfl ?_
  | refine gm_co_ofF _ (by decide +kernel) rfl (Nat.le_of_ble_eq_true rfl) rfl ?_
  obtain ⟨qs, cq, ml, F, c1, c2, cF, cB⟩ := id hS
  refine gm_go.ru (gm_gets (v := .int (zI 1)) dJ5_isLatin1_aae02_0 (by decide +kernel) (sl_J5_18 rfl) rfl) ?_
  refine gm_go.ru (gi_if_eq_f 17 dJ5_isLatin1_aae02_3 (by decide) (by decide) (by decide)) ?_
  refine gm_go.ru (gm_aload_n dJ5_isLatin1_aae02_6 rfl (by first | exact Or.inl ⟨_, rfl⟩ | exact Or.inr ⟨_, rfl⟩)) ?_
  refine gm_go.ru (gm_get dJ5_isLatin1_aae02_7 (fl_J5_22 rfl) c1 rfl) ?_
  refine gm_go.ru (gi_if_ne_f 17 dJ5_isLatin1_aae02_10 (by decide) (by decide) rfl) ?_
  refine gm_go.ru (gi_const dJ5_isLatin1_aae02_13) ?_
  refine gm_go.ru (gm_goto (tgt := 18) dJ5_isLatin1_aae02_14 (by decide)) ?_
  exact gm_zret dJ5_isLatin1_aae02_18 rfl (by decide +kernel)
set_option maxRecDepth 4000 in
theorem cg_newLen {h : gm_H} {x y z : Int} (hx : 0 ≤ x ∧ x ≤ 100000) (hy : 0 ≤ y ∧ y ≤ 100000) (hz : 1 ≤ z ∧ z ≤ 100000) : gm_co mJ8_newLength_cabcc 2 [.int (zI x), .int (zI y), .int (zI z)] h (.inl (some (.int (zI (x + max y z))))) h := by
  first
  | refine gm_co_of _ (by decide +kernel) rfl (Nat.le_of_ble_eq_true rfl) rfl ?_
  | refine gm_co_ofF _ (by decide +kernel) rfl (Nat.le_of_ble_eq_true rfl) rfl ?_
  refine gm_go.ru (gm_iload_n dJ8_newLength_cabcc_0 rfl) ?_
  refine gm_go.ru (gm_iload_n dJ8_newLength_cabcc_1 rfl) ?_
  refine gm_go.ru (gm_iload_n dJ8_newLength_cabcc_2 rfl) ?_
  refine gm_go.ru (gm_cS dJ8_newLength_cabcc_3 (ct_max (by omega) (by omega)) rfl mt_J9_max_7cf53 ms_J9_max_7cf53 (lk_J8_194 rfl) rfl (Nat.le_of_ble_eq_true rfl) (by decide)) ?_
  refine gm_go.ru (gi_add dJ8_newLength_cabcc_6) ?_
  refine gm_go.ru (gm_istore_n (ls' := [_, _, _, _]) dJ8_newLength_cabcc_7 (by decide) rfl) ?_
  refine gm_go.ru (gi_const dJ8_newLength_cabcc_8) ?_
  refine gm_go.ru (gm_iload_n dJ8_newLength_cabcc_9 rfl) ?_
  refine gm_go.ru (gi_icmp_ge_f 21 dJ8_newLength_cabcc_10 (by decide) (by omega) (by omega) (by omega)) ?_
  refine gm_go.ru (gm_iload_n dJ8_newLength_cabcc_13 rfl) ?_
  refine gm_go.ru (gm_ldci (v := zI 2147483639) dJ8_newLength_cabcc_14 (kc_J8_200 rfl)) ?_
  refine gm_go.ru (gi_icmp_gt_f 21 dJ8_newLength_cabcc_16 (by decide) (by omega) (by omega) (by omega)) ?_
  refine gm_go.ru (gm_iload_n dJ8_newLength_cabcc_19 rfl) ?_
  exact gm_iret dJ8_newLength_cabcc_20 rfl
set_option maxRecDepth 4000 in
theorem cg_sbNew {h : gm_H} {s : Nat} {q : Nat × Nat} {G : Nat → Int} {c : Nat} (hS : sbg h s q G c) (hc : c ≤ 1500) {m : Nat} (h1 : q.2 < m) (h2 : m ≤ 3000) : gm_co mJ5_newCapacity_0f7a4 3 [.ref s, .int (zI (m : Int))] h (.inl (some (.int (zI ((max m (2 * q.2 + 2) : Nat) : Int))))) h := by
  first
  | refine gm_co_of _ (by decide +kernel) rfl (Nat.le_of_ble_eq_true rfl) rfl ?_
  | refine gm_co_ofF _ (by decide +kernel) rfl (Nat.le_of_ble_eq_true rfl) rfl ?_
  obtain ⟨qc, qs, cq, ml, F, c1, c2, cF, cB⟩ := id hS
  refine gm_go.ru (gm_aload_n dJ5_newCapacity_0f7a4_0 rfl (by first | exact Or.inl ⟨_, rfl⟩ | exact Or.inr ⟨_, rfl⟩)) ?_
  refine gm_go.ru (gm_get dJ5_newCapacity_0f7a4_1 (fl_J5_15 rfl) c1 rfl) ?_
  refine gm_go.ru (gi_blen dJ5_newCapacity_0f7a4_4 c2) ?_
  refine gm_go.ru (gm_istore_n (ls' := [_, _, _, _, _, _]) dJ5_newCapacity_0f7a4_5 (by decide) rfl) ?_
  refine gm_go.ru (gm_iload_n dJ5_newCapacity_0f7a4_6 rfl) ?_
  refine gm_go.ru (gm_aload_n dJ5_newCapacity_0f7a4_7 rfl (by first | exact Or.inl ⟨_, rfl⟩ | exact Or.inr ⟨_, rfl⟩)) ?_
  refine gm_go.ru (gm_get dJ5_newCapacity_0f7a4_8 (fl_J5_22 rfl) c1 rfl) ?_
  refine gm_go.ru (gi_shl0 dJ5_newCapacity_0f7a4_11) ?_
  refine gm_go.ru (gm_istore_n (ls' := [_, _, _, _, _, _]) dJ5_newCapacity_0f7a4_12 (by decide) rfl) ?_
  refine gm_go.ru (gm_iload_n dJ5_newCapacity_0f7a4_13 rfl) ?_
  refine gm_go.ru (gm_iload_n dJ5_newCapacity_0f7a4_14 rfl) ?_
  refine gm_go.ru (gi_sub dJ5_newCapacity_0f7a4_15) ?_
  refine gm_go.ru (gm_istore (ls' := [_, _, _, _, _, _]) dJ5_newCapacity_0f7a4_16 (by decide) rfl) ?_
  refine gm_go.ru (gm_iload_n dJ5_newCapacity_0f7a4_18 rfl) ?_
  refine gm_go.ru (gm_iload dJ5_newCapacity_0f7a4_19 rfl) ?_
  refine gm_go.ru (gm_iload_n dJ5_newCapacity_0f7a4_21 rfl) ?_
  refine gm_go.ru (gi_const dJ5_newCapacity_0f7a4_22) ?_
  refine gm_go.ru (gm_aload_n dJ5_newCapacity_0f7a4_23 rfl (by first | exact Or.inl ⟨_, rfl⟩ | exact Or.inr ⟨_, rfl⟩)) ?_
  refine gm_go.ru (gm_get dJ5_newCapacity_0f7a4_24 (fl_J5_22 rfl) c1 rfl) ?_
  refine gm_go.ru (gi_shl0 dJ5_newCapacity_0f7a4_27) ?_
  refine gm_go.ru (gi_add dJ5_newCapacity_0f7a4_28) ?_
  refine gm_go.ru (gm_cS dJ5_newCapacity_0f7a4_29 (cg_newLen (by omega) (by omega) (by omega)) rfl mt_J8_newLength_cabcc ms_J8_newLength_cabcc (lk_J5_114 rfl) rfl (Nat.le_of_ble_eq_true rfl) (by decide)) ?_
  refine gm_go.ru (gm_istore (ls' := [_, _, _, _, _, _]) dJ5_newCapacity_0f7a4_32 (by decide) rfl) ?_
  refine gm_go.ru (gm_iload dJ5_newCapacity_0f7a4_34 rfl) ?_
  refine gm_go.ru (gm_ldci (v := zI 2147483647) dJ5_newCapacity_0f7a4_36 (kc_J5_39 rfl)) ?_
  refine gm_go.ru (gi_icmp_ne_t (tgt := 51) dJ5_newCapacity_0f7a4_38 (by decide) (by omega) (by omega) (by omega)) ?_
  refine gm_go.ru (gm_iload dJ5_newCapacity_0f7a4_51 rfl) ?_
  refine gm_go.ru (gm_aload_n dJ5_newCapacity_0f7a4_53 rfl (by first | exact Or.inl ⟨_, rfl⟩ | exact Or.inr ⟨_, rfl⟩)) ?_
  refine gm_go.ru (gm_get dJ5_newCapacity_0f7a4_54 (fl_J5_22 rfl) c1 rfl) ?_
  refine gm_go.ru (gi_shr0 dJ5_newCapacity_0f7a4_57) ?_
  exact gm_iret' dJ5_newCapacity_0f7a4_58 rfl (congrArg zI (by omega)) rfl
set_option maxRecDepth 4000 in
theorem cg_copyOf {h : gm_H} {b n m : Nat} {F : Nat → Int} (hb : h.1[b]? = some (gB n F)) (hF : zBy F) (hnm : n < m) (hm : m ≤ 100000) : ∃ h', gm_co mJ7_copyOf_9075b 2 [.ref b, .int (zI (m : Int))] h (.inl (some (.ref h.1.length))) h' ∧ h'.1[h.1.length]? = some (gB m (zCp F (fun _ => 0) n)) ∧ h'.1.length = h.1.length + 1 ∧ (∀ k, k < h.1.length → h'.1[k]? = h.1[k]?) ∧ h'.2 = (h.2.1 + 1, h.2.2 + m) := by
  obtain ⟨a1, ha1⟩ : ∃ y9 : gm_H, y9 = (h.1 ++ [gB m (fun _ => 0)], (h.2.1 + 1, h.2.2 + m)) := ⟨_, rfl⟩
  have b1 : a1.1[b]? = some (gB n F) := by rw [ha1]; exact ga_l hb
  have b2 : a1.1[h.1.length]? = some (gB m (fun _ => 0)) := by rw [ha1]; exact ga_r rfl
  obtain ⟨a2, ha2⟩ : ∃ y9 : gm_H, y9 = (a1.1.set h.1.length (gB m (zCp F (fun _ => 0) n)), a1.2) := ⟨_, rfl⟩
  refine ⟨a2, ?_, by rw [ha2]; exact gs_s b2, by rw [ha2, ha1]; simp, fun k hk => by rw [ha2, ha1]; show ((h.1 ++ [gB m (fun _ => 0)]).set h.1.length _)[k]? = _; rw [List.getElem?_set_ne (by omega), List.getElem?_append_left hk], by rw [ha2, ha1]⟩
  refine gm_co_of _ (by decide +kernel) rfl (Nat.le_of_ble_eq_true rfl) rfl ?_
  refine gm_go.ru (gm_iload_n dJ7_copyOf_9075b_0 rfl) ?_
  refine gm_go.ru (gm_aload_n dJ7_copyOf_9075b_1 rfl (by first | exact Or.inl ⟨_, rfl⟩ | exact Or.inr ⟨_, rfl⟩)) ?_
  refine gm_go.ru (gi_blen dJ7_copyOf_9075b_2 hb) ?_
  refine gm_go.ru (gi_icmp_ne_t (tgt := 14) dJ7_copyOf_9075b_3 (by decide) (by omega) (by omega) (by omega)) ?_
  refine gm_go.ru (gm_iload_n dJ7_copyOf_9075b_14 rfl) ?_
  refine gm_go.ru (gm_newa_byte dJ7_copyOf_9075b_15 ac_byte (z_neg (by omega)) (z_cl (by omega)) (by omega)) ?_
  refine gm_hp ha1 ?_
  refine gm_go.ru (gm_astore_n (ls' := [_, _, _]) dJ7_copyOf_9075b_17 (by first | exact Or.inl ⟨_, rfl⟩ | exact Or.inr ⟨_, rfl⟩) (by decide) rfl) ?_
  refine gm_go.ru (gm_aload_n dJ7_copyOf_9075b_18 rfl (by first | exact Or.inl ⟨_, rfl⟩ | exact Or.inr ⟨_, rfl⟩)) ?_
  refine gm_go.ru (gi_const dJ7_copyOf_9075b_19) ?_
  refine gm_go.ru (gm_aload_n dJ7_copyOf_9075b_20 rfl (by first | exact Or.inl ⟨_, rfl⟩ | exact Or.inr ⟨_, rfl⟩)) ?_
  refine gm_go.ru (gi_const dJ7_copyOf_9075b_21) ?_
  refine gm_go.ru (gm_aload_n dJ7_copyOf_9075b_22 rfl (by first | exact Or.inl ⟨_, rfl⟩ | exact Or.inr ⟨_, rfl⟩)) ?_
  refine gm_go.ru (gi_blen dJ7_copyOf_9075b_23 b1) ?_
  refine gm_go.ru (gm_iload_n dJ7_copyOf_9075b_24 rfl) ?_
  refine gm_go.ru (gm_cS dJ7_copyOf_9075b_25 (ct_min (by omega) (by omega)) rfl mt_J9_min_7cf53 ms_J9_min_7cf53 (lk_J7_304 rfl) rfl (Nat.le_of_ble_eq_true rfl) (by decide)) ?_
  rw [show min (n : Int) (m : Int) = ((n : Nat) : Int) by omega]
  refine gm_go.ru (gi_copyB (n := n) dJ7_copyOf_9075b_28 (cp_J7_150 rfl) b1 b2 hF (by omega) (by omega) (by omega) (Nat.le_of_ble_eq_true rfl) (by decide)) ?_
  refine gm_hp ha2 ?_
  refine gm_go.ru (gm_aload_n dJ7_copyOf_9075b_31 rfl (by first | exact Or.inl ⟨_, rfl⟩ | exact Or.inr ⟨_, rfl⟩)) ?_
  exact gm_aret dJ7_copyOf_9075b_32 rfl (by first | exact Or.inl ⟨_, rfl⟩ | exact Or.inr ⟨_, rfl⟩) (by first | exact Or.inl ⟨_, rfl⟩ | exact Or.inr ⟨_, rfl⟩)
set_option maxRecDepth 4000 in
theorem cg_sbEns {h : gm_H} {s : Nat} {q : Nat × Nat} {G : Nat → Int} {c : Nat} (hS : sbg h s q G c) (hc : c ≤ 1500) {m : Nat} (h2 : m ≤ 3000) : ∃ h' q', gm_co mJ5_ensureCapacityInternal_d00df 4 [.ref s, .int (zI (m : Int))] h (.inl none) h' ∧ sbh h' s q' G c ∧ m ≤ q'.2 ∧ (q'.2 ≤ 40 + 2 * c ∨ q'.2 ≤ 2 * m) ∧ sy h h' s q q' := by
  obtain ⟨qc, qs, cq, ml, F, c1, c2, cF, cB⟩ := id hS
  by_cases cz : m ≤ q.2
  ·
    refine ⟨h, q, ?_, hS.2, cz, by omega, sy_rf⟩
    refine gm_co_of _ (by decide +kernel) rfl (Nat.le_of_ble_eq_true rfl) rfl ?_
    refine gm_go.ru (gm_aload_n dJ5_ensureCapacityInternal_d00df_0 rfl (by first | exact Or.inl ⟨_, rfl⟩ | exact Or.inr ⟨_, rfl⟩)) ?_
    refine gm_go.ru (gm_get dJ5_ensureCapacityInternal_d00df_1 (fl_J5_15 rfl) c1 rfl) ?_
    refine gm_go.ru (gi_blen dJ5_ensureCapacityInternal_d00df_4 c2) ?_
    refine gm_go.ru (gm_aload_n dJ5_ensureCapacityInternal_d00df_5 rfl (by first | exact Or.inl ⟨_, rfl⟩ | exact Or.inr ⟨_, rfl⟩)) ?_
    refine gm_go.ru (gm_get dJ5_ensureCapacityInternal_d00df_6 (fl_J5_22 rfl) c1 rfl) ?_
    refine gm_go.ru (gi_shr0 dJ5_ensureCapacityInternal_d00df_9) ?_
    refine gm_go.ru (gm_istore_n (ls' := [_, _, _]) dJ5_ensureCapacityInternal_d00df_10 (by decide) rfl) ?_
    refine gm_go.ru (gm_iload_n dJ5_ensureCapacityInternal_d00df_11 rfl) ?_
    refine gm_go.ru (gm_iload_n dJ5_ensureCapacityInternal_d00df_12 rfl) ?_
    refine gm_go.ru (gi_sub dJ5_ensureCapacityInternal_d00df_13) ?_
    refine gm_go.ru (gi_if_le_t (tgt := 38) dJ5_ensureCapacityInternal_d00df_14 (by decide) (by omega) (by omega)) ?_
    exact gm_vret dJ5_ensureCapacityInternal_d00df_38 rfl
  ·
    have s9 := (List.getElem?_eq_some_iff.mp c1).1
    have b9 := (List.getElem?_eq_some_iff.mp c2).1
    obtain ⟨a1, e1, e2, e3, e4, e5⟩ := cg_copyOf c2 cB (m := max m (2 * q.2 + 2)) (by omega) (by omega)
    have d1 : a1.1[s]? = some (sbr_c q.1 ml c) := (e4 s s9).trans c1
    obtain ⟨a2, ha2⟩ : ∃ y9 : gm_H, y9 = (a1.1.set s (sbr_c h.1.length ml c), a1.2) := ⟨_, rfl⟩
    refine ⟨a2, (h.1.length, max m (2 * q.2 + 2)), ?_, ⟨by show h.1.length ≠ s; omega, by show c ≤ max m (2 * q.2 + 2); omega, ml, _, by rw [ha2]; exact gs_s d1, by rw [ha2]; exact gs_n e2 (by omega), fun k hk => ?_, fun k => ?_⟩, by show m ≤ max m (2 * q.2 + 2); omega, by show max m (2 * q.2 + 2) ≤ _; omega, ?_⟩
    ·
      refine gm_co_of _ (by decide +kernel) rfl (Nat.le_of_ble_eq_true rfl) rfl ?_
      refine gm_go.ru (gm_aload_n dJ5_ensureCapacityInternal_d00df_0 rfl (by first | exact Or.inl ⟨_, rfl⟩ | exact Or.inr ⟨_, rfl⟩)) ?_
      refine gm_go.ru (gm_get dJ5_ensureCapacityInternal_d00df_1 (fl_J5_15 rfl) c1 rfl) ?_
      refine gm_go.ru (gi_blen dJ5_ensureCapacityInternal_d00df_4 c2) ?_
      refine gm_go.ru (gm_aload_n dJ5_ensureCapacityInternal_d00df_5 rfl (by first | exact Or.inl ⟨_, rfl⟩ | exact Or.inr ⟨_, rfl⟩)) ?_
      refine gm_go.ru (gm_get dJ5_ensureCapacityInternal_d00df_6 (fl_J5_22 rfl) c1 rfl) ?_
      refine gm_go.ru (gi_shr0 dJ5_ensureCapacityInternal_d00df_9) ?_
      refine gm_go.ru (gm_istore_n (ls' := [_, _, _]) dJ5_ensureCapacityInternal_d00df_10 (by decide) rfl) ?_
      refine gm_go.ru (gm_iload_n dJ5_ensureCapacityInternal_d00df_11 rfl) ?_
      refine gm_go.ru (gm_iload_n dJ5_ensureCapacityInternal_d00df_12 rfl) ?_
      refine gm_go.ru (gi_sub dJ5_ensureCapacityInternal_d00df_13) ?_
      refine gm_go.ru (gi_if_le_f 38 dJ5_ensureCapacityInternal_d00df_14 (by decide) (by omega) (by omega)) ?_
      refine gm_go.ru (gm_aload_n dJ5_ensureCapacityInternal_d00df_17 rfl (by first | exact Or.inl ⟨_, rfl⟩ | exact Or.inr ⟨_, rfl⟩)) ?_
      refine gm_go.ru (gm_aload_n dJ5_ensureCapacityInternal_d00df_18 rfl (by first | exact Or.inl ⟨_, rfl⟩ | exact Or.inr ⟨_, rfl⟩)) ?_
      refine gm_go.ru (gm_get dJ5_ensureCapacityInternal_d00df_19 (fl_J5_15 rfl) c1 rfl) ?_
      refine gm_go.ru (gm_aload_n dJ5_ensureCapacityInternal_d00df_22 rfl (by first | exact Or.inl ⟨_, rfl⟩ | exact Or.inr ⟨_, rfl⟩)) ?_
      refine gm_go.ru (gm_iload_n dJ5_ensureCapacityInternal_d00df_23 rfl) ?_
      refine gm_go.ru (gm_cV dJ5_ensureCapacityInternal_d00df_24 (cg_sbNew hS hc (by omega) (by omega)) rfl mt_J5_newCapacity_0f7a4 mv_J5_newCapacity_0f7a4 (lk_J5_104 rfl) (Or.inl ⟨_, 1, _, _, _, rfl, c1, rfl⟩) rfl (Nat.le_of_ble_eq_true rfl) (by decide)) ?_
      refine gm_go.ru (gm_aload_n dJ5_ensureCapacityInternal_d00df_27 rfl (by first | exact Or.inl ⟨_, rfl⟩ | exact Or.inr ⟨_, rfl⟩)) ?_
      refine gm_go.ru (gm_get dJ5_ensureCapacityInternal_d00df_28 (fl_J5_22 rfl) c1 rfl) ?_
      refine gm_go.ru (gi_shl0 dJ5_ensureCapacityInternal_d00df_31) ?_
      refine gm_go.ru (gm_cS dJ5_ensureCapacityInternal_d00df_32 (e1) rfl mt_J7_copyOf_9075b ms_J7_copyOf_9075b (lk_J5_108 rfl) rfl (Nat.le_of_ble_eq_true rfl) (by decide)) ?_
      refine gm_go.ru (gm_put dJ5_ensureCapacityInternal_d00df_35 (fp_J5_15 rfl) d1 (Nat.le_of_ble_eq_true rfl) (by first | exact ⟨rfl, rfl⟩ | exact trivial)) ?_
      refine gm_hp ha2 ?_
      exact gm_vret dJ5_ensureCapacityInternal_d00df_38 rfl
    · rw [← cF k hk]; unfold zCp; rw [if_pos (by omega)]
    · unfold zCp; split
      · exact cB k
      · show (0 : Int) ≤ 0 ∧ (0 : Int) < 128
        decide
    · have f1 : gh_fr a1 a2 (fun k => k = s) := by rw [ha2]; exact gh_set (K := fun k => k = s) gh_rf rfl _
      have l2 := f1.2.1
      have v2 := f1.1
      refine ⟨by omega, Or.inr (Nat.le_refl _), fun k hk h1 h2 => (f1.2.2 k h1).trans (e4 k hk), by show q.2 ≤ max m (2 * q.2 + 2); omega, ?_⟩
      rw [v2, e5]
      show (h.2.1 ≤ h.2.1 + 1 ∧ h.2.1 + 1 + q.2 ≤ h.2.1 + max m (2 * q.2 + 2)) ∧ h.2.2 ≤ h.2.2 + max m (2 * q.2 + 2) ∧ h.2.2 + max m (2 * q.2 + 2) + 2 * q.2 ≤ h.2.2 + 2 * max m (2 * q.2 + 2)
      omega
set_option maxRecDepth 4000 in
theorem cg_sbC5 {h : gm_H} {s : Nat} {q : Nat × Nat} {G : Nat → Int} {c : Nat} (hS : sbg h s q G c) (hc : c ≤ 1500) {x : Int} (hx : 0 ≤ x ∧ x < 128) : ∃ h' q', gm_co mJ5_append_3fe6f 5 [.ref s, .int (zI x)] h (.inl (some (.ref s))) h' ∧ sbg h' s q' (zU G c x) (c + 1) ∧ sy h h' s q q' := by
  obtain ⟨qc, qs, cq, ml, F, c1, c2, cF, cB⟩ := id hS
  obtain ⟨a1, r, e1, e2, e3, e5, e4⟩ := cg_sbEns hS hc (m := c + 1) (by omega)
  obtain ⟨rs, cr, ml2, F2, d1, d2, dF, dB⟩ := id e2
  obtain ⟨a2, ha2⟩ : ∃ y9 : gm_H, y9 = (a1.1.set s (sbr_c r.1 ml2 (c + 1)), a1.2) := ⟨_, rfl⟩
  have g1 : a2.1[s]? = some (sbr_c r.1 ml2 (c + 1)) := by rw [ha2]; exact gs_s d1
  have g2 : a2.1[r.1]? = some (gB r.2 F2) := by rw [ha2]; exact gs_n d2 (by omega)
  obtain ⟨a3, ha3⟩ : ∃ y9 : gm_H, y9 = (a2.1.set r.1 (gB r.2 (zU F2 c x)), a2.2) := ⟨_, rfl⟩
  have f2 : gh_fr a1 a2 (fun k => k = s ∨ k = r.1) := by rw [ha2]; exact gh_set gh_rf (Or.inl rfl) _
  have f3 : gh_fr a2 a3 (fun k => k = s ∨ k = r.1) := by rw [ha3]; exact gh_set gh_rf (Or.inr rfl) _
  refine ⟨a3, r, ?_, ⟨by omega, rs, by omega, ml2, zU F2 c x, by rw [ha3]; exact gs_n g1 (by omega), by rw [ha3]; exact gs_s g2, fun k hk => ?_, zBy_u dB hx⟩, sy_tr e4 (sy_fr (gh_tr f2 f3))⟩
  ·
    refine gm_co_of _ (by decide +kernel) rfl (Nat.le_of_ble_eq_true rfl) rfl ?_
    refine gm_go.ru (gm_aload_n dJ5_append_3fe6f_0 rfl (by first | exact Or.inl ⟨_, rfl⟩ | exact Or.inr ⟨_, rfl⟩)) ?_
    refine gm_go.ru (gm_aload_n dJ5_append_3fe6f_1 rfl (by first | exact Or.inl ⟨_, rfl⟩ | exact Or.inr ⟨_, rfl⟩)) ?_
    refine gm_go.ru (gm_get dJ5_append_3fe6f_2 (fl_J5_79 rfl) c1 rfl) ?_
    refine gm_go.ru (gi_const dJ5_append_3fe6f_5) ?_
    refine gm_go.ru (gi_add dJ5_append_3fe6f_6) ?_
    refine gm_go.ru (gm_cV0 dJ5_append_3fe6f_7 (e1) rfl mt_J5_ensureCapacityInternal_d00df mv_J5_ensureCapacityInternal_d00df (lk_J5_100 rfl) (Or.inl ⟨_, 1, _, _, _, rfl, c1, rfl⟩) rfl (Nat.le_of_ble_eq_true rfl) (by decide)) ?_
    refine gm_go.ru (gm_aload_n dJ5_append_3fe6f_10 rfl (by first | exact Or.inl ⟨_, rfl⟩ | exact Or.inr ⟨_, rfl⟩)) ?_
    refine gm_go.ru (gm_cV dJ5_append_3fe6f_11 (cg_sbLat e2) rfl mt_J5_isLatin1_aae02 mv_J5_isLatin1_aae02 (lk_J5_83 rfl) (Or.inl ⟨_, 1, _, _, _, rfl, d1, rfl⟩) rfl (Nat.le_of_ble_eq_true rfl) (by decide)) ?_
    refine gm_go.ru (gi_if_eq_f 45 dJ5_append_3fe6f_14 (by decide) (by decide) (by decide)) ?_
    refine gm_go.ru (gm_iload_n dJ5_append_3fe6f_17 rfl) ?_
    refine gm_go.ru (gm_cS dJ5_append_3fe6f_18 (ct_canEnc hx) rfl mt_J1_canEncode_fc78d ms_J1_canEncode_fc78d (lk_J5_191 rfl) rfl (Nat.le_of_ble_eq_true rfl) (by decide)) ?_
    refine gm_go.ru (gi_if_eq_f 45 dJ5_append_3fe6f_21 (by decide) (by decide) (by decide)) ?_
    refine gm_go.ru (gm_aload_n dJ5_append_3fe6f_24 rfl (by first | exact Or.inl ⟨_, rfl⟩ | exact Or.inr ⟨_, rfl⟩)) ?_
    refine gm_go.ru (gm_get dJ5_append_3fe6f_25 (fl_J5_15 rfl) d1 rfl) ?_
    refine gm_go.ru (gm_aload_n dJ5_append_3fe6f_28 rfl (by first | exact Or.inl ⟨_, rfl⟩ | exact Or.inr ⟨_, rfl⟩)) ?_
    refine gm_go.ru (gm_dup dJ5_append_3fe6f_29 rfl) ?_
    refine gm_go.ru (gm_get dJ5_append_3fe6f_30 (fl_J5_79 rfl) d1 rfl) ?_
    refine gm_go.ru (gm_dup_x1 dJ5_append_3fe6f_33 rfl rfl) ?_
    refine gm_go.ru (gi_const dJ5_append_3fe6f_34) ?_
    refine gm_go.ru (gi_add dJ5_append_3fe6f_35) ?_
    refine gm_go.ru (gm_put dJ5_append_3fe6f_36 (fp_J5_79 rfl) d1 (Nat.le_of_ble_eq_true rfl) (by first | exact ⟨rfl, rfl⟩ | exact trivial)) ?_
    refine gm_hp ha2 ?_
    refine gm_go.ru (gm_iload_n dJ5_append_3fe6f_39 rfl) ?_
    refine gm_go.ru (gi_i2b dJ5_append_3fe6f_40 (by omega) (by omega)) ?_
    refine gm_go.ru (gi_bast dJ5_append_3fe6f_41 g2 (by omega) (by omega) (by omega) (by omega) (by omega)) ?_
    rw [Int.toNat_natCast]
    refine gm_hp ha3 ?_
    refine gm_go.ru (gm_goto (tgt := 75) dJ5_append_3fe6f_42 (by decide)) ?_
    refine gm_go.ru (gm_aload_n dJ5_append_3fe6f_75 rfl (by first | exact Or.inl ⟨_, rfl⟩ | exact Or.inr ⟨_, rfl⟩)) ?_
    exact gm_aret dJ5_append_3fe6f_76 rfl (by first | exact Or.inl ⟨_, rfl⟩ | exact Or.inr ⟨_, rfl⟩) (by first | exact Or.inl ⟨_, rfl⟩ | exact Or.inr ⟨_, rfl⟩)
  · by_cases e : k = c
    · rw [e, zU_s, zU_s]
    · rw [zU_n e, zU_n e]; exact dF k (by omega)
set_option maxRecDepth 4000 in
theorem cg_sbC {h : gm_H} {s : Nat} {q : Nat × Nat} {G : Nat → Int} {c : Nat} (hS : sbg h s q G c) (hc : c ≤ 1500) {x : Int} (hx : 0 ≤ x ∧ x < 128) : ∃ h' q', gm_co mJ4_append_cf468 6 [.ref s, .int (zI x)] h (.inl (some (.ref s))) h' ∧ sbg h' s q' (zU G c x) (c + 1) ∧ sy h h' s q q' := by
  obtain ⟨qc, qs, cq, ml, F, c1, c2, cF, cB⟩ := id hS
  obtain ⟨h', q', e1, e2, e3⟩ := cg_sbC5 hS hc hx
  refine ⟨h', q', ?_, e2, e3⟩
  refine gm_co_of _ (by decide +kernel) rfl (Nat.le_of_ble_eq_true rfl) rfl ?_
  refine gm_go.ru (gm_aload_n dJ4_append_cf468_0 rfl (by first | exact Or.inl ⟨_, rfl⟩ | exact Or.inr ⟨_, rfl⟩)) ?_
  refine gm_go.ru (gm_iload_n dJ4_append_cf468_1 rfl) ?_
  refine gm_go.ru (gm_cT dJ4_append_cf468_2 e1 rfl mt_J5_append_3fe6f (l9_J4_50 rfl) (Or.inl ⟨_, 1, _, _, _, rfl, c1, rfl⟩) rfl (Nat.le_of_ble_eq_true rfl) (by decide)) ?_
  refine gm_go.ru (gm_pop dJ4_append_cf468_5 rfl) ?_
  refine gm_go.ru (gm_aload_n dJ4_append_cf468_6 rfl (by first | exact Or.inl ⟨_, rfl⟩ | exact Or.inr ⟨_, rfl⟩)) ?_
  exact gm_aret dJ4_append_cf468_7 rfl (by first | exact Or.inl ⟨_, rfl⟩ | exact Or.inr ⟨_, rfl⟩) (by first | exact Or.inl ⟨_, rfl⟩ | exact Or.inr ⟨_, rfl⟩)
set_option maxRecDepth 4000 in
theorem cg_sbI5 {h : gm_H} {s : Nat} {q : Nat × Nat} {G : Nat → Int} {c : Nat} (hS : sbg h s q G c) (hc : c ≤ 100) {i : Int} (hi : -99 ≤ i ∧ i ≤ 99) : ∃ h' q', gm_co mJ5_append_c97b9 5 [.ref s, .int (zI i)] h (.inl (some (.ref s))) h' ∧ sbg h' s q' (zNb i c G) (c + zsz i) ∧ sy h h' s q q' := by
  obtain ⟨qc, qs, cq, ml, F, c1, c2, cF, cB⟩ := id hS
  have z3 := zsz_3 i
  obtain ⟨a1, r, e1, e2, e3, e5, e4⟩ := cg_sbEns hS (by omega) (m := c + zsz i) (by omega)
  obtain ⟨rs, cr, ml2, F2, d1, d2, dF, dB⟩ := id e2
  obtain ⟨a2, x, F3, g1, g2, gB3, gF, gf⟩ := ct_getChars d2 dB hi (c := c) (by omega) (by omega)
  have d3 := gh_at gf d1 (by omega)
  obtain ⟨a3, ha3⟩ : ∃ y9 : gm_H, y9 = (a2.1.set s (sbr_c r.1 ml2 (c + zsz i)), a2.2) := ⟨_, rfl⟩
  have f3 : gh_fr a2 a3 (fun k => k = s ∨ k = r.1) := by rw [ha3]; exact gh_set gh_rf (Or.inl rfl) _
  refine ⟨a3, r, ?_, ⟨by omega, rs, by omega, ml2, F3, by rw [ha3]; exact gs_s d3, by rw [ha3]; exact gs_n g2 (by omega), fun k hk => (gF k hk).trans (zNb_c dF k hk), gB3⟩, sy_tr e4 (sy_fr (gh_tr (gh_mono gf fun k z => Or.inr z) f3))⟩
  refine gm_co_of _ (by decide +kernel) rfl (Nat.le_of_ble_eq_true rfl) rfl ?_
  refine gm_go.ru (gm_aload_n dJ5_append_c97b9_0 rfl (by first | exact Or.inl ⟨_, rfl⟩ | exact Or.inr ⟨_, rfl⟩)) ?_
  refine gm_go.ru (gm_get dJ5_append_c97b9_1 (fl_J5_79 rfl) c1 rfl) ?_
  refine gm_go.ru (gm_istore_n (ls' := [_, _, _, _]) dJ5_append_c97b9_4 (by decide) rfl) ?_
  refine gm_go.ru (gm_iload_n dJ5_append_c97b9_5 rfl) ?_
  refine gm_go.ru (gm_iload_n dJ5_append_c97b9_6 rfl) ?_
  refine gm_go.ru (gm_cS dJ5_append_c97b9_7 (ct_strSize hi) rfl mt_J6_stringSize_0f7a4 ms_J6_stringSize_0f7a4 (lk_J5_245 rfl) rfl (Nat.le_of_ble_eq_true rfl) (by decide)) ?_
  refine gm_go.ru (gi_add dJ5_append_c97b9_10) ?_
  refine gm_go.ru (gm_istore_n (ls' := [_, _, _, _]) dJ5_append_c97b9_11 (by decide) rfl) ?_
  refine gm_go.ru (gm_aload_n dJ5_append_c97b9_12 rfl (by first | exact Or.inl ⟨_, rfl⟩ | exact Or.inr ⟨_, rfl⟩)) ?_
  refine gm_go.ru (gm_iload_n dJ5_append_c97b9_13 rfl) ?_
  refine gm_go.ru (gm_cV0 dJ5_append_c97b9_14 (e1) rfl mt_J5_ensureCapacityInternal_d00df mv_J5_ensureCapacityInternal_d00df (lk_J5_100 rfl) (Or.inl ⟨_, 1, _, _, _, rfl, c1, rfl⟩) rfl (Nat.le_of_ble_eq_true rfl) (by decide)) ?_
  refine gm_go.ru (gm_aload_n dJ5_append_c97b9_17 rfl (by first | exact Or.inl ⟨_, rfl⟩ | exact Or.inr ⟨_, rfl⟩)) ?_
  refine gm_go.ru (gm_cV dJ5_append_c97b9_18 (cg_sbLat e2) rfl mt_J5_isLatin1_aae02 mv_J5_isLatin1_aae02 (lk_J5_83 rfl) (Or.inl ⟨_, 1, _, _, _, rfl, d1, rfl⟩) rfl (Nat.le_of_ble_eq_true rfl) (by decide)) ?_
  refine gm_go.ru (gi_if_eq_f 37 dJ5_append_c97b9_21 (by decide) (by decide) (by decide)) ?_
  refine gm_go.ru (gm_iload_n dJ5_append_c97b9_24 rfl) ?_
  refine gm_go.ru (gm_iload_n dJ5_append_c97b9_25 rfl) ?_
  refine gm_go.ru (gm_aload_n dJ5_append_c97b9_26 rfl (by first | exact Or.inl ⟨_, rfl⟩ | exact Or.inr ⟨_, rfl⟩)) ?_
  refine gm_go.ru (gm_get dJ5_append_c97b9_27 (fl_J5_15 rfl) d1 rfl) ?_
  refine gm_go.ru (gm_cS dJ5_append_c97b9_30 (g1) rfl mt_J6_getChars_ba4f3 ms_J6_getChars_ba4f3 (lk_J5_248 rfl) rfl (Nat.le_of_ble_eq_true rfl) (by decide)) ?_
  refine gm_go.ru (gm_pop dJ5_append_c97b9_33 rfl) ?_
  refine gm_go.ru (gm_goto (tgt := 48) dJ5_append_c97b9_34 (by decide)) ?_
  refine gm_go.ru (gm_aload_n dJ5_append_c97b9_48 rfl (by first | exact Or.inl ⟨_, rfl⟩ | exact Or.inr ⟨_, rfl⟩)) ?_
  refine gm_go.ru (gm_iload_n dJ5_append_c97b9_49 rfl) ?_
  refine gm_go.ru (gm_put dJ5_append_c97b9_50 (fp_J5_79 rfl) d3 (Nat.le_of_ble_eq_true rfl) (by first | exact ⟨rfl, rfl⟩ | exact trivial)) ?_
  refine gm_hp ha3 ?_
  refine gm_go.ru (gm_aload_n dJ5_append_c97b9_53 rfl (by first | exact Or.inl ⟨_, rfl⟩ | exact Or.inr ⟨_, rfl⟩)) ?_
  exact gm_aret dJ5_append_c97b9_54 rfl (by first | exact Or.inl ⟨_, rfl⟩ | exact Or.inr ⟨_, rfl⟩) (by first | exact Or.inl ⟨_, rfl⟩ | exact Or.inr ⟨_, rfl⟩)
set_option maxRecDepth 4000 in
theorem cg_sbI {h : gm_H} {s : Nat} {q : Nat × Nat} {G : Nat → Int} {c : Nat} (hS : sbg h s q G c) (hc : c ≤ 100) {i : Int} (hi : -99 ≤ i ∧ i ≤ 99) : ∃ h' q', gm_co mJ4_append_bf812 6 [.ref s, .int (zI i)] h (.inl (some (.ref s))) h' ∧ sbg h' s q' (zNb i c G) (c + zsz i) ∧ sy h h' s q q' := by
  obtain ⟨qc, qs, cq, ml, F, c1, c2, cF, cB⟩ := id hS
  obtain ⟨h', q', e1, e2, e3⟩ := cg_sbI5 hS hc hi
  refine ⟨h', q', ?_, e2, e3⟩
  refine gm_co_of _ (by decide +kernel) rfl (Nat.le_of_ble_eq_true rfl) rfl ?_
  refine gm_go.ru (gm_aload_n dJ4_append_bf812_0 rfl (by first | exact Or.inl ⟨_, rfl⟩ | exact Or.inr ⟨_, rfl⟩)) ?_
  refine gm_go.ru (gm_iload_n dJ4_append_bf812_1 rfl) ?_
  refine gm_go.ru (gm_cT dJ4_append_bf812_2 e1 rfl mt_J5_append_c97b9 (l9_J4_53 rfl) (Or.inl ⟨_, 1, _, _, _, rfl, c1, rfl⟩) rfl (Nat.le_of_ble_eq_true rfl) (by decide)) ?_
  refine gm_go.ru (gm_pop dJ4_append_bf812_5 rfl) ?_
  refine gm_go.ru (gm_aload_n dJ4_append_bf812_6 rfl (by first | exact Or.inl ⟨_, rfl⟩ | exact Or.inr ⟨_, rfl⟩)) ?_
  exact gm_aret dJ4_append_bf812_7 rfl (by first | exact Or.inl ⟨_, rfl⟩ | exact Or.inr ⟨_, rfl⟩) (by first | exact Or.inl ⟨_, rfl⟩ | exact Or.inr ⟨_, rfl⟩)
/-- how many digits -/
def zdn10 (n : Nat) : Nat := if n < 10 then 1 else if n < 100 then 2 else if n < 1000 then 3 else if n < 10000 then 4 else if n < 100000 then 5 else if n < 1000000 then 6 else if n < 10000000 then 7 else if n < 100000000 then 8 else 9
theorem zdn10_r (n : Nat) : 1 ≤ zdn10 n ∧ zdn10 n ≤ 9 := by unfold zdn10; (repeat' split) <;> omega
theorem zdn10_s {n : Nat} (h : 100 ≤ n) (h2 : n < 1000000000) : zdn10 n = zdn10 (n / 100) + 2 := by
  unfold zdn10
  rw [if_neg (show ¬ n < 10 by omega), if_neg (show ¬ n < 100 by omega)]
  (repeat' split) <;> omega
/-- its text, from c on -/
def zNd (n c : Nat) (G : Nat → Int) : Nat → Int := fun p => if c ≤ p ∧ p < c + zdn10 n then 48 + ((n / 10 ^ (c + zdn10 n - 1 - p) % 10 : Nat) : Int) else G p
theorem zNd_c {F G : Nat → Int} {n c : Nat} (hF : ∀ k, k < c → F k = G k) : ∀ k, k < c + zdn10 n → zNd n c F k = zNd n c G k := fun k hk => by
  unfold zNd
  split
  · rfl
  · exact hF k (by omega)
theorem zNd_by {G : Nat → Int} {n c : Nat} (h : zBy G) : zBy (zNd n c G) := fun k => by
  unfold zNd
  split
  · omega
  · exact h k
set_option maxRecDepth 4000 in
theorem cg_strSizeN {h : gm_H} {n : Nat} (hn : n < 1000000000) : gm_co mJ6_stringSize_0f7a4 1 [.int (zI (n : Int))] h (.inl (some (.int (zI ((zdn10 n : Nat) : Int))))) h := by
  first
  | refine gm_co_of _ (by decide +kernel) rfl (Nat.le_of_ble_eq_true rfl) rfl ?_
  | refine gm_co_ofF _ (by decide +kernel) rfl (Nat.le_of_ble_eq_true rfl) rfl ?_
  refine gm_go.ru (gi_const dJ6_stringSize_0f7a4_0) ?_
  refine gm_go.ru (gm_istore_n (ls' := [_, _, _, _]) dJ6_stringSize_0f7a4_1 (by decide) rfl) ?_
  refine gm_go.ru (gm_iload_n dJ6_stringSize_0f7a4_2 rfl) ?_
  refine gm_go.ru (gi_if_lt_f 11 dJ6_stringSize_0f7a4_3 (by decide) (by omega) (by omega)) ?_
  refine gm_go.ru (gi_const dJ6_stringSize_0f7a4_6) ?_
  refine gm_go.ru (gm_istore_n (ls' := [_, _, _, _]) dJ6_stringSize_0f7a4_7 (by decide) rfl) ?_
  refine gm_go.ru (gm_iload_n dJ6_stringSize_0f7a4_8 rfl) ?_
  refine gm_go.ru (gi_neg dJ6_stringSize_0f7a4_9) ?_
  refine gm_go.ru (gm_istore_n (ls' := [_, _, _, _]) dJ6_stringSize_0f7a4_10 (by decide) rfl) ?_
  by_cases c1 : n < 10
  ·
    refine gm_go.ru (gi_bipush dJ6_stringSize_0f7a4_11 (by decide +kernel)) ?_
    refine gm_go.ru (gm_istore_n (ls' := [_, _, _, _]) dJ6_stringSize_0f7a4_13 (by decide) rfl) ?_
    refine gm_go.ru (gi_const dJ6_stringSize_0f7a4_14) ?_
    refine gm_go.ru (gm_istore_n (ls' := [_, _, _, _]) dJ6_stringSize_0f7a4_15 (by decide) rfl) ?_
    refine gm_go.ru (gm_iload_n dJ6_stringSize_0f7a4_16 rfl) ?_
    refine gm_go.ru (gi_bipush dJ6_stringSize_0f7a4_17 (by decide +kernel)) ?_
    refine gm_go.ru (gi_icmp_ge_f 42 dJ6_stringSize_0f7a4_19 (by decide) (by omega) (by omega) (by omega)) ?_
    refine gm_go.ru (gm_iload_n dJ6_stringSize_0f7a4_22 rfl) ?_
    refine gm_go.ru (gm_iload_n dJ6_stringSize_0f7a4_23 rfl) ?_
    refine gm_go.ru (gi_icmp_le_f 31 dJ6_stringSize_0f7a4_24 (by decide) (by omega) (by omega) (by omega)) ?_
    refine gm_go.ru (gm_iload_n dJ6_stringSize_0f7a4_27 rfl) ?_
    refine gm_go.ru (gm_iload_n dJ6_stringSize_0f7a4_28 rfl) ?_
    refine gm_go.ru (gi_add dJ6_stringSize_0f7a4_29) ?_
    exact gm_iret' dJ6_stringSize_0f7a4_30 rfl (congrArg zI (by unfold zdn10; (repeat' split) <;> omega)) rfl
  refine gm_go.ru (gi_bipush dJ6_stringSize_0f7a4_11 (by decide +kernel)) ?_
  refine gm_go.ru (gm_istore_n (ls' := [_, _, _, _]) dJ6_stringSize_0f7a4_13 (by decide) rfl) ?_
  refine gm_go.ru (gi_const dJ6_stringSize_0f7a4_14) ?_
  refine gm_go.ru (gm_istore_n (ls' := [_, _, _, _]) dJ6_stringSize_0f7a4_15 (by decide) rfl) ?_
  refine gm_go.ru (gm_iload_n dJ6_stringSize_0f7a4_16 rfl) ?_
  refine gm_go.ru (gi_bipush dJ6_stringSize_0f7a4_17 (by decide +kernel)) ?_
  refine gm_go.ru (gi_icmp_ge_f 42 dJ6_stringSize_0f7a4_19 (by decide) (by omega) (by omega) (by omega)) ?_
  refine gm_go.ru (gm_iload_n dJ6_stringSize_0f7a4_22 rfl) ?_
  refine gm_go.ru (gm_iload_n dJ6_stringSize_0f7a4_23 rfl) ?_
  refine gm_go.ru (gi_icmp_le_t (tgt := 31) dJ6_stringSize_0f7a4_24 (by decide) (by omega) (by omega) (by omega)) ?_
  refine gm_go.ru (gi_bipush dJ6_stringSize_0f7a4_31 (by decide +kernel)) ?_
  refine gm_go.ru (gm_iload_n dJ6_stringSize_0f7a4_33 rfl) ?_
  refine gm_go.ru (gi_mul dJ6_stringSize_0f7a4_34) ?_
  refine gm_go.ru (gm_istore_n (ls' := [_, _, _, _]) dJ6_stringSize_0f7a4_35 (by decide) rfl) ?_
  refine gm_go.ru (gi_iinc (ls' := [_, _, _, _]) dJ6_stringSize_0f7a4_36 rfl (by decide) rfl) ?_
  refine gm_go.ru (gm_goto (tgt := 16) dJ6_stringSize_0f7a4_39 (by decide)) ?_
  by_cases c2 : n < 100
  ·
    refine gm_go.ru (gm_iload_n dJ6_stringSize_0f7a4_16 rfl) ?_
    refine gm_go.ru (gi_bipush dJ6_stringSize_0f7a4_17 (by decide +kernel)) ?_
    refine gm_go.ru (gi_icmp_ge_f 42 dJ6_stringSize_0f7a4_19 (by decide) (by omega) (by omega) (by omega)) ?_
    refine gm_go.ru (gm_iload_n dJ6_stringSize_0f7a4_22 rfl) ?_
    refine gm_go.ru (gm_iload_n dJ6_stringSize_0f7a4_23 rfl) ?_
    refine gm_go.ru (gi_icmp_le_f 31 dJ6_stringSize_0f7a4_24 (by decide) (by omega) (by omega) (by omega)) ?_
    refine gm_go.ru (gm_iload_n dJ6_stringSize_0f7a4_27 rfl) ?_
    refine gm_go.ru (gm_iload_n dJ6_stringSize_0f7a4_28 rfl) ?_
    refine gm_go.ru (gi_add dJ6_stringSize_0f7a4_29) ?_
    exact gm_iret' dJ6_stringSize_0f7a4_30 rfl (congrArg zI (by unfold zdn10; (repeat' split) <;> omega)) rfl
  refine gm_go.ru (gm_iload_n dJ6_stringSize_0f7a4_16 rfl) ?_
  refine gm_go.ru (gi_bipush dJ6_stringSize_0f7a4_17 (by decide +kernel)) ?_
  refine gm_go.ru (gi_icmp_ge_f 42 dJ6_stringSize_0f7a4_19 (by decide) (by omega) (by omega) (by omega)) ?_
  refine gm_go.ru (gm_iload_n dJ6_stringSize_0f7a4_22 rfl) ?_
  refine gm_go.ru (gm_iload_n dJ6_stringSize_0f7a4_23 rfl) ?_
  refine gm_go.ru (gi_icmp_le_t (tgt := 31) dJ6_stringSize_0f7a4_24 (by decide) (by omega) (by omega) (by omega)) ?_
  refine gm_go.ru (gi_bipush dJ6_stringSize_0f7a4_31 (by decide +kernel)) ?_
  refine gm_go.ru (gm_iload_n dJ6_stringSize_0f7a4_33 rfl) ?_
  refine gm_go.ru (gi_mul dJ6_stringSize_0f7a4_34) ?_
  refine gm_go.ru (gm_istore_n (ls' := [_, _, _, _]) dJ6_stringSize_0f7a4_35 (by decide) rfl) ?_
  refine gm_go.ru (gi_iinc (ls' := [_, _, _, _]) dJ6_stringSize_0f7a4_36 rfl (by decide) rfl) ?_
  refine gm_go.ru (gm_goto (tgt := 16) dJ6_stringSize_0f7a4_39 (by decide)) ?_
  by_cases c3 : n < 1000
  ·
    refine gm_go.ru (gm_iload_n dJ6_stringSize_0f7a4_16 rfl) ?_
    refine gm_go.ru (gi_bipush dJ6_stringSize_0f7a4_17 (by decide +kernel)) ?_
    refine gm_go.ru (gi_icmp_ge_f 42 dJ6_stringSize_0f7a4_19 (by decide) (by omega) (by omega) (by omega)) ?_
    refine gm_go.ru (gm_iload_n dJ6_stringSize_0f7a4_22 rfl) ?_
    refine gm_go.ru (gm_iload_n dJ6_stringSize_0f7a4_23 rfl) ?_
    refine gm_go.ru (gi_icmp_le_f 31 dJ6_stringSize_0f7a4_24 (by decide) (by omega) (by omega) (by omega)) ?_
    refine gm_go.ru (gm_iload_n dJ6_stringSize_0f7a4_27 rfl) ?_
    refine gm_go.ru (gm_iload_n dJ6_stringSize_0f7a4_28 rfl) ?_
    refine gm_go.ru (gi_add dJ6_stringSize_0f7a4_29) ?_
    exact gm_iret' dJ6_stringSize_0f7a4_30 rfl (congrArg zI (by unfold zdn10; (repeat' split) <;> omega)) rfl
  refine gm_go.ru (gm_iload_n dJ6_stringSize_0f7a4_16 rfl) ?_
  refine gm_go.ru (gi_bipush dJ6_stringSize_0f7a4_17 (by decide +kernel)) ?_
  refine gm_go.ru (gi_icmp_ge_f 42 dJ6_stringSize_0f7a4_19 (by decide) (by omega) (by omega) (by omega)) ?_
  refine gm_go.ru (gm_iload_n dJ6_stringSize_0f7a4_22 rfl) ?_
  refine gm_go.ru (gm_iload_n dJ6_stringSize_0f7a4_23 rfl) ?_
  refine gm_go.ru (gi_icmp_le_t (tgt := 31) dJ6_stringSize_0f7a4_24 (by decide) (by omega) (by omega) (by omega)) ?_
  refine gm_go.ru (gi_bipush dJ6_stringSize_0f7a4_31 (by decide +kernel)) ?_
  refine gm_go.ru (gm_iload_n dJ6_stringSize_0f7a4_33 rfl) ?_
  refine gm_go.ru (gi_mul dJ6_stringSize_0f7a4_34) ?_
  refine gm_go.ru (gm_istore_n (ls' := [_, _, _, _]) dJ6_stringSize_0f7a4_35 (by decide) rfl) ?_
  refine gm_go.ru (gi_iinc (ls' := [_, _, _, _]) dJ6_stringSize_0f7a4_36 rfl (by decide) rfl) ?_
  refine gm_go.ru (gm_goto (tgt := 16) dJ6_stringSize_0f7a4_39 (by decide)) ?_
  by_cases c4 : n < 10000
  ·
    refine gm_go.ru (gm_iload_n dJ6_stringSize_0f7a4_16 rfl) ?_
    refine gm_go.ru (gi_bipush dJ6_stringSize_0f7a4_17 (by decide +kernel)) ?_
    refine gm_go.ru (gi_icmp_ge_f 42 dJ6_stringSize_0f7a4_19 (by decide) (by omega) (by omega) (by omega)) ?_
    refine gm_go.ru (gm_iload_n dJ6_stringSize_0f7a4_22 rfl) ?_
    refine gm_go.ru (gm_iload_n dJ6_stringSize_0f7a4_23 rfl) ?_
    refine gm_go.ru (gi_icmp_le_f 31 dJ6_stringSize_0f7a4_24 (by decide) (by omega) (by omega) (by omega)) ?_
    refine gm_go.ru (gm_iload_n dJ6_stringSize_0f7a4_27 rfl) ?_
    refine gm_go.ru (gm_iload_n dJ6_stringSize_0f7a4_28 rfl) ?_
    refine gm_go.ru (gi_add dJ6_stringSize_0f7a4_29) ?_
    exact gm_iret' dJ6_stringSize_0f7a4_30 rfl (congrArg zI (by unfold zdn10; (repeat' split) <;> omega)) rfl
  refine gm_go.ru (gm_iload_n dJ6_stringSize_0f7a4_16 rfl) ?_
  refine gm_go.ru (gi_bipush dJ6_stringSize_0f7a4_17 (by decide +kernel)) ?_
  refine gm_go.ru (gi_icmp_ge_f 42 dJ6_stringSize_0f7a4_19 (by decide) (by omega) (by omega) (by omega)) ?_
  refine gm_go.ru (gm_iload_n dJ6_stringSize_0f7a4_22 rfl) ?_
  refine gm_go.ru (gm_iload_n dJ6_stringSize_0f7a4_23 rfl) ?_
  refine gm_go.ru (gi_icmp_le_t (tgt := 31) dJ6_stringSize_0f7a4_24 (by decide) (by omega) (by omega) (by omega)) ?_
  refine gm_go.ru (gi_bipush dJ6_stringSize_0f7a4_31 (by decide +kernel)) ?_
  refine gm_go.ru (gm_iload_n dJ6_stringSize_0f7a4_33 rfl) ?_
  refine gm_go.ru (gi_mul dJ6_stringSize_0f7a4_34) ?_
  refine gm_go.ru (gm_istore_n (ls' := [_, _, _, _]) dJ6_stringSize_0f7a4_35 (by decide) rfl) ?_
  refine gm_go.ru (gi_iinc (ls' := [_, _, _, _]) dJ6_stringSize_0f7a4_36 rfl (by decide) rfl) ?_
  refine gm_go.ru (gm_goto (tgt := 16) dJ6_stringSize_0f7a4_39 (by decide)) ?_
  by_cases c5 : n < 100000
  ·
    refine gm_go.ru (gm_iload_n dJ6_stringSize_0f7a4_16 rfl) ?_
    refine gm_go.ru (gi_bipush dJ6_stringSize_0f7a4_17 (by decide +kernel)) ?_
    refine gm_go.ru (gi_icmp_ge_f 42 dJ6_stringSize_0f7a4_19 (by decide) (by omega) (by omega) (by omega)) ?_
    refine gm_go.ru (gm_iload_n dJ6_stringSize_0f7a4_22 rfl) ?_
    refine gm_go.ru (gm_iload_n dJ6_stringSize_0f7a4_23 rfl) ?_
    refine gm_go.ru (gi_icmp_le_f 31 dJ6_stringSize_0f7a4_24 (by decide) (by omega) (by omega) (by omega)) ?_
    refine gm_go.ru (gm_iload_n dJ6_stringSize_0f7a4_27 rfl) ?_
    refine gm_go.ru (gm_iload_n dJ6_stringSize_0f7a4_28 rfl) ?_
    refine gm_go.ru (gi_add dJ6_stringSize_0f7a4_29) ?_
    exact gm_iret' dJ6_stringSize_0f7a4_30 rfl (congrArg zI (by unfold zdn10; (repeat' split) <;> omega)) rfl
  refine gm_go.ru (gm_iload_n dJ6_stringSize_0f7a4_16 rfl) ?_
  refine gm_go.ru (gi_bipush dJ6_stringSize_0f7a4_17 (by decide +kernel)) ?_
  refine gm_go.ru (gi_icmp_ge_f 42 dJ6_stringSize_0f7a4_19 (by decide) (by omega) (by omega) (by omega)) ?_
  refine gm_go.ru (gm_iload_n dJ6_stringSize_0f7a4_22 rfl) ?_
  refine gm_go.ru (gm_iload_n dJ6_stringSize_0f7a4_23 rfl) ?_
  refine gm_go.ru (gi_icmp_le_t (tgt := 31) dJ6_stringSize_0f7a4_24 (by decide) (by omega) (by omega) (by omega)) ?_
  refine gm_go.ru (gi_bipush dJ6_stringSize_0f7a4_31 (by decide +kernel)) ?_
  refine gm_go.ru (gm_iload_n dJ6_stringSize_0f7a4_33 rfl) ?_
  refine gm_go.ru (gi_mul dJ6_stringSize_0f7a4_34) ?_
  refine gm_go.ru (gm_istore_n (ls' := [_, _, _, _]) dJ6_stringSize_0f7a4_35 (by decide) rfl) ?_
  refine gm_go.ru (gi_iinc (ls' := [_, _, _, _]) dJ6_stringSize_0f7a4_36 rfl (by decide) rfl) ?_
  refine gm_go.ru (gm_goto (tgt := 16) dJ6_stringSize_0f7a4_39 (by decide)) ?_
  by_cases c6 : n < 1000000
  ·
    refine gm_go.ru (gm_iload_n dJ6_stringSize_0f7a4_16 rfl) ?_
    refine gm_go.ru (gi_bipush dJ6_stringSize_0f7a4_17 (by decide +kernel)) ?_
    refine gm_go.ru (gi_icmp_ge_f 42 dJ6_stringSize_0f7a4_19 (by decide) (by omega) (by omega) (by omega)) ?_
    refine gm_go.ru (gm_iload_n dJ6_stringSize_0f7a4_22 rfl) ?_
    refine gm_go.ru (gm_iload_n dJ6_stringSize_0f7a4_23 rfl) ?_
    refine gm_go.ru (gi_icmp_le_f 31 dJ6_stringSize_0f7a4_24 (by decide) (by omega) (by omega) (by omega)) ?_
    refine gm_go.ru (gm_iload_n dJ6_stringSize_0f7a4_27 rfl) ?_
    refine gm_go.ru (gm_iload_n dJ6_stringSize_0f7a4_28 rfl) ?_
    refine gm_go.ru (gi_add dJ6_stringSize_0f7a4_29) ?_
    exact gm_iret' dJ6_stringSize_0f7a4_30 rfl (congrArg zI (by unfold zdn10; (repeat' split) <;> omega)) rfl
  refine gm_go.ru (gm_iload_n dJ6_stringSize_0f7a4_16 rfl) ?_
  refine gm_go.ru (gi_bipush dJ6_stringSize_0f7a4_17 (by decide +kernel)) ?_
  refine gm_go.ru (gi_icmp_ge_f 42 dJ6_stringSize_0f7a4_19 (by decide) (by omega) (by omega) (by omega)) ?_
  refine gm_go.ru (gm_iload_n dJ6_stringSize_0f7a4_22 rfl) ?_
  refine gm_go.ru (gm_iload_n dJ6_stringSize_0f7a4_23 rfl) ?_
  refine gm_go.ru (gi_icmp_le_t (tgt := 31) dJ6_stringSize_0f7a4_24 (by decide) (by omega) (by omega) (by omega)) ?_
  refine gm_go.ru (gi_bipush dJ6_stringSize_0f7a4_31 (by decide +kernel)) ?_
  refine gm_go.ru (gm_iload_n dJ6_stringSize_0f7a4_33 rfl) ?_
  refine gm_go.ru (gi_mul dJ6_stringSize_0f7a4_34) ?_
  refine gm_go.ru (gm_istore_n (ls' := [_, _, _, _]) dJ6_stringSize_0f7a4_35 (by decide) rfl) ?_
  refine gm_go.ru (gi_iinc (ls' := [_, _, _, _]) dJ6_stringSize_0f7a4_36 rfl (by decide) rfl) ?_
  refine gm_go.ru (gm_goto (tgt := 16) dJ6_stringSize_0f7a4_39 (by decide)) ?_
  by_cases c7 : n < 10000000
  ·
    refine gm_go.ru (gm_iload_n dJ6_stringSize_0f7a4_16 rfl) ?_
    refine gm_go.ru (gi_bipush dJ6_stringSize_0f7a4_17 (by decide +kernel)) ?_
    refine gm_go.ru (gi_icmp_ge_f 42 dJ6_stringSize_0f7a4_19 (by decide) (by omega) (by omega) (by omega)) ?_
    refine gm_go.ru (gm_iload_n dJ6_stringSize_0f7a4_22 rfl) ?_
    refine gm_go.ru (gm_iload_n dJ6_stringSize_0f7a4_23 rfl) ?_
    refine gm_go.ru (gi_icmp_le_f 31 dJ6_stringSize_0f7a4_24 (by decide) (by omega) (by omega) (by omega)) ?_
    refine gm_go.ru (gm_iload_n dJ6_stringSize_0f7a4_27 rfl) ?_
    refine gm_go.ru (gm_iload_n dJ6_stringSize_0f7a4_28 rfl) ?_
    refine gm_go.ru (gi_add dJ6_stringSize_0f7a4_29) ?_
    exact gm_iret' dJ6_stringSize_0f7a4_30 rfl (congrArg zI (by unfold zdn10; (repeat' split) <;> omega)) rfl
  refine gm_go.ru (gm_iload_n dJ6_stringSize_0f7a4_16 rfl) ?_
  refine gm_go.ru (gi_bipush dJ6_stringSize_0f7a4_17 (by decide +kernel)) ?_
  refine gm_go.ru (gi_icmp_ge_f 42 dJ6_stringSize_0f7a4_19 (by decide) (by omega) (by omega) (by omega)) ?_
  refine gm_go.ru (gm_iload_n dJ6_stringSize_0f7a4_22 rfl) ?_
  refine gm_go.ru (gm_iload_n dJ6_stringSize_0f7a4_23 rfl) ?_
  refine gm_go.ru (gi_icmp_le_t (tgt := 31) dJ6_stringSize_0f7a4_24 (by decide) (by omega) (by omega) (by omega)) ?_
  refine gm_go.ru (gi_bipush dJ6_stringSize_0f7a4_31 (by decide +kernel)) ?_
  refine gm_go.ru (gm_iload_n dJ6_stringSize_0f7a4_33 rfl) ?_
  refine gm_go.ru (gi_mul dJ6_stringSize_0f7a4_34) ?_
  refine gm_go.ru (gm_istore_n (ls' := [_, _, _, _]) dJ6_stringSize_0f7a4_35 (by decide) rfl) ?_
  refine gm_go.ru (gi_iinc (ls' := [_, _, _, _]) dJ6_stringSize_0f7a4_36 rfl (by decide) rfl) ?_
  refine gm_go.ru (gm_goto (tgt := 16) dJ6_stringSize_0f7a4_39 (by decide)) ?_
  by_cases c8 : n < 100000000
  ·
    refine gm_go.ru (gm_iload_n dJ6_stringSize_0f7a4_16 rfl) ?_
    refine gm_go.ru (gi_bipush dJ6_stringSize_0f7a4_17 (by decide +kernel)) ?_
    refine gm_go.ru (gi_icmp_ge_f 42 dJ6_stringSize_0f7a4_19 (by decide) (by omega) (by omega) (by omega)) ?_
    refine gm_go.ru (gm_iload_n dJ6_stringSize_0f7a4_22 rfl) ?_
    refine gm_go.ru (gm_iload_n dJ6_stringSize_0f7a4_23 rfl) ?_
    refine gm_go.ru (gi_icmp_le_f 31 dJ6_stringSize_0f7a4_24 (by decide) (by omega) (by omega) (by omega)) ?_
    refine gm_go.ru (gm_iload_n dJ6_stringSize_0f7a4_27 rfl) ?_
    refine gm_go.ru (gm_iload_n dJ6_stringSize_0f7a4_28 rfl) ?_
    refine gm_go.ru (gi_add dJ6_stringSize_0f7a4_29) ?_
    exact gm_iret' dJ6_stringSize_0f7a4_30 rfl (congrArg zI (by unfold zdn10; (repeat' split) <;> omega)) rfl
  refine gm_go.ru (gm_iload_n dJ6_stringSize_0f7a4_16 rfl) ?_
  refine gm_go.ru (gi_bipush dJ6_stringSize_0f7a4_17 (by decide +kernel)) ?_
  refine gm_go.ru (gi_icmp_ge_f 42 dJ6_stringSize_0f7a4_19 (by decide) (by omega) (by omega) (by omega)) ?_
  refine gm_go.ru (gm_iload_n dJ6_stringSize_0f7a4_22 rfl) ?_
  refine gm_go.ru (gm_iload_n dJ6_stringSize_0f7a4_23 rfl) ?_
  refine gm_go.ru (gi_icmp_le_t (tgt := 31) dJ6_stringSize_0f7a4_24 (by decide) (by omega) (by omega) (by omega)) ?_
  refine gm_go.ru (gi_bipush dJ6_stringSize_0f7a4_31 (by decide +kernel)) ?_
  refine gm_go.ru (gm_iload_n dJ6_stringSize_0f7a4_33 rfl) ?_
  refine gm_go.ru (gi_mul dJ6_stringSize_0f7a4_34) ?_
  refine gm_go.ru (gm_istore_n (ls' := [_, _, _, _]) dJ6_stringSize_0f7a4_35 (by decide) rfl) ?_
  refine gm_go.ru (gi_iinc (ls' := [_, _, _, _]) dJ6_stringSize_0f7a4_36 rfl (by decide) rfl) ?_
  refine gm_go.ru (gm_goto (tgt := 16) dJ6_stringSize_0f7a4_39 (by decide)) ?_
  by_cases c9 : n < 1000000000
  ·
    refine gm_go.ru (gm_iload_n dJ6_stringSize_0f7a4_16 rfl) ?_
    refine gm_go.ru (gi_bipush dJ6_stringSize_0f7a4_17 (by decide +kernel)) ?_
    refine gm_go.ru (gi_icmp_ge_f 42 dJ6_stringSize_0f7a4_19 (by decide) (by omega) (by omega) (by omega)) ?_
    refine gm_go.ru (gm_iload_n dJ6_stringSize_0f7a4_22 rfl) ?_
    refine gm_go.ru (gm_iload_n dJ6_stringSize_0f7a4_23 rfl) ?_
    refine gm_go.ru (gi_icmp_le_f 31 dJ6_stringSize_0f7a4_24 (by decide) (by omega) (by omega) (by omega)) ?_
    refine gm_go.ru (gm_iload_n dJ6_stringSize_0f7a4_27 rfl) ?_
    refine gm_go.ru (gm_iload_n dJ6_stringSize_0f7a4_28 rfl) ?_
    refine gm_go.ru (gi_add dJ6_stringSize_0f7a4_29) ?_
    exact gm_iret' dJ6_stringSize_0f7a4_30 rfl (congrArg zI (by unfold zdn10; (repeat' split) <;> omega)) rfl
  · omega
theorem zg_td (a : Nat) : (-(a : Int)).tdiv 100 = -((a / 100 : Nat) : Int) := by
  rw [z_tdiv (by decide)]
  split <;> omega
theorem zg_dv (a k : Nat) : a / 10 ^ (k + 2) = a / 100 / 10 ^ k := by
  rw [Nat.div_div_eq_div_mul, Nat.pow_add, Nat.mul_comm]
theorem zg_end {F : Nat → Int} {a e : Nat} (ha : a < 100) (he : zdn10 a ≤ e) (p : Nat) : (if a < 10 then zU F (e - 1) (48 + (a % 10 : Nat)) else zU (zU F (e - 1) (48 + (a % 10 : Nat))) (e - 2) (48 + (a / 10 : Nat))) p = if p < e ∧ e ≤ p + zdn10 a then 48 + ((a / 10 ^ (e - 1 - p) % 10 : Nat) : Int) else F p := by
  by_cases c1 : a < 10
  · have z1 : zdn10 a = 1 := by unfold zdn10; rw [if_pos c1]
    rw [if_pos c1, z1]
    rw [z1] at he
    by_cases q : p = e - 1
    · subst q
      rw [zU_s, if_pos (by omega), Nat.sub_self, Nat.pow_zero, Nat.div_one]
    · rw [zU_n q, if_neg (by omega)]
  · have z1 : zdn10 a = 2 := by unfold zdn10; rw [if_neg c1, if_pos ha]
    rw [if_neg c1, z1]
    rw [z1] at he
    by_cases q : p = e - 2
    · subst q
      rw [zU_s, if_pos (by omega), show e - 1 - (e - 2) = 1 by omega, Nat.pow_one, Nat.mod_eq_of_lt (by omega)]
    · rw [zU_n q]
      by_cases q2 : p = e - 1
      · subst q2
        rw [zU_s, if_pos (by omega), Nat.sub_self, Nat.pow_zero, Nat.div_one]
      · rw [zU_n q2, if_neg (by omega)]
theorem zg_step {F F' : Nat → Int} {a e : Nat} (ha : 100 ≤ a) (ha2 : a < 1000000000) (he : zdn10 a ≤ e) (h : ∀ p, F' p = if p < e - 2 ∧ e - 2 ≤ p + zdn10 (a / 100) then 48 + ((a / 100 / 10 ^ (e - 2 - 1 - p) % 10 : Nat) : Int) else zU (zU F (e - 1) (48 + ((a % 100 % 10 : Nat) : Int))) (e - 2) (48 + ((a % 100 / 10 : Nat) : Int)) p) (p : Nat) : F' p = if p < e ∧ e ≤ p + zdn10 a then 48 + ((a / 10 ^ (e - 1 - p) % 10 : Nat) : Int) else F p := by
  have z1 := zdn10_s ha ha2
  rw [h p, z1]
  rw [z1] at he
  by_cases q : p < e - 2 ∧ e - 2 ≤ p + zdn10 (a / 100)
  · rw [if_pos q, if_pos (by omega), show e - 1 - p = e - 2 - 1 - p + 2 by omega, zg_dv]
  · rw [if_neg q]
    by_cases q1 : p = e - 2
    · subst q1
      rw [zU_s, if_pos (by omega), show e - 1 - (e - 2) = 1 by omega, Nat.pow_one, show a % 100 / 10 = a / 10 % 10 by omega]
    · rw [zU_n q1]
      by_cases q2 : p = e - 1
      · subst q2
        rw [zU_s, if_pos (by omega), Nat.sub_self, Nat.pow_zero, Nat.div_one, show a % 100 % 10 = a % 10 by omega]
      · rw [zU_n q2, if_neg (by omega)]
set_option maxRecDepth 4000 in
theorem gcn_loop {b n : Nat} (hn9 : n ≤ 100000) : ∀ (z a e : Nat) (h : gm_H) (F : Nat → Int) (x1 x3 x4 : Option Value), a < z → a < 1000000000 → zdn10 a ≤ e → e ≤ n → h.1[b]? = some (gB n F) → zBy F → ∃ h' x F', gm_ru mJ6_getChars_ba4f3 1 (22, [some (.int (zI (-(a : Int)))), x1, some (.ref b), x3, x4, some (.int (zI (e : Int))), some (.int (zI 0))], [], h) (.inl (some (.int (zI x)))) h' ∧ h'.1[b]? = some (gB n F') ∧ zBy F' ∧ (∀ p, F' p = if p < e ∧ e ≤ p + zdn10 a then 48 + ((a / 10 ^ (e - 1 - p) % 10 : Nat) : Int) else F p) ∧ gh_fr h h' (fun k => k = b) := by
  intro z
  induction z with
  | zero => intro a e h F x1 x3 x4 q1 q2; exact absurd q1 (by omega)
  | succ z ih =>
    intro a e h F x1 x3 x4 hz ha he hn hb hB
    by_cases c1 : a < 100
    ·
      obtain ⟨a1, ha1⟩ : ∃ y9 : gm_H, y9 = (h.1.set b (gB n (zU F (e - 1) (48 + (a % 10 : Nat)))), h.2) := ⟨_, rfl⟩
      have g1 : a1.1[b]? = some (gB n (zU F (e - 1) (48 + (a % 10 : Nat)))) := by rw [ha1]; exact gs_s hb
      have f1 : gh_fr h a1 (fun k => k = b) := by rw [ha1]; exact gh_set (K := fun k => k = b) gh_rf rfl _
      have z9 := zdn10_r a
      by_cases c2 : a < 10
      ·
        refine ⟨a1, _, _, ?_, g1, zBy_u hB (by omega), fun p => by rw [← zg_end c1 he p, if_pos c2], f1⟩
        refine gm_go.ru (gm_iload_n dJ6_getChars_ba4f3_22 rfl) ?_
        refine gm_go.ru (gi_bipush dJ6_getChars_ba4f3_23 (by decide +kernel)) ?_
        refine gm_go.ru (gi_icmp_gt_t (tgt := 72) dJ6_getChars_ba4f3_25 (by decide) (by omega) (by omega) (by omega)) ?_
        refine gm_go.ru (gm_aload_n dJ6_getChars_ba4f3_72 rfl (by first | exact Or.inl ⟨_, rfl⟩ | exact Or.inr ⟨_, rfl⟩)) ?_
        refine gm_go.ru (gi_iinc (ls' := [_, _, _, _, _, _, _]) dJ6_getChars_ba4f3_73 rfl (by decide) rfl) ?_
        refine gm_go.ru (gm_iload dJ6_getChars_ba4f3_76 rfl) ?_
        refine gm_go.ru (gm_gets (v := .retAddr 20) dJ6_getChars_ba4f3_78 (by decide +kernel) (sl_J6_83 rfl) rfl) ?_
        refine gm_go.ru (gm_iload_n dJ6_getChars_ba4f3_81 rfl) ?_
        refine gm_go.ru (gi_neg dJ6_getChars_ba4f3_82) ?_
        rw [Int.neg_neg]
        refine gm_go.ru (gi_kb dJ6_getChars_ba4f3_83 zDg1_k (by rw [zDg1_l]; omega) (by rw [zDg1_l]; decide) (zDg1_v a (by omega))) ?_
        refine gm_go.ru (gi_bast dJ6_getChars_ba4f3_84 hb (by omega) (by omega) (by omega) (by omega) (by omega)) ?_
        rw [show ((e : Int) + (-1)).toNat = e - 1 by omega]
        refine gm_hp ha1 ?_
        refine gm_go.ru (gm_iload_n dJ6_getChars_ba4f3_85 rfl) ?_
        refine gm_go.ru (gi_bipush dJ6_getChars_ba4f3_86 (by decide +kernel)) ?_
        refine gm_go.ru (gi_icmp_ge_t (tgt := 104) dJ6_getChars_ba4f3_88 (by decide) (by omega) (by omega) (by omega)) ?_
        refine gm_go.ru (gm_iload dJ6_getChars_ba4f3_104 rfl) ?_
        refine gm_go.ru (gi_if_eq_t (tgt := 118) dJ6_getChars_ba4f3_106 (by decide) (by decide) rfl) ?_
        refine gm_go.ru (gm_iload dJ6_getChars_ba4f3_118 rfl) ?_
        exact gm_iret dJ6_getChars_ba4f3_120 rfl
      ·
        have z2 : zdn10 a = 2 := by unfold zdn10; rw [if_neg c2, if_pos c1]
        obtain ⟨a2, ha2⟩ : ∃ y9 : gm_H, y9 = (a1.1.set b (gB n (zU (zU F (e - 1) (48 + (a % 10 : Nat))) (e - 2) (48 + (a / 10 : Nat)))), a1.2) := ⟨_, rfl⟩
        have g2 : a2.1[b]? = some (gB n (zU (zU F (e - 1) (48 + (a % 10 : Nat))) (e - 2) (48 + (a / 10 : Nat)))) := by rw [ha2]; exact gs_s g1
        have f2 : gh_fr a1 a2 (fun k => k = b) := by rw [ha2]; exact gh_set (K := fun k => k = b) gh_rf rfl _
        refine ⟨a2, _, _, ?_, g2, zBy_u (zBy_u hB (by omega)) (by omega), fun p => by rw [← zg_end c1 he p, if_neg c2], gh_tr f1 f2⟩
        refine gm_go.ru (gm_iload_n dJ6_getChars_ba4f3_22 rfl) ?_
        refine gm_go.ru (gi_bipush dJ6_getChars_ba4f3_23 (by decide +kernel)) ?_
        refine gm_go.ru (gi_icmp_gt_t (tgt := 72) dJ6_getChars_ba4f3_25 (by decide) (by omega) (by omega) (by omega)) ?_
        refine gm_go.ru (gm_aload_n dJ6_getChars_ba4f3_72 rfl (by first | exact Or.inl ⟨_, rfl⟩ | exact Or.inr ⟨_, rfl⟩)) ?_
        refine gm_go.ru (gi_iinc (ls' := [_, _, _, _, _, _, _]) dJ6_getChars_ba4f3_73 rfl (by decide) rfl) ?_
        refine gm_go.ru (gm_iload dJ6_getChars_ba4f3_76 rfl) ?_
        refine gm_go.ru (gm_gets (v := .retAddr 20) dJ6_getChars_ba4f3_78 (by decide +kernel) (sl_J6_83 rfl) rfl) ?_
        refine gm_go.ru (gm_iload_n dJ6_getChars_ba4f3_81 rfl) ?_
        refine gm_go.ru (gi_neg dJ6_getChars_ba4f3_82) ?_
        rw [Int.neg_neg]
        refine gm_go.ru (gi_kb dJ6_getChars_ba4f3_83 zDg1_k (by rw [zDg1_l]; omega) (by rw [zDg1_l]; decide) (zDg1_v a (by omega))) ?_
        refine gm_go.ru (gi_bast dJ6_getChars_ba4f3_84 hb (by omega) (by omega) (by omega) (by omega) (by omega)) ?_
        rw [show ((e : Int) + (-1)).toNat = e - 1 by omega]
        refine gm_hp ha1 ?_
        refine gm_go.ru (gm_iload_n dJ6_getChars_ba4f3_85 rfl) ?_
        refine gm_go.ru (gi_bipush dJ6_getChars_ba4f3_86 (by decide +kernel)) ?_
        refine gm_go.ru (gi_icmp_ge_f 104 dJ6_getChars_ba4f3_88 (by decide) (by omega) (by omega) (by omega)) ?_
        refine gm_go.ru (gm_aload_n dJ6_getChars_ba4f3_91 rfl (by first | exact Or.inl ⟨_, rfl⟩ | exact Or.inr ⟨_, rfl⟩)) ?_
        refine gm_go.ru (gi_iinc (ls' := [_, _, _, _, _, _, _]) dJ6_getChars_ba4f3_92 rfl (by decide) rfl) ?_
        refine gm_go.ru (gm_iload dJ6_getChars_ba4f3_95 rfl) ?_
        refine gm_go.ru (gm_gets (v := .retAddr 21) dJ6_getChars_ba4f3_97 (by decide +kernel) (sl_J6_87 rfl) rfl) ?_
        refine gm_go.ru (gm_iload_n dJ6_getChars_ba4f3_100 rfl) ?_
        refine gm_go.ru (gi_neg dJ6_getChars_ba4f3_101) ?_
        rw [Int.neg_neg]
        refine gm_go.ru (gi_kb dJ6_getChars_ba4f3_102 zDg2_k (by rw [zDg2_l]; omega) (by rw [zDg2_l]; decide) (zDg2_v a (by omega))) ?_
        refine gm_go.ru (gi_bast dJ6_getChars_ba4f3_103 g1 (by omega) (by omega) (by omega) (by omega) (by omega)) ?_
        rw [show ((e : Int) + (-1) + (-1)).toNat = e - 2 by omega]
        refine gm_hp ha2 ?_
        refine gm_go.ru (gm_iload dJ6_getChars_ba4f3_104 rfl) ?_
        refine gm_go.ru (gi_if_eq_t (tgt := 118) dJ6_getChars_ba4f3_106 (by decide) (by decide) rfl) ?_
        refine gm_go.ru (gm_iload dJ6_getChars_ba4f3_118 rfl) ?_
        exact gm_iret dJ6_getChars_ba4f3_120 rfl
    ·
      have z9 := zdn10_s (n := a) (by omega) ha
      have z8 := zdn10_r (a / 100)
      obtain ⟨a1, ha1⟩ : ∃ y9 : gm_H, y9 = (h.1.set b (gB n (zU F (e - 1) (48 + ((a % 100 % 10 : Nat) : Int)))), h.2) := ⟨_, rfl⟩
      have g1 : a1.1[b]? = some (gB n (zU F (e - 1) (48 + ((a % 100 % 10 : Nat) : Int)))) := by rw [ha1]; exact gs_s hb
      have f1 : gh_fr h a1 (fun k => k = b) := by rw [ha1]; exact gh_set (K := fun k => k = b) gh_rf rfl _
      obtain ⟨a2, ha2⟩ : ∃ y9 : gm_H, y9 = (a1.1.set b (gB n (zU (zU F (e - 1) (48 + ((a % 100 % 10 : Nat) : Int))) (e - 2) (48 + ((a % 100 / 10 : Nat) : Int)))), a1.2) := ⟨_, rfl⟩
      have g2 : a2.1[b]? = some (gB n (zU (zU F (e - 1) (48 + ((a % 100 % 10 : Nat) : Int))) (e - 2) (48 + ((a % 100 / 10 : Nat) : Int)))) := by rw [ha2]; exact gs_s g1
      have f2 : gh_fr a1 a2 (fun k => k = b) := by rw [ha2]; exact gh_set (K := fun k => k = b) gh_rf rfl _
      obtain ⟨h3, x, F3, e1, e2, e3, e4, e5⟩ := ih (a / 100) (e - 2) a2 _ x1 (some (.int (zI (-((a / 100 : Nat) : Int))))) (some (.int (zI ((a % 100 : Nat) : Int)))) (by omega) (by omega) (by omega) (by omega) g2 (zBy_u (zBy_u hB (by omega)) (by omega))
      refine ⟨h3, x, F3, ?_, e2, e3, zg_step (by omega) ha he e4, gh_tr (gh_tr f1 f2) e5⟩
      refine gm_go.ru (gm_iload_n dJ6_getChars_ba4f3_22 rfl) ?_
      refine gm_go.ru (gi_bipush dJ6_getChars_ba4f3_23 (by decide +kernel)) ?_
      refine gm_go.ru (gi_icmp_gt_f 72 dJ6_getChars_ba4f3_25 (by decide) (by omega) (by omega) (by omega)) ?_
      refine gm_go.ru (gm_iload_n dJ6_getChars_ba4f3_28 rfl) ?_
      refine gm_go.ru (gi_bipush dJ6_getChars_ba4f3_29 (by decide +kernel)) ?_
      refine gm_go.ru (gi_div dJ6_getChars_ba4f3_31 (by omega) (by omega) (by omega)) ?_
      rw [zg_td]
      refine gm_go.ru (gm_istore_n (ls' := [_, _, _, _, _, _, _]) dJ6_getChars_ba4f3_32 (by decide) rfl) ?_
      refine gm_go.ru (gm_iload_n dJ6_getChars_ba4f3_33 rfl) ?_
      refine gm_go.ru (gi_bipush dJ6_getChars_ba4f3_34 (by decide +kernel)) ?_
      refine gm_go.ru (gi_mul dJ6_getChars_ba4f3_36) ?_
      refine gm_go.ru (gm_iload_n dJ6_getChars_ba4f3_37 rfl) ?_
      refine gm_go.ru (gi_sub dJ6_getChars_ba4f3_38) ?_
      rw [show -((a / 100 : Nat) : Int) * 100 - -(a : Int) = ((a % 100 : Nat) : Int) by omega]
      refine gm_go.ru (gm_istore (ls' := [_, _, _, _, _, _, _]) dJ6_getChars_ba4f3_39 (by decide) rfl) ?_
      refine gm_go.ru (gm_iload_n dJ6_getChars_ba4f3_41 rfl) ?_
      refine gm_go.ru (gm_istore_n (ls' := [_, _, _, _, _, _, _]) dJ6_getChars_ba4f3_42 (by decide) rfl) ?_
      refine gm_go.ru (gm_aload_n dJ6_getChars_ba4f3_43 rfl (by first | exact Or.inl ⟨_, rfl⟩ | exact Or.inr ⟨_, rfl⟩)) ?_
      refine gm_go.ru (gi_iinc (ls' := [_, _, _, _, _, _, _]) dJ6_getChars_ba4f3_44 rfl (by decide) rfl) ?_
      refine gm_go.ru (gm_iload dJ6_getChars_ba4f3_47 rfl) ?_
      refine gm_go.ru (gm_gets (v := .retAddr 20) dJ6_getChars_ba4f3_49 (by decide +kernel) (sl_J6_83 rfl) rfl) ?_
      refine gm_go.ru (gm_iload dJ6_getChars_ba4f3_52 rfl) ?_
      refine gm_go.ru (gi_kb dJ6_getChars_ba4f3_54 zDg1_k (by rw [zDg1_l]; omega) (by rw [zDg1_l]; decide) (zDg1_v (a % 100) (by omega))) ?_
      refine gm_go.ru (gi_bast dJ6_getChars_ba4f3_55 hb (by omega) (by omega) (by omega) (by omega) (by omega)) ?_
      rw [show ((e : Int) + (-1)).toNat = e - 1 by omega]
      refine gm_hp ha1 ?_
      refine gm_go.ru (gm_aload_n dJ6_getChars_ba4f3_56 rfl (by first | exact Or.inl ⟨_, rfl⟩ | exact Or.inr ⟨_, rfl⟩)) ?_
      refine gm_go.ru (gi_iinc (ls' := [_, _, _, _, _, _, _]) dJ6_getChars_ba4f3_57 rfl (by decide) rfl) ?_
      refine gm_go.ru (gm_iload dJ6_getChars_ba4f3_60 rfl) ?_
      refine gm_go.ru (gm_gets (v := .retAddr 21) dJ6_getChars_ba4f3_62 (by decide +kernel) (sl_J6_87 rfl) rfl) ?_
      refine gm_go.ru (gm_iload dJ6_getChars_ba4f3_65 rfl) ?_
      refine gm_go.ru (gi_kb dJ6_getChars_ba4f3_67 zDg2_k (by rw [zDg2_l]; omega) (by rw [zDg2_l]; decide) (zDg2_v (a % 100) (by omega))) ?_
      refine gm_go.ru (gi_bast dJ6_getChars_ba4f3_68 g1 (by omega) (by omega) (by omega) (by omega) (by omega)) ?_
      rw [show ((e : Int) + (-1) + (-1)).toNat = e - 2 by omega]
      refine gm_hp ha2 ?_
      refine gm_go.ru (gm_goto (tgt := 22) dJ6_getChars_ba4f3_69 (by decide)) ?_
      rw [show (e : Int) + (-1) + (-1) = ((e - 2 : Nat) : Int) by omega]
      exact e1
set_option maxRecDepth 4000 in
theorem cg_getCharsN {h : gm_H} {b n c i : Nat} {F : Nat → Int} (hb : h.1[b]? = some (gB n F)) (hB : zBy F) (hi : i < 1000000000) (he : c + zdn10 i ≤ n) (hn : n ≤ 100000) : ∃ h' x F', gm_co mJ6_getChars_ba4f3 1 [.int (zI (i : Int)), .int (zI ((c + zdn10 i : Nat) : Int)), .ref b] h (.inl (some (.int (zI x)))) h' ∧ h'.1[b]? = some (gB n F') ∧ zBy F' ∧ (∀ k, k < c + zdn10 i → F' k = zNd i c F k) ∧ gh_fr h h' (fun k => k = b) := by
  obtain ⟨h', x, F', e1, e2, e3, e4, e5⟩ := gcn_loop hn (i + 1) i (c + zdn10 i) h F (some (.int (zI ((c + zdn10 i : Nat) : Int)))) none none (by omega) hi (by omega) he hb hB
  refine ⟨h', x, F', ?_, e2, e3, fun k hk => by rw [e4 k]; unfold zNd; by_cases q : c ≤ k ∧ k < c + zdn10 i
    · rw [if_pos q, if_pos (by omega)]
    · rw [if_neg q, if_neg (by omega)], e5⟩
  refine gm_co_of _ (by decide +kernel) rfl (Nat.le_of_ble_eq_true rfl) rfl ?_
  refine gm_go.ru (gm_iload_n dJ6_getChars_ba4f3_0 rfl) ?_
  refine gm_go.ru (gm_istore (ls' := [_, _, _, _, _, _, _]) dJ6_getChars_ba4f3_1 (by decide) rfl) ?_
  refine gm_go.ru (gm_iload_n dJ6_getChars_ba4f3_3 rfl) ?_
  refine gm_go.ru (gi_if_ge_t (tgt := 11) dJ6_getChars_ba4f3_4 (by decide) (by omega) (by omega)) ?_
  refine gm_go.ru (gi_const dJ6_getChars_ba4f3_11) ?_
  refine gm_go.ru (gm_istore (ls' := [_, _, _, _, _, _, _]) dJ6_getChars_ba4f3_12 (by decide) rfl) ?_
  refine gm_go.ru (gm_iload dJ6_getChars_ba4f3_14 rfl) ?_
  refine gm_go.ru (gi_if_ne_f 22 dJ6_getChars_ba4f3_16 (by decide) (by decide) rfl) ?_
  refine gm_go.ru (gm_iload_n dJ6_getChars_ba4f3_19 rfl) ?_
  refine gm_go.ru (gi_neg dJ6_getChars_ba4f3_20) ?_
  refine gm_go.ru (gm_istore_n (ls' := [_, _, _, _, _, _, _]) dJ6_getChars_ba4f3_21 (by decide) rfl) ?_
  exact e1
set_option maxRecDepth 4000 in
theorem cg_sbN5 {h : gm_H} {s : Nat} {q : Nat × Nat} {G : Nat → Int} {c : Nat} (hS : sbg h s q G c) (hc : c ≤ 1500) {i : Nat} (hi : i < 1000000000) : ∃ h' q', gm_co mJ5_append_c97b9 5 [.ref s, .int (zI (i : Int))] h (.inl (some (.ref s))) h' ∧ sbg h' s q' (zNd i c G) (c + zdn10 i) ∧ sy h h' s q q' := by
  obtain ⟨qc, qs, cq, ml, F, c1, c2, cF, cB⟩ := id hS
  have z3 := zdn10_r i
  obtain ⟨a1, r, e1, e2, e3, e5, e4⟩ := cg_sbEns hS hc (m := c + zdn10 i) (by omega)
  obtain ⟨rs, cr, ml2, F2, d1, d2, dF, dB⟩ := id e2
  obtain ⟨a2, x, F3, g1, g2, gB3, gF, gf⟩ := cg_getCharsN d2 dB hi (c := c) (by omega) (by omega)
  have d3 := gh_at gf d1 (by omega)
  obtain ⟨a3, ha3⟩ : ∃ y9 : gm_H, y9 = (a2.1.set s (sbr_c r.1 ml2 (c + zdn10 i)), a2.2) := ⟨_, rfl⟩
  have f3 : gh_fr a2 a3 (fun k => k = s ∨ k = r.1) := by rw [ha3]; exact gh_set gh_rf (Or.inl rfl) _
  refine ⟨a3, r, ?_, ⟨by omega, rs, by omega, ml2, F3, by rw [ha3]; exact gs_s d3, by rw [ha3]; exact gs_n g2 (by omega), fun k hk => (gF k hk).trans (zNd_c dF k hk), gB3⟩, sy_tr e4 (sy_fr (gh_tr (gh_mono gf fun k z => Or.inr z) f3))⟩
  refine gm_co_of _ (by decide +kernel) rfl (Nat.le_of_ble_eq_true rfl) rfl ?_
  refine gm_go.ru (gm_aload_n dJ5_append_c97b9_0 rfl (by first | exact Or.inl ⟨_, rfl⟩ | exact Or.inr ⟨_, rfl⟩)) ?_
  refine gm_go.ru (gm_get dJ5_append_c97b9_1 (fl_J5_79 rfl) c1 rfl) ?_
  refine gm_go.ru (gm_istore_n (ls' := [_, _, _, _]) dJ5_append_c97b9_4 (by decide) rfl) ?_
  refine gm_go.ru (gm_iload_n dJ5_append_c97b9_5 rfl) ?_
  refine gm_go.ru (gm_iload_n dJ5_append_c97b9_6 rfl) ?_
  refine gm_go.ru (gm_cS dJ5_append_c97b9_7 (cg_strSizeN hi) rfl mt_J6_stringSize_0f7a4 ms_J6_stringSize_0f7a4 (lk_J5_245 rfl) rfl (Nat.le_of_ble_eq_true rfl) (by decide)) ?_
  refine gm_go.ru (gi_add dJ5_append_c97b9_10) ?_
  refine gm_go.ru (gm_istore_n (ls' := [_, _, _, _]) dJ5_append_c97b9_11 (by decide) rfl) ?_
  refine gm_go.ru (gm_aload_n dJ5_append_c97b9_12 rfl (by first | exact Or.inl ⟨_, rfl⟩ | exact Or.inr ⟨_, rfl⟩)) ?_
  refine gm_go.ru (gm_iload_n dJ5_append_c97b9_13 rfl) ?_
  refine gm_go.ru (gm_cV0 dJ5_append_c97b9_14 (e1) rfl mt_J5_ensureCapacityInternal_d00df mv_J5_ensureCapacityInternal_d00df (lk_J5_100 rfl) (Or.inl ⟨_, 1, _, _, _, rfl, c1, rfl⟩) rfl (Nat.le_of_ble_eq_true rfl) (by decide)) ?_
  refine gm_go.ru (gm_aload_n dJ5_append_c97b9_17 rfl (by first | exact Or.inl ⟨_, rfl⟩ | exact Or.inr ⟨_, rfl⟩)) ?_
  refine gm_go.ru (gm_cV dJ5_append_c97b9_18 (cg_sbLat e2) rfl mt_J5_isLatin1_aae02 mv_J5_isLatin1_aae02 (lk_J5_83 rfl) (Or.inl ⟨_, 1, _, _, _, rfl, d1, rfl⟩) rfl (Nat.le_of_ble_eq_true rfl) (by decide)) ?_
  refine gm_go.ru (gi_if_eq_f 37 dJ5_append_c97b9_21 (by decide) (by decide) (by decide)) ?_
  refine gm_go.ru (gm_iload_n dJ5_append_c97b9_24 rfl) ?_
  refine gm_go.ru (gm_iload_n dJ5_append_c97b9_25 rfl) ?_
  refine gm_go.ru (gm_aload_n dJ5_append_c97b9_26 rfl (by first | exact Or.inl ⟨_, rfl⟩ | exact Or.inr ⟨_, rfl⟩)) ?_
  refine gm_go.ru (gm_get dJ5_append_c97b9_27 (fl_J5_15 rfl) d1 rfl) ?_
  refine gm_go.ru (gm_cS dJ5_append_c97b9_30 (g1) rfl mt_J6_getChars_ba4f3 ms_J6_getChars_ba4f3 (lk_J5_248 rfl) rfl (Nat.le_of_ble_eq_true rfl) (by decide)) ?_
  refine gm_go.ru (gm_pop dJ5_append_c97b9_33 rfl) ?_
  refine gm_go.ru (gm_goto (tgt := 48) dJ5_append_c97b9_34 (by decide)) ?_
  refine gm_go.ru (gm_aload_n dJ5_append_c97b9_48 rfl (by first | exact Or.inl ⟨_, rfl⟩ | exact Or.inr ⟨_, rfl⟩)) ?_
  refine gm_go.ru (gm_iload_n dJ5_append_c97b9_49 rfl) ?_
  refine gm_go.ru (gm_put dJ5_append_c97b9_50 (fp_J5_79 rfl) d3 (Nat.le_of_ble_eq_true rfl) (by first | exact ⟨rfl, rfl⟩ | exact trivial)) ?_
  refine gm_hp ha3 ?_
  refine gm_go.ru (gm_aload_n dJ5_append_c97b9_53 rfl (by first | exact Or.inl ⟨_, rfl⟩ | exact Or.inr ⟨_, rfl⟩)) ?_
  exact gm_aret dJ5_append_c97b9_54 rfl (by first | exact Or.inl ⟨_, rfl⟩ | exact Or.inr ⟨_, rfl⟩) (by first | exact Or.inl ⟨_, rfl⟩ | exact Or.inr ⟨_, rfl⟩)
set_option maxRecDepth 4000 in
theorem cg_sbN {h : gm_H} {s : Nat} {q : Nat × Nat} {G : Nat → Int} {c : Nat} (hS : sbg h s q G c) (hc : c ≤ 1500) {i : Nat} (hi : i < 1000000000) : ∃ h' q', gm_co mJ4_append_bf812 6 [.ref s, .int (zI (i : Int))] h (.inl (some (.ref s))) h' ∧ sbg h' s q' (zNd i c G) (c + zdn10 i) ∧ sy h h' s q q' := by
  obtain ⟨qc, qs, cq, ml, F, c1, c2, cF, cB⟩ := id hS
  obtain ⟨h', q', e1, e2, e3⟩ := cg_sbN5 hS hc hi
  refine ⟨h', q', ?_, e2, e3⟩
  refine gm_co_of _ (by decide +kernel) rfl (Nat.le_of_ble_eq_true rfl) rfl ?_
  refine gm_go.ru (gm_aload_n dJ4_append_bf812_0 rfl (by first | exact Or.inl ⟨_, rfl⟩ | exact Or.inr ⟨_, rfl⟩)) ?_
  refine gm_go.ru (gm_iload_n dJ4_append_bf812_1 rfl) ?_
  refine gm_go.ru (gm_cT dJ4_append_bf812_2 e1 rfl mt_J5_append_c97b9 (l9_J4_53 rfl) (Or.inl ⟨_, 1, _, _, _, rfl, c1, rfl⟩) rfl (Nat.le_of_ble_eq_true rfl) (by decide)) ?_
  refine gm_go.ru (gm_pop dJ4_append_bf812_5 rfl) ?_
  refine gm_go.ru (gm_aload_n dJ4_append_bf812_6 rfl (by first | exact Or.inl ⟨_, rfl⟩ | exact Or.inr ⟨_, rfl⟩)) ?_
  exact gm_aret dJ4_append_bf812_7 rfl (by first | exact Or.inl ⟨_, rfl⟩ | exact Or.inr ⟨_, rfl⟩) (by first | exact Or.inl ⟨_, rfl⟩ | exact Or.inr ⟨_, rfl⟩)
theorem zcm_gt {a b : Int} (h : b < a) : ¬ zcm a b ≤ 0 := by unfold zcm; rw [if_neg (by omega), if_neg (by omega)]; decide
theorem zcm_le {a b : Int} (h : a ≤ b) : zcm a b ≤ 0 := by unfold zcm; split; decide; rw [if_pos (by omega)]; decide
theorem zcm_ge {a b : Int} (h : b ≤ a) : 0 ≤ zcm a b := by unfold zcm; rw [if_neg (by omega)]; split <;> decide
theorem zcm_r (a b : Int) : zR (zcm a b) := by unfold zcm; (repeat' split) <;> decide
set_option maxRecDepth 4000 in
theorem cg_strSizeL {h : gm_H} {n : Nat} (hn : n < 1000000000) : gm_co mJ13_stringSize_95d88 1 [.long (zL (n : Int))] h (.inl (some (.int (zI ((zdn10 n : Nat) : Int))))) h := by
  first
  | refine gm_co_of _ (by decide +kernel) rfl (Nat.le_of_ble_eq_true rfl) rfl ?_
  | refine gm_co_ofF _ (by decide +kernel) rfl (Nat.le_of_ble_eq_true rfl) rfl ?_
  refine gm_go.ru (gi_const dJ13_stringSize_95d88_0) ?_
  refine gm_go.ru (gm_istore_n (ls' := [_, _, _, _, _, _]) dJ13_stringSize_95d88_1 (by decide) rfl) ?_
  refine gm_go.ru (gm_lload_n dJ13_stringSize_95d88_2 rfl) ?_
  refine gm_go.ru (gm_lconst (v := zL 0) dJ13_stringSize_95d88_3 rfl) ?_
  refine gm_go.ru (gi_lcmp dJ13_stringSize_95d88_4 (by omega) (by omega)) ?_
  refine gm_go.ru (gi_if_lt_f 13 dJ13_stringSize_95d88_5 (by decide) (zcm_r _ _) (Int.not_lt.mpr (zcm_ge (by omega)))) ?_
  refine gm_go.ru (gi_const dJ13_stringSize_95d88_8) ?_
  refine gm_go.ru (gm_istore_n (ls' := [_, _, _, _, _, _]) dJ13_stringSize_95d88_9 (by decide) rfl) ?_
  refine gm_go.ru (gm_lload_n dJ13_stringSize_95d88_10 rfl) ?_
  refine gm_go.ru (gi_lneg dJ13_stringSize_95d88_11) ?_
  refine gm_go.ru (gm_lstore_n (ls' := [_, _, _, _, _, _]) dJ13_stringSize_95d88_12 (by decide) rfl) ?_
  refine gm_go.ru (gm_ldc2 (v := zL -10) dJ13_stringSize_95d88_13 (kl_J13_140 rfl)) ?_
  refine gm_go.ru (gm_lstore_n (ls' := [_, _, _, _, _, _]) dJ13_stringSize_95d88_16 (by decide) rfl) ?_
  refine gm_go.ru (gi_const dJ13_stringSize_95d88_17) ?_
  refine gm_go.ru (gm_istore (ls' := [_, _, _, _, _, _]) dJ13_stringSize_95d88_18 (by decide) rfl) ?_
  by_cases c1 : n < 10
  ·
    refine gm_go.ru (gm_iload dJ13_stringSize_95d88_20 rfl) ?_
    refine gm_go.ru (gi_bipush dJ13_stringSize_95d88_22 (by decide +kernel)) ?_
    refine gm_go.ru (gi_icmp_ge_f 50 dJ13_stringSize_95d88_24 (by decide) (by omega) (by omega) (by omega)) ?_
    refine gm_go.ru (gm_lload_n dJ13_stringSize_95d88_27 rfl) ?_
    refine gm_go.ru (gm_lload_n dJ13_stringSize_95d88_28 rfl) ?_
    refine gm_go.ru (gi_lcmp dJ13_stringSize_95d88_29 (by omega) (by omega)) ?_
    refine gm_go.ru (gi_if_le_f 38 dJ13_stringSize_95d88_30 (by decide) (zcm_r _ _) (zcm_gt (by omega))) ?_
    refine gm_go.ru (gm_iload dJ13_stringSize_95d88_33 rfl) ?_
    refine gm_go.ru (gm_iload_n dJ13_stringSize_95d88_35 rfl) ?_
    refine gm_go.ru (gi_add dJ13_stringSize_95d88_36) ?_
    exact gm_iret' dJ13_stringSize_95d88_37 rfl (congrArg zI (by unfold zdn10; (repeat' split) <;> omega)) rfl
  refine gm_go.ru (gm_iload dJ13_stringSize_95d88_20 rfl) ?_
  refine gm_go.ru (gi_bipush dJ13_stringSize_95d88_22 (by decide +kernel)) ?_
  refine gm_go.ru (gi_icmp_ge_f 50 dJ13_stringSize_95d88_24 (by decide) (by omega) (by omega) (by omega)) ?_
  refine gm_go.ru (gm_lload_n dJ13_stringSize_95d88_27 rfl) ?_
  refine gm_go.ru (gm_lload_n dJ13_stringSize_95d88_28 rfl) ?_
  refine gm_go.ru (gi_lcmp dJ13_stringSize_95d88_29 (by omega) (by omega)) ?_
  refine gm_go.ru (gi_if_le_t (tgt := 38) dJ13_stringSize_95d88_30 (by decide) (zcm_r _ _) (zcm_le (by omega))) ?_
  refine gm_go.ru (gm_ldc2 (v := zL 10) dJ13_stringSize_95d88_38 (kl_J13_53 rfl)) ?_
  refine gm_go.ru (gm_lload_n dJ13_stringSize_95d88_41 rfl) ?_
  refine gm_go.ru (gi_lmul dJ13_stringSize_95d88_42) ?_
  refine gm_go.ru (gm_lstore_n (ls' := [_, _, _, _, _, _]) dJ13_stringSize_95d88_43 (by decide) rfl) ?_
  refine gm_go.ru (gi_iinc (ls' := [_, _, _, _, _, _]) dJ13_stringSize_95d88_44 rfl (by decide) rfl) ?_
  refine gm_go.ru (gm_goto (tgt := 20) dJ13_stringSize_95d88_47 (by decide)) ?_
  by_cases c2 : n < 100
  ·
    refine gm_go.ru (gm_iload dJ13_stringSize_95d88_20 rfl) ?_
    refine gm_go.ru (gi_bipush dJ13_stringSize_95d88_22 (by decide +kernel)) ?_
    refine gm_go.ru (gi_icmp_ge_f 50 dJ13_stringSize_95d88_24 (by decide) (by omega) (by omega) (by omega)) ?_
    refine gm_go.ru (gm_lload_n dJ13_stringSize_95d88_27 rfl) ?_
    refine gm_go.ru (gm_lload_n dJ13_stringSize_95d88_28 rfl) ?_
    refine gm_go.ru (gi_lcmp dJ13_stringSize_95d88_29 (by omega) (by omega)) ?_
    refine gm_go.ru (gi_if_le_f 38 dJ13_stringSize_95d88_30 (by decide) (zcm_r _ _) (zcm_gt (by omega))) ?_
    refine gm_go.ru (gm_iload dJ13_stringSize_95d88_33 rfl) ?_
    refine gm_go.ru (gm_iload_n dJ13_stringSize_95d88_35 rfl) ?_
    refine gm_go.ru (gi_add dJ13_stringSize_95d88_36) ?_
    exact gm_iret' dJ13_stringSize_95d88_37 rfl (congrArg zI (by unfold zdn10; (repeat' split) <;> omega)) rfl
  refine gm_go.ru (gm_iload dJ13_stringSize_95d88_20 rfl) ?_
  refine gm_go.ru (gi_bipush dJ13_stringSize_95d88_22 (by decide +kernel)) ?_
  refine gm_go.ru (gi_icmp_ge_f 50 dJ13_stringSize_95d88_24 (by decide) (by omega) (by omega) (by omega)) ?_
  refine gm_go.ru (gm_lload_n dJ13_stringSize_95d88_27 rfl) ?_
  refine gm_go.ru (gm_lload_n dJ13_stringSize_95d88_28 rfl) ?_
  refine gm_go.ru (gi_lcmp dJ13_stringSize_95d88_29 (by omega) (by omega)) ?_
  refine gm_go.ru (gi_if_le_t (tgt := 38) dJ13_stringSize_95d88_30 (by decide) (zcm_r _ _) (zcm_le (by omega))) ?_
  refine gm_go.ru (gm_ldc2 (v := zL 10) dJ13_stringSize_95d88_38 (kl_J13_53 rfl)) ?_
  refine gm_go.ru (gm_lload_n dJ13_stringSize_95d88_41 rfl) ?_
  refine gm_go.ru (gi_lmul dJ13_stringSize_95d88_42) ?_
  refine gm_go.ru (gm_lstore_n (ls' := [_, _, _, _, _, _]) dJ13_stringSize_95d88_43 (by decide) rfl) ?_
  refine gm_go.ru (gi_iinc (ls' := [_, _, _, _, _, _]) dJ13_stringSize_95d88_44 rfl (by decide) rfl) ?_
  refine gm_go.ru (gm_goto (tgt := 20) dJ13_stringSize_95d88_47 (by decide)) ?_
  by_cases c3 : n < 1000
  ·
    refine gm_go.ru (gm_iload dJ13_stringSize_95d88_20 rfl) ?_
    refine gm_go.ru (gi_bipush dJ13_stringSize_95d88_22 (by decide +kernel)) ?_
    refine gm_go.ru (gi_icmp_ge_f 50 dJ13_stringSize_95d88_24 (by decide) (by omega) (by omega) (by omega)) ?_
    refine gm_go.ru (gm_lload_n dJ13_stringSize_95d88_27 rfl) ?_
    refine gm_go.ru (gm_lload_n dJ13_stringSize_95d88_28 rfl) ?_
    refine gm_go.ru (gi_lcmp dJ13_stringSize_95d88_29 (by omega) (by omega)) ?_
    refine gm_go.ru (gi_if_le_f 38 dJ13_stringSize_95d88_30 (by decide) (zcm_r _ _) (zcm_gt (by omega))) ?_
    refine gm_go.ru (gm_iload dJ13_stringSize_95d88_33 rfl) ?_
    refine gm_go.ru (gm_iload_n dJ13_stringSize_95d88_35 rfl) ?_
    refine gm_go.ru (gi_add dJ13_stringSize_95d88_36) ?_
    exact gm_iret' dJ13_stringSize_95d88_37 rfl (congrArg zI (by unfold zdn10; (repeat' split) <;> omega)) rfl
  refine gm_go.ru (gm_iload dJ13_stringSize_95d88_20 rfl) ?_
  refine gm_go.ru (gi_bipush dJ13_stringSize_95d88_22 (by decide +kernel)) ?_
  refine gm_go.ru (gi_icmp_ge_f 50 dJ13_stringSize_95d88_24 (by decide) (by omega) (by omega) (by omega)) ?_
  refine gm_go.ru (gm_lload_n dJ13_stringSize_95d88_27 rfl) ?_
  refine gm_go.ru (gm_lload_n dJ13_stringSize_95d88_28 rfl) ?_
  refine gm_go.ru (gi_lcmp dJ13_stringSize_95d88_29 (by omega) (by omega)) ?_
  refine gm_go.ru (gi_if_le_t (tgt := 38) dJ13_stringSize_95d88_30 (by decide) (zcm_r _ _) (zcm_le (by omega))) ?_
  refine gm_go.ru (gm_ldc2 (v := zL 10) dJ13_stringSize_95d88_38 (kl_J13_53 rfl)) ?_
  refine gm_go.ru (gm_lload_n dJ13_stringSize_95d88_41 rfl) ?_
  refine gm_go.ru (gi_lmul dJ13_stringSize_95d88_42) ?_
  refine gm_go.ru (gm_lstore_n (ls' := [_, _, _, _, _, _]) dJ13_stringSize_95d88_43 (by decide) rfl) ?_
  refine gm_go.ru (gi_iinc (ls' := [_, _, _, _, _, _]) dJ13_stringSize_95d88_44 rfl (by decide) rfl) ?_
  refine gm_go.ru (gm_goto (tgt := 20) dJ13_stringSize_95d88_47 (by decide)) ?_
  by_cases c4 : n < 10000
  ·
    refine gm_go.ru (gm_iload dJ13_stringSize_95d88_20 rfl) ?_
    refine gm_go.ru (gi_bipush dJ13_stringSize_95d88_22 (by decide +kernel)) ?_
    refine gm_go.ru (gi_icmp_ge_f 50 dJ13_stringSize_95d88_24 (by decide) (by omega) (by omega) (by omega)) ?_
    refine gm_go.ru (gm_lload_n dJ13_stringSize_95d88_27 rfl) ?_
    refine gm_go.ru (gm_lload_n dJ13_stringSize_95d88_28 rfl) ?_
    refine gm_go.ru (gi_lcmp dJ13_stringSize_95d88_29 (by omega) (by omega)) ?_
    refine gm_go.ru (gi_if_le_f 38 dJ13_stringSize_95d88_30 (by decide) (zcm_r _ _) (zcm_gt (by omega))) ?_
    refine gm_go.ru (gm_iload dJ13_stringSize_95d88_33 rfl) ?_
    refine gm_go.ru (gm_iload_n dJ13_stringSize_95d88_35 rfl) ?_
    refine gm_go.ru (gi_add dJ13_stringSize_95d88_36) ?_
    exact gm_iret' dJ13_stringSize_95d88_37 rfl (congrArg zI (by unfold zdn10; (repeat' split) <;> omega)) rfl
  refine gm_go.ru (gm_iload dJ13_stringSize_95d88_20 rfl) ?_
  refine gm_go.ru (gi_bipush dJ13_stringSize_95d88_22 (by decide +kernel)) ?_
  refine gm_go.ru (gi_icmp_ge_f 50 dJ13_stringSize_95d88_24 (by decide) (by omega) (by omega) (by omega)) ?_
  refine gm_go.ru (gm_lload_n dJ13_stringSize_95d88_27 rfl) ?_
  refine gm_go.ru (gm_lload_n dJ13_stringSize_95d88_28 rfl) ?_
  refine gm_go.ru (gi_lcmp dJ13_stringSize_95d88_29 (by omega) (by omega)) ?_
  refine gm_go.ru (gi_if_le_t (tgt := 38) dJ13_stringSize_95d88_30 (by decide) (zcm_r _ _) (zcm_le (by omega))) ?_
  refine gm_go.ru (gm_ldc2 (v := zL 10) dJ13_stringSize_95d88_38 (kl_J13_53 rfl)) ?_
  refine gm_go.ru (gm_lload_n dJ13_stringSize_95d88_41 rfl) ?_
  refine gm_go.ru (gi_lmul dJ13_stringSize_95d88_42) ?_
  refine gm_go.ru (gm_lstore_n (ls' := [_, _, _, _, _, _]) dJ13_stringSize_95d88_43 (by decide) rfl) ?_
  refine gm_go.ru (gi_iinc (ls' := [_, _, _, _, _, _]) dJ13_stringSize_95d88_44 rfl (by decide) rfl) ?_
  refine gm_go.ru (gm_goto (tgt := 20) dJ13_stringSize_95d88_47 (by decide)) ?_
  by_cases c5 : n < 100000
  ·
    refine gm_go.ru (gm_iload dJ13_stringSize_95d88_20 rfl) ?_
    refine gm_go.ru (gi_bipush dJ13_stringSize_95d88_22 (by decide +kernel)) ?_
    refine gm_go.ru (gi_icmp_ge_f 50 dJ13_stringSize_95d88_24 (by decide) (by omega) (by omega) (by omega)) ?_
    refine gm_go.ru (gm_lload_n dJ13_stringSize_95d88_27 rfl) ?_
    refine gm_go.ru (gm_lload_n dJ13_stringSize_95d88_28 rfl) ?_
    refine gm_go.ru (gi_lcmp dJ13_stringSize_95d88_29 (by omega) (by omega)) ?_
    refine gm_go.ru (gi_if_le_f 38 dJ13_stringSize_95d88_30 (by decide) (zcm_r _ _) (zcm_gt (by omega))) ?_
    refine gm_go.ru (gm_iload dJ13_stringSize_95d88_33 rfl) ?_
    refine gm_go.ru (gm_iload_n dJ13_stringSize_95d88_35 rfl) ?_
    refine gm_go.ru (gi_add dJ13_stringSize_95d88_36) ?_
    exact gm_iret' dJ13_stringSize_95d88_37 rfl (congrArg zI (by unfold zdn10; (repeat' split) <;> omega)) rfl
  refine gm_go.ru (gm_iload dJ13_stringSize_95d88_20 rfl) ?_
  refine gm_go.ru (gi_bipush dJ13_stringSize_95d88_22 (by decide +kernel)) ?_
  refine gm_go.ru (gi_icmp_ge_f 50 dJ13_stringSize_95d88_24 (by decide) (by omega) (by omega) (by omega)) ?_
  refine gm_go.ru (gm_lload_n dJ13_stringSize_95d88_27 rfl) ?_
  refine gm_go.ru (gm_lload_n dJ13_stringSize_95d88_28 rfl) ?_
  refine gm_go.ru (gi_lcmp dJ13_stringSize_95d88_29 (by omega) (by omega)) ?_
  refine gm_go.ru (gi_if_le_t (tgt := 38) dJ13_stringSize_95d88_30 (by decide) (zcm_r _ _) (zcm_le (by omega))) ?_
  refine gm_go.ru (gm_ldc2 (v := zL 10) dJ13_stringSize_95d88_38 (kl_J13_53 rfl)) ?_
  refine gm_go.ru (gm_lload_n dJ13_stringSize_95d88_41 rfl) ?_
  refine gm_go.ru (gi_lmul dJ13_stringSize_95d88_42) ?_
  refine gm_go.ru (gm_lstore_n (ls' := [_, _, _, _, _, _]) dJ13_stringSize_95d88_43 (by decide) rfl) ?_
  refine gm_go.ru (gi_iinc (ls' := [_, _, _, _, _, _]) dJ13_stringSize_95d88_44 rfl (by decide) rfl) ?_
  refine gm_go.ru (gm_goto (tgt := 20) dJ13_stringSize_95d88_47 (by decide)) ?_
  by_cases c6 : n < 1000000
  ·
    refine gm_go.ru (gm_iload dJ13_stringSize_95d88_20 rfl) ?_
    refine gm_go.ru (gi_bipush dJ13_stringSize_95d88_22 (by decide +kernel)) ?_
    refine gm_go.ru (gi_icmp_ge_f 50 dJ13_stringSize_95d88_24 (by decide) (by omega) (by omega) (by omega)) ?_
    refine gm_go.ru (gm_lload_n dJ13_stringSize_95d88_27 rfl) ?_
    refine gm_go.ru (gm_lload_n dJ13_stringSize_95d88_28 rfl) ?_
    refine gm_go.ru (gi_lcmp dJ13_stringSize_95d88_29 (by omega) (by omega)) ?_
    refine gm_go.ru (gi_if_le_f 38 dJ13_stringSize_95d88_30 (by decide) (zcm_r _ _) (zcm_gt (by omega))) ?_
    refine gm_go.ru (gm_iload dJ13_stringSize_95d88_33 rfl) ?_
    refine gm_go.ru (gm_iload_n dJ13_stringSize_95d88_35 rfl) ?_
    refine gm_go.ru (gi_add dJ13_stringSize_95d88_36) ?_
    exact gm_iret' dJ13_stringSize_95d88_37 rfl (congrArg zI (by unfold zdn10; (repeat' split) <;> omega)) rfl
  refine gm_go.ru (gm_iload dJ13_stringSize_95d88_20 rfl) ?_
  refine gm_go.ru (gi_bipush dJ13_stringSize_95d88_22 (by decide +kernel)) ?_
  refine gm_go.ru (gi_icmp_ge_f 50 dJ13_stringSize_95d88_24 (by decide) (by omega) (by omega) (by omega)) ?_
  refine gm_go.ru (gm_lload_n dJ13_stringSize_95d88_27 rfl) ?_
  refine gm_go.ru (gm_lload_n dJ13_stringSize_95d88_28 rfl) ?_
  refine gm_go.ru (gi_lcmp dJ13_stringSize_95d88_29 (by omega) (by omega)) ?_
  refine gm_go.ru (gi_if_le_t (tgt := 38) dJ13_stringSize_95d88_30 (by decide) (zcm_r _ _) (zcm_le (by omega))) ?_
  refine gm_go.ru (gm_ldc2 (v := zL 10) dJ13_stringSize_95d88_38 (kl_J13_53 rfl)) ?_
  refine gm_go.ru (gm_lload_n dJ13_stringSize_95d88_41 rfl) ?_
  refine gm_go.ru (gi_lmul dJ13_stringSize_95d88_42) ?_
  refine gm_go.ru (gm_lstore_n (ls' := [_, _, _, _, _, _]) dJ13_stringSize_95d88_43 (by decide) rfl) ?_
  refine gm_go.ru (gi_iinc (ls' := [_, _, _, _, _, _]) dJ13_stringSize_95d88_44 rfl (by decide) rfl) ?_
  refine gm_go.ru (gm_goto (tgt := 20) dJ13_stringSize_95d88_47 (by decide)) ?_
  by_cases c7 : n < 10000000
  ·
    refine gm_go.ru (gm_iload dJ13_stringSize_95d88_20 rfl) ?_
    refine gm_go.ru (gi_bipush dJ13_stringSize_95d88_22 (by decide +kernel)) ?_
    refine gm_go.ru (gi_icmp_ge_f 50 dJ13_stringSize_95d88_24 (by decide) (by omega) (by omega) (by omega)) ?_
    refine gm_go.ru (gm_lload_n dJ13_stringSize_95d88_27 rfl) ?_
    refine gm_go.ru (gm_lload_n dJ13_stringSize_95d88_28 rfl) ?_
    refine gm_go.ru (gi_lcmp dJ13_stringSize_95d88_29 (by omega) (by omega)) ?_
    refine gm_go.ru (gi_if_le_f 38 dJ13_stringSize_95d88_30 (by decide) (zcm_r _ _) (zcm_gt (by omega))) ?_
    refine gm_go.ru (gm_iload dJ13_stringSize_95d88_33 rfl) ?_
    refine gm_go.ru (gm_iload_n dJ13_stringSize_95d88_35 rfl) ?_
    refine gm_go.ru (gi_add dJ13_stringSize_95d88_36) ?_
    exact gm_iret' dJ13_stringSize_95d88_37 rfl (congrArg zI (by unfold zdn10; (repeat' split) <;> omega)) rfl
  refine gm_go.ru (gm_iload dJ13_stringSize_95d88_20 rfl) ?_
  refine gm_go.ru (gi_bipush dJ13_stringSize_95d88_22 (by decide +kernel)) ?_
  refine gm_go.ru (gi_icmp_ge_f 50 dJ13_stringSize_95d88_24 (by decide) (by omega) (by omega) (by omega)) ?_
  refine gm_go.ru (gm_lload_n dJ13_stringSize_95d88_27 rfl) ?_
  refine gm_go.ru (gm_lload_n dJ13_stringSize_95d88_28 rfl) ?_
  refine gm_go.ru (gi_lcmp dJ13_stringSize_95d88_29 (by omega) (by omega)) ?_
  refine gm_go.ru (gi_if_le_t (tgt := 38) dJ13_stringSize_95d88_30 (by decide) (zcm_r _ _) (zcm_le (by omega))) ?_
  refine gm_go.ru (gm_ldc2 (v := zL 10) dJ13_stringSize_95d88_38 (kl_J13_53 rfl)) ?_
  refine gm_go.ru (gm_lload_n dJ13_stringSize_95d88_41 rfl) ?_
  refine gm_go.ru (gi_lmul dJ13_stringSize_95d88_42) ?_
  refine gm_go.ru (gm_lstore_n (ls' := [_, _, _, _, _, _]) dJ13_stringSize_95d88_43 (by decide) rfl) ?_
  refine gm_go.ru (gi_iinc (ls' := [_, _, _, _, _, _]) dJ13_stringSize_95d88_44 rfl (by decide) rfl) ?_
  refine gm_go.ru (gm_goto (tgt := 20) dJ13_stringSize_95d88_47 (by decide)) ?_
  by_cases c8 : n < 100000000
  ·
    refine gm_go.ru (gm_iload dJ13_stringSize_95d88_20 rfl) ?_
    refine gm_go.ru (gi_bipush dJ13_stringSize_95d88_22 (by decide +kernel)) ?_
    refine gm_go.ru (gi_icmp_ge_f 50 dJ13_stringSize_95d88_24 (by decide) (by omega) (by omega) (by omega)) ?_
    refine gm_go.ru (gm_lload_n dJ13_stringSize_95d88_27 rfl) ?_
    refine gm_go.ru (gm_lload_n dJ13_stringSize_95d88_28 rfl) ?_
    refine gm_go.ru (gi_lcmp dJ13_stringSize_95d88_29 (by omega) (by omega)) ?_
    refine gm_go.ru (gi_if_le_f 38 dJ13_stringSize_95d88_30 (by decide) (zcm_r _ _) (zcm_gt (by omega))) ?_
    refine gm_go.ru (gm_iload dJ13_stringSize_95d88_33 rfl) ?_
    refine gm_go.ru (gm_iload_n dJ13_stringSize_95d88_35 rfl) ?_
    refine gm_go.ru (gi_add dJ13_stringSize_95d88_36) ?_
    exact gm_iret' dJ13_stringSize_95d88_37 rfl (congrArg zI (by unfold zdn10; (repeat' split) <;> omega)) rfl
  refine gm_go.ru (gm_iload dJ13_stringSize_95d88_20 rfl) ?_
  refine gm_go.ru (gi_bipush dJ13_stringSize_95d88_22 (by decide +kernel)) ?_
  refine gm_go.ru (gi_icmp_ge_f 50 dJ13_stringSize_95d88_24 (by decide) (by omega) (by omega) (by omega)) ?_
  refine gm_go.ru (gm_lload_n dJ13_stringSize_95d88_27 rfl) ?_
  refine gm_go.ru (gm_lload_n dJ13_stringSize_95d88_28 rfl) ?_
  refine gm_go.ru (gi_lcmp dJ13_stringSize_95d88_29 (by omega) (by omega)) ?_
  refine gm_go.ru (gi_if_le_t (tgt := 38) dJ13_stringSize_95d88_30 (by decide) (zcm_r _ _) (zcm_le (by omega))) ?_
  refine gm_go.ru (gm_ldc2 (v := zL 10) dJ13_stringSize_95d88_38 (kl_J13_53 rfl)) ?_
  refine gm_go.ru (gm_lload_n dJ13_stringSize_95d88_41 rfl) ?_
  refine gm_go.ru (gi_lmul dJ13_stringSize_95d88_42) ?_
  refine gm_go.ru (gm_lstore_n (ls' := [_, _, _, _, _, _]) dJ13_stringSize_95d88_43 (by decide) rfl) ?_
  refine gm_go.ru (gi_iinc (ls' := [_, _, _, _, _, _]) dJ13_stringSize_95d88_44 rfl (by decide) rfl) ?_
  refine gm_go.ru (gm_goto (tgt := 20) dJ13_stringSize_95d88_47 (by decide)) ?_
  by_cases c9 : n < 1000000000
  ·
    refine gm_go.ru (gm_iload dJ13_stringSize_95d88_20 rfl) ?_
    refine gm_go.ru (gi_bipush dJ13_stringSize_95d88_22 (by decide +kernel)) ?_
    refine gm_go.ru (gi_icmp_ge_f 50 dJ13_stringSize_95d88_24 (by decide) (by omega) (by omega) (by omega)) ?_
    refine gm_go.ru (gm_lload_n dJ13_stringSize_95d88_27 rfl) ?_
    refine gm_go.ru (gm_lload_n dJ13_stringSize_95d88_28 rfl) ?_
    refine gm_go.ru (gi_lcmp dJ13_stringSize_95d88_29 (by omega) (by omega)) ?_
    refine gm_go.ru (gi_if_le_f 38 dJ13_stringSize_95d88_30 (by decide) (zcm_r _ _) (zcm_gt (by omega))) ?_
    refine gm_go.ru (gm_iload dJ13_stringSize_95d88_33 rfl) ?_
    refine gm_go.ru (gm_iload_n dJ13_stringSize_95d88_35 rfl) ?_
    refine gm_go.ru (gi_add dJ13_stringSize_95d88_36) ?_
    exact gm_iret' dJ13_stringSize_95d88_37 rfl (congrArg zI (by unfold zdn10; (repeat' split) <;> omega)) rfl
  · omega
set_option maxRecDepth 4000 in
theorem gcl_loop {b n : Nat} (hn9 : n ≤ 100000) : ∀ (z a e : Nat) (h : gm_H) (F : Nat → Int) (x0 x1 x2 x4 x5 x6 x9 : Option Value), a < z → a < 1000000000 → zdn10 a ≤ e → e ≤ n → h.1[b]? = some (gB n F) → zBy F → ∃ h' x F', gm_ru mJ13_getChars_11360 1 (86, [x0, x1, x2, some (.ref b), x4, x5, x6, some (.int (zI (e : Int))), some (.int (zI 0)), x9, some (.int (zI (-(a : Int))))], [], h) (.inl (some (.int (zI x)))) h' ∧ h'.1[b]? = some (gB n F') ∧ zBy F' ∧ (∀ p, F' p = if p < e ∧ e ≤ p + zdn10 a then 48 + ((a / 10 ^ (e - 1 - p) % 10 : Nat) : Int) else F p) ∧ gh_fr h h' (fun k => k = b) := by
  intro z
  induction z with
  | zero => intro a e h F x0 x1 x2 x4 x5 x6 x9 q1 q2; exact absurd q1 (by omega)
  | succ z ih =>
    intro a e h F x0 x1 x2 x4 x5 x6 x9 hz ha he hn hb hB
    by_cases c1 : a < 100
    ·
      obtain ⟨a1, ha1⟩ : ∃ y9 : gm_H, y9 = (h.1.set b (gB n (zU F (e - 1) (48 + (a % 10 : Nat)))), h.2) := ⟨_, rfl⟩
      have g1 : a1.1[b]? = some (gB n (zU F (e - 1) (48 + (a % 10 : Nat)))) := by rw [ha1]; exact gs_s hb
      have f1 : gh_fr h a1 (fun k => k = b) := by rw [ha1]; exact gh_set (K := fun k => k = b) gh_rf rfl _
      have z9 := zdn10_r a
      by_cases c2 : a < 10
      ·
        refine ⟨a1, _, _, ?_, g1, zBy_u hB (by omega), fun p => by rw [← zg_end c1 he p, if_pos c2], f1⟩
        refine gm_go.ru (gm_iload dJ13_getChars_11360_86 rfl) ?_
        refine gm_go.ru (gi_bipush dJ13_getChars_11360_88 (by decide +kernel)) ?_
        refine gm_go.ru (gi_icmp_gt_t (tgt := 143) dJ13_getChars_11360_90 (by decide) (by omega) (by omega) (by omega)) ?_
        refine gm_go.ru (gm_aload_n dJ13_getChars_11360_143 rfl (by first | exact Or.inl ⟨_, rfl⟩ | exact Or.inr ⟨_, rfl⟩)) ?_
        refine gm_go.ru (gi_iinc (ls' := [_, _, _, _, _, _, _, _, _, _, _]) dJ13_getChars_11360_144 rfl (by decide) rfl) ?_
        refine gm_go.ru (gm_iload dJ13_getChars_11360_147 rfl) ?_
        refine gm_go.ru (gm_gets (v := .retAddr 20) dJ13_getChars_11360_149 (by decide +kernel) (sl_J13_133 rfl) rfl) ?_
        refine gm_go.ru (gm_iload dJ13_getChars_11360_152 rfl) ?_
        refine gm_go.ru (gi_neg dJ13_getChars_11360_154) ?_
        rw [Int.neg_neg]
        refine gm_go.ru (gi_kb dJ13_getChars_11360_155 zDg1_k (by rw [zDg1_l]; omega) (by rw [zDg1_l]; decide) (zDg1_v a (by omega))) ?_
        refine gm_go.ru (gi_bast dJ13_getChars_11360_156 hb (by omega) (by omega) (by omega) (by omega) (by omega)) ?_
        rw [show ((e : Int) + (-1)).toNat = e - 1 by omega]
        refine gm_hp ha1 ?_
        refine gm_go.ru (gm_iload dJ13_getChars_11360_157 rfl) ?_
        refine gm_go.ru (gi_bipush dJ13_getChars_11360_159 (by decide +kernel)) ?_
        refine gm_go.ru (gi_icmp_ge_t (tgt := 178) dJ13_getChars_11360_161 (by decide) (by omega) (by omega) (by omega)) ?_
        refine gm_go.ru (gm_iload dJ13_getChars_11360_178 rfl) ?_
        refine gm_go.ru (gi_if_eq_t (tgt := 192) dJ13_getChars_11360_180 (by decide) (by decide) rfl) ?_
        refine gm_go.ru (gm_iload dJ13_getChars_11360_192 rfl) ?_
        exact gm_iret dJ13_getChars_11360_194 rfl
      ·
        have z2 : zdn10 a = 2 := by unfold zdn10; rw [if_neg c2, if_pos c1]
        obtain ⟨a2, ha2⟩ : ∃ y9 : gm_H, y9 = (a1.1.set b (gB n (zU (zU F (e - 1) (48 + (a % 10 : Nat))) (e - 2) (48 + (a / 10 : Nat)))), a1.2) := ⟨_, rfl⟩
        have g2 : a2.1[b]? = some (gB n (zU (zU F (e - 1) (48 + (a % 10 : Nat))) (e - 2) (48 + (a / 10 : Nat)))) := by rw [ha2]; exact gs_s g1
        have f2 : gh_fr a1 a2 (fun k => k = b) := by rw [ha2]; exact gh_set (K := fun k => k = b) gh_rf rfl _
        refine ⟨a2, _, _, ?_, g2, zBy_u (zBy_u hB (by omega)) (by omega), fun p => by rw [← zg_end c1 he p, if_neg c2], gh_tr f1 f2⟩
        refine gm_go.ru (gm_iload dJ13_getChars_11360_86 rfl) ?_
        refine gm_go.ru (gi_bipush dJ13_getChars_11360_88 (by decide +kernel)) ?_
        refine gm_go.ru (gi_icmp_gt_t (tgt := 143) dJ13_getChars_11360_90 (by decide) (by omega) (by omega) (by omega)) ?_
        refine gm_go.ru (gm_aload_n dJ13_getChars_11360_143 rfl (by first | exact Or.inl ⟨_, rfl⟩ | exact Or.inr ⟨_, rfl⟩)) ?_
        refine gm_go.ru (gi_iinc (ls' := [_, _, _, _, _, _, _, _, _, _, _]) dJ13_getChars_11360_144 rfl (by decide) rfl) ?_
        refine gm_go.ru (gm_iload dJ13_getChars_11360_147 rfl) ?_
        refine gm_go.ru (gm_gets (v := .retAddr 20) dJ13_getChars_11360_149 (by decide +kernel) (sl_J13_133 rfl) rfl) ?_
        refine gm_go.ru (gm_iload dJ13_getChars_11360_152 rfl) ?_
        refine gm_go.ru (gi_neg dJ13_getChars_11360_154) ?_
        rw [Int.neg_neg]
        refine gm_go.ru (gi_kb dJ13_getChars_11360_155 zDg1_k (by rw [zDg1_l]; omega) (by rw [zDg1_l]; decide) (zDg1_v a (by omega))) ?_
        refine gm_go.ru (gi_bast dJ13_getChars_11360_156 hb (by omega) (by omega) (by omega) (by omega) (by omega)) ?_
        rw [show ((e : Int) + (-1)).toNat = e - 1 by omega]
        refine gm_hp ha1 ?_
        refine gm_go.ru (gm_iload dJ13_getChars_11360_157 rfl) ?_
        refine gm_go.ru (gi_bipush dJ13_getChars_11360_159 (by decide +kernel)) ?_
        refine gm_go.ru (gi_icmp_ge_f 178 dJ13_getChars_11360_161 (by decide) (by omega) (by omega) (by omega)) ?_
        refine gm_go.ru (gm_aload_n dJ13_getChars_11360_164 rfl (by first | exact Or.inl ⟨_, rfl⟩ | exact Or.inr ⟨_, rfl⟩)) ?_
        refine gm_go.ru (gi_iinc (ls' := [_, _, _, _, _, _, _, _, _, _, _]) dJ13_getChars_11360_165 rfl (by decide) rfl) ?_
        refine gm_go.ru (gm_iload dJ13_getChars_11360_168 rfl) ?_
        refine gm_go.ru (gm_gets (v := .retAddr 21) dJ13_getChars_11360_170 (by decide +kernel) (sl_J13_137 rfl) rfl) ?_
        refine gm_go.ru (gm_iload dJ13_getChars_11360_173 rfl) ?_
        refine gm_go.ru (gi_neg dJ13_getChars_11360_175) ?_
        rw [Int.neg_neg]
        refine gm_go.ru (gi_kb dJ13_getChars_11360_176 zDg2_k (by rw [zDg2_l]; omega) (by rw [zDg2_l]; decide) (zDg2_v a (by omega))) ?_
        refine gm_go.ru (gi_bast dJ13_getChars_11360_177 g1 (by omega) (by omega) (by omega) (by omega) (by omega)) ?_
        rw [show ((e : Int) + (-1) + (-1)).toNat = e - 2 by omega]
        refine gm_hp ha2 ?_
        refine gm_go.ru (gm_iload dJ13_getChars_11360_178 rfl) ?_
        refine gm_go.ru (gi_if_eq_t (tgt := 192) dJ13_getChars_11360_180 (by decide) (by decide) rfl) ?_
        refine gm_go.ru (gm_iload dJ13_getChars_11360_192 rfl) ?_
        exact gm_iret dJ13_getChars_11360_194 rfl
    ·
      have z9 := zdn10_s (n := a) (by omega) ha
      have z8 := zdn10_r (a / 100)
      obtain ⟨a1, ha1⟩ : ∃ y9 : gm_H, y9 = (h.1.set b (gB n (zU F (e - 1) (48 + ((a % 100 % 10 : Nat) : Int)))), h.2) := ⟨_, rfl⟩
      have g1 : a1.1[b]? = some (gB n (zU F (e - 1) (48 + ((a % 100 % 10 : Nat) : Int)))) := by rw [ha1]; exact gs_s hb
      have f1 : gh_fr h a1 (fun k => k = b) := by rw [ha1]; exact gh_set (K := fun k => k = b) gh_rf rfl _
      obtain ⟨a2, ha2⟩ : ∃ y9 : gm_H, y9 = (a1.1.set b (gB n (zU (zU F (e - 1) (48 + ((a % 100 % 10 : Nat) : Int))) (e - 2) (48 + ((a % 100 / 10 : Nat) : Int)))), a1.2) := ⟨_, rfl⟩
      have g2 : a2.1[b]? = some (gB n (zU (zU F (e - 1) (48 + ((a % 100 % 10 : Nat) : Int))) (e - 2) (48 + ((a % 100 / 10 : Nat) : Int)))) := by rw [ha2]; exact gs_s g1
      have f2 : gh_fr a1 a2 (fun k => k = b) := by rw [ha2]; exact gh_set (K := fun k => k = b) gh_rf rfl _
      obtain ⟨h3, x, F3, e1, e2, e3, e4, e5⟩ := ih (a / 100) (e - 2) a2 _ x0 x1 x2 x4 (gm_k1 x5) (some (.int (zI ((a % 100 : Nat) : Int)))) (some (.int (zI (-((a / 100 : Nat) : Int))))) (by omega) (by omega) (by omega) (by omega) g2 (zBy_u (zBy_u hB (by omega)) (by omega))
      refine ⟨h3, x, F3, ?_, e2, e3, zg_step (by omega) ha he e4, gh_tr (gh_tr f1 f2) e5⟩
      refine gm_go.ru (gm_iload dJ13_getChars_11360_86 rfl) ?_
      refine gm_go.ru (gi_bipush dJ13_getChars_11360_88 (by decide +kernel)) ?_
      refine gm_go.ru (gi_icmp_gt_f 143 dJ13_getChars_11360_90 (by decide) (by omega) (by omega) (by omega)) ?_
      refine gm_go.ru (gm_iload dJ13_getChars_11360_93 rfl) ?_
      refine gm_go.ru (gi_bipush dJ13_getChars_11360_95 (by decide +kernel)) ?_
      refine gm_go.ru (gi_div dJ13_getChars_11360_97 (by omega) (by omega) (by omega)) ?_
      rw [zg_td]
      refine gm_go.ru (gm_istore (ls' := [_, _, _, _, _, _, _, _, _, _, _]) dJ13_getChars_11360_98 (by decide) rfl) ?_
      refine gm_go.ru (gm_iload dJ13_getChars_11360_100 rfl) ?_
      refine gm_go.ru (gi_bipush dJ13_getChars_11360_102 (by decide +kernel)) ?_
      refine gm_go.ru (gi_mul dJ13_getChars_11360_104) ?_
      refine gm_go.ru (gm_iload dJ13_getChars_11360_105 rfl) ?_
      refine gm_go.ru (gi_sub dJ13_getChars_11360_107) ?_
      rw [show -((a / 100 : Nat) : Int) * 100 - -(a : Int) = ((a % 100 : Nat) : Int) by omega]
      refine gm_go.ru (gm_istore (ls' := [_, _, _, _, _, _, _, _, _, _, _]) dJ13_getChars_11360_108 (by decide) rfl) ?_
      refine gm_go.ru (gm_iload dJ13_getChars_11360_110 rfl) ?_
      refine gm_go.ru (gm_istore (ls' := [_, _, _, _, _, _, _, _, _, _, _]) dJ13_getChars_11360_112 (by decide) rfl) ?_
      refine gm_go.ru (gm_aload_n dJ13_getChars_11360_114 rfl (by first | exact Or.inl ⟨_, rfl⟩ | exact Or.inr ⟨_, rfl⟩)) ?_
      refine gm_go.ru (gi_iinc (ls' := [_, _, _, _, _, _, _, _, _, _, _]) dJ13_getChars_11360_115 rfl (by decide) rfl) ?_
      refine gm_go.ru (gm_iload dJ13_getChars_11360_118 rfl) ?_
      refine gm_go.ru (gm_gets (v := .retAddr 20) dJ13_getChars_11360_120 (by decide +kernel) (sl_J13_133 rfl) rfl) ?_
      refine gm_go.ru (gm_iload dJ13_getChars_11360_123 rfl) ?_
      refine gm_go.ru (gi_kb dJ13_getChars_11360_125 zDg1_k (by rw [zDg1_l]; omega) (by rw [zDg1_l]; decide) (zDg1_v (a % 100) (by omega))) ?_
      refine gm_go.ru (gi_bast dJ13_getChars_11360_126 hb (by omega) (by omega) (by omega) (by omega) (by omega)) ?_
      rw [show ((e : Int) + (-1)).toNat = e - 1 by omega]
      refine gm_hp ha1 ?_
      refine gm_go.ru (gm_aload_n dJ13_getChars_11360_127 rfl (by first | exact Or.inl ⟨_, rfl⟩ | exact Or.inr ⟨_, rfl⟩)) ?_
      refine gm_go.ru (gi_iinc (ls' := [_, _, _, _, _, _, _, _, _, _, _]) dJ13_getChars_11360_128 rfl (by decide) rfl) ?_
      refine gm_go.ru (gm_iload dJ13_getChars_11360_131 rfl) ?_
      refine gm_go.ru (gm_gets (v := .retAddr 21) dJ13_getChars_11360_133 (by decide +kernel) (sl_J13_137 rfl) rfl) ?_
      refine gm_go.ru (gm_iload dJ13_getChars_11360_136 rfl) ?_
      refine gm_go.ru (gi_kb dJ13_getChars_11360_138 zDg2_k (by rw [zDg2_l]; omega) (by rw [zDg2_l]; decide) (zDg2_v (a % 100) (by omega))) ?_
      refine gm_go.ru (gi_bast dJ13_getChars_11360_139 g1 (by omega) (by omega) (by omega) (by omega) (by omega)) ?_
      rw [show ((e : Int) + (-1) + (-1)).toNat = e - 2 by omega]
      refine gm_hp ha2 ?_
      refine gm_go.ru (gm_goto (tgt := 86) dJ13_getChars_11360_140 (by decide)) ?_
      rw [show (e : Int) + (-1) + (-1) = ((e - 2 : Nat) : Int) by omega]
      exact e1
set_option maxRecDepth 4000 in
theorem cg_getCharsL {h : gm_H} {b n c i : Nat} {F : Nat → Int} (hb : h.1[b]? = some (gB n F)) (hB : zBy F) (hi : i < 1000000000) (he : c + zdn10 i ≤ n) (hn : n ≤ 100000) : ∃ h' x F', gm_co mJ13_getChars_11360 1 [.long (zL (i : Int)), .int (zI ((c + zdn10 i : Nat) : Int)), .ref b] h (.inl (some (.int (zI x)))) h' ∧ h'.1[b]? = some (gB n F') ∧ zBy F' ∧ (∀ k, k < c + zdn10 i → F' k = zNd i c F k) ∧ gh_fr h h' (fun k => k = b) := by
  obtain ⟨h', x, F', e1, e2, e3, e4, e5⟩ := gcl_loop hn (i + 1) i (c + zdn10 i) h F (some (.long (zL (-(i : Int))))) none (some (.int (zI ((c + zdn10 i : Nat) : Int)))) none none none none (by omega) hi (by omega) he hb hB
  refine ⟨h', x, F', ?_, e2, e3, fun k hk => by rw [e4 k]; unfold zNd; by_cases q : c ≤ k ∧ k < c + zdn10 i
    · rw [if_pos q, if_pos (by omega)]
    · rw [if_neg q, if_neg (by omega)], e5⟩
  refine gm_co_of _ (by decide +kernel) rfl (Nat.le_of_ble_eq_true rfl) rfl ?_
  refine gm_go.ru (gm_iload_n dJ13_getChars_11360_0 rfl) ?_
  refine gm_go.ru (gm_istore (ls' := [_, _, _, _, _, _, _, _, _, _, _]) dJ13_getChars_11360_1 (by decide) rfl) ?_
  refine gm_go.ru (gm_lload_n dJ13_getChars_11360_3 rfl) ?_
  refine gm_go.ru (gm_lconst (v := zL 0) dJ13_getChars_11360_4 rfl) ?_
  refine gm_go.ru (gi_lcmp dJ13_getChars_11360_5 (by omega) (by omega)) ?_
  refine gm_go.ru (gi_if_ge_t (tgt := 13) dJ13_getChars_11360_6 (by decide) (zcm_r _ _) (zcm_ge (by omega))) ?_
  refine gm_go.ru (gi_const dJ13_getChars_11360_13) ?_
  refine gm_go.ru (gm_istore (ls' := [_, _, _, _, _, _, _, _, _, _, _]) dJ13_getChars_11360_14 (by decide) rfl) ?_
  refine gm_go.ru (gm_iload dJ13_getChars_11360_16 rfl) ?_
  refine gm_go.ru (gi_if_ne_f 24 dJ13_getChars_11360_18 (by decide) (by decide) rfl) ?_
  refine gm_go.ru (gm_lload_n dJ13_getChars_11360_21 rfl) ?_
  refine gm_go.ru (gi_lneg dJ13_getChars_11360_22) ?_
  refine gm_go.ru (gm_lstore_n (ls' := [_, _, _, _, _, _, _, _, _, _, _]) dJ13_getChars_11360_23 (by decide) rfl) ?_
  refine gm_go.ru (gm_lload_n dJ13_getChars_11360_24 rfl) ?_
  refine gm_go.ru (gm_ldc2 (v := zL -2147483648) dJ13_getChars_11360_25 (kl_J13_129 rfl)) ?_
  refine gm_go.ru (gi_lcmp dJ13_getChars_11360_28 (by omega) (by omega)) ?_
  refine gm_go.ru (gi_if_gt_t (tgt := 82) dJ13_getChars_11360_29 (by decide) (zcm_r _ _) (Int.not_le.mp (zcm_gt (by omega)))) ?_
  refine gm_go.ru (gm_lload_n dJ13_getChars_11360_82 rfl) ?_
  refine gm_go.ru (gi_l2i dJ13_getChars_11360_83 (by omega)) ?_
  refine gm_go.ru (gm_istore (ls' := [_, _, _, _, _, _, _, _, _, _, _]) dJ13_getChars_11360_84 (by decide) rfl) ?_
  exact e1
set_option maxRecDepth 4000 in
theorem cg_sbJ5 {h : gm_H} {s : Nat} {q : Nat × Nat} {G : Nat → Int} {c : Nat} (hS : sbg h s q G c) (hc : c ≤ 1500) {i : Nat} (hi : i < 1000000000) : ∃ h' q', gm_co mJ5_append_66267 5 [.ref s, .long (zL (i : Int))] h (.inl (some (.ref s))) h' ∧ sbg h' s q' (zNd i c G) (c + zdn10 i) ∧ sy h h' s q q' := by
  obtain ⟨qc, qs, cq, ml, F, c1, c2, cF, cB⟩ := id hS
  have z3 := zdn10_r i
  obtain ⟨a1, r, e1, e2, e3, e5, e4⟩ := cg_sbEns hS hc (m := c + zdn10 i) (by omega)
  obtain ⟨rs, cr, ml2, F2, d1, d2, dF, dB⟩ := id e2
  obtain ⟨a2, x, F3, g1, g2, gB3, gF, gf⟩ := cg_getCharsL d2 dB hi (c := c) (by omega) (by omega)
  have d3 := gh_at gf d1 (by omega)
  obtain ⟨a3, ha3⟩ : ∃ y9 : gm_H, y9 = (a2.1.set s (sbr_c r.1 ml2 (c + zdn10 i)), a2.2) := ⟨_, rfl⟩
  have f3 : gh_fr a2 a3 (fun k => k = s ∨ k = r.1) := by rw [ha3]; exact gh_set gh_rf (Or.inl rfl) _
  refine ⟨a3, r, ?_, ⟨by omega, rs, by omega, ml2, F3, by rw [ha3]; exact gs_s d3, by rw [ha3]; exact gs_n g2 (by omega), fun k hk => (gF k hk).trans (zNd_c dF k hk), gB3⟩, sy_tr e4 (sy_fr (gh_tr (gh_mono gf fun k z => Or.inr z) f3))⟩
  refine gm_co_of _ (by decide +kernel) rfl (Nat.le_of_ble_eq_true rfl) rfl ?_
  refine gm_go.ru (gm_aload_n dJ5_append_66267_0 rfl (by first | exact Or.inl ⟨_, rfl⟩ | exact Or.inr ⟨_, rfl⟩)) ?_
  refine gm_go.ru (gm_get dJ5_append_66267_1 (fl_J5_79 rfl) c1 rfl) ?_
  refine gm_go.ru (gm_istore_n (ls' := [_, _, _, _, _]) dJ5_append_66267_4 (by decide) rfl) ?_
  refine gm_go.ru (gm_iload_n dJ5_append_66267_5 rfl) ?_
  refine gm_go.ru (gm_lload_n dJ5_append_66267_6 rfl) ?_
  refine gm_go.ru (gm_cS dJ5_append_66267_7 (cg_strSizeL hi) rfl mt_J13_stringSize_95d88 ms_J13_stringSize_95d88 (lk_J5_254 rfl) rfl (Nat.le_of_ble_eq_true rfl) (by decide)) ?_
  refine gm_go.ru (gi_add dJ5_append_66267_10) ?_
  refine gm_go.ru (gm_istore (ls' := [_, _, _, _, _]) dJ5_append_66267_11 (by decide) rfl) ?_
  refine gm_go.ru (gm_aload_n dJ5_append_66267_13 rfl (by first | exact Or.inl ⟨_, rfl⟩ | exact Or.inr ⟨_, rfl⟩)) ?_
  refine gm_go.ru (gm_iload dJ5_append_66267_14 rfl) ?_
  refine gm_go.ru (gm_cV0 dJ5_append_66267_16 (e1) rfl mt_J5_ensureCapacityInternal_d00df mv_J5_ensureCapacityInternal_d00df (lk_J5_100 rfl) (Or.inl ⟨_, 1, _, _, _, rfl, c1, rfl⟩) rfl (Nat.le_of_ble_eq_true rfl) (by decide)) ?_
  refine gm_go.ru (gm_aload_n dJ5_append_66267_19 rfl (by first | exact Or.inl ⟨_, rfl⟩ | exact Or.inr ⟨_, rfl⟩)) ?_
  refine gm_go.ru (gm_cV dJ5_append_66267_20 (cg_sbLat e2) rfl mt_J5_isLatin1_aae02 mv_J5_isLatin1_aae02 (lk_J5_83 rfl) (Or.inl ⟨_, 1, _, _, _, rfl, d1, rfl⟩) rfl (Nat.le_of_ble_eq_true rfl) (by decide)) ?_
  refine gm_go.ru (gi_if_eq_f 40 dJ5_append_66267_23 (by decide) (by decide) (by decide)) ?_
  refine gm_go.ru (gm_lload_n dJ5_append_66267_26 rfl) ?_
  refine gm_go.ru (gm_iload dJ5_append_66267_27 rfl) ?_
  refine gm_go.ru (gm_aload_n dJ5_append_66267_29 rfl (by first | exact Or.inl ⟨_, rfl⟩ | exact Or.inr ⟨_, rfl⟩)) ?_
  refine gm_go.ru (gm_get dJ5_append_66267_30 (fl_J5_15 rfl) d1 rfl) ?_
  refine gm_go.ru (gm_cS dJ5_append_66267_33 (g1) rfl mt_J13_getChars_11360 ms_J13_getChars_11360 (lk_J5_259 rfl) rfl (Nat.le_of_ble_eq_true rfl) (by decide)) ?_
  refine gm_go.ru (gm_pop dJ5_append_66267_36 rfl) ?_
  refine gm_go.ru (gm_goto (tgt := 52) dJ5_append_66267_37 (by decide)) ?_
  refine gm_go.ru (gm_aload_n dJ5_append_66267_52 rfl (by first | exact Or.inl ⟨_, rfl⟩ | exact Or.inr ⟨_, rfl⟩)) ?_
  refine gm_go.ru (gm_iload dJ5_append_66267_53 rfl) ?_
  refine gm_go.ru (gm_put dJ5_append_66267_55 (fp_J5_79 rfl) d3 (Nat.le_of_ble_eq_true rfl) (by first | exact ⟨rfl, rfl⟩ | exact trivial)) ?_
  refine gm_hp ha3 ?_
  refine gm_go.ru (gm_aload_n dJ5_append_66267_58 rfl (by first | exact Or.inl ⟨_, rfl⟩ | exact Or.inr ⟨_, rfl⟩)) ?_
  exact gm_aret dJ5_append_66267_59 rfl (by first | exact Or.inl ⟨_, rfl⟩ | exact Or.inr ⟨_, rfl⟩) (by first | exact Or.inl ⟨_, rfl⟩ | exact Or.inr ⟨_, rfl⟩)
set_option maxRecDepth 4000 in
theorem cg_sbJ {h : gm_H} {s : Nat} {q : Nat × Nat} {G : Nat → Int} {c : Nat} (hS : sbg h s q G c) (hc : c ≤ 1500) {i : Nat} (hi : i < 1000000000) : ∃ h' q', gm_co mJ4_append_f7089 6 [.ref s, .long (zL (i : Int))] h (.inl (some (.ref s))) h' ∧ sbg h' s q' (zNd i c G) (c + zdn10 i) ∧ sy h h' s q q' := by
  obtain ⟨qc, qs, cq, ml, F, c1, c2, cF, cB⟩ := id hS
  obtain ⟨h', q', e1, e2, e3⟩ := cg_sbJ5 hS hc hi
  refine ⟨h', q', ?_, e2, e3⟩
  refine gm_co_of _ (by decide +kernel) rfl (Nat.le_of_ble_eq_true rfl) rfl ?_
  refine gm_go.ru (gm_aload_n dJ4_append_f7089_0 rfl (by first | exact Or.inl ⟨_, rfl⟩ | exact Or.inr ⟨_, rfl⟩)) ?_
  refine gm_go.ru (gm_lload_n dJ4_append_f7089_1 rfl) ?_
  refine gm_go.ru (gm_cT dJ4_append_f7089_2 e1 rfl mt_J5_append_66267 (l9_J4_56 rfl) (Or.inl ⟨_, 1, _, _, _, rfl, c1, rfl⟩) rfl (Nat.le_of_ble_eq_true rfl) (by decide)) ?_
  refine gm_go.ru (gm_pop dJ4_append_f7089_5 rfl) ?_
  refine gm_go.ru (gm_aload_n dJ4_append_f7089_6 rfl (by first | exact Or.inl ⟨_, rfl⟩ | exact Or.inr ⟨_, rfl⟩)) ?_
  exact gm_aret dJ4_append_f7089_7 rfl (by first | exact Or.inl ⟨_, rfl⟩ | exact Or.inr ⟨_, rfl⟩) (by first | exact Or.inl ⟨_, rfl⟩ | exact Or.inr ⟨_, rfl⟩)
set_option maxRecDepth 4000 in
theorem cg_coder {h : gm_H} {rv : Value} {n : Nat} {T : Nat → Int} (hv : sv_at h rv n T) : gm_co mJ0_coder_7d493 1 [rv] h (.inl (some (.int (zI 0)))) h := by
  rcases hv with ⟨s, b, F, rfl, v1, v2, v3, v4⟩ | ⟨k, b, l, rfl, v1, v2, v3⟩
  ·
    first
    | refine gm_co_of _ (by decide +kernel) rfl (Nat.le_of_ble_eq_true rfl) rfl ?_
    | refine gm_co_ofF _ (by decide +kernel) rfl (Nat.le_of_ble_eq_true rfl) rfl ?_
    refine gm_go.ru (gm_gets (v := .int (zI 1)) dJ0_coder_7d493_0 (by decide +kernel) (sl_J0_38 rfl) rfl) ?_
    refine gm_go.ru (gi_if_eq_f 13 dJ0_coder_7d493_3 (by decide) (by decide) (by decide)) ?_
    refine gm_go.ru (gm_aload_n dJ0_coder_7d493_6 rfl (by first | exact Or.inl ⟨_, rfl⟩ | exact Or.inr ⟨_, rfl⟩)) ?_
    refine gm_go.ru (gm_get dJ0_coder_7d493_7 (fl_J0_15 rfl) v1 rfl) ?_
    refine gm_go.ru (gm_goto (tgt := 14) dJ0_coder_7d493_10 (by decide)) ?_
    exact gm_zret dJ0_coder_7d493_14 rfl (by decide +kernel)
  · exact ct_coderK v1
set_option maxRecDepth 4000 in
theorem cg_len {h : gm_H} {rv : Value} {n : Nat} {T : Nat → Int} (hv : sv_at h rv n T) : gm_co mJ0_length_8abf5 2 [rv] h (.inl (some (.int (zI (n : Int))))) h := by
  rcases id hv with ⟨s, b, F, rfl, v1, v2, v3, v4⟩ | ⟨k, b, l, rfl, v1, v2, v3⟩
  ·
    first
    | refine gm_co_of _ (by decide +kernel) rfl (Nat.le_of_ble_eq_true rfl) rfl ?_
    | refine gm_co_ofF _ (by decide +kernel) rfl (Nat.le_of_ble_eq_true rfl) rfl ?_
    refine gm_go.ru (gm_aload_n dJ0_length_8abf5_0 rfl (by first | exact Or.inl ⟨_, rfl⟩ | exact Or.inr ⟨_, rfl⟩)) ?_
    refine gm_go.ru (gm_get dJ0_length_8abf5_1 (fl_J0_9 rfl) v1 rfl) ?_
    refine gm_go.ru (gi_blen dJ0_length_8abf5_4 v2) ?_
    refine gm_go.ru (gm_aload_n dJ0_length_8abf5_5 rfl (by first | exact Or.inl ⟨_, rfl⟩ | exact Or.inr ⟨_, rfl⟩)) ?_
    refine gm_go.ru (gm_cV dJ0_length_8abf5_6 (cg_coder hv) rfl mt_J0_coder_7d493 mv_J0_coder_7d493 (lk_J0_335 rfl) (sv_rc hv) rfl (Nat.le_of_ble_eq_true rfl) (by decide)) ?_
    refine gm_go.ru (gi_shr0 dJ0_length_8abf5_9) ?_
    exact gm_iret dJ0_length_8abf5_10 rfl
  · rw [← v2]; exact ct_lengthK v1
set_option maxRecDepth 4000 in
theorem cg_sbInf {h : gm_H} {s : Nat} {q : Nat × Nat} {G : Nat → Int} {c : Nat} (hS : sbh h s q G c) {rv : Value} {n : Nat} {T : Nat → Int} (hv : sv_at h rv n T) : gm_co mJ5_inflateIfNeededFor_a7421 2 [.ref s, rv] h (.inl none) h := by
  obtain ⟨qs, cq, ml, F, c1, c2, cF, cB⟩ := id hS
  obtain ⟨n1, n2⟩ := sv_nn hv
  refine gm_co_of _ (by decide +kernel) rfl (Nat.le_of_ble_eq_true rfl) rfl ?_
  refine gm_go.ru (gm_gets (v := .int (zI 1)) dJ5_inflateIfNeededFor_a7421_0 (by decide +kernel) (sl_J5_18 rfl) rfl) ?_
  refine gm_go.ru (gi_if_eq_f 21 dJ5_inflateIfNeededFor_a7421_3 (by decide) (by decide) (by decide)) ?_
  refine gm_go.ru (gm_aload_n dJ5_inflateIfNeededFor_a7421_6 rfl (by first | exact Or.inl ⟨_, rfl⟩ | exact Or.inr ⟨_, rfl⟩)) ?_
  refine gm_go.ru (gm_get dJ5_inflateIfNeededFor_a7421_7 (fl_J5_22 rfl) c1 rfl) ?_
  refine gm_go.ru (gm_aload_n dJ5_inflateIfNeededFor_a7421_10 rfl n1) ?_
  refine gm_go.ru (gm_cV dJ5_inflateIfNeededFor_a7421_11 (cg_coder hv) rfl mt_J0_coder_7d493 mv_J0_coder_7d493 (lk_J5_40 rfl) (sv_rc hv) rfl (Nat.le_of_ble_eq_true rfl) (by decide)) ?_
  refine gm_go.ru (gi_icmp_eq_t (tgt := 21) dJ5_inflateIfNeededFor_a7421_14 (by decide) (by decide) (by decide) rfl) ?_
  exact gm_vret dJ5_inflateIfNeededFor_a7421_21 rfl
set_option maxRecDepth 4000 in
theorem cg_getBytes {h : gm_H} {p m c : Nat} {F : Nat → Int} (hb : h.1[p]? = some (gB m F)) {rv : Value} {n : Nat} {T : Nat → Int} (hv : sv_at h rv n T) (hc : c + n ≤ m) (hm : m ≤ 100000) : ∃ h' U, gm_co mJ0_getBytes_840e7 2 [rv, .ref p, .int (zI (c : Int)), .int (zI 0)] h (.inl none) h' ∧ h'.1[p]? = some (gB m (zCt c n U F)) ∧ (∀ k, k < n → U k = T k) ∧ (∀ k, k < n → 0 ≤ U k ∧ U k < 128) ∧ gh_fr h h' (fun k => k = p) := by
  rcases id hv with ⟨s, b, F0, rfl, v1, v2, v3, v4⟩ | ⟨k, b, l, rfl, v1, v2, v3⟩
  ·
    obtain ⟨a1, ha1⟩ : ∃ y9 : gm_H, y9 = (h.1.set p (gB m (zCt c n F0 F)), h.2) := ⟨_, rfl⟩
    refine ⟨a1, F0, ?_, by rw [ha1]; exact gs_s hb, v4, fun k hk => v3 k, by rw [ha1]; exact gh_set (K := fun k => k = p) gh_rf rfl _⟩
    first
    | refine gm_co_of _ (by decide +kernel) rfl (Nat.le_of_ble_eq_true rfl) rfl ?_
    | refine gm_co_ofF _ (by decide +kernel) rfl (Nat.le_of_ble_eq_true rfl) rfl ?_
    refine gm_go.ru (gm_aload_n dJ0_getBytes_840e7_0 rfl (by first | exact Or.inl ⟨_, rfl⟩ | exact Or.inr ⟨_, rfl⟩)) ?_
    refine gm_go.ru (gm_cV dJ0_getBytes_840e7_1 (cg_coder hv) rfl mt_J0_coder_7d493 mv_J0_coder_7d493 (lk_J0_335 rfl) (sv_rc hv) rfl (Nat.le_of_ble_eq_true rfl) (by decide)) ?_
    refine gm_go.ru (gm_iload_n dJ0_getBytes_840e7_4 rfl) ?_
    refine gm_go.ru (gi_icmp_ne_f 28 dJ0_getBytes_840e7_5 (by decide) (by decide) (by decide) rfl) ?_
    refine gm_go.ru (gm_aload_n dJ0_getBytes_840e7_8 rfl (by first | exact Or.inl ⟨_, rfl⟩ | exact Or.inr ⟨_, rfl⟩)) ?_
    refine gm_go.ru (gm_get dJ0_getBytes_840e7_9 (fl_J0_9 rfl) v1 rfl) ?_
    refine gm_go.ru (gi_const dJ0_getBytes_840e7_12) ?_
    refine gm_go.ru (gm_aload_n dJ0_getBytes_840e7_13 rfl (by first | exact Or.inl ⟨_, rfl⟩ | exact Or.inr ⟨_, rfl⟩)) ?_
    refine gm_go.ru (gm_iload_n dJ0_getBytes_840e7_14 rfl) ?_
    refine gm_go.ru (gm_iload_n dJ0_getBytes_840e7_15 rfl) ?_
    refine gm_go.ru (gi_shl0 dJ0_getBytes_840e7_16) ?_
    refine gm_go.ru (gm_aload_n dJ0_getBytes_840e7_17 rfl (by first | exact Or.inl ⟨_, rfl⟩ | exact Or.inr ⟨_, rfl⟩)) ?_
    refine gm_go.ru (gm_get dJ0_getBytes_840e7_18 (fl_J0_9 rfl) v1 rfl) ?_
    refine gm_go.ru (gi_blen dJ0_getBytes_840e7_21 v2) ?_
    refine gm_go.ru (gi_copyB2 dJ0_getBytes_840e7_22 (cp_J0_212 rfl) v2 hb v3 (Nat.le_refl _) hc (by omega) (Nat.le_of_ble_eq_true rfl) (by decide)) ?_
    refine gm_hp ha1 ?_
    refine gm_go.ru (gm_goto (tgt := 43) dJ0_getBytes_840e7_25 (by decide)) ?_
    exact gm_vret dJ0_getBytes_840e7_43 rfl
  ·
    obtain ⟨a1, ha1⟩ : ∃ y9 : gm_H, y9 = (h.1.set p (gB m (zCt c n T F)), h.2) := ⟨_, rfl⟩
    refine ⟨a1, T, ?_, by rw [ha1]; exact gs_s hb, fun _ _ => rfl, fun k hk => (v3 k hk).2, by rw [ha1]; exact gh_set (K := fun k => k = p) gh_rf rfl _⟩
    first
    | refine gm_co_of _ (by decide +kernel) rfl (Nat.le_of_ble_eq_true rfl) rfl ?_
    | refine gm_co_ofF _ (by decide +kernel) rfl (Nat.le_of_ble_eq_true rfl) rfl ?_
    refine gm_go.ru (gm_aload_n dJ0_getBytes_840e7_0 rfl (by first | exact Or.inl ⟨_, rfl⟩ | exact Or.inr ⟨_, rfl⟩)) ?_
    refine gm_go.ru (gm_cV dJ0_getBytes_840e7_1 (cg_coder hv) rfl mt_J0_coder_7d493 mv_J0_coder_7d493 (lk_J0_335 rfl) (sv_rc hv) rfl (Nat.le_of_ble_eq_true rfl) (by decide)) ?_
    refine gm_go.ru (gm_iload_n dJ0_getBytes_840e7_4 rfl) ?_
    refine gm_go.ru (gi_icmp_ne_f 28 dJ0_getBytes_840e7_5 (by decide) (by decide) (by decide) rfl) ?_
    refine gm_go.ru (gm_aload_n dJ0_getBytes_840e7_8 rfl (by first | exact Or.inl ⟨_, rfl⟩ | exact Or.inr ⟨_, rfl⟩)) ?_
    refine gm_go.ru (gm_getk dJ0_getBytes_840e7_9 v1.1 (sl_J0_9 rfl) rfl) ?_
    refine gm_go.ru (gi_const dJ0_getBytes_840e7_12) ?_
    refine gm_go.ru (gm_aload_n dJ0_getBytes_840e7_13 rfl (by first | exact Or.inl ⟨_, rfl⟩ | exact Or.inr ⟨_, rfl⟩)) ?_
    refine gm_go.ru (gm_iload_n dJ0_getBytes_840e7_14 rfl) ?_
    refine gm_go.ru (gm_iload_n dJ0_getBytes_840e7_15 rfl) ?_
    refine gm_go.ru (gi_shl0 dJ0_getBytes_840e7_16) ?_
    refine gm_go.ru (gm_aload_n dJ0_getBytes_840e7_17 rfl (by first | exact Or.inl ⟨_, rfl⟩ | exact Or.inr ⟨_, rfl⟩)) ?_
    refine gm_go.ru (gm_getk dJ0_getBytes_840e7_18 v1.1 (sl_J0_9 rfl) rfl) ?_
    refine gm_go.ru (gm_klen (x := zI (n : Int)) dJ0_getBytes_840e7_21 (ka_b v1.2.2.2.1) (by rw [v2]; exact (zI_nat n).symm)) ?_
    refine gm_go.ru (gi_copyT2 dJ0_getBytes_840e7_22 (cp_J0_212 rfl) v1.2.2.2.1 v2 v3 hb hc (by omega) (Nat.le_of_ble_eq_true rfl) (by decide)) ?_
    refine gm_hp ha1 ?_
    refine gm_go.ru (gm_goto (tgt := 43) dJ0_getBytes_840e7_25 (by decide)) ?_
    exact gm_vret dJ0_getBytes_840e7_43 rfl
set_option maxRecDepth 4000 in
theorem cg_sbPut {h : gm_H} {s : Nat} {q : Nat × Nat} {G : Nat → Int} {c : Nat} (hS : sbh h s q G c) {rv : Value} {n : Nat} {T : Nat → Int} (hv : sv_at h rv n T) (hc : c + n ≤ q.2) (hm : q.2 ≤ 100000) : ∃ h' F U ml, gm_co mJ5_putStringAt_47b60 3 [.ref s, .int (zI (c : Int)), rv] h (.inl none) h' ∧ h'.1[s]? = some (sbr_c q.1 ml c) ∧ h'.1[q.1]? = some (gB q.2 (zCt c n U F)) ∧ (∀ k, k < c → F k = G k) ∧ zBy F ∧ (∀ k, k < n → U k = T k) ∧ (∀ k, k < n → 0 ≤ U k ∧ U k < 128) ∧ gh_fr h h' (fun k => k = q.1) := by
  obtain ⟨qs, cq, ml, F, c1, c2, cF, cB⟩ := id hS
  obtain ⟨n1, n2⟩ := sv_nn hv
  obtain ⟨h', U, e1, e2, e3, e4, e5⟩ := cg_getBytes c2 hv hc hm
  refine ⟨h', F, U, ml, ?_, gh_at e5 c1 (by omega), e2, cF, cB, e3, e4, e5⟩
  refine gm_co_of _ (by decide +kernel) rfl (Nat.le_of_ble_eq_true rfl) rfl ?_
  refine gm_go.ru (gm_aload_n dJ5_putStringAt_47b60_0 rfl (by first | exact Or.inl ⟨_, rfl⟩ | exact Or.inr ⟨_, rfl⟩)) ?_
  refine gm_go.ru (gm_aload_n dJ5_putStringAt_47b60_1 rfl n1) ?_
  refine gm_go.ru (gm_cV0 dJ5_putStringAt_47b60_2 (cg_sbInf hS hv) rfl mt_J5_inflateIfNeededFor_a7421 mv_J5_inflateIfNeededFor_a7421 (lk_J5_397 rfl) (Or.inl ⟨_, 1, _, _, _, rfl, c1, rfl⟩) rfl (Nat.le_of_ble_eq_true rfl) (by decide)) ?_
  refine gm_go.ru (gm_aload_n dJ5_putStringAt_47b60_5 rfl n1) ?_
  refine gm_go.ru (gm_aload_n dJ5_putStringAt_47b60_6 rfl (by first | exact Or.inl ⟨_, rfl⟩ | exact Or.inr ⟨_, rfl⟩)) ?_
  refine gm_go.ru (gm_get dJ5_putStringAt_47b60_7 (fl_J5_15 rfl) c1 rfl) ?_
  refine gm_go.ru (gm_iload_n dJ5_putStringAt_47b60_10 rfl) ?_
  refine gm_go.ru (gm_aload_n dJ5_putStringAt_47b60_11 rfl (by first | exact Or.inl ⟨_, rfl⟩ | exact Or.inr ⟨_, rfl⟩)) ?_
  refine gm_go.ru (gm_get dJ5_putStringAt_47b60_12 (fl_J5_22 rfl) c1 rfl) ?_
  refine gm_go.ru (gm_cV0 dJ5_putStringAt_47b60_15 (e1) rfl mt_J0_getBytes_840e7 mv_J0_getBytes_840e7 (lk_J5_399 rfl) (sv_rc hv) rfl (Nat.le_of_ble_eq_true rfl) (by decide)) ?_
  exact gm_vret dJ5_putStringAt_47b60_18 rfl
theorem sv_mv2 {h h' : gm_H} {s : Nat} {q q' : Nat × Nat} {rv : Value} {c : Nat} {T : Nat → Int} (f : sy h h' s q q') (hv : sv_at h rv c T) (hd : ∀ t b F, rv = .ref t → h.1[t]? = some (.inr (0, [.ref b, .int (zI 0), .int 0, .int 0])) → h.1[b]? = some (gB c F) → t ≠ s ∧ t ≠ q.1 ∧ b ≠ s ∧ b ≠ q.1) : sv_at h' rv c T := by
  rcases hv with ⟨t, b, F, rfl, h1, h2, h3⟩ | ⟨k, b, l, rfl, h1, h2⟩
  · obtain ⟨d1, d2, d3, d4⟩ := hd t b F rfl h1 h2
    exact Or.inl ⟨t, b, F, rfl, (f.2.2.1 t (List.getElem?_eq_some_iff.mp h1).1 d1 d2).trans h1, (f.2.2.1 b (List.getElem?_eq_some_iff.mp h2).1 d3 d4).trans h2, h3⟩
  · exact Or.inr ⟨k, b, l, rfl, h1, h2⟩
/-- the String's cells are none of the builder's -/
def sv_ap (h : gm_H) (rv : Value) (c s : Nat) (q : Nat × Nat) : Prop := ∀ t b F, rv = .ref t → h.1[t]? = some (.inr (0, [.ref b, .int (zI 0), .int 0, .int 0])) → h.1[b]? = some (gB c F) → t ≠ s ∧ t ≠ q.1 ∧ b ≠ s ∧ b ≠ q.1
set_option maxRecDepth 4000 in
theorem cg_sbS5 {h : gm_H} {s : Nat} {q : Nat × Nat} {G : Nat → Int} {c : Nat} (hS : sbg h s q G c) (hc : c ≤ 1500) {rv : Value} {n : Nat} {T : Nat → Int} (hv : sv_at h rv n T) (hn : c + n ≤ 1500) (hd : sv_ap h rv n s q) : ∃ h' q', gm_co mJ5_append_cf1ce 5 [.ref s, rv] h (.inl (some (.ref s))) h' ∧ sbg h' s q' (zCt c n T G) (c + n) ∧ sy h h' s q q' := by
  obtain ⟨qc, qs, cq, ml, F, c1, c2, cF, cB⟩ := id hS
  obtain ⟨n1, n2⟩ := sv_nn hv
  obtain ⟨a1, r, e1, e2, e3, e5, e4⟩ := cg_sbEns hS hc (m := c + n) (by omega)
  obtain ⟨rs, cr, ml0, F0, d1, d2, dF, dB⟩ := id e2
  have hv1 := sv_mv2 e4 hv hd
  obtain ⟨a2, F2, U, ml2, g1, g2, g3, gF, gB2, gU, gV, gf⟩ := cg_sbPut e2 hv1 e3 (by omega)
  obtain ⟨a3, ha3⟩ : ∃ y9 : gm_H, y9 = (a2.1.set s (sbr_c r.1 ml2 (c + n)), a2.2) := ⟨_, rfl⟩
  have f3 : gh_fr a2 a3 (fun k => k = s ∨ k = r.1) := by rw [ha3]; exact gh_set gh_rf (Or.inl rfl) _
  refine ⟨a3, r, ?_, ⟨by omega, rs, by omega, ml2, _, by rw [ha3]; exact gs_s g2, by rw [ha3]; exact gs_n g3 (by omega), zCt_c gF gU, zCt_by gB2 gV⟩, sy_tr e4 (sy_fr (gh_tr (gh_mono gf fun k z => Or.inr z) f3))⟩
  refine gm_co_of _ (by decide +kernel) rfl (Nat.le_of_ble_eq_true rfl) rfl ?_
  refine gm_go.ru (gm_aload_n dJ5_append_cf1ce_0 rfl n1) ?_
  refine gm_go.ru (gm_ifnonnull (tgt := 9) dJ5_append_cf1ce_1 (by decide) n1 n2) ?_
  refine gm_go.ru (gm_aload_n dJ5_append_cf1ce_9 rfl n1) ?_
  refine gm_go.ru (gm_cV dJ5_append_cf1ce_10 (cg_len hv) rfl mt_J0_length_8abf5 mv_J0_length_8abf5 (lk_J5_32 rfl) (sv_rc hv) rfl (Nat.le_of_ble_eq_true rfl) (by decide)) ?_
  refine gm_go.ru (gm_istore_n (ls' := [_, _, _]) dJ5_append_cf1ce_13 (by decide) rfl) ?_
  refine gm_go.ru (gm_aload_n dJ5_append_cf1ce_14 rfl (by first | exact Or.inl ⟨_, rfl⟩ | exact Or.inr ⟨_, rfl⟩)) ?_
  refine gm_go.ru (gm_aload_n dJ5_append_cf1ce_15 rfl (by first | exact Or.inl ⟨_, rfl⟩ | exact Or.inr ⟨_, rfl⟩)) ?_
  refine gm_go.ru (gm_get dJ5_append_cf1ce_16 (fl_J5_79 rfl) c1 rfl) ?_
  refine gm_go.ru (gm_iload_n dJ5_append_cf1ce_19 rfl) ?_
  refine gm_go.ru (gi_add dJ5_append_cf1ce_20) ?_
  refine gm_go.ru (gm_cV0 dJ5_append_cf1ce_21 (e1) rfl mt_J5_ensureCapacityInternal_d00df mv_J5_ensureCapacityInternal_d00df (lk_J5_100 rfl) (Or.inl ⟨_, 1, _, _, _, rfl, c1, rfl⟩) rfl (Nat.le_of_ble_eq_true rfl) (by decide)) ?_
  refine gm_go.ru (gm_aload_n dJ5_append_cf1ce_24 rfl (by first | exact Or.inl ⟨_, rfl⟩ | exact Or.inr ⟨_, rfl⟩)) ?_
  refine gm_go.ru (gm_aload_n dJ5_append_cf1ce_25 rfl (by first | exact Or.inl ⟨_, rfl⟩ | exact Or.inr ⟨_, rfl⟩)) ?_
  refine gm_go.ru (gm_get dJ5_append_cf1ce_26 (fl_J5_79 rfl) d1 rfl) ?_
  refine gm_go.ru (gm_aload_n dJ5_append_cf1ce_29 rfl n1) ?_
  refine gm_go.ru (gm_cV0 dJ5_append_cf1ce_30 (g1) rfl mt_J5_putStringAt_47b60 mv_J5_putStringAt_47b60 (lk_J5_208 rfl) (Or.inl ⟨_, 1, _, _, _, rfl, d1, rfl⟩) rfl (Nat.le_of_ble_eq_true rfl) (by decide)) ?_
  refine gm_go.ru (gm_aload_n dJ5_append_cf1ce_33 rfl (by first | exact Or.inl ⟨_, rfl⟩ | exact Or.inr ⟨_, rfl⟩)) ?_
  refine gm_go.ru (gm_dup dJ5_append_cf1ce_34 rfl) ?_
  refine gm_go.ru (gm_get dJ5_append_cf1ce_35 (fl_J5_79 rfl) g2 rfl) ?_
  refine gm_go.ru (gm_iload_n dJ5_append_cf1ce_38 rfl) ?_
  refine gm_go.ru (gi_add dJ5_append_cf1ce_39) ?_
  refine gm_go.ru (gm_put dJ5_append_cf1ce_40 (fp_J5_79 rfl) g2 (Nat.le_of_ble_eq_true rfl) (by first | exact ⟨rfl, rfl⟩ | exact trivial)) ?_
  refine gm_hp ha3 ?_
  refine gm_go.ru (gm_aload_n dJ5_append_cf1ce_43 rfl (by first | exact Or.inl ⟨_, rfl⟩ | exact Or.inr ⟨_, rfl⟩)) ?_
  exact gm_aret dJ5_append_cf1ce_44 rfl (by first | exact Or.inl ⟨_, rfl⟩ | exact Or.inr ⟨_, rfl⟩) (by first | exact Or.inl ⟨_, rfl⟩ | exact Or.inr ⟨_, rfl⟩)
set_option maxRecDepth 4000 in
theorem cg_sbS {h : gm_H} {s : Nat} {q : Nat × Nat} {G : Nat → Int} {c : Nat} (hS : sbg h s q G c) (hc : c ≤ 1500) {rv : Value} {n : Nat} {T : Nat → Int} (hv : sv_at h rv n T) (hn : c + n ≤ 1500) (hd : sv_ap h rv n s q) : ∃ h' q', gm_co mJ4_append_15ec4 6 [.ref s, rv] h (.inl (some (.ref s))) h' ∧ sbg h' s q' (zCt c n T G) (c + n) ∧ sy h h' s q q' := by
  obtain ⟨qc, qs, cq, ml, F, c1, c2, cF, cB⟩ := id hS
  obtain ⟨h', q', e1, e2, e3⟩ := cg_sbS5 hS hc hv hn hd
  refine ⟨h', q', ?_, e2, e3⟩
  refine gm_co_of _ (by decide +kernel) rfl (Nat.le_of_ble_eq_true rfl) rfl ?_
  refine gm_go.ru (gm_aload_n dJ4_append_15ec4_0 rfl (by first | exact Or.inl ⟨_, rfl⟩ | exact Or.inr ⟨_, rfl⟩)) ?_
  refine gm_go.ru (gm_aload_n dJ4_append_15ec4_1 rfl (by first | exact Or.inl ⟨_, rfl⟩ | exact Or.inr ⟨_, rfl⟩)) ?_
  refine gm_go.ru (gm_cT dJ4_append_15ec4_2 e1 rfl mt_J5_append_cf1ce (l9_J4_29 rfl) (Or.inl ⟨_, 1, _, _, _, rfl, c1, rfl⟩) rfl (Nat.le_of_ble_eq_true rfl) (by decide)) ?_
  refine gm_go.ru (gm_pop dJ4_append_15ec4_5 rfl) ?_
  refine gm_go.ru (gm_aload_n dJ4_append_15ec4_6 rfl (by first | exact Or.inl ⟨_, rfl⟩ | exact Or.inr ⟨_, rfl⟩)) ?_
  exact gm_aret dJ4_append_15ec4_7 rfl (by first | exact Or.inl ⟨_, rfl⟩ | exact Or.inr ⟨_, rfl⟩) (by first | exact Or.inl ⟨_, rfl⟩ | exact Or.inr ⟨_, rfl⟩)
set_option maxRecDepth 4000 in
theorem cg_sbSb {h : gm_H} {s : Nat} {q : Nat × Nat} {G : Nat → Int} {c : Nat} (hS : sbg h s q G c) (hc : c ≤ 1500) {rv : Value} {n : Nat} {T : Nat → Int} (hv : sv_at h rv n T) (hn : c + n ≤ 1500) (hd : sv_ap h rv n s q) : ∃ h' q', gm_co mJ4_append_cf1ce 7 [.ref s, rv] h (.inl (some (.ref s))) h' ∧ sbg h' s q' (zCt c n T G) (c + n) ∧ sy h h' s q q' := by
  obtain ⟨qc, qs, cq, ml, F, c1, c2, cF, cB⟩ := id hS
  obtain ⟨n1, n2⟩ := sv_nn hv
  obtain ⟨h', q', e1, e2, e3⟩ := cg_sbS hS hc hv hn hd
  refine ⟨h', q', ?_, e2, e3⟩
  refine gm_co_of _ (by decide +kernel) rfl (Nat.le_of_ble_eq_true rfl) rfl ?_
  refine gm_go.ru (gm_aload_n dJ4_append_cf1ce_0 rfl (by first | exact Or.inl ⟨_, rfl⟩ | exact Or.inr ⟨_, rfl⟩)) ?_
  refine gm_go.ru (gm_aload_n dJ4_append_cf1ce_1 rfl n1) ?_
  refine gm_go.ru (gm_cV dJ4_append_cf1ce_2 (e1) rfl mt_J4_append_15ec4 mv_J4_append_15ec4 (lk_J4_23 rfl) (Or.inl ⟨_, 1, _, _, _, rfl, c1, rfl⟩) rfl (Nat.le_of_ble_eq_true rfl) (by decide)) ?_
  exact gm_aret dJ4_append_cf1ce_5 rfl (by first | exact Or.inl ⟨_, rfl⟩ | exact Or.inr ⟨_, rfl⟩) (by first | exact Or.inl ⟨_, rfl⟩ | exact Or.inr ⟨_, rfl⟩)
set_option maxRecDepth 4000 in
theorem cg_sbI0 {h : gm_H} {s : Nat} (h0 : h.1[s]? = some (.inr (1, [.null, .int 0, .int 0, .int 0]))) {rv : Value} {n : Nat} {T : Nat → Int} (hv : sv_at h rv n T) (hn : n ≤ 24) : ∃ h' q', gm_co mJ5_init_a7421 8 [.ref s, rv] h (.inl none) h' ∧ sbg h' s q' (zCt 0 n T (fun _ => 0)) n ∧ h.1.length ≤ h'.1.length ∧ h.1.length ≤ q'.1 ∧ (∀ k, k < h.1.length → k ≠ s → h'.1[k]? = h.1[k]?) ∧ (h.2.1 ≤ h'.2.1 ∧ h'.2.1 ≤ h.2.1 + 60) ∧ h.2.2 ≤ h'.2.2 ∧ h'.2.2 ≤ h.2.2 + 200 := by
  obtain ⟨n1, n2⟩ := sv_nn hv
  have s9 := (List.getElem?_eq_some_iff.mp h0).1
  obtain ⟨a1, ha1⟩ : ∃ y9 : gm_H, y9 = (h.1.set s (.inr (1, [.null, .int (zI 0), .int 0, .int 0])), h.2) := ⟨_, rfl⟩
  have g1 : a1.1[s]? = some (.inr (1, [.null, .int (zI 0), .int 0, .int 0])) := by rw [ha1]; exact gs_s h0
  have l1 : a1.1.length = h.1.length := by rw [ha1]; exact gl_s rfl
  have k1 : ∀ k, k ≠ s → a1.1[k]? = h.1[k]? := fun k hk => by rw [ha1]; exact List.getElem?_set_ne (by omega)
  obtain ⟨a2, ha2⟩ : ∃ y9 : gm_H, y9 = (a1.1 ++ [gB (n + 16) (fun _ => 0)], (a1.2.1 + 1, a1.2.2 + (n + 16))) := ⟨_, rfl⟩
  have g2 : a2.1[s]? = some (.inr (1, [.null, .int (zI 0), .int 0, .int 0])) := by rw [ha2]; exact ga_l g1
  have g3 : a2.1[h.1.length]? = some (gB (n + 16) (fun _ => 0)) := by rw [ha2]; exact ga_r l1
  have l2 : a2.1.length = h.1.length + 1 := by rw [ha2]; exact gl_a l1
  have k2 : ∀ k, k < h.1.length → a2.1[k]? = a1.1[k]? := fun k hk => by rw [ha2]; show (a1.1 ++ _)[k]? = _; rw [List.getElem?_append_left (by omega)]
  obtain ⟨a3, ha3⟩ : ∃ y9 : gm_H, y9 = (a2.1.set s (sbr_c h.1.length 0 0), a2.2) := ⟨_, rfl⟩
  have g4 : a3.1[s]? = some (sbr_c h.1.length 0 0) := by rw [ha3]; exact gs_s g2
  have g5 : a3.1[h.1.length]? = some (gB (n + 16) (fun _ => 0)) := by rw [ha3]; exact gs_n g3 (by omega)
  have l3 : a3.1.length = h.1.length + 1 := by rw [ha3]; exact gl_s l2
  have k3 : ∀ k, k < h.1.length → k ≠ s → a3.1[k]? = h.1[k]? := fun k hk h1 => by rw [ha3]; show (a2.1.set s _)[k]? = _; rw [List.getElem?_set_ne (by omega), k2 k hk, k1 k h1]
  have v3 : a3.2 = (h.2.1 + 1, h.2.2 + (n + 16)) := by rw [ha3, ha2, ha1]
  have hS : sbg a3 s (h.1.length, n + 16) (fun _ => 0) 0 := ⟨by show n + 16 ≤ 40 + 2 * 0; omega, by show h.1.length ≠ s; omega, Nat.zero_le _, 0, _, g4, g5, fun k hk => absurd hk (by omega), fun k => by show (0 : Int) ≤ 0 ∧ (0 : Int) < 128; decide⟩
  have hns : ∀ t b F, rv = .ref t → h.1[t]? = some (.inr (0, [.ref b, .int (zI 0), .int 0, .int 0])) → h.1[b]? = some (gB n F) → t ≠ s ∧ b ≠ s := fun t b F _ q2 q3 => ⟨fun z => by subst z; rw [h0] at q2; cases q2, fun z => by subst z; rw [h0] at q3; cases q3⟩
  have hv1 : sv_at a1 rv n T := by
    rcases id hv with ⟨t, b, F, rfl, q1, q2, q3⟩ | q
    · obtain ⟨d1, d2⟩ := hns t b F rfl q1 q2
      exact Or.inl ⟨t, b, F, rfl, (k1 t d1).trans q1, (k1 b d2).trans q2, q3⟩
    · exact Or.inr q
  have hv3 : sv_at a3 rv n T := by
    rcases id hv with ⟨t, b, F, rfl, q1, q2, q3⟩ | q
    · obtain ⟨d1, d2⟩ := hns t b F rfl q1 q2
      exact Or.inl ⟨t, b, F, rfl, (k3 t (List.getElem?_eq_some_iff.mp q1).1 d1).trans q1, (k3 b (List.getElem?_eq_some_iff.mp q2).1 d2).trans q2, q3⟩
    · exact Or.inr q
  have hd3 : sv_ap a3 rv n s (h.1.length, n + 16) := by
    intro t b F r1 q2 q3
    rcases id hv with ⟨t', b', F', r2, p1, p2, p3⟩ | ⟨k, b', l, r2, -⟩
    · rw [r1] at r2
      cases r2
      obtain ⟨d1, d2⟩ := hns t b' F' r1 p1 p2
      have t9 := (List.getElem?_eq_some_iff.mp p1).1
      have b9 := (List.getElem?_eq_some_iff.mp p2).1
      have e9 := (k3 t t9 d1).trans p1
      rw [q2] at e9
      cases e9
      exact ⟨d1, by show t ≠ h.1.length; omega, d2, by show b ≠ h.1.length; omega⟩
    · rw [r1] at r2; cases r2
  obtain ⟨a4, r, e1, e2, e3⟩ := cg_sbSb hS (by omega) hv3 (by omega) hd3
  have e2' : sbg a4 s r (zCt 0 n T (fun _ => 0)) n := by rw [Nat.zero_add] at e2; exact e2
  obtain ⟨y1, y2, y3, y4, y5, y6, y7⟩ := e3
  have c9 := e2'.1
  rw [v3] at y5 y6 y7
  dsimp only at y1 y2 y3 y4 y5 y6 y7
  refine ⟨a4, r, ?_, e2', by omega, by omega, fun k hk h1 => (y3 k (by omega) h1 (by omega)).trans (k3 k hk h1), by omega, by omega⟩
  refine gm_co_of _ (by decide +kernel) rfl (Nat.le_of_ble_eq_true rfl) rfl ?_
  refine gm_go.ru (gm_aload_n dJ5_init_a7421_0 rfl (by first | exact Or.inl ⟨_, rfl⟩ | exact Or.inr ⟨_, rfl⟩)) ?_
  refine gm_go.ru (gm_objInit dJ5_init_a7421_1 rfl (ol_J5_3 rfl) oi_i oi_c (Nat.le_of_ble_eq_true rfl) (by decide)) ?_
  refine gm_go.ru (gm_aload_n dJ5_init_a7421_4 rfl n1) ?_
  refine gm_go.ru (gm_cV dJ5_init_a7421_5 (cg_len hv) rfl mt_J0_length_8abf5 mv_J0_length_8abf5 (lk_J5_32 rfl) (sv_rc hv) rfl (Nat.le_of_ble_eq_true rfl) (by decide)) ?_
  refine gm_go.ru (gm_istore_n (ls' := [_, _, _, _, _]) dJ5_init_a7421_8 (by decide) rfl) ?_
  refine gm_go.ru (gm_iload_n dJ5_init_a7421_9 rfl) ?_
  refine gm_go.ru (gm_ldci (v := zI 2147483631) dJ5_init_a7421_10 (kc_J5_38 rfl)) ?_
  refine gm_go.ru (gi_icmp_ge_f 22 dJ5_init_a7421_12 (by decide) (by omega) (by omega) (by omega)) ?_
  refine gm_go.ru (gm_iload_n dJ5_init_a7421_15 rfl) ?_
  refine gm_go.ru (gi_bipush dJ5_init_a7421_16 (by decide +kernel)) ?_
  refine gm_go.ru (gi_add dJ5_init_a7421_18) ?_
  refine gm_go.ru (gm_goto (tgt := 24) dJ5_init_a7421_19 (by decide)) ?_
  refine gm_go.ru (gm_istore_n (ls' := [_, _, _, _, _]) dJ5_init_a7421_24 (by decide) rfl) ?_
  refine gm_go.ru (gm_aload_n dJ5_init_a7421_25 rfl n1) ?_
  refine gm_go.ru (gm_cV dJ5_init_a7421_26 (cg_coder hv) rfl mt_J0_coder_7d493 mv_J0_coder_7d493 (lk_J5_40 rfl) (sv_rc hv) rfl (Nat.le_of_ble_eq_true rfl) (by decide)) ?_
  refine gm_go.ru (gm_istore (ls' := [_, _, _, _, _]) dJ5_init_a7421_29 (by decide) rfl) ?_
  refine gm_go.ru (gm_aload_n dJ5_init_a7421_31 rfl (by first | exact Or.inl ⟨_, rfl⟩ | exact Or.inr ⟨_, rfl⟩)) ?_
  refine gm_go.ru (gm_iload dJ5_init_a7421_32 rfl) ?_
  refine gm_go.ru (gm_put dJ5_init_a7421_34 (fp_J5_22 rfl) h0 (Nat.le_of_ble_eq_true rfl) (by first | exact ⟨rfl, rfl⟩ | exact trivial)) ?_
  refine gm_hp ha1 ?_
  refine gm_go.ru (gm_aload_n dJ5_init_a7421_37 rfl (by first | exact Or.inl ⟨_, rfl⟩ | exact Or.inr ⟨_, rfl⟩)) ?_
  refine gm_go.ru (gm_iload dJ5_init_a7421_38 rfl) ?_
  refine gm_go.ru (gi_if_ne_f 49 dJ5_init_a7421_40 (by decide) (by decide) rfl) ?_
  refine gm_go.ru (gm_iload_n dJ5_init_a7421_43 rfl) ?_
  rw [show (n : Int) + 16 = ((n + 16 : Nat) : Int) by omega]
  refine gm_go.ru (gm_newa_byte dJ5_init_a7421_44 ac_byte (z_neg (by omega)) (z_cl (by omega)) (by omega)) ?_
  rw [l1]
  refine gm_hp ha2 ?_
  refine gm_go.ru (gm_goto (tgt := 53) dJ5_init_a7421_46 (by decide)) ?_
  refine gm_go.ru (gm_put dJ5_init_a7421_53 (fp_J5_15 rfl) g2 (Nat.le_of_ble_eq_true rfl) (by first | exact ⟨rfl, rfl⟩ | exact trivial)) ?_
  refine gm_hp ha3 ?_
  refine gm_go.ru (gm_aload_n dJ5_init_a7421_56 rfl (by first | exact Or.inl ⟨_, rfl⟩ | exact Or.inr ⟨_, rfl⟩)) ?_
  refine gm_go.ru (gm_aload_n dJ5_init_a7421_57 rfl n1) ?_
  refine gm_go.ru (gm_cO dJ5_init_a7421_58 e1 rfl mt_J4_append_cf1ce (lo_J5_43 rfl) (Or.inl ⟨_, 1, _, _, _, rfl, g4, rfl⟩) rfl (Nat.le_of_ble_eq_true rfl) (by decide)) ?_
  refine gm_go.ru (gm_pop dJ5_init_a7421_61 rfl) ?_
  exact gm_vret dJ5_init_a7421_62 rfl
set_option maxRecDepth 4000 in
theorem cg_sbInitS {h : gm_H} {s : Nat} (h0 : h.1[s]? = some (.inr (1, [.null, .int 0, .int 0, .int 0]))) {rv : Value} {n : Nat} {T : Nat → Int} (hv : sv_at h rv n T) (hn : n ≤ 24) : ∃ h' q', gm_co mJ4_init_a7421 9 [.ref s, rv] h (.inl none) h' ∧ sbg h' s q' (zCt 0 n T (fun _ => 0)) n ∧ h.1.length ≤ h'.1.length ∧ h.1.length ≤ q'.1 ∧ (∀ k, k < h.1.length → k ≠ s → h'.1[k]? = h.1[k]?) ∧ (h.2.1 ≤ h'.2.1 ∧ h'.2.1 ≤ h.2.1 + 60) ∧ h.2.2 ≤ h'.2.2 ∧ h'.2.2 ≤ h.2.2 + 200 := by
  obtain ⟨n1, n2⟩ := sv_nn hv
  obtain ⟨h', q', e1, e2⟩ := cg_sbI0 h0 hv hn
  refine ⟨h', q', ?_, e2⟩
  refine gm_co_of _ (by decide +kernel) rfl (Nat.le_of_ble_eq_true rfl) rfl ?_
  refine gm_go.ru (gm_aload_n dJ4_init_a7421_0 rfl (by first | exact Or.inl ⟨_, rfl⟩ | exact Or.inr ⟨_, rfl⟩)) ?_
  refine gm_go.ru (gm_aload_n dJ4_init_a7421_1 rfl n1) ?_
  refine gm_go.ru (gm_cI dJ4_init_a7421_2 e1 rfl mt_J5_init_a7421 mi_J5_init_a7421 (lk_J4_7 rfl) (Or.inl ⟨_, 1, _, _, _, rfl, h0, rfl⟩) rfl (Nat.le_of_ble_eq_true rfl) (by decide)) ?_
  exact gm_vret dJ4_init_a7421_5 rfl
set_option maxRecDepth 4000 in
theorem cg_chkLen {h : gm_H} {a b : Int} (ha : zR a) (hb : zR b) (hc : a ≤ b) : gm_co mJ7_checkLength_df160 1 [.int (zI a), .int (zI b)] h (.inl none) h := by
  first
  | refine gm_co_of _ (by decide +kernel) rfl (Nat.le_of_ble_eq_true rfl) rfl ?_
  | refine gm_co_ofF _ (by decide +kernel) rfl (Nat.le_of_ble_eq_true rfl) rfl ?_
  refine gm_go.ru (gm_iload_n dJ7_checkLength_df160_0 rfl) ?_
  refine gm_go.ru (gm_iload_n dJ7_checkLength_df160_1 rfl) ?_
  refine gm_go.ru (gi_icmp_ge_t (tgt := 37) dJ7_checkLength_df160_2 (by decide) (by omega) (by omega) hc) ?_
  exact gm_vret dJ7_checkLength_df160_37 rfl
set_option maxRecDepth 4000 in
theorem cg_corB {h : gm_H} {b m c : Nat} {F : Nat → Int} (hb : h.1[b]? = some (gB m F)) (hF : zBy F) (hc : c ≤ m) (hm : m ≤ 100000) : ∃ h' F', gm_co mJ7_copyOfRangeByte_39247 2 [.ref b, .int (zI 0), .int (zI (c : Int))] h (.inl (some (.ref h.1.length))) h' ∧ h'.1[h.1.length]? = some (gB c F') ∧ zBy F' ∧ (∀ k, k < c → F' k = F k) ∧ h'.1.length = h.1.length + 1 ∧ (∀ k, k < h.1.length → h'.1[k]? = h.1[k]?) ∧ h'.2 = (h.2.1 + 1, h.2.2 + c) := by
  obtain ⟨a1, ha1⟩ : ∃ y9 : gm_H, y9 = (h.1 ++ [gB c (fun _ => 0)], (h.2.1 + 1, h.2.2 + c)) := ⟨_, rfl⟩
  have b1 : a1.1[b]? = some (gB m F) := by rw [ha1]; exact ga_l hb
  have b2 : a1.1[h.1.length]? = some (gB c (fun _ => 0)) := by rw [ha1]; exact ga_r rfl
  obtain ⟨a2, ha2⟩ : ∃ y9 : gm_H, y9 = (a1.1.set h.1.length (gB c (zCp F (fun _ => 0) c)), a1.2) := ⟨_, rfl⟩
  refine ⟨a2, zCp F (fun _ => 0) c, ?_, by rw [ha2]; exact gs_s b2, fun k => ?_, fun k hk => ?_, by rw [ha2, ha1]; simp, fun k hk => by rw [ha2, ha1]; show ((h.1 ++ [gB c (fun _ => 0)]).set h.1.length _)[k]? = _; rw [List.getElem?_set_ne (by omega), List.getElem?_append_left hk], by rw [ha2, ha1]⟩
  ·
    refine gm_co_of _ (by decide +kernel) rfl (Nat.le_of_ble_eq_true rfl) rfl ?_
    refine gm_go.ru (gm_iload_n dJ7_copyOfRangeByte_39247_0 rfl) ?_
    refine gm_go.ru (gm_iload_n dJ7_copyOfRangeByte_39247_1 rfl) ?_
    refine gm_go.ru (gm_cS0 dJ7_copyOfRangeByte_39247_2 (cg_chkLen (by omega) (by omega) (by omega)) rfl mt_J7_checkLength_df160 ms_J7_checkLength_df160 (lk_J7_343 rfl) rfl (Nat.le_of_ble_eq_true rfl) (by decide)) ?_
    refine gm_go.ru (gm_iload_n dJ7_copyOfRangeByte_39247_5 rfl) ?_
    refine gm_go.ru (gm_iload_n dJ7_copyOfRangeByte_39247_6 rfl) ?_
    refine gm_go.ru (gi_sub dJ7_copyOfRangeByte_39247_7) ?_
    refine gm_go.ru (gm_istore_n (ls' := [_, _, _, _, _]) dJ7_copyOfRangeByte_39247_8 (by decide) rfl) ?_
    refine gm_go.ru (gm_iload_n dJ7_copyOfRangeByte_39247_9 rfl) ?_
    rw [show (c : Int) - 0 = (c : Int) by omega]
    refine gm_go.ru (gm_newa_byte dJ7_copyOfRangeByte_39247_10 ac_byte (z_neg (by omega)) (z_cl (by omega)) (by omega)) ?_
    refine gm_hp ha1 ?_
    refine gm_go.ru (gm_astore (ls' := [_, _, _, _, _]) dJ7_copyOfRangeByte_39247_12 (by first | exact Or.inl ⟨_, rfl⟩ | exact Or.inr ⟨_, rfl⟩) (by decide) rfl) ?_
    refine gm_go.ru (gm_aload_n dJ7_copyOfRangeByte_39247_14 rfl (by first | exact Or.inl ⟨_, rfl⟩ | exact Or.inr ⟨_, rfl⟩)) ?_
    refine gm_go.ru (gm_iload_n dJ7_copyOfRangeByte_39247_15 rfl) ?_
    refine gm_go.ru (gm_aload dJ7_copyOfRangeByte_39247_16 rfl (by first | exact Or.inl ⟨_, rfl⟩ | exact Or.inr ⟨_, rfl⟩)) ?_
    refine gm_go.ru (gi_const dJ7_copyOfRangeByte_39247_18) ?_
    refine gm_go.ru (gm_aload_n dJ7_copyOfRangeByte_39247_19 rfl (by first | exact Or.inl ⟨_, rfl⟩ | exact Or.inr ⟨_, rfl⟩)) ?_
    refine gm_go.ru (gi_blen dJ7_copyOfRangeByte_39247_20 b1) ?_
    refine gm_go.ru (gm_iload_n dJ7_copyOfRangeByte_39247_21 rfl) ?_
    refine gm_go.ru (gi_sub dJ7_copyOfRangeByte_39247_22) ?_
    refine gm_go.ru (gm_iload_n dJ7_copyOfRangeByte_39247_23 rfl) ?_
    refine gm_go.ru (gm_cS dJ7_copyOfRangeByte_39247_24 (ct_min (by omega) (by omega)) rfl mt_J9_min_7cf53 ms_J9_min_7cf53 (lk_J7_304 rfl) rfl (Nat.le_of_ble_eq_true rfl) (by decide)) ?_
    rw [show min ((m : Int) - 0) (c : Int) = ((c : Nat) : Int) by omega]
    refine gm_go.ru (gi_copyB (n := c) dJ7_copyOfRangeByte_39247_27 (cp_J7_150 rfl) b1 b2 hF (by omega) (by omega) (by omega) (Nat.le_of_ble_eq_true rfl) (by decide)) ?_
    refine gm_hp ha2 ?_
    refine gm_go.ru (gm_aload dJ7_copyOfRangeByte_39247_30 rfl (by first | exact Or.inl ⟨_, rfl⟩ | exact Or.inr ⟨_, rfl⟩)) ?_
    exact gm_aret dJ7_copyOfRangeByte_39247_32 rfl (by first | exact Or.inl ⟨_, rfl⟩ | exact Or.inr ⟨_, rfl⟩) (by first | exact Or.inl ⟨_, rfl⟩ | exact Or.inr ⟨_, rfl⟩)
  · unfold zCp; split
    · exact hF k
    · show (0 : Int) ≤ 0 ∧ (0 : Int) < 128
      decide
  · unfold zCp; rw [if_pos hk]
set_option maxRecDepth 4000 in
theorem cg_cor {h : gm_H} {b m c : Nat} {F : Nat → Int} (hb : h.1[b]? = some (gB m F)) (hF : zBy F) (hc : c ≤ m) (hm : m ≤ 100000) : ∃ h' F', gm_co mJ7_copyOfRange_39247 3 [.ref b, .int (zI 0), .int (zI (c : Int))] h (.inl (some (.ref h.1.length))) h' ∧ h'.1[h.1.length]? = some (gB c F') ∧ zBy F' ∧ (∀ k, k < c → F' k = F k) ∧ h'.1.length = h.1.length + 1 ∧ (∀ k, k < h.1.length → h'.1[k]? = h.1[k]?) ∧ h'.2 = (h.2.1 + 1, h.2.2 + c) := by
  by_cases c0 : c = m
  ·
    subst c0
    obtain ⟨a1, ha1⟩ : ∃ y9 : gm_H, y9 = (h.1 ++ [gB c F], (h.2.1 + 1, h.2.2 + c)) := ⟨_, rfl⟩
    have b1 : a1.1[h.1.length]? = some (gB c F) := by rw [ha1]; exact ga_r rfl
    refine ⟨a1, F, ?_, b1, hF, fun _ _ => rfl, by rw [ha1]; exact gl_a rfl, fun k hk => by rw [ha1]; show (h.1 ++ _)[k]? = _; rw [List.getElem?_append_left hk], by rw [ha1]⟩
    refine gm_co_of _ (by decide +kernel) rfl (Nat.le_of_ble_eq_true rfl) rfl ?_
    refine gm_go.ru (gm_iload_n dJ7_copyOfRange_39247_0 rfl) ?_
    refine gm_go.ru (gi_if_ne_f 10 dJ7_copyOfRange_39247_1 (by decide) (by decide) rfl) ?_
    refine gm_go.ru (gm_iload_n dJ7_copyOfRange_39247_4 rfl) ?_
    refine gm_go.ru (gm_aload_n dJ7_copyOfRange_39247_5 rfl (by first | exact Or.inl ⟨_, rfl⟩ | exact Or.inr ⟨_, rfl⟩)) ?_
    refine gm_go.ru (gi_blen dJ7_copyOfRange_39247_6 hb) ?_
    refine gm_go.ru (gi_icmp_eq_t (tgt := 17) dJ7_copyOfRange_39247_7 (by decide) (by omega) (by omega) rfl) ?_
    refine gm_go.ru (gm_aload_n dJ7_copyOfRange_39247_17 rfl (by first | exact Or.inl ⟨_, rfl⟩ | exact Or.inr ⟨_, rfl⟩)) ?_
    refine gm_go.ru (gm_clone dJ7_copyOfRange_39247_18 (cl9_J7_310 rfl) hb (fun k => by have h1 := hF k; have h2 := zBy_fit (F k).toNat (by omega); rwa [Int.toNat_of_nonneg h1.1] at h2) (Nat.le_of_ble_eq_true rfl) (by decide)) ?_
    refine gm_hp ha1 ?_
    refine gm_go.ru (gm_castB dJ7_copyOfRange_39247_21 (cl_J7_311 rfl) b1) ?_
    exact gm_aret dJ7_copyOfRange_39247_24 rfl (by first | exact Or.inl ⟨_, rfl⟩ | exact Or.inr ⟨_, rfl⟩) (by first | exact Or.inl ⟨_, rfl⟩ | exact Or.inr ⟨_, rfl⟩)
  ·
    obtain ⟨h', F', e1, e2⟩ := cg_corB hb hF hc hm
    refine ⟨h', F', ?_, e2⟩
    refine gm_co_of _ (by decide +kernel) rfl (Nat.le_of_ble_eq_true rfl) rfl ?_
    refine gm_go.ru (gm_iload_n dJ7_copyOfRange_39247_0 rfl) ?_
    refine gm_go.ru (gi_if_ne_f 10 dJ7_copyOfRange_39247_1 (by decide) (by decide) rfl) ?_
    refine gm_go.ru (gm_iload_n dJ7_copyOfRange_39247_4 rfl) ?_
    refine gm_go.ru (gm_aload_n dJ7_copyOfRange_39247_5 rfl (by first | exact Or.inl ⟨_, rfl⟩ | exact Or.inr ⟨_, rfl⟩)) ?_
    refine gm_go.ru (gi_blen dJ7_copyOfRange_39247_6 hb) ?_
    refine gm_go.ru (gi_icmp_eq_f 17 dJ7_copyOfRange_39247_7 (by decide) (by omega) (by omega) (by omega)) ?_
    refine gm_go.ru (gm_aload_n dJ7_copyOfRange_39247_10 rfl (by first | exact Or.inl ⟨_, rfl⟩ | exact Or.inr ⟨_, rfl⟩)) ?_
    refine gm_go.ru (gm_iload_n dJ7_copyOfRange_39247_11 rfl) ?_
    refine gm_go.ru (gm_iload_n dJ7_copyOfRange_39247_12 rfl) ?_
    refine gm_go.ru (gm_cS dJ7_copyOfRange_39247_13 (e1) rfl mt_J7_copyOfRangeByte_39247 ms_J7_copyOfRangeByte_39247 (lk_J7_339 rfl) rfl (Nat.le_of_ble_eq_true rfl) (by decide)) ?_
    exact gm_aret dJ7_copyOfRange_39247_16 rfl (by first | exact Or.inl ⟨_, rfl⟩ | exact Or.inr ⟨_, rfl⟩) (by first | exact Or.inl ⟨_, rfl⟩ | exact Or.inr ⟨_, rfl⟩)
set_option maxRecDepth 4000 in
theorem cg_sbVal {h : gm_H} {s : Nat} {q : Nat × Nat} {G : Nat → Int} {c : Nat} (hS : sbh h s q G c) : gm_co mJ5_getValue_6d5f1 1 [.ref s] h (.inl (some (.ref q.1))) h := by
  first
  | refine gm_co_of _ (by decide +kernel) rfl (Nat.le_of_ble_eq_true rfl) rfl ?_
  | refine gm_co_ofF _ (by decide +kernel) rfl (Nat.le_of_ble_eq_true rfl) rfl ?_
  obtain ⟨qs, cq, ml, F, c1, c2, cF, cB⟩ := id hS
  refine gm_go.ru (gm_aload_n dJ5_getValue_6d5f1_0 rfl (by first | exact Or.inl ⟨_, rfl⟩ | exact Or.inr ⟨_, rfl⟩)) ?_
  refine gm_go.ru (gm_get dJ5_getValue_6d5f1_1 (fl_J5_15 rfl) c1 rfl) ?_
  exact gm_aret dJ5_getValue_6d5f1_4 rfl (by first | exact Or.inl ⟨_, rfl⟩ | exact Or.inr ⟨_, rfl⟩) (by first | exact Or.inl ⟨_, rfl⟩ | exact Or.inr ⟨_, rfl⟩)
set_option maxRecDepth 4000 in
theorem cg_sbL5 {h : gm_H} {s : Nat} {q : Nat × Nat} {G : Nat → Int} {c : Nat} (hS : sbh h s q G c) : gm_co mJ5_length_8abf5 1 [.ref s] h (.inl (some (.int (zI (c : Int))))) h := by
  first
  | refine gm_co_of _ (by decide +kernel) rfl (Nat.le_of_ble_eq_true rfl) rfl ?_
  | refine gm_co_ofF _ (by decide +kernel) rfl (Nat.le_of_ble_eq_true rfl) rfl ?_
  obtain ⟨qs, cq, ml, F, c1, c2, cF, cB⟩ := id hS
  refine gm_go.ru (gm_aload_n dJ5_length_8abf5_0 rfl (by first | exact Or.inl ⟨_, rfl⟩ | exact Or.inr ⟨_, rfl⟩)) ?_
  refine gm_go.ru (gm_get dJ5_length_8abf5_1 (fl_J5_79 rfl) c1 rfl) ?_
  exact gm_iret dJ5_length_8abf5_4 rfl
set_option maxRecDepth 4000 in
theorem cg_sbLen {h : gm_H} {s : Nat} {q : Nat × Nat} {G : Nat → Int} {c : Nat} (hS : sbh h s q G c) : gm_co mJ4_length_8abf5 2 [.ref s] h (.inl (some (.int (zI (c : Int))))) h := by
  first
  | refine gm_co_of _ (by decide +kernel) rfl (Nat.le_of_ble_eq_true rfl) rfl ?_
  | refine gm_co_ofF _ (by decide +kernel) rfl (Nat.le_of_ble_eq_true rfl) rfl ?_
  obtain ⟨qs, cq, ml, F, c1, c2, cF, cB⟩ := id hS
  refine gm_go.ru (gm_aload_n dJ4_length_8abf5_0 rfl (by first | exact Or.inl ⟨_, rfl⟩ | exact Or.inr ⟨_, rfl⟩)) ?_
  refine gm_go.ru (gm_cT dJ4_length_8abf5_1 (cg_sbL5 hS) rfl mt_J5_length_8abf5 (l9_J4_343 rfl) (Or.inl ⟨_, 1, _, _, _, rfl, c1, rfl⟩) rfl (Nat.le_of_ble_eq_true rfl) (by decide)) ?_
  exact gm_iret dJ4_length_8abf5_4 rfl
/-- a made String: its cell, the cell of its bytes, its length, its characters -/
def st_of (h : gm_H) (s b c : Nat) (G : Nat → Int) : Prop := h.1[s]? = some (.inr (0, [.ref b, .int (zI 0), .int 0, .int 0])) ∧ ∃ F, h.1[b]? = some (gB c F) ∧ zBy F ∧ ∀ k, k < c → F k = G k
theorem st_of_sv {h : gm_H} {s b c : Nat} {G : Nat → Int} (hT : st_of h s b c G) : sv_at h (.ref s) c G := by
  obtain ⟨h1, F, h2, h3, h4⟩ := hT
  exact Or.inl ⟨s, b, F, rfl, h1, h2, h3, h4⟩
theorem st_of_mv {h h' : gm_H} {s b c : Nat} {G : Nat → Int} (hT : st_of h s b c G) (e1 : h'.1[s]? = h.1[s]?) (e2 : h'.1[b]? = h.1[b]?) : st_of h' s b c G := by
  obtain ⟨h1, F, h2, h3⟩ := hT
  exact ⟨e1.trans h1, F, e2.trans h2, h3⟩
theorem st_of_cg {h : gm_H} {s b c : Nat} {T U : Nat → Int} (hT : st_of h s b c T) (e : ∀ k, k < c → T k = U k) : st_of h s b c U := by
  obtain ⟨h1, F, h2, h3, h4⟩ := hT
  exact ⟨h1, F, h2, h3, fun k hk => (h4 k hk).trans (e k hk)⟩
theorem st_of_ap {h : gm_H} {t b n s : Nat} {q : Nat × Nat} {G : Nat → Int} (hT : st_of h t b n G) (d : t ≠ s ∧ t ≠ q.1 ∧ b ≠ s ∧ b ≠ q.1) : sv_ap h (.ref t) n s q := fun t' b' F r q2 q3 => by
  cases r
  rw [hT.1] at q2
  cases q2
  exact d
set_option maxRecDepth 4000 in
theorem cg_strI0 {h : gm_H} {s : Nat} {q : Nat × Nat} {G : Nat → Int} {c : Nat} (hS : sbh h s q G c) {t : Nat} (h0 : h.1[t]? = some (.inr (0, [.null, .int 0, .int 0, .int 0]))) (hm : q.2 ≤ 100000) {x : Value} (hx : x = .retAddr 998) : ∃ h', gm_co mJ0_init_db425 4 [.ref t, .ref s, x] h (.inl none) h' ∧ st_of h' t h.1.length c G ∧ h'.1.length = h.1.length + 1 ∧ (∀ k, k < h.1.length → k ≠ t → h'.1[k]? = h.1[k]?) ∧ h'.2 = (h.2.1 + 1, h.2.2 + c) := by
  obtain ⟨qs, cq, ml, F, c1, c2, cF, cB⟩ := id hS
  have t9 := (List.getElem?_eq_some_iff.mp h0).1
  obtain ⟨a1, ha1⟩ : ∃ y9 : gm_H, y9 = (h.1.set t (.inr (0, [.null, .int (zI 0), .int 0, .int 0])), h.2) := ⟨_, rfl⟩
  have g1 : a1.1[t]? = some (.inr (0, [.null, .int (zI 0), .int 0, .int 0])) := by rw [ha1]; exact gs_s h0
  have dts : t ≠ s := fun z => by subst z; rw [c1] at h0; cases h0
  have dtq : t ≠ q.1 := fun z => by subst z; rw [c2] at h0; cases h0
  have g2 : a1.1[q.1]? = some (gB q.2 F) := by rw [ha1]; exact gs_n c2 dtq
  have g3 : a1.1[s]? = some (sbr_c q.1 ml c) := by rw [ha1]; exact gs_n c1 dts
  have l1 : a1.1.length = h.1.length := by rw [ha1]; exact gl_s rfl
  obtain ⟨a2, F2, e1, e2, e3, e4, e5, e6, e7⟩ := cg_cor g2 cB cq hm
  rw [l1] at e1 e2 e5 e6
  have g4 : a2.1[t]? = some (.inr (0, [.null, .int (zI 0), .int 0, .int 0])) := (e6 t t9).trans g1
  obtain ⟨a3, ha3⟩ : ∃ y9 : gm_H, y9 = (a2.1.set t (.inr (0, [.ref h.1.length, .int (zI 0), .int 0, .int 0])), a2.2) := ⟨_, rfl⟩
  refine ⟨a3, ?_, ⟨by rw [ha3]; exact gs_s g4, F2, by rw [ha3]; exact gs_n e2 (by omega), e3, fun k hk => (e4 k hk).trans (cF k hk)⟩, by rw [ha3]; exact gl_s e5, fun k hk h1 => ?_, by rw [ha3]; show a2.2 = _; rw [e7, ha1]⟩
  ·
    first
    | refine gm_co_of _ (by decide +kernel) rfl (Nat.le_of_ble_eq_true rfl) rfl ?_
    | refine gm_co_ofF _ (by decide +kernel) rfl (Nat.le_of_ble_eq_true rfl) rfl ?_
    refine gm_go.ru (gm_aload_n dJ0_init_db425_0 rfl (by first | exact Or.inl ⟨_, rfl⟩ | exact Or.inr ⟨_, rfl⟩)) ?_
    refine gm_go.ru (gm_objInit dJ0_init_db425_1 rfl (ol_J0_1 rfl) oi_i oi_c (Nat.le_of_ble_eq_true rfl) (by decide)) ?_
    refine gm_go.ru (gm_aload_n dJ0_init_db425_4 rfl (by first | exact Or.inl ⟨_, rfl⟩ | exact Or.inr ⟨_, rfl⟩)) ?_
    refine gm_go.ru (gm_cV dJ0_init_db425_5 (cg_sbVal hS) rfl mt_J5_getValue_6d5f1 mv_J5_getValue_6d5f1 (lk_J0_552 rfl) (Or.inl ⟨_, 1, _, _, _, rfl, c1, rfl⟩) rfl (Nat.le_of_ble_eq_true rfl) (by decide)) ?_
    refine gm_go.ru (gm_astore_n (ls' := [_, _, _, _, _]) dJ0_init_db425_8 (by first | exact Or.inl ⟨_, rfl⟩ | exact Or.inr ⟨_, rfl⟩) (by decide) rfl) ?_
    refine gm_go.ru (gm_aload_n dJ0_init_db425_9 rfl (by first | exact Or.inl ⟨_, rfl⟩ | exact Or.inr ⟨_, rfl⟩)) ?_
    refine gm_go.ru (gm_cO dJ0_init_db425_10 (cg_sbLen hS) rfl mt_J4_length_8abf5 (lo_J0_549 rfl) (Or.inl ⟨_, 1, _, _, _, rfl, c1, rfl⟩) rfl (Nat.le_of_ble_eq_true rfl) (by decide)) ?_
    refine gm_go.ru (gm_istore (ls' := [_, _, _, _, _]) dJ0_init_db425_13 (by decide) rfl) ?_
    refine gm_go.ru (gm_aload_n dJ0_init_db425_15 rfl (by first | exact Or.inl ⟨_, rfl⟩ | exact Or.inr ⟨_, rfl⟩)) ?_
    refine gm_go.ru (gm_cV dJ0_init_db425_16 (cg_sbLat hS) rfl mt_J5_isLatin1_aae02 mv_J5_isLatin1_aae02 (lk_J0_1047 rfl) (Or.inl ⟨_, 1, _, _, _, rfl, c1, rfl⟩) rfl (Nat.le_of_ble_eq_true rfl) (by decide)) ?_
    refine gm_go.ru (gi_if_eq_f 41 dJ0_init_db425_19 (by decide) (by decide) (by decide)) ?_
    refine gm_go.ru (gm_aload_n dJ0_init_db425_22 rfl (by first | exact Or.inl ⟨_, rfl⟩ | exact Or.inr ⟨_, rfl⟩)) ?_
    refine gm_go.ru (gi_const dJ0_init_db425_23) ?_
    refine gm_go.ru (gm_put dJ0_init_db425_24 (fp_J0_15 rfl rfl) h0 (Nat.le_of_ble_eq_true rfl) (by first | exact ⟨rfl, rfl⟩ | exact trivial)) ?_
    refine gm_hp ha1 ?_
    refine gm_go.ru (gm_aload_n dJ0_init_db425_27 rfl (by first | exact Or.inl ⟨_, rfl⟩ | exact Or.inr ⟨_, rfl⟩)) ?_
    refine gm_go.ru (gm_aload_n dJ0_init_db425_28 rfl (by first | exact Or.inl ⟨_, rfl⟩ | exact Or.inr ⟨_, rfl⟩)) ?_
    refine gm_go.ru (gi_const dJ0_init_db425_29) ?_
    refine gm_go.ru (gm_iload dJ0_init_db425_30 rfl) ?_
    refine gm_go.ru (gm_cS dJ0_init_db425_32 (e1) rfl mt_J7_copyOfRange_39247 ms_J7_copyOfRange_39247 (lk_J0_54 rfl) rfl (Nat.le_of_ble_eq_true rfl) (by decide)) ?_
    refine gm_go.ru (gm_put dJ0_init_db425_35 (fp_J0_9 rfl rfl) g4 (Nat.le_of_ble_eq_true rfl) (by first | exact ⟨rfl, rfl⟩ | exact trivial)) ?_
    refine gm_hp ha3 ?_
    refine gm_go.ru (gm_goto (tgt := 97) dJ0_init_db425_38 (by decide)) ?_
    exact gm_vret dJ0_init_db425_97 rfl
  · rw [ha3]; show (a2.1.set t _)[k]? = _; rw [List.getElem?_set_ne (fun z => h1 z.symm), e6 k hk, ha1]; show (h.1.set t _)[k]? = _; rw [List.getElem?_set_ne (fun z => h1 z.symm)]
set_option maxRecDepth 4000 in
theorem cg_strI {h : gm_H} {s : Nat} {q : Nat × Nat} {G : Nat → Int} {c : Nat} (hS : sbh h s q G c) {t : Nat} (h0 : h.1[t]? = some (.inr (0, [.null, .int 0, .int 0, .int 0]))) (hm : q.2 ≤ 100000) : ∃ h', gm_co mJ0_init_81219 5 [.ref t, .ref s] h (.inl none) h' ∧ st_of h' t h.1.length c G ∧ h'.1.length = h.1.length + 1 ∧ (∀ k, k < h.1.length → k ≠ t → h'.1[k]? = h.1[k]?) ∧ h'.2 = (h.2.1 + 1, h.2.2 + c) := by
  obtain ⟨h', e1, e2⟩ := cg_strI0 hS h0 hm rfl
  refine ⟨h', ?_, e2⟩
  first
  | refine gm_co_of _ (by decide +kernel) rfl (Nat.le_of_ble_eq_true rfl) rfl ?_
  | refine gm_co_ofF _ (by decide +kernel) rfl (Nat.le_of_ble_eq_true rfl) rfl ?_
  refine gm_go.ru (gm_aload_n dJ0_init_81219_0 rfl (by first | exact Or.inl ⟨_, rfl⟩ | exact Or.inr ⟨_, rfl⟩)) ?_
  refine gm_go.ru (gm_aload_n dJ0_init_81219_1 rfl (by first | exact Or.inl ⟨_, rfl⟩ | exact Or.inr ⟨_, rfl⟩)) ?_
  refine gm_go.ru (gm_null dJ0_init_81219_2) ?_
  refine gm_go.ru (gm_cI dJ0_init_81219_3 e1 rfl mt_J0_init_db425 mi_J0_init_db425 (lk_J0_489 rfl) (Or.inl ⟨_, 0, _, _, _, rfl, h0, rfl⟩) rfl (Nat.le_of_ble_eq_true rfl) (by decide)) ?_
  exact gm_vret dJ0_init_81219_6 rfl
set_option maxRecDepth 4000 in
theorem cg_toStr {h : gm_H} {s : Nat} {q : Nat × Nat} {G : Nat → Int} {c : Nat} (hS : sbh h s q G c) (hm : q.2 ≤ 100000) : ∃ h', gm_co mJ4_toString_0e30d 6 [.ref s] h (.inl (some (.ref h.1.length))) h' ∧ st_of h' h.1.length (h.1.length + 1) c G ∧ h'.1.length = h.1.length + 1 + 1 ∧ (∀ k, k < h.1.length → h'.1[k]? = h.1[k]?) ∧ h'.2 = (h.2.1 + 2, h.2.2 + (4 + c)) := by
  obtain ⟨qs, cq, ml, F, c1, c2, cF, cB⟩ := id hS
  have s9 := (List.getElem?_eq_some_iff.mp c1).1
  have b9 := (List.getElem?_eq_some_iff.mp c2).1
  obtain ⟨a1, ha1⟩ : ∃ y9 : gm_H, y9 = (h.1 ++ [.inr (0, [.null, .int 0, .int 0, .int 0])], (h.2.1 + 1, h.2.2 + 4)) := ⟨_, rfl⟩
  have g1 : a1.1[h.1.length]? = some (.inr (0, [.null, .int 0, .int 0, .int 0])) := by rw [ha1]; exact ga_r rfl
  have hS1 : sbh a1 s q G c := ⟨qs, cq, ml, F, by rw [ha1]; exact ga_l c1, by rw [ha1]; exact ga_l c2, cF, cB⟩
  have l1 : a1.1.length = h.1.length + 1 := by rw [ha1]; exact gl_a rfl
  obtain ⟨a2, e1, e2, e3, e4, e5⟩ := cg_strI hS1 g1 hm
  rw [l1] at e2 e3 e4
  refine ⟨a2, ?_, e2, e3, fun k hk => (e4 k (by omega) (by omega)).trans (by rw [ha1]; show (h.1 ++ _)[k]? = _; rw [List.getElem?_append_left hk]), by rw [e5, ha1]; show (h.2.1 + 1 + 1, h.2.2 + 4 + c) = _; rw [Nat.add_assoc]⟩
  refine gm_co_of _ (by decide +kernel) rfl (Nat.le_of_ble_eq_true rfl) rfl ?_
  refine gm_go.ru (gm_new dJ4_toString_0e30d_0 (nc_J4_18 rfl)) ?_
  refine gm_hp ha1 ?_
  refine gm_go.ru (gm_dup dJ4_toString_0e30d_3 rfl) ?_
  refine gm_go.ru (gm_aload_n dJ4_toString_0e30d_4 rfl (by first | exact Or.inl ⟨_, rfl⟩ | exact Or.inr ⟨_, rfl⟩)) ?_
  refine gm_go.ru (gm_cI dJ4_toString_0e30d_5 e1 rfl mt_J0_init_81219 mi_J0_init_81219 (lk_J4_137 rfl) (Or.inl ⟨_, 0, _, _, _, rfl, g1, rfl⟩) rfl (Nat.le_of_ble_eq_true rfl) (by decide)) ?_
  exact gm_aret dJ4_toString_0e30d_8 rfl (by first | exact Or.inl ⟨_, rfl⟩ | exact Or.inr ⟨_, rfl⟩) (by first | exact Or.inl ⟨_, rfl⟩ | exact Or.inr ⟨_, rfl⟩)
set_option maxRecDepth 4000 in
theorem cg_eqB {h : gm_H} {a b c : Nat} {A B : Nat → Int} (ha : h.1[a]? = some (gB c A)) (hb : h.1[b]? = some (gB c B)) (hA : zBy A) (hB : zBy B) (he : ∀ k, k < c → A k = B k) (hc : c ≤ 100000) : gm_co mJ1_equals_b5fdf 1 [.ref a, .ref b] h (.inl (some (.int (zI 1)))) h := by
  have key : ∀ (z j : Nat), j + z = c → gm_ru mJ1_equals_b5fdf 1 (9, [some (.ref a), some (.ref b), some (.int (zI (j : Int)))], [], h) (.inl (some (.int (zI 1)))) h := by
    intro z
    induction z with
    | zero =>
      intro j hj
      refine gm_go.ru (gm_iload_n dJ1_equals_b5fdf_9 rfl) ?_
      refine gm_go.ru (gm_aload_n dJ1_equals_b5fdf_10 rfl (by first | exact Or.inl ⟨_, rfl⟩ | exact Or.inr ⟨_, rfl⟩)) ?_
      refine gm_go.ru (gi_blen dJ1_equals_b5fdf_11 ha) ?_
      refine gm_go.ru (gi_icmp_ge_t (tgt := 32) dJ1_equals_b5fdf_12 (by decide) (by omega) (by omega) (by omega)) ?_
      refine gm_go.ru (gi_const dJ1_equals_b5fdf_32) ?_
      exact gm_zret dJ1_equals_b5fdf_33 rfl (by decide +kernel)
    | succ z ih =>
      intro j hj
      refine gm_go.ru (gm_iload_n dJ1_equals_b5fdf_9 rfl) ?_
      refine gm_go.ru (gm_aload_n dJ1_equals_b5fdf_10 rfl (by first | exact Or.inl ⟨_, rfl⟩ | exact Or.inr ⟨_, rfl⟩)) ?_
      refine gm_go.ru (gi_blen dJ1_equals_b5fdf_11 ha) ?_
      refine gm_go.ru (gi_icmp_ge_f 32 dJ1_equals_b5fdf_12 (by decide) (by omega) (by omega) (by omega)) ?_
      refine gm_go.ru (gm_aload_n dJ1_equals_b5fdf_15 rfl (by first | exact Or.inl ⟨_, rfl⟩ | exact Or.inr ⟨_, rfl⟩)) ?_
      refine gm_go.ru (gm_iload_n dJ1_equals_b5fdf_16 rfl) ?_
      refine gm_go.ru (gi_bald dJ1_equals_b5fdf_17 ha (by omega) (by omega) (by omega)) ?_
      refine gm_go.ru (gm_aload_n dJ1_equals_b5fdf_18 rfl (by first | exact Or.inl ⟨_, rfl⟩ | exact Or.inr ⟨_, rfl⟩)) ?_
      refine gm_go.ru (gm_iload_n dJ1_equals_b5fdf_19 rfl) ?_
      refine gm_go.ru (gi_bald dJ1_equals_b5fdf_20 hb (by omega) (by omega) (by omega)) ?_
      have fa := hA j
      have fb := hB j
      have fe := he j (by omega)
      rw [Int.toNat_natCast]
      refine gm_go.ru (gi_icmp_eq_t (tgt := 26) dJ1_equals_b5fdf_21 (by decide) (by omega) (by omega) fe) ?_
      refine gm_go.ru (gi_iinc (ls' := [_, _, _]) dJ1_equals_b5fdf_26 rfl (by decide) rfl) ?_
      refine gm_go.ru (gm_goto (tgt := 9) dJ1_equals_b5fdf_29 (by decide)) ?_
      exact ih (j + 1) (by omega)
  refine gm_co_of _ (by decide +kernel) rfl (Nat.le_of_ble_eq_true rfl) rfl ?_
  refine gm_go.ru (gm_aload_n dJ1_equals_b5fdf_0 rfl (by first | exact Or.inl ⟨_, rfl⟩ | exact Or.inr ⟨_, rfl⟩)) ?_
  refine gm_go.ru (gi_blen dJ1_equals_b5fdf_1 ha) ?_
  refine gm_go.ru (gm_aload_n dJ1_equals_b5fdf_2 rfl (by first | exact Or.inl ⟨_, rfl⟩ | exact Or.inr ⟨_, rfl⟩)) ?_
  refine gm_go.ru (gi_blen dJ1_equals_b5fdf_3 hb) ?_
  refine gm_go.ru (gi_icmp_ne_f 34 dJ1_equals_b5fdf_4 (by decide) (by omega) (by omega) rfl) ?_
  refine gm_go.ru (gi_const dJ1_equals_b5fdf_7) ?_
  refine gm_go.ru (gm_istore_n (ls' := [_, _, _]) dJ1_equals_b5fdf_8 (by decide) rfl) ?_
  exact key c 0 (by omega)
set_option maxRecDepth 4000 in
theorem cg_equals {h : gm_H} {s b t e c : Nat} {T U : Nat → Int} (hT : st_of h s b c T) (hU : st_of h t e c U) (he : ∀ k, k < c → T k = U k) (hne : s ≠ t) (hc : c ≤ 100000) : gm_co mJ0_equals_9ea2d 2 [.ref s, .ref t] h (.inl (some (.int (zI 1)))) h := by
  obtain ⟨a1, F, a2, a3, a4⟩ := hT
  obtain ⟨b1, E, b2, b3, b4⟩ := hU
  first
  | refine gm_co_of _ (by decide +kernel) rfl (Nat.le_of_ble_eq_true rfl) rfl ?_
  | refine gm_co_ofF _ (by decide +kernel) rfl (Nat.le_of_ble_eq_true rfl) rfl ?_
  refine gm_go.ru (gm_aload_n dJ0_equals_9ea2d_0 rfl (by first | exact Or.inl ⟨_, rfl⟩ | exact Or.inr ⟨_, rfl⟩)) ?_
  refine gm_go.ru (gm_aload_n dJ0_equals_9ea2d_1 rfl (by first | exact Or.inl ⟨_, rfl⟩ | exact Or.inr ⟨_, rfl⟩)) ?_
  refine gm_go.ru (gm_acmp_cells (tgt := 7) dJ0_equals_9ea2d_2 (by decide) hne) ?_
  refine gm_go.ru (gm_aload_n dJ0_equals_9ea2d_7 rfl (by first | exact Or.inl ⟨_, rfl⟩ | exact Or.inr ⟨_, rfl⟩)) ?_
  refine gm_go.ru (gm_inst dJ0_equals_9ea2d_8 (cl_J0_10 rfl) (Or.inl ⟨_, 0, _, _, _, rfl, b1, rfl⟩)) ?_
  refine gm_go.ru (gi_if_eq_f 54 dJ0_equals_9ea2d_11 (by decide) (by decide) (by decide)) ?_
  refine gm_go.ru (gm_aload_n dJ0_equals_9ea2d_14 rfl (by first | exact Or.inl ⟨_, rfl⟩ | exact Or.inr ⟨_, rfl⟩)) ?_
  refine gm_go.ru (gm_ccast dJ0_equals_9ea2d_15 (cl_J0_10 rfl) (Or.inl ⟨_, 0, _, _, _, rfl, b1, rfl⟩) (Or.inl rfl)) ?_
  refine gm_go.ru (gm_astore_n (ls' := [_, _, _]) dJ0_equals_9ea2d_18 (by first | exact Or.inl ⟨_, rfl⟩ | exact Or.inr ⟨_, rfl⟩) (by decide) rfl) ?_
  refine gm_go.ru (gm_gets (v := .int (zI 1)) dJ0_equals_9ea2d_19 (by decide +kernel) (sl_J0_38 rfl) rfl) ?_
  refine gm_go.ru (gi_if_eq_f 36 dJ0_equals_9ea2d_22 (by decide) (by decide) (by decide)) ?_
  refine gm_go.ru (gm_aload_n dJ0_equals_9ea2d_25 rfl (by first | exact Or.inl ⟨_, rfl⟩ | exact Or.inr ⟨_, rfl⟩)) ?_
  refine gm_go.ru (gm_get dJ0_equals_9ea2d_26 (fl_J0_15 rfl) a1 rfl) ?_
  refine gm_go.ru (gm_aload_n dJ0_equals_9ea2d_29 rfl (by first | exact Or.inl ⟨_, rfl⟩ | exact Or.inr ⟨_, rfl⟩)) ?_
  refine gm_go.ru (gm_get dJ0_equals_9ea2d_30 (fl_J0_15 rfl) b1 rfl) ?_
  refine gm_go.ru (gi_icmp_ne_f 54 dJ0_equals_9ea2d_33 (by decide) (by decide) (by decide) rfl) ?_
  refine gm_go.ru (gm_aload_n dJ0_equals_9ea2d_36 rfl (by first | exact Or.inl ⟨_, rfl⟩ | exact Or.inr ⟨_, rfl⟩)) ?_
  refine gm_go.ru (gm_get dJ0_equals_9ea2d_37 (fl_J0_9 rfl) a1 rfl) ?_
  refine gm_go.ru (gm_aload_n dJ0_equals_9ea2d_40 rfl (by first | exact Or.inl ⟨_, rfl⟩ | exact Or.inr ⟨_, rfl⟩)) ?_
  refine gm_go.ru (gm_get dJ0_equals_9ea2d_41 (fl_J0_9 rfl) b1 rfl) ?_
  refine gm_go.ru (gm_cS dJ0_equals_9ea2d_44 (cg_eqB a2 b2 a3 b3 (fun k hk => (a4 k hk).trans ((he k hk).trans (b4 k hk).symm)) hc) rfl mt_J1_equals_b5fdf ms_J1_equals_b5fdf (lk_J0_541 rfl) rfl (Nat.le_of_ble_eq_true rfl) (by decide)) ?_
  refine gm_go.ru (gi_if_eq_f 54 dJ0_equals_9ea2d_47 (by decide) (by decide) (by decide)) ?_
  refine gm_go.ru (gi_const dJ0_equals_9ea2d_50) ?_
  refine gm_go.ru (gm_goto (tgt := 55) dJ0_equals_9ea2d_51 (by decide)) ?_
  exact gm_zret dJ0_equals_9ea2d_55 rfl (by decide +kernel)
