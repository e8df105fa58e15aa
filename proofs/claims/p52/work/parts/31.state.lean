/-! the ordinals of the enums, the switch maps -/
theorem lu_X9_38 {M : gm_M} (h : M.1.cls = RX9) : gm_lu M 38 "NeedleBakery$Change" "java/lang/Enum" ⟨"NeedleBakery$Change", "ordinal", "()I"⟩ mJx29ce0_ordinal_8abf5 := ⟨by rw [h]; exact gm_in (i := 490) (by decide +kernel) (by decide +kernel), gm_in (i := 491) (by decide +kernel) (by decide +kernel), gm_in (i := 493) (by decide +kernel) (by decide +kernel), gm_in (i := 494) (by decide +kernel) (by decide +kernel), rfl, ⟨by decide, by decide⟩, rfl⟩
theorem lu_X10_394 {M : gm_M} (h : M.1.cls = RX10) : gm_lu M 394 "NeedleBakery$Refusal" "java/lang/Enum" ⟨"NeedleBakery$Refusal", "ordinal", "()I"⟩ mJx29ce0_ordinal_8abf5 := ⟨by rw [h]; exact gm_in (i := 563) (by decide +kernel) (by decide +kernel), gm_in (i := 564) (by decide +kernel) (by decide +kernel), gm_in (i := 565) (by decide +kernel) (by decide +kernel), gm_in (i := 494) (by decide +kernel) (by decide +kernel), rfl, ⟨by decide, by decide⟩, rfl⟩
theorem gm_cU {M Y : gm_M} {d d' pc index n : Nat} {ls : List (Option Value)} {st rest As : List Value} {h h' : gm_H} {v rv : Value} {Cn owner : String} {x9 : MethodName} (hd : decode M.2.1 pc = .ok (.invokevirtual index, 3)) (hc : gm_co Y d' (rv :: As) h (.inl (some v)) h') (hst : st = As.reverse ++ rv :: rest) (hY : gm_mt Y n) (hl : gm_lu M index Cn owner x9 Y) (hr : gm_rc h rv Cn) (hn : As.length = n) (hrest : (rest.map fun v => v.category).sum ≤ 8) (hdd : d' < d) : gm_go M d (pc, ls, st, h) (pc + 3, ls, v :: rest, h') := by
  subst hst
  exact gm_call (gm_runU hd hc hY hl hr hn hrest hdd)
theorem ka_b {k : Nat} {ty : FieldType} {l : List Int32} (h : (k, ty, l) ∈ gm_Kb) : (k, ty, l.length, fun j => Value.int (l.getD j 0)) ∈ gm_Ka := List.mem_cons_of_mem _ (List.mem_cons_of_mem _ (List.mem_cons_of_mem _ (List.mem_map.mpr ⟨_, h, rfl⟩)))
theorem gi_ki {M : gm_M} {d pc : Nat} {ls : List (Option Value)} {st : List Value} {h : gm_H} {k w : Nat} {x : Int} (l : List Int32) (hd : decode M.2.1 pc = .ok (.iaload, 1)) (hz : (k, .int, l) ∈ gm_Kb) (hw : w < l.length) (hb : l.length ≤ 2147483647) (hx : l.getD w 0 = zI x) : gm_go M d (pc, ls, .int (zI (w : Int)) :: .retAddr k :: st, h) (pc + 1, ls, .int (zI x) :: st, h) := by
  have h0 : (zI (w : Int)).toNatClampNeg = w := by rw [zI_cl (by omega)]; omega
  have h1 := gm_ki (M := M) (d := d) (ls := ls) (st := st) (h := h) hd (ka_b hz) (zI_in (a := (w : Int)) (by omega) (by omega) hb) rfl
  rw [h0, hx] at h1
  exact h1
theorem zR_ord : ∀ w : Nat, w < 10 → (7 + w, "java/lang/Enum", "ordinal", "I", Value.int (zI (w : Int))) ∈ gm_Kf := by decide +kernel
theorem zR_ord2 : ∀ w : Nat, w < 7 → (w, "java/lang/Enum", "ordinal", "I", Value.int (zI (w : Int))) ∈ gm_Kf := by decide +kernel
set_option maxRecDepth 4000 in
theorem ct_ordC {h : gm_H} {w : Nat} (hw : w < 10) : gm_co mJx29ce0_ordinal_8abf5 1 [.retAddr (7 + w)] h (.inl (some (.int (zI (w : Int))))) h := by
  refine gm_co_of _ (by decide +kernel) rfl (Nat.le_of_ble_eq_true rfl) rfl ?_
  refine gm_go.ru (gm_aload_n dJx29ce0_ordinal_8abf5_0 rfl (by first | exact Or.inl ⟨_, rfl⟩ | exact Or.inr ⟨_, rfl⟩)) ?_
  refine gm_go.ru (gm_getk dJx29ce0_ordinal_8abf5_1 (zR_ord w hw) (sl_Jx29ce0_7 rfl) rfl) ?_
  exact gm_iret dJx29ce0_ordinal_8abf5_4 rfl
set_option maxRecDepth 4000 in
theorem ct_ordR {h : gm_H} {w : Nat} (hw : w < 7) : gm_co mJx29ce0_ordinal_8abf5 1 [.retAddr w] h (.inl (some (.int (zI (w : Int))))) h := by
  refine gm_co_of _ (by decide +kernel) rfl (Nat.le_of_ble_eq_true rfl) rfl ?_
  refine gm_go.ru (gm_aload_n dJx29ce0_ordinal_8abf5_0 rfl (by first | exact Or.inl ⟨_, rfl⟩ | exact Or.inr ⟨_, rfl⟩)) ?_
  refine gm_go.ru (gm_getk dJx29ce0_ordinal_8abf5_1 (zR_ord2 w hw) (sl_Jx29ce0_7 rfl) rfl) ?_
  exact gm_iret dJx29ce0_ordinal_8abf5_4 rfl
/-! State: its nine cells -/
def st_at (h : gm_H) (r : Nat) (v : Nat → Int) : Prop := h.1[r]? = some (.inr (10, [.ref (r + 1), .ref (r + 4)])) ∧ nd_at h (r + 1) v ∧ ov_at h (r + 4) v
def st_K (r : Nat) : Nat → Prop := fun k => r ≤ k ∧ k < r + 9
def st_iv (T : Nat) (v : Nat → Int) : Prop := nd_iv v ∧ ov_iv T v
theorem st_fr {h h' : gm_H} {K : Nat → Prop} {r : Nat} {v : Nat → Int} (f : gh_fr h h' K) (hK : ∀ k, st_K r k → ¬ K k) (hN : st_at h r v) : st_at h' r v :=
  ⟨gh_at f hN.1 (hK r ⟨by omega, by omega⟩), nd_fr f (fun k hk => hK k ⟨by have := hk.1; omega, by have := hk.2; omega⟩) hN.2.1, ov_fr f (fun k hk => hK k ⟨by have := hk.1; omega, by have := hk.2; omega⟩) hN.2.2⟩
theorem nd_cg {h : gm_H} {n : Nat} {v w : Nat → Int} (hN : nd_at h n v) (e : ∀ j, j < 2 ∨ (10 ≤ j ∧ j < 90) → w j = v j) : nd_at h n w := by
  obtain ⟨h1, S, D, h2, h3, h4, h5⟩ := hN
  refine ⟨?_, S, D, h2, h3, fun i hi => by rw [e _ (by omega)]; exact h4 i hi, fun i hi j hj => by rw [e _ (by omega)]; exact h5 i hi j hj⟩
  rw [e 0 (by omega), e 1 (by omega), zG_eq (v := v) 8 (fun i hi => e _ (by omega))]; exact h1
theorem nd_ivcg {v w : Nat → Int} (hv : nd_iv v) (e : ∀ j, j < 2 ∨ (10 ≤ j ∧ j < 90) → w j = v j) : nd_iv w := by
  obtain ⟨a, b, c, d, f, g⟩ := hv
  refine ⟨by rw [e 0 (by omega)]; exact a, by rw [e 1 (by omega)]; exact b, fun i hi => by rw [e _ (by omega)]; exact c i hi, fun i hi => by rw [e _ (by omega)]; exact d i hi, fun i hi j hj => by rw [e _ (by omega)]; exact f i hi j hj, fun i hi hi8 j hj => ?_⟩
  rw [e 0 (by omega)] at hi
  rw [e _ (by omega)]; exact g i hi hi8 j hj
theorem ov_cg {h : gm_H} {r : Nat} {v w : Nat → Int} (hN : ov_at h r v) (e : ∀ j, (2 ≤ j ∧ j < 9) ∨ 90 ≤ j → w j = v j) : ov_at h r w := by
  obtain ⟨h1, I, M, D, W, h2, h3, h4, h5, h6⟩ := hN
  refine ⟨?_, I, M, D, W, h2, h3, h4, h5, fun k hk => ?_⟩
  · rw [e 2 (by omega), e 3 (by omega), e 4 (by omega), e 5 (by omega), e 6 (by omega), e 7 (by omega), e 8 (by omega)]; exact h1
  · rw [e 4 (by omega)] at hk
    rw [e (90 + 4 * k) (by omega), e (91 + 4 * k) (by omega), e (92 + 4 * k) (by omega), e (93 + 4 * k) (by omega)]; exact h6 k hk
theorem ov_ivcg {T : Nat} {v w : Nat → Int} (hv : ov_iv T v) (e : ∀ j, (2 ≤ j ∧ j < 9) ∨ 90 ≤ j → w j = v j) : ov_iv T w := by
  obtain ⟨a, b, c, d, f, g, i, t, q⟩ := hv
  refine ⟨by rw [e 2 (by omega)]; exact a, by rw [e 3 (by omega)]; exact b, by rw [e 4 (by omega)]; exact c, by rw [e 5 (by omega)]; exact d, by rw [e 6 (by omega)]; exact f, by rw [e 7 (by omega)]; exact g, by rw [e 8 (by omega)]; exact i, t, fun k hk => ?_⟩
  rw [e 4 (by omega)] at hk
  rw [e 3 (by omega), e (90 + 4 * k) (by omega), e (91 + 4 * k) (by omega), e (92 + 4 * k) (by omega), e (93 + 4 * k) (by omega)]; exact q k hk
/-- why not: the commands by their numbers -/
def zqWhy (v : Nat → Int) (w : Nat) (a b c : Int) : Nat :=
  match w with
  | 0 => zqAdd v a
  | 1 => zqPut v a b c
  | 2 => zqShift v a b
  | 3 => zqCorrect v a
  | 4 => zqDiscard v a
  | 5 => if a < 0 ∨ 20 < a then 2 else 0
  | 6 => zqBatch v a b c
  | 7 => if zFind v a < 0 then 6 else 0
  | 8 => if zFind v a < 0 then 6 else 0
  | _ => if a < 1 ∨ 60 < a then 2 else 0
/-- the state after a command that may be done -/
def zDo (v : Nat → Int) (w : Nat) (a b c : Int) : Nat → Int :=
  match w with
  | 0 => zAdd v a
  | 1 => zU v (12 + 10 * a.toNat + b.toNat) c
  | 2 => zMv v a.toNat b 8
  | 3 => zMv v a.toNat (zSS v a.toNat) 8
  | 4 => zU v (11 + 10 * a.toNat) 1
  | 5 => zU v 1 a
  | 6 => zAddB v a b c
  | 7 => zOutB v (zFind v a).toNat
  | 8 => zBake v (zFind v a).toNat
  | _ => zU v 2 (v 2 + a)
/-- its answer -/
def zAn (v : Nat → Int) (w : Nat) (a b c : Int) : Int :=
  match w with
  | 0 => v 0
  | 1 => v (12 + 10 * a.toNat + b.toNat)
  | 2 => zE (zMv v a.toNat b 8) a.toNat 0
  | 3 => zSS v a.toNat
  | 4 => ((zPC (zG (zU v (11 + 10 * a.toNat) 1) 8) : Nat) : Int)
  | 5 => ((zNW (zU v 1 a) (v 0).toNat : Nat) : Int)
  | 6 => v 3
  | 7 => v 4 - 1
  | 8 => zLt v (zFind v a).toNat (v 2)
  | _ => v 2 + a
def swC : List Int32 := [1, 2, 3, 4, 5, 6, 7, 8, 9, 0]
set_option maxRecDepth 4000 in
theorem ct_why0 {h : gm_H} {r T : Nat} {v : Nat → Int} {a b c : Int} (hS : st_at h r v) (hv : st_iv T v) (ha : zR a) (hb : zR b) (hc : zR c) : gm_co mX9_whyNot 6 [.ref r, .retAddr (7 + 0), .int (zI a), .int (zI b), .int (zI c)] h (.inl (some (.retAddr (zqWhy v 0 a b c)))) h := by
  refine gm_co_of _ (by decide +kernel) rfl (Nat.le_of_ble_eq_true rfl) rfl ?_
  obtain ⟨h0, hN, hO⟩ := id hS
  obtain ⟨h1, h2⟩ := id hN
  obtain ⟨o1, o2⟩ := id hO
  refine gm_go.ru (gm_gets (v := .retAddr 18) dX9_whyNot_0 (by decide +kernel) (sl_X9_32 rfl) rfl) ?_
  refine gm_go.ru (gm_aload_n dX9_whyNot_3 rfl (by first | exact Or.inl ⟨_, rfl⟩ | exact Or.inr ⟨_, rfl⟩)) ?_
  refine gm_go.ru (gm_cU dX9_whyNot_4 (ct_ordC (w := 0) (by decide)) rfl mt_Jx29ce0_ordinal_8abf5 (lu_X9_38 rfl) (Or.inr ⟨_, rfl, by decide +kernel⟩) rfl (Nat.le_of_ble_eq_true rfl) (by decide)) ?_
  refine gm_go.ru (gi_ki (w := 0) (x := 1) swC dX9_whyNot_7 (by decide +kernel) (by decide) (by decide) rfl) ?_
  refine gm_go.ru (gm_tabIn (tgt := 60) dX9_whyNot_8 (by decide +kernel) (by decide +kernel) rfl (by decide)) ?_
  refine gm_go.ru (gm_aload_n dX9_whyNot_60 rfl (by first | exact Or.inl ⟨_, rfl⟩ | exact Or.inr ⟨_, rfl⟩)) ?_
  refine gm_go.ru (gm_get dX9_whyNot_61 (fl_X9_12 rfl) (by assumption) rfl) ?_
  refine gm_go.ru (gm_iload_n dX9_whyNot_64 rfl) ?_
  refine gm_go.ru (gm_cV dX9_whyNot_65 (ct_whyNotAdd hN hv.1 ha) rfl mt_X3_whyNotAdd mv_X3_whyNotAdd (lk_X9_44 rfl) (Or.inl ⟨_, 5, _, _, _, rfl, (by assumption), rfl⟩) rfl (Nat.le_of_ble_eq_true rfl) (by decide)) ?_
  exact gm_kret dX9_whyNot_68 rfl rfl
set_option maxRecDepth 4000 in
theorem ct_why1 {h : gm_H} {r T : Nat} {v : Nat → Int} {a b c : Int} (hS : st_at h r v) (hv : st_iv T v) (ha : zR a) (hb : zR b) (hc : zR c) : gm_co mX9_whyNot 6 [.ref r, .retAddr (7 + 1), .int (zI a), .int (zI b), .int (zI c)] h (.inl (some (.retAddr (zqWhy v 1 a b c)))) h := by
  refine gm_co_of _ (by decide +kernel) rfl (Nat.le_of_ble_eq_true rfl) rfl ?_
  obtain ⟨h0, hN, hO⟩ := id hS
  obtain ⟨h1, h2⟩ := id hN
  obtain ⟨o1, o2⟩ := id hO
  refine gm_go.ru (gm_gets (v := .retAddr 18) dX9_whyNot_0 (by decide +kernel) (sl_X9_32 rfl) rfl) ?_
  refine gm_go.ru (gm_aload_n dX9_whyNot_3 rfl (by first | exact Or.inl ⟨_, rfl⟩ | exact Or.inr ⟨_, rfl⟩)) ?_
  refine gm_go.ru (gm_cU dX9_whyNot_4 (ct_ordC (w := 1) (by decide)) rfl mt_Jx29ce0_ordinal_8abf5 (lu_X9_38 rfl) (Or.inr ⟨_, rfl, by decide +kernel⟩) rfl (Nat.le_of_ble_eq_true rfl) (by decide)) ?_
  refine gm_go.ru (gi_ki (w := 1) (x := 2) swC dX9_whyNot_7 (by decide +kernel) (by decide) (by decide) rfl) ?_
  refine gm_go.ru (gm_tabIn (tgt := 69) dX9_whyNot_8 (by decide +kernel) (by decide +kernel) rfl (by decide)) ?_
  refine gm_go.ru (gm_aload_n dX9_whyNot_69 rfl (by first | exact Or.inl ⟨_, rfl⟩ | exact Or.inr ⟨_, rfl⟩)) ?_
  refine gm_go.ru (gm_get dX9_whyNot_70 (fl_X9_12 rfl) (by assumption) rfl) ?_
  refine gm_go.ru (gm_iload_n dX9_whyNot_73 rfl) ?_
  refine gm_go.ru (gm_iload_n dX9_whyNot_74 rfl) ?_
  refine gm_go.ru (gm_iload dX9_whyNot_75 rfl) ?_
  refine gm_go.ru (gm_cV dX9_whyNot_77 (ct_whyNotPut hN hv.1 ha hb hc) rfl mt_X3_whyNotPut mv_X3_whyNotPut (lk_X9_48 rfl) (Or.inl ⟨_, 5, _, _, _, rfl, (by assumption), rfl⟩) rfl (Nat.le_of_ble_eq_true rfl) (by decide)) ?_
  exact gm_kret dX9_whyNot_80 rfl rfl
set_option maxRecDepth 4000 in
theorem ct_why2 {h : gm_H} {r T : Nat} {v : Nat → Int} {a b c : Int} (hS : st_at h r v) (hv : st_iv T v) (ha : zR a) (hb : zR b) (hc : zR c) : gm_co mX9_whyNot 6 [.ref r, .retAddr (7 + 2), .int (zI a), .int (zI b), .int (zI c)] h (.inl (some (.retAddr (zqWhy v 2 a b c)))) h := by
  refine gm_co_of _ (by decide +kernel) rfl (Nat.le_of_ble_eq_true rfl) rfl ?_
  obtain ⟨h0, hN, hO⟩ := id hS
  obtain ⟨h1, h2⟩ := id hN
  obtain ⟨o1, o2⟩ := id hO
  refine gm_go.ru (gm_gets (v := .retAddr 18) dX9_whyNot_0 (by decide +kernel) (sl_X9_32 rfl) rfl) ?_
  refine gm_go.ru (gm_aload_n dX9_whyNot_3 rfl (by first | exact Or.inl ⟨_, rfl⟩ | exact Or.inr ⟨_, rfl⟩)) ?_
  refine gm_go.ru (gm_cU dX9_whyNot_4 (ct_ordC (w := 2) (by decide)) rfl mt_Jx29ce0_ordinal_8abf5 (lu_X9_38 rfl) (Or.inr ⟨_, rfl, by decide +kernel⟩) rfl (Nat.le_of_ble_eq_true rfl) (by decide)) ?_
  refine gm_go.ru (gi_ki (w := 2) (x := 3) swC dX9_whyNot_7 (by decide +kernel) (by decide) (by decide) rfl) ?_
  refine gm_go.ru (gm_tabIn (tgt := 81) dX9_whyNot_8 (by decide +kernel) (by decide +kernel) rfl (by decide)) ?_
  refine gm_go.ru (gm_aload_n dX9_whyNot_81 rfl (by first | exact Or.inl ⟨_, rfl⟩ | exact Or.inr ⟨_, rfl⟩)) ?_
  refine gm_go.ru (gm_get dX9_whyNot_82 (fl_X9_12 rfl) (by assumption) rfl) ?_
  refine gm_go.ru (gm_iload_n dX9_whyNot_85 rfl) ?_
  refine gm_go.ru (gm_iload_n dX9_whyNot_86 rfl) ?_
  refine gm_go.ru (gm_cV dX9_whyNot_87 (ct_whyNotShift hN hv.1 ha hb) rfl mt_X3_whyNotShift mv_X3_whyNotShift (lk_X9_52 rfl) (Or.inl ⟨_, 5, _, _, _, rfl, (by assumption), rfl⟩) rfl (Nat.le_of_ble_eq_true rfl) (by decide)) ?_
  exact gm_kret dX9_whyNot_90 rfl rfl
set_option maxRecDepth 4000 in
theorem ct_why3 {h : gm_H} {r T : Nat} {v : Nat → Int} {a b c : Int} (hS : st_at h r v) (hv : st_iv T v) (ha : zR a) (hb : zR b) (hc : zR c) : gm_co mX9_whyNot 6 [.ref r, .retAddr (7 + 3), .int (zI a), .int (zI b), .int (zI c)] h (.inl (some (.retAddr (zqWhy v 3 a b c)))) h := by
  refine gm_co_of _ (by decide +kernel) rfl (Nat.le_of_ble_eq_true rfl) rfl ?_
  obtain ⟨h0, hN, hO⟩ := id hS
  obtain ⟨h1, h2⟩ := id hN
  obtain ⟨o1, o2⟩ := id hO
  refine gm_go.ru (gm_gets (v := .retAddr 18) dX9_whyNot_0 (by decide +kernel) (sl_X9_32 rfl) rfl) ?_
  refine gm_go.ru (gm_aload_n dX9_whyNot_3 rfl (by first | exact Or.inl ⟨_, rfl⟩ | exact Or.inr ⟨_, rfl⟩)) ?_
  refine gm_go.ru (gm_cU dX9_whyNot_4 (ct_ordC (w := 3) (by decide)) rfl mt_Jx29ce0_ordinal_8abf5 (lu_X9_38 rfl) (Or.inr ⟨_, rfl, by decide +kernel⟩) rfl (Nat.le_of_ble_eq_true rfl) (by decide)) ?_
  refine gm_go.ru (gi_ki (w := 3) (x := 4) swC dX9_whyNot_7 (by decide +kernel) (by decide) (by decide) rfl) ?_
  refine gm_go.ru (gm_tabIn (tgt := 91) dX9_whyNot_8 (by decide +kernel) (by decide +kernel) rfl (by decide)) ?_
  refine gm_go.ru (gm_aload_n dX9_whyNot_91 rfl (by first | exact Or.inl ⟨_, rfl⟩ | exact Or.inr ⟨_, rfl⟩)) ?_
  refine gm_go.ru (gm_get dX9_whyNot_92 (fl_X9_12 rfl) (by assumption) rfl) ?_
  refine gm_go.ru (gm_iload_n dX9_whyNot_95 rfl) ?_
  refine gm_go.ru (gm_cV dX9_whyNot_96 (ct_whyNotCorrect hN hv.1 ha) rfl mt_X3_whyNotCorrect mv_X3_whyNotCorrect (lk_X9_56 rfl) (Or.inl ⟨_, 5, _, _, _, rfl, (by assumption), rfl⟩) rfl (Nat.le_of_ble_eq_true rfl) (by decide)) ?_
  exact gm_kret dX9_whyNot_99 rfl rfl
set_option maxRecDepth 4000 in
theorem ct_why4 {h : gm_H} {r T : Nat} {v : Nat → Int} {a b c : Int} (hS : st_at h r v) (hv : st_iv T v) (ha : zR a) (hb : zR b) (hc : zR c) : gm_co mX9_whyNot 6 [.ref r, .retAddr (7 + 4), .int (zI a), .int (zI b), .int (zI c)] h (.inl (some (.retAddr (zqWhy v 4 a b c)))) h := by
  refine gm_co_of _ (by decide +kernel) rfl (Nat.le_of_ble_eq_true rfl) rfl ?_
  obtain ⟨h0, hN, hO⟩ := id hS
  obtain ⟨h1, h2⟩ := id hN
  obtain ⟨o1, o2⟩ := id hO
  refine gm_go.ru (gm_gets (v := .retAddr 18) dX9_whyNot_0 (by decide +kernel) (sl_X9_32 rfl) rfl) ?_
  refine gm_go.ru (gm_aload_n dX9_whyNot_3 rfl (by first | exact Or.inl ⟨_, rfl⟩ | exact Or.inr ⟨_, rfl⟩)) ?_
  refine gm_go.ru (gm_cU dX9_whyNot_4 (ct_ordC (w := 4) (by decide)) rfl mt_Jx29ce0_ordinal_8abf5 (lu_X9_38 rfl) (Or.inr ⟨_, rfl, by decide +kernel⟩) rfl (Nat.le_of_ble_eq_true rfl) (by decide)) ?_
  refine gm_go.ru (gi_ki (w := 4) (x := 5) swC dX9_whyNot_7 (by decide +kernel) (by decide) (by decide) rfl) ?_
  refine gm_go.ru (gm_tabIn (tgt := 100) dX9_whyNot_8 (by decide +kernel) (by decide +kernel) rfl (by decide)) ?_
  refine gm_go.ru (gm_aload_n dX9_whyNot_100 rfl (by first | exact Or.inl ⟨_, rfl⟩ | exact Or.inr ⟨_, rfl⟩)) ?_
  refine gm_go.ru (gm_get dX9_whyNot_101 (fl_X9_12 rfl) (by assumption) rfl) ?_
  refine gm_go.ru (gm_iload_n dX9_whyNot_104 rfl) ?_
  refine gm_go.ru (gm_cV dX9_whyNot_105 (ct_whyNotThrowOut hN hv.1 ha) rfl mt_X3_whyNotThrowOut mv_X3_whyNotThrowOut (lk_X9_59 rfl) (Or.inl ⟨_, 5, _, _, _, rfl, (by assumption), rfl⟩) rfl (Nat.le_of_ble_eq_true rfl) (by decide)) ?_
  exact gm_kret dX9_whyNot_108 rfl rfl
set_option maxRecDepth 4000 in
theorem ct_why5 {h : gm_H} {r T : Nat} {v : Nat → Int} {a b c : Int} (hS : st_at h r v) (hv : st_iv T v) (ha : zR a) (hb : zR b) (hc : zR c) : gm_co mX9_whyNot 6 [.ref r, .retAddr (7 + 5), .int (zI a), .int (zI b), .int (zI c)] h (.inl (some (.retAddr (zqWhy v 5 a b c)))) h := by
  refine gm_co_of _ (by decide +kernel) rfl (Nat.le_of_ble_eq_true rfl) rfl ?_
  obtain ⟨h0, hN, hO⟩ := id hS
  obtain ⟨h1, h2⟩ := id hN
  obtain ⟨o1, o2⟩ := id hO
  refine gm_go.ru (gm_gets (v := .retAddr 18) dX9_whyNot_0 (by decide +kernel) (sl_X9_32 rfl) rfl) ?_
  refine gm_go.ru (gm_aload_n dX9_whyNot_3 rfl (by first | exact Or.inl ⟨_, rfl⟩ | exact Or.inr ⟨_, rfl⟩)) ?_
  refine gm_go.ru (gm_cU dX9_whyNot_4 (ct_ordC (w := 5) (by decide)) rfl mt_Jx29ce0_ordinal_8abf5 (lu_X9_38 rfl) (Or.inr ⟨_, rfl, by decide +kernel⟩) rfl (Nat.le_of_ble_eq_true rfl) (by decide)) ?_
  refine gm_go.ru (gi_ki (w := 5) (x := 6) swC dX9_whyNot_7 (by decide +kernel) (by decide) (by decide) rfl) ?_
  refine gm_go.ru (gm_tabIn (tgt := 109) dX9_whyNot_8 (by decide +kernel) (by decide +kernel) rfl (by decide)) ?_
  refine gm_go.ru (gm_iload_n dX9_whyNot_109 rfl) ?_
  refine gm_go.ru (gi_const dX9_whyNot_110) ?_
  refine gm_go.ru (gi_bipush dX9_whyNot_111 (by decide +kernel)) ?_
  refine gm_go.ru (gm_cS dX9_whyNot_113 (ct_outside (by omega) (by omega) (by omega)) rfl mt_X10_outside ms_X10_outside (lk_X9_62 rfl) rfl (Nat.le_of_ble_eq_true rfl) (by decide)) ?_
  by_cases q : a < 0 ∨ 20 < a
  ·
    rw [zB_t q]
    refine gm_go.ru (gi_if_eq_f 125 dX9_whyNot_116 (by decide) (by decide) (by decide)) ?_
    refine gm_go.ru (gm_gets (v := .retAddr 2) dX9_whyNot_119 (by decide +kernel) (sl_X9_66 rfl) rfl) ?_
    refine gm_go.ru (gm_goto (tgt := 128) dX9_whyNot_122 (by decide)) ?_
    exact gm_kret dX9_whyNot_128 rfl (by unfold zqWhy; exact (if_pos q).symm)
  ·
    rw [zB_f q]
    refine gm_go.ru (gi_if_eq_t (tgt := 125) dX9_whyNot_116 (by decide) (by decide) (by decide)) ?_
    refine gm_go.ru (gm_gets (v := .retAddr 0) dX9_whyNot_125 (by decide +kernel) (sl_X9_72 rfl) rfl) ?_
    exact gm_kret dX9_whyNot_128 rfl (by unfold zqWhy; exact (if_neg q).symm)
set_option maxRecDepth 4000 in
theorem ct_why6 {h : gm_H} {r T : Nat} {v : Nat → Int} {a b c : Int} (hS : st_at h r v) (hv : st_iv T v) (ha : zR a) (hb : zR b) (hc : zR c) : gm_co mX9_whyNot 6 [.ref r, .retAddr (7 + 6), .int (zI a), .int (zI b), .int (zI c)] h (.inl (some (.retAddr (zqWhy v 6 a b c)))) h := by
  refine gm_co_of _ (by decide +kernel) rfl (Nat.le_of_ble_eq_true rfl) rfl ?_
  obtain ⟨h0, hN, hO⟩ := id hS
  obtain ⟨h1, h2⟩ := id hN
  obtain ⟨o1, o2⟩ := id hO
  refine gm_go.ru (gm_gets (v := .retAddr 18) dX9_whyNot_0 (by decide +kernel) (sl_X9_32 rfl) rfl) ?_
  refine gm_go.ru (gm_aload_n dX9_whyNot_3 rfl (by first | exact Or.inl ⟨_, rfl⟩ | exact Or.inr ⟨_, rfl⟩)) ?_
  refine gm_go.ru (gm_cU dX9_whyNot_4 (ct_ordC (w := 6) (by decide)) rfl mt_Jx29ce0_ordinal_8abf5 (lu_X9_38 rfl) (Or.inr ⟨_, rfl, by decide +kernel⟩) rfl (Nat.le_of_ble_eq_true rfl) (by decide)) ?_
  refine gm_go.ru (gi_ki (w := 6) (x := 7) swC dX9_whyNot_7 (by decide +kernel) (by decide) (by decide) rfl) ?_
  refine gm_go.ru (gm_tabIn (tgt := 129) dX9_whyNot_8 (by decide +kernel) (by decide +kernel) rfl (by decide)) ?_
  refine gm_go.ru (gm_aload_n dX9_whyNot_129 rfl (by first | exact Or.inl ⟨_, rfl⟩ | exact Or.inr ⟨_, rfl⟩)) ?_
  refine gm_go.ru (gm_get dX9_whyNot_130 (fl_X9_21 rfl) (by assumption) rfl) ?_
  refine gm_go.ru (gm_iload_n dX9_whyNot_133 rfl) ?_
  refine gm_go.ru (gm_iload_n dX9_whyNot_134 rfl) ?_
  refine gm_go.ru (gm_iload dX9_whyNot_135 rfl) ?_
  refine gm_go.ru (gm_cV dX9_whyNot_137 (ct_ovWhyNotAdd hO hv.2 ha hb hc) rfl mt_X5_whyNotAdd mv_X5_whyNotAdd (lk_X9_75 rfl) (Or.inl ⟨_, 7, _, _, _, rfl, (by assumption), rfl⟩) rfl (Nat.le_of_ble_eq_true rfl) (by decide)) ?_
  exact gm_kret dX9_whyNot_140 rfl rfl
set_option maxRecDepth 4000 in
theorem ct_why7 {h : gm_H} {r T : Nat} {v : Nat → Int} {a b c : Int} (hS : st_at h r v) (hv : st_iv T v) (ha : zR a) (hb : zR b) (hc : zR c) : gm_co mX9_whyNot 6 [.ref r, .retAddr (7 + 7), .int (zI a), .int (zI b), .int (zI c)] h (.inl (some (.retAddr (zqWhy v 7 a b c)))) h := by
  refine gm_co_of _ (by decide +kernel) rfl (Nat.le_of_ble_eq_true rfl) rfl ?_
  obtain ⟨h0, hN, hO⟩ := id hS
  obtain ⟨h1, h2⟩ := id hN
  obtain ⟨o1, o2⟩ := id hO
  refine gm_go.ru (gm_gets (v := .retAddr 18) dX9_whyNot_0 (by decide +kernel) (sl_X9_32 rfl) rfl) ?_
  refine gm_go.ru (gm_aload_n dX9_whyNot_3 rfl (by first | exact Or.inl ⟨_, rfl⟩ | exact Or.inr ⟨_, rfl⟩)) ?_
  refine gm_go.ru (gm_cU dX9_whyNot_4 (ct_ordC (w := 7) (by decide)) rfl mt_Jx29ce0_ordinal_8abf5 (lu_X9_38 rfl) (Or.inr ⟨_, rfl, by decide +kernel⟩) rfl (Nat.le_of_ble_eq_true rfl) (by decide)) ?_
  refine gm_go.ru (gi_ki (w := 7) (x := 8) swC dX9_whyNot_7 (by decide +kernel) (by decide) (by decide) rfl) ?_
  refine gm_go.ru (gm_tabIn (tgt := 141) dX9_whyNot_8 (by decide +kernel) (by decide +kernel) rfl (by decide)) ?_
  refine gm_go.ru (gm_aload_n dX9_whyNot_141 rfl (by first | exact Or.inl ⟨_, rfl⟩ | exact Or.inr ⟨_, rfl⟩)) ?_
  refine gm_go.ru (gm_get dX9_whyNot_142 (fl_X9_21 rfl) (by assumption) rfl) ?_
  refine gm_go.ru (gm_iload_n dX9_whyNot_145 rfl) ?_
  refine gm_go.ru (gm_cV dX9_whyNot_146 (ct_placeOf hO hv.2 ha) rfl mt_X5_placeOf mv_X5_placeOf (lk_X9_77 rfl) (Or.inl ⟨_, 7, _, _, _, rfl, (by assumption), rfl⟩) rfl (Nat.le_of_ble_eq_true rfl) (by decide)) ?_
  have hz := zFind_r hv.2 a
  have q4 := hv.2.2.2.1
  by_cases q : zFind v a < 0
  ·
    refine gm_go.ru (gi_if_ge_f 158 dX9_whyNot_149 (by decide) (by omega) (by omega)) ?_
    refine gm_go.ru (gm_gets (v := .retAddr 6) dX9_whyNot_152 (by decide +kernel) (sl_X9_81 rfl) rfl) ?_
    refine gm_go.ru (gm_goto (tgt := 161) dX9_whyNot_155 (by decide)) ?_
    exact gm_kret dX9_whyNot_161 rfl (by unfold zqWhy; exact (if_pos q).symm)
  ·
    refine gm_go.ru (gi_if_ge_t (tgt := 158) dX9_whyNot_149 (by decide) (by omega) (by omega)) ?_
    refine gm_go.ru (gm_gets (v := .retAddr 0) dX9_whyNot_158 (by decide +kernel) (sl_X9_72 rfl) rfl) ?_
    exact gm_kret dX9_whyNot_161 rfl (by unfold zqWhy; exact (if_neg q).symm)
set_option maxRecDepth 4000 in
theorem ct_why8 {h : gm_H} {r T : Nat} {v : Nat → Int} {a b c : Int} (hS : st_at h r v) (hv : st_iv T v) (ha : zR a) (hb : zR b) (hc : zR c) : gm_co mX9_whyNot 6 [.ref r, .retAddr (7 + 8), .int (zI a), .int (zI b), .int (zI c)] h (.inl (some (.retAddr (zqWhy v 8 a b c)))) h := by
  refine gm_co_of _ (by decide +kernel) rfl (Nat.le_of_ble_eq_true rfl) rfl ?_
  obtain ⟨h0, hN, hO⟩ := id hS
  obtain ⟨h1, h2⟩ := id hN
  obtain ⟨o1, o2⟩ := id hO
  refine gm_go.ru (gm_gets (v := .retAddr 18) dX9_whyNot_0 (by decide +kernel) (sl_X9_32 rfl) rfl) ?_
  refine gm_go.ru (gm_aload_n dX9_whyNot_3 rfl (by first | exact Or.inl ⟨_, rfl⟩ | exact Or.inr ⟨_, rfl⟩)) ?_
  refine gm_go.ru (gm_cU dX9_whyNot_4 (ct_ordC (w := 8) (by decide)) rfl mt_Jx29ce0_ordinal_8abf5 (lu_X9_38 rfl) (Or.inr ⟨_, rfl, by decide +kernel⟩) rfl (Nat.le_of_ble_eq_true rfl) (by decide)) ?_
  refine gm_go.ru (gi_ki (w := 8) (x := 9) swC dX9_whyNot_7 (by decide +kernel) (by decide) (by decide) rfl) ?_
  refine gm_go.ru (gm_tabIn (tgt := 141) dX9_whyNot_8 (by decide +kernel) (by decide +kernel) rfl (by decide)) ?_
  refine gm_go.ru (gm_aload_n dX9_whyNot_141 rfl (by first | exact Or.inl ⟨_, rfl⟩ | exact Or.inr ⟨_, rfl⟩)) ?_
  refine gm_go.ru (gm_get dX9_whyNot_142 (fl_X9_21 rfl) (by assumption) rfl) ?_
  refine gm_go.ru (gm_iload_n dX9_whyNot_145 rfl) ?_
  refine gm_go.ru (gm_cV dX9_whyNot_146 (ct_placeOf hO hv.2 ha) rfl mt_X5_placeOf mv_X5_placeOf (lk_X9_77 rfl) (Or.inl ⟨_, 7, _, _, _, rfl, (by assumption), rfl⟩) rfl (Nat.le_of_ble_eq_true rfl) (by decide)) ?_
  have hz := zFind_r hv.2 a
  have q4 := hv.2.2.2.1
  by_cases q : zFind v a < 0
  ·
    refine gm_go.ru (gi_if_ge_f 158 dX9_whyNot_149 (by decide) (by omega) (by omega)) ?_
    refine gm_go.ru (gm_gets (v := .retAddr 6) dX9_whyNot_152 (by decide +kernel) (sl_X9_81 rfl) rfl) ?_
    refine gm_go.ru (gm_goto (tgt := 161) dX9_whyNot_155 (by decide)) ?_
    exact gm_kret dX9_whyNot_161 rfl (by unfold zqWhy; exact (if_pos q).symm)
  ·
    refine gm_go.ru (gi_if_ge_t (tgt := 158) dX9_whyNot_149 (by decide) (by omega) (by omega)) ?_
    refine gm_go.ru (gm_gets (v := .retAddr 0) dX9_whyNot_158 (by decide +kernel) (sl_X9_72 rfl) rfl) ?_
    exact gm_kret dX9_whyNot_161 rfl (by unfold zqWhy; exact (if_neg q).symm)
set_option maxRecDepth 4000 in
theorem ct_why9 {h : gm_H} {r T : Nat} {v : Nat → Int} {a b c : Int} (hS : st_at h r v) (hv : st_iv T v) (ha : zR a) (hb : zR b) (hc : zR c) : gm_co mX9_whyNot 6 [.ref r, .retAddr (7 + 9), .int (zI a), .int (zI b), .int (zI c)] h (.inl (some (.retAddr (zqWhy v 9 a b c)))) h := by
  refine gm_co_of _ (by decide +kernel) rfl (Nat.le_of_ble_eq_true rfl) rfl ?_
  obtain ⟨h0, hN, hO⟩ := id hS
  obtain ⟨h1, h2⟩ := id hN
  obtain ⟨o1, o2⟩ := id hO
  refine gm_go.ru (gm_gets (v := .retAddr 18) dX9_whyNot_0 (by decide +kernel) (sl_X9_32 rfl) rfl) ?_
  refine gm_go.ru (gm_aload_n dX9_whyNot_3 rfl (by first | exact Or.inl ⟨_, rfl⟩ | exact Or.inr ⟨_, rfl⟩)) ?_
  refine gm_go.ru (gm_cU dX9_whyNot_4 (ct_ordC (w := 9) (by decide)) rfl mt_Jx29ce0_ordinal_8abf5 (lu_X9_38 rfl) (Or.inr ⟨_, rfl, by decide +kernel⟩) rfl (Nat.le_of_ble_eq_true rfl) (by decide)) ?_
  refine gm_go.ru (gi_ki (w := 9) (x := 0) swC dX9_whyNot_7 (by decide +kernel) (by decide) (by decide) rfl) ?_
  refine gm_go.ru (gm_tabOut (tgt := 162) dX9_whyNot_8 (by decide +kernel) (by decide)) ?_
  refine gm_go.ru (gm_iload_n dX9_whyNot_162 rfl) ?_
  refine gm_go.ru (gi_const dX9_whyNot_163) ?_
  refine gm_go.ru (gi_bipush dX9_whyNot_164 (by decide +kernel)) ?_
  refine gm_go.ru (gm_cS dX9_whyNot_166 (ct_outside (by omega) (by omega) (by omega)) rfl mt_X10_outside ms_X10_outside (lk_X9_62 rfl) rfl (Nat.le_of_ble_eq_true rfl) (by decide)) ?_
  by_cases q : a < 1 ∨ 60 < a
  ·
    rw [zB_t q]
    refine gm_go.ru (gi_if_eq_f 178 dX9_whyNot_169 (by decide) (by decide) (by decide)) ?_
    refine gm_go.ru (gm_gets (v := .retAddr 2) dX9_whyNot_172 (by decide +kernel) (sl_X9_66 rfl) rfl) ?_
    refine gm_go.ru (gm_goto (tgt := 181) dX9_whyNot_175 (by decide)) ?_
    exact gm_kret dX9_whyNot_181 rfl (by unfold zqWhy; exact (if_pos q).symm)
  ·
    rw [zB_f q]
    refine gm_go.ru (gi_if_eq_t (tgt := 178) dX9_whyNot_169 (by decide) (by decide) (by decide)) ?_
    refine gm_go.ru (gm_gets (v := .retAddr 0) dX9_whyNot_178 (by decide +kernel) (sl_X9_72 rfl) rfl) ?_
    exact gm_kret dX9_whyNot_181 rfl (by unfold zqWhy; exact (if_neg q).symm)
theorem ct_whyNot {h : gm_H} {r T : Nat} {v : Nat → Int} {a b c : Int} (hS : st_at h r v) (hv : st_iv T v) (ha : zR a) (hb : zR b) (hc : zR c) {w : Nat} (hw : w < 10) : gm_co mX9_whyNot 6 [.ref r, .retAddr (7 + w), .int (zI a), .int (zI b), .int (zI c)] h (.inl (some (.retAddr (zqWhy v w a b c)))) h := by
  match w, hw with
  | 0, _ => exact ct_why0 hS hv ha hb hc
  | 1, _ => exact ct_why1 hS hv ha hb hc
  | 2, _ => exact ct_why2 hS hv ha hb hc
  | 3, _ => exact ct_why3 hS hv ha hb hc
  | 4, _ => exact ct_why4 hS hv ha hb hc
  | 5, _ => exact ct_why5 hS hv ha hb hc
  | 6, _ => exact ct_why6 hS hv ha hb hc
  | 7, _ => exact ct_why7 hS hv ha hb hc
  | 8, _ => exact ct_why8 hS hv ha hb hc
  | 9, _ => exact ct_why9 hS hv ha hb hc
theorem st_nd {h h' : gm_H} {r : Nat} {v w : Nat → Int} (hS : st_at h r v) (hN : nd_at h' (r + 1) w) (f : gh_fr h h' (nd_K (r + 1))) (e : ∀ j, (2 ≤ j ∧ j < 9) ∨ 90 ≤ j → w j = v j) : st_at h' r w ∧ gh_fr h h' (st_K r) :=
  ⟨⟨gh_at f hS.1 (fun z => by have := z.1; omega), hN, ov_cg (ov_fr f (fun k hk z => by have := hk.1; have := z.2; omega) hS.2.2) e⟩, gh_mono f fun k hk => ⟨by have := hk.1; omega, by have := hk.2; omega⟩⟩
theorem st_ov {h h' : gm_H} {r : Nat} {v w : Nat → Int} (hS : st_at h r v) (hN : ov_at h' (r + 4) w) (f : gh_fr h h' (ov_K (r + 4))) (e : ∀ j, j < 2 ∨ (10 ≤ j ∧ j < 90) → w j = v j) : st_at h' r w ∧ gh_fr h h' (st_K r) :=
  ⟨⟨gh_at f hS.1 (fun z => by have := z.1; omega), nd_cg (nd_fr f (fun k hk z => by have := hk.2; have := z.1; omega) hS.2.1) e, hN⟩, gh_mono f fun k hk => ⟨by have := hk.1; omega, by have := hk.2; omega⟩⟩
theorem ov_up {T : Nat} {v : Nat → Int} (hv : ov_iv T v) (hT : T < 1000) : ov_iv (T + 1) v := by
  obtain ⟨a, b, c, d, f, g, i, t, q⟩ := hv
  exact ⟨by omega, by omega, c, by omega, by omega, g, by omega, by omega, q⟩
theorem zMv_n {v : Nat → Int} {i j : Nat} {k : Int} (h : j < 10 + 10 * i + 2 ∨ 20 + 10 * i ≤ j) : zMv v i k 8 j = v j := by unfold zMv; rw [if_neg (by omega)]
theorem zMv_y {v : Nat → Int} {i j : Nat} {k : Int} (h : j < 8) : zMv v i k 8 (12 + 10 * i + j) = v (12 + 10 * i + j) + k := by unfold zMv; rw [if_pos (by omega)]
theorem zOf_no {v : Nat → Int} {i : Nat} {k : Int} (h : zOf v i k 8 = false) : ∀ j, j < 8 → -20 ≤ v (12 + 10 * i + j) + k ∧ v (12 + 10 * i + j) + k ≤ 20 := by
  intro j hj
  by_cases c : v (12 + 10 * i + j) + k < -20 ∨ 20 < v (12 + 10 * i + j) + k
  · have : zOf v i k 8 = true := zOf_up (j := j + 1) (by simp [zOf, c]) 8 (by omega)
    rw [this] at h; cases h
  · omega
theorem nd_ivMv {v : Nat → Int} (hv : nd_iv v) {i : Nat} {k : Int} (hi : (i : Int) < v 0) (h : zOf v i k 8 = false) : nd_iv (zMv v i k 8) := by
  obtain ⟨a, b, c, d, f, g⟩ := hv
  refine ⟨by rw [zMv_n (by omega)]; exact a, by rw [zMv_n (by omega)]; exact b, fun j hj => by rw [zMv_n (by omega)]; exact c j hj, fun j hj => by rw [zMv_n (by omega)]; exact d j hj, fun j hj x hx => ?_, fun j hj hj8 x hx => ?_⟩
  · by_cases e : j = i
    · subst e; rw [zMv_y hx]; exact zOf_no h x hx
    · rw [zMv_n (by omega)]; exact f j hj x hx
  · rw [zMv_n (by omega)] at hj
    rw [zMv_n (by omega)]; exact g j hj hj8 x hx
theorem nd_ivU {v : Nat → Int} (hv : nd_iv v) {i j : Nat} {k : Int} (hi : (i : Int) < v 0) (hj : j < 8) (h : -20 ≤ k ∧ k ≤ 20) : nd_iv (zU v (12 + 10 * i + j) k) := by
  obtain ⟨a, b, c, d, f, g⟩ := hv
  refine ⟨by rw [zU_n (by omega)]; exact a, by rw [zU_n (by omega)]; exact b, fun x hx => by rw [zU_n (by omega)]; exact c x hx, fun x hx => by rw [zU_n (by omega)]; exact d x hx, fun x hx y hy => ?_, fun x hx hx8 y hy => ?_⟩
  · by_cases e : x = i ∧ y = j
    · rw [e.1, e.2, zU_s]; exact h
    · rw [zU_n (by omega)]; exact f x hx y hy
  · rw [zU_n (by omega)] at hx
    rw [zU_n (by omega)]; exact g x hx hx8 y hy
theorem nd_ivG {v : Nat → Int} (hv : nd_iv v) {i : Nat} (hi : (i : Int) < v 0) : nd_iv (zU v (11 + 10 * i) 1) := by
  obtain ⟨a, b, c, d, f, g⟩ := hv
  refine ⟨by rw [zU_n (by omega)]; exact a, by rw [zU_n (by omega)]; exact b, fun x hx => by rw [zU_n (by omega)]; exact c x hx, fun x hx => ?_, fun x hx y hy => by rw [zU_n (by omega)]; exact f x hx y hy, fun x hx hx8 y hy => ?_⟩
  · by_cases e : x = i
    · rw [e, zU_s]; exact Or.inr rfl
    · rw [zU_n (by omega)]; exact d x hx
  · rw [zU_n (by omega)] at hx
    rw [zU_n (by omega)]; exact g x hx hx8 y hy
theorem nd_ivT {v : Nat → Int} (hv : nd_iv v) {k : Int} (h : 0 ≤ k ∧ k ≤ 20) : nd_iv (zU v 1 k) := by
  obtain ⟨a, b, c, d, f, g⟩ := hv
  refine ⟨by rw [zU_n (by omega)]; exact a, by rw [zU_s]; exact h, fun x hx => by rw [zU_n (by omega)]; exact c x hx, fun x hx => by rw [zU_n (by omega)]; exact d x hx, fun x hx y hy => by rw [zU_n (by omega)]; exact f x hx y hy, fun x hx hx8 y hy => ?_⟩
  rw [zU_n (by omega)] at hx
  rw [zU_n (by omega)]; exact g x hx hx8 y hy
theorem nd_ivA {v : Nat → Int} (hv : nd_iv v) {s : Int} (h8 : v 0 < 8) (h : 1 ≤ s ∧ s ≤ 99) : nd_iv (zAdd v s) := by
  obtain ⟨a, b, c, d, f, g⟩ := hv
  refine ⟨by rw [zAdd_at, if_pos rfl]; omega, by rw [zAdd_at, if_neg (by omega), if_neg (by omega)]; exact b, fun x hx => ?_, fun x hx => by rw [zAdd_at, if_neg (by omega), if_neg (by omega)]; exact d x hx, fun x hx y hy => by rw [zAdd_at, if_neg (by omega), if_neg (by omega)]; exact f x hx y hy, fun x hx hx8 y hy => ?_⟩
  · rw [zAdd_at, if_neg (by omega)]
    split
    · omega
    · exact c x hx
  · rw [zAdd_at, if_pos rfl] at hx
    rw [zAdd_at, if_neg (by omega), if_neg (by omega)]; exact g x (by omega) hx8 y hy
theorem ov_ivAdd {T : Nat} {v : Nat → Int} (hv : ov_iv T v) (hT : T < 1000) {a b c : Int} (h7 : v 4 < 7) (h1 : 1 ≤ a ∧ a ≤ 60) (h2 : 1 ≤ b ∧ b ≤ 999) (h3 : 1 ≤ c ∧ c ≤ 9) : ov_iv (T + 1) (zAddB v a b c) := by
  obtain ⟨q2, q3, q4, q5, q6, q7, q8, qT, qB⟩ := id hv
  obtain ⟨cn, hcn, hc7⟩ := ov_cnt hv
  have e : ∀ j, j < 9 → zAddB v a b c j = if j = 3 then v 3 + 1 else if j = 4 then v 4 + 1 else v j := fun j hj => by unfold zAddB zU; rw [if_neg (show ¬ j = 93 + 4 * (v 4).toNat by omega), if_neg (show ¬ j = 92 + 4 * (v 4).toNat by omega), if_neg (show ¬ j = 91 + 4 * (v 4).toNat by omega), if_neg (show ¬ j = 90 + 4 * (v 4).toNat by omega)]
  refine ⟨by rw [e 2 (by omega)]; simp; omega, by rw [e 3 (by omega)]; simp; omega, by rw [e 4 (by omega)]; simp; omega, by rw [e 5 (by omega)]; simp; omega, by rw [e 6 (by omega)]; simp; omega, by rw [e 7 (by omega)]; simp; omega, by rw [e 8 (by omega)]; simp; omega, by omega, fun k hk => ?_⟩
  rw [e 4 (by omega)] at hk
  have hk : (k : Int) < v 4 + 1 := hk
  rw [show zAddB v a b c 3 = v 3 + 1 by rw [e 3 (by omega)]; simp]
  unfold zAddB; rw [hcn, Int.toNat_natCast]
  by_cases e2 : k = cn
  · subst e2
    rw [zU_n (by omega), zU_n (by omega), zU_n (by omega), zU_n (by omega), zU_n (by omega), zU_s, zU_n (by omega), zU_n (by omega), zU_n (by omega), zU_n (by omega), zU_s, zU_n (by omega), zU_n (by omega), zU_n (by omega), zU_s, zU_n (by omega), zU_n (by omega), zU_s]
    omega
  · have := qB k (by omega)
    iterate 24 rw [zU_n (by omega)]
    omega
theorem ov_ivOut {T : Nat} {v : Nat → Int} (hv : ov_iv T v) {p : Nat} (hp : (p : Int) < v 4) : ov_iv T (zOutB v p) := by
  obtain ⟨q2, q3, q4, q5, q6, q7, q8, qT, qB⟩ := id hv
  have e : ∀ j, j < 9 → zOutB v p j = if j = 4 then v 4 - 1 else v j := fun j hj => by unfold zOutB; rw [if_neg (show ¬ (90 + 4 * p ≤ j ∧ j < 118) by omega)]
  refine ⟨by rw [e 2 (by omega)]; exact q2, by rw [e 3 (by omega)]; exact q3, by rw [e 4 (by omega)]; simp; omega, by rw [e 5 (by omega)]; exact q5, by rw [e 6 (by omega)]; exact q6, by rw [e 7 (by omega)]; exact q7, by rw [e 8 (by omega)]; exact q8, qT, fun k hk => ?_⟩
  rw [e 4 (by omega)] at hk
  have hk : (k : Int) < v 4 - 1 := hk
  rw [show zOutB v p 3 = v 3 by rw [e 3 (by omega)]; simp]
  by_cases c : p ≤ k
  · rw [zOutB_hi (j := 90 + 4 * k) (by omega) (by omega), zOutB_hi (j := 91 + 4 * k) (by omega) (by omega), zOutB_hi (j := 92 + 4 * k) (by omega) (by omega), zOutB_hi (j := 93 + 4 * k) (by omega) (by omega)]
    exact qB (k + 1) (by omega)
  · rw [zOutB_lo (j := 90 + 4 * k) (by omega) (by omega), zOutB_lo (j := 91 + 4 * k) (by omega) (by omega), zOutB_lo (j := 92 + 4 * k) (by omega) (by omega), zOutB_lo (j := 93 + 4 * k) (by omega) (by omega)]
    exact qB k (by omega)
theorem ov_ivBk {T : Nat} {v : Nat → Int} (hv : ov_iv T v) (hT : T < 1000) {p : Nat} (hp : (p : Int) < v 4) : ov_iv (T + 1) (zBk v p) := by
  obtain ⟨q2, q3, q4, q5, q6, q7, q8, qT, qB⟩ := id hv
  have qp := qB p hp
  have hL := zLt_r hv hp q2
  have eB : ∀ j, 9 ≤ j → zBk v p j = v j := fun j hj => by unfold zBk; rw [zU_n (by omega), zU_n (by omega), zU_n (by omega), zU_n (by omega), zU_n (by omega)]
  have e2' : zBk v p 2 = v 2 + v (91 + 4 * p) := rfl
  have e3' : zBk v p 3 = v 3 := rfl
  have e4' : zBk v p 4 = v 4 := rfl
  have e5' : zBk v p 5 = v 5 + 1 := rfl
  have e6' : zBk v p 6 = v 6 + v (91 + 4 * p) := rfl
  have e7' : zBk v p 7 = (v 7 + zLt v p (v 2)) % 1000000 := rfl
  have e8' : zBk v p 8 = v 8 + (v 7 + zLt v p (v 2)) / 1000000 := rfl
  refine ⟨by rw [e2']; omega, by rw [e3']; omega, by rw [e4']; omega, by rw [e5']; omega, by rw [e6']; omega, by rw [e7']; omega, by rw [e8']; omega, by omega, fun k hk => ?_⟩
  rw [eB (90 + 4 * k) (by omega), eB (91 + 4 * k) (by omega), eB (92 + 4 * k) (by omega), eB (93 + 4 * k) (by omega), e3']; exact qB k (by omega)
theorem ov_ivBake {T : Nat} {v : Nat → Int} (hv : ov_iv T v) (hT : T < 1000) {p : Nat} (hp : (p : Int) < v 4) : ov_iv (T + 1) (zBake v p) := ov_ivOut (ov_ivBk hv hT hp) hp
theorem ov_ivR {T : Nat} {v : Nat → Int} (hv : ov_iv T v) (hT : T < 1000) {a : Int} (ha : 1 ≤ a ∧ a ≤ 60) : ov_iv (T + 1) (zU v 2 (v 2 + a)) := by
  obtain ⟨q2, q3, q4, q5, q6, q7, q8, qT, qB⟩ := id hv
  have e : ∀ j, j ≠ 2 → zU v 2 (v 2 + a) j = v j := fun j hj => zU_n hj
  refine ⟨by rw [zU_s]; omega, by rw [e 3 (by omega)]; omega, by rw [e 4 (by omega)]; omega, by rw [e 5 (by omega)]; omega, by rw [e 6 (by omega)]; omega, by rw [e 7 (by omega)]; omega, by rw [e 8 (by omega)]; omega, by omega, fun k hk => ?_⟩
  rw [e 4 (by omega)] at hk
  rw [e 3 (by omega), e _ (by omega), e _ (by omega), e _ (by omega), e _ (by omega)]; exact qB k hk
theorem zOutB_nd {v : Nat → Int} {p j : Nat} (h : j < 2 ∨ (10 ≤ j ∧ j < 90)) : zOutB v p j = v j := zOutB_lo (by omega) (by omega)
theorem zBk_nd {v : Nat → Int} {p j : Nat} (h : j < 2 ∨ 10 ≤ j) : zBk v p j = v j := by unfold zBk; rw [zU_n (by omega), zU_n (by omega), zU_n (by omega), zU_n (by omega), zU_n (by omega)]
theorem zAddB_nd {T : Nat} {v : Nat → Int} (hv : ov_iv T v) {a b c : Int} {j : Nat} (h : j < 2 ∨ (10 ≤ j ∧ j < 90)) : zAddB v a b c j = v j := by unfold zAddB; rw [zU_n (by omega), zU_n (by omega), zU_n (by omega), zU_n (by omega), zU_n (by omega), zU_n (by omega)]
set_option maxRecDepth 4000 in
theorem ct_do0 {h : gm_H} {r T : Nat} {v : Nat → Int} {a b c : Int} (hS : st_at h r v) (hv : st_iv T v) (hT : T < 1000) (h8 : v 0 < 8) (ha : 1 ≤ a ∧ a ≤ 99) : ∃ h', gm_co mX9_perform 5 [.ref r, .retAddr (7 + 0), .int (zI a), .int (zI b), .int (zI c)] h (.inl (some (.int (zI (zAn v 0 a b c))))) h' ∧ st_at h' r (zDo v 0 a b c) ∧ st_iv (T + 1) (zDo v 0 a b c) ∧ gh_fr h h' (st_K r) := by
  obtain ⟨h0, hN, hO⟩ := id hS
  obtain ⟨h1, h2⟩ := id hN
  obtain ⟨o1, o2⟩ := id hO
  obtain ⟨h', hc, hn, hf⟩ := ct_add (s := a) hN hv.1 h8
  obtain ⟨g1, g2⟩ := st_nd hS hn hf (fun j hj => by rw [zAdd_at, if_neg (by omega), if_neg (by have := hv.1.1; omega)])
  refine ⟨h', ?_, g1, ⟨nd_ivA hv.1 h8 ha, ov_ivcg (ov_up hv.2 hT) (fun j hj => by show zAdd v a j = v j; rw [zAdd_at, if_neg (by omega), if_neg (by have := hv.1.1; omega)])⟩, g2⟩
  refine gm_co_of _ (by decide +kernel) rfl (Nat.le_of_ble_eq_true rfl) rfl ?_
  refine gm_go.ru (gm_gets (v := .retAddr 18) dX9_perform_0 (by decide +kernel) (sl_X9_32 rfl) rfl) ?_
  refine gm_go.ru (gm_aload_n dX9_perform_3 rfl (by first | exact Or.inl ⟨_, rfl⟩ | exact Or.inr ⟨_, rfl⟩)) ?_
  refine gm_go.ru (gm_cU dX9_perform_4 (ct_ordC (w := 0) (by decide)) rfl mt_Jx29ce0_ordinal_8abf5 (lu_X9_38 rfl) (Or.inr ⟨_, rfl, by decide +kernel⟩) rfl (Nat.le_of_ble_eq_true rfl) (by decide)) ?_
  refine gm_go.ru (gi_ki (w := 0) (x := 1) swC dX9_perform_7 (by decide +kernel) (by decide) (by decide) rfl) ?_
  refine gm_go.ru (gm_tabIn (tgt := 60) dX9_perform_8 (by decide +kernel) (by decide +kernel) rfl (by decide)) ?_
  refine gm_go.ru (gm_aload_n dX9_perform_60 rfl (by first | exact Or.inl ⟨_, rfl⟩ | exact Or.inr ⟨_, rfl⟩)) ?_
  refine gm_go.ru (gm_get dX9_perform_61 (fl_X9_12 rfl) (by assumption) rfl) ?_
  refine gm_go.ru (gm_iload_n dX9_perform_64 rfl) ?_
  refine gm_go.ru (gm_cV dX9_perform_65 (hc) rfl mt_X3_add mv_X3_add (lk_X9_84 rfl) (Or.inl ⟨_, 5, _, _, _, rfl, (by assumption), rfl⟩) rfl (Nat.le_of_ble_eq_true rfl) (by decide)) ?_
  exact gm_iret dX9_perform_68 rfl
set_option maxRecDepth 4000 in
theorem ct_do1 {h : gm_H} {r T : Nat} {v : Nat → Int} {a b c : Int} (hS : st_at h r v) (hv : st_iv T v) (hT : T < 1000) (ha : 0 ≤ a ∧ a < v 0) (hb : 0 ≤ b ∧ b ≤ 7) (hc : -20 ≤ c ∧ c ≤ 20) : ∃ h', gm_co mX9_perform 5 [.ref r, .retAddr (7 + 1), .int (zI a), .int (zI b), .int (zI c)] h (.inl (some (.int (zI (zAn v 1 a b c))))) h' ∧ st_at h' r (zDo v 1 a b c) ∧ st_iv (T + 1) (zDo v 1 a b c) ∧ gh_fr h h' (st_K r) := by
  obtain ⟨i, rfl⟩ : ∃ i : Nat, a = (i : Int) := ⟨a.toNat, by omega⟩
  obtain ⟨j, rfl⟩ : ∃ j : Nat, b = (j : Int) := ⟨b.toNat, by omega⟩
  have hi : i < 8 := by have := hv.1.1; omega
  obtain ⟨h0, hN, hO⟩ := id hS
  obtain ⟨h1, h2⟩ := id hN
  obtain ⟨o1, o2⟩ := id hO
  obtain ⟨h', hc', hn, hf⟩ := ct_put (k := c) hN hi (show j < 8 by omega)
  obtain ⟨g1, g2⟩ := st_nd hS hn hf (fun x hx => zU_n (by omega))
  refine ⟨h', ?_, g1, ⟨nd_ivU hv.1 ha.2 (by omega) hc, ov_ivcg (ov_up hv.2 hT) (fun x hx => zU_n (by omega))⟩, g2⟩
  refine gm_co_of _ (by decide +kernel) rfl (Nat.le_of_ble_eq_true rfl) rfl ?_
  refine gm_go.ru (gm_gets (v := .retAddr 18) dX9_perform_0 (by decide +kernel) (sl_X9_32 rfl) rfl) ?_
  refine gm_go.ru (gm_aload_n dX9_perform_3 rfl (by first | exact Or.inl ⟨_, rfl⟩ | exact Or.inr ⟨_, rfl⟩)) ?_
  refine gm_go.ru (gm_cU dX9_perform_4 (ct_ordC (w := 1) (by decide)) rfl mt_Jx29ce0_ordinal_8abf5 (lu_X9_38 rfl) (Or.inr ⟨_, rfl, by decide +kernel⟩) rfl (Nat.le_of_ble_eq_true rfl) (by decide)) ?_
  refine gm_go.ru (gi_ki (w := 1) (x := 2) swC dX9_perform_7 (by decide +kernel) (by decide) (by decide) rfl) ?_
  refine gm_go.ru (gm_tabIn (tgt := 69) dX9_perform_8 (by decide +kernel) (by decide +kernel) rfl (by decide)) ?_
  refine gm_go.ru (gm_aload_n dX9_perform_69 rfl (by first | exact Or.inl ⟨_, rfl⟩ | exact Or.inr ⟨_, rfl⟩)) ?_
  refine gm_go.ru (gm_get dX9_perform_70 (fl_X9_12 rfl) (by assumption) rfl) ?_
  refine gm_go.ru (gm_iload_n dX9_perform_73 rfl) ?_
  refine gm_go.ru (gm_iload_n dX9_perform_74 rfl) ?_
  refine gm_go.ru (gm_iload dX9_perform_75 rfl) ?_
  refine gm_go.ru (gm_cV dX9_perform_77 (hc') rfl mt_X3_put mv_X3_put (lk_X9_87 rfl) (Or.inl ⟨_, 5, _, _, _, rfl, (by assumption), rfl⟩) rfl (Nat.le_of_ble_eq_true rfl) (by decide)) ?_
  exact gm_iret dX9_perform_80 rfl
set_option maxRecDepth 4000 in
theorem ct_do2 {h : gm_H} {r T : Nat} {v : Nat → Int} {a b c : Int} (hS : st_at h r v) (hv : st_iv T v) (hT : T < 1000) (ha : 0 ≤ a ∧ a < v 0) (hb : zOf v a.toNat b 8 = false) : ∃ h', gm_co mX9_perform 5 [.ref r, .retAddr (7 + 2), .int (zI a), .int (zI b), .int (zI c)] h (.inl (some (.int (zI (zAn v 2 a b c))))) h' ∧ st_at h' r (zDo v 2 a b c) ∧ st_iv (T + 1) (zDo v 2 a b c) ∧ gh_fr h h' (st_K r) := by
  obtain ⟨i, rfl⟩ : ∃ i : Nat, a = (i : Int) := ⟨a.toNat, by omega⟩
  have hi : i < 8 := by have := hv.1.1; omega
  obtain ⟨h0, hN, hO⟩ := id hS
  obtain ⟨h1, h2⟩ := id hN
  obtain ⟨o1, o2⟩ := id hO
  obtain ⟨h', hc', hn, hf⟩ := ct_move (k := b) hN hi
  obtain ⟨g1, g2⟩ := st_nd hS hn hf (fun x hx => zMv_n (by omega))
  refine ⟨h', ?_, g1, ⟨nd_ivMv hv.1 ha.2 hb, ov_ivcg (ov_up hv.2 hT) (fun x hx => zMv_n (by omega))⟩, g2⟩
  refine gm_co_of _ (by decide +kernel) rfl (Nat.le_of_ble_eq_true rfl) rfl ?_
  refine gm_go.ru (gm_gets (v := .retAddr 18) dX9_perform_0 (by decide +kernel) (sl_X9_32 rfl) rfl) ?_
  refine gm_go.ru (gm_aload_n dX9_perform_3 rfl (by first | exact Or.inl ⟨_, rfl⟩ | exact Or.inr ⟨_, rfl⟩)) ?_
  refine gm_go.ru (gm_cU dX9_perform_4 (ct_ordC (w := 2) (by decide)) rfl mt_Jx29ce0_ordinal_8abf5 (lu_X9_38 rfl) (Or.inr ⟨_, rfl, by decide +kernel⟩) rfl (Nat.le_of_ble_eq_true rfl) (by decide)) ?_
  refine gm_go.ru (gi_ki (w := 2) (x := 3) swC dX9_perform_7 (by decide +kernel) (by decide) (by decide) rfl) ?_
  refine gm_go.ru (gm_tabIn (tgt := 81) dX9_perform_8 (by decide +kernel) (by decide +kernel) rfl (by decide)) ?_
  refine gm_go.ru (gm_aload_n dX9_perform_81 rfl (by first | exact Or.inl ⟨_, rfl⟩ | exact Or.inr ⟨_, rfl⟩)) ?_
  refine gm_go.ru (gm_get dX9_perform_82 (fl_X9_12 rfl) (by assumption) rfl) ?_
  refine gm_go.ru (gm_iload_n dX9_perform_85 rfl) ?_
  refine gm_go.ru (gm_iload_n dX9_perform_86 rfl) ?_
  refine gm_go.ru (gm_cV0 dX9_perform_87 (hc') rfl mt_X3_move mv_X3_move (lk_X9_91 rfl) (Or.inl ⟨_, 5, _, _, _, rfl, (by assumption), rfl⟩) rfl (Nat.le_of_ble_eq_true rfl) (by decide)) ?_
  obtain ⟨h0', hN', hO'⟩ := id g1
  obtain ⟨h1', h2'⟩ := id hN'
  refine gm_go.ru (gm_aload_n dX9_perform_90 rfl (by first | exact Or.inl ⟨_, rfl⟩ | exact Or.inr ⟨_, rfl⟩)) ?_
  refine gm_go.ru (gm_get dX9_perform_91 (fl_X9_12 rfl) h0' rfl) ?_
  refine gm_go.ru (gm_iload_n dX9_perform_94 rfl) ?_
  refine gm_go.ru (gi_const dX9_perform_95) ?_
  refine gm_go.ru (gm_cV dX9_perform_96 (ct_errorShiftedBy hN' hi) rfl mt_X3_errorShiftedBy mv_X3_errorShiftedBy (lk_X9_95 rfl) (Or.inl ⟨_, 5, _, _, _, rfl, h1', rfl⟩) rfl (Nat.le_of_ble_eq_true rfl) (by decide)) ?_
  exact gm_iret dX9_perform_99 rfl
set_option maxRecDepth 4000 in
theorem ct_do3 {h : gm_H} {r T : Nat} {v : Nat → Int} {a b c : Int} (hS : st_at h r v) (hv : st_iv T v) (hT : T < 1000) (ha : 0 ≤ a ∧ a < v 0) (hb : zOf v a.toNat (zSS v a.toNat) 8 = false) : ∃ h', gm_co mX9_perform 5 [.ref r, .retAddr (7 + 3), .int (zI a), .int (zI b), .int (zI c)] h (.inl (some (.int (zI (zAn v 3 a b c))))) h' ∧ st_at h' r (zDo v 3 a b c) ∧ st_iv (T + 1) (zDo v 3 a b c) ∧ gh_fr h h' (st_K r) := by
  obtain ⟨i, rfl⟩ : ∃ i : Nat, a = (i : Int) := ⟨a.toNat, by omega⟩
  have hi : i < 8 := by have := hv.1.1; omega
  obtain ⟨h0, hN, hO⟩ := id hS
  obtain ⟨h1, h2⟩ := id hN
  obtain ⟨o1, o2⟩ := id hO
  obtain ⟨h', hc', hn, hf⟩ := ct_moveByBest hN hv.1 hi
  obtain ⟨g1, g2⟩ := st_nd hS hn hf (fun x hx => zMv_n (by omega))
  refine ⟨h', ?_, g1, ⟨nd_ivMv hv.1 ha.2 hb, ov_ivcg (ov_up hv.2 hT) (fun x hx => zMv_n (by omega))⟩, g2⟩
  refine gm_co_of _ (by decide +kernel) rfl (Nat.le_of_ble_eq_true rfl) rfl ?_
  refine gm_go.ru (gm_gets (v := .retAddr 18) dX9_perform_0 (by decide +kernel) (sl_X9_32 rfl) rfl) ?_
  refine gm_go.ru (gm_aload_n dX9_perform_3 rfl (by first | exact Or.inl ⟨_, rfl⟩ | exact Or.inr ⟨_, rfl⟩)) ?_
  refine gm_go.ru (gm_cU dX9_perform_4 (ct_ordC (w := 3) (by decide)) rfl mt_Jx29ce0_ordinal_8abf5 (lu_X9_38 rfl) (Or.inr ⟨_, rfl, by decide +kernel⟩) rfl (Nat.le_of_ble_eq_true rfl) (by decide)) ?_
  refine gm_go.ru (gi_ki (w := 3) (x := 4) swC dX9_perform_7 (by decide +kernel) (by decide) (by decide) rfl) ?_
  refine gm_go.ru (gm_tabIn (tgt := 100) dX9_perform_8 (by decide +kernel) (by decide +kernel) rfl (by decide)) ?_
  refine gm_go.ru (gm_aload_n dX9_perform_100 rfl (by first | exact Or.inl ⟨_, rfl⟩ | exact Or.inr ⟨_, rfl⟩)) ?_
  refine gm_go.ru (gm_get dX9_perform_101 (fl_X9_12 rfl) (by assumption) rfl) ?_
  refine gm_go.ru (gm_iload_n dX9_perform_104 rfl) ?_
  refine gm_go.ru (gm_cV dX9_perform_105 (hc') rfl mt_X3_moveByBest mv_X3_moveByBest (lk_X9_99 rfl) (Or.inl ⟨_, 5, _, _, _, rfl, (by assumption), rfl⟩) rfl (Nat.le_of_ble_eq_true rfl) (by decide)) ?_
  exact gm_iret dX9_perform_108 rfl
set_option maxRecDepth 4000 in
theorem ct_do4 {h : gm_H} {r T : Nat} {v : Nat → Int} {a b c : Int} (hS : st_at h r v) (hv : st_iv T v) (hT : T < 1000) (ha : 0 ≤ a ∧ a < v 0) : ∃ h', gm_co mX9_perform 5 [.ref r, .retAddr (7 + 4), .int (zI a), .int (zI b), .int (zI c)] h (.inl (some (.int (zI (zAn v 4 a b c))))) h' ∧ st_at h' r (zDo v 4 a b c) ∧ st_iv (T + 1) (zDo v 4 a b c) ∧ gh_fr h h' (st_K r) := by
  obtain ⟨i, rfl⟩ : ∃ i : Nat, a = (i : Int) := ⟨a.toNat, by omega⟩
  have hi : i < 8 := by have := hv.1.1; omega
  obtain ⟨h0, hN, hO⟩ := id hS
  obtain ⟨h1, h2⟩ := id hN
  obtain ⟨o1, o2⟩ := id hO
  obtain ⟨h', hc', hn, hf⟩ := ct_throwOut hN hi
  obtain ⟨g1, g2⟩ := st_nd hS hn hf (fun x hx => zU_n (by omega))
  refine ⟨h', ?_, g1, ⟨nd_ivG hv.1 ha.2, ov_ivcg (ov_up hv.2 hT) (fun x hx => zU_n (by omega))⟩, g2⟩
  refine gm_co_of _ (by decide +kernel) rfl (Nat.le_of_ble_eq_true rfl) rfl ?_
  refine gm_go.ru (gm_gets (v := .retAddr 18) dX9_perform_0 (by decide +kernel) (sl_X9_32 rfl) rfl) ?_
  refine gm_go.ru (gm_aload_n dX9_perform_3 rfl (by first | exact Or.inl ⟨_, rfl⟩ | exact Or.inr ⟨_, rfl⟩)) ?_
  refine gm_go.ru (gm_cU dX9_perform_4 (ct_ordC (w := 4) (by decide)) rfl mt_Jx29ce0_ordinal_8abf5 (lu_X9_38 rfl) (Or.inr ⟨_, rfl, by decide +kernel⟩) rfl (Nat.le_of_ble_eq_true rfl) (by decide)) ?_
  refine gm_go.ru (gi_ki (w := 4) (x := 5) swC dX9_perform_7 (by decide +kernel) (by decide) (by decide) rfl) ?_
  refine gm_go.ru (gm_tabIn (tgt := 109) dX9_perform_8 (by decide +kernel) (by decide +kernel) rfl (by decide)) ?_
  refine gm_go.ru (gm_aload_n dX9_perform_109 rfl (by first | exact Or.inl ⟨_, rfl⟩ | exact Or.inr ⟨_, rfl⟩)) ?_
  refine gm_go.ru (gm_get dX9_perform_110 (fl_X9_12 rfl) (by assumption) rfl) ?_
  refine gm_go.ru (gm_iload_n dX9_perform_113 rfl) ?_
  refine gm_go.ru (gm_cV dX9_perform_114 (hc') rfl mt_X3_throwOut mv_X3_throwOut (lk_X9_102 rfl) (Or.inl ⟨_, 5, _, _, _, rfl, (by assumption), rfl⟩) rfl (Nat.le_of_ble_eq_true rfl) (by decide)) ?_
  exact gm_iret dX9_perform_117 rfl
set_option maxRecDepth 4000 in
theorem ct_do5 {h : gm_H} {r T : Nat} {v : Nat → Int} {a b c : Int} (hS : st_at h r v) (hv : st_iv T v) (hT : T < 1000) (ha : 0 ≤ a ∧ a ≤ 20) : ∃ h', gm_co mX9_perform 5 [.ref r, .retAddr (7 + 5), .int (zI a), .int (zI b), .int (zI c)] h (.inl (some (.int (zI (zAn v 5 a b c))))) h' ∧ st_at h' r (zDo v 5 a b c) ∧ st_iv (T + 1) (zDo v 5 a b c) ∧ gh_fr h h' (st_K r) := by
  obtain ⟨h0, hN, hO⟩ := id hS
  obtain ⟨h1, h2⟩ := id hN
  obtain ⟨o1, o2⟩ := id hO
  obtain ⟨S, D, h3, h4, h5, h6⟩ := h2
  obtain ⟨b1, hb1⟩ : ∃ x : gm_H, x = (h.1.set (r + 1) (.inr (5, [.int (zI (v 0)), .int (zI a), .int (zI (zG v 8 : Nat)), .ref (r + 1 + 1), .ref (r + 1 + 2)])), h.2) := ⟨_, rfl⟩
  have hn : nd_at b1 (r + 1) (zU v 1 a) := by
    rw [hb1]
    refine ⟨?_, S, D, gs_n h3 (by omega), gs_n h4 (by omega), fun i hi => by rw [zU_n (by omega)]; exact h5 i hi, fun i hi j hj => by rw [zU_n (by omega)]; exact h6 i hi j hj⟩
    rw [zG_eq (v := v) 8 (fun i hi => zU_n (by omega)), zU_s, zU_n (by omega)]; exact gs_s h1
  have hf : gh_fr h b1 (nd_K (r + 1)) := by rw [hb1]; exact gh_set gh_rf ⟨by omega, by omega⟩ _
  obtain ⟨g1, g2⟩ := st_nd hS hn hf (fun x hx => zU_n (by omega))
  refine ⟨b1, ?_, g1, ⟨nd_ivT hv.1 ha, ov_ivcg (ov_up hv.2 hT) (fun x hx => zU_n (by omega))⟩, g2⟩
  refine gm_co_of _ (by decide +kernel) rfl (Nat.le_of_ble_eq_true rfl) rfl ?_
  refine gm_go.ru (gm_gets (v := .retAddr 18) dX9_perform_0 (by decide +kernel) (sl_X9_32 rfl) rfl) ?_
  refine gm_go.ru (gm_aload_n dX9_perform_3 rfl (by first | exact Or.inl ⟨_, rfl⟩ | exact Or.inr ⟨_, rfl⟩)) ?_
  refine gm_go.ru (gm_cU dX9_perform_4 (ct_ordC (w := 5) (by decide)) rfl mt_Jx29ce0_ordinal_8abf5 (lu_X9_38 rfl) (Or.inr ⟨_, rfl, by decide +kernel⟩) rfl (Nat.le_of_ble_eq_true rfl) (by decide)) ?_
  refine gm_go.ru (gi_ki (w := 5) (x := 6) swC dX9_perform_7 (by decide +kernel) (by decide) (by decide) rfl) ?_
  refine gm_go.ru (gm_tabIn (tgt := 118) dX9_perform_8 (by decide +kernel) (by decide +kernel) rfl (by decide)) ?_
  refine gm_go.ru (gm_aload_n dX9_perform_118 rfl (by first | exact Or.inl ⟨_, rfl⟩ | exact Or.inr ⟨_, rfl⟩)) ?_
  refine gm_go.ru (gm_get dX9_perform_119 (fl_X9_12 rfl) (by assumption) rfl) ?_
  refine gm_go.ru (gm_iload_n dX9_perform_122 rfl) ?_
  refine gm_go.ru (gm_put dX9_perform_123 (fp_X9_105 rfl) (by assumption) (Nat.le_of_ble_eq_true rfl) (by first | exact ⟨rfl, rfl⟩ | exact trivial)) ?_
  refine gm_hp hb1 ?_
  obtain ⟨h0', hN', hO'⟩ := id g1
  obtain ⟨h1', h2'⟩ := id hN'
  refine gm_go.ru (gm_aload_n dX9_perform_126 rfl (by first | exact Or.inl ⟨_, rfl⟩ | exact Or.inr ⟨_, rfl⟩)) ?_
  refine gm_go.ru (gm_get dX9_perform_127 (fl_X9_12 rfl) h0' rfl) ?_
  refine gm_go.ru (gm_cV dX9_perform_130 (ct_countTooWide hN' (nd_ivT hv.1 ha)) rfl mt_X3_countTooWide mv_X3_countTooWide (lk_X9_109 rfl) (Or.inl ⟨_, 5, _, _, _, rfl, h1', rfl⟩) rfl (Nat.le_of_ble_eq_true rfl) (by decide)) ?_
  exact gm_iret dX9_perform_133 rfl
set_option maxRecDepth 4000 in
theorem ct_do6 {h : gm_H} {r T : Nat} {v : Nat → Int} {a b c : Int} (hS : st_at h r v) (hv : st_iv T v) (hT : T < 1000) (h7 : v 4 < 7) (ha : 1 ≤ a ∧ a ≤ 60) (hb : 1 ≤ b ∧ b ≤ 999) (hc : 1 ≤ c ∧ c ≤ 9) : ∃ h', gm_co mX9_perform 5 [.ref r, .retAddr (7 + 6), .int (zI a), .int (zI b), .int (zI c)] h (.inl (some (.int (zI (zAn v 6 a b c))))) h' ∧ st_at h' r (zDo v 6 a b c) ∧ st_iv (T + 1) (zDo v 6 a b c) ∧ gh_fr h h' (st_K r) := by
  obtain ⟨h0, hN, hO⟩ := id hS
  obtain ⟨h1, h2⟩ := id hN
  obtain ⟨o1, o2⟩ := id hO
  obtain ⟨h', hc', hn, hf⟩ := ct_ovAdd (a := a) (b := b) (c := c) hO hv.2 h7
  obtain ⟨g1, g2⟩ := st_ov hS hn hf (fun x hx => zAddB_nd hv.2 hx)
  refine ⟨h', ?_, g1, ⟨nd_ivcg hv.1 (fun x hx => zAddB_nd hv.2 hx), ov_ivAdd hv.2 hT h7 ha hb hc⟩, g2⟩
  refine gm_co_of _ (by decide +kernel) rfl (Nat.le_of_ble_eq_true rfl) rfl ?_
  refine gm_go.ru (gm_gets (v := .retAddr 18) dX9_perform_0 (by decide +kernel) (sl_X9_32 rfl) rfl) ?_
  refine gm_go.ru (gm_aload_n dX9_perform_3 rfl (by first | exact Or.inl ⟨_, rfl⟩ | exact Or.inr ⟨_, rfl⟩)) ?_
  refine gm_go.ru (gm_cU dX9_perform_4 (ct_ordC (w := 6) (by decide)) rfl mt_Jx29ce0_ordinal_8abf5 (lu_X9_38 rfl) (Or.inr ⟨_, rfl, by decide +kernel⟩) rfl (Nat.le_of_ble_eq_true rfl) (by decide)) ?_
  refine gm_go.ru (gi_ki (w := 6) (x := 7) swC dX9_perform_7 (by decide +kernel) (by decide) (by decide) rfl) ?_
  refine gm_go.ru (gm_tabIn (tgt := 134) dX9_perform_8 (by decide +kernel) (by decide +kernel) rfl (by decide)) ?_
  refine gm_go.ru (gm_aload_n dX9_perform_134 rfl (by first | exact Or.inl ⟨_, rfl⟩ | exact Or.inr ⟨_, rfl⟩)) ?_
  refine gm_go.ru (gm_get dX9_perform_135 (fl_X9_21 rfl) (by assumption) rfl) ?_
  refine gm_go.ru (gm_iload_n dX9_perform_138 rfl) ?_
  refine gm_go.ru (gm_iload_n dX9_perform_139 rfl) ?_
  refine gm_go.ru (gm_iload dX9_perform_140 rfl) ?_
  refine gm_go.ru (gm_cV dX9_perform_142 (hc') rfl mt_X5_add mv_X5_add (lk_X9_112 rfl) (Or.inl ⟨_, 7, _, _, _, rfl, (by assumption), rfl⟩) rfl (Nat.le_of_ble_eq_true rfl) (by decide)) ?_
  exact gm_iret dX9_perform_145 rfl
set_option maxRecDepth 4000 in
theorem ct_do7 {h : gm_H} {r T : Nat} {v : Nat → Int} {a b c : Int} (hS : st_at h r v) (hv : st_iv T v) (hT : T < 1000) (ha : zR a) (hb : ¬ zFind v a < 0) : ∃ h', gm_co mX9_perform 5 [.ref r, .retAddr (7 + 7), .int (zI a), .int (zI b), .int (zI c)] h (.inl (some (.int (zI (zAn v 7 a b c))))) h' ∧ st_at h' r (zDo v 7 a b c) ∧ st_iv (T + 1) (zDo v 7 a b c) ∧ gh_fr h h' (st_K r) := by
  have hz := zFind_r hv.2 a
  obtain ⟨p, hp, hp4⟩ : ∃ p : Nat, zFind v a = (p : Int) ∧ (p : Int) < v 4 := hz.resolve_left (by omega)
  obtain ⟨h0, hN, hO⟩ := id hS
  obtain ⟨h1, h2⟩ := id hN
  obtain ⟨o1, o2⟩ := id hO
  obtain ⟨h', hc', hn, hf⟩ := ct_takeOut hO hv.2 hp4
  obtain ⟨g1, g2⟩ := st_ov hS hn hf (fun x hx => zOutB_nd hx)
  have eD : zDo v 7 a b c = zOutB v p := by show zOutB v (zFind v a).toNat = _; rw [hp, Int.toNat_natCast]
  rw [eD]
  refine ⟨h', ?_, g1, ⟨nd_ivcg hv.1 (fun x hx => zOutB_nd hx), ov_ivOut (ov_up hv.2 hT) hp4⟩, g2⟩
  refine gm_co_of _ (by decide +kernel) rfl (Nat.le_of_ble_eq_true rfl) rfl ?_
  refine gm_go.ru (gm_gets (v := .retAddr 18) dX9_perform_0 (by decide +kernel) (sl_X9_32 rfl) rfl) ?_
  refine gm_go.ru (gm_aload_n dX9_perform_3 rfl (by first | exact Or.inl ⟨_, rfl⟩ | exact Or.inr ⟨_, rfl⟩)) ?_
  refine gm_go.ru (gm_cU dX9_perform_4 (ct_ordC (w := 7) (by decide)) rfl mt_Jx29ce0_ordinal_8abf5 (lu_X9_38 rfl) (Or.inr ⟨_, rfl, by decide +kernel⟩) rfl (Nat.le_of_ble_eq_true rfl) (by decide)) ?_
  refine gm_go.ru (gi_ki (w := 7) (x := 8) swC dX9_perform_7 (by decide +kernel) (by decide) (by decide) rfl) ?_
  refine gm_go.ru (gm_tabIn (tgt := 146) dX9_perform_8 (by decide +kernel) (by decide +kernel) rfl (by decide)) ?_
  refine gm_go.ru (gm_aload_n dX9_perform_146 rfl (by first | exact Or.inl ⟨_, rfl⟩ | exact Or.inr ⟨_, rfl⟩)) ?_
  refine gm_go.ru (gm_get dX9_perform_147 (fl_X9_21 rfl) (by assumption) rfl) ?_
  refine gm_go.ru (gm_aload_n dX9_perform_150 rfl (by first | exact Or.inl ⟨_, rfl⟩ | exact Or.inr ⟨_, rfl⟩)) ?_
  refine gm_go.ru (gm_get dX9_perform_151 (fl_X9_21 rfl) (by assumption) rfl) ?_
  refine gm_go.ru (gm_iload_n dX9_perform_154 rfl) ?_
  refine gm_go.ru (gm_cV dX9_perform_155 (ct_placeOf hO hv.2 ha) rfl mt_X5_placeOf mv_X5_placeOf (lk_X9_77 rfl) (Or.inl ⟨_, 7, _, _, _, rfl, (by assumption), rfl⟩) rfl (Nat.le_of_ble_eq_true rfl) (by decide)) ?_
  rw [hp]
  refine gm_go.ru (gm_cV0 dX9_perform_158 (hc') rfl mt_X5_takeOut mv_X5_takeOut (lk_X9_114 rfl) (Or.inl ⟨_, 7, _, _, _, rfl, (by assumption), rfl⟩) rfl (Nat.le_of_ble_eq_true rfl) (by decide)) ?_
  obtain ⟨h0', hN', hO'⟩ := id g1
  obtain ⟨o1', o2'⟩ := id hO'
  refine gm_go.ru (gm_aload_n dX9_perform_161 rfl (by first | exact Or.inl ⟨_, rfl⟩ | exact Or.inr ⟨_, rfl⟩)) ?_
  refine gm_go.ru (gm_get dX9_perform_162 (fl_X9_21 rfl) h0' rfl) ?_
  refine gm_go.ru (gm_get dX9_perform_165 (fl_X9_118 rfl) o1' rfl) ?_
  exact gm_iret dX9_perform_168 rfl
set_option maxRecDepth 4000 in
theorem ct_do8 {h : gm_H} {r T : Nat} {v : Nat → Int} {a b c : Int} (hS : st_at h r v) (hv : st_iv T v) (hT : T < 1000) (ha : zR a) (hb : ¬ zFind v a < 0) : ∃ h', gm_co mX9_perform 5 [.ref r, .retAddr (7 + 8), .int (zI a), .int (zI b), .int (zI c)] h (.inl (some (.int (zI (zAn v 8 a b c))))) h' ∧ st_at h' r (zDo v 8 a b c) ∧ st_iv (T + 1) (zDo v 8 a b c) ∧ gh_fr h h' (st_K r) := by
  have hz := zFind_r hv.2 a
  obtain ⟨p, hp, hp4⟩ : ∃ p : Nat, zFind v a = (p : Int) ∧ (p : Int) < v 4 := hz.resolve_left (by omega)
  obtain ⟨h0, hN, hO⟩ := id hS
  obtain ⟨h1, h2⟩ := id hN
  obtain ⟨o1, o2⟩ := id hO
  obtain ⟨h', hc', hn, hf⟩ := ct_finish hO hv.2 hp4 hT
  obtain ⟨g1, g2⟩ := st_ov hS hn hf (fun x hx => (zOutB_nd hx).trans (zBk_nd (by omega)))
  have eD : zDo v 8 a b c = zBake v p := by show zBake v (zFind v a).toNat = _; rw [hp, Int.toNat_natCast]
  have eA : zAn v 8 a b c = zLt v p (v 2) := by show zLt v (zFind v a).toNat (v 2) = _; rw [hp, Int.toNat_natCast]
  rw [eD, eA]
  refine ⟨h', ?_, g1, ⟨nd_ivcg hv.1 (fun x hx => (zOutB_nd hx).trans (zBk_nd (by omega))), ov_ivBake hv.2 hT hp4⟩, g2⟩
  refine gm_co_of _ (by decide +kernel) rfl (Nat.le_of_ble_eq_true rfl) rfl ?_
  refine gm_go.ru (gm_gets (v := .retAddr 18) dX9_perform_0 (by decide +kernel) (sl_X9_32 rfl) rfl) ?_
  refine gm_go.ru (gm_aload_n dX9_perform_3 rfl (by first | exact Or.inl ⟨_, rfl⟩ | exact Or.inr ⟨_, rfl⟩)) ?_
  refine gm_go.ru (gm_cU dX9_perform_4 (ct_ordC (w := 8) (by decide)) rfl mt_Jx29ce0_ordinal_8abf5 (lu_X9_38 rfl) (Or.inr ⟨_, rfl, by decide +kernel⟩) rfl (Nat.le_of_ble_eq_true rfl) (by decide)) ?_
  refine gm_go.ru (gi_ki (w := 8) (x := 9) swC dX9_perform_7 (by decide +kernel) (by decide) (by decide) rfl) ?_
  refine gm_go.ru (gm_tabIn (tgt := 169) dX9_perform_8 (by decide +kernel) (by decide +kernel) rfl (by decide)) ?_
  refine gm_go.ru (gm_aload_n dX9_perform_169 rfl (by first | exact Or.inl ⟨_, rfl⟩ | exact Or.inr ⟨_, rfl⟩)) ?_
  refine gm_go.ru (gm_get dX9_perform_170 (fl_X9_21 rfl) (by assumption) rfl) ?_
  refine gm_go.ru (gm_aload_n dX9_perform_173 rfl (by first | exact Or.inl ⟨_, rfl⟩ | exact Or.inr ⟨_, rfl⟩)) ?_
  refine gm_go.ru (gm_get dX9_perform_174 (fl_X9_21 rfl) (by assumption) rfl) ?_
  refine gm_go.ru (gm_iload_n dX9_perform_177 rfl) ?_
  refine gm_go.ru (gm_cV dX9_perform_178 (ct_placeOf hO hv.2 ha) rfl mt_X5_placeOf mv_X5_placeOf (lk_X9_77 rfl) (Or.inl ⟨_, 7, _, _, _, rfl, (by assumption), rfl⟩) rfl (Nat.le_of_ble_eq_true rfl) (by decide)) ?_
  rw [hp]
  refine gm_go.ru (gm_cV dX9_perform_181 (hc') rfl mt_X5_finish mv_X5_finish (lk_X9_121 rfl) (Or.inl ⟨_, 7, _, _, _, rfl, (by assumption), rfl⟩) rfl (Nat.le_of_ble_eq_true rfl) (by decide)) ?_
  exact gm_iret dX9_perform_184 rfl
set_option maxRecDepth 4000 in
theorem ct_do9 {h : gm_H} {r T : Nat} {v : Nat → Int} {a b c : Int} (hS : st_at h r v) (hv : st_iv T v) (hT : T < 1000) (ha : 1 ≤ a ∧ a ≤ 60) : ∃ h', gm_co mX9_perform 5 [.ref r, .retAddr (7 + 9), .int (zI a), .int (zI b), .int (zI c)] h (.inl (some (.int (zI (zAn v 9 a b c))))) h' ∧ st_at h' r (zDo v 9 a b c) ∧ st_iv (T + 1) (zDo v 9 a b c) ∧ gh_fr h h' (st_K r) := by
  obtain ⟨h0, hN, hO⟩ := id hS
  obtain ⟨h1, h2⟩ := id hN
  obtain ⟨o1, o2⟩ := id hO
  obtain ⟨I, M, D, W, o3, o4, o5, o6, o7⟩ := o2
  obtain ⟨b1, hb1⟩ : ∃ x : gm_H, x = (h.1.set (r + 4) (ov_c (v 2 + a) (v 4) (v 3) (v 5) (v 6) (v 8 * 1000000 + v 7) (r + 4)), h.2) := ⟨_, rfl⟩
  have hn : ov_at b1 (r + 4) (zU v 2 (v 2 + a)) := by
    rw [hb1]
    exact ⟨gs_s o1, I, M, D, W, gs_n o3 (by omega), gs_n o4 (by omega), gs_n o5 (by omega), gs_n o6 (by omega), fun k hk => by rw [zU_n (by omega), zU_n (by omega), zU_n (by omega), zU_n (by omega)]; exact o7 k hk⟩
  have hf : gh_fr h b1 (ov_K (r + 4)) := by rw [hb1]; exact gh_set gh_rf ⟨by omega, by omega⟩ _
  obtain ⟨g1, g2⟩ := st_ov hS hn hf (fun x hx => zU_n (by omega))
  refine ⟨b1, ?_, g1, ⟨nd_ivcg hv.1 (fun x hx => zU_n (by omega)), ov_ivR hv.2 hT ha⟩, g2⟩
  refine gm_co_of _ (by decide +kernel) rfl (Nat.le_of_ble_eq_true rfl) rfl ?_
  refine gm_go.ru (gm_gets (v := .retAddr 18) dX9_perform_0 (by decide +kernel) (sl_X9_32 rfl) rfl) ?_
  refine gm_go.ru (gm_aload_n dX9_perform_3 rfl (by first | exact Or.inl ⟨_, rfl⟩ | exact Or.inr ⟨_, rfl⟩)) ?_
  refine gm_go.ru (gm_cU dX9_perform_4 (ct_ordC (w := 9) (by decide)) rfl mt_Jx29ce0_ordinal_8abf5 (lu_X9_38 rfl) (Or.inr ⟨_, rfl, by decide +kernel⟩) rfl (Nat.le_of_ble_eq_true rfl) (by decide)) ?_
  refine gm_go.ru (gi_ki (w := 9) (x := 0) swC dX9_perform_7 (by decide +kernel) (by decide) (by decide) rfl) ?_
  refine gm_go.ru (gm_tabOut (tgt := 185) dX9_perform_8 (by decide +kernel) (by decide)) ?_
  refine gm_go.ru (gm_aload_n dX9_perform_185 rfl (by first | exact Or.inl ⟨_, rfl⟩ | exact Or.inr ⟨_, rfl⟩)) ?_
  refine gm_go.ru (gm_get dX9_perform_186 (fl_X9_21 rfl) (by assumption) rfl) ?_
  refine gm_go.ru (gm_dup dX9_perform_189 rfl) ?_
  refine gm_go.ru (gm_get dX9_perform_190 (fl_X9_124 rfl) (by assumption) rfl) ?_
  refine gm_go.ru (gm_iload_n dX9_perform_193 rfl) ?_
  refine gm_go.ru (gi_add dX9_perform_194) ?_
  refine gm_go.ru (gm_put dX9_perform_195 (fp_X9_124 rfl) (by assumption) (Nat.le_of_ble_eq_true rfl) (by first | exact ⟨rfl, rfl⟩ | exact trivial)) ?_
  refine gm_hp hb1 ?_
  obtain ⟨h0', hN', hO'⟩ := id g1
  obtain ⟨o1', o2'⟩ := id hO'
  refine gm_go.ru (gm_aload_n dX9_perform_198 rfl (by first | exact Or.inl ⟨_, rfl⟩ | exact Or.inr ⟨_, rfl⟩)) ?_
  refine gm_go.ru (gm_get dX9_perform_199 (fl_X9_21 rfl) h0' rfl) ?_
  refine gm_go.ru (gm_get dX9_perform_202 (fl_X9_124 rfl) o1' rfl) ?_
  exact gm_iret dX9_perform_205 rfl
theorem ct_perform {h : gm_H} {r T : Nat} {v : Nat → Int} {a b c : Int} (hS : st_at h r v) (hv : st_iv T v) (hT : T < 1000) {w : Nat} (hw : w < 10) (ha : zR a) (hq : zqWhy v w a b c = 0) : ∃ h', gm_co mX9_perform 5 [.ref r, .retAddr (7 + w), .int (zI a), .int (zI b), .int (zI c)] h (.inl (some (.int (zI (zAn v w a b c))))) h' ∧ st_at h' r (zDo v w a b c) ∧ st_iv (T + 1) (zDo v w a b c) ∧ gh_fr h h' (st_K r) := by
  match w, hw with
  | 0, _ =>
    simp only [zqWhy, zqAdd] at hq
    exact ct_do0 hS hv hT (by (repeat' split at hq) <;> omega) (by (repeat' split at hq) <;> omega)
  | 1, _ =>
    simp only [zqWhy, zqPut] at hq
    exact ct_do1 hS hv hT (by (repeat' split at hq) <;> omega) (by (repeat' split at hq) <;> omega) (by (repeat' split at hq) <;> omega)
  | 2, _ =>
    simp only [zqWhy, zqShift, zqMove] at hq
    exact ct_do2 hS hv hT (by (repeat' split at hq) <;> omega) (by (repeat' split at hq) <;> simp_all)
  | 3, _ =>
    simp only [zqWhy, zqCorrect, zqMove] at hq
    exact ct_do3 hS hv hT (by (repeat' split at hq) <;> omega) (by (repeat' split at hq) <;> simp_all)
  | 4, _ =>
    simp only [zqWhy, zqDiscard] at hq
    exact ct_do4 hS hv hT (by (repeat' split at hq) <;> omega)
  | 5, _ =>
    simp only [zqWhy] at hq
    exact ct_do5 hS hv hT (by split at hq <;> omega)
  | 6, _ =>
    simp only [zqWhy, zqBatch] at hq
    exact ct_do6 hS hv hT (by (repeat' split at hq) <;> omega) (by (repeat' split at hq) <;> omega) (by (repeat' split at hq) <;> omega) (by (repeat' split at hq) <;> omega)
  | 7, _ =>
    simp only [zqWhy] at hq
    exact ct_do7 hS hv hT ha (by split at hq <;> omega)
  | 8, _ =>
    simp only [zqWhy] at hq
    exact ct_do8 hS hv hT ha (by split at hq <;> omega)
  | 9, _ =>
    simp only [zqWhy] at hq
    exact ct_do9 hS hv hT (by split at hq <;> omega)
set_option maxRecDepth 4000 in
theorem ct_stcopy {h : gm_H} {r s : Nat} {v u : Nat → Int} (hS : st_at h r v) (hU : st_at h s u) (hd : r + 9 ≤ s ∨ s + 9 ≤ r) (hu : u 4 ≤ 7) : ∃ h', gm_co mX9_copyFrom 2 [.ref r, .ref s] h (.inl none) h' ∧ st_at h' r u ∧ gh_fr h h' (st_K r) := by
  obtain ⟨h0, hN, hO⟩ := id hS
  obtain ⟨k0, hM, hP⟩ := id hU
  obtain ⟨h1, h2⟩ := id hN
  obtain ⟨a1, hc1, hn1, hf1⟩ := ct_ndcopy hN hM (by omega)
  have hO1 := ov_fr hf1 (fun k hk z => by have := hk.1; have := z.2; omega) hO
  have hP1 := ov_fr hf1 (fun k hk z => by have := hk.1; have := z.2; have := z.1; have := hk.2; omega) hP
  have g0 := gh_at hf1 h0 (fun z => by have := z.1; omega)
  have gk := gh_at hf1 k0 (fun z => by have := z.1; have := z.2; omega)
  obtain ⟨o1, o2⟩ := id hO1
  obtain ⟨a2, hc2, hn2, hf2⟩ := ct_ovcopy hO1 hP1 (by omega) hu
  have e0 := gh_at hf2 g0 (fun z => by have := z.1; omega)
  have eN := nd_fr hf2 (fun k hk z => by have := hk.2; have := z.1; omega) hn1
  refine ⟨a2, ?_, ⟨e0, eN, hn2⟩, gh_tr (gh_mono hf1 fun k hk => ⟨by have := hk.1; omega, by have := hk.2; omega⟩) (gh_mono hf2 fun k hk => ⟨by have := hk.1; omega, by have := hk.2; omega⟩)⟩
  refine gm_co_of _ (by decide +kernel) rfl (Nat.le_of_ble_eq_true rfl) rfl ?_
  refine gm_go.ru (gm_aload_n dX9_copyFrom_0 rfl (by first | exact Or.inl ⟨_, rfl⟩ | exact Or.inr ⟨_, rfl⟩)) ?_
  refine gm_go.ru (gm_get dX9_copyFrom_1 (fl_X9_12 rfl) h0 rfl) ?_
  refine gm_go.ru (gm_aload_n dX9_copyFrom_4 rfl (by first | exact Or.inl ⟨_, rfl⟩ | exact Or.inr ⟨_, rfl⟩)) ?_
  refine gm_go.ru (gm_get dX9_copyFrom_5 (fl_X9_12 rfl) k0 rfl) ?_
  refine gm_go.ru (gm_cV0 dX9_copyFrom_8 (hc1) rfl mt_X3_copyFrom mv_X3_copyFrom (lk_X9_25 rfl) (Or.inl ⟨_, 5, _, _, _, rfl, h1, rfl⟩) rfl (Nat.le_of_ble_eq_true rfl) (by decide)) ?_
  refine gm_go.ru (gm_aload_n dX9_copyFrom_11 rfl (by first | exact Or.inl ⟨_, rfl⟩ | exact Or.inr ⟨_, rfl⟩)) ?_
  refine gm_go.ru (gm_get dX9_copyFrom_12 (fl_X9_21 rfl) g0 rfl) ?_
  refine gm_go.ru (gm_aload_n dX9_copyFrom_15 rfl (by first | exact Or.inl ⟨_, rfl⟩ | exact Or.inr ⟨_, rfl⟩)) ?_
  refine gm_go.ru (gm_get dX9_copyFrom_16 (fl_X9_21 rfl) gk rfl) ?_
  refine gm_go.ru (gm_cV0 dX9_copyFrom_19 (hc2) rfl mt_X5_copyFrom mv_X5_copyFrom (lk_X9_29 rfl) (Or.inl ⟨_, 7, _, _, _, rfl, o1, rfl⟩) rfl (Nat.le_of_ble_eq_true rfl) (by decide)) ?_
  exact gm_vret dX9_copyFrom_22 rfl
