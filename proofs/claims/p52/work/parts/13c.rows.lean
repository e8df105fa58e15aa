/-! more rows: null, floats, longs, arrays of booleans and of objects, casts, calls of interfaces -/
theorem gm_null {M : gm_M} {d pc : Nat} {ls : List (Option Value)} {st : List Value} {h : gm_H} (hd : decode M.2.1 pc = .ok (.aconst_null, 1)) : gm_go M d (pc, ls, st, h) (pc + 1, ls, .retAddr 998 :: st, h) :=
  gm_go_st fun G p l e R s m args below meth c C ws H locs A stC cells slots Q hW hl hs kk => lv_null C.1 C.2.1 hd (kk _ ⟨_, _, rfl, gm_kk_n.symm, hs⟩)
theorem gm_ifnonnullN {M : gm_M} {d pc : Nat} {ls : List (Option Value)} {st : List Value} {h : gm_H} {off : Int} (hd : decode M.2.1 pc = .ok (.ifnonnull off, 3)) : gm_go M d (pc, ls, .retAddr 998 :: st, h) (pc + 3, ls, st, h) :=
  gm_go_st fun G p l e R s m args below meth c C ws H locs A stC cells slots Q hW hl hs kk => by
    obtain ⟨_, _, rfl, h1, hs⟩ := hs
    rw [show _ = gm_kk G 998 from h1, gm_kk_n]
    exact lv_ifnonnullN C.1 C.2.1 hd (kk _ hs)
theorem gm_fconst1 {M : gm_M} {d pc : Nat} {ls : List (Option Value)} {st : List Value} {h : gm_H} (hd : decode M.2.1 pc = .ok (.fconst 1, 1)) : gm_go M d (pc, ls, st, h) (pc + 1, ls, .float FP.fconst1 :: st, h) :=
  gm_go_st fun G p l e R s m args below meth c C ws H locs A stC cells slots Q hW hl hs k => lv_fconst1 C.1 C.2.1 hd (k _ ⟨_, _, rfl, rfl, hs⟩)
theorem gm_ldcf {M : gm_M} {d pc : Nat} {ls : List (Option Value)} {st : List Value} {h : gm_H} {index : Nat} {v : UInt32} (hd : decode M.2.1 pc = .ok (.ldc index, 2)) (hw : Cond.constantFloat M.1.cls index v ∈ gm_big) : gm_go M d (pc, ls, st, h) (pc + 2, ls, .float v :: st, h) :=
  gm_go_st fun G p l e R s m args below meth c C ws H locs A stC cells slots Q hW hl hs k => lv_ldcf C.1 C.2.1 C.2.2.2.1 (gm_Ct C _ hw) hd (k _ ⟨_, _, rfl, rfl, hs⟩)
theorem gm_ldc2d {M : gm_M} {d pc : Nat} {ls : List (Option Value)} {st : List Value} {h : gm_H} {index : Nat} {v : UInt64} (hd : decode M.2.1 pc = .ok (.ldc2_w index, 3)) (hw : Cond.constantDouble M.1.cls index v ∈ gm_big) : gm_go M d (pc, ls, st, h) (pc + 3, ls, .double v :: st, h) :=
  gm_go_st fun G p l e R s m args below meth c C ws H locs A stC cells slots Q hW hl hs k => lv_ldc2d C.1 C.2.1 C.2.2.2.1 (gm_Ct C _ hw) hd (k _ ⟨_, _, rfl, rfl, hs⟩)
theorem gm_lsub {M : gm_M} {d pc : Nat} {ls : List (Option Value)} {st : List Value} {h : gm_H} {x y : Int64} (hd : decode M.2.1 pc = .ok (.lsub, 1)) : gm_go M d (pc, ls, .long y :: .long x :: st, h) (pc + 1, ls, .long (x - y) :: st, h) :=
  gm_go_st fun G p l e R s m args below meth c C ws H locs A stC cells slots Q hW hl hs k => by
    obtain ⟨_, _, rfl, rfl, _, _, rfl, rfl, hs⟩ := hs
    exact lv_lsub C.1 C.2.1 hd (k _ ⟨_, _, rfl, rfl, hs⟩)
theorem gm_lneg {M : gm_M} {d pc : Nat} {ls : List (Option Value)} {st : List Value} {h : gm_H} {x : Int64} (hd : decode M.2.1 pc = .ok (.lneg, 1)) : gm_go M d (pc, ls, .long x :: st, h) (pc + 1, ls, .long (-x) :: st, h) :=
  gm_go_st fun G p l e R s m args below meth c C ws H locs A stC cells slots Q hW hl hs k => by
    obtain ⟨_, _, rfl, rfl, hs⟩ := hs
    exact lv_lneg C.1 C.2.1 hd (k _ ⟨_, _, rfl, rfl, hs⟩)
/-! longs as whole numbers -/
abbrev zRL (z : Int) : Prop := -9223372036854775808 ≤ z ∧ z ≤ 9223372036854775807
theorem zL_mul (a b : Int) : zL a * zL b = zL (a * b) := (Int64.ofInt_mul a b).symm
theorem zL_neg (a : Int) : -zL a = zL (-a) := (Int64.ofInt_neg a).symm
theorem zL_lt {a b : Int} (ha : zRL a) (hb : zRL b) : zL a < zL b ↔ a < b := by rw [Int64.lt_iff_toInt_lt, zL_toInt ha.1 ha.2, zL_toInt hb.1 hb.2]
theorem gi_lneg {M : gm_M} {d pc : Nat} {ls : List (Option Value)} {st : List Value} {h : gm_H} {a : Int} (hd : decode M.2.1 pc = .ok (.lneg, 1)) : gm_go M d (pc, ls, .long (zL a) :: st, h) (pc + 1, ls, .long (zL (-a)) :: st, h) := by rw [← zL_neg]; exact gm_lneg hd
theorem gi_lmul {M : gm_M} {d pc : Nat} {ls : List (Option Value)} {st : List Value} {h : gm_H} {a b : Int} (hd : decode M.2.1 pc = .ok (.lmul, 1)) : gm_go M d (pc, ls, .long (zL b) :: .long (zL a) :: st, h) (pc + 1, ls, .long (zL (a * b)) :: st, h) := by rw [← zL_mul]; exact gm_lmul hd
/-- a comparison of longs: 1, 0 or -1 -/
def zcm (a b : Int) : Int := if a < b then -1 else if a = b then 0 else 1
theorem gi_lcmp {M : gm_M} {d pc : Nat} {ls : List (Option Value)} {st : List Value} {h : gm_H} {a b : Int} (hd : decode M.2.1 pc = .ok (.lcmp, 1)) (ha : zRL a) (hb : zRL b) : gm_go M d (pc, ls, .long (zL b) :: .long (zL a) :: st, h) (pc + 1, ls, .int (zI (zcm a b)) :: st, h) := by
  have e : lg_cmp (zL a) (zL b) = zI (zcm a b) := by
    have h1 := zL_lt ha hb
    have h2 := zL_lt hb ha
    have h3 : zL a = zL b ↔ a = b := by rw [← Int64.toInt_inj, zL_toInt ha.1 ha.2, zL_toInt hb.1 hb.2]
    unfold lg_cmp zcm
    by_cases q1 : a < b
    · have : ¬ a = b := by omega
      simp [h1, h2, h3, q1, this]
      try rfl
      try (split <;> first | rfl | omega)
    · by_cases q2 : a = b
      · subst q2; simp; try rfl
      · have q3 : b < a := by omega
        have q4 : ¬ b = a := by omega
        simp [h1, h2, h3, q1, q2, q3]
        try rfl
  rw [← e]
  exact gm_lcmp hd
theorem zL_i {a : Int} (h : zR a) : (zL a).toInt32 = zI a := by
  rw [← zI_long h]
  exact Int32.toInt32_toInt64 _
theorem gi_l2i {M : gm_M} {d pc : Nat} {ls : List (Option Value)} {st : List Value} {h : gm_H} {a : Int} (hd : decode M.2.1 pc = .ok (.l2i, 1)) (ha : zR a) : gm_go M d (pc, ls, .long (zL a) :: st, h) (pc + 1, ls, .int (zI a) :: st, h) := by rw [← zL_i ha]; exact gm_l2i hd
/-! booleans in rows -/
theorem gm_zald {M : gm_M} {d pc : Nat} {ls : List (Option Value)} {st : List Value} {h : gm_H} {k n : Nat} {i : Int32} {f : Nat → Int32} (hd : decode M.2.1 pc = .ok (.baload, 1)) (hk : h.1[k]? = some (.inl (6, n, .inl f))) (hin : vp_in i n) : gm_go M d (pc, ls, .int i :: .ref k :: st, h) (pc + 1, ls, .int (f i.toNatClampNeg) :: st, h) :=
  gm_go_st fun G p l e R s m args below meth c C ws H locs A stC cells slots Q hW hl hs kk => by
    obtain ⟨_, _, rfl, rfl, _, _, rfl, ⟨q, hq, rfl⟩, hs⟩ := hs
    obtain ⟨q', hq', hcell⟩ := gm_h_get hW.2.2.1 hk
    cases Option.some.inj (hq.symm.trans hq')
    obtain ⟨ty, cA, y, t0, t1, he, hx⟩ := hcell
    cases t0
    obtain ⟨b, x9⟩ := q
    dsimp only at he
    subst he
    have hx : y = .inl f := hx
    subst hx
    exact va_zald C.1 C.2.1 (gm_Ck C) hW.1 k 6 hq t1 hin hd (kk _ ⟨_, _, rfl, rfl, hs⟩)
theorem gm_zast {M : gm_M} {d pc : Nat} {ls : List (Option Value)} {st : List Value} {h : gm_H} {k n : Nat} {i : Int32} {x : Int32} {f : Nat → Int32} (hd : decode M.2.1 pc = .ok (.bastore, 1)) (hk : h.1[k]? = some (.inl (6, n, .inl f))) (hin : vp_in i n) : gm_go M d (pc, ls, .int x :: .int i :: .ref k :: st, h) (pc + 1, ls, st, (h.1.set k (.inl (6, n, .inl (upd f i.toNatClampNeg (vp_nar .boolean x)))), h.2)) :=
  gm_go_hp fun G p l e R s m args below meth c C ws H locs A stC cells slots Q hW hl hs kk => by
    obtain ⟨_, _, rfl, rfl, _, _, rfl, rfl, _, _, rfl, ⟨q, hq, rfl⟩, hs⟩ := hs
    obtain ⟨q', hq', hcell⟩ := gm_h_get hW.2.2.1 hk
    cases Option.some.inj (hq.symm.trans hq')
    obtain ⟨ty, cA, y, t0, t1, he, hx⟩ := hcell
    cases t0
    obtain ⟨b, x9⟩ := q
    dsimp only at he
    subst he
    have hx : y = .inl f := hx
    subst hx
    exact va_zast C.1 C.2.1 (gm_Ck C) hW.1 hW.2.1 hW.2.2.2 k 6 hq t1 hin hd (fun H1 locs1 hP hD hS => kk b _ _ H1 locs1 _ hq ⟨_, cA, _, rfl, t1, rfl, rfl⟩ hP hD hS hs)
theorem gm_newa_boolean {M : gm_M} {d pc : Nat} {ls : List (Option Value)} {st : List Value} {h : gm_H} {n : Int32} {N : Nat} (hd : decode M.2.1 pc = .ok (.newarray .boolean, 2)) (hw : Cond.arrayClass .boolean ∈ gm_big) (hn : ¬ n < 0) (hN : n.toNatClampNeg = N) (hb : N * 1 ≤ 536870912) : gm_go M d (pc, ls, .int n :: st, h) (pc + 2, ls, .ref h.1.length :: st, (h.1 ++ [.inl (6, N, .inl (fun _ => 0))], (h.2.1 + 1, h.2.2 + N))) :=
  gm_go_mk fun G p l e R s m args below meth c C ws H locs A stC cells slots Q hW hl hs r1 r2 kk => by
    obtain ⟨_, _, rfl, rfl, hs⟩ := hs
    obtain ⟨cB, hB⟩ := gm_ty_at (t := 6) (ty := .boolean) (gm_Ce C).2.2.1 rfl
    refine va_newa (atype := .boolean) (ty := .boolean) (a0 := (N, .inl (fun _ => 0))) C.1 C.2.1 (gm_Ct C _ hw) rfl (gm_Ck C) hW.1 hW.2.1 hW.2.2.2 (gm_Cf C) (fun cA => rfl) hn hN hb r1 r2 hd (fun q cA H1 hK2 hP hD hS => ?_)
    have := gm_newa_id (gm_Ck C) hB hK2
    subst this
    exact kk q _ H1 locs _ ⟨_, _, _, rfl, hB, rfl, rfl⟩ hP hD hS hs
/-! rows of constant objects: kind 7; an element is a constant thing's number -/
theorem gm_newo {M : gm_M} {d pc : Nat} {ls : List (Option Value)} {st : List Value} {h : gm_H} {n : Int32} {N index : Nat} (hd : decode M.2.1 pc = .ok (.anewarray index, 3)) (hw : Cond.classLink M.1.cls index "java/lang/Object" ∈ gm_big) (hn : ¬ n < 0) (hN : n.toNatClampNeg = N) (hb : N * 4 ≤ 536870912) : gm_go M d (pc, ls, .int n :: st, h) (pc + 3, ls, .ref h.1.length :: st, (h.1 ++ [.inl (7, N, .inr (.inr (.inr (.inr (fun _ => none)))))], (h.2.1 + 1, h.2.2 + N))) :=
  gm_go_mk fun G p l e R s m args below meth c C ws H locs A stC cells slots Q hW hl hs r1 r2 kk => by
    obtain ⟨_, _, rfl, rfl, hs⟩ := hs
    obtain ⟨cB, hB⟩ := gm_ty_at (t := 7) (ty := .object "java/lang/Object") (gm_Ce C).2.2.1 rfl
    refine va_newq C.1 C.2.1 C.2.2.2.1 (gm_Ct C _ hw) (gm_Ckc C).2.2.2.2.2.2.2.2.1 (gm_Ck C) hW.1 hW.2.1 hW.2.2.2 (gm_Cf C) hn hN hb r1 r2 hd (fun q cA H1 hK2 hP hD hS => ?_)
    have := gm_newa_id (gm_Ck C) hB hK2
    subst this
    exact kk q _ H1 locs _ ⟨_, _, _, rfl, hB, rfl, _, rfl, fun _ => rfl⟩ hP hD hS hs
theorem gm_oald {M : gm_M} {d pc : Nat} {ls : List (Option Value)} {st : List Value} {h : gm_H} {k n j : Nat} {i : Int32} {f : Nat → Option Nat} (hd : decode M.2.1 pc = .ok (.aaload, 1)) (hk : h.1[k]? = some (.inl (7, n, .inr (.inr (.inr (.inr f)))))) (hin : vp_in i n) (hj : f i.toNatClampNeg = some j) (hj9 : j ≠ 998) : gm_go M d (pc, ls, .int i :: .ref k :: st, h) (pc + 1, ls, .retAddr j :: st, h) :=
  gm_go_st fun G p l e R s m args below meth c C ws H locs A stC cells slots Q hW hl hs kk => by
    obtain ⟨_, _, rfl, rfl, _, _, rfl, ⟨q, hq, rfl⟩, hs⟩ := hs
    obtain ⟨q', hq', hcell⟩ := gm_h_get hW.2.2.1 hk
    cases Option.some.inj (hq.symm.trans hq')
    obtain ⟨ty, cA, y, t0, t1, he, hx⟩ := hcell
    cases t0
    obtain ⟨b, x9⟩ := q
    dsimp only at he
    subst he
    obtain ⟨g, rfl, hg⟩ := hx
    have h9 := hg i.toNatClampNeg
    rw [hj] at h9
    simp only [if_true] at h9
    refine va_aldq C.1 C.2.1 (gm_Ck C) hW.1 k 7 hq t1 hin hd ?_
    rw [h9]
    exact kk _ ⟨_, _, rfl, (gm_kk_r hj9).symm, hs⟩
theorem gm_asg {s : State} {args : Array Value} {C E : String} (h : (Cond.castable C E).before args s = true) : ∀ comp c0 : ClassId, s.vm.findClass E = some comp → s.vm.findClass C = some c0 → s.vm.assignable c0 comp = true := by
  intro comp c0 h1 h2
  obtain ⟨a, b, f1, f2, f3⟩ := Cond.castable_spec h
  rw [Option.some.inj (h2.symm.trans f1), Option.some.inj (h1.symm.trans f2)]
  exact f3
theorem gm_oast {M : gm_M} {d pc : Nat} {ls : List (Option Value)} {st : List Value} {h : gm_H} {k n j : Nat} {i : Int32} {Cn : String} {f : Nat → Option Nat} (hd : decode M.2.1 pc = .ok (.aastore, 1)) (hk : h.1[k]? = some (.inl (7, n, .inr (.inr (.inr (.inr f)))))) (hin : vp_in i n) (hj : (j, Cn) ∈ gm_Ko) (hc : Cond.castable Cn "java/lang/Object" ∈ gm_big) : gm_go M d (pc, ls, .retAddr j :: .int i :: .ref k :: st, h) (pc + 1, ls, st, (h.1.set k (.inl (7, n, .inr (.inr (.inr (.inr (va_up f i.toNatClampNeg (some j))))))), h.2)) :=
  gm_go_hp fun G p l e R s m args below meth c C ws H locs A stC cells slots Q hW hl hs kk => by
    obtain ⟨_, _, rfl, hv, _, _, rfl, rfl, _, _, rfl, ⟨q, hq, rfl⟩, hs⟩ := hs
    obtain ⟨b9, hb9, hcell9⟩ := gm_rc_at C hW (rv := .retAddr j) (Cn := Cn) (Or.inr ⟨_, rfl, hj⟩) hv
    have e9 : b9 = gm_A G j := by
      have h1 : _ = gm_kk G j := hv
      rw [gm_kk_r (gm_Ko_998 _ hj), hb9] at h1
      injection h1
    subst hb9
    obtain ⟨q', hq', hcell⟩ := gm_h_get hW.2.2.1 hk
    cases Option.some.inj (hq.symm.trans hq')
    obtain ⟨ty, cA, y, t0, t1, he, hx⟩ := hcell
    cases t0
    obtain ⟨b, x9⟩ := q
    dsimp only at he
    subst he
    obtain ⟨g, rfl, hg⟩ := hx
    refine vb_astq (C := Cn) C.1 C.2.1 (gm_Ck C) hW.1 hW.2.1 hW.2.2.2 k 7 hq t1 hcell9 (gm_asg (gm_Ct C _ hc)) hin hd (fun H1 locs1 hP hD hS => kk b _ _ H1 locs1 _ hq ⟨_, cA, _, rfl, t1, rfl, _, rfl, fun u => ?_⟩ hP hD hS hs)
    by_cases hu : u = i.toNatClampNeg
    · simp only [va_up, hu, if_true]
      rw [e9]
    · simp only [va_up, if_neg hu]
      exact hg u
theorem gm_ocopy {M : gm_M} {d pc : Nat} {ls : List (Option Value)} {st : List Value} {h : gm_H} {index k n : Nat} {Cn : String} {f : Nat → Option Nat} {sp dp z : Int32} (hd : decode M.2.1 pc = .ok (.invokestatic index, 3)) (hw : gm_cp M index) (hk : h.1[k]? = some (.inl (7, n, .inr (.inr (.inr (.inr f))))))
    (h1 : ¬ sp < 0) (h2 : ¬ dp < 0) (h3 : ¬ z < 0) (h4 : sp.toNatClampNeg + z.toNatClampNeg ≤ n) (h5 : dp.toNatClampNeg + z.toNatClampNeg ≤ n) (hel : ∀ i : Nat, i < z.toNatClampNeg → ∀ y : Nat, f (sp.toNatClampNeg + i) = some y → (y, Cn) ∈ gm_Ko) (hc : Cond.castable Cn "java/lang/Object" ∈ gm_big) (hrest : (st.map fun v => v.category).sum ≤ 8) (hdd : 1 ≤ d) :
    gm_go M d (pc, ls, .int z :: .int dp :: .ref k :: .int sp :: .ref k :: st, h) (pc + 3, ls, st, (h.1.set k (.inl (7, n, .inr (.inr (.inr (.inr (va_cpy f f sp.toNatClampNeg dp.toNatClampNeg z.toNatClampNeg)))))), h.2)) :=
  gm_go_hp fun G p l e R s m args below meth c C ws H locs A stC cells slots Q hW hl hs kk => by
    obtain ⟨_, _, rfl, rfl, _, _, rfl, rfl, _, _, rfl, ⟨q, hq, rfl⟩, _, _, rfl, rfl, _, _, rfl, ⟨r, hr, rfl⟩, hs⟩ := hs
    cases Option.some.inj (hq.symm.trans hr)
    have c1 := C.2.2.2.2.2.2.2.2.2.2.1
    have c2 := C.2.2.2.2.2.2.2.2.2.2.2
    have hcat := gm_st_cat hs
    have hnf := gm_nfw
    obtain ⟨q', hq', ty1, cA, y, t0, t1, he, hx⟩ := gm_h_get hW.2.2.1 hk
    cases Option.some.inj (hq.symm.trans hq')
    cases t0
    obtain ⟨b, x9⟩ := q
    dsimp only at he
    subst he
    obtain ⟨g, rfl, hg⟩ := hx
    have hgf : ∀ j v, f j = some v → g j = some (gm_A G v) := fun j v hv => by
      have h9 := hg j
      rw [hv] at h9
      simpa only [if_true] using h9
    have hgn : ∀ j, f j = none → g j = none := fun j hv => by
      have h9 := hg j
      rw [hv] at h9
      exact h9
    refine va_copyq (C := Cn) C.1 C.2.1 (C.2.2.1.trans hl.1.symm) C.2.2.2.1 (gm_Ct C _ hw.1) (gm_Ct C _ hw.2.1) (gm_Ct C _ hw.2.2.1) (gm_Ct C _ hw.2.2.2) (gm_Ck C) hW.1 hW.2.1 hW.2.2.2 k k 7 7 hq hq t1 t1 h1 h2 h3 h4 h5 (fun i hi y hy => ?_) (gm_asg (gm_Ct C _ hc)) (by omega) (by omega) hd (fun H1 locs1 hP hD hS => kk b _ _ H1 locs1 _ hq ⟨_, cA, _, rfl, t1, rfl, _, rfl, fun u => ?_⟩ hP hD hS hs)
    · cases hf : f (sp.toNatClampNeg + i) with
      | none => rw [hgn _ hf] at hy; cases hy
      | some v =>
        rw [hgf _ _ hf] at hy
        cases hy
        have hm := hel i hi v hf
        obtain ⟨cell, g1, g2, g3, g4⟩ := va_O.kept ((gm_Ckc C).2.2.1 (v, Cn) hm) hW.2.2.2.2.1
        exact ⟨cell, g1, g2, g3⟩
    · unfold va_cpy
      split
      · exact hg _
      · exact hg u
theorem gm_ccast {M : gm_M} {d pc : Nat} {ls : List (Option Value)} {st : List Value} {h : gm_H} {index : Nat} {rv : Value} {Cn nm : String} (hd : decode M.2.1 pc = .ok (.checkcast index, 3)) (hw : Cond.classLink M.1.cls index nm ∈ gm_big) (hr : gm_rc h rv Cn) (hc : Cn = nm ∨ Cond.castable Cn nm ∈ gm_big) : gm_go M d (pc, ls, rv :: st, h) (pc + 3, ls, rv :: st, h) :=
  gm_go_st fun G p l e R s m args below meth c C ws H locs A stC cells slots Q hW hl hs kk => by
    obtain ⟨x, _, rfl, hv, hs⟩ := hs
    obtain ⟨b, rfl, hcell⟩ := gm_rc_at C hW hr hv
    rcases hc with rfl | hc
    · exact va_castE C.1 C.2.1 C.2.2.2.1 (gm_Ct C _ hw) hcell hd (kk _ ⟨_, _, rfl, hv, hs⟩)
    · exact va_castY C.1 C.2.1 C.2.2.2.1 (gm_Ct C _ hw) (va_Nw.of rfl (gm_Ct C _ hc)) hcell hd (kk _ ⟨_, _, rfl, hv, hs⟩)
theorem gm_inst {M : gm_M} {d pc : Nat} {ls : List (Option Value)} {st : List Value} {h : gm_H} {index : Nat} {rv : Value} {nm : String} (hd : decode M.2.1 pc = .ok (.instanceof index, 3)) (hw : Cond.classLink M.1.cls index nm ∈ gm_big) (hr : gm_rc h rv nm) : gm_go M d (pc, ls, rv :: st, h) (pc + 3, ls, .int (zI 1) :: st, h) :=
  gm_go_st fun G p l e R s m args below meth c C ws H locs A stC cells slots Q hW hl hs kk => by
    obtain ⟨x, _, rfl, hv, hs⟩ := hs
    obtain ⟨b, rfl, hcell⟩ := gm_rc_at C hW hr hv
    exact va_instE C.1 C.2.1 C.2.2.2.1 (gm_Ct C _ hw) hcell hd (kk _ ⟨_, _, rfl, rfl, hs⟩)
/-- two made cells are two -/
theorem gm_acmp_cells {M : gm_M} {d pc : Nat} {ls : List (Option Value)} {st : List Value} {h : gm_H} {i j : Nat} {off : Int} {tgt : Nat} (hd : decode M.2.1 pc = .ok (.if_acmp .ne off, 3)) (ht : (pc : Int) + off = (tgt : Int)) (hne : i ≠ j) : gm_go M d (pc, ls, .ref j :: .ref i :: st, h) (tgt, ls, st, h) :=
  gm_go_st fun G p l e R s m args below meth c C ws H locs A stC cells slots Q hW hl hs kk => by
    obtain ⟨_, _, rfl, ⟨q, hq, rfl⟩, _, _, rfl, ⟨r, hr, rfl⟩, hs⟩ := hs
    exact lv_acmp_ne (rx := some r.1) (ry := some q.1) C.1 C.2.1 hd ht (fun _ => kk _ hs) (fun z => absurd (hW.2.1.1 i j r q hr hq (Option.some.inj z)) hne)
/-- an array of bytes copied whole -/
def gm_cl9 (M : gm_M) (index : Nat) : Prop := Cond.methodLink M.1.cls index ⟨"[B", "clone", "()Ljava/lang/Object;"⟩ ∈ gm_big ∧ Cond.sameMethod "[B" "java/lang/Object" "clone" "()Ljava/lang/Object;" ∈ gm_big ∧ Cond.native ⟨"java/lang/Object", "clone", "()Ljava/lang/Object;"⟩ ∈ gm_big ∧ Cond.instanceMethod ⟨"java/lang/Object", "clone", "()Ljava/lang/Object;"⟩ ∈ gm_big ∧ Cond.selects "[B" ⟨"[B", "clone", "()Ljava/lang/Object;"⟩ ⟨"java/lang/Object", "clone", "()Ljava/lang/Object;"⟩ ∈ gm_big ∧ Cond.castable "[B" "java/lang/Cloneable" ∈ gm_big
theorem gm_bname {G : gm_G} {s : State} {cA : ClassId} (hK : va_K (gm_D G) vwCl (gm_T G) s) (h : (gm_T G)[4]? = some (cA, .byte)) : s.vm.findClass "[B" = some cA := (hK.2 4 _ h).2
theorem gm_clone {M : gm_M} {d pc : Nat} {ls : List (Option Value)} {st : List Value} {h : gm_H} {index k n : Nat} {f : Nat → Int32} (hd : decode M.2.1 pc = .ok (.invokevirtual index, 3)) (hw : gm_cl9 M index) (hk : h.1[k]? = some (.inl (4, n, .inl f))) (hf : ∀ i, fits .byte (.int (f i)) = true) (hrest : (st.map fun v => v.category).sum ≤ 8) (hdd : 1 ≤ d) : gm_go M d (pc, ls, .ref k :: st, h) (pc + 3, ls, .ref h.1.length :: st, (h.1 ++ [.inl (4, n, .inl f)], (h.2.1 + 1, h.2.2 + n))) :=
  gm_go_mk fun G p l e R s m args below meth c C ws H locs A stC cells slots Q hW hl hs r1 r2 kk => by
    obtain ⟨_, _, rfl, ⟨q, hq, rfl⟩, hs⟩ := hs
    have c1 := C.2.2.2.2.2.2.2.2.2.2.1
    have c2 := C.2.2.2.2.2.2.2.2.2.2.2
    have hcat := gm_st_cat hs
    obtain ⟨q', hq', hcell⟩ := gm_h_get hW.2.2.1 hk
    cases Option.some.inj (hq.symm.trans hq')
    obtain ⟨ty, cA, y, t0, t1, he, hx⟩ := hcell
    cases t0
    obtain ⟨b, x9⟩ := q
    dsimp only at he
    subst he
    have hx : y = .inl f := hx
    subst hx
    obtain ⟨w1, w2, w3, w4, w5, w6⟩ := hw
    refine va_clone C.1 C.2.1 (C.2.2.1.trans hl.1.symm) C.2.2.2.1 (gm_Ct C _ w1) (gm_Ct C _ w2) (gm_Ct C _ w3) (gm_Ct C _ w4) (gm_Ct C _ w5) (va_Nw.of rfl (gm_Ct C _ w6)) (gm_Ck C) hW.1 hW.2.1 hW.2.2.2 (gm_Cf C) k hq t1 (gm_bname (gm_Ck C) t1) (fun i v hv => ?_) (by omega) (by omega) r1 r2 hd (fun q H1 hK2 hP hD hS => kk q _ H1 locs _ ⟨_, _, _, rfl, t1, rfl, rfl⟩ hP hD hS hs)
    have hlt : i < n := by
      have h1 := (Array.getElem?_eq_some_iff.mp hv).1
      have h2 : (vp_cell cA ((n, .inl f) : vp_A)).slots.size = n := arrV_size _ _ _
      omega
    have h1 : (vp_cell cA ((n, .inl f) : vp_A)).slots[i]? = some (.int (f i)) := arrV_read _ _ hlt
    rw [h1] at hv
    cases hv
    exact hf i
theorem gm_castB {M : gm_M} {d pc : Nat} {ls : List (Option Value)} {st : List Value} {h : gm_H} {index k n : Nat} {f : Nat → Int32} (hd : decode M.2.1 pc = .ok (.checkcast index, 3)) (hw : Cond.classLink M.1.cls index "[B" ∈ gm_big) (hk : h.1[k]? = some (.inl (4, n, .inl f))) : gm_go M d (pc, ls, .ref k :: st, h) (pc + 3, ls, .ref k :: st, h) :=
  gm_go_st fun G p l e R s m args below meth c C ws H locs A stC cells slots Q hW hl hs kk => by
    obtain ⟨_, _, rfl, ⟨q, hq, rfl⟩, hs⟩ := hs
    obtain ⟨q', hq', hcell⟩ := gm_h_get hW.2.2.1 hk
    cases Option.some.inj (hq.symm.trans hq')
    obtain ⟨ty, cA, y, t0, t1, he, hx⟩ := hcell
    cases t0
    obtain ⟨b, x9⟩ := q
    dsimp only at he
    subst he
    exact va_castA C.1 C.2.1 C.2.2.2.1 (gm_Ct C _ hw) hW.1 k hq (gm_bname (gm_Ck C) t1) hd (kk _ ⟨_, _, rfl, ⟨_, hq, rfl⟩, hs⟩)
/-! a field that is named through the class below its own -/
def gm_fl2 (M : gm_M) (index ci j : Nat) (ref : String) : Prop := ∃ (C : String) (T : u_T) (N : Nat), vwCl[ci]? = some (C, T, N) ∧ (∀ w ∈ u_ws C T N, w ∈ gm_big) ∧ j < N ∧ Cond.fieldLink M.1.cls index ref (T j).2.1 (T j).2.2.1 ∈ gm_big ∧ Cond.sameField ref (T j).1 (T j).2.1 (T j).2.2.1 ∈ gm_big
theorem gm_get2 {M : gm_M} {d pc : Nat} {ls : List (Option Value)} {st : List Value} {h : gm_H} {index ci j k : Nat} {ref : String} {fs : List Value} {v : Value} (hd : decode M.2.1 pc = .ok (.getfield index, 3)) (hf : gm_fl2 M index ci j ref) (hk : h.1[k]? = some (.inr (ci, fs))) (hv : fs[j]? = some v) : gm_go M d (pc, ls, .ref k :: st, h) (pc + 3, ls, v :: st, h) :=
  gm_go_st fun G p l e R s m args below meth c C ws H locs A stC cells slots Q hW hl hs kk => by
    obtain ⟨_, _, rfl, ⟨q, hq, rfl⟩, hs⟩ := hs
    obtain ⟨Cn, T, N, h1, h2, h3, h4, h5⟩ := hf
    obtain ⟨q', hq', fs', he, hst⟩ := gm_h_get hW.2.2.1 hk
    cases Option.some.inj (hq.symm.trans hq')
    obtain ⟨b, x⟩ := q
    dsimp only at he
    subst he
    obtain ⟨w, hw, hvw⟩ := gm_st_get hst hv
    exact va_get C.1 C.2.1 (gm_Ct C) h2 C.2.2.2.1 (gm_Ck C) hW.1 k hq h1 j h3 (gm_Ct C _ h4) (fun x9 h9 => u_same (gm_Ct C _ h5) x9 h9) hw hd (kk _ ⟨_, _, rfl, hvw, hs⟩)
def gm_fp2 (M : gm_M) (index ci j : Nat) (ty : FieldType) (ref : String) : Prop := ∃ (C : String) (T : u_T) (N : Nat) (ty0 : Nat → FieldType), vwCl[ci]? = some (C, T, N) ∧ (∀ w ∈ u_ws C T N, w ∈ gm_big) ∧ j < N ∧
  (∀ k, k < N → parseFieldDescriptor (T k).2.2.1 = some (ty0 k)) ∧ (∀ a, a < N → ∀ b, b < N → a ≠ b → (T a).2.1 ≠ (T b).2.1) ∧ parseFieldDescriptor (T j).2.2.1 = some ty ∧
  Cond.fieldLink M.1.cls index ref (T j).2.1 (T j).2.2.1 ∈ gm_big ∧ Cond.sameField ref (T j).1 (T j).2.1 (T j).2.2.1 ∈ gm_big ∧ (T j).2.2.2 = false
theorem gm_put2 {M : gm_M} {d pc : Nat} {ls : List (Option Value)} {st : List Value} {h : gm_H} {index ci j k : Nat} {ref : String} {fs : List Value} {v : Value} {ty : FieldType} (hd : decode M.2.1 pc = .ok (.putfield index, 3)) (hf : gm_fp2 M index ci j ty ref) (hk : h.1[k]? = some (.inr (ci, fs))) (hj : j < fs.length) (hv : gm_ft ty v) : gm_go M d (pc, ls, v :: .ref k :: st, h) (pc + 3, ls, st, (h.1.set k (.inr (ci, fs.set j v)), h.2)) :=
  gm_go_hp fun G p l e R s m args below meth c C ws H locs A stC cells slots Q hW hl hs kk => by
    obtain ⟨w, _, rfl, hvw, _, _, rfl, ⟨q, hq, rfl⟩, hs⟩ := hs
    obtain ⟨Cn, T, N, ty0, h1, h2, h3, h5, h6, h7, h4, h8, h9⟩ := hf
    obtain ⟨q', hq', fs', he, hst⟩ := gm_h_get hW.2.2.1 hk
    cases Option.some.inj (hq.symm.trans hq')
    obtain ⟨b, x⟩ := q
    dsimp only at he
    subst he
    obtain ⟨n1, n2⟩ := gm_ft_c hvw hv
    have hlen : j < fs'.length := by rw [gm_st_len hst]; exact hj
    have hc : gm_c G ws (.inr (ci, fs.set j v)) (.inr (ci, fs'.set j w)) := ⟨_, rfl, gm_st_set hvw hst j⟩
    exact va_put C.1 C.2.1 (gm_Ct C) h2 ty0 h5 h6 C.2.2.2.1 (gm_Ck C) hW.1 hW.2.1 hW.2.2.2 k hq h1 j h3 (gm_Ct C _ h4) (fun x9 h9 => u_same (gm_Ct C _ h8) x9 h9) h9 h7 n1 n2 hlen hd (fun H1 locs1 hP hD hS => kk b _ _ H1 locs1 _ hq hc hP hD hS hs)
/-! calls of interfaces -/
section GMF
variable {p : Program} {l : Launch} {e : Env} {R : Room} {s : State} {m : MethodId} {args : Array Value} {below : List Frame} {meth : Method} {c : Code} {H : Heap} {locs : List Loc} {cells slots mc ms pc : Nat} {A : Array Slot} {st0 rest : List Value} {Q : State → Prop} {G : gm_G} {ws : va_W} {h' : gm_H} {a : Array Value}
theorem gm_callF5 {v : Option Value} (hr : vx_Run5 p l e R s m args below meth c H locs cells slots mc ms (F0 m pc A st0) rest (gm_q G ws (.inl v) h' a) (gm_xc G ws (.inl v) h') (gm_F G)) (hS : va_S (gm_F G) s.heap H locs)
    (kk : ∀ (ws' : va_W) (x : Option Value) (H1 : Heap) (locs1 : List Loc), gm_e ws ws' → gm_ov G ws' v x → va_P (gm_D G) vwCl ws' H1 → va_D (gm_F G) ws' → gm_h G ws' h'.1 → va_S (gm_F G) s.heap H1 locs1 → W p l e R s m args below meth c H1 locs1 (cells + mc) (slots + ms) Q (F0 m (pc + 5) A (x.toList ++ rest))) :
    W p l e R s m args below meth c H locs cells slots Q (F0 m pc A st0) := by
  intro T hT X
  rcases hr T hT X with ⟨v', st₀, t, T', L, h0, X', hL, e1, e2, ⟨⟨v2, hv2, ws', x, he, hx, hoc, hP, hD, hh⟩, hF⟩, st⟩ | ⟨q, st₀, t, T', L, E, ce, h0, X', hL, e1, e2, ⟨hbad, -⟩, -⟩
  · cases hv2
    cases hoc
    obtain ⟨-, -, k3⟩ := vx_keep h0 e1 hS (fun _ _ z => z) (fun _ z => z) hL hF
    obtain ⟨t2, a1, b1⟩ := kk ws' v' T'.heap (locs ++ L) he hx (by rw [e1]; exact hP) hD hh k3 T' rfl X'
    exact ⟨t2, st t2 a1, b1⟩
  · cases hbad
end GMF
def gm_lf (M : gm_M) (index : Nat) (C : String) (x : MethodName) (Y : gm_M) : Prop := Cond.methodLink M.1.cls index x ∈ gm_big ∧ Cond.selects C x Y.1 ∈ gm_big ∧ Cond.instanceMethod Y.1 ∈ gm_big ∧ (C, x, Y.1) ∈ gm_Kw ∧ (∃ (ci : Nat) (T : u_T) (N : Nat), vwCl[ci]? = some (C, T, N)) ∧ x.desc = Y.1.desc
theorem gm_callF {M Y : gm_M} {d d' pc index n count : Nat} {ls : List (Option Value)} {st rest As : List Value} {h h' : gm_H} {v : Option Value} {rv : Value} {Cn : String} {x9 : MethodName} (hd : decode M.2.1 pc = .ok (.invokeinterface index count, 5)) (hc : gm_co Y d' (rv :: As) h (.inl v) h') (hst : st = As.reverse ++ rv :: rest) (hY : gm_mt Y n) (hl : gm_lf M index Cn x9 Y) (hr : gm_rc h rv Cn) (hn : As.length = n) (hrest : (rest.map fun v => v.category).sum ≤ 8) (hdd : d' < d) : gm_go M d (pc, ls, st, h) (pc + 5, ls, v.toList ++ rest, h') := by
  subst hst
  refine ⟨hc.1, ?_⟩
  intro G p l e R s m args below meth c C k0 s0 r1 r2 ws H locs A stC cells slots Q hW hll hs e1 e2 kk
  have q1 := hc.1.1
  have q2 := hc.1.2
  dsimp only at r1 r2 e1 e2
  obtain ⟨cS, dS, rfl, hs1, hs2⟩ := gm_st_split hs
  obtain ⟨x, restC, rfl, hx, hs3⟩ := hs2
  obtain ⟨b, rfl, hcell⟩ := gm_rc_at C hW hr hx
  have hA : gm_st G ws (rv :: As) (.ref b :: cS.reverse) := ⟨_, _, rfl, hx, by have := gm_st_rev hs1; rwa [List.reverse_reverse] at this⟩
  have hlen : cS.reverse.length = n := by rw [List.length_reverse, gm_st_len hs1, List.length_reverse]; exact hn
  have hcat : 2 * 0 + (restC.map fun v => v.category).sum ≤ 8 := by rw [gm_st_cat hs3]; omega
  have hM := hc.2 l C.2.2.2.2.2.2.2.1 G ws _ hA hW.2.2.1
  have hp := gm_pre C hW (aC := .ref b :: cS.reverse)
  obtain ⟨b1, b2, b3, b4, b5⟩ := gm_cb (h := h) (h' := h') C hY hdd
  have hst : cS ++ .ref b :: restC = cS.reverse.reverse ++ .ref b :: restC := by rw [List.reverse_reverse]
  obtain ⟨f1, f2, f3, f4, ⟨ci, T, N, f5⟩, f6⟩ := hl
  obtain ⟨w1, w2, w3, w4, w5⟩ := (gm_Ckc C).2.2.2.2.2.2.2.2.2 _ f4
  have hrun := vx_runF (g := F0 m pc A _) ((gm_Ck C).1 ci _ f5).2 ⟨C.1, C.2.1, C.2.2.1, C.2.2.2.1, gm_Ct C⟩ hM ⟨b1, gm_Ct C _ f1, va_any rfl w1, va_any rfl w2, gm_Ct C _ f2, gm_Ct C _ f3, va_any rfl w3, va_any rfl w4, va_any rfl w5, b3, b2, gm_Kw_ok _ f4, fun sig hz => b5 sig (by rw [← f6]; exact hz)⟩ ⟨hp.1, hcell, hp.2⟩ rfl hlen hll.1 hst hcat hd (show cells + (h'.2.1 - h.2.1) ≤ R.cells ∧ slots + (h'.2.2 - h.2.2) ≤ R.slots by constructor <;> omega)
  refine gm_callF5 hrun hW.2.2.2 (fun ws' x H1 locs1 he hx hP hD hh hS => ?_)
  refine kk ws' H1 locs1 A _ _ _ he ⟨hP, hD, hh, hS⟩ (gm_ls_mono he hll) ?_ (by dsimp only; omega) (by dsimp only; omega)
  cases v with
  | none => rw [show x = none from hx]; exact gm_st_mono he hs3
  | some v => obtain ⟨y, rfl, hy⟩ := hx; exact ⟨y, restC, rfl, hy, gm_st_mono he hs3⟩
/-! a method that a subclass has anew, called by the name of the class above -/
def gm_lo (M : gm_M) (index : Nat) (C owner : String) (x : MethodName) (Y : gm_M) : Prop := Cond.methodLink M.1.cls index x ∈ gm_big ∧ Cond.sameMethod x.cls owner x.name x.desc ∈ gm_big ∧ Cond.selects C x Y.1 ∈ gm_big ∧ Cond.instanceMethod Y.1 ∈ gm_big ∧ Cond.instanceMethod ⟨owner, x.name, x.desc⟩ ∈ gm_big ∧ (∃ (b : ByteArray) (k : Nat) (r : Option FieldType), Cond.code ⟨owner, x.name, x.desc⟩ b k r ∈ gm_big) ∧ (owner ≠ "java/lang/invoke/MethodHandle" ∧ owner ≠ "java/lang/invoke/VarHandle") ∧ x.desc = Y.1.desc
theorem gm_runO {M Y : gm_M} {d d' pc index n : Nat} {rest As : List Value} {h h' : gm_H} {o : Option Value ⊕ String} {rv : Value} {Cn owner : String} {x9 : MethodName} (hd : decode M.2.1 pc = .ok (.invokevirtual index, 3)) (hc : gm_co Y d' (rv :: As) h o h') (hY : gm_mt Y n) (hl : gm_lo M index Cn owner x9 Y) (hr : gm_rc h rv Cn) (hn : As.length = n) (hrest : (rest.map fun v => v.category).sum ≤ 8) (hdd : d' < d) : gm_run M d pc (As.reverse ++ rv :: rest) rest h o h' := by
    refine ⟨hc.1, ?_⟩
    intro G p l e R s m args below meth c C ws H locs A stC cells slots hW hsz hs r1 r2
    obtain ⟨cS, dS, rfl, hs1, hs2⟩ := gm_st_split hs
    obtain ⟨x, restC, rfl, hx, hs3⟩ := hs2
    obtain ⟨b, rfl, hcell⟩ := gm_rc_at C hW hr hx
    have hA : gm_st G ws (rv :: As) (.ref b :: cS.reverse) := ⟨_, _, rfl, hx, by have := gm_st_rev hs1; rwa [List.reverse_reverse] at this⟩
    have hlen : cS.reverse.length = n := by rw [List.length_reverse, gm_st_len hs1, List.length_reverse]; exact hn
    have hcat : 2 * 0 + (restC.map fun v => v.category).sum ≤ 8 := by rw [gm_st_cat hs3]; omega
    have hM := hc.2 l C.2.2.2.2.2.2.2.1 G ws _ hA hW.2.2.1
    have hp := gm_pre C hW (aC := .ref b :: cS.reverse)
    obtain ⟨b1, b2, b3, b4, b5⟩ := gm_cb (h := h) (h' := h') C hY hdd
    have hst : cS ++ .ref b :: restC = cS.reverse.reverse ++ .ref b :: restC := by rw [List.reverse_reverse]
    refine ⟨restC, (Value.ref b :: cS.reverse).toArray, hs3, ?_⟩
    obtain ⟨q1, q2, q3, q4, q5, ⟨cb, ck, cr, q8⟩, q6, q7⟩ := hl
    exact vx_runU (g := F0 m pc A _) (owner := owner) (x := x9) ⟨C.1, C.2.1, C.2.2.1, C.2.2.2.1, gm_Ct C⟩ hM ⟨b1, b2, b3, q6, fun sig hz => b5 sig (by rw [← q7]; exact hz), gm_Ct C _ q1, gm_Ct C _ q2, va_Decl.of (gm_Ct C _ q5) (gm_Ct C _ q8), gm_Ct C _ q3, gm_Ct C _ q4⟩ ⟨hp.1, hcell, hp.2⟩ rfl hlen hsz hst hcat hd ⟨r1, r2⟩
theorem gm_cO {M Y : gm_M} {d d' pc index n : Nat} {ls : List (Option Value)} {st rest As : List Value} {h h' : gm_H} {v rv : Value} {Cn owner : String} {x9 : MethodName} (hd : decode M.2.1 pc = .ok (.invokevirtual index, 3)) (hc : gm_co Y d' (rv :: As) h (.inl (some v)) h') (hst : st = As.reverse ++ rv :: rest) (hY : gm_mt Y n) (hl : gm_lo M index Cn owner x9 Y) (hr : gm_rc h rv Cn) (hn : As.length = n) (hrest : (rest.map fun v => v.category).sum ≤ 8) (hdd : d' < d) : gm_go M d (pc, ls, st, h) (pc + 3, ls, v :: rest, h') := by
  subst hst
  exact gm_call (gm_runO hd hc hY hl hr hn hrest hdd)
