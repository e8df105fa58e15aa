/-! inherited methods, super calls -/
def gm_lu (M : gm_M) (index : Nat) (C owner : String) (x : MethodName) (Y : gm_M) : Prop := Cond.methodLink M.1.cls index x ∈ gm_big ∧ Cond.sameMethod x.cls owner x.name x.desc ∈ gm_big ∧ Cond.selects C x Y.1 ∈ gm_big ∧ Cond.instanceMethod Y.1 ∈ gm_big ∧ (⟨owner, x.name, x.desc⟩ : MethodName) = Y.1 ∧ (owner ≠ "java/lang/invoke/MethodHandle" ∧ owner ≠ "java/lang/invoke/VarHandle") ∧ x.desc = Y.1.desc
theorem gm_runU {M Y : gm_M} {d d' pc index n : Nat} {rest As : List Value} {h h' : gm_H} {o : Option Value ⊕ String} {rv : Value} {Cn owner : String} {x9 : MethodName} (hd : decode M.2.1 pc = .ok (.invokevirtual index, 3)) (hc : gm_co Y d' (rv :: As) h o h') (hY : gm_mt Y n) (hl : gm_lu M index Cn owner x9 Y) (hr : gm_rc h rv Cn) (hn : As.length = n) (hrest : (rest.map fun v => v.category).sum ≤ 8) (hdd : d' < d) : gm_run M d pc (As.reverse ++ rv :: rest) rest h o h' := by
    refine ⟨hc.1, ?_⟩
    intro G p l e R s m args below meth c C ws H locs A stC cells slots hW hsz hs r1 r2
    obtain ⟨cS, dS, rfl, hs1, hs2⟩ := gm_st_split hs
    obtain ⟨x, restC, rfl, hx, hs3⟩ := hs2
    obtain ⟨b, rfl, hcell⟩ := gm_rc_at C hW hr hx
    have hA : gm_st G ws (rv :: As) (.ref b :: cS.reverse) := ⟨_, _, rfl, hx, by have := gm_st_rev hs1; rwa [List.reverse_reverse] at this⟩
    have hlen : cS.reverse.length = n := by rw [List.length_reverse, gm_st_len hs1, List.length_reverse]; exact hn
    have hcat : 2 * 0 + (restC.map fun v => v.category).sum ≤ 8 := by rw [gm_st_cat hs3]; omega
    have hM := hc.2 l C.2.2.2.2.2.2.2.1 G ws _ hA hW.2.2.1
    have hp := gm_pre C hW (aC := .ref b :: cS.reverse)
    obtain ⟨b1, b2, b3, b4, b5⟩ := gm_cb (h := h) (h' := h') C hY hdd
    have hst : cS ++ .ref b :: restC = cS.reverse.reverse ++ .ref b :: restC := by rw [List.reverse_reverse]
    refine ⟨restC, (Value.ref b :: cS.reverse).toArray, hs3, ?_⟩
    obtain ⟨q1, q2, q3, q4, q5, q6, q7⟩ := hl
    exact vx_runU (g := F0 m pc A _) (owner := owner) (x := x9) ⟨C.1, C.2.1, C.2.2.1, C.2.2.2.1, gm_Ct C⟩ hM ⟨b1, b2, b3, q6, fun sig hz => b5 sig (by rw [← q7]; exact hz), gm_Ct C _ q1, gm_Ct C _ q2, by rw [q5]; exact va_Decl.of (gm_Ct C _ q4) b2, gm_Ct C _ q3, gm_Ct C _ q4⟩ ⟨hp.1, hcell, hp.2⟩ rfl hlen hsz hst hcat hd ⟨r1, r2⟩
def gm_ls9 (M : gm_M) (index : Nat) (Y : gm_M) : Prop := Cond.methodLink M.1.cls index Y.1 ∈ gm_big ∧ Cond.sameMethod Y.1.cls Y.1.cls Y.1.name Y.1.desc ∈ gm_big ∧ Cond.superclass M.1.cls Y.1.cls ∈ gm_big ∧ Cond.instanceMethod Y.1 ∈ gm_big ∧ Y.1.name ≠ "<init>" ∧ ∃ (ci : Nat) (T : u_T) (N : Nat), vwCl[ci]? = some (M.1.cls, T, N)
theorem gm_runSU {M Y : gm_M} {d d' pc index n : Nat} {rest As : List Value} {h h' : gm_H} {o : Option Value ⊕ String} {rv : Value} (hd : decode M.2.1 pc = .ok (.invokespecial index, 3)) (hc : gm_co Y d' (rv :: As) h o h') (hY : gm_mt Y n) (hl : gm_ls9 M index Y) (hr : gm_rc h rv M.1.cls) (hn : As.length = n) (hrest : (rest.map fun v => v.category).sum ≤ 8) (hdd : d' < d) : gm_run M d pc (As.reverse ++ rv :: rest) rest h o h' := by
    refine ⟨hc.1, ?_⟩
    intro G p l e R s m args below meth c C ws H locs A stC cells slots hW hsz hs r1 r2
    obtain ⟨cS, dS, rfl, hs1, hs2⟩ := gm_st_split hs
    obtain ⟨x, restC, rfl, hx, hs3⟩ := hs2
    obtain ⟨b, rfl, hcell⟩ := gm_rc_at C hW hr hx
    have hA : gm_st G ws (rv :: As) (.ref b :: cS.reverse) := ⟨_, _, rfl, hx, by have := gm_st_rev hs1; rwa [List.reverse_reverse] at this⟩
    have hlen : cS.reverse.length = n := by rw [List.length_reverse, gm_st_len hs1, List.length_reverse]; exact hn
    have hcat : 2 * 0 + (restC.map fun v => v.category).sum ≤ 8 := by rw [gm_st_cat hs3]; omega
    have hM := hc.2 l C.2.2.2.2.2.2.2.1 G ws _ hA hW.2.2.1
    have hp := gm_pre C hW (aC := .ref b :: cS.reverse)
    obtain ⟨b1, b2, b3, b4, b5⟩ := gm_cb (h := h) (h' := h') C hY hdd
    have hst : cS ++ .ref b :: restC = cS.reverse.reverse ++ .ref b :: restC := by rw [List.reverse_reverse]
    refine ⟨restC, (Value.ref b :: cS.reverse).toArray, hs3, ?_⟩
    obtain ⟨q1, q2, q3, q4, q5, ci, T, N, q6⟩ := hl
    exact vx_runSU (g := F0 m pc A _) ((gm_Ck C).1 ci _ q6).2 ⟨C.1, C.2.1, C.2.2.1, C.2.2.2.1, gm_Ct C⟩ hM ⟨b1, gm_Ct C _ q1, gm_Ct C _ q2, gm_Ct C _ q3, gm_Ct C _ q4, b3, b2, q5, b5⟩ ⟨hp.1, hcell, hp.2⟩ rfl hlen hsz hst hcat hd ⟨r1, r2⟩
/-! methods with a table of handlers -/
def gm_mx (Y : gm_M) (n : Nat) : Prop := Y.2.2.2.2 ≠ [] ∧ Cond.codeWith Y.1 Y.2.1 Y.2.2.1 Y.2.2.2.1 Y.2.2.2.2 ∈ gm_big ∧ Cond.initialized Y.1.cls ∈ gm_big ∧ (Y.1.cls ≠ "java/lang/invoke/MethodHandle" ∧ Y.1.cls ≠ "java/lang/invoke/VarHandle") ∧ (parseMethodDescriptor Y.1.desc).map (fun d => d.parameters.length) = some n ∧ Y.2.2.1 ≤ 40
theorem gm_cwx {Y : gm_M} (h : Y.2.2.2.2 ≠ []) : gm_cw Y = .codeWith Y.1 Y.2.1 Y.2.2.1 Y.2.2.2.1 Y.2.2.2.2 := by
  unfold gm_cw
  cases hq : Y.2.2.2.2 with
  | nil => exact absurd hq h
  | cons x l => rfl
theorem gm_runX {M Y : gm_M} {d d' pc index n : Nat} {rest As : List Value} {h h' : gm_H} {o : Option Value ⊕ String} (hd : decode M.2.1 pc = .ok (.invokestatic index, 3)) (hc : gm_co Y d' As h o h') (hY : gm_mx Y n) (hV : Cond.static Y.1 ∈ gm_big) (hl : Cond.methodLink M.1.cls index Y.1 ∈ gm_big) (hn : As.length = n) (hrest : (rest.map fun v => v.category).sum ≤ 8) (hdd : d' < d) : gm_run M d pc (As.reverse ++ rest) rest h o h' := by
    refine ⟨hc.1, ?_⟩
    intro G p l e R s m args below meth c C ws H locs A stC cells slots hW hsz hs r1 r2
    obtain ⟨cS, restC, rfl, hs1, hs3⟩ := gm_st_split hs
    have hA : gm_st G ws As cS.reverse := by have := gm_st_rev hs1; rwa [List.reverse_reverse] at this
    have hlen : cS.reverse.length = n := by rw [List.length_reverse, gm_st_len hs1, List.length_reverse]; exact hn
    have hcat : 2 * 0 + (restC.map fun v => v.category).sum ≤ 8 := by rw [gm_st_cat hs3]; omega
    have hM := hc.2 l C.2.2.2.2.2.2.2.1 G ws _ hA hW.2.2.1
    have hp := gm_pre C hW (aC := cS.reverse)
    have hst : cS ++ restC = cS.reverse.reverse ++ restC := by rw [List.reverse_reverse]
    refine ⟨restC, cS.reverse.toArray, hs3, ?_⟩
    obtain ⟨y0, y1, y2, y3, y4, y5⟩ := hY
    have c1 := C.2.2.2.2.2.2.2.2.2.2.1
    have c2 := C.2.2.2.2.2.2.2.2.2.2.2
    refine vx_runSX (g := F0 m pc A _) ⟨C.1, C.2.1, C.2.2.1, C.2.2.2.1, gm_Ct C⟩ hM ⟨⟨rfl, rfl, by show d' + 1 ≤ _; omega, by show 8 + (Y.2.2.1 + 11) + 64 * d' ≤ _; omega, fun w hw a' U hW => ?_, by rw [gm_cwx y0]; exact List.mem_cons_self⟩, gm_Ct C _ y1, gm_Ct C _ y2, y3, fun sig hs => ?_, gm_Ct C _ hl, gm_Ct C _ hV⟩ hp rfl hlen hsz hst hcat hd ⟨r1, r2⟩
    · rw [List.mem_singleton.mp hw, gm_cwx y0]
      exact gm_warm (List.mem_filter.mp y1).2 hW (C.2.2.2.2.1.2.2.2.1 _ y1)
    · rw [hs] at y4
      exact (Option.some.inj y4).symm
theorem gm_co_ofH {M : gm_M} {d : Nat} {as : List Value} {h h' : gm_H} {o : Option Value ⊕ String} (ls : List (Option Value)) (hy : plainName M.1.cls = true) (hh : M.2.2.2.2 ≠ []) (hn : (gm_ent as).length ≤ M.2.2.1) (hls : gm_ent as ++ List.replicate (M.2.2.1 - (gm_ent as).length) none = ls)
    (a : gm_ru M d (0, ls, [], h) o h') : gm_co M d as h o h' := by
  refine ⟨a.1, ?_⟩
  intro l hl G ws aC hst hgh
  refine vx_ofWH (ws' := []) (cc := M.2.1) (maxL := M.2.2.1) (ret := M.2.2.2.1) (hh := M.2.2.2.2) hy (by rw [gm_cwx hh]) ?_
  intro p e s m args below meth c s₁ B hml hv
  obtain ⟨rfl, hE, hP, hD⟩ := hv
  have a1 := a.1.1
  have a2 := a.1.2
  dsimp only at a1 a2
  rw [lg_entry_eq]
  refine W.eq (g2 := F0 m 0 ((lg_sl aC ++ List.replicate (M.2.2.1 - (lg_sl aC).length) Slot.unset).toArray) []) rfl ?_
  refine a.2 G p l e (headSpec [gm_cw M] (gm_rm d h h')).room s m aC.toArray below meth c ⟨B.exec, B.bytes, hml, findClass_of_methodNamed B.named, hE, ?_, B.notSynchronized, hl, B.returns, (name_of_methodNamed B.named B.method).1, Nat.le_refl _, Nat.le_refl _⟩
    h.2.1 h.2.2 (h'.2.1 - h.2.1) (h'.2.2 - h.2.2) (by omega) (by omega) (Nat.le_refl _) (Nat.le_refl _) ws ws s.heap [] _ [] 0 0 (gm_e_rf ws) ⟨hP, hD, hgh, va_S.rf⟩ (gm_ls_ent hst hn ls hls) rfl rfl rfl
  exact vx_table (x := M.1) B (atoms_spec (ws := [gm_cw M]) B.pre _ (by rw [← gm_cwx hh]; exact List.mem_cons_self))
/-- a throw that is caught here, its thing laid into the local k -/
theorem gm_catch_n {M : gm_M} {d pc : Nat} {ls : List (Option Value)} {st rest : List Value} {h h' : gm_H} {E nm : String} {k : Fin 4} (r : gm_run M d pc st rest h (.inr E) h') (pre : List ExceptionTableEntry) (x : ExceptionTableEntry) (suf : List ExceptionTableEntry) (htab : tableOf M.2.2.2.2 = pre ++ x :: suf)
    (hpass : ∀ z ∈ pre, covers z pc = false ∨ (z.catchType ≠ 0 ∧ ∃ nm : String, Cond.classLink M.1.cls z.catchType nm ∈ gm_big ∧ (E, nm) ∈ gm_Kn)) (hx : covers x pc = true) (h0 : x.catchType ≠ 0) (hlink : Cond.classLink M.1.cls x.catchType nm ∈ gm_big) (hcast : Cond.castable E nm ∈ gm_big)
    (hd : decode M.2.1 x.handlerPc = .ok (.astore_n k, 1)) (hk : (k : Nat) < M.2.2.1) : gm_go M d (pc, ls, st, h) (x.handlerPc + 1, [], [], h') := by
  refine ⟨r.1, ?_⟩
  intro G p l e R s m args below meth c C k0 s0 r1 r2 ws H locs A stC cells slots Q hW hl hs e1 e2 kk
  have q1 := r.1.1
  have q2 := r.1.2
  dsimp only at r1 r2 e1 e2
  obtain ⟨restC, a, hrest, hr⟩ := r.2 G p l e R s m args below meth c C ws H locs A stC cells slots hW hl.1 hs (by omega) (by omega)
  refine gm_callX hr hW.2.2.2 (fun ws' q ce H1 locs1 he hP hD hh2 hS hce hcv hcl => ?_)
  refine vx_catch C.2.2.2.1 pre x suf (C.2.2.2.2.2.1.trans htab) (fun z hz => ?_) hx h0 (gm_Ct C _ hlink) (gm_Ct C _ hcast) hce hcv hcl ?_
  · rcases hpass z hz with h9 | ⟨h9, nm9, h8, h7⟩
    · exact Or.inl h9
    · exact Or.inr ⟨h9, nm9, gm_Ct C _ h8, (gm_Ckc C).2.2.2.2.2.2.1 (E, nm9) h7⟩
  · refine lv_astore_n C.1 C.2.1 hd rfl (gm_fu_has hl) hk rfl (fun A' hA => ?_)
    exact kk ws' H1 locs1 A' [] _ _ he ⟨hP, hD, hh2, hS⟩ ⟨hA.1, hA.2.1, fun i v hi => by simp at hi⟩ rfl (by dsimp only; omega) (by dsimp only; omega)
theorem gm_catch_w {M : gm_M} {d pc : Nat} {ls : List (Option Value)} {st rest : List Value} {h h' : gm_H} {E nm : String} {k : Nat} (r : gm_run M d pc st rest h (.inr E) h') (pre : List ExceptionTableEntry) (x : ExceptionTableEntry) (suf : List ExceptionTableEntry) (htab : tableOf M.2.2.2.2 = pre ++ x :: suf)
    (hpass : ∀ z ∈ pre, covers z pc = false ∨ (z.catchType ≠ 0 ∧ ∃ nm : String, Cond.classLink M.1.cls z.catchType nm ∈ gm_big ∧ (E, nm) ∈ gm_Kn)) (hx : covers x pc = true) (h0 : x.catchType ≠ 0) (hlink : Cond.classLink M.1.cls x.catchType nm ∈ gm_big) (hcast : Cond.castable E nm ∈ gm_big)
    (hd : decode M.2.1 x.handlerPc = .ok (.astore k, 2)) (hk : k < M.2.2.1) : gm_go M d (pc, ls, st, h) (x.handlerPc + 2, [], [], h') := by
  refine ⟨r.1, ?_⟩
  intro G p l e R s m args below meth c C k0 s0 r1 r2 ws H locs A stC cells slots Q hW hl hs e1 e2 kk
  have q1 := r.1.1
  have q2 := r.1.2
  dsimp only at r1 r2 e1 e2
  obtain ⟨restC, a, hrest, hr⟩ := r.2 G p l e R s m args below meth c C ws H locs A stC cells slots hW hl.1 hs (by omega) (by omega)
  refine gm_callX hr hW.2.2.2 (fun ws' q ce H1 locs1 he hP hD hh2 hS hce hcv hcl => ?_)
  refine vx_catch C.2.2.2.1 pre x suf (C.2.2.2.2.2.1.trans htab) (fun z hz => ?_) hx h0 (gm_Ct C _ hlink) (gm_Ct C _ hcast) hce hcv hcl ?_
  · rcases hpass z hz with h9 | ⟨h9, nm9, h8, h7⟩
    · exact Or.inl h9
    · exact Or.inr ⟨h9, nm9, gm_Ct C _ h8, (gm_Ckc C).2.2.2.2.2.2.1 (E, nm9) h7⟩
  · refine lv_astore C.1 C.2.1 hd (gm_fu_has hl) hk rfl (fun A' hA => ?_)
    exact kk ws' H1 locs1 A' [] _ _ he ⟨hP, hD, hh2, hS⟩ ⟨hA.1, hA.2.1, fun i v hi => by simp at hi⟩ rfl (by dsimp only; omega) (by dsimp only; omega)
/-! throw new E("text") -/
def gm_tf (M : gm_M) (ik is ic : Nat) (cls : String) (names : List String) : Prop := Bundle.fit cls = true ∧ (∀ n ∈ names, Bundle.fit n = true) ∧ Cond.classLink M.1.cls ik cls ∈ gm_big ∧ Cond.initialized cls ∈ gm_big ∧ (∃ (text : String) (sa : Nat), (M.1.cls, is, text, sa) ∈ gm_Kr) ∧ (∀ w ∈ vx_atS M.1.cls ic cls names, w ∈ gm_big)
theorem gm_vot {w : Cond} (h : w ∈ gm_big) : vx_ot w = true := by
  have h1 := (List.mem_filter.mp h).2
  simp only [gm_ok, Bool.or_eq_true] at h1
  unfold vx_ot
  rcases h1 with h1 | h1
  · rw [h1, Bool.or_true]
  · cases w <;> first | rfl | cases h1
theorem gm_throw {M : gm_M} {d pc : Nat} {ls : List (Option Value)} {st : List Value} {h : gm_H} {ik is ic : Nat} {cls : String} {names : List String} (hf : gm_tf M ik is ic cls names) (hh : M.2.2.2.2 = [])
    (d0 : decode M.2.1 pc = .ok (.new ik, 3)) (d3 : decode M.2.1 (pc + 3) = .ok (.dup, 1)) (d4 : decode M.2.1 (pc + 4) = .ok (.ldc is, 2)) (d6 : decode M.2.1 (pc + 6) = .ok (.invokespecial ic, 3)) (d9 : decode M.2.1 (pc + 9) = .ok (.athrow, 1))
    (hst : (st.map fun v => v.category).sum ≤ 8) (hn : names.length ≤ 3) (hdd : 7 ≤ d) : gm_ru M d (pc, ls, st, h) (.inr cls) (h.1, (h.2.1 + 1, h.2.2 + 6)) := by
  refine ⟨⟨Nat.le_succ _, Nat.le_add_right _ _⟩, ?_⟩
  intro G p l e R s m args below meth c C k0 s0 mc ms m1 m2 r1 r2 ws0 ws H locs A stC cells slots he hW hl hs e1 e2
  obtain ⟨f1, f2, f3, f4, ⟨text, sa, f5⟩, f6⟩ := hf
  have c1 := C.2.2.2.2.2.2.2.2.2.2.1
  have c2 := C.2.2.2.2.2.2.2.2.2.2.2
  have hcat := gm_st_cat hs
  dsimp only at e1 e2 m1 m2 hcat
  refine vx_throwS C.1 C.2.1 C.2.2.2.2.2.2.2.1 C.2.2.2.1 f1 f2 (gm_Ct C _ f3) (gm_Ct C _ f4) ((gm_Ckc C).2.2.2.2.1 _ f5) (fun w hw => gm_Ct C _ (f6 w hw)) (fun w hw => ?_) (gm_Ce C).2.2.2.2.2.2.1 (gm_Ce C).2.2.2.2.2.2.2.1 hW.2.2.2 (hl.1.trans C.2.2.1.symm) d0 d3 d4 d6 d9 ?_ (by omega) (by omega) (by omega) (by omega) C.2.2.2.2.2.2.1
    (fun t ht hz hq => ⟨rfl, ⟨ws, he, hW.1.kept (fun k x hx => hq x.1 (hW.1 k x hx).lt), hW.2.1, hW.2.2.1⟩, Nat.le_trans hW.2.2.2.1 hz, fun q h1 h2 => (hq q (Nat.lt_of_lt_of_le h1 hW.2.2.2.1)).trans (hW.2.2.2.2.1 q h1 h2)⟩) hW.2.2.2.2.2 (by omega) (by omega)
  · rcases List.mem_cons.mp hw with rfl | hw
    · exact gm_vot f3
    · rcases List.mem_cons.mp hw with rfl | hw
      · exact gm_vot f4
      · exact gm_vot (f6 w hw)
  · rw [C.2.2.2.2.2.1, hh]
    intro x hx
    cases hx
theorem gm_throwW {M : gm_M} {d pc : Nat} {ls : List (Option Value)} {st : List Value} {h : gm_H} {ik is ic : Nat} {cls : String} {names : List String} (hf : gm_tf M ik is ic cls names) (hh : M.2.2.2.2 = [])
    (d0 : decode M.2.1 pc = .ok (.new ik, 3)) (d3 : decode M.2.1 (pc + 3) = .ok (.dup, 1)) (d4 : decode M.2.1 (pc + 4) = .ok (.ldc_w is, 3)) (d7 : decode M.2.1 (pc + 7) = .ok (.invokespecial ic, 3)) (d10 : decode M.2.1 (pc + 10) = .ok (.athrow, 1))
    (hst : (st.map fun v => v.category).sum ≤ 8) (hn : names.length ≤ 3) (hdd : 7 ≤ d) : gm_ru M d (pc, ls, st, h) (.inr cls) (h.1, (h.2.1 + 1, h.2.2 + 6)) := by
  refine ⟨⟨Nat.le_succ _, Nat.le_add_right _ _⟩, ?_⟩
  intro G p l e R s m args below meth c C k0 s0 mc ms m1 m2 r1 r2 ws0 ws H locs A stC cells slots he hW hl hs e1 e2
  obtain ⟨f1, f2, f3, f4, ⟨text, sa, f5⟩, f6⟩ := hf
  have c1 := C.2.2.2.2.2.2.2.2.2.2.1
  have c2 := C.2.2.2.2.2.2.2.2.2.2.2
  have hcat := gm_st_cat hs
  dsimp only at e1 e2 m1 m2 hcat
  refine vx_throwSW C.1 C.2.1 C.2.2.2.2.2.2.2.1 C.2.2.2.1 f1 f2 (gm_Ct C _ f3) (gm_Ct C _ f4) ((gm_Ckc C).2.2.2.2.1 _ f5) (fun w hw => gm_Ct C _ (f6 w hw)) (fun w hw => ?_) (gm_Ce C).2.2.2.2.2.2.1 (gm_Ce C).2.2.2.2.2.2.2.1 hW.2.2.2 (hl.1.trans C.2.2.1.symm) d0 d3 d4 d7 d10 ?_ (by omega) (by omega) (by omega) (by omega) C.2.2.2.2.2.2.1
    (fun t ht hz hq => ⟨rfl, ⟨ws, he, hW.1.kept (fun k x hx => hq x.1 (hW.1 k x hx).lt), hW.2.1, hW.2.2.1⟩, Nat.le_trans hW.2.2.2.1 hz, fun q h1 h2 => (hq q (Nat.lt_of_lt_of_le h1 hW.2.2.2.1)).trans (hW.2.2.2.2.1 q h1 h2)⟩) hW.2.2.2.2.2 (by omega) (by omega)
  · rcases List.mem_cons.mp hw with rfl | hw
    · exact gm_vot f3
    · rcases List.mem_cons.mp hw with rfl | hw
      · exact gm_vot f4
      · exact gm_vot (f6 w hw)
  · rw [C.2.2.2.2.2.1, hh]
    intro x hx
    cases hx
theorem gm_objInit {M : gm_M} {d pc : Nat} {ls : List (Option Value)} {st : List Value} {h : gm_H} {index k : Nat} {v : Value} (hd : decode M.2.1 pc = .ok (.invokespecial index, 3)) (hv : v = .ref k) (h1 : Cond.methodLink M.1.cls index Lib.objectInit ∈ gm_big) (h2 : Cond.instanceMethod Lib.objectInit ∈ gm_big) (h3 : Cond.code Lib.objectInit ⟨#[0xb1]⟩ 1 none ∈ gm_big) (hst : (st.map fun v => v.category).sum ≤ 8) (hdd : 1 ≤ d) : gm_go M d (pc, ls, v :: st, h) (pc + 3, ls, st, h) :=
  gm_go_st fun G p l e R s m args below meth c C ws H locs A stC cells slots Q hW hl hs kk => by
    subst hv
    obtain ⟨_, _, rfl, ⟨q, hq, rfl⟩, hs⟩ := hs
    have c1 := C.2.2.2.2.2.2.2.2.2.2.1
    have c2 := C.2.2.2.2.2.2.2.2.2.2.2
    have hcat := gm_st_cat hs
    exact W.objInit (g := F0 m pc A _) C.1 C.2.1 C.2.2.2.1 (gm_Ct C _ h1) (gm_Ct C _ h2) (gm_Ct C _ h3) rfl (hl.1.trans C.2.2.1.symm) rfl hd (by omega) (by show 2 * 0 + _ + 12 ≤ _; omega) (kk _ hs)
/-! the constant things -/
