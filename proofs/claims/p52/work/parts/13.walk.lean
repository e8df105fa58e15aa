/-! wrappers for the walks -/
theorem gm_cV {M Y : gm_M} {d d' pc index n : Nat} {ls : List (Option Value)} {st rest As : List Value} {h h' : gm_H} {v rv : Value} {Cn : String} (hd : decode M.2.1 pc = .ok (.invokevirtual index, 3)) (hc : gm_co Y d' (rv :: As) h (.inl (some v)) h') (hst : st = As.reverse ++ rv :: rest) (hY : gm_mt Y n) (hV : gm_mv Y Cn) (hl : gm_lk M index Y) (hr : gm_rc h rv Cn) (hn : As.length = n) (hrest : (rest.map fun v => v.category).sum ≤ 8) (hdd : d' < d) : gm_go M d (pc, ls, st, h) (pc + 3, ls, v :: rest, h') := by
  subst hst
  exact gm_call (gm_runV hd hc hY hV hl hr hn hrest hdd)
theorem gm_cV0 {M Y : gm_M} {d d' pc index n : Nat} {ls : List (Option Value)} {st rest As : List Value} {h h' : gm_H} {rv : Value} {Cn : String} (hd : decode M.2.1 pc = .ok (.invokevirtual index, 3)) (hc : gm_co Y d' (rv :: As) h (.inl none) h') (hst : st = As.reverse ++ rv :: rest) (hY : gm_mt Y n) (hV : gm_mv Y Cn) (hl : gm_lk M index Y) (hr : gm_rc h rv Cn) (hn : As.length = n) (hrest : (rest.map fun v => v.category).sum ≤ 8) (hdd : d' < d) : gm_go M d (pc, ls, st, h) (pc + 3, ls, rest, h') := by
  subst hst
  exact gm_call (gm_runV hd hc hY hV hl hr hn hrest hdd)
theorem gm_pV {M Y : gm_M} {d d' pc index n : Nat} {ls : List (Option Value)} {st rest As : List Value} {h h' : gm_H} {E : String} {rv : Value} {Cn : String} (hd : decode M.2.1 pc = .ok (.invokevirtual index, 3)) (hc : gm_co Y d' (rv :: As) h (.inr E) h') (hst : st = As.reverse ++ rv :: rest) (hh : M.2.2.2.2 = []) (hY : gm_mt Y n) (hV : gm_mv Y Cn) (hl : gm_lk M index Y) (hr : gm_rc h rv Cn) (hn : As.length = n) (hrest : (rest.map fun v => v.category).sum ≤ 8) (hdd : d' < d) : gm_ru M d (pc, ls, st, h) (.inr E) h' := by
  subst hst
  exact gm_pass (gm_runV hd hc hY hV hl hr hn hrest hdd) hh
theorem gm_cS {M Y : gm_M} {d d' pc index n : Nat} {ls : List (Option Value)} {st rest As : List Value} {h h' : gm_H} {v : Value} (hd : decode M.2.1 pc = .ok (.invokestatic index, 3)) (hc : gm_co Y d' As h (.inl (some v)) h') (hst : st = As.reverse ++ rest) (hY : gm_mt Y n) (hV : Cond.static Y.1 ∈ gm_big) (hl : gm_lk M index Y) (hn : As.length = n) (hrest : (rest.map fun v => v.category).sum ≤ 8) (hdd : d' < d) : gm_go M d (pc, ls, st, h) (pc + 3, ls, v :: rest, h') := by
  subst hst
  exact gm_call (gm_runS hd hc hY hV hl hn hrest hdd)
theorem gm_cS0 {M Y : gm_M} {d d' pc index n : Nat} {ls : List (Option Value)} {st rest As : List Value} {h h' : gm_H} (hd : decode M.2.1 pc = .ok (.invokestatic index, 3)) (hc : gm_co Y d' As h (.inl none) h') (hst : st = As.reverse ++ rest) (hY : gm_mt Y n) (hV : Cond.static Y.1 ∈ gm_big) (hl : gm_lk M index Y) (hn : As.length = n) (hrest : (rest.map fun v => v.category).sum ≤ 8) (hdd : d' < d) : gm_go M d (pc, ls, st, h) (pc + 3, ls, rest, h') := by
  subst hst
  exact gm_call (gm_runS hd hc hY hV hl hn hrest hdd)
theorem gm_pS {M Y : gm_M} {d d' pc index n : Nat} {ls : List (Option Value)} {st rest As : List Value} {h h' : gm_H} {E : String} (hd : decode M.2.1 pc = .ok (.invokestatic index, 3)) (hc : gm_co Y d' As h (.inr E) h') (hst : st = As.reverse ++ rest) (hh : M.2.2.2.2 = []) (hY : gm_mt Y n) (hV : Cond.static Y.1 ∈ gm_big) (hl : gm_lk M index Y) (hn : As.length = n) (hrest : (rest.map fun v => v.category).sum ≤ 8) (hdd : d' < d) : gm_ru M d (pc, ls, st, h) (.inr E) h' := by
  subst hst
  exact gm_pass (gm_runS hd hc hY hV hl hn hrest hdd) hh
theorem gm_cI {M Y : gm_M} {d d' pc index n : Nat} {ls : List (Option Value)} {st rest As : List Value} {h h' : gm_H} {rv : Value} {Cn : String} (hd : decode M.2.1 pc = .ok (.invokespecial index, 3)) (hc : gm_co Y d' (rv :: As) h (.inl none) h') (hst : st = As.reverse ++ rv :: rest) (hY : gm_mt Y n) (hV : Cond.instanceMethod Y.1 ∈ gm_big ∧ Y.1.name = "<init>" ∧ Y.2.2.2.1 = none) (hl : gm_lk M index Y) (hr : gm_rc h rv Cn) (hn : As.length = n) (hrest : (rest.map fun v => v.category).sum ≤ 8) (hdd : d' < d) : gm_go M d (pc, ls, st, h) (pc + 3, ls, rest, h') := by
  subst hst
  exact gm_call (gm_runI hd hc hY hV hl hr hn hrest hdd)
theorem gm_go_eq {M : gm_M} {d : Nat} {f g g' : gm_fr} (a : gm_go M d f g) (e : g = g') : gm_go M d f g' := e ▸ a
theorem gm_go_end {M : gm_M} {d : Nat} {f g : gm_fr} (e : f = g) : gm_go M d f g := e ▸ gm_go_rf
theorem gm_iret' {M : gm_M} {d pc : Nat} {ls : List (Option Value)} {h h' : gm_H} {x y : Int32} (hd : decode M.2.1 pc = .ok (.ireturn, 1)) (hr : M.2.2.2.1 = some .int) (e : x = y) (eh : h = h') : gm_ru M d (pc, ls, [.int x], h) (.inl (some (.int y))) h' := by
  subst e; subst eh
  exact gm_iret hd hr
theorem gm_bret {M : gm_M} {d pc : Nat} {ls : List (Option Value)} {h : gm_H} {b : Bool} (hd : decode M.2.1 pc = .ok (.ireturn, 1)) (hr : M.2.2.2.1 = some .boolean) : gm_ru M d (pc, ls, [.int (zI (if b then 1 else 0))], h) (.inl (some (.int (zI (if b then 1 else 0))))) h :=
  gm_zret hd hr (by cases b <;> decide +kernel)
/-- a loop upwards -/
theorem gl_up {M : gm_M} {d : Nat} (P : Nat → gm_fr → Prop) (e : Nat) (step : ∀ (j : Nat) (f : gm_fr), j < e → P j f → ∃ f', gm_go M d f f' ∧ P (j + 1) f') : ∀ (j : Nat) (f : gm_fr), j ≤ e → P j f → ∃ f', gm_go M d f f' ∧ P e f' := by
  intro j
  generalize hm : e - j = m
  induction m generalizing j with
  | zero =>
    intro f hj h
    have : j = e := by omega
    subst this
    exact ⟨f, gm_go_rf, h⟩
  | succ m ih =>
    intro f hj h
    obtain ⟨g, h1, h2⟩ := step j f (by omega) h
    obtain ⟨k, h3, h4⟩ := ih (j + 1) (by omega) g (by omega) h2
    exact ⟨k, gm_go_tr h1 h3, h4⟩
def zB (b : Bool) : Int := if b then 1 else 0
theorem zB_nar (b : Bool) : narrow .boolean (.int (zI (zB b))) = .int (zI (zB b)) := by cases b <;> decide +kernel
theorem zB_t {p : Prop} [Decidable p] (h : p) : zB (decide p) = 1 := by simp [zB, h]
theorem zB_f {p : Prop} [Decidable p] (h : ¬ p) : zB (decide p) = 0 := by simp [zB, h]
theorem gm_zret' {M : gm_M} {d pc : Nat} {ls : List (Option Value)} {h : gm_H} {x : Int32} {b : Bool} (hd : decode M.2.1 pc = .ok (.ireturn, 1)) (hr : M.2.2.2.1 = some .boolean) (e : x = zI (zB b)) : gm_ru M d (pc, ls, [.int x], h) (.inl (some (.int (zI (zB b))))) h := by
  subst e
  exact gm_zret hd hr (zB_nar b)
theorem gi_shr {M : gm_M} {d pc : Nat} {ls : List (Option Value)} {st : List Value} {h : gm_H} {n k : Nat} (hd : decode M.2.1 pc = .ok (.ishr, 1)) (hn : n < 2147483648) (hk : k < 32) : gm_go M d (pc, ls, .int (zI (k : Int)) :: .int (zI (n : Int)) :: st, h) (pc + 1, ls, .int (zI ((n / 2 ^ k : Nat) : Int)) :: st, h) := by
  rw [← zI_shr hn hk]
  exact gm_ishr hd
theorem gi_and1 {M : gm_M} {d pc : Nat} {ls : List (Option Value)} {st : List Value} {h : gm_H} {n : Nat} (hd : decode M.2.1 pc = .ok (.iand, 1)) : gm_go M d (pc, ls, .int (zI 1) :: .int (zI (n : Int)) :: st, h) (pc + 1, ls, .int (zI ((n % 2 : Nat) : Int)) :: st, h) := by
  have h1 : zI (n : Int) &&& zI 1 = zI ((n % 2 : Nat) : Int) := by
    rw [← Nat.and_one_is_mod]
    exact zI_and n 1
  rw [← h1]
  exact gm_iand hd
theorem gi_or {M : gm_M} {d pc : Nat} {ls : List (Option Value)} {st : List Value} {h : gm_H} {a b : Nat} (hd : decode M.2.1 pc = .ok (.ior, 1)) : gm_go M d (pc, ls, .int (zI (b : Int)) :: .int (zI (a : Int)) :: st, h) (pc + 1, ls, .int (zI ((a ||| b : Nat) : Int)) :: st, h) := by
  rw [← zI_or]
  exact gm_ior hd
theorem gi_and {M : gm_M} {d pc : Nat} {ls : List (Option Value)} {st : List Value} {h : gm_H} {a b : Nat} (hd : decode M.2.1 pc = .ok (.iand, 1)) : gm_go M d (pc, ls, .int (zI (b : Int)) :: .int (zI (a : Int)) :: st, h) (pc + 1, ls, .int (zI ((a &&& b : Nat) : Int)) :: st, h) := by
  rw [← zI_and]
  exact gm_iand hd
theorem gi_shl1 {M : gm_M} {d pc : Nat} {ls : List (Option Value)} {st : List Value} {h : gm_H} {k : Nat} (hd : decode M.2.1 pc = .ok (.ishl, 1)) (hk : k < 31) : gm_go M d (pc, ls, .int (zI (k : Int)) :: .int (zI 1) :: st, h) (pc + 1, ls, .int (zI ((2 ^ k : Nat) : Int)) :: st, h) := by
  rw [← zI_shl1 k hk]
  exact gm_ishl hd
theorem gm_ofWF {l : Launch} {y : MethodName} {ws ws' : List Cond} {rm : Room} {Pc : Array Value → State → Prop} {Qc : Array Value → State → Outcome → State → Prop} {XC : String → State → State → Prop} {mc ms : Nat} {free : Addr → Prop} {cc : ByteArray} {maxL : Nat} {ret : Option FieldType}
    (hy : plainFor y = true) (hw : ws = Cond.code y cc maxL ret :: ws')
    (body : ∀ p e s m args below meth c s₁, BodyLoose p l y (headSpec ws rm) cc maxL ret e s m args below meth c s₁ → c.maxLocals = maxL → (∀ x ∈ c.exceptionTable.toList, False) → Pc args s →
      W p l e (headSpec ws rm).room s m args below meth c s.heap [] 0 0 (vx_MQ below Qc XC args s mc ms free) (entryFrame m args maxL)) : vx_Met l y ws rm Pc Qc XC mc ms free := by
  refine MetFree.of_bodySF (code := cc) (maxLocals := maxL) (ret := ret) hy ?_ ?_
  · intro args s m h hn
    obtain ⟨meth, c, h1, h2, h3, h4, h5, h6, -, -⟩ := Cond.code_spec hn (atoms_spec (ws := ws) h _ (by rw [hw]; exact List.mem_cons_self))
    exact ⟨meth, c, h1, h2, h3, h4, h5, h6⟩
  · intro p e s m args below meth c s₁ B hml hP _
    have hh0 : s₁.heap = s.heap := by rw [B.state]; rfl
    have ht : ∀ x ∈ c.exceptionTable.toList, False := by
      obtain ⟨meth9, c9, h1, h2, -, -, -, -, h7, -⟩ := Cond.code_spec B.named (atoms_spec (ws := ws) B.pre _ (by rw [hw]; exact List.mem_cons_self))
      cases Option.some.inj (h1.symm.trans B.method)
      cases Option.some.inj (h2.symm.trans (Stand.of_body B).code)
      intro x hx
      rw [Array.isEmpty_iff.mp h7] at hx
      cases hx
    obtain ⟨t, a1, o, b1, b2, b3⟩ := body p e s m args below meth c s₁ B hml ht hP s₁ hh0 (Stand.of_body B)
    exact ⟨t, o, a1, b1, b2, b3⟩
/-- .. of a class of which some methods are the machine's own -/
theorem gm_co_ofF {M : gm_M} {d : Nat} {as : List Value} {h h' : gm_H} {o : Option Value ⊕ String} (ls : List (Option Value)) (hy : plainFor M.1 = true) (hh : M.2.2.2.2 = []) (hn : (gm_ent as).length ≤ M.2.2.1) (hls : gm_ent as ++ List.replicate (M.2.2.1 - (gm_ent as).length) none = ls)
    (a : gm_ru M d (0, ls, [], h) o h') : gm_co M d as h o h' := by
  refine ⟨a.1, ?_⟩
  intro l hl G ws aC hst hgh
  have hcw : gm_cw M = .code M.1 M.2.1 M.2.2.1 M.2.2.2.1 := by unfold gm_cw; rw [hh]
  refine gm_ofWF (ws' := []) (cc := M.2.1) (maxL := M.2.2.1) (ret := M.2.2.2.1) hy (by rw [hcw]) ?_
  intro p e s m args below meth c s₁ B hml htab hv
  obtain ⟨rfl, hE, hP, hD⟩ := hv
  have a1 := a.1.1
  have a2 := a.1.2
  dsimp only at a1 a2
  rw [lg_entry_eq]
  refine W.eq (g2 := F0 m 0 ((lg_sl aC ++ List.replicate (M.2.2.1 - (lg_sl aC).length) Slot.unset).toArray) []) rfl ?_
  refine a.2 G p l e (headSpec [gm_cw M] (gm_rm d h h')).room s m aC.toArray below meth c ⟨B.exec, B.bytes, hml, findClass_of_methodNamed B.named, hE, ?_, B.notSynchronized, hl, B.returns, (name_of_methodNamed B.named B.method).1, Nat.le_refl _, Nat.le_refl _⟩
    h.2.1 h.2.2 (h'.2.1 - h.2.1) (h'.2.2 - h.2.2) (by omega) (by omega) (Nat.le_refl _) (Nat.le_refl _) ws ws s.heap [] _ [] 0 0 (gm_e_rf ws) ⟨hP, hD, hgh, va_S.rf⟩ (gm_ls_ent hst hn ls hls) rfl rfl rfl
  rw [hh]
  exact List.eq_nil_iff_forall_not_mem.mpr fun x hx => htab x hx

