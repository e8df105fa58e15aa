/-! wrappers for the walks -/
theorem gm_cV {M Y : gm_M} {d d' pc index n : Nat} {ls : List (Option Value)} {st rest As : List Value} {h h' : gm_H} {v rv : Value} {Cn : String} (hd : decode M.2.1 pc = .ok (.invokevirtual index, 3)) (hc : gm_co Y d' (rv :: As) h (.inl (some v)) h') (hst : st = As.reverse ++ rv :: rest) (hY : gm_mt Y n) (hV : gm_mv Y Cn) (hl : gm_lk M index Y) (hr : gm_rc h rv Cn) (hn : As.length = n) (hrest : (rest.map fun v => v.category).sum ≤ 8) (hdd : d' < d) : gm_go M d (pc, ls, st, h) (pc + 3, ls, v :: rest, h') := by
  subst hst
  exact gm_call (gm_runV hd hc hY hV hl hr hn hrest hdd)
theorem gm_cV0 {M Y : gm_M} {d d' pc index n : Nat} {ls : List (Option Value)} {st rest As : List Value} {h h' : gm_H} {rv : Value} {Cn : String} (hd : decode M.2.1 pc = .ok (.invokevirtual index, 3)) (hc : gm_co Y d' (rv :: As) h (.inl none) h') (hst : st = As.reverse ++ rv :: rest) (hY : gm_mt Y n) (hV : gm_mv Y Cn) (hl : gm_lk M index Y) (hr : gm_rc h rv Cn) (hn : As.length = n) (hrest : (rest.map fun v => v.category).sum ≤ 8) (hdd : d' < d) : gm_go M d (pc, ls, st, h) (pc + 3, ls, rest, h') := by
  subst hst
  exact gm_call (gm_runV hd hc hY hV hl hr hn hrest hdd)
theorem gm_pV {M Y : gm_M} {d d' pc index n : Nat} {ls : List (Option Value)} {st rest As : List Value} {h h' : gm_H} {E : String} {rv : Value} {Cn : String} (hd : decode M.2.1 pc = .ok (.invokevirtual index, 3)) (hc : gm_co Y d' (rv :: As) h (.inr E) h') (hst : st = As.reverse ++ rv :: rest) (hh : M.2.2.2.2 = []) (hY : gm_mt Y n) (hV : gm_mv Y Cn) (hl : gm_lk M index Y) (hr : gm_rc h rv Cn) (hn : As.length = n) (hrest : (rest.map fun v => v.category).sum ≤ 8) (hdd : d' < d) : gm_ru M d (pc, ls, st, h) (.inr E) h' := by
  subst hst
  exact gm_pass (gm_runV hd hc hY hV hl hr hn hrest hdd) hh
theorem gm_cS {M Y : gm_M} {d d' pc index n : Nat} {ls : List (Option Value)} {st rest As : List Value} {h h' : gm_H} {v : Value} (hd : decode M.2.1 pc = .ok (.invokestatic index, 3)) (hc : gm_co Y d' As h (.inl (some v)) h') (hst : st = As.reverse ++ rest) (hY : gm_mt Y n) (hV : Cond.static Y.1 ∈ gm_big) (hl : gm_lk M index Y) (hn : As.length = n) (hrest : (rest.map fun v => v.category).sum ≤ 8) (hdd : d' < d) : gm_go M d (pc, ls, st, h) (pc + 3, ls, v :: rest, h') := by
  subst hst
  exact gm_call (gm_runS hd hc hY hV hl hn hrest hdd)
theorem gm_cS0 {M Y : gm_M} {d d' pc index n : Nat} {ls : List (Option Value)} {st rest As : List Value} {h h' : gm_H} (hd : decode M.2.1 pc = .ok (.invokestatic index, 3)) (hc : gm_co Y d' As h (.inl none) h') (hst : st = As.reverse ++ rest) (hY : gm_mt Y n) (hV : Cond.static Y.1 ∈ gm_big) (hl : gm_lk M index Y) (hn : As.length = n) (hrest : (rest.map fun v => v.category).sum ≤ 8) (hdd : d' < d) : gm_go M d (pc, ls, st, h) (pc + 3, ls, rest, h') := by
  subst hst
  exact gm_call (gm_runS hd hc hY hV hl hn hrest hdd)
theorem gm_pS {M Y : gm_M} {d d' pc index n : Nat} {ls : List (Option Value)} {st rest As : List Value} {h h' : gm_H} {E : String} (hd : decode M.2.1 pc = .ok (.invokestatic index, 3)) (hc : gm_co Y d' As h (.inr E) h') (hst : st = As.reverse ++ rest) (hh : M.2.2.2.2 = []) (hY : gm_mt Y n) (hV : Cond.static Y.1 ∈ gm_big) (hl : gm_lk M index Y) (hn : As.length = n) (hrest : (rest.map fun v => v.category).sum ≤ 8) (hdd : d' < d) : gm_ru M d (pc, ls, st, h) (.inr E) h' := by
  subst hst
  exact gm_pass (gm_runS hd hc hY hV hl hn hrest hdd) hh
theorem gm_cI {M Y : gm_M} {d d' pc index n : Nat} {ls : List (Option Value)} {st rest As : List Value} {h h' : gm_H} {rv : Value} {Cn : String} (hd : decode M.2.1 pc = .ok (.invokespecial index, 3)) (hc : gm_co Y d' (rv :: As) h (.inl none) h') (hst : st = As.reverse ++ rv :: rest) (hY : gm_mt Y n) (hV : Cond.instanceMethod Y.1 ∈ gm_big ∧ Y.1.name = "<init>" ∧ Y.2.2.2.1 = none) (hl : gm_lk M index Y) (hr : gm_rc h rv Cn) (hn : As.length = n) (hrest : (rest.map fun v => v.category).sum ≤ 8) (hdd : d' < d) : gm_go M d (pc, ls, st, h) (pc + 3, ls, rest, h') := by
  subst hst
  exact gm_call (gm_runI hd hc hY hV hl hr hn hrest hdd)
theorem gm_go_eq {M : gm_M} {d : Nat} {f g g' : gm_fr} (a : gm_go M d f g) (e : g = g') : gm_go M d f g' := e ▸ a
theorem gm_go_end {M : gm_M} {d : Nat} {f g : gm_fr} (e : f = g) : gm_go M d f g := e ▸ gm_go_rf
theorem gm_iret' {M : gm_M} {d pc : Nat} {ls : List (Option Value)} {h h' : gm_H} {x y : Int32} (hd : decode M.2.1 pc = .ok (.ireturn, 1)) (hr : M.2.2.2.1 = some .int) (e : x = y) (eh : h = h') : gm_ru M d (pc, ls, [.int x], h) (.inl (some (.int y))) h' := by
  subst e; subst eh
  exact gm_iret hd hr
theorem gm_bret {M : gm_M} {d pc : Nat} {ls : List (Option Value)} {h : gm_H} {b : Bool} (hd : decode M.2.1 pc = .ok (.ireturn, 1)) (hr : M.2.2.2.1 = some .boolean) : gm_ru M d (pc, ls, [.int (zI (if b then 1 else 0))], h) (.inl (some (.int (zI (if b then 1 else 0))))) h :=
  gm_zret hd hr (by cases b <;> decide +kernel)
/-- a loop upwards -/
theorem gl_up {M : gm_M} {d : Nat} (P : Nat → gm_fr → Prop) (e : Nat) (step : ∀ (j : Nat) (f : gm_fr), j < e → P j f → ∃ f', gm_go M d f f' ∧ P (j + 1) f') : ∀ (j : Nat) (f : gm_fr), j ≤ e → P j f → ∃ f', gm_go M d f f' ∧ P e f' := by
  intro j
  generalize hm : e - j = m
  induction m generalizing j with
  | zero =>
    intro f hj h
    have : j = e := by omega
    subst this
    exact ⟨f, gm_go_rf, h⟩
  | succ m ih =>
    intro f hj h
    obtain ⟨g, h1, h2⟩ := step j f (by omega) h
    obtain ⟨k, h3, h4⟩ := ih (j + 1) (by omega) g (by omega) h2
    exact ⟨k, gm_go_tr h1 h3, h4⟩
def zB (b : Bool) : Int := if b then 1 else 0
theorem zB_nar (b : Bool) : narrow .boolean (.int (zI (zB b))) = .int (zI (zB b)) := by cases b <;> decide +kernel
theorem zB_t {p : Prop} [Decidable p] (h : p) : zB (decide p) = 1 := by simp [zB, h]
theorem zB_f {p : Prop} [Decidable p] (h : ¬ p) : zB (decide p) = 0 := by simp [zB, h]
theorem gm_zret' {M : gm_M} {d pc : Nat} {ls : List (Option Value)} {h : gm_H} {x : Int32} {b : Bool} (hd : decode M.2.1 pc = .ok (.ireturn, 1)) (hr : M.2.2.2.1 = some .boolean) (e : x = zI (zB b)) : gm_ru M d (pc, ls, [.int x], h) (.inl (some (.int (zI (zB b))))) h := by
  subst e
  exact gm_zret hd hr (zB_nar b)
theorem gi_shr {M : gm_M} {d pc : Nat} {ls : List (Option Value)} {st : List Value} {h : gm_H} {n k : Nat} (hd : decode M.2.1 pc = .ok (.ishr, 1)) (hn : n < 2147483648) (hk : k < 32) : gm_go M d (pc, ls, .int (zI (k : Int)) :: .int (zI (n : Int)) :: st, h) (pc + 1, ls, .int (zI ((n / 2 ^ k : Nat) : Int)) :: st, h) := by
  rw [← zI_shr hn hk]
  exact gm_ishr hd
theorem gi_and1 {M : gm_M} {d pc : Nat} {ls : List (Option Value)} {st : List Value} {h : gm_H} {n : Nat} (hd : decode M.2.1 pc = .ok (.iand, 1)) : gm_go M d (pc, ls, .int (zI 1) :: .int (zI (n : Int)) :: st, h) (pc + 1, ls, .int (zI ((n % 2 : Nat) : Int)) :: st, h) := by
  have h1 : zI (n : Int) &&& zI 1 = zI ((n % 2 : Nat) : Int) := by
    rw [← Nat.and_one_is_mod]
    exact zI_and n 1
  rw [← h1]
  exact gm_iand hd
theorem gi_or {M : gm_M} {d pc : Nat} {ls : List (Option Value)} {st : List Value} {h : gm_H} {a b : Nat} (hd : decode M.2.1 pc = .ok (.ior, 1)) : gm_go M d (pc, ls, .int (zI (b : Int)) :: .int (zI (a : Int)) :: st, h) (pc + 1, ls, .int (zI ((a ||| b : Nat) : Int)) :: st, h) := by
  rw [← zI_or]
  exact gm_ior hd
theorem gi_and {M : gm_M} {d pc : Nat} {ls : List (Option Value)} {st : List Value} {h : gm_H} {a b : Nat} (hd : decode M.2.1 pc = .ok (.iand, 1)) : gm_go M d (pc, ls, .int (zI (b : Int)) :: .int (zI (a : Int)) :: st, h) (pc + 1, ls, .int (zI ((a &&& b : Nat) : Int)) :: st, h) := by
  rw [← zI_and]
  exact gm_iand hd
theorem gi_shl1 {M : gm_M} {d pc : Nat} {ls : List (Option Value)} {st : List Value} {h : gm_H} {k : Nat} (hd : decode M.2.1 pc = .ok (.ishl, 1)) (hk : k < 31) : gm_go M d (pc, ls, .int (zI (k : Int)) :: .int (zI 1) :: st, h) (pc + 1, ls, .int (zI ((2 ^ k : Nat) : Int)) :: st, h) := by
  rw [← zI_shl1 k hk]
  exact gm_ishl hd
