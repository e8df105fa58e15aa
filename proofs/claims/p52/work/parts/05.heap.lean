/-! the heap: fields, arrays, things made -/
section GMH
variable {G : gm_G} {M : gm_M} {d : Nat} {p : Program} {l : Launch} {e : Env} {R : Room} {s : State} {m : MethodId} {args : Array Value} {below : List Frame} {meth : Method} {c : Code}
theorem gm_Ce (C : gm_C G M d p l e R s m args below meth c) : gm_E G s s.heap := C.2.2.2.2.1
theorem gm_Ck (C : gm_C G M d p l e R s m args below meth c) : va_K (gm_D G) vwCl (gm_T G) s := C.2.2.2.2.1.2.1
theorem gm_Ct (C : gm_C G M d p l e R s m args below meth c) : ∀ w ∈ gm_big, w.before args s = true := fun w hw => gm_warm (List.mem_filter.mp hw).2 (State.WarmedH.refl s) (C.2.2.2.2.1.2.2.2.1 w hw)
theorem gm_Cf (C : gm_C G M d p l e R s m args below meth c) : ∀ q : Nat, s.heap.size ≤ q → gm_F G q := fun _ h => Nat.le_trans C.2.2.2.2.1.1 h
theorem gm_Ckc (C : gm_C G M d p l e R s m args below meth c) : gm_K gm_Kc G s s.heap := C.2.2.2.2.1.2.2.2.2.1
end GMH
theorem gm_h_get {G : gm_G} {ws : va_W} {cs : List gm_cl} (h : gm_h G ws cs) {k : Nat} {c : gm_cl} (hk : cs[k]? = some c) : ∃ q, ws[k]? = some q ∧ gm_c G ws c q.2 := h.2 k c hk
theorem gm_h_set {G : gm_G} {ws : va_W} {cs : List gm_cl} (h : gm_h G ws cs) {k a : Nat} {e e' : va_E} {c' : gm_cl} (hk : ws[k]? = some (a, e)) (hc : gm_c G ws c' e') : gm_h G (ws.set k (a, e')) (cs.set k c') := by
  refine ⟨by rw [List.length_set, List.length_set]; exact h.1, fun j x hj => ?_⟩
  have he := gm_e_set (e' := e') hk
  by_cases q : k = j
  · subst q
    have h1 : k < cs.length := by
      have := (List.getElem?_eq_some_iff.mp hj).1
      rw [List.length_set] at this
      exact this
    rw [List.getElem?_set_self h1] at hj
    cases hj
    exact ⟨(a, e'), by rw [List.getElem?_set_self (by rw [h.1]; exact h1)], gm_c_mono he hc⟩
  · rw [List.getElem?_set_ne q] at hj
    obtain ⟨y, h1, h2⟩ := h.2 j x hj
    exact ⟨y, by rw [List.getElem?_set_ne q]; exact h1, gm_c_mono he h2⟩
theorem gm_h_app {G : gm_G} {ws : va_W} {cs : List gm_cl} (h : gm_h G ws cs) {a : Nat} {e : va_E} {c' : gm_cl} (hc : gm_c G ws c' e) : gm_h G (ws ++ [(a, e)]) (cs ++ [c']) := by
  have he := gm_e_app ws [(a, e)]
  refine ⟨by rw [List.length_append, List.length_append, h.1]; rfl, fun j x hj => ?_⟩
  by_cases q : j < cs.length
  · rw [List.getElem?_append_left q] at hj
    obtain ⟨y, h1, h2⟩ := h.2 j x hj
    exact ⟨y, by rw [List.getElem?_append_left (by rw [h.1]; exact q)]; exact h1, gm_c_mono he h2⟩
  · rw [List.getElem?_append_right (by omega)] at hj
    have hz : j - cs.length < 1 := (List.getElem?_eq_some_iff.mp hj).1
    rw [show j - cs.length = 0 by omega] at hj
    cases hj
    exact ⟨(a, e), by rw [List.getElem?_append_right (by rw [h.1]; omega), show j - ws.length = 0 by rw [h.1]; omega]; rfl, gm_c_mono he hc⟩
/-- a step that writes a cell -/
theorem gm_go_hp {M : gm_M} {d pc pc' : Nat} {ls : List (Option Value)} {st st' : List Value} {h : gm_H} {k : Nat} {c' : gm_cl}
    (a : ∀ (G : gm_G) (p : Program) (l : Launch) (e : Env) (R : Room) (s : State) (m : MethodId) (args : Array Value) (below : List Frame) (meth : Method) (c : Code), gm_C G M d p l e R s m args below meth c →
      ∀ (ws : va_W) (H : Heap) (locs : List Loc) (A : Array Slot) (stC : List Value) (cells slots : Nat) (Q : State → Prop), gm_W G s ws h H locs → gm_ls G ws M.2.2.1 ls A → gm_st G ws st stC →
      (∀ (b : Nat) (x y : va_E) (H1 : Heap) (locs1 : List Loc) (stC' : List Value), ws[k]? = some (b, x) → gm_c G ws c' y → va_P (gm_D G) vwCl (ws.set k (b, y)) H1 → va_D (gm_F G) (ws.set k (b, y)) → va_S (gm_F G) s.heap H1 locs1 → gm_st G ws st' stC' → W p l e R s m args below meth c H1 locs1 cells slots Q (F0 m pc' A stC')) →
      W p l e R s m args below meth c H locs cells slots Q (F0 m pc A stC)) : gm_go M d (pc, ls, st, h) (pc', ls, st', (h.1.set k c', h.2)) := by
  refine ⟨⟨Nat.le_refl _, Nat.le_refl _⟩, ?_⟩
  intro G p l e R s m args below meth c C k0 s0 _ _ ws H locs A stC cells slots Q hW hl hs e1 e2 kk
  refine a G p l e R s m args below meth c C ws H locs A stC cells slots Q hW hl hs ?_
  intro b x y H1 locs1 stC' hk hc hP hD hS hs'
  have he := gm_e_set (e' := y) hk
  exact kk _ H1 locs1 A stC' cells slots he ⟨hP, hD, gm_h_set hW.2.2.1 hk hc, hS⟩ (gm_ls_mono he hl) (gm_st_mono he hs') e1 e2
/-- a step that makes a cell -/
theorem gm_go_mk {M : gm_M} {d pc pc' n : Nat} {ls : List (Option Value)} {st st' : List Value} {h : gm_H} {c' : gm_cl}
    (a : ∀ (G : gm_G) (p : Program) (l : Launch) (e : Env) (R : Room) (s : State) (m : MethodId) (args : Array Value) (below : List Frame) (meth : Method) (c : Code), gm_C G M d p l e R s m args below meth c →
      ∀ (ws : va_W) (H : Heap) (locs : List Loc) (A : Array Slot) (stC : List Value) (cells slots : Nat) (Q : State → Prop), gm_W G s ws h H locs → gm_ls G ws M.2.2.1 ls A → gm_st G ws st stC → cells + 1 ≤ R.cells → slots + n ≤ R.slots →
      (∀ (b : Nat) (y : va_E) (H1 : Heap) (locs1 : List Loc) (stC' : List Value), gm_c G ws c' y → va_P (gm_D G) vwCl (ws ++ [(b, y)]) H1 → va_D (gm_F G) (ws ++ [(b, y)]) → va_S (gm_F G) s.heap H1 locs1 → gm_st G ws st' stC' → W p l e R s m args below meth c H1 locs1 (cells + 1) (slots + n) Q (F0 m pc' A (.ref b :: stC'))) →
      W p l e R s m args below meth c H locs cells slots Q (F0 m pc A stC)) : gm_go M d (pc, ls, st, h) (pc', ls, .ref h.1.length :: st', (h.1 ++ [c'], (h.2.1 + 1, h.2.2 + n))) := by
  refine ⟨⟨Nat.le_succ _, Nat.le_add_right _ _⟩, ?_⟩
  intro G p l e R s m args below meth c C k0 s0 r1 r2 ws H locs A stC cells slots Q hW hl hs e1 e2 kk
  dsimp only at r1 r2 e1 e2
  refine a G p l e R s m args below meth c C ws H locs A stC cells slots Q hW hl hs (by omega) (by omega) ?_
  intro b y H1 locs1 stC' hc hP hD hS hs'
  have he := gm_e_app ws [(b, y)]
  refine kk _ H1 locs1 A _ _ _ he ⟨hP, hD, gm_h_app hW.2.2.1 hc, hS⟩ (gm_ls_mono he hl) ⟨_, _, rfl, ⟨(b, y), ?_, rfl⟩, gm_st_mono he hs'⟩ (by dsimp only; omega) (by dsimp only; omega)
  rw [← hW.2.2.1.1, List.getElem?_append_right (Nat.le_refl _), Nat.sub_self]
  rfl
/-- the field j of the class ci under its number in the class of M -/
def gm_fl (M : gm_M) (index ci j : Nat) : Prop := ∃ (C : String) (T : u_T) (N : Nat), vwCl[ci]? = some (C, T, N) ∧ (∀ w ∈ u_ws C T N, w ∈ gm_big) ∧ j < N ∧ (Cond.fieldLink M.1.cls index (T j).1 (T j).2.1 (T j).2.2.1 ∈ gm_big ∨ ∃ host, Cond.fieldLinkNest M.1.cls index (T j).1 (T j).2.1 (T j).2.2.1 host ∈ gm_big)
theorem gm_get {M : gm_M} {d pc : Nat} {ls : List (Option Value)} {st : List Value} {h : gm_H} {index ci j k : Nat} {fs : List Value} {v : Value} (hd : decode M.2.1 pc = .ok (.getfield index, 3)) (hf : gm_fl M index ci j) (hk : h.1[k]? = some (.inr (ci, fs))) (hv : fs[j]? = some v) : gm_go M d (pc, ls, .ref k :: st, h) (pc + 3, ls, v :: st, h) :=
  gm_go_st fun G p l e R s m args below meth c C ws H locs A stC cells slots Q hW hl hs kk => by
    obtain ⟨_, _, rfl, ⟨q, hq, rfl⟩, hs⟩ := hs
    obtain ⟨Cn, T, N, h1, h2, h3, h4⟩ := hf
    obtain ⟨q', hq', fs', he, hst⟩ := gm_h_get hW.2.2.1 hk
    cases Option.some.inj (hq.symm.trans hq')
    obtain ⟨b, x⟩ := q
    dsimp only at he
    subst he
    obtain ⟨w, hw, hvw⟩ := gm_st_get hst hv
    rcases h4 with h4 | ⟨host, h4⟩
    · exact va_get C.1 C.2.1 (gm_Ct C) h2 C.2.2.2.1 (gm_Ck C) hW.1 k hq h1 j h3 (gm_Ct C _ h4) (fun _ h9 => h9) hw hd (kk _ ⟨_, _, rfl, hvw, hs⟩)
    · exact va_getN C.1 C.2.1 (gm_Ct C) h2 C.2.2.2.1 (gm_Ck C) hW.1 k hq h1 j h3 (gm_Ct C _ h4) (fun _ h9 => h9) hw hd (kk _ ⟨_, _, rfl, hvw, hs⟩)
def gm_rt (ty : FieldType) : Prop := match ty with
  | .object _ => True
  | .array _ => True
  | _ => False
/-- v may be put into a field of that type -/
def gm_ft (ty : FieldType) (v : Value) : Prop := match v with
  | .ref _ => gm_rt ty
  | .retAddr _ => gm_rt ty
  | .null => False
  | v => narrow ty v = v ∧ fits ty v = true
theorem gm_ft_c {G : gm_G} {ws : va_W} {ty : FieldType} {v w : Value} (h : gm_v G ws v w) (hf : gm_ft ty v) : narrow ty w = w ∧ fits ty w = true := by
  cases v with
  | ref k =>
    obtain ⟨q, -, rfl⟩ := h
    cases ty <;> first | (cases hf; done) | exact ⟨rfl, rfl⟩
  | retAddr k =>
    rw [show w = gm_kk G k from h]
    unfold gm_kk
    split <;> cases ty <;> first | (cases hf; done) | exact ⟨rfl, rfl⟩
  | int x => rw [show w = .int x from h]; exact hf
  | long x => rw [show w = .long x from h]; exact hf
  | float x => rw [show w = .float x from h]; exact hf
  | double x => rw [show w = .double x from h]; exact hf
  | null => cases hf
/-- .. and may be written there -/
def gm_fp (M : gm_M) (index ci j : Nat) (ty : FieldType) : Prop := ∃ (C : String) (T : u_T) (N : Nat) (ty0 : Nat → FieldType), vwCl[ci]? = some (C, T, N) ∧ (∀ w ∈ u_ws C T N, w ∈ gm_big) ∧ j < N ∧
  (∀ k, k < N → parseFieldDescriptor (T k).2.2.1 = some (ty0 k)) ∧ (∀ a, a < N → ∀ b, b < N → a ≠ b → (T a).2.1 ≠ (T b).2.1) ∧ parseFieldDescriptor (T j).2.2.1 = some ty ∧
  ((Cond.fieldLink M.1.cls index (T j).1 (T j).2.1 (T j).2.2.1 ∈ gm_big ∧ ((T j).2.2.2 = false ∨ ((T j).2.2.2 = true ∧ M.1.name = "<init>" ∧ (T j).1 = M.1.cls))) ∨ ((T j).2.2.2 = false ∧ ∃ host, Cond.fieldLinkNest M.1.cls index (T j).1 (T j).2.1 (T j).2.2.1 host ∈ gm_big))
theorem gm_put {M : gm_M} {d pc : Nat} {ls : List (Option Value)} {st : List Value} {h : gm_H} {index ci j k : Nat} {fs : List Value} {v : Value} {ty : FieldType} (hd : decode M.2.1 pc = .ok (.putfield index, 3)) (hf : gm_fp M index ci j ty) (hk : h.1[k]? = some (.inr (ci, fs))) (hj : j < fs.length) (hv : gm_ft ty v) : gm_go M d (pc, ls, v :: .ref k :: st, h) (pc + 3, ls, st, (h.1.set k (.inr (ci, fs.set j v)), h.2)) :=
  gm_go_hp fun G p l e R s m args below meth c C ws H locs A stC cells slots Q hW hl hs kk => by
    obtain ⟨w, _, rfl, hvw, _, _, rfl, ⟨q, hq, rfl⟩, hs⟩ := hs
    obtain ⟨Cn, T, N, ty0, h1, h2, h3, h5, h6, h7, h4⟩ := hf
    obtain ⟨q', hq', fs', he, hst⟩ := gm_h_get hW.2.2.1 hk
    cases Option.some.inj (hq.symm.trans hq')
    obtain ⟨b, x⟩ := q
    dsimp only at he
    subst he
    obtain ⟨n1, n2⟩ := gm_ft_c hvw hv
    have hlen : j < fs'.length := by rw [gm_st_len hst]; exact hj
    have hc : gm_c G ws (.inr (ci, fs.set j v)) (.inr (ci, fs'.set j w)) := ⟨_, rfl, gm_st_set hvw hst j⟩
    rcases h4 with ⟨h4, h8 | ⟨h8, h9, h10⟩⟩ | ⟨h8, host, h4⟩
    · exact va_put C.1 C.2.1 (gm_Ct C) h2 ty0 h5 h6 C.2.2.2.1 (gm_Ck C) hW.1 hW.2.1 hW.2.2.2 k hq h1 j h3 (gm_Ct C _ h4) (fun _ h9 => h9) h8 h7 n1 n2 hlen hd (fun H1 locs1 hP hD hS => kk b _ _ H1 locs1 _ hq hc hP hD hS hs)
    · exact va_putF C.1 C.2.1 (gm_Ct C) h2 ty0 h5 h6 C.2.2.2.1 (gm_Ck C) hW.1 hW.2.1 hW.2.2.2 k hq h1 j h3 (gm_Ct C _ h4) (fun _ h9 => h9) h8 (C.2.2.2.2.2.2.2.2.2.1.trans h9) h10 h7 n1 n2 hlen hd (fun H1 locs1 hP hD hS => kk b _ _ H1 locs1 _ hq hc hP hD hS hs)
    · exact va_putN C.1 C.2.1 (gm_Ct C) h2 ty0 h5 h6 C.2.2.2.1 (gm_Ck C) hW.1 hW.2.1 hW.2.2.2 k hq h1 j h3 (gm_Ct C _ h4) (fun _ h9 => h9) h8 h7 n1 n2 hlen hd (fun H1 locs1 hP hD hS => kk b _ _ H1 locs1 _ hq hc hP hD hS hs)
theorem gm_iald {M : gm_M} {d pc : Nat} {ls : List (Option Value)} {st : List Value} {h : gm_H} {k n : Nat} {i : Int32} {f : Nat → Int32} (hd : decode M.2.1 pc = .ok (.iaload, 1)) (hk : h.1[k]? = some (.inl (0, n, .inl f))) (hin : vp_in i n) : gm_go M d (pc, ls, .int i :: .ref k :: st, h) (pc + 1, ls, .int (f i.toNatClampNeg) :: st, h) :=
  gm_go_st fun G p l e R s m args below meth c C ws H locs A stC cells slots Q hW hl hs kk => by
    obtain ⟨_, _, rfl, rfl, _, _, rfl, ⟨q, hq, rfl⟩, hs⟩ := hs
    obtain ⟨q', hq', hcell⟩ := gm_h_get hW.2.2.1 hk
    cases Option.some.inj (hq.symm.trans hq')
    obtain ⟨ty, cA, y, t0, t1, he, hx⟩ := hcell
    cases t0
    obtain ⟨b, x9⟩ := q
    dsimp only at he
    subst he
    have hx : y = .inl f := hx
    subst hx
    exact va_iald C.1 C.2.1 (gm_Ck C) hW.1 k 0 hq t1 hin hd (kk _ ⟨_, _, rfl, rfl, hs⟩)
theorem gm_iast {M : gm_M} {d pc : Nat} {ls : List (Option Value)} {st : List Value} {h : gm_H} {k n : Nat} {i : Int32} {x : Int32} {f : Nat → Int32} (hd : decode M.2.1 pc = .ok (.iastore, 1)) (hk : h.1[k]? = some (.inl (0, n, .inl f))) (hin : vp_in i n) : gm_go M d (pc, ls, .int x :: .int i :: .ref k :: st, h) (pc + 1, ls, st, (h.1.set k (.inl (0, n, .inl (upd f i.toNatClampNeg x))), h.2)) :=
  gm_go_hp fun G p l e R s m args below meth c C ws H locs A stC cells slots Q hW hl hs kk => by
    obtain ⟨_, _, rfl, rfl, _, _, rfl, rfl, _, _, rfl, ⟨q, hq, rfl⟩, hs⟩ := hs
    obtain ⟨q', hq', hcell⟩ := gm_h_get hW.2.2.1 hk
    cases Option.some.inj (hq.symm.trans hq')
    obtain ⟨ty, cA, y, t0, t1, he, hx⟩ := hcell
    cases t0
    obtain ⟨b, x9⟩ := q
    dsimp only at he
    subst he
    have hx : y = .inl f := hx
    subst hx
    exact va_iast C.1 C.2.1 (gm_Ck C) hW.1 hW.2.1 hW.2.2.2 k 0 hq t1 hin hd (fun H1 locs1 hP hD hS => kk b _ _ H1 locs1 _ hq ⟨_, cA, _, rfl, t1, rfl, rfl⟩ hP hD hS hs)
theorem gm_lald {M : gm_M} {d pc : Nat} {ls : List (Option Value)} {st : List Value} {h : gm_H} {k n : Nat} {i : Int32} {f : Nat → Int64} (hd : decode M.2.1 pc = .ok (.laload, 1)) (hk : h.1[k]? = some (.inl (1, n, .inr (.inl f)))) (hin : vp_in i n) : gm_go M d (pc, ls, .int i :: .ref k :: st, h) (pc + 1, ls, .long (f i.toNatClampNeg) :: st, h) :=
  gm_go_st fun G p l e R s m args below meth c C ws H locs A stC cells slots Q hW hl hs kk => by
    obtain ⟨_, _, rfl, rfl, _, _, rfl, ⟨q, hq, rfl⟩, hs⟩ := hs
    obtain ⟨q', hq', hcell⟩ := gm_h_get hW.2.2.1 hk
    cases Option.some.inj (hq.symm.trans hq')
    obtain ⟨ty, cA, y, t0, t1, he, hx⟩ := hcell
    cases t0
    obtain ⟨b, x9⟩ := q
    dsimp only at he
    subst he
    have hx : y = .inr (.inl f) := hx
    subst hx
    exact va_lald C.1 C.2.1 (gm_Ck C) hW.1 k 1 hq t1 hin hd (kk _ ⟨_, _, rfl, rfl, hs⟩)
theorem gm_last {M : gm_M} {d pc : Nat} {ls : List (Option Value)} {st : List Value} {h : gm_H} {k n : Nat} {i : Int32} {x : Int64} {f : Nat → Int64} (hd : decode M.2.1 pc = .ok (.lastore, 1)) (hk : h.1[k]? = some (.inl (1, n, .inr (.inl f)))) (hin : vp_in i n) : gm_go M d (pc, ls, .long x :: .int i :: .ref k :: st, h) (pc + 1, ls, st, (h.1.set k (.inl (1, n, .inr (.inl (vp_updL f i.toNatClampNeg x)))), h.2)) :=
  gm_go_hp fun G p l e R s m args below meth c C ws H locs A stC cells slots Q hW hl hs kk => by
    obtain ⟨_, _, rfl, rfl, _, _, rfl, rfl, _, _, rfl, ⟨q, hq, rfl⟩, hs⟩ := hs
    obtain ⟨q', hq', hcell⟩ := gm_h_get hW.2.2.1 hk
    cases Option.some.inj (hq.symm.trans hq')
    obtain ⟨ty, cA, y, t0, t1, he, hx⟩ := hcell
    cases t0
    obtain ⟨b, x9⟩ := q
    dsimp only at he
    subst he
    have hx : y = .inr (.inl f) := hx
    subst hx
    exact va_last C.1 C.2.1 (gm_Ck C) hW.1 hW.2.1 hW.2.2.2 k 1 hq t1 hin hd (fun H1 locs1 hP hD hS => kk b _ _ H1 locs1 _ hq ⟨_, cA, _, rfl, t1, rfl, rfl⟩ hP hD hS hs)
theorem gm_cald {M : gm_M} {d pc : Nat} {ls : List (Option Value)} {st : List Value} {h : gm_H} {k n : Nat} {i : Int32} {f : Nat → Int32} (hd : decode M.2.1 pc = .ok (.caload, 1)) (hk : h.1[k]? = some (.inl (3, n, .inl f))) (hin : vp_in i n) : gm_go M d (pc, ls, .int i :: .ref k :: st, h) (pc + 1, ls, .int (f i.toNatClampNeg) :: st, h) :=
  gm_go_st fun G p l e R s m args below meth c C ws H locs A stC cells slots Q hW hl hs kk => by
    obtain ⟨_, _, rfl, rfl, _, _, rfl, ⟨q, hq, rfl⟩, hs⟩ := hs
    obtain ⟨q', hq', hcell⟩ := gm_h_get hW.2.2.1 hk
    cases Option.some.inj (hq.symm.trans hq')
    obtain ⟨ty, cA, y, t0, t1, he, hx⟩ := hcell
    cases t0
    obtain ⟨b, x9⟩ := q
    dsimp only at he
    subst he
    have hx : y = .inl f := hx
    subst hx
    exact va_cald C.1 C.2.1 (gm_Ck C) hW.1 k 3 hq t1 hin hd (kk _ ⟨_, _, rfl, rfl, hs⟩)
theorem gm_cast {M : gm_M} {d pc : Nat} {ls : List (Option Value)} {st : List Value} {h : gm_H} {k n : Nat} {i : Int32} {x : Int32} {f : Nat → Int32} (hd : decode M.2.1 pc = .ok (.castore, 1)) (hk : h.1[k]? = some (.inl (3, n, .inl f))) (hin : vp_in i n) : gm_go M d (pc, ls, .int x :: .int i :: .ref k :: st, h) (pc + 1, ls, st, (h.1.set k (.inl (3, n, .inl (upd f i.toNatClampNeg (vp_nar .char x)))), h.2)) :=
  gm_go_hp fun G p l e R s m args below meth c C ws H locs A stC cells slots Q hW hl hs kk => by
    obtain ⟨_, _, rfl, rfl, _, _, rfl, rfl, _, _, rfl, ⟨q, hq, rfl⟩, hs⟩ := hs
    obtain ⟨q', hq', hcell⟩ := gm_h_get hW.2.2.1 hk
    cases Option.some.inj (hq.symm.trans hq')
    obtain ⟨ty, cA, y, t0, t1, he, hx⟩ := hcell
    cases t0
    obtain ⟨b, x9⟩ := q
    dsimp only at he
    subst he
    have hx : y = .inl f := hx
    subst hx
    exact va_cast C.1 C.2.1 (gm_Ck C) hW.1 hW.2.1 hW.2.2.2 k 3 hq t1 hin hd (fun H1 locs1 hP hD hS => kk b _ _ H1 locs1 _ hq ⟨_, cA, _, rfl, t1, rfl, rfl⟩ hP hD hS hs)
theorem gm_bald {M : gm_M} {d pc : Nat} {ls : List (Option Value)} {st : List Value} {h : gm_H} {k n : Nat} {i : Int32} {f : Nat → Int32} (hd : decode M.2.1 pc = .ok (.baload, 1)) (hk : h.1[k]? = some (.inl (4, n, .inl f))) (hin : vp_in i n) : gm_go M d (pc, ls, .int i :: .ref k :: st, h) (pc + 1, ls, .int (f i.toNatClampNeg) :: st, h) :=
  gm_go_st fun G p l e R s m args below meth c C ws H locs A stC cells slots Q hW hl hs kk => by
    obtain ⟨_, _, rfl, rfl, _, _, rfl, ⟨q, hq, rfl⟩, hs⟩ := hs
    obtain ⟨q', hq', hcell⟩ := gm_h_get hW.2.2.1 hk
    cases Option.some.inj (hq.symm.trans hq')
    obtain ⟨ty, cA, y, t0, t1, he, hx⟩ := hcell
    cases t0
    obtain ⟨b, x9⟩ := q
    dsimp only at he
    subst he
    have hx : y = .inl f := hx
    subst hx
    exact va_bald C.1 C.2.1 (gm_Ck C) hW.1 k 4 hq t1 hin hd (kk _ ⟨_, _, rfl, rfl, hs⟩)
theorem gm_bast {M : gm_M} {d pc : Nat} {ls : List (Option Value)} {st : List Value} {h : gm_H} {k n : Nat} {i : Int32} {x : Int32} {f : Nat → Int32} (hd : decode M.2.1 pc = .ok (.bastore, 1)) (hk : h.1[k]? = some (.inl (4, n, .inl f))) (hin : vp_in i n) : gm_go M d (pc, ls, .int x :: .int i :: .ref k :: st, h) (pc + 1, ls, st, (h.1.set k (.inl (4, n, .inl (upd f i.toNatClampNeg (vp_nar .byte x)))), h.2)) :=
  gm_go_hp fun G p l e R s m args below meth c C ws H locs A stC cells slots Q hW hl hs kk => by
    obtain ⟨_, _, rfl, rfl, _, _, rfl, rfl, _, _, rfl, ⟨q, hq, rfl⟩, hs⟩ := hs
    obtain ⟨q', hq', hcell⟩ := gm_h_get hW.2.2.1 hk
    cases Option.some.inj (hq.symm.trans hq')
    obtain ⟨ty, cA, y, t0, t1, he, hx⟩ := hcell
    cases t0
    obtain ⟨b, x9⟩ := q
    dsimp only at he
    subst he
    have hx : y = .inl f := hx
    subst hx
    exact va_bast C.1 C.2.1 (gm_Ck C) hW.1 hW.2.1 hW.2.2.2 k 4 hq t1 hin hd (fun H1 locs1 hP hD hS => kk b _ _ H1 locs1 _ hq ⟨_, cA, _, rfl, t1, rfl, rfl⟩ hP hD hS hs)
theorem gm_dald {M : gm_M} {d pc : Nat} {ls : List (Option Value)} {st : List Value} {h : gm_H} {k n : Nat} {i : Int32} {f : Nat → UInt64} (hd : decode M.2.1 pc = .ok (.daload, 1)) (hk : h.1[k]? = some (.inl (2, n, .inr (.inr (.inr (.inl f)))))) (hin : vp_in i n) : gm_go M d (pc, ls, .int i :: .ref k :: st, h) (pc + 1, ls, .double (f i.toNatClampNeg) :: st, h) :=
  gm_go_st fun G p l e R s m args below meth c C ws H locs A stC cells slots Q hW hl hs kk => by
    obtain ⟨_, _, rfl, rfl, _, _, rfl, ⟨q, hq, rfl⟩, hs⟩ := hs
    obtain ⟨q', hq', hcell⟩ := gm_h_get hW.2.2.1 hk
    cases Option.some.inj (hq.symm.trans hq')
    obtain ⟨ty, cA, y, t0, t1, he, hx⟩ := hcell
    cases t0
    obtain ⟨b, x9⟩ := q
    dsimp only at he
    subst he
    have hx : y = .inr (.inr (.inr (.inl f))) := hx
    subst hx
    exact va_dald C.1 C.2.1 (gm_Ck C) hW.1 k 2 hq t1 hin hd (kk _ ⟨_, _, rfl, rfl, hs⟩)
theorem gm_dast {M : gm_M} {d pc : Nat} {ls : List (Option Value)} {st : List Value} {h : gm_H} {k n : Nat} {i : Int32} {x : UInt64} {f : Nat → UInt64} (hd : decode M.2.1 pc = .ok (.dastore, 1)) (hk : h.1[k]? = some (.inl (2, n, .inr (.inr (.inr (.inl f)))))) (hin : vp_in i n) : gm_go M d (pc, ls, .double x :: .int i :: .ref k :: st, h) (pc + 1, ls, st, (h.1.set k (.inl (2, n, .inr (.inr (.inr (.inl (va_up f i.toNatClampNeg x)))))), h.2)) :=
  gm_go_hp fun G p l e R s m args below meth c C ws H locs A stC cells slots Q hW hl hs kk => by
    obtain ⟨_, _, rfl, rfl, _, _, rfl, rfl, _, _, rfl, ⟨q, hq, rfl⟩, hs⟩ := hs
    obtain ⟨q', hq', hcell⟩ := gm_h_get hW.2.2.1 hk
    cases Option.some.inj (hq.symm.trans hq')
    obtain ⟨ty, cA, y, t0, t1, he, hx⟩ := hcell
    cases t0
    obtain ⟨b, x9⟩ := q
    dsimp only at he
    subst he
    have hx : y = .inr (.inr (.inr (.inl f))) := hx
    subst hx
    exact va_dast C.1 C.2.1 (gm_Ck C) hW.1 hW.2.1 hW.2.2.2 k 2 hq t1 hin hd (fun H1 locs1 hP hD hS => kk b _ _ H1 locs1 _ hq ⟨_, cA, _, rfl, t1, rfl, rfl⟩ hP hD hS hs)
theorem gm_alen {M : gm_M} {d pc : Nat} {ls : List (Option Value)} {st : List Value} {h : gm_H} {k t : Nat} {x : vp_A} {v : Int32} (hd : decode M.2.1 pc = .ok (.arraylength, 1)) (hk : h.1[k]? = some (.inl (t, x))) (hv : Int32.ofNat x.1 = v) : gm_go M d (pc, ls, .ref k :: st, h) (pc + 1, ls, .int v :: st, h) :=
  gm_go_st fun G p l e R s m args below meth c C ws H locs A stC cells slots Q hW hl hs kk => by
    obtain ⟨_, _, rfl, ⟨q, hq, rfl⟩, hs⟩ := hs
    obtain ⟨q', hq', hcell⟩ := gm_h_get hW.2.2.1 hk
    cases Option.some.inj (hq.symm.trans hq')
    obtain ⟨ty, cA, y, t0, t1, he, hx⟩ := hcell
    obtain ⟨b, x9⟩ := q
    dsimp only at he
    subst he
    exact va_alen C.1 C.2.1 (gm_Ck C) hW.1 k t hq t1 hv hd (kk _ ⟨_, _, rfl, rfl, hs⟩)
/-- an array of states: the one that lies at i -/
theorem gm_aald {M : gm_M} {d pc : Nat} {ls : List (Option Value)} {st : List Value} {h : gm_H} {k n j : Nat} {i : Int32} {f : Nat → Option Nat} (hd : decode M.2.1 pc = .ok (.aaload, 1)) (hk : h.1[k]? = some (.inl (5, n, .inr (.inr (.inr (.inr f)))))) (hin : vp_in i n) (hj : f i.toNatClampNeg = some j) : gm_go M d (pc, ls, .int i :: .ref k :: st, h) (pc + 1, ls, .ref j :: st, h) :=
  gm_go_st fun G p l e R s m args below meth c C ws H locs A stC cells slots Q hW hl hs kk => by
    obtain ⟨_, _, rfl, rfl, _, _, rfl, ⟨q, hq, rfl⟩, hs⟩ := hs
    obtain ⟨q', hq', hcell⟩ := gm_h_get hW.2.2.1 hk
    cases Option.some.inj (hq.symm.trans hq')
    obtain ⟨ty, cA, y, t0, t1, he, hx⟩ := hcell
    cases t0
    obtain ⟨b, x9⟩ := q
    dsimp only at he
    subst he
    obtain ⟨g, rfl, hg⟩ := hx
    have h9 := hg i.toNatClampNeg
    rw [hj] at h9
    simp only [if_neg (show ¬ (5 : Nat) = 7 by decide)] at h9
    obtain ⟨z, hz, hz2⟩ := h9
    refine va_aldq C.1 C.2.1 (gm_Ck C) hW.1 k 5 hq t1 hin hd ?_
    rw [hz2]
    exact kk _ ⟨_, _, rfl, ⟨z, hz, rfl⟩, hs⟩
theorem gm_aast {M : gm_M} {d pc : Nat} {ls : List (Option Value)} {st : List Value} {h : gm_H} {k n j : Nat} {i : Int32} {fs : List Value} {f : Nat → Option Nat} (hd : decode M.2.1 pc = .ok (.aastore, 1)) (hk : h.1[k]? = some (.inl (5, n, .inr (.inr (.inr (.inr f)))))) (hin : vp_in i n) (hj : h.1[j]? = some (.inr (10, fs))) : gm_go M d (pc, ls, .ref j :: .int i :: .ref k :: st, h) (pc + 1, ls, st, (h.1.set k (.inl (5, n, .inr (.inr (.inr (.inr (va_up f i.toNatClampNeg (some j))))))), h.2)) :=
  gm_go_hp fun G p l e R s m args below meth c C ws H locs A stC cells slots Q hW hl hs kk => by
    obtain ⟨_, _, rfl, ⟨z, hz, rfl⟩, _, _, rfl, rfl, _, _, rfl, ⟨q, hq, rfl⟩, hs⟩ := hs
    obtain ⟨q', hq', hcell⟩ := gm_h_get hW.2.2.1 hk
    cases Option.some.inj (hq.symm.trans hq')
    obtain ⟨ty, cA, y, t0, t1, he, hx⟩ := hcell
    cases t0
    obtain ⟨b, x9⟩ := q
    dsimp only at he
    subst he
    obtain ⟨g, rfl, hg⟩ := hx
    obtain ⟨z', hz', fs', he2, -⟩ := gm_h_get hW.2.2.1 hj
    cases Option.some.inj (hz.symm.trans hz')
    obtain ⟨b2, x2⟩ := z
    dsimp only at he2
    subst he2
    refine va_astq (r := (RX9, TX9, 2)) C.1 C.2.1 (gm_Ck C) hW.1 hW.2.1 hW.2.2.2 k 5 j 10 hq t1 hz rfl hin hd (fun H1 locs1 hP hD hS => kk b _ _ H1 locs1 _ hq ⟨_, cA, _, rfl, t1, rfl, _, rfl, fun u => ?_⟩ hP hD hS hs)
    by_cases hu : u = i.toNatClampNeg
    · simp only [va_up, hu, if_true, if_neg (show ¬ (5 : Nat) = 7 by decide)]
      exact ⟨_, hz, rfl⟩
    · simp only [va_up, if_neg hu]
      exact hg u
theorem gm_st_rf {G : gm_G} {ws : va_W} : ∀ {fs : List Value}, (∀ v ∈ fs, gm_kv v = true ∧ ∀ k, v ≠ .retAddr k) → gm_st G ws fs fs := by
  intro fs
  induction fs with
  | nil => intro _; rfl
  | cons v fs ih =>
    intro h
    refine ⟨v, fs, rfl, ?_, ih fun u hu => h u (List.mem_cons_of_mem _ hu)⟩
    obtain ⟨h1, h2⟩ := h v List.mem_cons_self
    cases v <;> first | rfl | exact Or.inl rfl | (cases h1; done) | exact absurd rfl (h2 _)
/-- the class ci can be made under its number in the class of M -/
def gm_nc (M : gm_M) (index ci : Nat) (fs : List Value) (N : Nat) : Prop := ∃ (C : String) (T : u_T) (ty : Nat → FieldType), vwCl[ci]? = some (C, T, N) ∧ (∀ w ∈ u_ws C T N, w ∈ gm_big) ∧ (∀ k, k < N → parseFieldDescriptor (T k).2.2.1 = some (ty k)) ∧
  Cond.classLink M.1.cls index C ∈ gm_big ∧ Cond.instantiable C N ∈ gm_big ∧ Cond.initialized C ∈ gm_big ∧ (∀ j, j < N → defaultValue (ty j) = vp_V fs j) ∧ ∀ v ∈ fs, gm_kv v = true ∧ ∀ k, v ≠ .retAddr k
theorem gm_new {M : gm_M} {d pc : Nat} {ls : List (Option Value)} {st : List Value} {h : gm_H} {index ci N : Nat} {fs : List Value} (hd : decode M.2.1 pc = .ok (.new index, 3)) (hn : gm_nc M index ci fs N) : gm_go M d (pc, ls, st, h) (pc + 3, ls, .ref h.1.length :: st, (h.1 ++ [.inr (ci, fs)], (h.2.1 + 1, h.2.2 + N))) :=
  gm_go_mk fun G p l e R s m args below meth c C ws H locs A stC cells slots Q hW hl hs r1 r2 kk => by
    obtain ⟨Cn, T, ty, h1, h2, h3, h4, h5, h6, h7, h8⟩ := hn
    exact va_new C.1 C.2.1 (gm_Ct C) h2 ty h3 C.2.2.2.1 (gm_Ct C _ h4) (gm_Ct C _ h5) (gm_Ct C _ h6) (gm_Ck C) hW.1 hW.2.1 hW.2.2.2 (gm_Cf C) h1 h7 r1 r2 hd (fun q H1 hP hD hS => kk q _ H1 locs _ ⟨_, rfl, gm_st_rf h8⟩ hP hD hS hs)
theorem gm_newa_id {G : gm_G} {s : State} {t : Nat} {ty : FieldType} {cA cB : ClassId} (hK : va_K (gm_D G) vwCl (gm_T G) s) (ht : (gm_T G)[t]? = some (cB, ty)) (hK2 : va_K (gm_D G) vwCl (gm_T G ++ [(cA, ty)]) s) : cA = cB := by
  have h1 := (hK.2 t _ ht).2
  have h2 := (hK2.2 (gm_T G).length (cA, ty) (by simp)).2
  dsimp only at h1 h2
  cases ty with
  | object C =>
    obtain ⟨k1, c1, a1, a2, a3, a4⟩ := h1
    obtain ⟨k2, c2, b1, b2, b3, b4⟩ := h2
    exact Option.some.inj (b4.symm.trans a4)
  | _ => exact Option.some.inj (h2.symm.trans h1)
theorem gm_ty_at {G : gm_G} {t : Nat} {ty : FieldType} (h : (gm_T G).map Prod.snd = gm_tys) (ht : gm_tys[t]? = some ty) : ∃ cB, (gm_T G)[t]? = some (cB, ty) := by
  rw [← h, List.getElem?_map] at ht
  cases hx : (gm_T G)[t]? with
  | none => rw [hx] at ht; cases ht
  | some x => rw [hx] at ht; obtain ⟨a, b⟩ := x; cases ht; exact ⟨a, rfl⟩
theorem gm_newa_int {M : gm_M} {d pc : Nat} {ls : List (Option Value)} {st : List Value} {h : gm_H} {n : Int32} {N : Nat} (hd : decode M.2.1 pc = .ok (.newarray .int, 2)) (hw : Cond.arrayClass .int ∈ gm_big) (hn : ¬ n < 0) (hN : n.toNatClampNeg = N) (hb : N * 4 ≤ 536870912) : gm_go M d (pc, ls, .int n :: st, h) (pc + 2, ls, .ref h.1.length :: st, (h.1 ++ [.inl (0, N, .inl (fun _ => 0))], (h.2.1 + 1, h.2.2 + N))) :=
  gm_go_mk fun G p l e R s m args below meth c C ws H locs A stC cells slots Q hW hl hs r1 r2 kk => by
    obtain ⟨_, _, rfl, rfl, hs⟩ := hs
    obtain ⟨cB, hB⟩ := gm_ty_at (t := 0) (ty := .int) (gm_Ce C).2.2.1 rfl
    refine va_newa (atype := .int) (ty := .int) (a0 := (N, .inl (fun _ => 0))) C.1 C.2.1 (gm_Ct C _ hw) rfl (gm_Ck C) hW.1 hW.2.1 hW.2.2.2 (gm_Cf C) (fun cA => rfl) hn hN hb r1 r2 hd (fun q cA H1 hK2 hP hD hS => ?_)
    have := gm_newa_id (gm_Ck C) hB hK2
    subst this
    exact kk q _ H1 locs _ ⟨_, _, _, rfl, hB, rfl, rfl⟩ hP hD hS hs
theorem gm_newa_long {M : gm_M} {d pc : Nat} {ls : List (Option Value)} {st : List Value} {h : gm_H} {n : Int32} {N : Nat} (hd : decode M.2.1 pc = .ok (.newarray .long, 2)) (hw : Cond.arrayClass .long ∈ gm_big) (hn : ¬ n < 0) (hN : n.toNatClampNeg = N) (hb : N * 8 ≤ 536870912) : gm_go M d (pc, ls, .int n :: st, h) (pc + 2, ls, .ref h.1.length :: st, (h.1 ++ [.inl (1, N, .inr (.inl (fun _ => 0)))], (h.2.1 + 1, h.2.2 + N))) :=
  gm_go_mk fun G p l e R s m args below meth c C ws H locs A stC cells slots Q hW hl hs r1 r2 kk => by
    obtain ⟨_, _, rfl, rfl, hs⟩ := hs
    obtain ⟨cB, hB⟩ := gm_ty_at (t := 1) (ty := .long) (gm_Ce C).2.2.1 rfl
    refine va_newa (atype := .long) (ty := .long) (a0 := (N, .inr (.inl (fun _ => 0)))) C.1 C.2.1 (gm_Ct C _ hw) rfl (gm_Ck C) hW.1 hW.2.1 hW.2.2.2 (gm_Cf C) (fun cA => rfl) hn hN hb r1 r2 hd (fun q cA H1 hK2 hP hD hS => ?_)
    have := gm_newa_id (gm_Ck C) hB hK2
    subst this
    exact kk q _ H1 locs _ ⟨_, _, _, rfl, hB, rfl, rfl⟩ hP hD hS hs
theorem gm_newa_double {M : gm_M} {d pc : Nat} {ls : List (Option Value)} {st : List Value} {h : gm_H} {n : Int32} {N : Nat} (hd : decode M.2.1 pc = .ok (.newarray .double, 2)) (hw : Cond.arrayClass .double ∈ gm_big) (hn : ¬ n < 0) (hN : n.toNatClampNeg = N) (hb : N * 8 ≤ 536870912) : gm_go M d (pc, ls, .int n :: st, h) (pc + 2, ls, .ref h.1.length :: st, (h.1 ++ [.inl (2, N, .inr (.inr (.inr (.inl (fun _ => 0)))))], (h.2.1 + 1, h.2.2 + N))) :=
  gm_go_mk fun G p l e R s m args below meth c C ws H locs A stC cells slots Q hW hl hs r1 r2 kk => by
    obtain ⟨_, _, rfl, rfl, hs⟩ := hs
    obtain ⟨cB, hB⟩ := gm_ty_at (t := 2) (ty := .double) (gm_Ce C).2.2.1 rfl
    refine va_newa (atype := .double) (ty := .double) (a0 := (N, .inr (.inr (.inr (.inl (fun _ => 0)))))) C.1 C.2.1 (gm_Ct C _ hw) rfl (gm_Ck C) hW.1 hW.2.1 hW.2.2.2 (gm_Cf C) (fun cA => rfl) hn hN hb r1 r2 hd (fun q cA H1 hK2 hP hD hS => ?_)
    have := gm_newa_id (gm_Ck C) hB hK2
    subst this
    exact kk q _ H1 locs _ ⟨_, _, _, rfl, hB, rfl, rfl⟩ hP hD hS hs
theorem gm_newa_char {M : gm_M} {d pc : Nat} {ls : List (Option Value)} {st : List Value} {h : gm_H} {n : Int32} {N : Nat} (hd : decode M.2.1 pc = .ok (.newarray .char, 2)) (hw : Cond.arrayClass .char ∈ gm_big) (hn : ¬ n < 0) (hN : n.toNatClampNeg = N) (hb : N * 2 ≤ 536870912) : gm_go M d (pc, ls, .int n :: st, h) (pc + 2, ls, .ref h.1.length :: st, (h.1 ++ [.inl (3, N, .inl (fun _ => 0))], (h.2.1 + 1, h.2.2 + N))) :=
  gm_go_mk fun G p l e R s m args below meth c C ws H locs A stC cells slots Q hW hl hs r1 r2 kk => by
    obtain ⟨_, _, rfl, rfl, hs⟩ := hs
    obtain ⟨cB, hB⟩ := gm_ty_at (t := 3) (ty := .char) (gm_Ce C).2.2.1 rfl
    refine va_newa (atype := .char) (ty := .char) (a0 := (N, .inl (fun _ => 0))) C.1 C.2.1 (gm_Ct C _ hw) rfl (gm_Ck C) hW.1 hW.2.1 hW.2.2.2 (gm_Cf C) (fun cA => rfl) hn hN hb r1 r2 hd (fun q cA H1 hK2 hP hD hS => ?_)
    have := gm_newa_id (gm_Ck C) hB hK2
    subst this
    exact kk q _ H1 locs _ ⟨_, _, _, rfl, hB, rfl, rfl⟩ hP hD hS hs
theorem gm_newa_byte {M : gm_M} {d pc : Nat} {ls : List (Option Value)} {st : List Value} {h : gm_H} {n : Int32} {N : Nat} (hd : decode M.2.1 pc = .ok (.newarray .byte, 2)) (hw : Cond.arrayClass .byte ∈ gm_big) (hn : ¬ n < 0) (hN : n.toNatClampNeg = N) (hb : N * 1 ≤ 536870912) : gm_go M d (pc, ls, .int n :: st, h) (pc + 2, ls, .ref h.1.length :: st, (h.1 ++ [.inl (4, N, .inl (fun _ => 0))], (h.2.1 + 1, h.2.2 + N))) :=
  gm_go_mk fun G p l e R s m args below meth c C ws H locs A stC cells slots Q hW hl hs r1 r2 kk => by
    obtain ⟨_, _, rfl, rfl, hs⟩ := hs
    obtain ⟨cB, hB⟩ := gm_ty_at (t := 4) (ty := .byte) (gm_Ce C).2.2.1 rfl
    refine va_newa (atype := .byte) (ty := .byte) (a0 := (N, .inl (fun _ => 0))) C.1 C.2.1 (gm_Ct C _ hw) rfl (gm_Ck C) hW.1 hW.2.1 hW.2.2.2 (gm_Cf C) (fun cA => rfl) hn hN hb r1 r2 hd (fun q cA H1 hK2 hP hD hS => ?_)
    have := gm_newa_id (gm_Ck C) hB hK2
    subst this
    exact kk q _ H1 locs _ ⟨_, _, _, rfl, hB, rfl, rfl⟩ hP hD hS hs
theorem gm_newq {M : gm_M} {d pc : Nat} {ls : List (Option Value)} {st : List Value} {h : gm_H} {n : Int32} {N index : Nat} (hd : decode M.2.1 pc = .ok (.anewarray index, 3)) (hw : Cond.classLink M.1.cls index "NeedleBakery$State" ∈ gm_big) (hn : ¬ n < 0) (hN : n.toNatClampNeg = N) (hb : N * 4 ≤ 536870912) : gm_go M d (pc, ls, .int n :: st, h) (pc + 3, ls, .ref h.1.length :: st, (h.1 ++ [.inl (5, N, .inr (.inr (.inr (.inr (fun _ => none)))))], (h.2.1 + 1, h.2.2 + N))) :=
  gm_go_mk fun G p l e R s m args below meth c C ws H locs A stC cells slots Q hW hl hs r1 r2 kk => by
    obtain ⟨_, _, rfl, rfl, hs⟩ := hs
    obtain ⟨cB, hB⟩ := gm_ty_at (t := 5) (ty := .object "NeedleBakery$State") (gm_Ce C).2.2.1 rfl
    refine va_newq C.1 C.2.1 C.2.2.2.1 (gm_Ct C _ hw) (gm_Ckc C).2.2.2.2.2.2.2.1 (gm_Ck C) hW.1 hW.2.1 hW.2.2.2 (gm_Cf C) hn hN hb r1 r2 hd (fun q cA H1 hK2 hP hD hS => ?_)
    have := gm_newa_id (gm_Ck C) hB hK2
    subst this
    exact kk q _ H1 locs _ ⟨_, _, _, rfl, hB, rfl, _, rfl, fun _ => rfl⟩ hP hD hS hs
