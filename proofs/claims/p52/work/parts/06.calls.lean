/-! calls -/
theorem gm_blind {G : gm_G} {ws : va_W} {aC : List Value} : FrameBlind (gm_pc G ws aC) := by
  intro a U g mk h
  obtain ⟨h1, h2, h3, h4⟩ := h
  exact ⟨h1, gm_E_warm (s := U) (U := U.calling g mk a) (H := U.heap) (State.WarmedH.refl U) h2, h3, h4⟩
section GMC
variable {p : Program} {l : Launch} {e : Env} {R : Room} {s : State} {m : MethodId} {args : Array Value} {below : List Frame} {meth : Method} {c : Code} {H : Heap} {locs : List Loc} {cells slots mc ms pc : Nat} {A : Array Slot} {st0 rest : List Value} {Q : State → Prop} {G : gm_G} {ws : va_W} {h' : gm_H} {a : Array Value}
theorem gm_callW {v : Option Value} (hr : vx_Run p l e R s m args below meth c H locs cells slots mc ms (F0 m pc A st0) rest (gm_q G ws (.inl v) h' a) (gm_xc G ws (.inl v) h') (gm_F G)) (hS : va_S (gm_F G) s.heap H locs)
    (kk : ∀ (ws' : va_W) (x : Option Value) (H1 : Heap) (locs1 : List Loc), gm_e ws ws' → gm_ov G ws' v x → va_P (gm_D G) vwCl ws' H1 → va_D (gm_F G) ws' → gm_h G ws' h'.1 → va_S (gm_F G) s.heap H1 locs1 → W p l e R s m args below meth c H1 locs1 (cells + mc) (slots + ms) Q (F0 m (pc + 3) A (x.toList ++ rest))) :
    W p l e R s m args below meth c H locs cells slots Q (F0 m pc A st0) := by
  intro T hT X
  rcases hr T hT X with ⟨v', st₀, t, T', L, h0, X', hL, e1, e2, ⟨⟨v2, hv2, ws', x, he, hx, hoc, hP, hD, hh⟩, hF⟩, st⟩ | ⟨q, st₀, t, T', L, E, ce, h0, X', hL, e1, e2, ⟨hbad, -⟩, -⟩
  · cases hv2
    cases hoc
    obtain ⟨-, -, k3⟩ := vx_keep h0 e1 hS (fun _ _ z => z) (fun _ z => z) hL hF
    obtain ⟨t2, a1, b1⟩ := kk ws' v' T'.heap (locs ++ L) he hx (by rw [e1]; exact hP) hD hh k3 T' rfl X'
    exact ⟨t2, st t2 a1, b1⟩
  · cases hbad
theorem gm_callX {E0 : String} (hr : vx_Run p l e R s m args below meth c H locs cells slots mc ms (F0 m pc A st0) rest (gm_q G ws (.inr E0) h' a) (gm_xc G ws (.inr E0) h') (gm_F G)) (hS : va_S (gm_F G) s.heap H locs)
    (kk : ∀ (ws' : va_W) (q : Nat) (ce : Cell) (H1 : Heap) (locs1 : List Loc), gm_e ws ws' → va_P (gm_D G) vwCl ws' H1 → va_D (gm_F G) ws' → gm_h G ws' h'.1 → va_S (gm_F G) s.heap H1 locs1 → H1[q]? = some ce → ce.vm = .none → s.vm.findClass E0 = some ce.cls → vx_W p l e R s m args below meth c H1 locs1 (cells + mc) (slots + ms) Q (F0 m pc A rest) q) :
    W p l e R s m args below meth c H locs cells slots Q (F0 m pc A st0) := by
  intro T hT X
  rcases hr T hT X with ⟨v', st₀, t, T', L, h0, X', hL, e1, e2, ⟨⟨v2, hv2, -⟩, -⟩, -⟩ | ⟨q, st₀, t, T', L, E, ce, h0, X', hL, e1, e2, ⟨hE, ⟨ws', he, hP, hD, hh⟩, hF⟩, hce, hcv, hcl, st⟩
  · cases hv2
  · cases hE
    obtain ⟨-, -, k3⟩ := vx_keep h0 e1 hS (fun _ _ z => z) (fun _ z => z) hL hF
    obtain ⟨t2, a1, b1⟩ := kk ws' q ce T'.heap (locs ++ L) he (by rw [e1]; exact hP) hD hh k3 (by rw [e1]; exact hce) hcv hcl T' rfl X'
    exact ⟨t2, st.trans a1, b1⟩
end GMC
/-- what the tables say of a method -/
def gm_mt (Y : gm_M) (n : Nat) : Prop := Y.2.2.2.2 = [] ∧ Cond.code Y.1 Y.2.1 Y.2.2.1 Y.2.2.2.1 ∈ gm_big ∧ Cond.initialized Y.1.cls ∈ gm_big ∧ (Y.1.cls ≠ "java/lang/invoke/MethodHandle" ∧ Y.1.cls ≠ "java/lang/invoke/VarHandle") ∧ (parseMethodDescriptor Y.1.desc).map (fun d => d.parameters.length) = some n ∧ Y.2.2.1 ≤ 40
def gm_mv (Y : gm_M) (C : String) : Prop := Cond.instanceMethod Y.1 ∈ gm_big ∧ Cond.selects C Y.1 Y.1 ∈ gm_big
/-- the place index of M's class names Y -/
def gm_lk (M : gm_M) (index : Nat) (Y : gm_M) : Prop := Cond.methodLink M.1.cls index Y.1 ∈ gm_big ∨ ∃ host, Cond.methodLinkNest M.1.cls index Y.1 host ∈ gm_big
/-- the receiver: a cell of the class C, or a constant thing of it -/
def gm_rc (h : gm_H) (rv : Value) (C : String) : Prop := (∃ k ci fs T N, rv = .ref k ∧ h.1[k]? = some (.inr (ci, fs)) ∧ vwCl[ci]? = some (C, T, N)) ∨ ∃ k, rv = .retAddr k ∧ (k, C) ∈ gm_Ko
theorem gm_Ko_998 : ∀ z ∈ gm_Ko, z.1 ≠ 998 := by decide +kernel
theorem gm_rc_at {G : gm_G} {M : gm_M} {d : Nat} {p : Program} {l : Launch} {e : Env} {R : Room} {s : State} {m : MethodId} {args : Array Value} {below : List Frame} {meth : Method} {c : Code} (C : gm_C G M d p l e R s m args below meth c)
    {ws : va_W} {h : gm_H} {H : Heap} {locs : List Loc} (hW : gm_W G s ws h H locs) {rv x : Value} {Cn : String} (hr : gm_rc h rv Cn) (hv : gm_v G ws rv x) : ∃ b, x = .ref b ∧ ∃ cellB : Cell, H[b]? = some cellB ∧ cellB.vm.isStatics = false ∧ s.vm.findClass Cn = some cellB.cls := by
  rcases hr with ⟨k, ci, fs, T, N, rfl, hk, hc⟩ | ⟨k, rfl, hk⟩
  · obtain ⟨q, hq, rfl⟩ := hv
    obtain ⟨q', hq', fs', he, -⟩ := gm_h_get hW.2.2.1 hk
    cases Option.some.inj (hq.symm.trans hq')
    obtain ⟨b, x⟩ := q
    dsimp only at he
    subst he
    exact ⟨b, rfl, va_recv (gm_Ck C) hW.1 hc hq⟩
  · rw [show x = gm_kk G k from hv, gm_kk_r (gm_Ko_998 _ hk)]
    obtain ⟨cell, h1, h2, h3, h4⟩ := va_O.kept ((gm_Ckc C).2.2.1 (k, Cn) hk) hW.2.2.2.2.1
    exact ⟨_, rfl, cell, h1, h2, h3⟩
theorem gm_cb {G : gm_G} {M Y : gm_M} {d d' n : Nat} {h h' : gm_H} {p : Program} {l : Launch} {e : Env} {R : Room} {s : State} {m : MethodId} {args : Array Value} {below : List Frame} {meth : Method} {c : Code} (C : gm_C G M d p l e R s m args below meth c) (hY : gm_mt Y n) (hdd : d' < d) :
    ((gm_rm d' h h').cells = h'.2.1 - h.2.1 ∧ (gm_rm d' h h').slots = h'.2.2 - h.2.2 ∧ (gm_rm d' h h').frames + 1 ≤ R.frames ∧ 8 + (Y.2.2.1 + 11) + (gm_rm d' h h').locals ≤ R.locals ∧ (∀ w ∈ [gm_cw Y], ∀ (a' : Array Value) (U : State), s.WarmedH U.vm → w.before a' U = true) ∧ Cond.code Y.1 Y.2.1 Y.2.2.1 Y.2.2.2.1 ∈ [gm_cw Y]) ∧
    (Cond.code Y.1 Y.2.1 Y.2.2.1 Y.2.2.2.1).before args s = true ∧ (Cond.initialized Y.1.cls).before args s = true ∧ (Y.1.cls ≠ "java/lang/invoke/MethodHandle" ∧ Y.1.cls ≠ "java/lang/invoke/VarHandle") ∧ (∀ sig, parseMethodDescriptor Y.1.desc = some sig → n = sig.parameters.length) := by
  obtain ⟨h0, h1, h2, h3, h4, h5⟩ := hY
  have hcw : gm_cw Y = .code Y.1 Y.2.1 Y.2.2.1 Y.2.2.2.1 := by unfold gm_cw; rw [h0]
  have c1 := C.2.2.2.2.2.2.2.2.2.2.1
  have c2 := C.2.2.2.2.2.2.2.2.2.2.2
  refine ⟨⟨rfl, rfl, by show d' + 1 ≤ _; omega, by show 8 + (Y.2.2.1 + 11) + 64 * d' ≤ _; omega, fun w hw a' U hW => ?_, by rw [hcw]; exact List.mem_cons_self⟩, gm_Ct C _ h1, gm_Ct C _ h2, h3, fun sig hs => ?_⟩
  · rw [List.mem_singleton.mp hw, hcw]
    exact gm_warm (List.mem_filter.mp h1).2 hW (C.2.2.2.2.1.2.2.2.1 _ h1)
  · rw [hs] at h4
    exact (Option.some.inj h4).symm
/-- the callee begins as its contract wants -/
theorem gm_pre {G : gm_G} {M : gm_M} {d : Nat} {p : Program} {l : Launch} {e : Env} {R : Room} {s : State} {m : MethodId} {args : Array Value} {below : List Frame} {meth : Method} {c : Code} (C : gm_C G M d p l e R s m args below meth c)
    {ws : va_W} {h : gm_H} {H : Heap} {locs : List Loc} (hW : gm_W G s ws h H locs) {aC : List Value} : PreS s H (gm_pc G ws aC) aC :=
  ⟨gm_blind, fun U hU hw => ⟨rfl, by rw [hU]; exact gm_E_warm hw (gm_E_S (gm_Ce C) hW.2.2.2), by rw [hU]; exact hW.1, hW.2.1⟩⟩

/-- the machine makes the call: what a call row hands on -/
def gm_run (M : gm_M) (d pc : Nat) (st rest : List Value) (h : gm_H) (o : Option Value ⊕ String) (h' : gm_H) : Prop :=
  (h.2.1 ≤ h'.2.1 ∧ h.2.2 ≤ h'.2.2) ∧
  ∀ (G : gm_G) (p : Program) (l : Launch) (e : Env) (R : Room) (s : State) (m : MethodId) (args : Array Value) (below : List Frame) (meth : Method) (c : Code), gm_C G M d p l e R s m args below meth c →
  ∀ (ws : va_W) (H : Heap) (locs : List Loc) (A : Array Slot) (stC : List Value) (cells slots : Nat), gm_W G s ws h H locs → A.size = M.2.2.1 → gm_st G ws st stC → cells + (h'.2.1 - h.2.1) ≤ R.cells → slots + (h'.2.2 - h.2.2) ≤ R.slots →
  ∃ (restC : List Value) (a : Array Value), gm_st G ws rest restC ∧ vx_Run p l e R s m args below meth c H locs cells slots (h'.2.1 - h.2.1) (h'.2.2 - h.2.2) (F0 m pc A stC) restC (gm_q G ws o h' a) (gm_xc G ws o h') (gm_F G)
theorem gm_call {M : gm_M} {d pc : Nat} {ls : List (Option Value)} {st rest : List Value} {h h' : gm_H} {v : Option Value} (r : gm_run M d pc st rest h (.inl v) h') : gm_go M d (pc, ls, st, h) (pc + 3, ls, v.toList ++ rest, h') := by
  refine ⟨r.1, ?_⟩
  intro G p l e R s m args below meth c C k0 s0 r1 r2 ws H locs A stC cells slots Q hW hl hs e1 e2 kk
  have q1 := r.1.1
  have q2 := r.1.2
  dsimp only at r1 r2 e1 e2
  obtain ⟨restC, a, hrest, hr⟩ := r.2 G p l e R s m args below meth c C ws H locs A stC cells slots hW hl.1 hs (by omega) (by omega)
  refine gm_callW hr hW.2.2.2 (fun ws' x H1 locs1 he hx hP hD hh hS => ?_)
  refine kk ws' H1 locs1 A _ _ _ he ⟨hP, hD, hh, hS⟩ (gm_ls_mono he hl) ?_ (by dsimp only; omega) (by dsimp only; omega)
  cases v with
  | none => rw [show x = none from hx]; exact gm_st_mono he hrest
  | some v => obtain ⟨y, rfl, hy⟩ := hx; exact ⟨y, restC, rfl, hy, gm_st_mono he hrest⟩
/-- what the callee throws goes on to the caller -/
theorem gm_pass {M : gm_M} {d pc : Nat} {ls : List (Option Value)} {st rest : List Value} {h h' : gm_H} {E : String} (r : gm_run M d pc st rest h (.inr E) h') (hh : M.2.2.2.2 = []) : gm_ru M d (pc, ls, st, h) (.inr E) h' := by
  refine ⟨r.1, ?_⟩
  intro G p l e R s m args below meth c C k0 s0 mc ms m1 m2 r1 r2 ws0 ws H locs A stC cells slots he0 hW hl hs e1 e2
  have q1 := r.1.1
  have q2 := r.1.2
  dsimp only at e1 e2
  obtain ⟨restC, a, hrest, hr⟩ := r.2 G p l e R s m args below meth c C ws H locs A stC cells slots hW hl.1 hs (by omega) (by omega)
  refine gm_callX hr hW.2.2.2 (fun ws' q ce H1 locs1 he hP hD hh2 hS hce hcv hcl => ?_)
  refine vx_out ?_ C.2.2.2.2.2.2.1 hce hcv hcl (fun t ht hw => ⟨rfl, ⟨ws', gm_e_tr he0 he, by rw [ht]; exact hP, hD, hh2⟩, hS.F ht⟩) hS.2.2 (by omega) (by omega)
  rw [C.2.2.2.2.2.1, hh]
  intro x hx
  cases hx
theorem gm_runV {M Y : gm_M} {d d' pc index n : Nat} {rest As : List Value} {h h' : gm_H} {o : Option Value ⊕ String} {rv : Value} {Cn : String} (hd : decode M.2.1 pc = .ok (.invokevirtual index, 3)) (hc : gm_co Y d' (rv :: As) h o h') (hY : gm_mt Y n) (hV : gm_mv Y Cn) (hl : gm_lk M index Y) (hr : gm_rc h rv Cn) (hn : As.length = n) (hrest : (rest.map fun v => v.category).sum ≤ 8) (hdd : d' < d) : gm_run M d pc (As.reverse ++ rv :: rest) rest h o h' := by
    refine ⟨hc.1, ?_⟩
    intro G p l e R s m args below meth c C ws H locs A stC cells slots hW hsz hs r1 r2
    obtain ⟨cS, dS, rfl, hs1, hs2⟩ := gm_st_split hs
    obtain ⟨x, restC, rfl, hx, hs3⟩ := hs2
    obtain ⟨b, rfl, hcell⟩ := gm_rc_at C hW hr hx
    have hA : gm_st G ws (rv :: As) (.ref b :: cS.reverse) := ⟨_, _, rfl, hx, by have := gm_st_rev hs1; rwa [List.reverse_reverse] at this⟩
    have hlen : cS.reverse.length = n := by rw [List.length_reverse, gm_st_len hs1, List.length_reverse]; exact hn
    have hcat : 2 * 0 + (restC.map fun v => v.category).sum ≤ 8 := by rw [gm_st_cat hs3]; omega
    have hM := hc.2 l C.2.2.2.2.2.2.2.1 G ws _ hA hW.2.2.1
    have hp := gm_pre C hW (aC := .ref b :: cS.reverse)
    obtain ⟨b1, b2, b3, b4, b5⟩ := gm_cb (h := h) (h' := h') C hY hdd
    have hst : cS ++ .ref b :: restC = cS.reverse.reverse ++ .ref b :: restC := by rw [List.reverse_reverse]
    refine ⟨restC, (Value.ref b :: cS.reverse).toArray, hs3, ?_⟩
    rcases hl with hl | ⟨host, hl⟩
    · exact vx_runV (g := F0 m pc A _) ⟨C.1, C.2.1, C.2.2.1, C.2.2.2.1, gm_Ct C⟩ hM ⟨⟨b1.1, b1.2.1, b1.2.2.1, b1.2.2.2.1, b1.2.2.2.2.1, b1.2.2.2.2.2, b2, b3, b4, b5, gm_Ct C _ hl⟩, gm_Ct C _ hV.1, gm_Ct C _ hV.2⟩ ⟨hp.1, hcell, hp.2⟩ rfl hlen hsz hst hcat hd ⟨r1, r2⟩
    · exact vx_runVN (g := F0 m pc A _) (host := host) ⟨C.1, C.2.1, C.2.2.1, C.2.2.2.1, gm_Ct C⟩ hM ⟨⟨b1, b2, b3, b4, b5, gm_Ct C _ hl⟩, gm_Ct C _ hV.1, gm_Ct C _ hV.2⟩ ⟨hp.1, hcell, hp.2⟩ rfl hlen hsz hst hcat hd ⟨r1, r2⟩
theorem gm_runI {M Y : gm_M} {d d' pc index n : Nat} {rest As : List Value} {h h' : gm_H} {o : Option Value ⊕ String} {rv : Value} {Cn : String} (hd : decode M.2.1 pc = .ok (.invokespecial index, 3)) (hc : gm_co Y d' (rv :: As) h o h') (hY : gm_mt Y n) (hV : Cond.instanceMethod Y.1 ∈ gm_big ∧ Y.1.name = "<init>" ∧ Y.2.2.2.1 = none) (hl : gm_lk M index Y) (hr : gm_rc h rv Cn) (hn : As.length = n) (hrest : (rest.map fun v => v.category).sum ≤ 8) (hdd : d' < d) : gm_run M d pc (As.reverse ++ rv :: rest) rest h o h' := by
    refine ⟨hc.1, ?_⟩
    intro G p l e R s m args below meth c C ws H locs A stC cells slots hW hsz hs r1 r2
    obtain ⟨cS, dS, rfl, hs1, hs2⟩ := gm_st_split hs
    obtain ⟨x, restC, rfl, hx, hs3⟩ := hs2
    obtain ⟨b, rfl, hcell⟩ := gm_rc_at C hW hr hx
    have hA : gm_st G ws (rv :: As) (.ref b :: cS.reverse) := ⟨_, _, rfl, hx, by have := gm_st_rev hs1; rwa [List.reverse_reverse] at this⟩
    have hlen : cS.reverse.length = n := by rw [List.length_reverse, gm_st_len hs1, List.length_reverse]; exact hn
    have hcat : 2 * 0 + (restC.map fun v => v.category).sum ≤ 8 := by rw [gm_st_cat hs3]; omega
    have hM := hc.2 l C.2.2.2.2.2.2.2.1 G ws _ hA hW.2.2.1
    have hp := gm_pre C hW (aC := .ref b :: cS.reverse)
    obtain ⟨b1, b2, b3, b4, b5⟩ := gm_cb (h := h) (h' := h') C hY hdd
    have hst : cS ++ .ref b :: restC = cS.reverse.reverse ++ .ref b :: restC := by rw [List.reverse_reverse]
    obtain ⟨Y1, Y2, Y3, Y4, Y5⟩ := Y
    obtain ⟨hV1, hV2, hV3⟩ := hV
    dsimp only at hV3
    subst hV3
    refine ⟨restC, (Value.ref b :: cS.reverse).toArray, hs3, ?_⟩
    rcases hl with hl | ⟨host, hl⟩
    · exact vx_runI (g := F0 m pc A _) ⟨C.1, C.2.1, C.2.2.1, C.2.2.2.1, gm_Ct C⟩ hM ⟨⟨b1.1, b1.2.1, b1.2.2.1, b1.2.2.2.1, b1.2.2.2.2.1, b1.2.2.2.2.2, b2, b3, b4, b5, gm_Ct C _ hl⟩, hV2, gm_Ct C _ hV1⟩ hp rfl hlen hsz hst hcat hd ⟨r1, r2⟩
    · exact vx_runIN (g := F0 m pc A _) (host := host) ⟨C.1, C.2.1, C.2.2.1, C.2.2.2.1, gm_Ct C⟩ hM ⟨⟨b1, b2, b3, b4, b5, gm_Ct C _ hl⟩, hV2, gm_Ct C _ hV1⟩ hp rfl hlen hsz hst hcat hd ⟨r1, r2⟩
theorem gm_runS {M Y : gm_M} {d d' pc index n : Nat} {rest As : List Value} {h h' : gm_H} {o : Option Value ⊕ String} (hd : decode M.2.1 pc = .ok (.invokestatic index, 3)) (hc : gm_co Y d' As h o h') (hY : gm_mt Y n) (hV : Cond.static Y.1 ∈ gm_big) (hl : gm_lk M index Y) (hn : As.length = n) (hrest : (rest.map fun v => v.category).sum ≤ 8) (hdd : d' < d) : gm_run M d pc (As.reverse ++ rest) rest h o h' := by
    refine ⟨hc.1, ?_⟩
    intro G p l e R s m args below meth c C ws H locs A stC cells slots hW hsz hs r1 r2
    obtain ⟨cS, restC, rfl, hs1, hs3⟩ := gm_st_split hs
    have hA : gm_st G ws As cS.reverse := by have := gm_st_rev hs1; rwa [List.reverse_reverse] at this
    have hlen : cS.reverse.length = n := by rw [List.length_reverse, gm_st_len hs1, List.length_reverse]; exact hn
    have hcat : 2 * 0 + (restC.map fun v => v.category).sum ≤ 8 := by rw [gm_st_cat hs3]; omega
    have hM := hc.2 l C.2.2.2.2.2.2.2.1 G ws _ hA hW.2.2.1
    have hp := gm_pre C hW (aC := cS.reverse)
    have hst : cS ++ restC = cS.reverse.reverse ++ restC := by rw [List.reverse_reverse]
    obtain ⟨b1, b2, b3, b4, b5⟩ := gm_cb (h := h) (h' := h') C hY hdd
    refine ⟨restC, cS.reverse.toArray, hs3, ?_⟩
    rcases hl with hl | ⟨host, hl⟩
    · exact vx_runS (g := F0 m pc A _) ⟨C.1, C.2.1, C.2.2.1, C.2.2.2.1, gm_Ct C⟩ hM ⟨⟨b1.1, b1.2.1, b1.2.2.1, b1.2.2.2.1, b1.2.2.2.2.1, b1.2.2.2.2.2, b2, b3, b4, b5, gm_Ct C _ hl⟩, gm_Ct C _ hV⟩ hp rfl hlen hsz hst hcat hd ⟨r1, r2⟩
    · exact vx_runSN (g := F0 m pc A _) (host := host) ⟨C.1, C.2.1, C.2.2.1, C.2.2.2.1, gm_Ct C⟩ hM ⟨⟨b1, b2, b3, b4, b5, gm_Ct C _ hl⟩, gm_Ct C _ hV, trivial⟩ hp rfl hlen hsz hst hcat hd ⟨r1, r2⟩
