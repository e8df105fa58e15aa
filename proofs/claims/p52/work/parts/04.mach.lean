/-! THE PURE MACHINE: frames, stacks and heaps of plain values; a run of it is a run of the machine (gm_go), a method's run its contract (gm_co). -/
abbrev gm_G : Type := va_G × (List (ClassId × FieldType) × (Nat × ((Nat → Nat) × (Nat × (Nat × (Nat → Int32))))))
abbrev gm_D (G : gm_G) : va_G := G.1
abbrev gm_T (G : gm_G) : List (ClassId × FieldType) := G.2.1
abbrev gm_N (G : gm_G) : Nat := G.2.2.1
abbrev gm_A (G : gm_G) : Nat → Nat := G.2.2.2.1
abbrev gm_b (G : gm_G) : Nat := G.2.2.2.2.1
abbrev gm_L (G : gm_G) : Nat := G.2.2.2.2.2.1
abbrev gm_X (G : gm_G) : Nat → Int32 := G.2.2.2.2.2.2
/-- the cells that the run may write: those that it has made -/
abbrev gm_F (G : gm_G) : Nat → Prop := fun q => gm_N G ≤ q
/-- a cell: an array (its kind's place in the list of kinds, length, content), or an object (its class's place, its fields); a reference is a cell's place in the list of cells; retAddr k: the k-th of the constant things -/
abbrev gm_cl : Type := (Nat × vp_A) ⊕ (Nat × List Value)
abbrev gm_H : Type := List gm_cl × (Nat × Nat)
abbrev gm_fr : Type := Nat × (List (Option Value) × (List Value × gm_H))
abbrev gm_M : Type := MethodName × (ByteArray × (Nat × (Option FieldType × List (Nat × Nat × Nat × Nat))))
def gm_tys : List FieldType := [.int, .long, .double, .char, .byte, .object "NeedleBakery$State", .boolean, .object "java/lang/Object"]
/-- the constant thing k; 998: null -/
def gm_kk (G : gm_G) (k : Nat) : Value := if k = 998 then .null else .ref (gm_A G k)
theorem gm_kk_r {G : gm_G} {k : Nat} (h : k ≠ 998) : gm_kk G k = .ref (gm_A G k) := if_neg h
theorem gm_kk_n {G : gm_G} : gm_kk G 998 = .null := if_pos rfl
def gm_v (G : gm_G) (ws : va_W) (v w : Value) : Prop := match v with
  | .ref k => ∃ q, ws[k]? = some q ∧ w = .ref q.1
  | .retAddr k => w = gm_kk G k
  | .null => w = .null ∨ ∃ a, w = .ref a
  | v => w = v
def gm_st (G : gm_G) (ws : va_W) : List Value → List Value → Prop
  | [], l => l = []
  | v :: st, l => ∃ w t, l = w :: t ∧ gm_v G ws v w ∧ gm_st G ws st t
def gm_ls (G : gm_G) (ws : va_W) (nL : Nat) (ls : List (Option Value)) (A : Array Slot) : Prop :=
  A.size = nL ∧ lv_wf A ∧ ∀ (i : Nat) (v : Value), ls[i]? = some (some v) → ∃ w, gm_v G ws v w ∧ A[i]? = some (.val w)
def gm_x (G : gm_G) (ws : va_W) (kd : Nat) (x y : (Nat → Int32) ⊕ (Nat → Int64) ⊕ (Nat → UInt32) ⊕ (Nat → UInt64) ⊕ (Nat → Option Nat)) : Prop := match x with
  | .inr (.inr (.inr (.inr f))) => ∃ g : Nat → Option Nat, y = .inr (.inr (.inr (.inr g))) ∧ ∀ j, match f j with
      | none => g j = none
      | some k => if kd = 7 then g j = some (gm_A G k) else ∃ q, ws[k]? = some q ∧ g j = some q.1
  | x => y = x
def gm_c (G : gm_G) (ws : va_W) (c : gm_cl) (e : va_E) : Prop := match c with
  | .inl a => ∃ (ty : FieldType) (cA : ClassId) (y : (Nat → Int32) ⊕ (Nat → Int64) ⊕ (Nat → UInt32) ⊕ (Nat → UInt64) ⊕ (Nat → Option Nat)), gm_tys[a.1]? = some ty ∧ (gm_T G)[a.1]? = some (cA, ty) ∧ e = .inl (cA, a.2.1, y) ∧ gm_x G ws a.1 a.2.2 y
  | .inr c => ∃ fs, e = .inr (c.1, fs) ∧ gm_st G ws c.2 fs
def gm_h (G : gm_G) (ws : va_W) (cs : List gm_cl) : Prop := ws.length = cs.length ∧ ∀ (k : Nat) (c : gm_cl), cs[k]? = some c → ∃ q, ws[k]? = some q ∧ gm_c G ws c q.2
def gm_e (ws ws' : va_W) : Prop := ∀ (k : Nat) (q : Nat × va_E), ws[k]? = some q → ∃ e, ws'[k]? = some (q.1, e)
theorem gm_e_rf (ws : va_W) : gm_e ws ws := fun _ q h => ⟨q.2, h⟩
theorem gm_e_tr {a b c : va_W} (h : gm_e a b) (g : gm_e b c) : gm_e a c := fun k q hq => by
  obtain ⟨e, he⟩ := h k q hq
  obtain ⟨e2, he2⟩ := g k _ he
  exact ⟨e2, he2⟩
theorem gm_e_app (ws l : va_W) : gm_e ws (ws ++ l) := fun k q hq => ⟨q.2, by rw [List.getElem?_append_left (List.getElem?_eq_some_iff.mp hq).1]; exact hq⟩
theorem gm_e_set {ws : va_W} {k a : Nat} {e e' : va_E} (h : ws[k]? = some (a, e)) : gm_e ws (ws.set k (a, e')) := fun j q hq => by
  by_cases hj : k = j
  · subst hj
    cases Option.some.inj (h.symm.trans hq)
    exact ⟨e', by rw [List.getElem?_set_self (List.getElem?_eq_some_iff.mp h).1]⟩
  · exact ⟨q.2, by rw [List.getElem?_set_ne hj]; exact hq⟩
theorem gm_v_mono {G : gm_G} {ws ws' : va_W} (he : gm_e ws ws') {v w : Value} (h : gm_v G ws v w) : gm_v G ws' v w := by
  cases v with
  | ref k =>
    obtain ⟨q, h1, h2⟩ := h
    obtain ⟨e, he⟩ := he k q h1
    exact ⟨_, he, h2⟩
  | _ => exact h
theorem gm_st_mono {G : gm_G} {ws ws' : va_W} (he : gm_e ws ws') : ∀ {st t : List Value}, gm_st G ws st t → gm_st G ws' st t := by
  intro st
  induction st with
  | nil => intro t h; exact h
  | cons v st ih =>
    intro t h
    obtain ⟨w, t', h1, h2, h3⟩ := h
    exact ⟨w, t', h1, gm_v_mono he h2, ih h3⟩
theorem gm_ls_mono {G : gm_G} {ws ws' : va_W} (he : gm_e ws ws') {nL : Nat} {ls : List (Option Value)} {A : Array Slot} (h : gm_ls G ws nL ls A) : gm_ls G ws' nL ls A :=
  ⟨h.1, h.2.1, fun i v hi => by
    obtain ⟨w, h1, h2⟩ := h.2.2 i v hi
    exact ⟨w, gm_v_mono he h1, h2⟩⟩
theorem gm_x_mono {G : gm_G} {kd : Nat} {ws ws' : va_W} (he : gm_e ws ws') {x y : (Nat → Int32) ⊕ (Nat → Int64) ⊕ (Nat → UInt32) ⊕ (Nat → UInt64) ⊕ (Nat → Option Nat)} (h : gm_x G ws kd x y) : gm_x G ws' kd x y := by
  rcases x with x | x | x | x | f
  · exact h
  · exact h
  · exact h
  · exact h
  · obtain ⟨g, h1, h2⟩ := h
    refine ⟨g, h1, fun j => ?_⟩
    have h3 := h2 j
    cases hf : f j with
    | none => rw [hf] at h3; exact h3
    | some k =>
      rw [hf] at h3
      by_cases h7 : kd = 7
      · simp only [if_pos h7] at h3 ⊢
        exact h3
      · simp only [if_neg h7] at h3 ⊢
        obtain ⟨q, h4, h5⟩ := h3
        obtain ⟨e, he⟩ := he k q h4
        exact ⟨_, he, h5⟩
theorem gm_c_mono {G : gm_G} {ws ws' : va_W} (he : gm_e ws ws') {c : gm_cl} {e : va_E} (h : gm_c G ws c e) : gm_c G ws' c e := by
  cases c with
  | inl a =>
    obtain ⟨ty, cA, y, h0, h1, h2, h3⟩ := h
    exact ⟨ty, cA, y, h0, h1, h2, gm_x_mono he h3⟩
  | inr c =>
    obtain ⟨fs, h1, h2⟩ := h
    exact ⟨fs, h1, gm_st_mono he h2⟩
theorem gm_st_get {G : gm_G} {ws : va_W} : ∀ {st t : List Value}, gm_st G ws st t → ∀ {k : Nat} {v : Value}, st[k]? = some v → ∃ w, t[k]? = some w ∧ gm_v G ws v w := by
  intro st
  induction st with
  | nil => intro t h k v hk; simp at hk
  | cons x st ih =>
    intro t h k v hk
    obtain ⟨w, t', rfl, h2, h3⟩ := h
    cases k with
    | zero => simp at hk; subst hk; exact ⟨w, rfl, h2⟩
    | succ k => simpa using ih h3 (by simpa using hk)
theorem gm_st_len {G : gm_G} {ws : va_W} : ∀ {st t : List Value}, gm_st G ws st t → t.length = st.length := by
  intro st
  induction st with
  | nil => intro t h; rw [show t = [] from h]
  | cons x st ih =>
    intro t h
    obtain ⟨w, t', rfl, h2, h3⟩ := h
    simp [ih h3]
theorem gm_st_set {G : gm_G} {ws : va_W} {v w : Value} (hv : gm_v G ws v w) : ∀ {st t : List Value}, gm_st G ws st t → ∀ (k : Nat), gm_st G ws (st.set k v) (t.set k w) := by
  intro st
  induction st with
  | nil => intro t h k; rw [show t = [] from h]; rfl
  | cons x st ih =>
    intro t h k
    obtain ⟨y, t', rfl, h2, h3⟩ := h
    cases k with
    | zero => exact ⟨w, t', rfl, hv, h3⟩
    | succ k => exact ⟨y, _, rfl, h2, ih h3 k⟩
theorem gm_st_app {G : gm_G} {ws : va_W} {b d : List Value} (hb : gm_st G ws b d) : ∀ {a c : List Value}, gm_st G ws a c → gm_st G ws (a ++ b) (c ++ d) := by
  intro a
  induction a with
  | nil => intro c h; rw [show c = [] from h]; exact hb
  | cons x a ih =>
    intro c h
    obtain ⟨y, t', rfl, h2, h3⟩ := h
    exact ⟨y, _, rfl, h2, ih h3⟩
/-- a stack above another: what lies above, what lies below -/
theorem gm_st_split {G : gm_G} {ws : va_W} {b : List Value} : ∀ {a t : List Value}, gm_st G ws (a ++ b) t → ∃ c d, t = c ++ d ∧ gm_st G ws a c ∧ gm_st G ws b d := by
  intro a
  induction a with
  | nil => intro t h; exact ⟨[], t, rfl, rfl, h⟩
  | cons x a ih =>
    intro t h
    obtain ⟨y, t', rfl, h2, h3⟩ := h
    obtain ⟨c, d, rfl, h4, h5⟩ := ih h3
    exact ⟨y :: c, d, rfl, ⟨y, c, rfl, h2, h4⟩, h5⟩
theorem gm_st_rev {G : gm_G} {ws : va_W} : ∀ {a c : List Value}, gm_st G ws a c → gm_st G ws a.reverse c.reverse := by
  intro a
  induction a with
  | nil => intro c h; rw [show c = [] from h]; rfl
  | cons x a ih =>
    intro c h
    obtain ⟨y, t', rfl, h2, h3⟩ := h
    rw [List.reverse_cons, List.reverse_cons]
    exact gm_st_app (G := G) (ws := ws) (b := [x]) (d := [y]) ⟨y, [], rfl, h2, rfl⟩ (ih h3)
theorem gm_v_cat {G : gm_G} {ws : va_W} {v w : Value} (h : gm_v G ws v w) : w.category = v.category := by
  cases v with
  | ref k => obtain ⟨q, -, rfl⟩ := h; rfl
  | retAddr k => rw [show w = gm_kk G k from h]; unfold gm_kk; split <;> rfl
  | int x => rw [show w = .int x from h]
  | long x => rw [show w = .long x from h]
  | float x => rw [show w = .float x from h]
  | double x => rw [show w = .double x from h]
  | null => rcases h with rfl | ⟨a, rfl⟩ <;> rfl
theorem gm_st_cat {G : gm_G} {ws : va_W} : ∀ {st t : List Value}, gm_st G ws st t → (t.map fun v => v.category).sum = (st.map fun v => v.category).sum := by
  intro st
  induction st with
  | nil => intro t h; rw [show t = [] from h]
  | cons x st ih =>
    intro t h
    obtain ⟨y, t', rfl, h2, h3⟩ := h
    simp [ih h3, gm_v_cat h2]
/-! what the tables say, for every state of the run -/
def gm_nw (w : Cond) : Bool := match w with
  | .fieldLinkNest .. => true
  | .methodLinkNest .. => true
  | .declares _ => true
  | .castable .. => true
  | _ => false
def gm_ok (w : Cond) : Bool := goodWord w || gm_nw w
/-- what the tables say of private methods of the superclass of StringBuilder, asked of a StringBuilder -/
def gm_more : List Cond := [.selects "java/lang/StringBuilder" ⟨"java/lang/AbstractStringBuilder", "ensureCapacityInternal", "(I)V"⟩ ⟨"java/lang/AbstractStringBuilder", "ensureCapacityInternal", "(I)V"⟩, .selects "java/lang/StringBuilder" ⟨"java/lang/AbstractStringBuilder", "newCapacity", "(I)I"⟩ ⟨"java/lang/AbstractStringBuilder", "newCapacity", "(I)I"⟩, .selects "java/lang/StringBuilder" ⟨"java/lang/AbstractStringBuilder", "putStringAt", "(ILjava/lang/String;)V"⟩ ⟨"java/lang/AbstractStringBuilder", "putStringAt", "(ILjava/lang/String;)V"⟩, .selects "java/lang/StringBuilder" ⟨"java/lang/AbstractStringBuilder", "inflateIfNeededFor", "(Ljava/lang/String;)V"⟩ ⟨"java/lang/AbstractStringBuilder", "inflateIfNeededFor", "(Ljava/lang/String;)V"⟩]
def gm_big : List Cond := (lw_tbl ++ gm_more).filter gm_ok
theorem gm_in {w : Cond} {i : Nat} (h : lw_tbl[i]? = some w) (g : gm_ok w = true) : w ∈ gm_big := List.mem_filter.mpr ⟨List.mem_append_left _ (List.mem_of_getElem? h), g⟩
theorem gm_in2 {w : Cond} {i : Nat} (h : gm_more[i]? = some w) (g : gm_ok w = true) : w ∈ gm_big := List.mem_filter.mpr ⟨List.mem_append_right _ (List.mem_of_getElem? h), g⟩
theorem gm_warm {w : Cond} (g : gm_ok w = true) {s U : State} (hW : s.WarmedH U.vm) (h : w.before #[] s = true) {a' : Array Value} : w.before a' U = true := by
  simp only [gm_ok, Bool.or_eq_true] at g
  rcases g with g | g
  · exact word_at hW (good_of_word g) h
  · cases w with
    | fieldLinkNest a i b n d q => exact va_Nw.use (w := .fieldLinkNest a i b n d q) rfl (va_Nw.warmF hW h)
    | methodLinkNest a i x q => exact va_Nw.use (w := .methodLinkNest a i x q) rfl (va_Nw.warmM hW h)
    | declares x => exact va_Nw.use (w := .declares x) rfl (va_Nw.warmD hW h)
    | castable a b => exact va_Nw.use (w := .castable a b) rfl (va_Nw.warmC hW h)
    | _ => cases g
theorem gm_same {w : Cond} (g : gm_ok w = true) {u U : State} (hv : u.vm = U.vm) (h : w.before #[] u = true) {a' : Array Value} : w.before a' U = true := by
  have hW : u.WarmedH U.vm := by rw [← hv]; exact State.WarmedH.refl u
  exact gm_warm g hW h
/-! what is constant: static fields, constant objects and their fields, arrays, texts -/
def gm_k (G : gm_G) (v : Value) : Value := match v with
  | .retAddr k => gm_kk G k
  | v => v
def gm_kv (v : Value) : Bool := match v with
  | .ref _ => false
  | _ => true
theorem gm_k_v (G : gm_G) (ws : va_W) {v : Value} (h : gm_kv v = true) : gm_v G ws v (gm_k G v) := by
  cases v <;> first | rfl | exact Or.inl rfl | cases h
abbrev gm_Ks : Type := List (String × String × String × Value) × (List (Nat × String × String × String × Value) × (List (Nat × String) × (List (Nat × FieldType × Nat × (Nat → Value)) × (List (String × Nat × String × Nat) × (List (String × String × String) × List (String × String))))))
/-- the calls of interfaces: a class, the method that is named, the method that is run -/
def gm_Kw : List (String × MethodName × MethodName) := [("java/util/ArrayList", ⟨"java/util/List", "sort", "(Ljava/util/Comparator;)V"⟩, ⟨"java/util/ArrayList", "sort", "(Ljava/util/Comparator;)V"⟩), ("java/lang/Integer", ⟨"java/lang/Comparable", "compareTo", "(Ljava/lang/Object;)I"⟩, ⟨"java/lang/Integer", "compareTo", "(Ljava/lang/Object;)I"⟩)]
theorem gm_Kw_ok : ∀ z ∈ gm_Kw, z.2.1.cls ≠ "java/lang/invoke/MethodHandle" ∧ z.2.1.cls ≠ "java/lang/invoke/VarHandle" := by decide +kernel
def gm_K (K : gm_Ks) (G : gm_G) (U : State) (H : Heap) : Prop :=
  (∀ z ∈ K.1, va_Z z.1 z.2.1 z.2.2.1 (gm_k G z.2.2.2) (gm_F G) U H) ∧ (∀ z ∈ K.2.1, va_OF z.2.1 z.2.2.1 z.2.2.2.1 (gm_k G z.2.2.2.2) (gm_A G z.1) (gm_F G) U H) ∧
  (∀ z ∈ K.2.2.1, va_O z.2 (gm_A G z.1) (gm_F G) U H) ∧ (∀ z ∈ K.2.2.2.1, va_T z.2.1 (gm_A G z.1) z.2.2.1 (fun j => gm_k G (z.2.2.2 j)) (gm_F G) U H) ∧ (∀ z ∈ K.2.2.2.2.1, vk_R z.1 z.2.1 z.2.2.1 (gm_A G z.2.2.2) U) ∧ (∀ z ∈ K.2.2.2.2.2.1, va_Zq z.1 z.2.1 z.2.2 (gm_F G) U H) ∧ (∀ z ∈ K.2.2.2.2.2.2, va_Nc z.1 z.2 U) ∧ va_AO "NeedleBakery$State" U ∧ va_AO "java/lang/Object" U ∧ ∀ z ∈ gm_Kw, va_Fw z.1 z.2.1 z.2.2 U
theorem gm_K_kept {K : gm_Ks} {G : gm_G} {U : State} {H H1 : Heap} (h : gm_K K G U H) (hq : ∀ a : Nat, a < H.size → ¬ gm_F G a → H1[a]? = H[a]?) : gm_K K G U H1 :=
  ⟨fun z hz => va_Z.kept (h.1 z hz) hq, fun z hz => va_OF.kept (h.2.1 z hz) hq, fun z hz => va_O.kept (h.2.2.1 z hz) hq, fun z hz => va_T.kept (h.2.2.2.1 z hz) hq, h.2.2.2.2.1, fun z hz => va_Zq.kept (h.2.2.2.2.2.1 z hz) hq, h.2.2.2.2.2.2⟩
theorem gm_K_warm {K : gm_Ks} {G : gm_G} {s U : State} {H : Heap} (hW : s.WarmedH U.vm) (h : gm_K K G s H) : gm_K K G U H :=
  ⟨fun z hz => va_Z.moved hW.alike (h.1 z hz), fun z hz => va_OF.moved hW.alike (h.2.1 z hz), fun z hz => va_O.moved hW.alike (h.2.2.1 z hz), fun z hz => va_T.moved hW.alike (h.2.2.2.1 z hz), fun z hz => vk_R.warm hW (h.2.2.2.2.1 z hz), fun z hz => va_Zq.moved hW.alike (h.2.2.2.2.2.1 z hz), fun z hz => va_Nc.moved hW.alike (h.2.2.2.2.2.2.1 z hz), va_AO.moved hW.alike h.2.2.2.2.2.2.2.1, va_AO.moved hW.alike h.2.2.2.2.2.2.2.2.1, fun z hz => va_Fw.moved (gm_Kw_ok z hz) hW.alike (h.2.2.2.2.2.2.2.2.2 z hz)⟩

/-- how many of the constant things are an enum's constants -/
abbrev gm_Ne : Nat := 17
def gm_Kz : List (String × String × String × Value) := [("NeedleBakery$Refusal", "NONE", "LNeedleBakery$Refusal;", .retAddr 0), ("NeedleBakery$Refusal", "NO_NEEDLE", "LNeedleBakery$Refusal;", .retAddr 1), ("NeedleBakery$Refusal", "OUT_OF_RANGE", "LNeedleBakery$Refusal;", .retAddr 2), ("NeedleBakery$Refusal", "DISCARDED", "LNeedleBakery$Refusal;", .retAddr 3), ("NeedleBakery$Refusal", "NO_ROOM", "LNeedleBakery$Refusal;", .retAddr 4), ("NeedleBakery$Refusal", "OFF_TABLE", "LNeedleBakery$Refusal;", .retAddr 5), ("NeedleBakery$Refusal", "NO_BATCH", "LNeedleBakery$Refusal;", .retAddr 6), ("NeedleBakery$Change", "NEEDLE", "LNeedleBakery$Change;", .retAddr 7), ("NeedleBakery$Change", "SET", "LNeedleBakery$Change;", .retAddr 8), ("NeedleBakery$Change", "SHIFT", "LNeedleBakery$Change;", .retAddr 9), ("NeedleBakery$Change", "CORRECT", "LNeedleBakery$Change;", .retAddr 10), ("NeedleBakery$Change", "DISCARD", "LNeedleBakery$Change;", .retAddr 11), ("NeedleBakery$Change", "LIMIT", "LNeedleBakery$Change;", .retAddr 12), ("NeedleBakery$Change", "BATCH", "LNeedleBakery$Change;", .retAddr 13), ("NeedleBakery$Change", "DROP", "LNeedleBakery$Change;", .retAddr 14), ("NeedleBakery$Change", "BAKE", "LNeedleBakery$Change;", .retAddr 15), ("NeedleBakery$Change", "REST", "LNeedleBakery$Change;", .retAddr 16), ("java/lang/String", "COMPACT_STRINGS", "Z", .int 1), ("java/lang/StringUTF16", "$assertionsDisabled", "Z", .int 1), ("java/lang/StringUTF16", "HI_BYTE_SHIFT", "I", .int 0), ("java/lang/StringUTF16", "LO_BYTE_SHIFT", "I", .int 8), ("java/lang/Integer$IntegerCache", "high", "I", .int 127), ("java/util/Arrays$LegacyMergeSort", "userRequested", "Z", .int 0), ("java/util/ComparableTimSort", "$assertionsDisabled", "Z", .int 1), ("jdk/internal/misc/Unsafe", "ARRAY_BYTE_BASE_OFFSET", "I", .int 16), ("jdk/internal/util/ArraysSupport", "LOG2_ARRAY_BYTE_INDEX_SCALE", "I", .int 0), ("jdk/internal/util/ArraysSupport", "LOG2_ARRAY_LONG_INDEX_SCALE", "I", .int 3), ("jdk/internal/misc/UnsafeConstants", "BIG_ENDIAN", "Z", .int 0), ("jdk/internal/util/ArraysSupport", "BIG_ENDIAN", "Z", .int 0), ("jdk/internal/util/ArraysSupport", "LOG2_BYTE_BIT_SIZE", "I", .int 3), ("jdk/internal/util/ArraysSupport", "LOG2_ARRAY_INT_INDEX_SCALE", "I", .int 2), ("java/util/TimSort", "$assertionsDisabled", "Z", .int 1), ("NeedleBakery", "CHANGES", "[LNeedleBakery$Change;", .retAddr 17), ("NeedleBakery$1", "$SwitchMap$NeedleBakery$Change", "[I", .retAddr 18), ("NeedleBakery$1", "$SwitchMap$NeedleBakery$Refusal", "[I", .retAddr 19), ("java/lang/Integer", "DigitOnes", "[B", .retAddr 20), ("java/lang/Integer", "DigitTens", "[B", .retAddr 21), ("java/lang/Integer$IntegerCache", "cache", "[Ljava/lang/Integer;", .retAddr 200), ("java/util/ArrayList", "DEFAULTCAPACITY_EMPTY_ELEMENTDATA", "[Ljava/lang/Object;", .retAddr 201)]
def gm_Kf : List (Nat × String × String × String × Value) := [(0, "java/lang/Enum", "ordinal", "I", .int 0), (1, "java/lang/Enum", "ordinal", "I", .int 1), (2, "java/lang/Enum", "ordinal", "I", .int 2), (3, "java/lang/Enum", "ordinal", "I", .int 3), (4, "java/lang/Enum", "ordinal", "I", .int 4), (5, "java/lang/Enum", "ordinal", "I", .int 5), (6, "java/lang/Enum", "ordinal", "I", .int 6), (7, "java/lang/Enum", "ordinal", "I", .int 0), (8, "java/lang/Enum", "ordinal", "I", .int 1), (9, "java/lang/Enum", "ordinal", "I", .int 2), (10, "java/lang/Enum", "ordinal", "I", .int 3), (11, "java/lang/Enum", "ordinal", "I", .int 4), (12, "java/lang/Enum", "ordinal", "I", .int 5), (13, "java/lang/Enum", "ordinal", "I", .int 6), (14, "java/lang/Enum", "ordinal", "I", .int 7), (15, "java/lang/Enum", "ordinal", "I", .int 8), (16, "java/lang/Enum", "ordinal", "I", .int 9), (7, "NeedleBakery$Change", "form", "Ljava/lang/String;", .retAddr 92), (8, "NeedleBakery$Change", "form", "Ljava/lang/String;", .retAddr 94), (9, "NeedleBakery$Change", "form", "Ljava/lang/String;", .retAddr 96), (10, "NeedleBakery$Change", "form", "Ljava/lang/String;", .retAddr 98), (11, "NeedleBakery$Change", "form", "Ljava/lang/String;", .retAddr 100), (12, "NeedleBakery$Change", "form", "Ljava/lang/String;", .retAddr 102), (13, "NeedleBakery$Change", "form", "Ljava/lang/String;", .retAddr 104), (14, "NeedleBakery$Change", "form", "Ljava/lang/String;", .retAddr 106), (15, "NeedleBakery$Change", "form", "Ljava/lang/String;", .retAddr 108), (16, "NeedleBakery$Change", "form", "Ljava/lang/String;", .retAddr 110), (30, "java/lang/String", "value", "[B", .retAddr 31), (30, "java/lang/String", "coder", "B", .int 0), (32, "java/lang/String", "value", "[B", .retAddr 33), (32, "java/lang/String", "coder", "B", .int 0), (34, "java/lang/String", "value", "[B", .retAddr 35), (34, "java/lang/String", "coder", "B", .int 0), (36, "java/lang/String", "value", "[B", .retAddr 37), (36, "java/lang/String", "coder", "B", .int 0), (38, "java/lang/String", "value", "[B", .retAddr 39), (38, "java/lang/String", "coder", "B", .int 0), (40, "java/lang/String", "value", "[B", .retAddr 41), (40, "java/lang/String", "coder", "B", .int 0), (42, "java/lang/String", "value", "[B", .retAddr 43), (42, "java/lang/String", "coder", "B", .int 0), (44, "java/lang/String", "value", "[B", .retAddr 45), (44, "java/lang/String", "coder", "B", .int 0), (46, "java/lang/String", "value", "[B", .retAddr 47), (46, "java/lang/String", "coder", "B", .int 0), (48, "java/lang/String", "value", "[B", .retAddr 49), (48, "java/lang/String", "coder", "B", .int 0), (50, "java/lang/String", "value", "[B", .retAddr 51), (50, "java/lang/String", "coder", "B", .int 0), (52, "java/lang/String", "value", "[B", .retAddr 53), (52, "java/lang/String", "coder", "B", .int 0), (54, "java/lang/String", "value", "[B", .retAddr 55), (54, "java/lang/String", "coder", "B", .int 0), (56, "java/lang/String", "value", "[B", .retAddr 57), (56, "java/lang/String", "coder", "B", .int 0), (58, "java/lang/String", "value", "[B", .retAddr 59), (58, "java/lang/String", "coder", "B", .int 0), (60, "java/lang/String", "value", "[B", .retAddr 61), (60, "java/lang/String", "coder", "B", .int 0), (62, "java/lang/String", "value", "[B", .retAddr 63), (62, "java/lang/String", "coder", "B", .int 0), (64, "java/lang/String", "value", "[B", .retAddr 65), (64, "java/lang/String", "coder", "B", .int 0), (66, "java/lang/String", "value", "[B", .retAddr 67), (66, "java/lang/String", "coder", "B", .int 0), (68, "java/lang/String", "value", "[B", .retAddr 69), (68, "java/lang/String", "coder", "B", .int 0), (70, "java/lang/String", "value", "[B", .retAddr 71), (70, "java/lang/String", "coder", "B", .int 0), (72, "java/lang/String", "value", "[B", .retAddr 73), (72, "java/lang/String", "coder", "B", .int 0), (74, "java/lang/String", "value", "[B", .retAddr 75), (74, "java/lang/String", "coder", "B", .int 0), (76, "java/lang/String", "value", "[B", .retAddr 77), (76, "java/lang/String", "coder", "B", .int 0), (78, "java/lang/String", "value", "[B", .retAddr 79), (78, "java/lang/String", "coder", "B", .int 0), (80, "java/lang/String", "value", "[B", .retAddr 81), (80, "java/lang/String", "coder", "B", .int 0), (82, "java/lang/String", "value", "[B", .retAddr 83), (82, "java/lang/String", "coder", "B", .int 0), (84, "java/lang/String", "value", "[B", .retAddr 85), (84, "java/lang/String", "coder", "B", .int 0), (86, "java/lang/String", "value", "[B", .retAddr 87), (86, "java/lang/String", "coder", "B", .int 0), (88, "java/lang/String", "value", "[B", .retAddr 89), (88, "java/lang/String", "coder", "B", .int 0), (90, "java/lang/String", "value", "[B", .retAddr 91), (90, "java/lang/String", "coder", "B", .int 0), (92, "java/lang/String", "value", "[B", .retAddr 93), (92, "java/lang/String", "coder", "B", .int 0), (94, "java/lang/String", "value", "[B", .retAddr 95), (94, "java/lang/String", "coder", "B", .int 0), (96, "java/lang/String", "value", "[B", .retAddr 97), (96, "java/lang/String", "coder", "B", .int 0), (98, "java/lang/String", "value", "[B", .retAddr 99), (98, "java/lang/String", "coder", "B", .int 0), (100, "java/lang/String", "value", "[B", .retAddr 101), (100, "java/lang/String", "coder", "B", .int 0), (102, "java/lang/String", "value", "[B", .retAddr 103), (102, "java/lang/String", "coder", "B", .int 0), (104, "java/lang/String", "value", "[B", .retAddr 105), (104, "java/lang/String", "coder", "B", .int 0), (106, "java/lang/String", "value", "[B", .retAddr 107), (106, "java/lang/String", "coder", "B", .int 0), (108, "java/lang/String", "value", "[B", .retAddr 109), (108, "java/lang/String", "coder", "B", .int 0), (110, "java/lang/String", "value", "[B", .retAddr 111), (110, "java/lang/String", "coder", "B", .int 0), (112, "java/lang/String", "value", "[B", .retAddr 113), (112, "java/lang/String", "coder", "B", .int 0), (114, "java/lang/String", "value", "[B", .retAddr 115), (114, "java/lang/String", "coder", "B", .int 0), (116, "java/lang/String", "value", "[B", .retAddr 117), (116, "java/lang/String", "coder", "B", .int 0), (118, "java/lang/String", "value", "[B", .retAddr 119), (118, "java/lang/String", "coder", "B", .int 0), (120, "java/lang/String", "value", "[B", .retAddr 121), (120, "java/lang/String", "coder", "B", .int 0)] ++ (List.range 256).map (fun j => (2000 + j, "java/lang/Integer", "value", "I", .int (Int32.ofInt ((j : Int) - 128))))
def gm_Ko : List (Nat × String) := [(0, "NeedleBakery$Refusal"), (1, "NeedleBakery$Refusal"), (2, "NeedleBakery$Refusal"), (3, "NeedleBakery$Refusal"), (4, "NeedleBakery$Refusal"), (5, "NeedleBakery$Refusal"), (6, "NeedleBakery$Refusal"), (7, "NeedleBakery$Change"), (8, "NeedleBakery$Change"), (9, "NeedleBakery$Change"), (10, "NeedleBakery$Change"), (11, "NeedleBakery$Change"), (12, "NeedleBakery$Change"), (13, "NeedleBakery$Change"), (14, "NeedleBakery$Change"), (15, "NeedleBakery$Change"), (16, "NeedleBakery$Change"), (30, "java/lang/String"), (32, "java/lang/String"), (34, "java/lang/String"), (36, "java/lang/String"), (38, "java/lang/String"), (40, "java/lang/String"), (42, "java/lang/String"), (44, "java/lang/String"), (46, "java/lang/String"), (48, "java/lang/String"), (50, "java/lang/String"), (52, "java/lang/String"), (54, "java/lang/String"), (56, "java/lang/String"), (58, "java/lang/String"), (60, "java/lang/String"), (62, "java/lang/String"), (64, "java/lang/String"), (66, "java/lang/String"), (68, "java/lang/String"), (70, "java/lang/String"), (72, "java/lang/String"), (74, "java/lang/String"), (76, "java/lang/String"), (78, "java/lang/String"), (80, "java/lang/String"), (82, "java/lang/String"), (84, "java/lang/String"), (86, "java/lang/String"), (88, "java/lang/String"), (90, "java/lang/String"), (92, "java/lang/String"), (94, "java/lang/String"), (96, "java/lang/String"), (98, "java/lang/String"), (100, "java/lang/String"), (102, "java/lang/String"), (104, "java/lang/String"), (106, "java/lang/String"), (108, "java/lang/String"), (110, "java/lang/String"), (112, "java/lang/String"), (114, "java/lang/String"), (116, "java/lang/String"), (118, "java/lang/String"), (120, "java/lang/String")] ++ (List.range 256).map (fun j => (2000 + j, "java/lang/Integer"))
/-- the bytes (or ints) of the constant arrays -/
def gm_Kb : List (Nat × FieldType × List Int32) := [(31, .byte, [116, 104, 101, 114, 101, 32, 105, 115, 32, 110, 111, 32, 115, 117, 99, 104, 32, 110, 101, 101, 100, 108, 101]), (33, .byte, [97, 32, 110, 117, 109, 98, 101, 114, 32, 105, 115, 32, 111, 117, 116, 32, 111, 102, 32, 114, 97, 110, 103, 101]), (35, .byte, [116, 104, 101, 32, 110, 101, 101, 100, 108, 101, 32, 105, 115, 32, 100, 105, 115, 99, 97, 114, 100, 101, 100]), (37, .byte, [116, 104, 101, 114, 101, 32, 105, 115, 32, 110, 111, 32, 114, 111, 111, 109, 32, 102, 111, 114, 32, 97, 110, 111, 116, 104, 101, 114, 32, 111, 110, 101]), (39, .byte, [97, 32, 100, 101, 118, 105, 97, 116, 105, 111, 110, 32, 119, 111, 117, 108, 100, 32, 98, 101, 32, 111, 117, 116, 32, 111, 102, 32, 114, 97, 110, 103, 101]), (41, .byte, [110, 111, 32, 98, 97, 116, 99, 104, 32, 119, 105, 116, 104, 32, 116, 104, 105, 115, 32, 105, 100, 32, 119, 97, 105, 116, 115]), (43, .byte, [116, 104, 101, 114, 101, 32, 105, 115, 32, 110, 111, 32, 115, 117, 99, 104, 32, 99, 111, 117, 114, 115, 101]), (45, .byte, [116, 104, 101, 32, 110, 101, 101, 100, 108, 101, 32, 104, 97, 115, 32, 116, 104, 105, 115, 32, 116, 114, 117, 101, 32, 99, 111, 117, 114, 115, 101, 32, 102, 111, 114, 32, 110, 111, 32, 99, 111, 117, 114, 115, 101]), (47, .byte, [116, 104, 101, 114, 101, 32, 105, 115, 32, 110, 111, 32, 115, 117, 99, 104, 32, 114, 97, 110, 107]), (49, .byte, [116, 104, 101, 114, 101, 32, 97, 114, 101, 32, 110, 111, 32, 103, 111, 111, 100, 32, 110, 101, 101, 100, 108, 101, 115]), (51, .byte, [116, 104, 101, 32, 110, 101, 101, 100, 108, 101, 32, 104, 97, 115, 32, 110, 111, 32, 112, 97, 114, 116, 110, 101, 114]), (53, .byte, [116, 104, 101, 114, 101, 32, 105, 115, 32, 110, 111, 32, 115, 117, 99, 104, 32, 112, 111, 115, 105, 116, 105, 111, 110]), (55, .byte, [110, 111, 32, 98, 97, 116, 99, 104, 32, 119, 97, 105, 116, 115]), (57, .byte, [116, 104, 101, 32, 99, 108, 111, 99, 107, 32, 105, 115, 32, 48]), (59, .byte, [83, 116, 114, 105, 110, 103, 32, 105, 110, 100, 101, 120, 32, 111, 117, 116, 32, 111, 102, 32, 114, 97, 110, 103, 101, 58, 32]), (61, .byte, [32, 62, 32]), (63, .byte, [102, 114, 111, 109, 73, 110, 100, 101, 120, 40]), (65, .byte, [41, 32, 62, 32, 116, 111, 73, 110, 100, 101, 120, 40]), (67, .byte, [41]), (69, .byte, [65, 114, 114, 97, 121, 32, 105, 110, 100, 101, 120, 32, 111, 117, 116, 32, 111, 102, 32, 114, 97, 110, 103, 101, 58, 32]), (71, .byte, [32, 120]), (73, .byte, [32, 63]), (75, .byte, [116, 104, 101, 114, 101, 32, 105, 115, 32, 110, 111, 32, 115, 117, 99, 104, 32, 99, 104, 97, 114, 97, 99, 116, 101, 114]), (77, .byte, [116, 104, 101, 32, 99, 104, 97, 114, 97, 99, 116, 101, 114, 32, 105, 115, 32, 110, 111, 116, 32, 102, 114, 111, 109, 32, 51, 50, 32, 116, 111, 32, 49, 50, 54]), (79, .byte, [116, 104, 101, 32, 98, 117, 102, 102, 101, 114, 32, 105, 115, 32, 102, 117, 108, 108]), (81, .byte, [116, 104, 101, 32, 112, 114, 111, 103, 114, 97, 109, 32, 105, 115, 32, 109, 97, 108, 102, 111, 114, 109, 101, 100]), (83, .byte, [97, 32, 99, 111, 109, 109, 97, 110, 100, 32, 102, 97, 105, 108, 101, 100]), (85, .byte, [110, 111, 32, 112, 114, 111, 103, 114, 97, 109, 32, 119, 97, 115, 32, 109, 97, 108, 102, 111, 114, 109, 101, 100, 32, 115, 111, 32, 102, 97, 114]), (87, .byte, [110, 111, 32, 99, 111, 109, 109, 97, 110, 100, 32, 102, 97, 105, 108, 101, 100, 32, 115, 111, 32, 102, 97, 114]), (89, .byte, [110, 111, 116, 104, 105, 110, 103, 32, 99, 97, 110, 32, 98, 101, 32, 117, 110, 100, 111, 110, 101]), (91, .byte, [116, 104, 101, 114, 101, 32, 105, 115, 32, 110, 111, 32, 115, 110, 97, 112, 115, 104, 111, 116]), (93, .byte, [110, 101, 101, 100, 108, 101, 32, 78]), (95, .byte, [115, 101, 116, 32, 68, 32, 68, 32, 71]), (97, .byte, [115, 104, 105, 102, 116, 32, 68, 32, 71]), (99, .byte, [99, 111, 114, 114, 101, 99, 116, 32, 68]), (101, .byte, [100, 105, 115, 99, 97, 114, 100, 32, 68]), (103, .byte, [108, 105, 109, 105, 116, 32, 78]), (105, .byte, [98, 97, 116, 99, 104, 32, 78, 47, 78, 32, 68]), (107, .byte, [100, 114, 111, 112, 32, 78]), (109, .byte, [98, 97, 107, 101, 32, 78]), (111, .byte, [114, 101, 115, 116, 32, 78]), (113, .byte, [58]), (115, .byte, [32, 120]), (117, .byte, [32, 63]), (119, .byte, []), (121, .byte, [67, 111, 109, 112, 97, 114, 105, 115, 111, 110, 32, 109, 101, 116, 104, 111, 100, 32, 118, 105, 111, 108, 97, 116, 101, 115, 32, 105, 116, 115, 32, 103, 101, 110, 101, 114, 97, 108, 32, 99, 111, 110, 116, 114, 97, 99, 116, 33]), (18, .int, [1, 2, 3, 4, 5, 6, 7, 8, 9, 0]), (19, .int, [0, 1, 2, 3, 4, 5, 6]), (20, .byte, [48, 49, 50, 51, 52, 53, 54, 55, 56, 57, 48, 49, 50, 51, 52, 53, 54, 55, 56, 57, 48, 49, 50, 51, 52, 53, 54, 55, 56, 57, 48, 49, 50, 51, 52, 53, 54, 55, 56, 57, 48, 49, 50, 51, 52, 53, 54, 55, 56, 57, 48, 49, 50, 51, 52, 53, 54, 55, 56, 57, 48, 49, 50, 51, 52, 53, 54, 55, 56, 57, 48, 49, 50, 51, 52, 53, 54, 55, 56, 57, 48, 49, 50, 51, 52, 53, 54, 55, 56, 57, 48, 49, 50, 51, 52, 53, 54, 55, 56, 57]), (21, .byte, [48, 48, 48, 48, 48, 48, 48, 48, 48, 48, 49, 49, 49, 49, 49, 49, 49, 49, 49, 49, 50, 50, 50, 50, 50, 50, 50, 50, 50, 50, 51, 51, 51, 51, 51, 51, 51, 51, 51, 51, 52, 52, 52, 52, 52, 52, 52, 52, 52, 52, 53, 53, 53, 53, 53, 53, 53, 53, 53, 53, 54, 54, 54, 54, 54, 54, 54, 54, 54, 54, 55, 55, 55, 55, 55, 55, 55, 55, 55, 55, 56, 56, 56, 56, 56, 56, 56, 56, 56, 56, 57, 57, 57, 57, 57, 57, 57, 57, 57, 57])]
def gm_Ka : List (Nat × FieldType × Nat × (Nat → Value)) := (17, .object "NeedleBakery$Change", 10, fun j => .retAddr (7 + j)) :: (200, .object "java/lang/Integer", 256, fun j => .retAddr (2000 + j)) :: (201, .object "java/lang/Object", 0, fun _ => .null) :: gm_Kb.map (fun z => (z.1, z.2.1, z.2.2.length, fun j => .int (z.2.2.getD j 0)))
def gm_Kr : List (String × Nat × String × Nat) := [("NeedleBakery", 397, "there is no such needle", 30), ("NeedleBakery", 399, "a number is out of range", 32), ("NeedleBakery", 401, "the needle is discarded", 34), ("NeedleBakery", 403, "there is no room for another one", 36), ("NeedleBakery", 407, "a deviation would be out of range", 38), ("NeedleBakery", 225, "no batch with this id waits", 40), ("NeedleBakery", 385, "there is no such course", 42), ("NeedleBakery", 387, "the needle has this true course for no course", 44), ("NeedleBakery", 156, "there is no such rank", 46), ("NeedleBakery", 172, "there are no good needles", 48), ("NeedleBakery", 190, "the needle has no partner", 50), ("NeedleBakery", 216, "there is no such position", 52), ("NeedleBakery", 239, "no batch waits", 54), ("NeedleBakery", 251, "the clock is 0", 56), ("java/lang/StringIndexOutOfBoundsException", 13, "String index out of range: ", 58), ("java/util/Arrays", 337, " > ", 60), ("java/util/Arrays", 48, "fromIndex(", 62), ("java/util/Arrays", 57, ") > toIndex(", 64), ("java/util/Arrays", 59, ")", 66), ("java/lang/ArrayIndexOutOfBoundsException", 13, "Array index out of range: ", 68), ("NeedleBakery", 269, " x", 70), ("NeedleBakery", 274, " ?", 72), ("NeedleBakery", 279, "there is no such character", 74), ("NeedleBakery", 291, "the character is not from 32 to 126", 76), ("NeedleBakery", 298, "the buffer is full", 78), ("NeedleBakery", 313, "the program is malformed", 80), ("NeedleBakery", 325, "a command failed", 82), ("NeedleBakery", 330, "no program was malformed so far", 84), ("NeedleBakery", 332, "no command failed so far", 86), ("NeedleBakery", 335, "nothing can be undone", 88), ("NeedleBakery", 347, "there is no snapshot", 90), ("NeedleBakery$Change", 58, "needle N", 92), ("NeedleBakery$Change", 64, "set D D G", 94), ("NeedleBakery$Change", 67, "shift D G", 96), ("NeedleBakery$Change", 70, "correct D", 98), ("NeedleBakery$Change", 73, "discard D", 100), ("NeedleBakery$Change", 76, "limit N", 102), ("NeedleBakery$Change", 79, "batch N/N D", 104), ("NeedleBakery$Change", 82, "drop N", 106), ("NeedleBakery$Change", 85, "bake N", 108), ("NeedleBakery$Change", 88, "rest N", 110), ("NeedleBakeryLaw", 256, ":", 112), ("NeedleBakeryLaw", 270, " x", 114), ("NeedleBakeryLaw", 272, " ?", 116), ("NeedleBakeryLaw", 274, "", 118), ("java/util/ComparableTimSort", 109, "Comparison method violates its general contract!", 120)]
def gm_Kq : List (String × String × String) := [("jdk/internal/util/Preconditions", "SIOOBE_FORMATTER", "Ljava/util/function/BiFunction;")]
/-- classes of which the first is never the second -/
def gm_Kn : List (String × String) := [("java/lang/IndexOutOfBoundsException", "java/lang/IllegalArgumentException"), ("java/lang/IndexOutOfBoundsException", "java/lang/IllegalStateException"), ("java/lang/IndexOutOfBoundsException", "java/lang/UnsupportedOperationException"), ("java/lang/IndexOutOfBoundsException", "java/util/NoSuchElementException"), ("java/lang/IndexOutOfBoundsException", "java/lang/ArithmeticException"), ("java/lang/IllegalArgumentException", "java/lang/IndexOutOfBoundsException"), ("java/lang/IllegalArgumentException", "java/lang/IllegalStateException"), ("java/lang/IllegalArgumentException", "java/lang/UnsupportedOperationException"), ("java/lang/IllegalArgumentException", "java/util/NoSuchElementException"), ("java/lang/IllegalArgumentException", "java/lang/ArithmeticException"), ("java/lang/IllegalStateException", "java/lang/IndexOutOfBoundsException"), ("java/lang/IllegalStateException", "java/lang/IllegalArgumentException"), ("java/lang/IllegalStateException", "java/lang/UnsupportedOperationException"), ("java/lang/IllegalStateException", "java/util/NoSuchElementException"), ("java/lang/IllegalStateException", "java/lang/ArithmeticException"), ("java/lang/UnsupportedOperationException", "java/lang/IndexOutOfBoundsException"), ("java/lang/UnsupportedOperationException", "java/lang/IllegalArgumentException"), ("java/lang/UnsupportedOperationException", "java/lang/IllegalStateException"), ("java/lang/UnsupportedOperationException", "java/util/NoSuchElementException"), ("java/lang/UnsupportedOperationException", "java/lang/ArithmeticException"), ("java/util/NoSuchElementException", "java/lang/IndexOutOfBoundsException"), ("java/util/NoSuchElementException", "java/lang/IllegalArgumentException"), ("java/util/NoSuchElementException", "java/lang/IllegalStateException"), ("java/util/NoSuchElementException", "java/lang/UnsupportedOperationException"), ("java/util/NoSuchElementException", "java/lang/ArithmeticException"), ("java/lang/ArithmeticException", "java/lang/IndexOutOfBoundsException"), ("java/lang/ArithmeticException", "java/lang/IllegalArgumentException"), ("java/lang/ArithmeticException", "java/lang/IllegalStateException"), ("java/lang/ArithmeticException", "java/lang/UnsupportedOperationException"), ("java/lang/ArithmeticException", "java/util/NoSuchElementException")]
def gm_Kc : gm_Ks := (gm_Kz, (gm_Kf, (gm_Ko, (gm_Ka, (gm_Kr, (gm_Kq, gm_Kn))))))
/-- what holds of every state of the run: the tables, the constants, the script, the two statics that a throw reads -/
def gm_E (G : gm_G) (U : State) (H : Heap) : Prop :=
  gm_N G ≤ H.size ∧ va_K (gm_D G) vwCl (gm_T G) U ∧ (gm_T G).map Prod.snd = gm_tys ∧ (∀ w ∈ gm_big, w.before #[] U = true) ∧ gm_K gm_Kc G U H ∧ (va_X (gm_b G) (gm_L G) (gm_X G) U H ∧ gm_b G < gm_N G ∧ gm_L G ≤ 2048 ∧ gm_A G 999 = gm_b G) ∧
  vx_Zq Bundle.tN "UNASSIGNED_STACK" Bundle.steD (gm_F G) U H ∧ vx_Zq Bundle.tN "SUPPRESSED_SENTINEL" Bundle.listD (gm_F G) U H ∧ (∀ i j : Nat, i < gm_Ne → j < gm_Ne → gm_A G i = gm_A G j → i = j)
theorem gm_E_kept {G : gm_G} {U : State} {H H1 : Heap} (h : gm_E G U H) (hz : H.size ≤ H1.size) (hq : ∀ a : Nat, a < H.size → ¬ gm_F G a → H1[a]? = H[a]?) : gm_E G U H1 := by
  obtain ⟨h1, h2, h3, h4, h5, ⟨h6, h7, h7b⟩, h8, h9, h10⟩ := h
  exact ⟨Nat.le_trans h1 hz, h2, h3, h4, gm_K_kept h5 hq, ⟨h6.kept (hq _ (Nat.lt_of_lt_of_le h7 h1) (Nat.not_le.mpr h7)), h7, h7b⟩, h8.kept hq, h9.kept hq, h10⟩
theorem gm_E_warm {G : gm_G} {s U : State} {H : Heap} (hW : s.WarmedH U.vm) (h : gm_E G s H) : gm_E G U H := by
  obtain ⟨h1, h2, h3, h4, h5, ⟨h6, h7⟩, h8, h9, h10⟩ := h
  exact ⟨h1, va_K.moved hW.alike h2, h3, fun w hw => gm_warm (List.mem_filter.mp hw).2 hW (h4 w hw), gm_K_warm hW h5, ⟨h6.moved hW.alike, h7⟩, h8.moved hW.alike, h9.moved hW.alike, h10⟩
theorem gm_E_S {G : gm_G} {s : State} {H : Heap} {locs : List Loc} (h : gm_E G s s.heap) (hS : va_S (gm_F G) s.heap H locs) : gm_E G s H := gm_E_kept h hS.1 hS.2.1
/-- a method's body under way -/
def gm_C (G : gm_G) (M : gm_M) (d : Nat) (p : Program) (l : Launch) (_ : Env) (R : Room) (s : State) (m : MethodId) (_ : Array Value) (_ : List Frame) (meth : Method) (c : Code) : Prop :=
  p.tables.exec = Jvm.exec ∧ c.code = M.2.1 ∧ c.maxLocals = M.2.2.1 ∧ s.vm.findClass M.1.cls = some m.cls ∧ gm_E G s s.heap ∧ c.exceptionTable.toList = tableOf M.2.2.2.2 ∧ meth.locks = false ∧ l.stackTraces = false ∧ meth.sig.returnType = M.2.2.2.1 ∧ meth.name = M.1.name ∧ d ≤ R.frames ∧ 64 * d ≤ R.locals
def gm_W (G : gm_G) (s : State) (ws : va_W) (h : gm_H) (H : Heap) (locs : List Loc) : Prop :=
  va_P (gm_D G) vwCl ws H ∧ va_D (gm_F G) ws ∧ gm_h G ws h.1 ∧ va_S (gm_F G) s.heap H locs
/-- from the frame f the body M comes to the frame f' -/
def gm_go (M : gm_M) (d : Nat) (f f' : gm_fr) : Prop :=
  (f.2.2.2.2.1 ≤ f'.2.2.2.2.1 ∧ f.2.2.2.2.2 ≤ f'.2.2.2.2.2) ∧
  ∀ (G : gm_G) (p : Program) (l : Launch) (e : Env) (R : Room) (s : State) (m : MethodId) (args : Array Value) (below : List Frame) (meth : Method) (c : Code), gm_C G M d p l e R s m args below meth c →
  ∀ (k0 s0 : Nat), f'.2.2.2.2.1 ≤ k0 + R.cells → f'.2.2.2.2.2 ≤ s0 + R.slots →
  ∀ (ws : va_W) (H : Heap) (locs : List Loc) (A : Array Slot) (stC : List Value) (cells slots : Nat) (Q : State → Prop), gm_W G s ws f.2.2.2 H locs → gm_ls G ws M.2.2.1 f.2.1 A → gm_st G ws f.2.2.1 stC → f.2.2.2.2.1 = k0 + cells → f.2.2.2.2.2 = s0 + slots →
  (∀ (ws' : va_W) (H' : Heap) (locs' : List Loc) (A' : Array Slot) (stC' : List Value) (cells' slots' : Nat), gm_e ws ws' → gm_W G s ws' f'.2.2.2 H' locs' → gm_ls G ws' M.2.2.1 f'.2.1 A' → gm_st G ws' f'.2.2.1 stC' → f'.2.2.2.2.1 = k0 + cells' → f'.2.2.2.2.2 = s0 + slots' →
    W p l e R s m args below meth c H' locs' cells' slots' Q (F0 m f'.1 A' stC')) →
  W p l e R s m args below meth c H locs cells slots Q (F0 m f.1 A stC)
theorem gm_go_rf {M : gm_M} {d : Nat} {f : gm_fr} : gm_go M d f f :=
  ⟨⟨Nat.le_refl _, Nat.le_refl _⟩, fun _ _ _ _ _ _ _ _ _ _ _ _ _ _ _ _ ws H locs A stC cells slots _ hW hl hs e1 e2 k => k ws H locs A stC cells slots (gm_e_rf ws) hW hl hs e1 e2⟩
theorem gm_go_tr {M : gm_M} {d : Nat} {f g h : gm_fr} (a : gm_go M d f g) (b : gm_go M d g h) : gm_go M d f h := by
  refine ⟨⟨Nat.le_trans a.1.1 b.1.1, Nat.le_trans a.1.2 b.1.2⟩, ?_⟩
  intro G p l e R s m args below meth c C k0 s0 r1 r2 ws H locs A stC cells slots Q hW hl hs e1 e2 k
  refine a.2 G p l e R s m args below meth c C k0 s0 (Nat.le_trans b.1.1 r1) (Nat.le_trans b.1.2 r2) ws H locs A stC cells slots Q hW hl hs e1 e2 ?_
  intro ws' H' locs' A' stC' cells' slots' he hW' hl' hs' e1' e2'
  refine b.2 G p l e R s m args below meth c C k0 s0 r1 r2 ws' H' locs' A' stC' cells' slots' Q hW' hl' hs' e1' e2' ?_
  intro ws2 H2 locs2 A2 st2 c2 s2 he2
  exact k ws2 H2 locs2 A2 st2 c2 s2 (gm_e_tr he he2)
/-- a step that leaves the heap -/
theorem gm_go_of {M : gm_M} {d pc pc' : Nat} {ls ls' : List (Option Value)} {st st' : List Value} {h : gm_H}
    (a : ∀ (G : gm_G) (p : Program) (l : Launch) (e : Env) (R : Room) (s : State) (m : MethodId) (args : Array Value) (below : List Frame) (meth : Method) (c : Code), gm_C G M d p l e R s m args below meth c →
      ∀ (ws : va_W) (H : Heap) (locs : List Loc) (A : Array Slot) (stC : List Value) (cells slots : Nat) (Q : State → Prop), gm_W G s ws h H locs → gm_ls G ws M.2.2.1 ls A → gm_st G ws st stC →
      (∀ (A' : Array Slot) (stC' : List Value), gm_ls G ws M.2.2.1 ls' A' → gm_st G ws st' stC' → W p l e R s m args below meth c H locs cells slots Q (F0 m pc' A' stC')) →
      W p l e R s m args below meth c H locs cells slots Q (F0 m pc A stC)) : gm_go M d (pc, ls, st, h) (pc', ls', st', h) := by
  refine ⟨⟨Nat.le_refl _, Nat.le_refl _⟩, ?_⟩
  intro G p l e R s m args below meth c C k0 s0 _ _ ws H locs A stC cells slots Q hW hl hs e1 e2 k
  exact a G p l e R s m args below meth c C ws H locs A stC cells slots Q hW hl hs fun A' stC' hl' hs' => k ws H locs A' stC' cells slots (gm_e_rf ws) hW hl' hs' e1 e2
/-- a step that changes the stack alone -/
theorem gm_go_st {M : gm_M} {d pc pc' : Nat} {ls : List (Option Value)} {st st' : List Value} {h : gm_H}
    (a : ∀ (G : gm_G) (p : Program) (l : Launch) (e : Env) (R : Room) (s : State) (m : MethodId) (args : Array Value) (below : List Frame) (meth : Method) (c : Code), gm_C G M d p l e R s m args below meth c →
      ∀ (ws : va_W) (H : Heap) (locs : List Loc) (A : Array Slot) (stC : List Value) (cells slots : Nat) (Q : State → Prop), gm_W G s ws h H locs → gm_ls G ws M.2.2.1 ls A → gm_st G ws st stC →
      (∀ stC' : List Value, gm_st G ws st' stC' → W p l e R s m args below meth c H locs cells slots Q (F0 m pc' A stC')) →
      W p l e R s m args below meth c H locs cells slots Q (F0 m pc A stC)) : gm_go M d (pc, ls, st, h) (pc', ls, st', h) :=
  gm_go_of fun G p l e R s m args below meth c C ws H locs A stC cells slots Q hW hl hs k => a G p l e R s m args below meth c C ws H locs A stC cells slots Q hW hl hs fun stC' hs' => k A stC' hl hs'
def gm_ov (G : gm_G) (ws : va_W) (v w : Option Value) : Prop := match v with
  | none => w = none
  | some v => ∃ x, w = some x ∧ gm_v G ws v x
def gm_q (G : gm_G) (ws : va_W) (o : Option Value ⊕ String) (h' : gm_H) : Array Value → State → Outcome → State → Prop := fun _ st oc t =>
  (∃ v, o = .inl v ∧ ∃ (ws' : va_W) (x : Option Value), gm_e ws ws' ∧ gm_ov G ws' v x ∧ oc = .returned x ∧ va_P (gm_D G) vwCl ws' t.heap ∧ va_D (gm_F G) ws' ∧ gm_h G ws' h'.1) ∧ va_F (gm_F G) st t
def gm_xc (G : gm_G) (ws : va_W) (o : Option Value ⊕ String) (h' : gm_H) : String → State → State → Prop := fun E st t =>
  o = .inr E ∧ (∃ ws' : va_W, gm_e ws ws' ∧ va_P (gm_D G) vwCl ws' t.heap ∧ va_D (gm_F G) ws' ∧ gm_h G ws' h'.1) ∧ va_F (gm_F G) st t
def gm_cw (M : gm_M) : Cond := match M.2.2.2.2 with
  | [] => .code M.1 M.2.1 M.2.2.1 M.2.2.2.1
  | x :: l => .codeWith M.1 M.2.1 M.2.2.1 M.2.2.2.1 (x :: l)
def gm_rm (d : Nat) (h h' : gm_H) : Room := { frames := d, cells := h'.2.1 - h.2.1, slots := h'.2.2 - h.2.2, locals := 64 * d }
def gm_pc (G : gm_G) (ws : va_W) (aC : List Value) : Array Value → State → Prop := va_Pc aC (fun U => gm_E G U U.heap ∧ va_P (gm_D G) vwCl ws U.heap ∧ va_D (gm_F G) ws)
/-- the method M, called with args over the heap h, ends with o (an answer, or the class of what it throws) and leaves the heap h'; d: how deep its calls go -/
def gm_co (M : gm_M) (d : Nat) (as : List Value) (h : gm_H) (o : Option Value ⊕ String) (h' : gm_H) : Prop :=
  (h.2.1 ≤ h'.2.1 ∧ h.2.2 ≤ h'.2.2) ∧ ∀ (l : Launch), l.stackTraces = false → ∀ (G : gm_G) (ws : va_W) (aC : List Value), gm_st G ws as aC → gm_h G ws h.1 →
    vx_Met l M.1 [gm_cw M] (gm_rm d h h') (gm_pc G ws aC) (gm_q G ws o h') (gm_xc G ws o h') (h'.2.1 - h.2.1) (h'.2.2 - h.2.2) (gm_F G)
/-- from the frame f the body M ends with o and the heap h' -/
def gm_ru (M : gm_M) (d : Nat) (f : gm_fr) (o : Option Value ⊕ String) (h' : gm_H) : Prop :=
  (f.2.2.2.2.1 ≤ h'.2.1 ∧ f.2.2.2.2.2 ≤ h'.2.2) ∧
  ∀ (G : gm_G) (p : Program) (l : Launch) (e : Env) (R : Room) (s : State) (m : MethodId) (args : Array Value) (below : List Frame) (meth : Method) (c : Code), gm_C G M d p l e R s m args below meth c →
  ∀ (k0 s0 mc ms : Nat), h'.2.1 = k0 + mc → h'.2.2 = s0 + ms → mc ≤ R.cells → ms ≤ R.slots →
  ∀ (ws0 ws : va_W) (H : Heap) (locs : List Loc) (A : Array Slot) (stC : List Value) (cells slots : Nat), gm_e ws0 ws → gm_W G s ws f.2.2.2 H locs → gm_ls G ws M.2.2.1 f.2.1 A → gm_st G ws f.2.2.1 stC → f.2.2.2.2.1 = k0 + cells → f.2.2.2.2.2 = s0 + slots →
  W p l e R s m args below meth c H locs cells slots (vx_MQ below (gm_q G ws0 o h') (gm_xc G ws0 o h') args s mc ms (gm_F G)) (F0 m f.1 A stC)
theorem gm_go.ru {M : gm_M} {d : Nat} {f g : gm_fr} {o : Option Value ⊕ String} {h' : gm_H} (a : gm_go M d f g) (b : gm_ru M d g o h') : gm_ru M d f o h' := by
  refine ⟨⟨Nat.le_trans a.1.1 b.1.1, Nat.le_trans a.1.2 b.1.2⟩, ?_⟩
  intro G p l e R s m args below meth c C k0 s0 mc ms m1 m2 r1 r2 ws0 ws H locs A stC cells slots he hW hl hs e1 e2
  have b1 := b.1.1
  have b2 := b.1.2
  refine a.2 G p l e R s m args below meth c C k0 s0 (by omega) (by omega) ws H locs A stC cells slots _ hW hl hs e1 e2 ?_
  intro ws' H' locs' A' stC' cells' slots' he' hW' hl' hs' e1' e2'
  exact b.2 G p l e R s m args below meth c C k0 s0 mc ms m1 m2 r1 r2 ws0 ws' H' locs' A' stC' cells' slots' (gm_e_tr he he') hW' hl' hs' e1' e2'
/-! the locals with which a body begins -/
def gm_ent : List Value → List (Option Value)
  | [] => []
  | v :: r => some v :: (if v.category = 2 then none :: gm_ent r else gm_ent r)
theorem gm_ent_args {G : gm_G} {ws : va_W} : ∀ {as aC : List Value}, gm_st G ws as aC → ∀ (k i : Nat) (v : Value), (gm_ent as)[i]? = some (some v) → ∃ w, gm_v G ws v w ∧ (k + i, w) ∈ lv_args k aC := by
  intro as
  induction as with
  | nil => intro aC h k i v hi; simp [gm_ent] at hi
  | cons x as ih =>
    intro aC h k i v hi
    obtain ⟨y, t, rfl, h2, h3⟩ := h
    have hc := gm_v_cat h2
    cases i with
    | zero =>
      simp only [gm_ent, List.getElem?_cons_zero, Option.some.injEq] at hi
      subst hi
      exact ⟨y, h2, by simp [lv_args]⟩
    | succ i =>
      simp only [gm_ent, List.getElem?_cons_succ] at hi
      by_cases h9 : x.category = 2
      · rw [if_pos h9] at hi
        cases i with
        | zero => simp at hi
        | succ i =>
          simp only [List.getElem?_cons_succ] at hi
          obtain ⟨w, q1, q2⟩ := ih h3 (k + 2) i v hi
          refine ⟨w, q1, List.mem_cons_of_mem _ ?_⟩
          rw [if_pos (by omega)]
          rw [show k + (i + 1 + 1) = k + 2 + i by omega]
          exact q2
      · rw [if_neg h9] at hi
        obtain ⟨w, q1, q2⟩ := ih h3 (k + 1) i v hi
        refine ⟨w, q1, List.mem_cons_of_mem _ ?_⟩
        rw [if_neg (by omega)]
        rw [show k + (i + 1) = k + 1 + i by omega]
        exact q2
theorem gm_ent_sz {G : gm_G} {ws : va_W} : ∀ {as aC : List Value}, gm_st G ws as aC → (lg_sl aC).length = (gm_ent as).length := by
  intro as
  induction as with
  | nil => intro aC h; rw [show aC = [] from h]; rfl
  | cons x as ih =>
    intro aC h
    obtain ⟨y, t, rfl, h2, h3⟩ := h
    have hc := gm_v_cat h2
    have h4 := ih h3
    simp only [lg_sl, List.flatMap_cons, List.length_append] at h4 ⊢
    by_cases h9 : x.category = 2
    · rw [if_pos (by omega), gm_ent, if_pos h9]
      simp only [List.length_cons, List.length_nil]
      omega
    · rw [if_neg (by omega), gm_ent, if_neg h9]
      simp only [List.length_cons, List.length_nil]
      omega
theorem gm_ls_ent {G : gm_G} {ws : va_W} {as aC : List Value} (h : gm_st G ws as aC) {n : Nat} (hn : (gm_ent as).length ≤ n) (ls : List (Option Value)) (hls : gm_ent as ++ List.replicate (n - (gm_ent as).length) none = ls) :
    gm_ls G ws n ls ((lg_sl aC ++ List.replicate (n - (lg_sl aC).length) Slot.unset).toArray) := by
  have hl := lv_entry aC (n := n) (by rw [gm_ent_sz h]; exact hn)
  refine ⟨hl.1, hl.2.1, fun i v hi => ?_⟩
  rw [← hls] at hi
  by_cases h9 : i < (gm_ent as).length
  · rw [List.getElem?_append_left h9] at hi
    obtain ⟨w, q1, q2⟩ := gm_ent_args h 0 i v hi
    rw [Nat.zero_add] at q2
    exact ⟨w, q1, hl.2.2 _ q2⟩
  · rw [List.getElem?_append_right (by omega)] at hi
    have h7 := List.mem_of_getElem? hi
    rw [List.mem_replicate] at h7
    cases h7.2
/-- a method's contract out of its body's run -/
theorem gm_co_of {M : gm_M} {d : Nat} {as : List Value} {h h' : gm_H} {o : Option Value ⊕ String} (ls : List (Option Value)) (hy : plainName M.1.cls = true) (hh : M.2.2.2.2 = []) (hn : (gm_ent as).length ≤ M.2.2.1) (hls : gm_ent as ++ List.replicate (M.2.2.1 - (gm_ent as).length) none = ls)
    (a : gm_ru M d (0, ls, [], h) o h') : gm_co M d as h o h' := by
  refine ⟨a.1, ?_⟩
  intro l hl G ws aC hst hgh
  have hcw : gm_cw M = .code M.1 M.2.1 M.2.2.1 M.2.2.2.1 := by unfold gm_cw; rw [hh]
  refine vx_ofW (ws' := []) (cc := M.2.1) (maxL := M.2.2.1) (ret := M.2.2.2.1) hy (by rw [hcw]) ?_
  intro p e s m args below meth c s₁ B hml htab hv
  obtain ⟨rfl, hE, hP, hD⟩ := hv
  have a1 := a.1.1
  have a2 := a.1.2
  dsimp only at a1 a2
  rw [lg_entry_eq]
  refine W.eq (g2 := F0 m 0 ((lg_sl aC ++ List.replicate (M.2.2.1 - (lg_sl aC).length) Slot.unset).toArray) []) rfl ?_
  refine a.2 G p l e (headSpec [gm_cw M] (gm_rm d h h')).room s m aC.toArray below meth c ⟨B.exec, B.bytes, hml, findClass_of_methodNamed B.named, hE, ?_, B.notSynchronized, hl, B.returns, (name_of_methodNamed B.named B.method).1, Nat.le_refl _, Nat.le_refl _⟩
    h.2.1 h.2.2 (h'.2.1 - h.2.1) (h'.2.2 - h.2.2) (by omega) (by omega) (Nat.le_refl _) (Nat.le_refl _) ws ws s.heap [] _ [] 0 0 (gm_e_rf ws) ⟨hP, hD, hgh, va_S.rf⟩ (gm_ls_ent hst hn ls hls) rfl rfl rfl
  rw [hh]
  exact List.eq_nil_iff_forall_not_mem.mpr fun x hx => htab x hx

theorem gm_iadd {M : gm_M} {d pc : Nat} {ls : List (Option Value)} {st : List Value} {h : gm_H} {x y : Int32} (hd : decode M.2.1 pc = .ok (.iadd, 1)) : gm_go M d (pc, ls, .int y :: .int x :: st, h) (pc + 1, ls, .int (x + y) :: st, h) :=
  gm_go_st fun G p l e R s m args below meth c C ws H locs A stC cells slots Q hW hl hs k => by
    obtain ⟨_, _, rfl, rfl, _, _, rfl, rfl, hs⟩ := hs
    exact lv_iadd C.1 C.2.1 hd (k _ ⟨_, _, rfl, rfl, hs⟩)
theorem gm_isub {M : gm_M} {d pc : Nat} {ls : List (Option Value)} {st : List Value} {h : gm_H} {x y : Int32} (hd : decode M.2.1 pc = .ok (.isub, 1)) : gm_go M d (pc, ls, .int y :: .int x :: st, h) (pc + 1, ls, .int (x - y) :: st, h) :=
  gm_go_st fun G p l e R s m args below meth c C ws H locs A stC cells slots Q hW hl hs k => by
    obtain ⟨_, _, rfl, rfl, _, _, rfl, rfl, hs⟩ := hs
    exact lv_isub C.1 C.2.1 hd (k _ ⟨_, _, rfl, rfl, hs⟩)
theorem gm_imul {M : gm_M} {d pc : Nat} {ls : List (Option Value)} {st : List Value} {h : gm_H} {x y : Int32} (hd : decode M.2.1 pc = .ok (.imul, 1)) : gm_go M d (pc, ls, .int y :: .int x :: st, h) (pc + 1, ls, .int (x * y) :: st, h) :=
  gm_go_st fun G p l e R s m args below meth c C ws H locs A stC cells slots Q hW hl hs k => by
    obtain ⟨_, _, rfl, rfl, _, _, rfl, rfl, hs⟩ := hs
    exact lv_imul C.1 C.2.1 hd (k _ ⟨_, _, rfl, rfl, hs⟩)
theorem gm_iand {M : gm_M} {d pc : Nat} {ls : List (Option Value)} {st : List Value} {h : gm_H} {x y : Int32} (hd : decode M.2.1 pc = .ok (.iand, 1)) : gm_go M d (pc, ls, .int y :: .int x :: st, h) (pc + 1, ls, .int (x &&& y) :: st, h) :=
  gm_go_st fun G p l e R s m args below meth c C ws H locs A stC cells slots Q hW hl hs k => by
    obtain ⟨_, _, rfl, rfl, _, _, rfl, rfl, hs⟩ := hs
    exact lv_iand C.1 C.2.1 hd (k _ ⟨_, _, rfl, rfl, hs⟩)
theorem gm_ior {M : gm_M} {d pc : Nat} {ls : List (Option Value)} {st : List Value} {h : gm_H} {x y : Int32} (hd : decode M.2.1 pc = .ok (.ior, 1)) : gm_go M d (pc, ls, .int y :: .int x :: st, h) (pc + 1, ls, .int (x ||| y) :: st, h) :=
  gm_go_st fun G p l e R s m args below meth c C ws H locs A stC cells slots Q hW hl hs k => by
    obtain ⟨_, _, rfl, rfl, _, _, rfl, rfl, hs⟩ := hs
    exact lv_ior C.1 C.2.1 hd (k _ ⟨_, _, rfl, rfl, hs⟩)
theorem gm_ixor {M : gm_M} {d pc : Nat} {ls : List (Option Value)} {st : List Value} {h : gm_H} {x y : Int32} (hd : decode M.2.1 pc = .ok (.ixor, 1)) : gm_go M d (pc, ls, .int y :: .int x :: st, h) (pc + 1, ls, .int (x ^^^ y) :: st, h) :=
  gm_go_st fun G p l e R s m args below meth c C ws H locs A stC cells slots Q hW hl hs k => by
    obtain ⟨_, _, rfl, rfl, _, _, rfl, rfl, hs⟩ := hs
    exact lv_ixor C.1 C.2.1 hd (k _ ⟨_, _, rfl, rfl, hs⟩)
theorem gm_idiv {M : gm_M} {d pc : Nat} {ls : List (Option Value)} {st : List Value} {h : gm_H} {x y : Int32} (hne : ¬ y = 0) (hd : decode M.2.1 pc = .ok (.idiv, 1)) : gm_go M d (pc, ls, .int y :: .int x :: st, h) (pc + 1, ls, .int (x / y) :: st, h) :=
  gm_go_st fun G p l e R s m args below meth c C ws H locs A stC cells slots Q hW hl hs k => by
    obtain ⟨_, _, rfl, rfl, _, _, rfl, rfl, hs⟩ := hs
    exact lv_idiv C.1 C.2.1 hd hne (k _ ⟨_, _, rfl, rfl, hs⟩)
theorem gm_irem {M : gm_M} {d pc : Nat} {ls : List (Option Value)} {st : List Value} {h : gm_H} {x y : Int32} (hne : ¬ y = 0) (hd : decode M.2.1 pc = .ok (.irem, 1)) : gm_go M d (pc, ls, .int y :: .int x :: st, h) (pc + 1, ls, .int (x - x / y * y) :: st, h) :=
  gm_go_st fun G p l e R s m args below meth c C ws H locs A stC cells slots Q hW hl hs k => by
    obtain ⟨_, _, rfl, rfl, _, _, rfl, rfl, hs⟩ := hs
    exact lv_irem C.1 C.2.1 hd hne (k _ ⟨_, _, rfl, rfl, hs⟩)
theorem gm_ineg {M : gm_M} {d pc : Nat} {ls : List (Option Value)} {st : List Value} {h : gm_H} {x : Int32} (hd : decode M.2.1 pc = .ok (.ineg, 1)) : gm_go M d (pc, ls, .int x :: st, h) (pc + 1, ls, .int (-x) :: st, h) :=
  gm_go_st fun G p l e R s m args below meth c C ws H locs A stC cells slots Q hW hl hs k => by
    obtain ⟨_, _, rfl, rfl, hs⟩ := hs
    exact lv_ineg C.1 C.2.1 hd (k _ ⟨_, _, rfl, rfl, hs⟩)
theorem gm_ishl {M : gm_M} {d pc : Nat} {ls : List (Option Value)} {st : List Value} {h : gm_H} {x y : Int32} (hd : decode M.2.1 pc = .ok (.ishl, 1)) : gm_go M d (pc, ls, .int y :: .int x :: st, h) (pc + 1, ls, .int (x <<< (y &&& 31)) :: st, h) :=
  gm_go_st fun G p l e R s m args below meth c C ws H locs A stC cells slots Q hW hl hs k => by
    obtain ⟨_, _, rfl, rfl, _, _, rfl, rfl, hs⟩ := hs
    exact lv_ishl C.1 C.2.1 hd (k _ ⟨_, _, rfl, rfl, hs⟩)
theorem gm_ishr {M : gm_M} {d pc : Nat} {ls : List (Option Value)} {st : List Value} {h : gm_H} {x y : Int32} (hd : decode M.2.1 pc = .ok (.ishr, 1)) : gm_go M d (pc, ls, .int y :: .int x :: st, h) (pc + 1, ls, .int (x >>> (y &&& 31)) :: st, h) :=
  gm_go_st fun G p l e R s m args below meth c C ws H locs A stC cells slots Q hW hl hs k => by
    obtain ⟨_, _, rfl, rfl, _, _, rfl, rfl, hs⟩ := hs
    exact lv_ishr C.1 C.2.1 hd (k _ ⟨_, _, rfl, rfl, hs⟩)
theorem gm_iushr {M : gm_M} {d pc : Nat} {ls : List (Option Value)} {st : List Value} {h : gm_H} {x y v : Int32} (hv : (x.toUInt32 >>> (y.toUInt32 &&& Int32.toUInt32 31)).toInt32 = v) (hd : decode M.2.1 pc = .ok (.iushr, 1)) : gm_go M d (pc, ls, .int y :: .int x :: st, h) (pc + 1, ls, .int v :: st, h) :=
  gm_go_st fun G p l e R s m args below meth c C ws H locs A stC cells slots Q hW hl hs k => by
    obtain ⟨_, _, rfl, rfl, _, _, rfl, rfl, hs⟩ := hs
    exact lv_iushr C.1 C.2.1 hd hv (k _ ⟨_, _, rfl, rfl, hs⟩)
theorem gm_ladd {M : gm_M} {d pc : Nat} {ls : List (Option Value)} {st : List Value} {h : gm_H} {x y : Int64} (hd : decode M.2.1 pc = .ok (.ladd, 1)) : gm_go M d (pc, ls, .long y :: .long x :: st, h) (pc + 1, ls, .long (x + y) :: st, h) :=
  gm_go_st fun G p l e R s m args below meth c C ws H locs A stC cells slots Q hW hl hs k => by
    obtain ⟨_, _, rfl, rfl, _, _, rfl, rfl, hs⟩ := hs
    exact lv_ladd C.1 C.2.1 hd (k _ ⟨_, _, rfl, rfl, hs⟩)
theorem gm_lmul {M : gm_M} {d pc : Nat} {ls : List (Option Value)} {st : List Value} {h : gm_H} {x y : Int64} (hd : decode M.2.1 pc = .ok (.lmul, 1)) : gm_go M d (pc, ls, .long y :: .long x :: st, h) (pc + 1, ls, .long (x * y) :: st, h) :=
  gm_go_st fun G p l e R s m args below meth c C ws H locs A stC cells slots Q hW hl hs k => by
    obtain ⟨_, _, rfl, rfl, _, _, rfl, rfl, hs⟩ := hs
    exact lv_lmul C.1 C.2.1 hd (k _ ⟨_, _, rfl, rfl, hs⟩)
theorem gm_i2l {M : gm_M} {d pc : Nat} {ls : List (Option Value)} {st : List Value} {h : gm_H} {x : Int32} (hd : decode M.2.1 pc = .ok (.i2l, 1)) : gm_go M d (pc, ls, .int x :: st, h) (pc + 1, ls, .long x.toInt64 :: st, h) :=
  gm_go_st fun G p l e R s m args below meth c C ws H locs A stC cells slots Q hW hl hs k => by
    obtain ⟨_, _, rfl, rfl, hs⟩ := hs
    exact lv_i2l C.1 C.2.1 hd rfl (k _ ⟨_, _, rfl, rfl, hs⟩)
theorem gm_l2i {M : gm_M} {d pc : Nat} {ls : List (Option Value)} {st : List Value} {h : gm_H} {x : Int64} (hd : decode M.2.1 pc = .ok (.l2i, 1)) : gm_go M d (pc, ls, .long x :: st, h) (pc + 1, ls, .int x.toInt32 :: st, h) :=
  gm_go_st fun G p l e R s m args below meth c C ws H locs A stC cells slots Q hW hl hs k => by
    obtain ⟨_, _, rfl, rfl, hs⟩ := hs
    exact lv_l2i C.1 C.2.1 hd rfl (k _ ⟨_, _, rfl, rfl, hs⟩)
theorem gm_i2c {M : gm_M} {d pc : Nat} {ls : List (Option Value)} {st : List Value} {h : gm_H} {x : Int32} (hd : decode M.2.1 pc = .ok (.i2c, 1)) : gm_go M d (pc, ls, .int x :: st, h) (pc + 1, ls, .int (x.toUInt32 % 65536).toInt32 :: st, h) :=
  gm_go_st fun G p l e R s m args below meth c C ws H locs A stC cells slots Q hW hl hs k => by
    obtain ⟨_, _, rfl, rfl, hs⟩ := hs
    exact lv_i2c C.1 C.2.1 hd rfl (k _ ⟨_, _, rfl, rfl, hs⟩)
theorem gm_i2b {M : gm_M} {d pc : Nat} {ls : List (Option Value)} {st : List Value} {h : gm_H} {x : Int32} (hd : decode M.2.1 pc = .ok (.i2b, 1)) : gm_go M d (pc, ls, .int x :: st, h) (pc + 1, ls, .int x.toInt8.toInt32 :: st, h) :=
  gm_go_st fun G p l e R s m args below meth c C ws H locs A stC cells slots Q hW hl hs k => by
    obtain ⟨_, _, rfl, rfl, hs⟩ := hs
    exact lv_i2b C.1 C.2.1 hd rfl (k _ ⟨_, _, rfl, rfl, hs⟩)
theorem gm_iconst {M : gm_M} {d pc : Nat} {ls : List (Option Value)} {st : List Value} {h : gm_H} {n : Int} {v : Int32} (hv : Int32.ofInt n = v) (hd : decode M.2.1 pc = .ok (.iconst n, 1)) : gm_go M d (pc, ls, st, h) (pc + 1, ls, .int v :: st, h) :=
  gm_go_st fun G p l e R s m args below meth c C ws H locs A stC cells slots Q hW hl hs k => lv_iconst C.1 C.2.1 hd hv (k _ ⟨_, _, rfl, rfl, hs⟩)
theorem gm_bipush {M : gm_M} {d pc : Nat} {ls : List (Option Value)} {st : List Value} {h : gm_H} {n : Int} {v : Int32} (hv : (Int8.ofInt n).toInt32 = v) (hd : decode M.2.1 pc = .ok (.bipush n, 2)) : gm_go M d (pc, ls, st, h) (pc + 2, ls, .int v :: st, h) :=
  gm_go_st fun G p l e R s m args below meth c C ws H locs A stC cells slots Q hW hl hs k => lv_bipush C.1 C.2.1 hd hv (k _ ⟨_, _, rfl, rfl, hs⟩)
theorem gm_sipush {M : gm_M} {d pc : Nat} {ls : List (Option Value)} {st : List Value} {h : gm_H} {n : Int} {v : Int32} (hv : (Int16.ofInt n).toInt32 = v) (hd : decode M.2.1 pc = .ok (.sipush n, 3)) : gm_go M d (pc, ls, st, h) (pc + 3, ls, .int v :: st, h) :=
  gm_go_st fun G p l e R s m args below meth c C ws H locs A stC cells slots Q hW hl hs k => lv_sipush C.1 C.2.1 hd hv (k _ ⟨_, _, rfl, rfl, hs⟩)
theorem gm_lconst {M : gm_M} {d pc : Nat} {ls : List (Option Value)} {st : List Value} {h : gm_H} {n : Fin 2} {v : Int64} (hv : Int64.ofNat (n : Nat) = v) (hd : decode M.2.1 pc = .ok (.lconst n, 1)) : gm_go M d (pc, ls, st, h) (pc + 1, ls, .long v :: st, h) :=
  gm_go_st fun G p l e R s m args below meth c C ws H locs A stC cells slots Q hW hl hs k => lv_lconst C.1 C.2.1 hd hv (k _ ⟨_, _, rfl, rfl, hs⟩)
theorem gm_fconst0 {M : gm_M} {d pc : Nat} {ls : List (Option Value)} {st : List Value} {h : gm_H}  (hd : decode M.2.1 pc = .ok (.fconst 0, 1)) : gm_go M d (pc, ls, st, h) (pc + 1, ls, .float 0 :: st, h) :=
  gm_go_st fun G p l e R s m args below meth c C ws H locs A stC cells slots Q hW hl hs k => lv_fconst0 C.1 C.2.1 hd (k _ ⟨_, _, rfl, rfl, hs⟩)
theorem gm_dconst0 {M : gm_M} {d pc : Nat} {ls : List (Option Value)} {st : List Value} {h : gm_H}  (hd : decode M.2.1 pc = .ok (.dconst 0, 1)) : gm_go M d (pc, ls, st, h) (pc + 1, ls, .double 0 :: st, h) :=
  gm_go_st fun G p l e R s m args below meth c C ws H locs A stC cells slots Q hW hl hs k => lv_dconst0 C.1 C.2.1 hd (k _ ⟨_, _, rfl, rfl, hs⟩)
theorem gm_i2f {M : gm_M} {d pc : Nat} {ls : List (Option Value)} {st : List Value} {h : gm_H} {x : Int32} (hd : decode M.2.1 pc = .ok (.i2f, 1)) : gm_go M d (pc, ls, .int x :: st, h) (pc + 1, ls, .float (FP.i2f x) :: st, h) :=
  gm_go_st fun G p l e R s m args below meth c C ws H locs A stC cells slots Q hW hl hs k => by
    obtain ⟨_, _, rfl, rfl, hs⟩ := hs
    exact lv_i2f C.1 C.2.1 hd (k _ ⟨_, _, rfl, rfl, hs⟩)
theorem gm_i2d {M : gm_M} {d pc : Nat} {ls : List (Option Value)} {st : List Value} {h : gm_H} {x : Int32} (hd : decode M.2.1 pc = .ok (.i2d, 1)) : gm_go M d (pc, ls, .int x :: st, h) (pc + 1, ls, .double (FP.i2d x) :: st, h) :=
  gm_go_st fun G p l e R s m args below meth c C ws H locs A stC cells slots Q hW hl hs k => by
    obtain ⟨_, _, rfl, rfl, hs⟩ := hs
    exact lv_i2d C.1 C.2.1 hd (k _ ⟨_, _, rfl, rfl, hs⟩)
theorem gm_fdiv {M : gm_M} {d pc : Nat} {ls : List (Option Value)} {st : List Value} {h : gm_H} {x y : UInt32} (hne : vf_n32 (FP.fdiv x y)) (hd : decode M.2.1 pc = .ok (.fdiv, 1)) : gm_go M d (pc, ls, .float y :: .float x :: st, h) (pc + 1, ls, .float (FP.fdiv x y) :: st, h) :=
  gm_go_st fun G p l e R s m args below meth c C ws H locs A stC cells slots Q hW hl hs k => by
    obtain ⟨_, _, rfl, rfl, _, _, rfl, rfl, hs⟩ := hs
    exact lv_fdiv C.1 C.2.1 hd hne (k _ ⟨_, _, rfl, rfl, hs⟩)
theorem gm_ddiv {M : gm_M} {d pc : Nat} {ls : List (Option Value)} {st : List Value} {h : gm_H} {x y : UInt64} (hne : vf_n64 (FP.ddiv x y)) (hd : decode M.2.1 pc = .ok (.ddiv, 1)) : gm_go M d (pc, ls, .double y :: .double x :: st, h) (pc + 1, ls, .double (FP.ddiv x y) :: st, h) :=
  gm_go_st fun G p l e R s m args below meth c C ws H locs A stC cells slots Q hW hl hs k => by
    obtain ⟨_, _, rfl, rfl, _, _, rfl, rfl, hs⟩ := hs
    exact lv_ddiv C.1 C.2.1 hd hne (k _ ⟨_, _, rfl, rfl, hs⟩)
theorem gm_f2d {M : gm_M} {d pc : Nat} {ls : List (Option Value)} {st : List Value} {h : gm_H} {x : UInt32} (hne : vf_n64 (FP.f2d x)) (hd : decode M.2.1 pc = .ok (.f2d, 1)) : gm_go M d (pc, ls, .float x :: st, h) (pc + 1, ls, .double (FP.f2d x) :: st, h) :=
  gm_go_st fun G p l e R s m args below meth c C ws H locs A stC cells slots Q hW hl hs k => by
    obtain ⟨_, _, rfl, rfl, hs⟩ := hs
    exact lv_f2d C.1 C.2.1 hd hne (k _ ⟨_, _, rfl, rfl, hs⟩)
theorem gm_fcmp {M : gm_M} {d pc : Nat} {ls : List (Option Value)} {st : List Value} {h : gm_H} {x y : UInt32} {op : CmpOp} (hd : decode M.2.1 pc = .ok (.fcmp op, 1)) : gm_go M d (pc, ls, .float y :: .float x :: st, h) (pc + 1, ls, .int (Op.cmpValue (FP.fcmp x y) op) :: st, h) :=
  gm_go_st fun G p l e R s m args below meth c C ws H locs A stC cells slots Q hW hl hs k => by
    obtain ⟨_, _, rfl, rfl, _, _, rfl, rfl, hs⟩ := hs
    exact lv_fcmp C.1 C.2.1 hd (k _ ⟨_, _, rfl, rfl, hs⟩)
theorem gm_dcmp {M : gm_M} {d pc : Nat} {ls : List (Option Value)} {st : List Value} {h : gm_H} {x y : UInt64} {op : CmpOp} (hd : decode M.2.1 pc = .ok (.dcmp op, 1)) : gm_go M d (pc, ls, .double y :: .double x :: st, h) (pc + 1, ls, .int (Op.cmpValue (FP.dcmp x y) op) :: st, h) :=
  gm_go_st fun G p l e R s m args below meth c C ws H locs A stC cells slots Q hW hl hs k => by
    obtain ⟨_, _, rfl, rfl, _, _, rfl, rfl, hs⟩ := hs
    exact lv_dcmp C.1 C.2.1 hd (k _ ⟨_, _, rfl, rfl, hs⟩)
theorem gm_lcmp {M : gm_M} {d pc : Nat} {ls : List (Option Value)} {st : List Value} {h : gm_H} {x y : Int64} (hd : decode M.2.1 pc = .ok (.lcmp, 1)) : gm_go M d (pc, ls, .long y :: .long x :: st, h) (pc + 1, ls, .int (lg_cmp x y) :: st, h) :=
  gm_go_st fun G p l e R s m args below meth c C ws H locs A stC cells slots Q hW hl hs k => by
    obtain ⟨_, _, rfl, rfl, _, _, rfl, rfl, hs⟩ := hs
    exact W.lcmp C.1 C.2.1 hd (k _ ⟨_, _, rfl, rfl, hs⟩)
theorem gm_dup {M : gm_M} {d pc : Nat} {ls : List (Option Value)} {st : List Value} {h : gm_H} {v : Value} (hd : decode M.2.1 pc = .ok (.dup, 1)) (hc : v.category = 1) : gm_go M d (pc, ls, v :: st, h) (pc + 1, ls, v :: v :: st, h) :=
  gm_go_st fun G p l e R s m args below meth c C ws H locs A stC cells slots Q hW hl hs k => by
    obtain ⟨x, _, rfl, hv, hs⟩ := hs
    exact lv_dup C.1 C.2.1 hd (by rw [gm_v_cat hv]; exact hc) (k _ ⟨_, _, rfl, hv, _, _, rfl, hv, hs⟩)
theorem gm_dup_x1 {M : gm_M} {d pc : Nat} {ls : List (Option Value)} {st : List Value} {h : gm_H} {v u : Value} (hd : decode M.2.1 pc = .ok (.dup_x1, 1)) (hc : v.category = 1) (hc2 : u.category = 1) : gm_go M d (pc, ls, v :: u :: st, h) (pc + 1, ls, v :: u :: v :: st, h) :=
  gm_go_st fun G p l e R s m args below meth c C ws H locs A stC cells slots Q hW hl hs k => by
    obtain ⟨x, _, rfl, hv, y, _, rfl, hu, hs⟩ := hs
    exact lv_dup_x1 C.1 C.2.1 hd (by rw [gm_v_cat hv]; exact hc) (by rw [gm_v_cat hu]; exact hc2) (k _ ⟨_, _, rfl, hv, _, _, rfl, hu, _, _, rfl, hv, hs⟩)
theorem gm_dup2 {M : gm_M} {d pc : Nat} {ls : List (Option Value)} {st : List Value} {h : gm_H} {v u : Value} (hd : decode M.2.1 pc = .ok (.dup2, 1)) (hc : v.category = 1) (hc2 : u.category = 1) : gm_go M d (pc, ls, v :: u :: st, h) (pc + 1, ls, v :: u :: v :: u :: st, h) :=
  gm_go_st fun G p l e R s m args below meth c C ws H locs A stC cells slots Q hW hl hs k => by
    obtain ⟨x, _, rfl, hv, y, _, rfl, hu, hs⟩ := hs
    exact lv_dup2_11 C.1 C.2.1 hd (by rw [gm_v_cat hv]; exact hc) (by rw [gm_v_cat hu]; exact hc2) (k _ ⟨_, _, rfl, hv, _, _, rfl, hu, _, _, rfl, hv, _, _, rfl, hu, hs⟩)
theorem gm_pop {M : gm_M} {d pc : Nat} {ls : List (Option Value)} {st : List Value} {h : gm_H} {v : Value} (hd : decode M.2.1 pc = .ok (.pop, 1)) (hc : v.category = 1) : gm_go M d (pc, ls, v :: st, h) (pc + 1, ls, st, h) :=
  gm_go_st fun G p l e R s m args below meth c C ws H locs A stC cells slots Q hW hl hs k => by
    obtain ⟨x, _, rfl, hv, hs⟩ := hs
    exact lv_pop C.1 C.2.1 hd (by rw [gm_v_cat hv]; exact hc) (k _ hs)
theorem gm_if_eq_t {M : gm_M} {d pc : Nat} {ls : List (Option Value)} {st : List Value} {h : gm_H} {x : Int32} {off : Int} {tgt : Nat} (hd : decode M.2.1 pc = .ok (.ifCond .eq off, 3)) (ht : (pc : Int) + off = (tgt : Int)) (hc : x = 0) : gm_go M d (pc, ls, .int x :: st, h) (tgt, ls, st, h) :=
  gm_go_st fun G p l e R s m args below meth c C ws H locs A stC cells slots Q hW hl hs k => by
    obtain ⟨_, _, rfl, rfl, hs⟩ := hs
    exact lv_if_eq C.1 C.2.1 hd ht (fun _ => k _ hs) (fun z => absurd hc z)
theorem gm_if_eq_f {M : gm_M} {d pc : Nat} {ls : List (Option Value)} {st : List Value} {h : gm_H} {x : Int32} {off : Int} (tgt : Nat) (hd : decode M.2.1 pc = .ok (.ifCond .eq off, 3)) (ht : (pc : Int) + off = (tgt : Int)) (hc : ¬ x = 0) : gm_go M d (pc, ls, .int x :: st, h) (pc + 3, ls, st, h) :=
  gm_go_st fun G p l e R s m args below meth c C ws H locs A stC cells slots Q hW hl hs k => by
    obtain ⟨_, _, rfl, rfl, hs⟩ := hs
    exact lv_if_eq (tgt := tgt) C.1 C.2.1 hd ht (fun z => absurd z hc) (fun _ => k _ hs)
theorem gm_icmp_eq_t {M : gm_M} {d pc : Nat} {ls : List (Option Value)} {st : List Value} {h : gm_H} {x y : Int32} {off : Int} {tgt : Nat} (hd : decode M.2.1 pc = .ok (.if_icmp .eq off, 3)) (ht : (pc : Int) + off = (tgt : Int)) (hc : x = y) : gm_go M d (pc, ls, .int y :: .int x :: st, h) (tgt, ls, st, h) :=
  gm_go_st fun G p l e R s m args below meth c C ws H locs A stC cells slots Q hW hl hs k => by
    obtain ⟨_, _, rfl, rfl, _, _, rfl, rfl, hs⟩ := hs
    exact lv_icmp_eq C.1 C.2.1 hd ht (fun _ => k _ hs) (fun z => absurd hc z)
theorem gm_icmp_eq_f {M : gm_M} {d pc : Nat} {ls : List (Option Value)} {st : List Value} {h : gm_H} {x y : Int32} {off : Int} (tgt : Nat) (hd : decode M.2.1 pc = .ok (.if_icmp .eq off, 3)) (ht : (pc : Int) + off = (tgt : Int)) (hc : ¬ x = y) : gm_go M d (pc, ls, .int y :: .int x :: st, h) (pc + 3, ls, st, h) :=
  gm_go_st fun G p l e R s m args below meth c C ws H locs A stC cells slots Q hW hl hs k => by
    obtain ⟨_, _, rfl, rfl, _, _, rfl, rfl, hs⟩ := hs
    exact lv_icmp_eq (tgt := tgt) C.1 C.2.1 hd ht (fun z => absurd z hc) (fun _ => k _ hs)
theorem gm_if_ne_t {M : gm_M} {d pc : Nat} {ls : List (Option Value)} {st : List Value} {h : gm_H} {x : Int32} {off : Int} {tgt : Nat} (hd : decode M.2.1 pc = .ok (.ifCond .ne off, 3)) (ht : (pc : Int) + off = (tgt : Int)) (hc : ¬ x = 0) : gm_go M d (pc, ls, .int x :: st, h) (tgt, ls, st, h) :=
  gm_go_st fun G p l e R s m args below meth c C ws H locs A stC cells slots Q hW hl hs k => by
    obtain ⟨_, _, rfl, rfl, hs⟩ := hs
    exact lv_if_ne C.1 C.2.1 hd ht (fun _ => k _ hs) (fun z => absurd z hc)
theorem gm_if_ne_f {M : gm_M} {d pc : Nat} {ls : List (Option Value)} {st : List Value} {h : gm_H} {x : Int32} {off : Int} (tgt : Nat) (hd : decode M.2.1 pc = .ok (.ifCond .ne off, 3)) (ht : (pc : Int) + off = (tgt : Int)) (hc : x = 0) : gm_go M d (pc, ls, .int x :: st, h) (pc + 3, ls, st, h) :=
  gm_go_st fun G p l e R s m args below meth c C ws H locs A stC cells slots Q hW hl hs k => by
    obtain ⟨_, _, rfl, rfl, hs⟩ := hs
    exact lv_if_ne (tgt := tgt) C.1 C.2.1 hd ht (fun z => absurd hc z) (fun _ => k _ hs)
theorem gm_icmp_ne_t {M : gm_M} {d pc : Nat} {ls : List (Option Value)} {st : List Value} {h : gm_H} {x y : Int32} {off : Int} {tgt : Nat} (hd : decode M.2.1 pc = .ok (.if_icmp .ne off, 3)) (ht : (pc : Int) + off = (tgt : Int)) (hc : ¬ x = y) : gm_go M d (pc, ls, .int y :: .int x :: st, h) (tgt, ls, st, h) :=
  gm_go_st fun G p l e R s m args below meth c C ws H locs A stC cells slots Q hW hl hs k => by
    obtain ⟨_, _, rfl, rfl, _, _, rfl, rfl, hs⟩ := hs
    exact lv_icmp_ne C.1 C.2.1 hd ht (fun _ => k _ hs) (fun z => absurd z hc)
theorem gm_icmp_ne_f {M : gm_M} {d pc : Nat} {ls : List (Option Value)} {st : List Value} {h : gm_H} {x y : Int32} {off : Int} (tgt : Nat) (hd : decode M.2.1 pc = .ok (.if_icmp .ne off, 3)) (ht : (pc : Int) + off = (tgt : Int)) (hc : x = y) : gm_go M d (pc, ls, .int y :: .int x :: st, h) (pc + 3, ls, st, h) :=
  gm_go_st fun G p l e R s m args below meth c C ws H locs A stC cells slots Q hW hl hs k => by
    obtain ⟨_, _, rfl, rfl, _, _, rfl, rfl, hs⟩ := hs
    exact lv_icmp_ne (tgt := tgt) C.1 C.2.1 hd ht (fun z => absurd hc z) (fun _ => k _ hs)
theorem gm_if_lt_t {M : gm_M} {d pc : Nat} {ls : List (Option Value)} {st : List Value} {h : gm_H} {x : Int32} {off : Int} {tgt : Nat} (hd : decode M.2.1 pc = .ok (.ifCond .lt off, 3)) (ht : (pc : Int) + off = (tgt : Int)) (hc : x < 0) : gm_go M d (pc, ls, .int x :: st, h) (tgt, ls, st, h) :=
  gm_go_st fun G p l e R s m args below meth c C ws H locs A stC cells slots Q hW hl hs k => by
    obtain ⟨_, _, rfl, rfl, hs⟩ := hs
    exact lv_if_lt C.1 C.2.1 hd ht (fun _ => k _ hs) (fun z => absurd hc z)
theorem gm_if_lt_f {M : gm_M} {d pc : Nat} {ls : List (Option Value)} {st : List Value} {h : gm_H} {x : Int32} {off : Int} (tgt : Nat) (hd : decode M.2.1 pc = .ok (.ifCond .lt off, 3)) (ht : (pc : Int) + off = (tgt : Int)) (hc : ¬ x < 0) : gm_go M d (pc, ls, .int x :: st, h) (pc + 3, ls, st, h) :=
  gm_go_st fun G p l e R s m args below meth c C ws H locs A stC cells slots Q hW hl hs k => by
    obtain ⟨_, _, rfl, rfl, hs⟩ := hs
    exact lv_if_lt (tgt := tgt) C.1 C.2.1 hd ht (fun z => absurd z hc) (fun _ => k _ hs)
theorem gm_icmp_lt_t {M : gm_M} {d pc : Nat} {ls : List (Option Value)} {st : List Value} {h : gm_H} {x y : Int32} {off : Int} {tgt : Nat} (hd : decode M.2.1 pc = .ok (.if_icmp .lt off, 3)) (ht : (pc : Int) + off = (tgt : Int)) (hc : x < y) : gm_go M d (pc, ls, .int y :: .int x :: st, h) (tgt, ls, st, h) :=
  gm_go_st fun G p l e R s m args below meth c C ws H locs A stC cells slots Q hW hl hs k => by
    obtain ⟨_, _, rfl, rfl, _, _, rfl, rfl, hs⟩ := hs
    exact lv_icmp_lt C.1 C.2.1 hd ht (fun _ => k _ hs) (fun z => absurd hc z)
theorem gm_icmp_lt_f {M : gm_M} {d pc : Nat} {ls : List (Option Value)} {st : List Value} {h : gm_H} {x y : Int32} {off : Int} (tgt : Nat) (hd : decode M.2.1 pc = .ok (.if_icmp .lt off, 3)) (ht : (pc : Int) + off = (tgt : Int)) (hc : ¬ x < y) : gm_go M d (pc, ls, .int y :: .int x :: st, h) (pc + 3, ls, st, h) :=
  gm_go_st fun G p l e R s m args below meth c C ws H locs A stC cells slots Q hW hl hs k => by
    obtain ⟨_, _, rfl, rfl, _, _, rfl, rfl, hs⟩ := hs
    exact lv_icmp_lt (tgt := tgt) C.1 C.2.1 hd ht (fun z => absurd z hc) (fun _ => k _ hs)
theorem gm_if_ge_t {M : gm_M} {d pc : Nat} {ls : List (Option Value)} {st : List Value} {h : gm_H} {x : Int32} {off : Int} {tgt : Nat} (hd : decode M.2.1 pc = .ok (.ifCond .ge off, 3)) (ht : (pc : Int) + off = (tgt : Int)) (hc : 0 ≤ x) : gm_go M d (pc, ls, .int x :: st, h) (tgt, ls, st, h) :=
  gm_go_st fun G p l e R s m args below meth c C ws H locs A stC cells slots Q hW hl hs k => by
    obtain ⟨_, _, rfl, rfl, hs⟩ := hs
    exact lv_if_ge C.1 C.2.1 hd ht (fun _ => k _ hs) (fun z => absurd hc z)
theorem gm_if_ge_f {M : gm_M} {d pc : Nat} {ls : List (Option Value)} {st : List Value} {h : gm_H} {x : Int32} {off : Int} (tgt : Nat) (hd : decode M.2.1 pc = .ok (.ifCond .ge off, 3)) (ht : (pc : Int) + off = (tgt : Int)) (hc : ¬ 0 ≤ x) : gm_go M d (pc, ls, .int x :: st, h) (pc + 3, ls, st, h) :=
  gm_go_st fun G p l e R s m args below meth c C ws H locs A stC cells slots Q hW hl hs k => by
    obtain ⟨_, _, rfl, rfl, hs⟩ := hs
    exact lv_if_ge (tgt := tgt) C.1 C.2.1 hd ht (fun z => absurd z hc) (fun _ => k _ hs)
theorem gm_icmp_ge_t {M : gm_M} {d pc : Nat} {ls : List (Option Value)} {st : List Value} {h : gm_H} {x y : Int32} {off : Int} {tgt : Nat} (hd : decode M.2.1 pc = .ok (.if_icmp .ge off, 3)) (ht : (pc : Int) + off = (tgt : Int)) (hc : y ≤ x) : gm_go M d (pc, ls, .int y :: .int x :: st, h) (tgt, ls, st, h) :=
  gm_go_st fun G p l e R s m args below meth c C ws H locs A stC cells slots Q hW hl hs k => by
    obtain ⟨_, _, rfl, rfl, _, _, rfl, rfl, hs⟩ := hs
    exact lv_icmp_ge C.1 C.2.1 hd ht (fun _ => k _ hs) (fun z => absurd hc z)
theorem gm_icmp_ge_f {M : gm_M} {d pc : Nat} {ls : List (Option Value)} {st : List Value} {h : gm_H} {x y : Int32} {off : Int} (tgt : Nat) (hd : decode M.2.1 pc = .ok (.if_icmp .ge off, 3)) (ht : (pc : Int) + off = (tgt : Int)) (hc : ¬ y ≤ x) : gm_go M d (pc, ls, .int y :: .int x :: st, h) (pc + 3, ls, st, h) :=
  gm_go_st fun G p l e R s m args below meth c C ws H locs A stC cells slots Q hW hl hs k => by
    obtain ⟨_, _, rfl, rfl, _, _, rfl, rfl, hs⟩ := hs
    exact lv_icmp_ge (tgt := tgt) C.1 C.2.1 hd ht (fun z => absurd z hc) (fun _ => k _ hs)
theorem gm_if_gt_t {M : gm_M} {d pc : Nat} {ls : List (Option Value)} {st : List Value} {h : gm_H} {x : Int32} {off : Int} {tgt : Nat} (hd : decode M.2.1 pc = .ok (.ifCond .gt off, 3)) (ht : (pc : Int) + off = (tgt : Int)) (hc : 0 < x) : gm_go M d (pc, ls, .int x :: st, h) (tgt, ls, st, h) :=
  gm_go_st fun G p l e R s m args below meth c C ws H locs A stC cells slots Q hW hl hs k => by
    obtain ⟨_, _, rfl, rfl, hs⟩ := hs
    exact lv_if_gt C.1 C.2.1 hd ht (fun _ => k _ hs) (fun z => absurd hc z)
theorem gm_if_gt_f {M : gm_M} {d pc : Nat} {ls : List (Option Value)} {st : List Value} {h : gm_H} {x : Int32} {off : Int} (tgt : Nat) (hd : decode M.2.1 pc = .ok (.ifCond .gt off, 3)) (ht : (pc : Int) + off = (tgt : Int)) (hc : ¬ 0 < x) : gm_go M d (pc, ls, .int x :: st, h) (pc + 3, ls, st, h) :=
  gm_go_st fun G p l e R s m args below meth c C ws H locs A stC cells slots Q hW hl hs k => by
    obtain ⟨_, _, rfl, rfl, hs⟩ := hs
    exact lv_if_gt (tgt := tgt) C.1 C.2.1 hd ht (fun z => absurd z hc) (fun _ => k _ hs)
theorem gm_icmp_gt_t {M : gm_M} {d pc : Nat} {ls : List (Option Value)} {st : List Value} {h : gm_H} {x y : Int32} {off : Int} {tgt : Nat} (hd : decode M.2.1 pc = .ok (.if_icmp .gt off, 3)) (ht : (pc : Int) + off = (tgt : Int)) (hc : y < x) : gm_go M d (pc, ls, .int y :: .int x :: st, h) (tgt, ls, st, h) :=
  gm_go_st fun G p l e R s m args below meth c C ws H locs A stC cells slots Q hW hl hs k => by
    obtain ⟨_, _, rfl, rfl, _, _, rfl, rfl, hs⟩ := hs
    exact lv_icmp_gt C.1 C.2.1 hd ht (fun _ => k _ hs) (fun z => absurd hc z)
theorem gm_icmp_gt_f {M : gm_M} {d pc : Nat} {ls : List (Option Value)} {st : List Value} {h : gm_H} {x y : Int32} {off : Int} (tgt : Nat) (hd : decode M.2.1 pc = .ok (.if_icmp .gt off, 3)) (ht : (pc : Int) + off = (tgt : Int)) (hc : ¬ y < x) : gm_go M d (pc, ls, .int y :: .int x :: st, h) (pc + 3, ls, st, h) :=
  gm_go_st fun G p l e R s m args below meth c C ws H locs A stC cells slots Q hW hl hs k => by
    obtain ⟨_, _, rfl, rfl, _, _, rfl, rfl, hs⟩ := hs
    exact lv_icmp_gt (tgt := tgt) C.1 C.2.1 hd ht (fun z => absurd z hc) (fun _ => k _ hs)
theorem gm_if_le_t {M : gm_M} {d pc : Nat} {ls : List (Option Value)} {st : List Value} {h : gm_H} {x : Int32} {off : Int} {tgt : Nat} (hd : decode M.2.1 pc = .ok (.ifCond .le off, 3)) (ht : (pc : Int) + off = (tgt : Int)) (hc : x ≤ 0) : gm_go M d (pc, ls, .int x :: st, h) (tgt, ls, st, h) :=
  gm_go_st fun G p l e R s m args below meth c C ws H locs A stC cells slots Q hW hl hs k => by
    obtain ⟨_, _, rfl, rfl, hs⟩ := hs
    exact lv_if_le C.1 C.2.1 hd ht (fun _ => k _ hs) (fun z => absurd hc z)
theorem gm_if_le_f {M : gm_M} {d pc : Nat} {ls : List (Option Value)} {st : List Value} {h : gm_H} {x : Int32} {off : Int} (tgt : Nat) (hd : decode M.2.1 pc = .ok (.ifCond .le off, 3)) (ht : (pc : Int) + off = (tgt : Int)) (hc : ¬ x ≤ 0) : gm_go M d (pc, ls, .int x :: st, h) (pc + 3, ls, st, h) :=
  gm_go_st fun G p l e R s m args below meth c C ws H locs A stC cells slots Q hW hl hs k => by
    obtain ⟨_, _, rfl, rfl, hs⟩ := hs
    exact lv_if_le (tgt := tgt) C.1 C.2.1 hd ht (fun z => absurd z hc) (fun _ => k _ hs)
theorem gm_icmp_le_t {M : gm_M} {d pc : Nat} {ls : List (Option Value)} {st : List Value} {h : gm_H} {x y : Int32} {off : Int} {tgt : Nat} (hd : decode M.2.1 pc = .ok (.if_icmp .le off, 3)) (ht : (pc : Int) + off = (tgt : Int)) (hc : x ≤ y) : gm_go M d (pc, ls, .int y :: .int x :: st, h) (tgt, ls, st, h) :=
  gm_go_st fun G p l e R s m args below meth c C ws H locs A stC cells slots Q hW hl hs k => by
    obtain ⟨_, _, rfl, rfl, _, _, rfl, rfl, hs⟩ := hs
    exact lv_icmp_le C.1 C.2.1 hd ht (fun _ => k _ hs) (fun z => absurd hc z)
theorem gm_icmp_le_f {M : gm_M} {d pc : Nat} {ls : List (Option Value)} {st : List Value} {h : gm_H} {x y : Int32} {off : Int} (tgt : Nat) (hd : decode M.2.1 pc = .ok (.if_icmp .le off, 3)) (ht : (pc : Int) + off = (tgt : Int)) (hc : ¬ x ≤ y) : gm_go M d (pc, ls, .int y :: .int x :: st, h) (pc + 3, ls, st, h) :=
  gm_go_st fun G p l e R s m args below meth c C ws H locs A stC cells slots Q hW hl hs k => by
    obtain ⟨_, _, rfl, rfl, _, _, rfl, rfl, hs⟩ := hs
    exact lv_icmp_le (tgt := tgt) C.1 C.2.1 hd ht (fun z => absurd z hc) (fun _ => k _ hs)
theorem gm_goto {M : gm_M} {d pc : Nat} {ls : List (Option Value)} {st : List Value} {h : gm_H} {off : Int} {tgt : Nat} (hd : decode M.2.1 pc = .ok (.goto off, 3)) (ht : (pc : Int) + off = (tgt : Int)) : gm_go M d (pc, ls, st, h) (tgt, ls, st, h) :=
  gm_go_st fun G p l e R s m args below meth c C ws H locs A stC cells slots Q hW hl hs k => lv_goto C.1 C.2.1 hd ht (k _ hs)
theorem gm_lookup {M : gm_M} {d pc : Nat} {ls : List (Option Value)} {st : List Value} {h : gm_H} {x : Int32} {dflt : Int} {ps : Array (Int × Int)} {len : Nat} {off : Int} {tgt : Nat} (hd : decode M.2.1 pc = .ok (.lookupswitch dflt ps, len)) (hp : (ps.toList.zip (ps.toList.drop 1)).all (fun (a, next) => a.1 < next.1) = true) (ho : Op.lookupswitch.offset ps.toList dflt x.toInt = off) (ht : (pc : Int) + off = (tgt : Int)) : gm_go M d (pc, ls, .int x :: st, h) (tgt, ls, st, h) :=
  gm_go_st fun G p l e R s m args below meth c C ws H locs A stC cells slots Q hW hl hs k => by
    obtain ⟨_, _, rfl, rfl, hs⟩ := hs
    exact lv_lookup C.1 C.2.1 hd hp ho ht (k _ hs)
theorem gm_tabOut {M : gm_M} {d pc : Nat} {ls : List (Option Value)} {st : List Value} {h : gm_H} {x : Int32} {dflt lo hi : Int} {offs : Array Int} {len tgt : Nat} (hd : decode M.2.1 pc = .ok (.tableswitch dflt lo hi offs, len)) (hx : x.toInt < lo ∨ hi < x.toInt) (ht : (pc : Int) + dflt = (tgt : Int)) : gm_go M d (pc, ls, .int x :: st, h) (tgt, ls, st, h) :=
  gm_go_st fun G p l e R s m args below meth c C ws H locs A stC cells slots Q hW hl hs k => by
    obtain ⟨_, _, rfl, rfl, hs⟩ := hs
    exact lv_tableOut C.1 C.2.1 hd hx ht (k _ hs)
theorem gm_tabIn {M : gm_M} {d pc : Nat} {ls : List (Option Value)} {st : List Value} {h : gm_H} {x : Int32} {dflt lo hi off : Int} {offs : Array Int} {len tgt : Nat} (hd : decode M.2.1 pc = .ok (.tableswitch dflt lo hi offs, len)) (h1 : ¬ x.toInt < lo) (h2 : ¬ hi < x.toInt) (ho : offs[(x.toInt - lo).toNat]? = some off) (ht : (pc : Int) + off = (tgt : Int)) : gm_go M d (pc, ls, .int x :: st, h) (tgt, ls, st, h) :=
  gm_go_st fun G p l e R s m args below meth c C ws H locs A stC cells slots Q hW hl hs k => by
    obtain ⟨_, _, rfl, rfl, hs⟩ := hs
    exact lv_tableIn C.1 C.2.1 hd h1 h2 ho ht (k _ hs)
theorem gm_iload_n {M : gm_M} {d pc : Nat} {ls : List (Option Value)} {st : List Value} {h : gm_H} {k : Fin 4} {x : Int32} (hd : decode M.2.1 pc = .ok (.iload_n k, 1)) (hv : ls[(k : Nat)]? = some (some (.int x))) : gm_go M d (pc, ls, st, h) (pc + 1, ls, .int x :: st, h) :=
  gm_go_st fun G p l e R s m args below meth c C ws H locs A stC cells slots Q hW hl hs kk => by
    obtain ⟨y, h1, h2⟩ := hl.2.2 _ _ hv
    cases h1
    exact lv_iload_n C.1 C.2.1 hd rfl h2 (kk _ ⟨_, _, rfl, rfl, hs⟩)
theorem gm_iload {M : gm_M} {d pc : Nat} {ls : List (Option Value)} {st : List Value} {h : gm_H} {i : Nat} {x : Int32} (hd : decode M.2.1 pc = .ok (.iload i, 2)) (hv : ls[i]? = some (some (.int x))) : gm_go M d (pc, ls, st, h) (pc + 2, ls, .int x :: st, h) :=
  gm_go_st fun G p l e R s m args below meth c C ws H locs A stC cells slots Q hW hl hs kk => by
    obtain ⟨y, h1, h2⟩ := hl.2.2 _ _ hv
    cases h1
    exact lv_iload C.1 C.2.1 hd h2 (kk _ ⟨_, _, rfl, rfl, hs⟩)
theorem gm_lload_n {M : gm_M} {d pc : Nat} {ls : List (Option Value)} {st : List Value} {h : gm_H} {k : Fin 4} {x : Int64} (hd : decode M.2.1 pc = .ok (.lload_n k, 1)) (hv : ls[(k : Nat)]? = some (some (.long x))) : gm_go M d (pc, ls, st, h) (pc + 1, ls, .long x :: st, h) :=
  gm_go_st fun G p l e R s m args below meth c C ws H locs A stC cells slots Q hW hl hs kk => by
    obtain ⟨y, h1, h2⟩ := hl.2.2 _ _ hv
    cases h1
    exact lv_lload_n C.1 C.2.1 hd rfl h2 (kk _ ⟨_, _, rfl, rfl, hs⟩)
theorem gm_lload {M : gm_M} {d pc : Nat} {ls : List (Option Value)} {st : List Value} {h : gm_H} {i : Nat} {x : Int64} (hd : decode M.2.1 pc = .ok (.lload i, 2)) (hv : ls[i]? = some (some (.long x))) : gm_go M d (pc, ls, st, h) (pc + 2, ls, .long x :: st, h) :=
  gm_go_st fun G p l e R s m args below meth c C ws H locs A stC cells slots Q hW hl hs kk => by
    obtain ⟨y, h1, h2⟩ := hl.2.2 _ _ hv
    cases h1
    exact lv_lload C.1 C.2.1 hd h2 (kk _ ⟨_, _, rfl, rfl, hs⟩)
theorem gm_fload_n {M : gm_M} {d pc : Nat} {ls : List (Option Value)} {st : List Value} {h : gm_H} {k : Fin 4} {x : UInt32} (hd : decode M.2.1 pc = .ok (.fload_n k, 1)) (hv : ls[(k : Nat)]? = some (some (.float x))) : gm_go M d (pc, ls, st, h) (pc + 1, ls, .float x :: st, h) :=
  gm_go_st fun G p l e R s m args below meth c C ws H locs A stC cells slots Q hW hl hs kk => by
    obtain ⟨y, h1, h2⟩ := hl.2.2 _ _ hv
    cases h1
    exact lv_fload_n C.1 C.2.1 hd rfl h2 (kk _ ⟨_, _, rfl, rfl, hs⟩)
theorem gm_fload {M : gm_M} {d pc : Nat} {ls : List (Option Value)} {st : List Value} {h : gm_H} {i : Nat} {x : UInt32} (hd : decode M.2.1 pc = .ok (.fload i, 2)) (hv : ls[i]? = some (some (.float x))) : gm_go M d (pc, ls, st, h) (pc + 2, ls, .float x :: st, h) :=
  gm_go_st fun G p l e R s m args below meth c C ws H locs A stC cells slots Q hW hl hs kk => by
    obtain ⟨y, h1, h2⟩ := hl.2.2 _ _ hv
    cases h1
    exact lv_fload C.1 C.2.1 hd h2 (kk _ ⟨_, _, rfl, rfl, hs⟩)
theorem gm_dload_n {M : gm_M} {d pc : Nat} {ls : List (Option Value)} {st : List Value} {h : gm_H} {k : Fin 4} {x : UInt64} (hd : decode M.2.1 pc = .ok (.dload_n k, 1)) (hv : ls[(k : Nat)]? = some (some (.double x))) : gm_go M d (pc, ls, st, h) (pc + 1, ls, .double x :: st, h) :=
  gm_go_st fun G p l e R s m args below meth c C ws H locs A stC cells slots Q hW hl hs kk => by
    obtain ⟨y, h1, h2⟩ := hl.2.2 _ _ hv
    cases h1
    exact lv_dload_n C.1 C.2.1 hd rfl h2 (kk _ ⟨_, _, rfl, rfl, hs⟩)
theorem gm_dload {M : gm_M} {d pc : Nat} {ls : List (Option Value)} {st : List Value} {h : gm_H} {i : Nat} {x : UInt64} (hd : decode M.2.1 pc = .ok (.dload i, 2)) (hv : ls[i]? = some (some (.double x))) : gm_go M d (pc, ls, st, h) (pc + 2, ls, .double x :: st, h) :=
  gm_go_st fun G p l e R s m args below meth c C ws H locs A stC cells slots Q hW hl hs kk => by
    obtain ⟨y, h1, h2⟩ := hl.2.2 _ _ hv
    cases h1
    exact lv_dload C.1 C.2.1 hd h2 (kk _ ⟨_, _, rfl, rfl, hs⟩)
theorem gm_isref {G : gm_G} {ws : va_W} {v w : Value} (h : gm_v G ws v w) (g : (∃ k, v = .ref k) ∨ ∃ k, v = .retAddr k) : (∃ a, w = .ref a) ∨ w = .null := by
  rcases g with ⟨k, rfl⟩ | ⟨k, rfl⟩
  · obtain ⟨q, -, rfl⟩ := h; exact Or.inl ⟨_, rfl⟩
  · have h1 : w = gm_kk G k := h
    unfold gm_kk at h1
    split at h1
    · exact Or.inr h1
    · exact Or.inl ⟨_, h1⟩
theorem gm_aload_n {M : gm_M} {d pc : Nat} {ls : List (Option Value)} {st : List Value} {h : gm_H} {k : Fin 4} {v : Value} (hd : decode M.2.1 pc = .ok (.aload_n k, 1)) (hv : ls[(k : Nat)]? = some (some v)) (hr : (∃ k, v = .ref k) ∨ ∃ k, v = .retAddr k) : gm_go M d (pc, ls, st, h) (pc + 1, ls, v :: st, h) :=
  gm_go_st fun G p l e R s m args below meth c C ws H locs A stC cells slots Q hW hl hs kk => by
    obtain ⟨y, h1, h2⟩ := hl.2.2 _ _ hv
    rcases gm_isref h1 hr with ⟨a, rfl⟩ | rfl
    · exact lv_aload_n C.1 C.2.1 hd rfl h2 (kk _ ⟨_, _, rfl, h1, hs⟩)
    · exact lv_aload_nN C.1 C.2.1 hd rfl h2 (kk _ ⟨_, _, rfl, h1, hs⟩)
theorem gm_aload {M : gm_M} {d pc : Nat} {ls : List (Option Value)} {st : List Value} {h : gm_H} {i : Nat} {v : Value} (hd : decode M.2.1 pc = .ok (.aload i, 2)) (hv : ls[i]? = some (some v)) (hr : (∃ k, v = .ref k) ∨ ∃ k, v = .retAddr k) : gm_go M d (pc, ls, st, h) (pc + 2, ls, v :: st, h) :=
  gm_go_st fun G p l e R s m args below meth c C ws H locs A stC cells slots Q hW hl hs kk => by
    obtain ⟨y, h1, h2⟩ := hl.2.2 _ _ hv
    rcases gm_isref h1 hr with ⟨a, rfl⟩ | rfl
    · exact lv_aload C.1 C.2.1 hd h2 (kk _ ⟨_, _, rfl, h1, hs⟩)
    · exact lv_aloadN C.1 C.2.1 hd h2 (kk _ ⟨_, _, rfl, h1, hs⟩)
/-! the locals written -/
def gm_k1 (o : Option Value) : Option Value := match o with
  | some (.long _) => none
  | some (.double _) => none
  | o => o
def gm_s1 : List (Option Value) → Nat → Value → List (Option Value)
  | [], _, _ => []
  | _ :: r, 0, v => some v :: r
  | o :: r, 1, v => gm_k1 o :: gm_s1 r 0 v
  | o :: r, i + 2, v => o :: gm_s1 r (i + 1) v
def gm_kn (l : List (Option Value)) : List (Option Value) := match l with
  | [] => []
  | _ :: r => none :: r
def gm_s2 : List (Option Value) → Nat → Value → List (Option Value)
  | [], _, _ => []
  | _ :: r, 0, v => some v :: gm_kn r
  | o :: r, 1, v => gm_k1 o :: gm_s2 r 0 v
  | o :: r, i + 2, v => o :: gm_s2 r (i + 1) v
theorem gm_k1_some {o : Option Value} {u : Value} (h : gm_k1 o = some u) : o = some u ∧ ¬ u.category = 2 := by
  cases o with
  | none => cases h
  | some x => cases x <;> first | (cases h; done) | (cases h; exact ⟨rfl, by decide⟩) | (have := Option.some.inj h; subst this; exact ⟨rfl, by simp [Value.category]⟩)
theorem gm_s1_get {v u : Value} : ∀ {ls : List (Option Value)} {i j : Nat}, (gm_s1 ls i v)[j]? = some (some u) → (j = i ∧ u = v) ∨ (j ≠ i ∧ ls[j]? = some (some u) ∧ (j + 1 = i → ¬ u.category = 2)) := by
  intro ls
  induction ls with
  | nil => intro i j h; simp [gm_s1] at h
  | cons o r ih =>
    intro i j h
    match i, h with
    | 0, h =>
      cases j with
      | zero => simp only [gm_s1, List.getElem?_cons_zero, Option.some.injEq] at h; exact Or.inl ⟨rfl, h.symm⟩
      | succ j => exact Or.inr ⟨by omega, by simpa [gm_s1] using h, fun q => by omega⟩
    | 1, h =>
      cases j with
      | zero =>
        simp only [gm_s1, List.getElem?_cons_zero, Option.some.injEq] at h
        obtain ⟨h1, h2⟩ := gm_k1_some h
        exact Or.inr ⟨by omega, by rw [h1]; rfl, fun _ => h2⟩
      | succ j =>
        simp only [gm_s1, List.getElem?_cons_succ] at h
        rcases ih h with ⟨h1, h2⟩ | ⟨h1, h2, h3⟩
        · exact Or.inl ⟨by omega, h2⟩
        · exact Or.inr ⟨by omega, by simpa using h2, fun q => by omega⟩
    | i + 2, h =>
      cases j with
      | zero => exact Or.inr ⟨by omega, by simpa [gm_s1] using h, fun q => by omega⟩
      | succ j =>
        simp only [gm_s1, List.getElem?_cons_succ] at h
        rcases ih h with ⟨h1, h2⟩ | ⟨h1, h2, h3⟩
        · exact Or.inl ⟨by omega, h2⟩
        · exact Or.inr ⟨by omega, by simpa using h2, fun q => h3 (by omega)⟩
theorem gm_s2_get {v u : Value} : ∀ {ls : List (Option Value)} {i j : Nat}, (gm_s2 ls i v)[j]? = some (some u) → (j = i ∧ u = v) ∨ (j ≠ i ∧ j ≠ i + 1 ∧ ls[j]? = some (some u) ∧ (j + 1 = i → ¬ u.category = 2)) := by
  intro ls
  induction ls with
  | nil => intro i j h; simp [gm_s2] at h
  | cons o r ih =>
    intro i j h
    match i, h with
    | 0, h =>
      match j, h with
      | 0, h => simp only [gm_s2, List.getElem?_cons_zero, Option.some.injEq] at h; exact Or.inl ⟨rfl, h.symm⟩
      | 1, h =>
        simp only [gm_s2, List.getElem?_cons_succ] at h
        cases r with
        | nil => simp [gm_kn] at h
        | cons a r => simp [gm_kn] at h
      | j + 2, h =>
        simp only [gm_s2, List.getElem?_cons_succ] at h
        cases r with
        | nil => simp [gm_kn] at h
        | cons a r =>
          simp only [gm_kn, List.getElem?_cons_succ] at h
          exact Or.inr ⟨by omega, by omega, by simpa using h, fun q => by omega⟩
    | 1, h =>
      cases j with
      | zero =>
        simp only [gm_s2, List.getElem?_cons_zero, Option.some.injEq] at h
        obtain ⟨h1, h2⟩ := gm_k1_some h
        exact Or.inr ⟨by omega, by omega, by rw [h1]; rfl, fun _ => h2⟩
      | succ j =>
        simp only [gm_s2, List.getElem?_cons_succ] at h
        rcases ih h with ⟨h1, h2⟩ | ⟨h1, h1b, h2, h3⟩
        · exact Or.inl ⟨by omega, h2⟩
        · exact Or.inr ⟨by omega, by omega, by simpa using h2, fun q => by omega⟩
    | i + 2, h =>
      cases j with
      | zero => exact Or.inr ⟨by omega, by omega, by simpa [gm_s2] using h, fun q => by omega⟩
      | succ j =>
        simp only [gm_s2, List.getElem?_cons_succ] at h
        rcases ih h with ⟨h1, h2⟩ | ⟨h1, h1b, h2, h3⟩
        · exact Or.inl ⟨by omega, h2⟩
        · exact Or.inr ⟨by omega, by omega, by simpa using h2, fun q => h3 (by omega)⟩
def gm_sv (x : Option Slot) (i : Nat) : Option (Nat × Value) := match x with
  | some (.val w) => some (i, w)
  | _ => none
/-- all that the locals hold -/
def gm_fu (A : Array Slot) : List (Nat × Value) := (List.range A.size).filterMap (fun i => gm_sv A[i]? i)
theorem gm_fu_in {A : Array Slot} {i : Nat} {w : Value} (h : A[i]? = some (.val w)) : (i, w) ∈ gm_fu A := by
  refine List.mem_filterMap.mpr ⟨i, List.mem_range.mpr (Array.getElem?_eq_some_iff.mp h).1, ?_⟩
  rw [h]; rfl
theorem gm_fu_has {G : gm_G} {ws : va_W} {nL : Nat} {ls : List (Option Value)} {A : Array Slot} (h : gm_ls G ws nL ls A) : lv_has A nL (gm_fu A) := by
  refine ⟨h.1, h.2.1, fun q hq => ?_⟩
  obtain ⟨i, -, hi⟩ := List.mem_filterMap.mp hq
  cases hA : A[i]? with
  | none => rw [hA] at hi; cases hi
  | some x =>
    rw [hA] at hi
    cases x with
    | val w => cases hi; exact hA
    | _ => cases hi
theorem gm_ls_s1 {G : gm_G} {ws : va_W} {nL i : Nat} {ls : List (Option Value)} {A A' : Array Slot} {v w : Value} (h : gm_ls G ws nL ls A) (hv : gm_v G ws v w) (h' : lv_has A' nL ((i, w) :: (gm_fu A).filter (fun q => !(q.1 == i) && !(q.1 + 1 == i && q.2.category == 2)))) : gm_ls G ws nL (gm_s1 ls i v) A' := by
  refine ⟨h'.1, h'.2.1, fun j u hj => ?_⟩
  rcases gm_s1_get hj with ⟨rfl, rfl⟩ | ⟨h1, h2, h3⟩
  · exact ⟨w, hv, h'.2.2 (j, w) List.mem_cons_self⟩
  · obtain ⟨x, q1, q2⟩ := h.2.2 j u h2
    refine ⟨x, q1, h'.2.2 (j, x) (List.mem_cons_of_mem _ (List.mem_filter.mpr ⟨gm_fu_in q2, ?_⟩))⟩
    have hcat := gm_v_cat q1
    by_cases q9 : j + 1 = i
    · have := h3 q9
      simp [h1, hcat, this]
    · simp [h1, q9]
theorem gm_ls_s2 {G : gm_G} {ws : va_W} {nL i : Nat} {ls : List (Option Value)} {A A' : Array Slot} {v w : Value} (h : gm_ls G ws nL ls A) (hv : gm_v G ws v w) (h' : lv_has A' nL ((i, w) :: (gm_fu A).filter (fun q => !(q.1 == i) && (!(q.1 == i + 1) && !(q.1 + 1 == i && q.2.category == 2))))) : gm_ls G ws nL (gm_s2 ls i v) A' := by
  refine ⟨h'.1, h'.2.1, fun j u hj => ?_⟩
  rcases gm_s2_get hj with ⟨rfl, rfl⟩ | ⟨h1, h1b, h2, h3⟩
  · exact ⟨w, hv, h'.2.2 (j, w) List.mem_cons_self⟩
  · obtain ⟨x, q1, q2⟩ := h.2.2 j u h2
    refine ⟨x, q1, h'.2.2 (j, x) (List.mem_cons_of_mem _ (List.mem_filter.mpr ⟨gm_fu_in q2, ?_⟩))⟩
    have hcat := gm_v_cat q1
    by_cases q9 : j + 1 = i
    · have := h3 q9
      simp [h1, h1b, hcat, this]
    · simp [h1, h1b, q9]
theorem gm_istore_n {M : gm_M} {d pc : Nat} {ls : List (Option Value)} {st : List Value} {h : gm_H} {k : Fin 4} {x : Int32} {ls' : List (Option Value)} (hd : decode M.2.1 pc = .ok (.istore_n k, 1)) (hn : (k : Nat) < M.2.2.1) (he : gm_s1 ls (k : Nat) (.int x) = ls') : gm_go M d (pc, ls, .int x :: st, h) (pc + 1, ls', st, h) :=
  gm_go_of fun G p l e R s m args below meth c C ws H locs A stC cells slots Q hW hl hs kk => by
    subst he
    obtain ⟨_, _, rfl, rfl, hs⟩ := hs
    exact lv_istore_n C.1 C.2.1 hd rfl (gm_fu_has hl) hn rfl (fun A' hA => kk _ _ (gm_ls_s1 hl rfl hA) hs)
theorem gm_istore {M : gm_M} {d pc : Nat} {ls : List (Option Value)} {st : List Value} {h : gm_H} {i : Nat} {x : Int32} {ls' : List (Option Value)} (hd : decode M.2.1 pc = .ok (.istore i, 2)) (hn : i < M.2.2.1) (he : gm_s1 ls i (.int x) = ls') : gm_go M d (pc, ls, .int x :: st, h) (pc + 2, ls', st, h) :=
  gm_go_of fun G p l e R s m args below meth c C ws H locs A stC cells slots Q hW hl hs kk => by
    subst he
    obtain ⟨_, _, rfl, rfl, hs⟩ := hs
    exact lv_istore C.1 C.2.1 hd (gm_fu_has hl) hn rfl (fun A' hA => kk _ _ (gm_ls_s1 hl rfl hA) hs)
theorem gm_lstore_n {M : gm_M} {d pc : Nat} {ls : List (Option Value)} {st : List Value} {h : gm_H} {k : Fin 4} {x : Int64} {ls' : List (Option Value)} (hd : decode M.2.1 pc = .ok (.lstore_n k, 1)) (hn : (k : Nat) + 1 < M.2.2.1) (he : gm_s2 ls (k : Nat) (.long x) = ls') : gm_go M d (pc, ls, .long x :: st, h) (pc + 1, ls', st, h) :=
  gm_go_of fun G p l e R s m args below meth c C ws H locs A stC cells slots Q hW hl hs kk => by
    subst he
    obtain ⟨_, _, rfl, rfl, hs⟩ := hs
    exact lv_lstore_n C.1 C.2.1 hd rfl (gm_fu_has hl) hn rfl (fun A' hA => kk _ _ (gm_ls_s2 hl rfl hA) hs)
theorem gm_lstore {M : gm_M} {d pc : Nat} {ls : List (Option Value)} {st : List Value} {h : gm_H} {i : Nat} {x : Int64} {ls' : List (Option Value)} (hd : decode M.2.1 pc = .ok (.lstore i, 2)) (hn : i + 1 < M.2.2.1) (he : gm_s2 ls i (.long x) = ls') : gm_go M d (pc, ls, .long x :: st, h) (pc + 2, ls', st, h) :=
  gm_go_of fun G p l e R s m args below meth c C ws H locs A stC cells slots Q hW hl hs kk => by
    subst he
    obtain ⟨_, _, rfl, rfl, hs⟩ := hs
    exact lv_lstore C.1 C.2.1 hd (gm_fu_has hl) hn rfl (fun A' hA => kk _ _ (gm_ls_s2 hl rfl hA) hs)
theorem gm_fstore_n {M : gm_M} {d pc : Nat} {ls : List (Option Value)} {st : List Value} {h : gm_H} {k : Fin 4} {x : UInt32} {ls' : List (Option Value)} (hd : decode M.2.1 pc = .ok (.fstore_n k, 1)) (hn : (k : Nat) < M.2.2.1) (he : gm_s1 ls (k : Nat) (.float x) = ls') : gm_go M d (pc, ls, .float x :: st, h) (pc + 1, ls', st, h) :=
  gm_go_of fun G p l e R s m args below meth c C ws H locs A stC cells slots Q hW hl hs kk => by
    subst he
    obtain ⟨_, _, rfl, rfl, hs⟩ := hs
    exact lv_fstore_n C.1 C.2.1 hd rfl (gm_fu_has hl) hn rfl (fun A' hA => kk _ _ (gm_ls_s1 hl rfl hA) hs)
theorem gm_fstore {M : gm_M} {d pc : Nat} {ls : List (Option Value)} {st : List Value} {h : gm_H} {i : Nat} {x : UInt32} {ls' : List (Option Value)} (hd : decode M.2.1 pc = .ok (.fstore i, 2)) (hn : i < M.2.2.1) (he : gm_s1 ls i (.float x) = ls') : gm_go M d (pc, ls, .float x :: st, h) (pc + 2, ls', st, h) :=
  gm_go_of fun G p l e R s m args below meth c C ws H locs A stC cells slots Q hW hl hs kk => by
    subst he
    obtain ⟨_, _, rfl, rfl, hs⟩ := hs
    exact lv_fstore C.1 C.2.1 hd (gm_fu_has hl) hn rfl (fun A' hA => kk _ _ (gm_ls_s1 hl rfl hA) hs)
theorem gm_dstore_n {M : gm_M} {d pc : Nat} {ls : List (Option Value)} {st : List Value} {h : gm_H} {k : Fin 4} {x : UInt64} {ls' : List (Option Value)} (hd : decode M.2.1 pc = .ok (.dstore_n k, 1)) (hn : (k : Nat) + 1 < M.2.2.1) (he : gm_s2 ls (k : Nat) (.double x) = ls') : gm_go M d (pc, ls, .double x :: st, h) (pc + 1, ls', st, h) :=
  gm_go_of fun G p l e R s m args below meth c C ws H locs A stC cells slots Q hW hl hs kk => by
    subst he
    obtain ⟨_, _, rfl, rfl, hs⟩ := hs
    exact lv_dstore_n C.1 C.2.1 hd rfl (gm_fu_has hl) hn rfl (fun A' hA => kk _ _ (gm_ls_s2 hl rfl hA) hs)
theorem gm_dstore {M : gm_M} {d pc : Nat} {ls : List (Option Value)} {st : List Value} {h : gm_H} {i : Nat} {x : UInt64} {ls' : List (Option Value)} (hd : decode M.2.1 pc = .ok (.dstore i, 2)) (hn : i + 1 < M.2.2.1) (he : gm_s2 ls i (.double x) = ls') : gm_go M d (pc, ls, .double x :: st, h) (pc + 2, ls', st, h) :=
  gm_go_of fun G p l e R s m args below meth c C ws H locs A stC cells slots Q hW hl hs kk => by
    subst he
    obtain ⟨_, _, rfl, rfl, hs⟩ := hs
    exact lv_dstore C.1 C.2.1 hd (gm_fu_has hl) hn rfl (fun A' hA => kk _ _ (gm_ls_s2 hl rfl hA) hs)
theorem gm_astore_n {M : gm_M} {d pc : Nat} {ls : List (Option Value)} {st : List Value} {h : gm_H} {k : Fin 4} {v : Value} {ls' : List (Option Value)} (hd : decode M.2.1 pc = .ok (.astore_n k, 1)) (hr : (∃ k, v = .ref k) ∨ ∃ k, v = .retAddr k) (hn : (k : Nat) < M.2.2.1) (he : gm_s1 ls (k : Nat) v = ls') : gm_go M d (pc, ls, v :: st, h) (pc + 1, ls', st, h) :=
  gm_go_of fun G p l e R s m args below meth c C ws H locs A stC cells slots Q hW hl hs kk => by
    subst he
    obtain ⟨_, _, rfl, hv, hs⟩ := hs
    rcases gm_isref hv hr with ⟨a, rfl⟩ | rfl
    · exact lv_astore_n C.1 C.2.1 hd rfl (gm_fu_has hl) hn rfl (fun A' hA => kk _ _ (gm_ls_s1 hl hv hA) hs)
    · exact lv_astore_nN C.1 C.2.1 hd rfl (gm_fu_has hl) hn rfl (fun A' hA => kk _ _ (gm_ls_s1 hl hv hA) hs)
theorem gm_astore {M : gm_M} {d pc : Nat} {ls : List (Option Value)} {st : List Value} {h : gm_H} {i : Nat} {v : Value} {ls' : List (Option Value)} (hd : decode M.2.1 pc = .ok (.astore i, 2)) (hr : (∃ k, v = .ref k) ∨ ∃ k, v = .retAddr k) (hn : i < M.2.2.1) (he : gm_s1 ls i v = ls') : gm_go M d (pc, ls, v :: st, h) (pc + 2, ls', st, h) :=
  gm_go_of fun G p l e R s m args below meth c C ws H locs A stC cells slots Q hW hl hs kk => by
    subst he
    obtain ⟨_, _, rfl, hv, hs⟩ := hs
    rcases gm_isref hv hr with ⟨a, rfl⟩ | rfl
    · exact lv_astore C.1 C.2.1 hd (gm_fu_has hl) hn rfl (fun A' hA => kk _ _ (gm_ls_s1 hl hv hA) hs)
    · exact lv_astoreN C.1 C.2.1 hd (gm_fu_has hl) hn rfl (fun A' hA => kk _ _ (gm_ls_s1 hl hv hA) hs)
theorem gm_iinc {M : gm_M} {d pc : Nat} {ls : List (Option Value)} {st : List Value} {h : gm_H} {i : Nat} {n : Int} {x y : Int32} {ls' : List (Option Value)} (hd : decode M.2.1 pc = .ok (.iinc i n, 3)) (hv : ls[i]? = some (some (.int x))) (hn : i < M.2.2.1) (hy : x + Int32.ofInt n = y) (he : gm_s1 ls i (.int y) = ls') : gm_go M d (pc, ls, st, h) (pc + 3, ls', st, h) :=
  gm_go_of fun G p l e R s m args below meth c C ws H locs A stC cells slots Q hW hl hs kk => by
    subst he
    obtain ⟨w, h1, h2⟩ := hl.2.2 _ _ hv
    cases h1
    obtain ⟨j, hj⟩ := List.getElem?_of_mem (gm_fu_in h2)
    exact lv_iinc C.1 C.2.1 hd (gm_fu_has hl) hj hy hn rfl (fun A' hA => kk _ _ (gm_ls_s1 hl rfl hA) hs)
/-! a body's ends -/
theorem gm_ends {M : gm_M} {d : Nat} {pc : Nat} {ls : List (Option Value)} {st : List Value} {h : gm_H} {v : Option Value}
    (a : ∀ (G : gm_G) (p : Program) (l : Launch) (e : Env) (R : Room) (s : State) (m : MethodId) (args : Array Value) (below : List Frame) (meth : Method) (c : Code), gm_C G M d p l e R s m args below meth c →
      ∀ (ws : va_W) (H : Heap) (locs : List Loc) (A : Array Slot) (stC : List Value) (cells slots : Nat) (Qc : Array Value → State → Outcome → State → Prop), gm_W G s ws h H locs → gm_ls G ws M.2.2.1 ls A → gm_st G ws st stC →
      (∀ q ∈ locs, gm_F G q.base) → (∀ (x : Option Value) (t : State), gm_ov G ws v x → t.heap = H → s.WarmedH t.vm → Qc args s (.returned x) t) →
      W p l e R s m args below meth c H locs cells slots (MQ below Qc args s cells slots (gm_F G)) (F0 m pc A stC)) : gm_ru M d (pc, ls, st, h) (.inl v) h := by
  refine ⟨⟨Nat.le_refl _, Nat.le_refl _⟩, ?_⟩
  intro G p l e R s m args below meth c C k0 s0 mc ms m1 m2 r1 r2 ws0 ws H locs A stC cells slots he hW hl hs e1 e2
  dsimp only at e1 e2 hW hl hs
  have : cells = mc := by omega
  subst this
  have : slots = ms := by omega
  subst this
  refine vx_ret (a G p l e R s m args below meth c C ws H locs A stC cells slots _ hW hl hs hW.2.2.2.2.2 ?_)
  intro x t hx ht hw
  exact ⟨⟨v, rfl, ws, x, he, hx, rfl, by rw [ht]; exact hW.1, hW.2.1, hW.2.2.1⟩, hW.2.2.2.F ht⟩
theorem gm_zret {M : gm_M} {d pc : Nat} {ls : List (Option Value)} {h : gm_H} {x : Int32} {ty : FieldType} (hd : decode M.2.1 pc = .ok (.ireturn, 1)) (hr : M.2.2.2.1 = some ty) (hn : narrow ty (.int x) = .int x) : gm_ru M d (pc, ls, [.int x], h) (.inl (some (.int x))) h :=
  gm_ends fun G p l e R s m args below meth c C ws H locs A stC cells slots Qc hW hl hs hf hq => by
    obtain ⟨_, _, rfl, rfl, rfl⟩ := hs
    exact W.zret C.1 C.2.1 (C.2.2.2.2.2.2.2.2.1.trans hr) hn (fun t ht hw => hq _ t ⟨_, rfl, rfl⟩ ht hw) hf hd C.2.2.2.2.2.2.1
theorem gm_iret {M : gm_M} {d pc : Nat} {ls : List (Option Value)} {h : gm_H} {x : Int32} (hd : decode M.2.1 pc = .ok (.ireturn, 1)) (hr : M.2.2.2.1 = some .int) : gm_ru M d (pc, ls, [.int x], h) (.inl (some (.int x))) h := gm_zret hd hr rfl
theorem gm_lret {M : gm_M} {d pc : Nat} {ls : List (Option Value)} {h : gm_H} {x : Int64} (hd : decode M.2.1 pc = .ok (.lreturn, 1)) (hr : M.2.2.2.1 = some .long) : gm_ru M d (pc, ls, [.long x], h) (.inl (some (.long x))) h :=
  gm_ends fun G p l e R s m args below meth c C ws H locs A stC cells slots Qc hW hl hs hf hq => by
    obtain ⟨_, _, rfl, rfl, rfl⟩ := hs
    exact W.lret C.1 C.2.1 (C.2.2.2.2.2.2.2.2.1.trans hr) (fun t ht hw => hq _ t ⟨_, rfl, rfl⟩ ht hw) hf hd C.2.2.2.2.2.2.1
theorem gm_fret {M : gm_M} {d pc : Nat} {ls : List (Option Value)} {h : gm_H} {x : UInt32} (hd : decode M.2.1 pc = .ok (.freturn, 1)) (hr : M.2.2.2.1 = some .float) : gm_ru M d (pc, ls, [.float x], h) (.inl (some (.float x))) h :=
  gm_ends fun G p l e R s m args below meth c C ws H locs A stC cells slots Qc hW hl hs hf hq => by
    obtain ⟨_, _, rfl, rfl, rfl⟩ := hs
    exact W.fret C.1 C.2.1 (C.2.2.2.2.2.2.2.2.1.trans hr) (fun t ht hw => hq _ t ⟨_, rfl, rfl⟩ ht hw) hf hd C.2.2.2.2.2.2.1
theorem gm_dret {M : gm_M} {d pc : Nat} {ls : List (Option Value)} {h : gm_H} {x : UInt64} (hd : decode M.2.1 pc = .ok (.dreturn, 1)) (hr : M.2.2.2.1 = some .double) : gm_ru M d (pc, ls, [.double x], h) (.inl (some (.double x))) h :=
  gm_ends fun G p l e R s m args below meth c C ws H locs A stC cells slots Qc hW hl hs hf hq => by
    obtain ⟨_, _, rfl, rfl, rfl⟩ := hs
    exact W.dret C.1 C.2.1 (C.2.2.2.2.2.2.2.2.1.trans hr) (fun t ht hw => hq _ t ⟨_, rfl, rfl⟩ ht hw) hf hd C.2.2.2.2.2.2.1
theorem gm_vret {M : gm_M} {d pc : Nat} {ls : List (Option Value)} {h : gm_H} (hd : decode M.2.1 pc = .ok (.return_, 1)) (hr : M.2.2.2.1 = none) : gm_ru M d (pc, ls, [], h) (.inl none) h :=
  gm_ends fun G p l e R s m args below meth c C ws H locs A stC cells slots Qc hW hl hs hf hq => by
    rw [show stC = [] from hs]
    exact W.vret C.1 C.2.1 (C.2.2.2.2.2.2.2.2.1.trans hr) (fun t ht hw => hq _ t rfl ht hw) hf hd C.2.2.2.2.2.2.1
theorem gm_aret {M : gm_M} {d pc : Nat} {ls : List (Option Value)} {h : gm_H} {v : Value} {rt : FieldType} (hd : decode M.2.1 pc = .ok (.areturn, 1)) (hr : M.2.2.2.1 = some rt) (hrt : (∃ n, rt = .object n) ∨ ∃ t, rt = .array t) (hv : (∃ k, v = .ref k) ∨ ∃ k, v = .retAddr k) : gm_ru M d (pc, ls, [v], h) (.inl (some v)) h :=
  gm_ends fun G p l e R s m args below meth c C ws H locs A stC cells slots Qc hW hl hs hf hq => by
    obtain ⟨_, _, rfl, h1, rfl⟩ := hs
    exact W.aret C.1 C.2.1 (C.2.2.2.2.2.2.2.2.1.trans hr) hrt ((gm_isref h1 hv).symm) (fun t ht hw => hq _ t ⟨_, rfl, h1⟩ ht hw) hf hd C.2.2.2.2.2.2.1
