/-! the constant things read -/
def gm_sl (M : gm_M) (index : Nat) (Cn n dd : String) : Prop := Cond.fieldLink M.1.cls index Cn n dd ∈ gm_big ∨ ∃ host, Cond.fieldLinkNest M.1.cls index Cn n dd host ∈ gm_big
theorem gm_gets {M : gm_M} {d pc : Nat} {ls : List (Option Value)} {st : List Value} {h : gm_H} {index : Nat} {Cn n dd : String} {v : Value} (hd : decode M.2.1 pc = .ok (.getstatic index, 3)) (hz : (Cn, n, dd, v) ∈ gm_Kz) (hl9 : gm_sl M index Cn n dd) (hv : gm_kv v = true) : gm_go M d (pc, ls, st, h) (pc + 3, ls, v :: st, h) :=
  gm_go_st fun G p l e R s m args below meth c C ws H locs A stC cells slots Q hW hl hs kk => by
    have hZ := (gm_Ckc C).1 _ hz
    rcases hl9 with h9 | ⟨host, h9⟩
    · exact va_gets C.1 C.2.1 hZ hW.2.2.2 C.2.2.2.1 (gm_Ct C _ h9) (fun _ h => h) hd (kk _ ⟨_, _, rfl, gm_k_v G ws hv, hs⟩)
    · exact va_getsN C.1 C.2.1 hZ hW.2.2.2 C.2.2.2.1 (gm_Ct C _ h9) (fun _ h => h) hd (kk _ ⟨_, _, rfl, gm_k_v G ws hv, hs⟩)
theorem gm_getsq {M : gm_M} {d pc : Nat} {ls : List (Option Value)} {st : List Value} {h : gm_H} {index : Nat} {Cn n dd : String} (hd : decode M.2.1 pc = .ok (.getstatic index, 3)) (hz : (Cn, n, dd) ∈ gm_Kq) (hl9 : Cond.fieldLink M.1.cls index Cn n dd ∈ gm_big) : gm_go M d (pc, ls, st, h) (pc + 3, ls, .null :: st, h) :=
  gm_go_st fun G p l e R s m args below meth c C ws H locs A stC cells slots Q hW hl hs kk => by
    rcases (gm_Ckc C).2.2.2.2.2.1 _ hz with hZ | ⟨t, hZ⟩
    · exact va_gets C.1 C.2.1 hZ hW.2.2.2 C.2.2.2.1 (gm_Ct C _ hl9) (fun _ h => h) hd (kk _ ⟨_, _, rfl, Or.inl rfl, hs⟩)
    · exact va_gets C.1 C.2.1 hZ hW.2.2.2 C.2.2.2.1 (gm_Ct C _ hl9) (fun _ h => h) hd (kk _ ⟨_, _, rfl, Or.inr ⟨t, rfl⟩, hs⟩)
theorem gm_Kf_998 : ∀ z ∈ gm_Kf, z.1 ≠ 998 := by decide +kernel
theorem gm_Kr_998 : ∀ z ∈ gm_Kr, z.2.2.2 ≠ 998 := by decide +kernel
theorem gm_Kb_998 : ∀ z ∈ gm_Kb, z.1 ≠ 998 := by decide +kernel
theorem gm_Ka_998 : ∀ z ∈ gm_Ka, z.1 ≠ 998 := by
  intro z hz
  rcases List.mem_cons.mp hz with rfl | hz
  · decide
  rcases List.mem_cons.mp hz with rfl | hz
  · decide
  rcases List.mem_cons.mp hz with rfl | hz
  · decide
  obtain ⟨y, hy, rfl⟩ := List.mem_map.mp hz
  exact gm_Kb_998 y hy
theorem gm_getk {M : gm_M} {d pc : Nat} {ls : List (Option Value)} {st : List Value} {h : gm_H} {index k : Nat} {Cn n dd : String} {v : Value} (hd : decode M.2.1 pc = .ok (.getfield index, 3)) (hz : (k, Cn, n, dd, v) ∈ gm_Kf) (hl9 : gm_sl M index Cn n dd) (hv : gm_kv v = true) : gm_go M d (pc, ls, .retAddr k :: st, h) (pc + 3, ls, v :: st, h) :=
  gm_go_st fun G p l e R s m args below meth c C ws H locs A stC cells slots Q hW hl hs kk => by
    obtain ⟨_, _, rfl, rfl, hs⟩ := hs
    rw [gm_kk_r (gm_Kf_998 _ hz)]
    have hZ := (gm_Ckc C).2.1 _ hz
    rcases hl9 with h9 | ⟨host, h9⟩
    · exact vk_getf C.1 C.2.1 hZ hW.2.2.2 C.2.2.2.1 (gm_Ct C _ h9) (fun _ h => h) hd (kk _ ⟨_, _, rfl, gm_k_v G ws hv, hs⟩)
    · obtain ⟨cf, k9, i9, f9, cell, g1, g2, g3, g4, g5, -⟩ := va_OF.kept hZ hW.2.2.2.2.1
      exact va_Wgetf (g := F0 m pc A _) C.1 C.2.1 C.2.2.2.1 (gm_Ct C _ h9) g1 g2 g3 g4 g5 rfl rfl hd (kk _ ⟨_, _, rfl, gm_k_v G ws hv, hs⟩)
theorem gm_ki {M : gm_M} {d pc : Nat} {ls : List (Option Value)} {st : List Value} {h : gm_H} {k n : Nat} {i : Int32} {f : Nat → Value} (hd : decode M.2.1 pc = .ok (.iaload, 1)) (hz : (k, .int, n, f) ∈ gm_Ka) (hin : vp_in i n) (hv : gm_kv (f i.toNatClampNeg) = true) : gm_go M d (pc, ls, .int i :: .retAddr k :: st, h) (pc + 1, ls, f i.toNatClampNeg :: st, h) :=
  gm_go_st fun G p l e R s m args below meth c C ws H locs A stC cells slots Q hW hl hs kk => by
    obtain ⟨_, _, rfl, rfl, _, _, rfl, rfl, hs⟩ := hs
    rw [gm_kk_r (gm_Ka_998 _ hz)]
    exact va_ti C.1 C.2.1 ((gm_Ckc C).2.2.2.1 _ hz) hW.2.2.2 hin rfl hd (kk _ ⟨_, _, rfl, gm_k_v G ws hv, hs⟩)
theorem gm_kb {M : gm_M} {d pc : Nat} {ls : List (Option Value)} {st : List Value} {h : gm_H} {k n : Nat} {i : Int32} {f : Nat → Value} (hd : decode M.2.1 pc = .ok (.baload, 1)) (hz : (k, .byte, n, f) ∈ gm_Ka) (hin : vp_in i n) (hv : gm_kv (f i.toNatClampNeg) = true) : gm_go M d (pc, ls, .int i :: .retAddr k :: st, h) (pc + 1, ls, f i.toNatClampNeg :: st, h) :=
  gm_go_st fun G p l e R s m args below meth c C ws H locs A stC cells slots Q hW hl hs kk => by
    obtain ⟨_, _, rfl, rfl, _, _, rfl, rfl, hs⟩ := hs
    rw [gm_kk_r (gm_Ka_998 _ hz)]
    exact va_tb C.1 C.2.1 ((gm_Ckc C).2.2.2.1 _ hz) hW.2.2.2 hin rfl hd (kk _ ⟨_, _, rfl, gm_k_v G ws hv, hs⟩)
theorem gm_kq {M : gm_M} {d pc : Nat} {ls : List (Option Value)} {st : List Value} {h : gm_H} {k n : Nat} {i : Int32} {Cn : String} {f : Nat → Value} (hd : decode M.2.1 pc = .ok (.aaload, 1)) (hz : (k, .object Cn, n, f) ∈ gm_Ka) (hin : vp_in i n) (hv : gm_kv (f i.toNatClampNeg) = true) : gm_go M d (pc, ls, .int i :: .retAddr k :: st, h) (pc + 1, ls, f i.toNatClampNeg :: st, h) :=
  gm_go_st fun G p l e R s m args below meth c C ws H locs A stC cells slots Q hW hl hs kk => by
    obtain ⟨_, _, rfl, rfl, _, _, rfl, rfl, hs⟩ := hs
    rw [gm_kk_r (gm_Ka_998 _ hz)]
    exact vb_tq C.1 C.2.1 ((gm_Ckc C).2.2.2.1 _ hz) hW.2.2.2 hin rfl hd (kk _ ⟨_, _, rfl, gm_k_v G ws hv, hs⟩)
theorem gm_klen {M : gm_M} {d pc : Nat} {ls : List (Option Value)} {st : List Value} {h : gm_H} {k n : Nat} {x : Int32} {ty : FieldType} {f : Nat → Value} (hd : decode M.2.1 pc = .ok (.arraylength, 1)) (hz : (k, ty, n, f) ∈ gm_Ka) (hv : Int32.ofNat n = x) : gm_go M d (pc, ls, .retAddr k :: st, h) (pc + 1, ls, .int x :: st, h) :=
  gm_go_st fun G p l e R s m args below meth c C ws H locs A stC cells slots Q hW hl hs kk => by
    obtain ⟨_, _, rfl, rfl, hs⟩ := hs
    rw [gm_kk_r (gm_Ka_998 _ hz)]
    exact va_tlen C.1 C.2.1 ((gm_Ckc C).2.2.2.1 _ hz) hW.2.2.2 hv hd (kk _ ⟨_, _, rfl, rfl, hs⟩)
theorem gm_ldci {M : gm_M} {d pc : Nat} {ls : List (Option Value)} {st : List Value} {h : gm_H} {index : Nat} {v : Int32} (hd : decode M.2.1 pc = .ok (.ldc index, 2)) (hw : Cond.constant M.1.cls index v ∈ gm_big) : gm_go M d (pc, ls, st, h) (pc + 2, ls, .int v :: st, h) :=
  gm_go_st fun G p l e R s m args below meth c C ws H locs A stC cells slots Q hW hl hs kk => lv_ldc C.1 C.2.1 C.2.2.2.1 (gm_Ct C _ hw) hd (kk _ ⟨_, _, rfl, rfl, hs⟩)
theorem gm_ldcw {M : gm_M} {d pc : Nat} {ls : List (Option Value)} {st : List Value} {h : gm_H} {index : Nat} {v : Int32} (hd : decode M.2.1 pc = .ok (.ldc_w index, 3)) (hw : Cond.constant M.1.cls index v ∈ gm_big) : gm_go M d (pc, ls, st, h) (pc + 3, ls, .int v :: st, h) :=
  gm_go_st fun G p l e R s m args below meth c C ws H locs A stC cells slots Q hW hl hs kk => lv_ldcw C.1 C.2.1 C.2.2.2.1 (gm_Ct C _ hw) hd (kk _ ⟨_, _, rfl, rfl, hs⟩)
theorem gm_ldc2 {M : gm_M} {d pc : Nat} {ls : List (Option Value)} {st : List Value} {h : gm_H} {index : Nat} {v : Int64} (hd : decode M.2.1 pc = .ok (.ldc2_w index, 3)) (hw : Cond.constantLong M.1.cls index v ∈ gm_big) : gm_go M d (pc, ls, st, h) (pc + 3, ls, .long v :: st, h) :=
  gm_go_st fun G p l e R s m args below meth c C ws H locs A stC cells slots Q hW hl hs kk => lv_ldc2 C.1 C.2.1 C.2.2.2.1 (gm_Ct C _ hw) hd (kk _ ⟨_, _, rfl, rfl, hs⟩)
theorem gm_ldcs {M : gm_M} {d pc : Nat} {ls : List (Option Value)} {st : List Value} {h : gm_H} {index k : Nat} {tx : String} (hd : decode M.2.1 pc = .ok (.ldc index, 2)) (hz : (M.1.cls, index, tx, k) ∈ gm_Kr) : gm_go M d (pc, ls, st, h) (pc + 2, ls, .retAddr k :: st, h) :=
  gm_go_st fun G p l e R s m args below meth c C ws H locs A stC cells slots Q hW hl hs kk => va_ldcS C.1 C.2.1 C.2.2.2.1 ((gm_Ckc C).2.2.2.2.1 _ hz) hd (kk _ ⟨_, _, rfl, (gm_kk_r (gm_Kr_998 _ hz)).symm, hs⟩)
theorem gm_ifnonnull {M : gm_M} {d pc : Nat} {ls : List (Option Value)} {st : List Value} {h : gm_H} {v : Value} {off : Int} {tgt : Nat} (hd : decode M.2.1 pc = .ok (.ifnonnull off, 3)) (ht : (pc : Int) + off = (tgt : Int)) (hv : (∃ k, v = .ref k) ∨ ∃ k, v = .retAddr k) (hv2 : v ≠ .retAddr 998) : gm_go M d (pc, ls, v :: st, h) (tgt, ls, st, h) :=
  gm_go_st fun G p l e R s m args below meth c C ws H locs A stC cells slots Q hW hl hs kk => by
    obtain ⟨_, _, rfl, h1, hs⟩ := hs
    rcases hv with ⟨k, rfl⟩ | ⟨k, rfl⟩
    · obtain ⟨q, -, rfl⟩ := h1
      exact lv_ifnonnull C.1 C.2.1 hd ht (kk _ hs)
    · rw [show _ = gm_kk G k from h1, gm_kk_r (fun z => hv2 (by rw [z]))]
      exact lv_ifnonnull C.1 C.2.1 hd ht (kk _ hs)
theorem gm_acmp_eq_t {M : gm_M} {d pc : Nat} {ls : List (Option Value)} {st : List Value} {h : gm_H} {i : Nat} {off : Int} {tgt : Nat} (hd : decode M.2.1 pc = .ok (.if_acmp .eq off, 3)) (ht : (pc : Int) + off = (tgt : Int)) (hi9 : i ≠ 998 := by decide) : gm_go M d (pc, ls, .retAddr i :: .retAddr i :: st, h) (tgt, ls, st, h) :=
  gm_go_st fun G p l e R s m args below meth c C ws H locs A stC cells slots Q hW hl hs kk => by
    obtain ⟨_, _, rfl, rfl, _, _, rfl, rfl, hs⟩ := hs
    rw [gm_kk_r hi9]
    exact lv_acmp_eq (rx := some (gm_A G i)) (ry := some (gm_A G i)) C.1 C.2.1 hd ht (fun _ => kk _ hs) (fun z => absurd rfl z)
theorem gm_acmp_eq_f {M : gm_M} {d pc : Nat} {ls : List (Option Value)} {st : List Value} {h : gm_H} {i j : Nat} {off : Int} (tgt : Nat) (hd : decode M.2.1 pc = .ok (.if_acmp .eq off, 3)) (ht : (pc : Int) + off = (tgt : Int)) (hi : i < gm_Ne) (hj : j < gm_Ne) (hne : i ≠ j) : gm_go M d (pc, ls, .retAddr j :: .retAddr i :: st, h) (pc + 3, ls, st, h) :=
  gm_go_st fun G p l e R s m args below meth c C ws H locs A stC cells slots Q hW hl hs kk => by
    obtain ⟨_, _, rfl, rfl, _, _, rfl, rfl, hs⟩ := hs
    have e9 : gm_Ne = 17 := rfl
    rw [gm_kk_r (show i ≠ 998 by omega), gm_kk_r (show j ≠ 998 by omega)]
    exact lv_acmp_eq (tgt := tgt) (rx := some (gm_A G i)) (ry := some (gm_A G j)) C.1 C.2.1 hd ht (fun z => absurd ((gm_Ce C).2.2.2.2.2.2.2.2 i j hi hj (Option.some.inj z)) hne) (fun _ => kk _ hs)
theorem gm_acmp_ne_f {M : gm_M} {d pc : Nat} {ls : List (Option Value)} {st : List Value} {h : gm_H} {i : Nat} {off : Int} (tgt : Nat) (hd : decode M.2.1 pc = .ok (.if_acmp .ne off, 3)) (ht : (pc : Int) + off = (tgt : Int)) (hi9 : i ≠ 998 := by decide) : gm_go M d (pc, ls, .retAddr i :: .retAddr i :: st, h) (pc + 3, ls, st, h) :=
  gm_go_st fun G p l e R s m args below meth c C ws H locs A stC cells slots Q hW hl hs kk => by
    obtain ⟨_, _, rfl, rfl, _, _, rfl, rfl, hs⟩ := hs
    rw [gm_kk_r hi9]
    exact lv_acmp_ne (tgt := tgt) (rx := some (gm_A G i)) (ry := some (gm_A G i)) C.1 C.2.1 hd ht (fun z => absurd rfl z) (fun _ => kk _ hs)
theorem gm_acmp_ne_t {M : gm_M} {d pc : Nat} {ls : List (Option Value)} {st : List Value} {h : gm_H} {i j : Nat} {off : Int} {tgt : Nat} (hd : decode M.2.1 pc = .ok (.if_acmp .ne off, 3)) (ht : (pc : Int) + off = (tgt : Int)) (hi : i < gm_Ne) (hj : j < gm_Ne) (hne : i ≠ j) : gm_go M d (pc, ls, .retAddr j :: .retAddr i :: st, h) (tgt, ls, st, h) :=
  gm_go_st fun G p l e R s m args below meth c C ws H locs A stC cells slots Q hW hl hs kk => by
    obtain ⟨_, _, rfl, rfl, _, _, rfl, rfl, hs⟩ := hs
    have e9 : gm_Ne = 17 := rfl
    rw [gm_kk_r (show i ≠ 998 by omega), gm_kk_r (show j ≠ 998 by omega)]
    exact lv_acmp_ne (rx := some (gm_A G i)) (ry := some (gm_A G j)) C.1 C.2.1 hd ht (fun _ => kk _ hs) (fun z => absurd ((gm_Ce C).2.2.2.2.2.2.2.2 i j hi hj (Option.some.inj z)) hne)
/-! System.arraycopy -/
def gm_cp (M : gm_M) (index : Nat) : Prop := Cond.methodLink M.1.cls index arraycopyName ∈ gm_big ∧ Cond.native arraycopyName ∈ gm_big ∧ Cond.static arraycopyName ∈ gm_big ∧ Cond.initialized "java/lang/System" ∈ gm_big
theorem gm_nfw : nativeFrameWords "java/lang/System" "arraycopy" 5 ≤ 40 := by decide +kernel
theorem gm_copy {M : gm_M} {d pc : Nat} {ls : List (Option Value)} {st : List Value} {h : gm_H} {index k0 k1 t n0 n1 : Nat} {ty : FieldType} {f g : Nat → Int32} {sp dp n : Int32} (hd : decode M.2.1 pc = .ok (.invokestatic index, 3)) (hw : gm_cp M index) (hty : gm_tys[t]? = some ty) (hk0 : h.1[k0]? = some (.inl (t, n0, .inl f))) (hk1 : h.1[k1]? = some (.inl (t, n1, .inl g))) (hp : refKind ty = false)
    (h1 : ¬ sp < 0) (h2 : ¬ dp < 0) (h3 : ¬ n < 0) (h4 : sp.toNatClampNeg + n.toNatClampNeg ≤ n0) (h5 : dp.toNatClampNeg + n.toNatClampNeg ≤ n1) (hfit : ∀ i, i < n.toNatClampNeg → fits ty (.int (f (sp.toNatClampNeg + i))) = true) (hrest : (st.map fun v => v.category).sum ≤ 8) (hdd : 1 ≤ d) :
    gm_go M d (pc, ls, .int n :: .int dp :: .ref k1 :: .int sp :: .ref k0 :: st, h) (pc + 3, ls, st, (h.1.set k1 (.inl (t, n1, .inl (va_cpy f g sp.toNatClampNeg dp.toNatClampNeg n.toNatClampNeg))), h.2)) :=
  gm_go_hp fun G p l e R s m args below meth c C ws H locs A stC cells slots Q hW hl hs kk => by
    obtain ⟨_, _, rfl, rfl, _, _, rfl, rfl, _, _, rfl, ⟨q, hq, rfl⟩, _, _, rfl, rfl, _, _, rfl, ⟨r, hr, rfl⟩, hs⟩ := hs
    have c1 := C.2.2.2.2.2.2.2.2.2.2.1
    have c2 := C.2.2.2.2.2.2.2.2.2.2.2
    have hcat := gm_st_cat hs
    have hnf := gm_nfw
    obtain ⟨q', hq', ty1, cA, y, t0, t1, he, hx⟩ := gm_h_get hW.2.2.1 hk1
    cases Option.some.inj (hq.symm.trans hq')
    obtain ⟨r', hr', ty2, cB, z, u0, u1, he2, hx2⟩ := gm_h_get hW.2.2.1 hk0
    cases Option.some.inj (hr.symm.trans hr')
    cases Option.some.inj (hty.symm.trans t0)
    cases Option.some.inj (hty.symm.trans u0)
    obtain ⟨b, x9⟩ := q
    obtain ⟨b2, x8⟩ := r
    dsimp only at he he2
    subst he
    subst he2
    have hx : y = .inl g := hx
    subst hx
    have hx2 : z = .inl f := hx2
    subst hx2
    exact va_copyi C.1 C.2.1 (C.2.2.1.trans hl.1.symm) C.2.2.2.1 (gm_Ct C _ hw.1) (gm_Ct C _ hw.2.1) (gm_Ct C _ hw.2.2.1) (gm_Ct C _ hw.2.2.2) (gm_Ck C) hW.1 hW.2.1 hW.2.2.2 k0 k1 t t hr hq u1 t1 hp h1 h2 h3 h4 h5 hfit (by omega) (by omega) hd (fun H1 locs1 hP hD hS => kk b _ _ H1 locs1 _ hq ⟨_, cA, _, hty, t1, rfl, rfl⟩ hP hD hS hs)
theorem gm_copyt {M : gm_M} {d pc : Nat} {ls : List (Option Value)} {st : List Value} {h : gm_H} {index k0 k1 n0 n1 : Nat} {f g : Nat → Int32} {sp dp n : Int32} (hd : decode M.2.1 pc = .ok (.invokestatic index, 3)) (hw : gm_cp M index) (hk0 : (k0, .byte, n0, fun j => .int (f j)) ∈ gm_Ka) (hk1 : h.1[k1]? = some (.inl (4, n1, .inl g)))
    (h1 : ¬ sp < 0) (h2 : ¬ dp < 0) (h3 : ¬ n < 0) (h4 : sp.toNatClampNeg + n.toNatClampNeg ≤ n0) (h5 : dp.toNatClampNeg + n.toNatClampNeg ≤ n1) (hfit : ∀ i, i < n.toNatClampNeg → fits .byte (.int (f (sp.toNatClampNeg + i))) = true) (hrest : (st.map fun v => v.category).sum ≤ 8) (hdd : 1 ≤ d) :
    gm_go M d (pc, ls, .int n :: .int dp :: .ref k1 :: .int sp :: .retAddr k0 :: st, h) (pc + 3, ls, st, (h.1.set k1 (.inl (4, n1, .inl (va_cpy f g sp.toNatClampNeg dp.toNatClampNeg n.toNatClampNeg))), h.2)) :=
  gm_go_hp fun G p l e R s m args below meth c C ws H locs A stC cells slots Q hW hl hs kk => by
    obtain ⟨_, _, rfl, rfl, _, _, rfl, rfl, _, _, rfl, ⟨q, hq, rfl⟩, _, _, rfl, rfl, _, _, rfl, rfl, hs⟩ := hs
    rw [gm_kk_r (gm_Ka_998 _ hk0)]
    have c1 := C.2.2.2.2.2.2.2.2.2.2.1
    have c2 := C.2.2.2.2.2.2.2.2.2.2.2
    have hcat := gm_st_cat hs
    have hnf := gm_nfw
    obtain ⟨q', hq', ty1, cA, y, t0, t1, he, hx⟩ := gm_h_get hW.2.2.1 hk1
    cases Option.some.inj (hq.symm.trans hq')
    cases t0
    obtain ⟨b, x9⟩ := q
    dsimp only at he
    subst he
    have hx : y = .inl g := hx
    subst hx
    exact vk_copyt C.1 C.2.1 (C.2.2.1.trans hl.1.symm) C.2.2.2.1 (gm_Ct C _ hw.1) (gm_Ct C _ hw.2.1) (gm_Ct C _ hw.2.2.1) (gm_Ct C _ hw.2.2.2) (gm_Ck C) hW.1 hW.2.1 hW.2.2.2 ((gm_Ckc C).2.2.2.1 _ hk0) k1 4 hq t1 h1 h2 h3 h4 h5 hfit (by omega) (by omega) hd (fun H1 locs1 hP hD hS => kk b _ _ H1 locs1 _ hq ⟨_, cA, _, rfl, t1, rfl, rfl⟩ hP hD hS hs)
/-! the law's own walk: over one start -/
def gm_goG (G : gm_G) (M : gm_M) (d : Nat) (f f' : gm_fr) : Prop :=
  (f.2.2.2.2.1 ≤ f'.2.2.2.2.1 ∧ f.2.2.2.2.2 ≤ f'.2.2.2.2.2) ∧
  ∀ (p : Program) (l : Launch) (e : Env) (R : Room) (s : State) (m : MethodId) (args : Array Value) (below : List Frame) (meth : Method) (c : Code), gm_C G M d p l e R s m args below meth c →
  ∀ (k0 s0 : Nat), f'.2.2.2.2.1 ≤ k0 + R.cells → f'.2.2.2.2.2 ≤ s0 + R.slots →
  ∀ (ws : va_W) (H : Heap) (locs : List Loc) (A : Array Slot) (stC : List Value) (cells slots : Nat) (Q : State → Prop), gm_W G s ws f.2.2.2 H locs → gm_ls G ws M.2.2.1 f.2.1 A → gm_st G ws f.2.2.1 stC → f.2.2.2.2.1 = k0 + cells → f.2.2.2.2.2 = s0 + slots →
  (∀ (ws' : va_W) (H' : Heap) (locs' : List Loc) (A' : Array Slot) (stC' : List Value) (cells' slots' : Nat), gm_e ws ws' → gm_W G s ws' f'.2.2.2 H' locs' → gm_ls G ws' M.2.2.1 f'.2.1 A' → gm_st G ws' f'.2.2.1 stC' → f'.2.2.2.2.1 = k0 + cells' → f'.2.2.2.2.2 = s0 + slots' →
    W p l e R s m args below meth c H' locs' cells' slots' Q (F0 m f'.1 A' stC')) →
  W p l e R s m args below meth c H locs cells slots Q (F0 m f.1 A stC)
theorem gm_go.at {M : gm_M} {d : Nat} {f f' : gm_fr} (a : gm_go M d f f') (G : gm_G) : gm_goG G M d f f' := ⟨a.1, a.2 G⟩
theorem gm_goG_rf {G : gm_G} {M : gm_M} {d : Nat} {f : gm_fr} : gm_goG G M d f f := gm_go_rf.at G
theorem gm_goG_tr {G : gm_G} {M : gm_M} {d : Nat} {f g h : gm_fr} (a : gm_goG G M d f g) (b : gm_goG G M d g h) : gm_goG G M d f h := by
  refine ⟨⟨Nat.le_trans a.1.1 b.1.1, Nat.le_trans a.1.2 b.1.2⟩, ?_⟩
  intro p l e R s m args below meth c C k0 s0 r1 r2 ws H locs A stC cells slots Q hW hl hs e1 e2 k
  refine a.2 p l e R s m args below meth c C k0 s0 (Nat.le_trans b.1.1 r1) (Nat.le_trans b.1.2 r2) ws H locs A stC cells slots Q hW hl hs e1 e2 ?_
  intro ws' H' locs' A' stC' cells' slots' he hW' hl' hs' e1' e2'
  refine b.2 p l e R s m args below meth c C k0 s0 r1 r2 ws' H' locs' A' stC' cells' slots' Q hW' hl' hs' e1' e2' ?_
  intro ws2 H2 locs2 A2 st2 c2 s2 he2
  exact k ws2 H2 locs2 A2 st2 c2 s2 (gm_e_tr he he2)
theorem gm_siald {G : gm_G} {M : gm_M} {d pc : Nat} {ls : List (Option Value)} {st : List Value} {h : gm_H} {i : Int32} (hd : decode M.2.1 pc = .ok (.iaload, 1)) (hin : vp_in i (gm_L G)) : gm_goG G M d (pc, ls, .int i :: .retAddr 999 :: st, h) (pc + 1, ls, .int (gm_X G i.toNatClampNeg) :: st, h) := by
  refine ⟨⟨Nat.le_refl _, Nat.le_refl _⟩, ?_⟩
  intro p l e R s m args below meth c C k0 s0 _ _ ws H locs A stC cells slots Q hW hl hs e1 e2 kk
  obtain ⟨_, _, rfl, rfl, _, _, rfl, rfl, hs⟩ := hs
  have hE := (gm_Ce C).2.2.2.2.2.1
  dsimp only
  rw [gm_kk_r (show (999 : Nat) ≠ 998 by decide)]
  rw [hE.2.2.2]
  exact va_sld C.1 C.2.1 hE.1 (Nat.lt_of_lt_of_le hE.2.1 (gm_Ce C).1) (Nat.not_le.mpr hE.2.1) hW.2.2.2 hin hd (kk ws H locs A _ cells slots (gm_e_rf ws) hW hl ⟨_, _, rfl, rfl, hs⟩ e1 e2)
theorem gm_slen {G : gm_G} {M : gm_M} {d pc : Nat} {ls : List (Option Value)} {st : List Value} {h : gm_H} (hd : decode M.2.1 pc = .ok (.arraylength, 1)) : gm_goG G M d (pc, ls, .retAddr 999 :: st, h) (pc + 1, ls, .int (Int32.ofNat (gm_L G)) :: st, h) := by
  refine ⟨⟨Nat.le_refl _, Nat.le_refl _⟩, ?_⟩
  intro p l e R s m args below meth c C k0 s0 _ _ ws H locs A stC cells slots Q hW hl hs e1 e2 kk
  obtain ⟨_, _, rfl, rfl, hs⟩ := hs
  have hE := (gm_Ce C).2.2.2.2.2.1
  dsimp only
  rw [gm_kk_r (show (999 : Nat) ≠ 998 by decide)]
  rw [hE.2.2.2]
  exact va_slen C.1 C.2.1 hE.1 (Nat.lt_of_lt_of_le hE.2.1 (gm_Ce C).1) (Nat.not_le.mpr hE.2.1) hW.2.2.2 hd (kk ws H locs A _ cells slots (gm_e_rf ws) hW hl ⟨_, _, rfl, rfl, hs⟩ e1 e2)
