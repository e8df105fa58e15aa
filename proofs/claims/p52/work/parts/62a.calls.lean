/-! calls of the superclass's methods; texts by ldc_w -/
theorem gm_ldcsw {M : gm_M} {d pc : Nat} {ls : List (Option Value)} {st : List Value} {h : gm_H} {index k : Nat} {tx : String} (hd : decode M.2.1 pc = .ok (.ldc_w index, 3)) (hz : (M.1.cls, index, tx, k) ∈ gm_Kr) : gm_go M d (pc, ls, st, h) (pc + 3, ls, .retAddr k :: st, h) :=
  gm_go_st fun G p l e R s m args below meth c C ws H locs A stC cells slots Q hW hl hs kk => by
    intro T hT X
    obtain ⟨t, a1, b1⟩ := kk _ ⟨_, _, rfl, (gm_kk_r (gm_Kr_998 _ hz)).symm, hs⟩ T hT X
    have hR := (gm_Ckc C).2.2.2.2.1 _ hz
    exact ⟨t, X.ldcStringW C.1 C.2.2.2.1 hR.1 hR.2 (g := F0 m pc _ _) rfl (by rw [C.2.1]; exact hd) t a1, b1⟩
theorem z_sel {y x0 : MethodName} {C0 : String} {s : State} {args : Array Value} (hc : x0.cls = y.cls) (hy : y.cls ≠ "java/lang/invoke/MethodHandle" ∧ y.cls ≠ "java/lang/invoke/VarHandle")
    (h0 : (Cond.selects C0 x0 x0).before args s = true) (hpriv : (Cond.privateMethod y).before args s = true) (hinst : (Cond.instanceMethod y).before args s = true) :
    (Cond.selects C0 y y).before args s = true := by
  obtain ⟨mk, methM, hnamed, hmethM, -, -⟩ := Cond.instanceMethod_spec hinst
  have hfound : s.methodFound? y.cls y.name y.desc = some mk := State.methodFound?_of_named hnamed hy
  have hcls := findClass_of_methodNamed hnamed
  simp only [Cond.before, Cond.holds, Cond.value] at h0 ⊢
  cases hk : s.vm.findClass C0 with
  | none => rw [hk] at h0; simp at h0
  | some c =>
    rw [hk] at h0
    cases hr : s.methodFound? x0.cls x0.name x0.desc with
    | none => rw [hr] at h0; simp at h0
    | some r =>
      cases hm : s.methodNamed? x0 with
      | none => rw [hr, hm] at h0; simp at h0
      | some m0 =>
        rw [hr, hm] at h0
        have hcls0 := findClass_of_methodNamed hm
        have he : mk.cls = m0.cls := by
          rw [hc] at hcls0
          exact Option.some.inj (hcls.symm.trans hcls0)
        have hsel : selectMethod {} s.vm c mk = .method mk := selectMethod_private hmethM (Cond.privateMethod_at hpriv mk methM hnamed hmethM)
        rw [hfound, hnamed]
        simp only [hsel, he]
        simp only [decide_true, Bool.true_and]
        revert h0
        cases hq : selectMethod {} s.vm c r with
        | method m' =>
          intro h0
          simp [hq] at h0
          skip
          simp [h0.2]
        | _ => intro h0; simp [hq] at h0
theorem gm_cT {M Y : gm_M} {d d' pc index n : Nat} {ls : List (Option Value)} {st rest As : List Value} {h h' : gm_H} {v : Value} {rv : Value} (hd : decode M.2.1 pc = .ok (.invokespecial index, 3)) (hc : gm_co Y d' (rv :: As) h (.inl (some v)) h') (hst : st = As.reverse ++ rv :: rest) (hY : gm_mt Y n) (hl : gm_ls9 M index Y) (hr : gm_rc h rv M.1.cls) (hn : As.length = n) (hrest : (rest.map fun v => v.category).sum ≤ 8) (hdd : d' < d) : gm_go M d (pc, ls, st, h) (pc + 3, ls, v :: rest, h') := by
  subst hst
  exact gm_call (gm_runSU hd hc hY hl hr hn hrest hdd)
theorem gm_cT0 {M Y : gm_M} {d d' pc index n : Nat} {ls : List (Option Value)} {st rest As : List Value} {h h' : gm_H} {rv : Value} (hd : decode M.2.1 pc = .ok (.invokespecial index, 3)) (hc : gm_co Y d' (rv :: As) h (.inl none) h') (hst : st = As.reverse ++ rv :: rest) (hY : gm_mt Y n) (hl : gm_ls9 M index Y) (hr : gm_rc h rv M.1.cls) (hn : As.length = n) (hrest : (rest.map fun v => v.category).sum ≤ 8) (hdd : d' < d) : gm_go M d (pc, ls, st, h) (pc + 3, ls, rest, h') := by
  subst hst
  exact gm_call (gm_runSU hd hc hY hl hr hn hrest hdd)
theorem mv_J5_isLatin1_aae02 : gm_mv mJ5_isLatin1_aae02 RJ4 := ⟨gm_in (i := 1032) (by decide +kernel) (by decide +kernel), gm_in (i := 1034) (by decide +kernel) (by decide +kernel)⟩
theorem l9_J4_333 {M : gm_M} (h : M.1.cls = RJ4) : gm_ls9 M 333 mJ5_setLength_d00df := ⟨by rw [h]; exact gm_in (i := 978) (by decide +kernel) (by decide +kernel), gm_in (i := 2180) (by decide +kernel) (by decide +kernel), by rw [h]; exact gm_in (i := 303) (by decide +kernel) (by decide +kernel), gm_in (i := 979) (by decide +kernel) (by decide +kernel), by decide, 1, _, _, by rw [h]; rfl⟩
theorem l9_J4_29 {M : gm_M} (h : M.1.cls = RJ4) : gm_ls9 M 29 mJ5_append_cf1ce := ⟨by rw [h]; exact gm_in (i := 993) (by decide +kernel) (by decide +kernel), gm_in (i := 2181) (by decide +kernel) (by decide +kernel), by rw [h]; exact gm_in (i := 303) (by decide +kernel) (by decide +kernel), gm_in (i := 994) (by decide +kernel) (by decide +kernel), by decide, 1, _, _, by rw [h]; rfl⟩
theorem mv_J5_ensureCapacityInternal_d00df : gm_mv mJ5_ensureCapacityInternal_d00df RJ4 := ⟨gm_in (i := 1002) (by decide +kernel) (by decide +kernel), gm_in2 (i := 0) (by decide +kernel) (by decide +kernel)⟩
theorem mv_J5_newCapacity_0f7a4 : gm_mv mJ5_newCapacity_0f7a4 RJ4 := ⟨gm_in (i := 1006) (by decide +kernel) (by decide +kernel), gm_in2 (i := 1) (by decide +kernel) (by decide +kernel)⟩
theorem mv_J5_putStringAt_47b60 : gm_mv mJ5_putStringAt_47b60 RJ4 := ⟨gm_in (i := 1073) (by decide +kernel) (by decide +kernel), gm_in2 (i := 2) (by decide +kernel) (by decide +kernel)⟩
theorem mv_J5_inflateIfNeededFor_a7421 : gm_mv mJ5_inflateIfNeededFor_a7421 RJ4 := ⟨gm_in (i := 1077) (by decide +kernel) (by decide +kernel), gm_in2 (i := 3) (by decide +kernel) (by decide +kernel)⟩
theorem l9_J4_53 {M : gm_M} (h : M.1.cls = RJ4) : gm_ls9 M 53 mJ5_append_c97b9 := ⟨by rw [h]; exact gm_in (i := 1109) (by decide +kernel) (by decide +kernel), gm_in (i := 2188) (by decide +kernel) (by decide +kernel), by rw [h]; exact gm_in (i := 303) (by decide +kernel) (by decide +kernel), gm_in (i := 1110) (by decide +kernel) (by decide +kernel), by decide, 1, _, _, by rw [h]; rfl⟩
theorem l9_J4_343 {M : gm_M} (h : M.1.cls = RJ4) : gm_ls9 M 343 mJ5_length_8abf5 := ⟨by rw [h]; exact gm_in (i := 1153) (by decide +kernel) (by decide +kernel), gm_in (i := 1149) (by decide +kernel) (by decide +kernel), by rw [h]; exact gm_in (i := 303) (by decide +kernel) (by decide +kernel), gm_in (i := 1148) (by decide +kernel) (by decide +kernel), by decide, 1, _, _, by rw [h]; rfl⟩
theorem l9_J4_50 {M : gm_M} (h : M.1.cls = RJ4) : gm_ls9 M 50 mJ5_append_3fe6f := ⟨by rw [h]; exact gm_in (i := 1232) (by decide +kernel) (by decide +kernel), gm_in (i := 2189) (by decide +kernel) (by decide +kernel), by rw [h]; exact gm_in (i := 303) (by decide +kernel) (by decide +kernel), gm_in (i := 1233) (by decide +kernel) (by decide +kernel), by decide, 1, _, _, by rw [h]; rfl⟩
theorem l9_J4_329 {M : gm_M} (h : M.1.cls = RJ4) : gm_ls9 M 329 mJ5_charAt_5068e := ⟨by rw [h]; exact gm_in (i := 1269) (by decide +kernel) (by decide +kernel), gm_in (i := 2191) (by decide +kernel) (by decide +kernel), by rw [h]; exact gm_in (i := 303) (by decide +kernel) (by decide +kernel), gm_in (i := 1270) (by decide +kernel) (by decide +kernel), by decide, 1, _, _, by rw [h]; rfl⟩
