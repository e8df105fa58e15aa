theorem gi_aast {M : gm_M} {d pc : Nat} {ls : List (Option Value)} {st : List Value} {h : gm_H} {k n j i : Nat} {fs : List Value} {f : Nat → Option Nat} (hd : decode M.2.1 pc = .ok (.aastore, 1)) (hk : h.1[k]? = some (gQ n f)) (hi : i < n) (hn : n ≤ 2147483647) (hj : h.1[j]? = some (.inr (10, fs))) : gm_go M d (pc, ls, .ref j :: .int (zI (i : Int)) :: .ref k :: st, h) (pc + 1, ls, st, (h.1.set k (gQ n (fun x => if x = i then some j else f x)), h.2)) := by
  have h0 : (zI (i : Int)).toNatClampNeg = i := by rw [zI_cl (by omega)]; omega
  have h1 := gm_aast (M := M) (d := d) (ls := ls) (st := st) hd hk (zI_in (a := (i : Int)) (by omega) (by omega) hn) hj
  rw [h0] at h1
  have e : va_up f i (some j) = fun x => if x = i then some j else f x := by funext x; rfl
  rw [e] at h1
  exact h1
set_option maxRecDepth 4000 in
theorem ct_hiInit {h : gm_H} {n : Nat} (hl : h.1.length = n + 1) (h0 : h.1[n]? = some (.inr (4, [.null, .int 0, .int 0]))) : ∃ h', gm_co mX2_init 3 [.ref n] h (.inl none) h' ∧ h'.1.length = n + 83 ∧ hi_at h' n (fun _ => zV0) 0 ∧ gh_al h h' n 82 1062 := by
  obtain ⟨a1, ha1⟩ : ∃ x : gm_H, x = (h.1 ++ [gQ 9 (fun _ => none)], (h.2.1 + 1, h.2.2 + 9)) := ⟨_, rfl⟩
  have l1 : a1.1.length = n + 1 + 1 := by rw [ha1]; exact gl_a hl
  have q1 : a1.1[n + 1]? = some (gQ 9 (fun _ => none)) := by rw [ha1]; exact ga_r hl
  have c1 := ga_l (d := gQ 9 (fun _ => none)) (x := (h.2.1 + 1, h.2.2 + 9)) h0; rw [← ha1] at c1
  have t1 := al_a (d := gQ 9 (fun _ => none)) (N := 9) (al_rf (h := h) (n := n)) hl (by omega); rw [← ha1] at t1
  obtain ⟨a2, ha2⟩ : ∃ x : gm_H, x = (a1.1.set n (hi_c n 0 0), a1.2) := ⟨_, rfl⟩
  have c2 : a2.1[n]? = some (hi_c n 0 0) := by rw [ha2]; exact gs_s c1
  have q2 : a2.1[n + 1]? = some (gQ 9 (fun i => if i < 0 then some (n + 2 + 9 * i) else none)) := by rw [ha2]; exact gs_n q1 (by omega)
  have l2 : a2.1.length = n + 2 + 9 * 0 := by rw [ha2]; exact gl_s l1
  have t2 := al_s (k := n) (c := hi_c n 0 0) t1 (Nat.le_refl n); rw [← ha2] at t2
  obtain ⟨f', hgo, q, rfl, ll, cc, cq, hs, ht⟩ := gl_up (M := mX2_init) (d := 3) (fun j f => ∃ q, f = (15, [some (.ref n), some (.int (zI (j : Nat)))], [], q) ∧ q.1.length = n + 2 + 9 * j ∧ q.1[n]? = some (hi_c n 0 0) ∧ q.1[n + 1]? = some (gQ 9 (fun i => if i < j then some (n + 2 + 9 * i) else none)) ∧ (∀ i, i < j → st_at q (n + 2 + 9 * i) zV0) ∧ gh_al h q n (1 + 9 * j) (9 + 117 * j)) 9 (by
    rintro j f hj ⟨q, rfl, hl, c0, cq, hs, ht⟩
    obtain ⟨a1, ha1⟩ : ∃ x : gm_H, x = (q.1 ++ [.inr (10, [.null, .null])], (q.2.1 + 1, q.2.2 + 2)) := ⟨_, rfl⟩
    have l1 : a1.1.length = n + 2 + 9 * j + 1 := by rw [ha1]; exact gl_a hl
    have n1 : a1.1[n + 2 + 9 * j]? = some (.inr (10, [.null, .null])) := by rw [ha1]; exact ga_r hl
    have e1 : ∀ k, k < n + 2 + 9 * j → a1.1[k]? = q.1[k]? := fun k hk => by rw [ha1]; show (q.1 ++ [_])[k]? = _; rw [List.getElem?_append_left (by omega)]
    have t1 := al_a (d := .inr (10, [.null, .null])) (N := 2) ht hl (by omega); rw [← ha1] at t1
    obtain ⟨a2, i2, l2, s2, g2⟩ := ct_stInit l1 n1
    have t2 := al_tr t1 g2 (by omega)
    have e2 : ∀ k, k < n + 2 + 9 * j → a2.1[k]? = q.1[k]? := fun k hk => (g2.2 k hk).trans (e1 k hk)
    have q2 := (e2 (n + 1) (by omega)).trans cq
    obtain ⟨a3, ha3⟩ : ∃ x : gm_H, x = (a2.1.set (n + 1) (gQ 9 (fun x => if x = j then some (n + 2 + 9 * j) else (fun i => if i < j then some (n + 2 + 9 * i) else none) x)), a2.2) := ⟨_, rfl⟩
    have f3 : gh_fr a2 a3 (fun k => k = n + 1) := by rw [ha3]; exact gh_set (K := fun k => k = n + 1) gh_rf rfl _
    refine ⟨(15, [some (.ref n), some (.int (zI ((j + 1 : Nat) : Int)))], [], a3), ?_, a3, rfl, by rw [f3.2.1, l2]; omega, gh_at f3 ((e2 n (by omega)).trans c0) (by omega), ?_, fun i hi => ?_, ?_⟩
    ·
      refine gm_go_tr (gm_iload_n dX2_init_15 rfl) ?_
      refine gm_go_tr (gi_bipush dX2_init_16 (by decide +kernel)) ?_
      refine gm_go_tr (gi_icmp_ge_f 40 dX2_init_18 (by decide) (by omega) (by omega) (by omega)) ?_
      refine gm_go_tr (gm_aload_n dX2_init_21 rfl (by first | exact Or.inl ⟨_, rfl⟩ | exact Or.inr ⟨_, rfl⟩)) ?_
      refine gm_go_tr (gm_get dX2_init_22 (fl_X2_13 rfl) c0 rfl) ?_
      refine gm_go_tr (gm_iload_n dX2_init_25 rfl) ?_
      refine gm_go_tr (gm_new dX2_init_26 (nc_X2_11 rfl)) ?_
      rw [hl]; refine gm_hq ha1 ?_
      refine gm_go_tr (gm_dup dX2_init_29 rfl) ?_
      refine gm_go_tr (gm_cI dX2_init_30 (i2) rfl mt_X9_init mi_X9_init (lk_X2_17 rfl) (Or.inl ⟨_, 10, _, _, _, rfl, n1, rfl⟩) rfl (Nat.le_of_ble_eq_true rfl) (by decide)) ?_
      refine gm_go_tr (gi_aast dX2_init_33 q2 (by omega) (by decide) s2.1) ?_
      refine gm_hq ha3 ?_
      refine gm_go_tr (gi_iinc (ls' := [_, _]) dX2_init_34 rfl (by decide) rfl) ?_
      exact gm_goto (tgt := 15) dX2_init_37 (by decide)
    · rw [ha3]; refine (gs_s q2).trans ?_
      congr 5; funext x
      by_cases e : x = j
      · subst e; simp
      · by_cases c : x < j
        · simp [e, c]; omega
        · simp [e, c]; omega
    · by_cases e : i = j
      · rw [e]; exact st_fr f3 (fun k hk z => by have := hk.1; omega) s2
      · exact st_fr f3 (fun k hk z => by have := hk.1; omega) (st_lo e2 (by omega) (hs i (by omega)))
    · have t3 := al_s (k := n + 1) (c := gQ 9 (fun x => if x = j then some (n + 2 + 9 * j) else (fun i => if i < j then some (n + 2 + 9 * i) else none) x)) t2 (by omega); rw [← ha3] at t3
      rw [show 1 + 9 * (j + 1) = 1 + 9 * j + 1 + 8 by omega, show 9 + 117 * (j + 1) = 9 + 117 * j + 2 + 115 by omega]; exact t3
    ) 0 (15, [some (.ref n), some (.int (zI (0 : Nat)))], [], a2) (by omega) ⟨a2, rfl, l2, c2, q2, fun i hi => absurd hi (by omega), by have := t2; rw [Nat.zero_add, Nat.zero_add] at this; exact this⟩
  refine ⟨q, ?_, by omega, ⟨0, fun _ => zV0, ⟨by omega, by omega, cc, cq, fun i hi => ⟨hs i hi, (by decide : zV0 4 ≤ 7)⟩⟩, fun k hk => rfl⟩, ht⟩
  refine gm_co_of _ (by decide +kernel) rfl (Nat.le_of_ble_eq_true rfl) rfl ?_
  refine gm_go.ru (gm_aload_n dX2_init_0 rfl (by first | exact Or.inl ⟨_, rfl⟩ | exact Or.inr ⟨_, rfl⟩)) ?_
  refine gm_go.ru (gm_objInit dX2_init_1 rfl (ol_X2_3 rfl) oi_i oi_c (Nat.le_of_ble_eq_true rfl) (by decide)) ?_
  refine gm_go.ru (gm_aload_n dX2_init_4 rfl (by first | exact Or.inl ⟨_, rfl⟩ | exact Or.inr ⟨_, rfl⟩)) ?_
  refine gm_go.ru (gi_bipush dX2_init_5 (by decide +kernel)) ?_
  refine gm_go.ru (gm_newq (N := 9) dX2_init_7 (cl_X2_11 rfl) (by decide) rfl (by decide)) ?_
  rw [hl]; refine gm_hp ha1 ?_
  refine gm_go.ru (gm_put dX2_init_10 (fp_X2_13 rfl rfl) c1 (Nat.le_of_ble_eq_true rfl) (by first | exact ⟨rfl, rfl⟩ | exact trivial)) ?_
  refine gm_hp ha2 ?_
  refine gm_go.ru (gi_const dX2_init_13) ?_
  refine gm_go.ru (gm_istore_n (ls' := [_, _]) dX2_init_14 (by decide) rfl) ?_
  refine gm_go.ru hgo ?_
  refine gm_go.ru (gm_iload_n dX2_init_15 rfl) ?_
  refine gm_go.ru (gi_bipush dX2_init_16 (by decide +kernel)) ?_
  refine gm_go.ru (gi_icmp_ge_t (tgt := 40) dX2_init_18 (by decide) (by omega) (by omega) (by omega)) ?_
  exact gm_vret dX2_init_40 rfl
