theorem al_tr {h a b : gm_H} {n m x y x' y' : Nat} (f : gh_al h a n x y) (g : gh_al a b m x' y') (hm : n ≤ m) : gh_al h b n (x + x') (y + y') :=
  ⟨by rw [g.1, f.1]; show (_, _) = (_, _); rw [Nat.add_assoc, Nat.add_assoc], fun k hk => (g.2 k (by omega)).trans (f.2 k hk)⟩
theorem nd_lo {h h' : gm_H} {m p : Nat} {v : Nat → Int} (e : ∀ k, k < m → h'.1[k]? = h.1[k]?) (hp : p + 3 ≤ m) (hN : nd_at h p v) : nd_at h' p v := by
  obtain ⟨h1, S, D, h2, h3, h4⟩ := hN
  exact ⟨(e _ (by omega)).trans h1, S, D, (e _ (by omega)).trans h2, (e _ (by omega)).trans h3, h4⟩
theorem ov_lo {h h' : gm_H} {m p : Nat} {v : Nat → Int} (e : ∀ k, k < m → h'.1[k]? = h.1[k]?) (hp : p + 5 ≤ m) (hN : ov_at h p v) : ov_at h' p v := by
  obtain ⟨h1, I, M, D, W, h2, h3, h4, h5, h6⟩ := hN
  exact ⟨(e _ (by omega)).trans h1, I, M, D, W, (e _ (by omega)).trans h2, (e _ (by omega)).trans h3, (e _ (by omega)).trans h4, (e _ (by omega)).trans h5, h6⟩
theorem st_lo {h h' : gm_H} {m p : Nat} {v : Nat → Int} (e : ∀ k, k < m → h'.1[k]? = h.1[k]?) (hp : p + 9 ≤ m) (hN : st_at h p v) : st_at h' p v :=
  ⟨(e _ (by omega)).trans hN.1, nd_lo e (by omega) hN.2.1, ov_lo e (by omega) hN.2.2⟩
set_option maxRecDepth 4000 in
theorem ct_stInit {h : gm_H} {n : Nat} (hl : h.1.length = n + 1) (h0 : h.1[n]? = some (.inr (10, [.null, .null]))) : ∃ h', gm_co mX9_init 2 [.ref n] h (.inl none) h' ∧ h'.1.length = n + 9 ∧ st_at h' n zV0 ∧ gh_al h h' n 8 115 := by
  obtain ⟨a1, ha1⟩ : ∃ x : gm_H, x = (h.1 ++ [.inr (5, [.int 0, .int 0, .int 0, .null, .null])], (h.2.1 + 1, h.2.2 + 5)) := ⟨_, rfl⟩
  have l1 : a1.1.length = n + 1 + 1 := by rw [ha1]; exact gl_a hl
  have n1 : a1.1[n + 1]? = some (.inr (5, [.int 0, .int 0, .int 0, .null, .null])) := by rw [ha1]; exact ga_r hl
  have c1 := ga_l (d := .inr (5, [.int 0, .int 0, .int 0, .null, .null])) (x := (h.2.1 + 1, h.2.2 + 5)) h0; rw [← ha1] at c1
  have g1 := al_a (d := .inr (5, [.int 0, .int 0, .int 0, .null, .null])) (N := 5) (al_rf (h := h) (n := n)) hl (by omega); rw [← ha1] at g1
  obtain ⟨a2, i2, l2, n2, g2⟩ := ct_ndInit l1 n1
  have c2 := (g2.2 n (by omega)).trans c1
  have t2 := al_tr g1 g2 (by omega)
  obtain ⟨a3, ha3⟩ : ∃ x : gm_H, x = (a2.1.set n (.inr (10, [.ref (n + 1), .null])), a2.2) := ⟨_, rfl⟩
  have c3 : a3.1[n]? = some (.inr (10, [.ref (n + 1), .null])) := by rw [ha3]; exact gs_s c2
  have l3 : a3.1.length = n + 1 + 3 := by rw [ha3]; exact gl_s l2
  have n3 : nd_at a3 (n + 1) zV0 := by rw [ha3]; exact nd_fr (K := fun k => k = n) (gh_set (K := fun k => k = n) gh_rf rfl _) (fun k hk z => by have := hk.1; omega) n2
  have t3 := al_s (k := n) (c := .inr (10, [.ref (n + 1), .null])) t2 (Nat.le_refl n); rw [← ha3] at t3
  obtain ⟨a4, ha4⟩ : ∃ x : gm_H, x = (a3.1 ++ [.inr (7, [.int 0, .int 0, .int 0, .int 0, .int 0, .long 0, .null, .null, .null, .null])], (a3.2.1 + 1, a3.2.2 + 10)) := ⟨_, rfl⟩
  have l4 : a4.1.length = n + 4 + 1 := by rw [ha4]; exact gl_a l3
  have o4 : a4.1[n + 4]? = some (.inr (7, [.int 0, .int 0, .int 0, .int 0, .int 0, .long 0, .null, .null, .null, .null])) := by rw [ha4]; exact ga_r l3
  have c4 := ga_l (d := .inr (7, [.int 0, .int 0, .int 0, .int 0, .int 0, .long 0, .null, .null, .null, .null])) (x := (a3.2.1 + 1, a3.2.2 + 10)) c3; rw [← ha4] at c4
  have e4 : ∀ k, k < n + 4 → a4.1[k]? = a3.1[k]? := fun k hk => by rw [ha4]; show (a3.1 ++ [_])[k]? = _; rw [List.getElem?_append_left (by omega)]
  have t4 := al_a (d := .inr (7, [.int 0, .int 0, .int 0, .int 0, .int 0, .long 0, .null, .null, .null, .null])) (N := 10) t3 l3 (by omega); rw [← ha4] at t4
  have n4 := nd_lo e4 (by omega) n3
  obtain ⟨a5, i5, l5, o5, g5⟩ := ct_ovInit l4 o4
  have c5 := (g5.2 n (by omega)).trans c4
  have n5 := nd_lo g5.2 (by omega) n4
  have t5 := al_tr t4 g5 (by omega)
  obtain ⟨a6, ha6⟩ : ∃ x : gm_H, x = (a5.1.set n (.inr (10, [.ref (n + 1), .ref (n + 4)])), a5.2) := ⟨_, rfl⟩
  have c6 : a6.1[n]? = some (.inr (10, [.ref (n + 1), .ref (n + 4)])) := by rw [ha6]; exact gs_s c5
  have l6 : a6.1.length = n + 9 := by rw [ha6]; exact gl_s l5
  have f6 : gh_fr a5 a6 (fun k => k = n) := by rw [ha6]; exact gh_set (K := fun k => k = n) gh_rf rfl _
  have t6 := al_s (k := n) (c := .inr (10, [.ref (n + 1), .ref (n + 4)])) t5 (Nat.le_refl n); rw [← ha6] at t6
  refine ⟨a6, ?_, l6, ⟨c6, nd_fr f6 (fun k hk z => by have := hk.1; omega) n5, ov_fr f6 (fun k hk z => by have := hk.1; omega) o5⟩, t6⟩
  refine gm_co_of _ (by decide +kernel) rfl (Nat.le_of_ble_eq_true rfl) rfl ?_
  refine gm_go.ru (gm_aload_n dX9_init_0 rfl (by first | exact Or.inl ⟨_, rfl⟩ | exact Or.inr ⟨_, rfl⟩)) ?_
  refine gm_go.ru (gm_objInit dX9_init_1 rfl (ol_X9_3 rfl) oi_i oi_c (Nat.le_of_ble_eq_true rfl) (by decide)) ?_
  refine gm_go.ru (gm_aload_n dX9_init_4 rfl (by first | exact Or.inl ⟨_, rfl⟩ | exact Or.inr ⟨_, rfl⟩)) ?_
  refine gm_go.ru (gm_new dX9_init_5 (nc_X9_9 rfl)) ?_
  rw [hl]; refine gm_hp ha1 ?_
  refine gm_go.ru (gm_dup dX9_init_8 rfl) ?_
  refine gm_go.ru (gm_cI dX9_init_9 (i2) rfl mt_X3_init mi_X3_init (lk_X9_11 rfl) (Or.inl ⟨_, 5, _, _, _, rfl, n1, rfl⟩) rfl (Nat.le_of_ble_eq_true rfl) (by decide)) ?_
  refine gm_go.ru (gm_put dX9_init_12 (fp_X9_12 rfl rfl) c2 (Nat.le_of_ble_eq_true rfl) (by first | exact ⟨rfl, rfl⟩ | exact trivial)) ?_
  refine gm_hp ha3 ?_
  refine gm_go.ru (gm_aload_n dX9_init_15 rfl (by first | exact Or.inl ⟨_, rfl⟩ | exact Or.inr ⟨_, rfl⟩)) ?_
  refine gm_go.ru (gm_new dX9_init_16 (nc_X9_18 rfl)) ?_
  rw [l3]; refine gm_hp ha4 ?_
  refine gm_go.ru (gm_dup dX9_init_19 rfl) ?_
  refine gm_go.ru (gm_cI dX9_init_20 (i5) rfl mt_X5_init mi_X5_init (lk_X9_20 rfl) (Or.inl ⟨_, 7, _, _, _, rfl, o4, rfl⟩) rfl (Nat.le_of_ble_eq_true rfl) (by decide)) ?_
  refine gm_go.ru (gm_put dX9_init_23 (fp_X9_21 rfl rfl) c5 (Nat.le_of_ble_eq_true rfl) (by first | exact ⟨rfl, rfl⟩ | exact trivial)) ?_
  refine gm_hp ha6 ?_
  exact gm_vret dX9_init_26 rfl
