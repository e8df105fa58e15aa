/-! what a constructor leaves alone: the cells below n; it makes a objects with b places -/
def gh_al (h h' : gm_H) (n a b : Nat) : Prop := h'.2 = (h.2.1 + a, h.2.2 + b) ∧ ∀ k, k < n → h'.1[k]? = h.1[k]?
theorem ga_l {h : gm_H} {k : Nat} {c d : gm_cl} {x : Nat × Nat} (hk : h.1[k]? = some c) : (h.1 ++ [d], x).1[k]? = some c := by
  show (h.1 ++ [d])[k]? = some c
  rw [List.getElem?_append_left (List.getElem?_eq_some_iff.mp hk).1]; exact hk
theorem ga_r {h : gm_H} {m : Nat} {d : gm_cl} {x : Nat × Nat} (hm : h.1.length = m) : (h.1 ++ [d], x).1[m]? = some d := by
  subst hm
  show (h.1 ++ [d])[h.1.length]? = some d
  simp
theorem gl_a {h : gm_H} {m : Nat} {d : gm_cl} {x : Nat × Nat} (hm : h.1.length = m) : (h.1 ++ [d], x).1.length = m + 1 := by
  show (h.1 ++ [d]).length = _
  rw [List.length_append]; simp [hm]
theorem gl_s {h : gm_H} {m k : Nat} {c : gm_cl} (hm : h.1.length = m) : (h.1.set k c, h.2).1.length = m := by
  show (h.1.set k c).length = m
  rw [List.length_set]; exact hm
theorem al_s {h h' : gm_H} {n a b k : Nat} {c : gm_cl} (f : gh_al h h' n a b) (hk : n ≤ k) : gh_al h (h'.1.set k c, h'.2) n a b :=
  ⟨f.1, fun j hj => by
    show (h'.1.set k c)[j]? = _
    rw [List.getElem?_set_ne (by omega)]; exact f.2 j hj⟩
theorem al_a {h h' : gm_H} {n a b m N : Nat} {d : gm_cl} (f : gh_al h h' n a b) (hm : h'.1.length = m) (hn : n ≤ m) : gh_al h (h'.1 ++ [d], (h'.2.1 + 1, h'.2.2 + N)) n (a + 1) (b + N) :=
  ⟨by rw [f.1]; show (_, _) = (_, _); rw [Nat.add_assoc, Nat.add_assoc], fun j hj => by
    show (h'.1 ++ [d])[j]? = _
    rw [List.getElem?_append_left (by omega)]; exact f.2 j hj⟩
theorem al_rf {h : gm_H} {n : Nat} : gh_al h h n 0 0 := ⟨rfl, fun _ _ => rfl⟩
def zV0 : Nat → Int := fun m => if m = 1 then 10 else 0
set_option maxRecDepth 4000 in
theorem ct_ndInit {h : gm_H} {n : Nat} (hl : h.1.length = n + 1) (h0 : h.1[n]? = some (.inr (5, [.int 0, .int 0, .int 0, .null, .null]))) : ∃ h', gm_co mX3_init 1 [.ref n] h (.inl none) h' ∧ h'.1.length = n + 3 ∧ nd_at h' n zV0 ∧ gh_al h h' n 2 72 := by
  obtain ⟨a1, ha1⟩ : ∃ x : gm_H, x = (h.1.set n (.inr (5, [.int (zI 0), .int (zI 10), .int (zI 0), .null, .null])), h.2) := ⟨_, rfl⟩
  have f0a1 : a1.1[n]? = some (.inr (5, [.int (zI 0), .int (zI 10), .int (zI 0), .null, .null])) := by rw [ha1]; exact gs_s h0
  have la1 : a1.1.length = n + 1 := by rw [ha1]; exact gl_s hl
  have ga1 := al_s (k := n) (c := .inr (5, [.int (zI 0), .int (zI 10), .int (zI 0), .null, .null])) (al_rf (h := h) (n := n)) (Nat.le_refl n); rw [← ha1] at ga1
  obtain ⟨a2, ha2⟩ : ∃ x : gm_H, x = (a1.1 ++ [gA 8 (fun _ => 0)], (a1.2.1 + 1, a1.2.2 + 8)) := ⟨_, rfl⟩
  have f0a2 := ga_l (d := gA 8 (fun _ => 0)) (x := (a1.2.1 + 1, a1.2.2 + 8)) f0a1; rw [← ha2] at f0a2
  have fsa2 : a2.1[n + 1]? = some (gA 8 (fun _ => 0)) := by rw [ha2]; exact ga_r la1
  have la2 : a2.1.length = n + 2 := by rw [ha2]; exact gl_a la1
  have ga2 := al_a (d := gA 8 (fun _ => 0)) (N := 8) (ga1) la1 (by omega); rw [← ha2] at ga2
  obtain ⟨a3, ha3⟩ : ∃ x : gm_H, x = (a2.1.set n (.inr (5, [.int (zI 0), .int (zI 10), .int (zI 0), .ref (n + 1), .null])), a2.2) := ⟨_, rfl⟩
  have f0a3 : a3.1[n]? = some (.inr (5, [.int (zI 0), .int (zI 10), .int (zI 0), .ref (n + 1), .null])) := by rw [ha3]; exact gs_s f0a2
  have fsa3 := gs_n (c' := .inr (5, [.int (zI 0), .int (zI 10), .int (zI 0), .ref (n + 1), .null])) fsa2 (show n ≠ n + 1 by omega); rw [← ha3] at fsa3
  have la3 : a3.1.length = n + 2 := by rw [ha3]; exact gl_s la2
  have ga3 := al_s (k := n) (c := .inr (5, [.int (zI 0), .int (zI 10), .int (zI 0), .ref (n + 1), .null])) (ga2) (Nat.le_refl n); rw [← ha3] at ga3
  obtain ⟨a4, ha4⟩ : ∃ x : gm_H, x = (a3.1 ++ [gA 64 (fun _ => 0)], (a3.2.1 + 1, a3.2.2 + 64)) := ⟨_, rfl⟩
  have f0a4 := ga_l (d := gA 64 (fun _ => 0)) (x := (a3.2.1 + 1, a3.2.2 + 64)) f0a3; rw [← ha4] at f0a4
  have fsa4 := ga_l (d := gA 64 (fun _ => 0)) (x := (a3.2.1 + 1, a3.2.2 + 64)) fsa3; rw [← ha4] at fsa4
  have fda4 : a4.1[n + 2]? = some (gA 64 (fun _ => 0)) := by rw [ha4]; exact ga_r la3
  have la4 : a4.1.length = n + 3 := by rw [ha4]; exact gl_a la3
  have ga4 := al_a (d := gA 64 (fun _ => 0)) (N := 64) (ga3) la3 (by omega); rw [← ha4] at ga4
  obtain ⟨a5, ha5⟩ : ∃ x : gm_H, x = (a4.1.set n (.inr (5, [.int (zI 0), .int (zI 10), .int (zI 0), .ref (n + 1), .ref (n + 2)])), a4.2) := ⟨_, rfl⟩
  have f0a5 : a5.1[n]? = some (.inr (5, [.int (zI 0), .int (zI 10), .int (zI 0), .ref (n + 1), .ref (n + 2)])) := by rw [ha5]; exact gs_s f0a4
  have fsa5 := gs_n (c' := .inr (5, [.int (zI 0), .int (zI 10), .int (zI 0), .ref (n + 1), .ref (n + 2)])) fsa4 (show n ≠ n + 1 by omega); rw [← ha5] at fsa5
  have fda5 := gs_n (c' := .inr (5, [.int (zI 0), .int (zI 10), .int (zI 0), .ref (n + 1), .ref (n + 2)])) fda4 (show n ≠ n + 2 by omega); rw [← ha5] at fda5
  have la5 : a5.1.length = n + 3 := by rw [ha5]; exact gl_s la4
  have ga5 := al_s (k := n) (c := .inr (5, [.int (zI 0), .int (zI 10), .int (zI 0), .ref (n + 1), .ref (n + 2)])) (ga4) (Nat.le_refl n); rw [← ha5] at ga5
  refine ⟨a5, ?_, la5, ⟨f0a5, _, _, fsa5, fda5, fun i hi => by unfold zV0; rw [if_neg (by omega)], fun i hi j hj => by unfold zV0; rw [if_neg (by omega)]⟩, ga5⟩
  refine gm_co_of _ (by decide +kernel) rfl (Nat.le_of_ble_eq_true rfl) rfl ?_
  refine gm_go.ru (gm_aload_n dX3_init_0 rfl (by first | exact Or.inl ⟨_, rfl⟩ | exact Or.inr ⟨_, rfl⟩)) ?_
  refine gm_go.ru (gm_objInit dX3_init_1 rfl (ol_X3_3 rfl) oi_i oi_c (Nat.le_of_ble_eq_true rfl) (by decide)) ?_
  refine gm_go.ru (gm_aload_n dX3_init_4 rfl (by first | exact Or.inl ⟨_, rfl⟩ | exact Or.inr ⟨_, rfl⟩)) ?_
  refine gm_go.ru (gi_bipush dX3_init_5 (by decide +kernel)) ?_
  refine gm_go.ru (gm_put dX3_init_7 (fp_X3_9 rfl) (by assumption) (Nat.le_of_ble_eq_true rfl) (by first | exact ⟨rfl, rfl⟩ | exact trivial)) ?_
  refine gm_hp ha1 ?_
  refine gm_go.ru (gm_aload_n dX3_init_10 rfl (by first | exact Or.inl ⟨_, rfl⟩ | exact Or.inr ⟨_, rfl⟩)) ?_
  refine gm_go.ru (gi_bipush dX3_init_11 (by decide +kernel)) ?_
  refine gm_go.ru (gm_newa_int (N := 8) dX3_init_13 ac_int (by decide) rfl (by decide)) ?_
  rw [la1]; refine gm_hp ha2 ?_
  refine gm_go.ru (gm_put dX3_init_15 (fp_X3_15 rfl rfl) (by assumption) (Nat.le_of_ble_eq_true rfl) (by first | exact ⟨rfl, rfl⟩ | exact trivial)) ?_
  refine gm_hp ha3 ?_
  refine gm_go.ru (gm_aload_n dX3_init_18 rfl (by first | exact Or.inl ⟨_, rfl⟩ | exact Or.inr ⟨_, rfl⟩)) ?_
  refine gm_go.ru (gi_bipush dX3_init_19 (by decide +kernel)) ?_
  refine gm_go.ru (gm_newa_int (N := 64) dX3_init_21 ac_int (by decide) rfl (by decide)) ?_
  rw [la3]; refine gm_hp ha4 ?_
  refine gm_go.ru (gm_put dX3_init_23 (fp_X3_19 rfl rfl) (by assumption) (Nat.le_of_ble_eq_true rfl) (by first | exact ⟨rfl, rfl⟩ | exact trivial)) ?_
  refine gm_hp ha5 ?_
  exact gm_vret dX3_init_26 rfl
set_option maxRecDepth 4000 in
theorem ct_ovInit {h : gm_H} {n : Nat} (hl : h.1.length = n + 1) (h0 : h.1[n]? = some (.inr (7, [.int 0, .int 0, .int 0, .int 0, .int 0, .long 0, .null, .null, .null, .null]))) : ∃ h', gm_co mX5_init 1 [.ref n] h (.inl none) h' ∧ h'.1.length = n + 5 ∧ ov_at h' n zV0 ∧ gh_al h h' n 4 28 := by
  obtain ⟨a1, ha1⟩ : ∃ x : gm_H, x = (h.1 ++ [gA 7 (fun _ => 0)], (h.2.1 + 1, h.2.2 + 7)) := ⟨_, rfl⟩
  have f0a1 := ga_l (d := gA 7 (fun _ => 0)) (x := (h.2.1 + 1, h.2.2 + 7)) h0; rw [← ha1] at f0a1
  have fia1 : a1.1[n + 1]? = some (gA 7 (fun _ => 0)) := by rw [ha1]; exact ga_r hl
  have la1 : a1.1.length = n + 2 := by rw [ha1]; exact gl_a hl
  have ga1 := al_a (d := gA 7 (fun _ => 0)) (N := 7) (al_rf (h := h) (n := n)) hl (by omega); rw [← ha1] at ga1
  obtain ⟨a2, ha2⟩ : ∃ x : gm_H, x = (a1.1.set n (.inr (7, [.int (zI 0), .int (zI 0), .int (zI 0), .int (zI 0), .int (zI 0), .long (zL 0), .ref (n + 1), .null, .null, .null])), a1.2) := ⟨_, rfl⟩
  have f0a2 : a2.1[n]? = some (.inr (7, [.int (zI 0), .int (zI 0), .int (zI 0), .int (zI 0), .int (zI 0), .long (zL 0), .ref (n + 1), .null, .null, .null])) := by rw [ha2]; exact gs_s f0a1
  have fia2 := gs_n (c' := .inr (7, [.int (zI 0), .int (zI 0), .int (zI 0), .int (zI 0), .int (zI 0), .long (zL 0), .ref (n + 1), .null, .null, .null])) fia1 (show n ≠ n + 1 by omega); rw [← ha2] at fia2
  have la2 : a2.1.length = n + 2 := by rw [ha2]; exact gl_s la1
  have ga2 := al_s (k := n) (c := .inr (7, [.int (zI 0), .int (zI 0), .int (zI 0), .int (zI 0), .int (zI 0), .long (zL 0), .ref (n + 1), .null, .null, .null])) (ga1) (Nat.le_refl n); rw [← ha2] at ga2
  obtain ⟨a3, ha3⟩ : ∃ x : gm_H, x = (a2.1 ++ [gA 7 (fun _ => 0)], (a2.2.1 + 1, a2.2.2 + 7)) := ⟨_, rfl⟩
  have f0a3 := ga_l (d := gA 7 (fun _ => 0)) (x := (a2.2.1 + 1, a2.2.2 + 7)) f0a2; rw [← ha3] at f0a3
  have fia3 := ga_l (d := gA 7 (fun _ => 0)) (x := (a2.2.1 + 1, a2.2.2 + 7)) fia2; rw [← ha3] at fia3
  have fma3 : a3.1[n + 2]? = some (gA 7 (fun _ => 0)) := by rw [ha3]; exact ga_r la2
  have la3 : a3.1.length = n + 3 := by rw [ha3]; exact gl_a la2
  have ga3 := al_a (d := gA 7 (fun _ => 0)) (N := 7) (ga2) la2 (by omega); rw [← ha3] at ga3
  obtain ⟨a4, ha4⟩ : ∃ x : gm_H, x = (a3.1.set n (.inr (7, [.int (zI 0), .int (zI 0), .int (zI 0), .int (zI 0), .int (zI 0), .long (zL 0), .ref (n + 1), .ref (n + 2), .null, .null])), a3.2) := ⟨_, rfl⟩
  have f0a4 : a4.1[n]? = some (.inr (7, [.int (zI 0), .int (zI 0), .int (zI 0), .int (zI 0), .int (zI 0), .long (zL 0), .ref (n + 1), .ref (n + 2), .null, .null])) := by rw [ha4]; exact gs_s f0a3
  have fia4 := gs_n (c' := .inr (7, [.int (zI 0), .int (zI 0), .int (zI 0), .int (zI 0), .int (zI 0), .long (zL 0), .ref (n + 1), .ref (n + 2), .null, .null])) fia3 (show n ≠ n + 1 by omega); rw [← ha4] at fia4
  have fma4 := gs_n (c' := .inr (7, [.int (zI 0), .int (zI 0), .int (zI 0), .int (zI 0), .int (zI 0), .long (zL 0), .ref (n + 1), .ref (n + 2), .null, .null])) fma3 (show n ≠ n + 2 by omega); rw [← ha4] at fma4
  have la4 : a4.1.length = n + 3 := by rw [ha4]; exact gl_s la3
  have ga4 := al_s (k := n) (c := .inr (7, [.int (zI 0), .int (zI 0), .int (zI 0), .int (zI 0), .int (zI 0), .long (zL 0), .ref (n + 1), .ref (n + 2), .null, .null])) (ga3) (Nat.le_refl n); rw [← ha4] at ga4
  obtain ⟨a5, ha5⟩ : ∃ x : gm_H, x = (a4.1 ++ [gA 7 (fun _ => 0)], (a4.2.1 + 1, a4.2.2 + 7)) := ⟨_, rfl⟩
  have f0a5 := ga_l (d := gA 7 (fun _ => 0)) (x := (a4.2.1 + 1, a4.2.2 + 7)) f0a4; rw [← ha5] at f0a5
  have fia5 := ga_l (d := gA 7 (fun _ => 0)) (x := (a4.2.1 + 1, a4.2.2 + 7)) fia4; rw [← ha5] at fia5
  have fma5 := ga_l (d := gA 7 (fun _ => 0)) (x := (a4.2.1 + 1, a4.2.2 + 7)) fma4; rw [← ha5] at fma5
  have fda5 : a5.1[n + 3]? = some (gA 7 (fun _ => 0)) := by rw [ha5]; exact ga_r la4
  have la5 : a5.1.length = n + 4 := by rw [ha5]; exact gl_a la4
  have ga5 := al_a (d := gA 7 (fun _ => 0)) (N := 7) (ga4) la4 (by omega); rw [← ha5] at ga5
  obtain ⟨a6, ha6⟩ : ∃ x : gm_H, x = (a5.1.set n (.inr (7, [.int (zI 0), .int (zI 0), .int (zI 0), .int (zI 0), .int (zI 0), .long (zL 0), .ref (n + 1), .ref (n + 2), .ref (n + 3), .null])), a5.2) := ⟨_, rfl⟩
  have f0a6 : a6.1[n]? = some (.inr (7, [.int (zI 0), .int (zI 0), .int (zI 0), .int (zI 0), .int (zI 0), .long (zL 0), .ref (n + 1), .ref (n + 2), .ref (n + 3), .null])) := by rw [ha6]; exact gs_s f0a5
  have fia6 := gs_n (c' := .inr (7, [.int (zI 0), .int (zI 0), .int (zI 0), .int (zI 0), .int (zI 0), .long (zL 0), .ref (n + 1), .ref (n + 2), .ref (n + 3), .null])) fia5 (show n ≠ n + 1 by omega); rw [← ha6] at fia6
  have fma6 := gs_n (c' := .inr (7, [.int (zI 0), .int (zI 0), .int (zI 0), .int (zI 0), .int (zI 0), .long (zL 0), .ref (n + 1), .ref (n + 2), .ref (n + 3), .null])) fma5 (show n ≠ n + 2 by omega); rw [← ha6] at fma6
  have fda6 := gs_n (c' := .inr (7, [.int (zI 0), .int (zI 0), .int (zI 0), .int (zI 0), .int (zI 0), .long (zL 0), .ref (n + 1), .ref (n + 2), .ref (n + 3), .null])) fda5 (show n ≠ n + 3 by omega); rw [← ha6] at fda6
  have la6 : a6.1.length = n + 4 := by rw [ha6]; exact gl_s la5
  have ga6 := al_s (k := n) (c := .inr (7, [.int (zI 0), .int (zI 0), .int (zI 0), .int (zI 0), .int (zI 0), .long (zL 0), .ref (n + 1), .ref (n + 2), .ref (n + 3), .null])) (ga5) (Nat.le_refl n); rw [← ha6] at ga6
  obtain ⟨a7, ha7⟩ : ∃ x : gm_H, x = (a6.1 ++ [gA 7 (fun _ => 0)], (a6.2.1 + 1, a6.2.2 + 7)) := ⟨_, rfl⟩
  have f0a7 := ga_l (d := gA 7 (fun _ => 0)) (x := (a6.2.1 + 1, a6.2.2 + 7)) f0a6; rw [← ha7] at f0a7
  have fia7 := ga_l (d := gA 7 (fun _ => 0)) (x := (a6.2.1 + 1, a6.2.2 + 7)) fia6; rw [← ha7] at fia7
  have fma7 := ga_l (d := gA 7 (fun _ => 0)) (x := (a6.2.1 + 1, a6.2.2 + 7)) fma6; rw [← ha7] at fma7
  have fda7 := ga_l (d := gA 7 (fun _ => 0)) (x := (a6.2.1 + 1, a6.2.2 + 7)) fda6; rw [← ha7] at fda7
  have fwa7 : a7.1[n + 4]? = some (gA 7 (fun _ => 0)) := by rw [ha7]; exact ga_r la6
  have la7 : a7.1.length = n + 5 := by rw [ha7]; exact gl_a la6
  have ga7 := al_a (d := gA 7 (fun _ => 0)) (N := 7) (ga6) la6 (by omega); rw [← ha7] at ga7
  obtain ⟨a8, ha8⟩ : ∃ x : gm_H, x = (a7.1.set n (.inr (7, [.int (zI 0), .int (zI 0), .int (zI 0), .int (zI 0), .int (zI 0), .long (zL 0), .ref (n + 1), .ref (n + 2), .ref (n + 3), .ref (n + 4)])), a7.2) := ⟨_, rfl⟩
  have f0a8 : a8.1[n]? = some (.inr (7, [.int (zI 0), .int (zI 0), .int (zI 0), .int (zI 0), .int (zI 0), .long (zL 0), .ref (n + 1), .ref (n + 2), .ref (n + 3), .ref (n + 4)])) := by rw [ha8]; exact gs_s f0a7
  have fia8 := gs_n (c' := .inr (7, [.int (zI 0), .int (zI 0), .int (zI 0), .int (zI 0), .int (zI 0), .long (zL 0), .ref (n + 1), .ref (n + 2), .ref (n + 3), .ref (n + 4)])) fia7 (show n ≠ n + 1 by omega); rw [← ha8] at fia8
  have fma8 := gs_n (c' := .inr (7, [.int (zI 0), .int (zI 0), .int (zI 0), .int (zI 0), .int (zI 0), .long (zL 0), .ref (n + 1), .ref (n + 2), .ref (n + 3), .ref (n + 4)])) fma7 (show n ≠ n + 2 by omega); rw [← ha8] at fma8
  have fda8 := gs_n (c' := .inr (7, [.int (zI 0), .int (zI 0), .int (zI 0), .int (zI 0), .int (zI 0), .long (zL 0), .ref (n + 1), .ref (n + 2), .ref (n + 3), .ref (n + 4)])) fda7 (show n ≠ n + 3 by omega); rw [← ha8] at fda8
  have fwa8 := gs_n (c' := .inr (7, [.int (zI 0), .int (zI 0), .int (zI 0), .int (zI 0), .int (zI 0), .long (zL 0), .ref (n + 1), .ref (n + 2), .ref (n + 3), .ref (n + 4)])) fwa7 (show n ≠ n + 4 by omega); rw [← ha8] at fwa8
  have la8 : a8.1.length = n + 5 := by rw [ha8]; exact gl_s la7
  have ga8 := al_s (k := n) (c := .inr (7, [.int (zI 0), .int (zI 0), .int (zI 0), .int (zI 0), .int (zI 0), .long (zL 0), .ref (n + 1), .ref (n + 2), .ref (n + 3), .ref (n + 4)])) (ga7) (Nat.le_refl n); rw [← ha8] at ga8
  refine ⟨a8, ?_, la8, ⟨f0a8, _, _, _, _, fia8, fma8, fda8, fwa8, fun k hk => absurd hk (by unfold zV0; rw [if_neg (by omega)]; omega)⟩, ga8⟩
  refine gm_co_of _ (by decide +kernel) rfl (Nat.le_of_ble_eq_true rfl) rfl ?_
  refine gm_go.ru (gm_aload_n dX5_init_0 rfl (by first | exact Or.inl ⟨_, rfl⟩ | exact Or.inr ⟨_, rfl⟩)) ?_
  refine gm_go.ru (gm_objInit dX5_init_1 rfl (ol_X5_3 rfl) oi_i oi_c (Nat.le_of_ble_eq_true rfl) (by decide)) ?_
  refine gm_go.ru (gm_aload_n dX5_init_4 rfl (by first | exact Or.inl ⟨_, rfl⟩ | exact Or.inr ⟨_, rfl⟩)) ?_
  refine gm_go.ru (gi_bipush dX5_init_5 (by decide +kernel)) ?_
  refine gm_go.ru (gm_newa_int (N := 7) dX5_init_7 ac_int (by decide) rfl (by decide)) ?_
  rw [hl]; refine gm_hp ha1 ?_
  refine gm_go.ru (gm_put dX5_init_9 (fp_X5_9 rfl rfl) (by assumption) (Nat.le_of_ble_eq_true rfl) (by first | exact ⟨rfl, rfl⟩ | exact trivial)) ?_
  refine gm_hp ha2 ?_
  refine gm_go.ru (gm_aload_n dX5_init_12 rfl (by first | exact Or.inl ⟨_, rfl⟩ | exact Or.inr ⟨_, rfl⟩)) ?_
  refine gm_go.ru (gi_bipush dX5_init_13 (by decide +kernel)) ?_
  refine gm_go.ru (gm_newa_int (N := 7) dX5_init_15 ac_int (by decide) rfl (by decide)) ?_
  rw [la2]; refine gm_hp ha3 ?_
  refine gm_go.ru (gm_put dX5_init_17 (fp_X5_15 rfl rfl) (by assumption) (Nat.le_of_ble_eq_true rfl) (by first | exact ⟨rfl, rfl⟩ | exact trivial)) ?_
  refine gm_hp ha4 ?_
  refine gm_go.ru (gm_aload_n dX5_init_20 rfl (by first | exact Or.inl ⟨_, rfl⟩ | exact Or.inr ⟨_, rfl⟩)) ?_
  refine gm_go.ru (gi_bipush dX5_init_21 (by decide +kernel)) ?_
  refine gm_go.ru (gm_newa_int (N := 7) dX5_init_23 ac_int (by decide) rfl (by decide)) ?_
  rw [la4]; refine gm_hp ha5 ?_
  refine gm_go.ru (gm_put dX5_init_25 (fp_X5_18 rfl rfl) (by assumption) (Nat.le_of_ble_eq_true rfl) (by first | exact ⟨rfl, rfl⟩ | exact trivial)) ?_
  refine gm_hp ha6 ?_
  refine gm_go.ru (gm_aload_n dX5_init_28 rfl (by first | exact Or.inl ⟨_, rfl⟩ | exact Or.inr ⟨_, rfl⟩)) ?_
  refine gm_go.ru (gi_bipush dX5_init_29 (by decide +kernel)) ?_
  refine gm_go.ru (gm_newa_int (N := 7) dX5_init_31 ac_int (by decide) rfl (by decide)) ?_
  rw [la6]; refine gm_hp ha7 ?_
  refine gm_go.ru (gm_put dX5_init_33 (fp_X5_21 rfl rfl) (by assumption) (Nat.le_of_ble_eq_true rfl) (by first | exact ⟨rfl, rfl⟩ | exact trivial)) ?_
  refine gm_hp ha8 ?_
  exact gm_vret dX5_init_36 rfl
