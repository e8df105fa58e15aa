set_option maxRecDepth 4000 in
theorem ct_prInit {h : gm_H} {n : Nat} (hl : h.1.length = n + 1) (h0 : h.1[n]? = some (.inr (8, [.null, .null]))) : ∃ h', gm_co mX6_init 1 [.ref n] h (.inl none) h' ∧ h'.1.length = n + 3 ∧ pr_at h' n (fun _ => 0) (fun _ => 0) ∧ gh_al h h' n 2 264 := by
  obtain ⟨a1, ha1⟩ : ∃ x : gm_H, x = (h.1 ++ [gA 256 (fun _ => 0)], (h.2.1 + 1, h.2.2 + 256)) := ⟨_, rfl⟩
  have f0a1 := ga_l (d := gA 256 (fun _ => 0)) (x := (h.2.1 + 1, h.2.2 + 256)) h0; rw [← ha1] at f0a1
  have fsa1 : a1.1[n + 1]? = some (gA 256 (fun _ => 0)) := by rw [ha1]; exact ga_r hl
  have la1 : a1.1.length = n + 2 := by rw [ha1]; exact gl_a hl
  have ga1 := al_a (d := gA 256 (fun _ => 0)) (N := 256) (al_rf (h := h) (n := n)) hl (by omega); rw [← ha1] at ga1
  obtain ⟨a2, ha2⟩ : ∃ x : gm_H, x = (a1.1.set n (.inr (8, [.ref (n + 1), .null])), a1.2) := ⟨_, rfl⟩
  have f0a2 : a2.1[n]? = some (.inr (8, [.ref (n + 1), .null])) := by rw [ha2]; exact gs_s f0a1
  have fsa2 := gs_n (c' := .inr (8, [.ref (n + 1), .null])) fsa1 (show n ≠ n + 1 by omega); rw [← ha2] at fsa2
  have la2 : a2.1.length = n + 2 := by rw [ha2]; exact gl_s la1
  have ga2 := al_s (k := n) (c := .inr (8, [.ref (n + 1), .null])) (ga1) (Nat.le_refl n); rw [← ha2] at ga2
  obtain ⟨a3, ha3⟩ : ∃ x : gm_H, x = (a2.1 ++ [gA 8 (fun _ => 0)], (a2.2.1 + 1, a2.2.2 + 8)) := ⟨_, rfl⟩
  have f0a3 := ga_l (d := gA 8 (fun _ => 0)) (x := (a2.2.1 + 1, a2.2.2 + 8)) f0a2; rw [← ha3] at f0a3
  have fsa3 := ga_l (d := gA 8 (fun _ => 0)) (x := (a2.2.1 + 1, a2.2.2 + 8)) fsa2; rw [← ha3] at fsa3
  have fda3 : a3.1[n + 2]? = some (gA 8 (fun _ => 0)) := by rw [ha3]; exact ga_r la2
  have la3 : a3.1.length = n + 3 := by rw [ha3]; exact gl_a la2
  have ga3 := al_a (d := gA 8 (fun _ => 0)) (N := 8) (ga2) la2 (by omega); rw [← ha3] at ga3
  obtain ⟨a4, ha4⟩ : ∃ x : gm_H, x = (a3.1.set n (.inr (8, [.ref (n + 1), .ref (n + 2)])), a3.2) := ⟨_, rfl⟩
  have f0a4 : a4.1[n]? = some (.inr (8, [.ref (n + 1), .ref (n + 2)])) := by rw [ha4]; exact gs_s f0a3
  have fsa4 := gs_n (c' := .inr (8, [.ref (n + 1), .ref (n + 2)])) fsa3 (show n ≠ n + 1 by omega); rw [← ha4] at fsa4
  have fda4 := gs_n (c' := .inr (8, [.ref (n + 1), .ref (n + 2)])) fda3 (show n ≠ n + 2 by omega); rw [← ha4] at fda4
  have la4 : a4.1.length = n + 3 := by rw [ha4]; exact gl_s la3
  have ga4 := al_s (k := n) (c := .inr (8, [.ref (n + 1), .ref (n + 2)])) (ga3) (Nat.le_refl n); rw [← ha4] at ga4
  refine ⟨a4, ?_, la4, ⟨f0a4, fsa4, fda4⟩, ga4⟩
  refine gm_co_of _ (by decide +kernel) rfl (Nat.le_of_ble_eq_true rfl) rfl ?_
  refine gm_go.ru (gm_aload_n dX6_init_0 rfl (by first | exact Or.inl ⟨_, rfl⟩ | exact Or.inr ⟨_, rfl⟩)) ?_
  refine gm_go.ru (gm_objInit dX6_init_1 rfl (ol_X6_3 rfl) oi_i oi_c (Nat.le_of_ble_eq_true rfl) (by decide)) ?_
  refine gm_go.ru (gm_aload_n dX6_init_4 rfl (by first | exact Or.inl ⟨_, rfl⟩ | exact Or.inr ⟨_, rfl⟩)) ?_
  refine gm_go.ru (gi_sipush dX6_init_5 (by decide +kernel)) ?_
  refine gm_go.ru (gm_newa_int (N := 256) dX6_init_8 ac_int (by decide) rfl (by decide)) ?_
  rw [hl]; refine gm_hp ha1 ?_
  refine gm_go.ru (gm_put dX6_init_10 (fp_X6_9 rfl rfl) (by assumption) (Nat.le_of_ble_eq_true rfl) (by first | exact ⟨rfl, rfl⟩ | exact trivial)) ?_
  refine gm_hp ha2 ?_
  refine gm_go.ru (gm_aload_n dX6_init_13 rfl (by first | exact Or.inl ⟨_, rfl⟩ | exact Or.inr ⟨_, rfl⟩)) ?_
  refine gm_go.ru (gi_bipush dX6_init_14 (by decide +kernel)) ?_
  refine gm_go.ru (gm_newa_int (N := 8) dX6_init_16 ac_int (by decide) rfl (by decide)) ?_
  rw [la2]; refine gm_hp ha3 ?_
  refine gm_go.ru (gm_put dX6_init_18 (fp_X6_15 rfl rfl) (by assumption) (Nat.le_of_ble_eq_true rfl) (by first | exact ⟨rfl, rfl⟩ | exact trivial)) ?_
  refine gm_hp ha4 ?_
  exact gm_vret dX6_init_21 rfl
set_option maxRecDepth 4000 in
theorem ct_orInit {h : gm_H} {n : Nat} (hl : h.1.length = n + 1) (h0 : h.1[n]? = some (.inr (6, [.null]))) : ∃ h', gm_co mX4_init 1 [.ref n] h (.inl none) h' ∧ h'.1.length = n + 2 ∧ or_at h' n (fun _ => 0) ∧ gh_al h h' n 1 128 := by
  obtain ⟨a1, ha1⟩ : ∃ x : gm_H, x = (h.1 ++ [gA 128 (fun _ => 0)], (h.2.1 + 1, h.2.2 + 128)) := ⟨_, rfl⟩
  have f0a1 := ga_l (d := gA 128 (fun _ => 0)) (x := (h.2.1 + 1, h.2.2 + 128)) h0; rw [← ha1] at f0a1
  have fsa1 : a1.1[n + 1]? = some (gA 128 (fun _ => 0)) := by rw [ha1]; exact ga_r hl
  have la1 : a1.1.length = n + 2 := by rw [ha1]; exact gl_a hl
  have ga1 := al_a (d := gA 128 (fun _ => 0)) (N := 128) (al_rf (h := h) (n := n)) hl (by omega); rw [← ha1] at ga1
  obtain ⟨a2, ha2⟩ : ∃ x : gm_H, x = (a1.1.set n (.inr (6, [.ref (n + 1)])), a1.2) := ⟨_, rfl⟩
  have f0a2 : a2.1[n]? = some (.inr (6, [.ref (n + 1)])) := by rw [ha2]; exact gs_s f0a1
  have fsa2 := gs_n (c' := .inr (6, [.ref (n + 1)])) fsa1 (show n ≠ n + 1 by omega); rw [← ha2] at fsa2
  have la2 : a2.1.length = n + 2 := by rw [ha2]; exact gl_s la1
  have ga2 := al_s (k := n) (c := .inr (6, [.ref (n + 1)])) (ga1) (Nat.le_refl n); rw [← ha2] at ga2
  refine ⟨a2, ?_, la2, ⟨f0a2, fsa2⟩, ga2⟩
  refine gm_co_of _ (by decide +kernel) rfl (Nat.le_of_ble_eq_true rfl) rfl ?_
  refine gm_go.ru (gm_aload_n dX4_init_0 rfl (by first | exact Or.inl ⟨_, rfl⟩ | exact Or.inr ⟨_, rfl⟩)) ?_
  refine gm_go.ru (gm_objInit dX4_init_1 rfl (ol_X4_3 rfl) oi_i oi_c (Nat.le_of_ble_eq_true rfl) (by decide)) ?_
  refine gm_go.ru (gm_aload_n dX4_init_4 rfl (by first | exact Or.inl ⟨_, rfl⟩ | exact Or.inr ⟨_, rfl⟩)) ?_
  refine gm_go.ru (gi_sipush dX4_init_5 (by decide +kernel)) ?_
  refine gm_go.ru (gm_newa_int (N := 128) dX4_init_8 ac_int (by decide) rfl (by decide)) ?_
  rw [hl]; refine gm_hp ha1 ?_
  refine gm_go.ru (gm_put dX4_init_10 (fp_X4_9 rfl rfl) (by assumption) (Nat.le_of_ble_eq_true rfl) (by first | exact ⟨rfl, rfl⟩ | exact trivial)) ?_
  refine gm_hp ha2 ?_
  exact gm_vret dX4_init_13 rfl
set_option maxRecDepth 4000 in
theorem ct_pgInit {h : gm_H} {n : Nat} (hl : h.1.length = n + 1) (h0 : h.1[n]? = some (.inr (9, [.null, .int 0, .int 0, .null, .null, .int 0]))) : ∃ h', gm_co mX7_init 1 [.ref n] h (.inl none) h' ∧ h'.1.length = n + 3 ∧ pg_at h' n (fun _ => 0) 0 0 0 (fun _ => 0) 0 ∧ gh_al h h' n 2 63 := by
  obtain ⟨a1, ha1⟩ : ∃ x : gm_H, x = (h.1 ++ [gC 60 (fun _ => 0)], (h.2.1 + 1, h.2.2 + 60)) := ⟨_, rfl⟩
  have f0a1 := ga_l (d := gC 60 (fun _ => 0)) (x := (h.2.1 + 1, h.2.2 + 60)) h0; rw [← ha1] at f0a1
  have fsa1 : a1.1[n + 1]? = some (gC 60 (fun _ => 0)) := by rw [ha1]; exact ga_r hl
  have la1 : a1.1.length = n + 2 := by rw [ha1]; exact gl_a hl
  have ga1 := al_a (d := gC 60 (fun _ => 0)) (N := 60) (al_rf (h := h) (n := n)) hl (by omega); rw [← ha1] at ga1
  obtain ⟨a2, ha2⟩ : ∃ x : gm_H, x = (a1.1.set n (.inr (9, [.ref (n + 1), .int (zI 0), .int (zI 0), .null, .null, .int (zI 0)])), a1.2) := ⟨_, rfl⟩
  have f0a2 : a2.1[n]? = some (.inr (9, [.ref (n + 1), .int (zI 0), .int (zI 0), .null, .null, .int (zI 0)])) := by rw [ha2]; exact gs_s f0a1
  have fsa2 := gs_n (c' := .inr (9, [.ref (n + 1), .int (zI 0), .int (zI 0), .null, .null, .int (zI 0)])) fsa1 (show n ≠ n + 1 by omega); rw [← ha2] at fsa2
  have la2 : a2.1.length = n + 2 := by rw [ha2]; exact gl_s la1
  have ga2 := al_s (k := n) (c := .inr (9, [.ref (n + 1), .int (zI 0), .int (zI 0), .null, .null, .int (zI 0)])) (ga1) (Nat.le_refl n); rw [← ha2] at ga2
  obtain ⟨a3, ha3⟩ : ∃ x : gm_H, x = (a2.1.set n (.inr (9, [.ref (n + 1), .int (zI 0), .int (zI 0), .retAddr 7, .null, .int (zI 0)])), a2.2) := ⟨_, rfl⟩
  have f0a3 : a3.1[n]? = some (.inr (9, [.ref (n + 1), .int (zI 0), .int (zI 0), .retAddr 7, .null, .int (zI 0)])) := by rw [ha3]; exact gs_s f0a2
  have fsa3 := gs_n (c' := .inr (9, [.ref (n + 1), .int (zI 0), .int (zI 0), .retAddr 7, .null, .int (zI 0)])) fsa2 (show n ≠ n + 1 by omega); rw [← ha3] at fsa3
  have la3 : a3.1.length = n + 2 := by rw [ha3]; exact gl_s la2
  have ga3 := al_s (k := n) (c := .inr (9, [.ref (n + 1), .int (zI 0), .int (zI 0), .retAddr 7, .null, .int (zI 0)])) (ga2) (Nat.le_refl n); rw [← ha3] at ga3
  obtain ⟨a4, ha4⟩ : ∃ x : gm_H, x = (a3.1 ++ [gA 3 (fun _ => 0)], (a3.2.1 + 1, a3.2.2 + 3)) := ⟨_, rfl⟩
  have f0a4 := ga_l (d := gA 3 (fun _ => 0)) (x := (a3.2.1 + 1, a3.2.2 + 3)) f0a3; rw [← ha4] at f0a4
  have fsa4 := ga_l (d := gA 3 (fun _ => 0)) (x := (a3.2.1 + 1, a3.2.2 + 3)) fsa3; rw [← ha4] at fsa4
  have fda4 : a4.1[n + 2]? = some (gA 3 (fun _ => 0)) := by rw [ha4]; exact ga_r la3
  have la4 : a4.1.length = n + 3 := by rw [ha4]; exact gl_a la3
  have ga4 := al_a (d := gA 3 (fun _ => 0)) (N := 3) (ga3) la3 (by omega); rw [← ha4] at ga4
  obtain ⟨a5, ha5⟩ : ∃ x : gm_H, x = (a4.1.set n (.inr (9, [.ref (n + 1), .int (zI 0), .int (zI 0), .retAddr 7, .ref (n + 2), .int (zI 0)])), a4.2) := ⟨_, rfl⟩
  have f0a5 : a5.1[n]? = some (.inr (9, [.ref (n + 1), .int (zI 0), .int (zI 0), .retAddr 7, .ref (n + 2), .int (zI 0)])) := by rw [ha5]; exact gs_s f0a4
  have fsa5 := gs_n (c' := .inr (9, [.ref (n + 1), .int (zI 0), .int (zI 0), .retAddr 7, .ref (n + 2), .int (zI 0)])) fsa4 (show n ≠ n + 1 by omega); rw [← ha5] at fsa5
  have fda5 := gs_n (c' := .inr (9, [.ref (n + 1), .int (zI 0), .int (zI 0), .retAddr 7, .ref (n + 2), .int (zI 0)])) fda4 (show n ≠ n + 2 by omega); rw [← ha5] at fda5
  have la5 : a5.1.length = n + 3 := by rw [ha5]; exact gl_s la4
  have ga5 := al_s (k := n) (c := .inr (9, [.ref (n + 1), .int (zI 0), .int (zI 0), .retAddr 7, .ref (n + 2), .int (zI 0)])) (ga4) (Nat.le_refl n); rw [← ha5] at ga5
  refine ⟨a5, ?_, la5, ⟨f0a5, fsa5, fda5, by omega, by omega, fun i hi => absurd hi (by omega), by omega⟩, ga5⟩
  refine gm_co_of _ (by decide +kernel) rfl (Nat.le_of_ble_eq_true rfl) rfl ?_
  refine gm_go.ru (gm_aload_n dX7_init_0 rfl (by first | exact Or.inl ⟨_, rfl⟩ | exact Or.inr ⟨_, rfl⟩)) ?_
  refine gm_go.ru (gm_objInit dX7_init_1 rfl (ol_X7_3 rfl) oi_i oi_c (Nat.le_of_ble_eq_true rfl) (by decide)) ?_
  refine gm_go.ru (gm_aload_n dX7_init_4 rfl (by first | exact Or.inl ⟨_, rfl⟩ | exact Or.inr ⟨_, rfl⟩)) ?_
  refine gm_go.ru (gi_bipush dX7_init_5 (by decide +kernel)) ?_
  refine gm_go.ru (gm_newa_char (N := 60) dX7_init_7 ac_char (by decide) rfl (by decide)) ?_
  rw [hl]; refine gm_hp ha1 ?_
  refine gm_go.ru (gm_put dX7_init_9 (fp_X7_9 rfl rfl) (by assumption) (Nat.le_of_ble_eq_true rfl) (by first | exact ⟨rfl, rfl⟩ | exact trivial)) ?_
  refine gm_hp ha2 ?_
  refine gm_go.ru (gm_aload_n dX7_init_12 rfl (by first | exact Or.inl ⟨_, rfl⟩ | exact Or.inr ⟨_, rfl⟩)) ?_
  refine gm_go.ru (gm_gets (v := .retAddr 7) dX7_init_13 (by decide +kernel) (sl_X7_15 rfl) rfl) ?_
  refine gm_go.ru (gm_put dX7_init_16 (fp_X7_21 rfl) (by assumption) (Nat.le_of_ble_eq_true rfl) (by first | exact ⟨rfl, rfl⟩ | exact trivial)) ?_
  refine gm_hp ha3 ?_
  refine gm_go.ru (gm_aload_n dX7_init_19 rfl (by first | exact Or.inl ⟨_, rfl⟩ | exact Or.inr ⟨_, rfl⟩)) ?_
  refine gm_go.ru (gi_const dX7_init_20) ?_
  refine gm_go.ru (gm_newa_int (N := 3) dX7_init_21 ac_int (by decide) rfl (by decide)) ?_
  rw [la3]; refine gm_hp ha4 ?_
  refine gm_go.ru (gm_put dX7_init_23 (fp_X7_24 rfl rfl) (by assumption) (Nat.le_of_ble_eq_true rfl) (by first | exact ⟨rfl, rfl⟩ | exact trivial)) ?_
  refine gm_hp ha5 ?_
  exact gm_vret dX7_init_26 rfl
