theorem hi_lo {h h' : gm_H} {m p c : Nat} {P : Nat → Nat → Int} (e : ∀ k, k < m → h'.1[k]? = h.1[k]?) (hp : p + 83 ≤ m) (hN : hi_at h p P c) : hi_at h' p P c := by
  obtain ⟨f, R, ⟨a1, a2, a3, a4, a5⟩, b⟩ := hN
  exact ⟨f, R, ⟨a1, a2, (e _ (by omega)).trans a3, (e _ (by omega)).trans a4, fun i hi => ⟨st_lo e (by omega) (a5 i hi).1, (a5 i hi).2⟩⟩, b⟩
theorem pr_lo {h h' : gm_H} {m p : Nat} {F A : Nat → Int} (e : ∀ k, k < m → h'.1[k]? = h.1[k]?) (hp : p + 3 ≤ m) (hN : pr_at h p F A) : pr_at h' p F A := ⟨(e _ (by omega)).trans hN.1, (e _ (by omega)).trans hN.2.1, (e _ (by omega)).trans hN.2.2⟩
theorem or_lo {h h' : gm_H} {m p : Nat} {F : Nat → Int} (e : ∀ k, k < m → h'.1[k]? = h.1[k]?) (hp : p + 2 ≤ m) (hN : or_at h p F) : or_at h' p F := ⟨(e _ (by omega)).trans hN.1, (e _ (by omega)).trans hN.2⟩
theorem sbr_lo {h h' : gm_H} {m s c : Nat} {q : Nat × Nat} {G : Nat → Int} (e : ∀ k, k < m → h'.1[k]? = h.1[k]?) (hp : s < m) (hq : q.1 < m) (hN : sbr_at h s q G c) : sbr_at h' s q G c := by
  obtain ⟨a1, a2, a3, ml, F, a4, a5, a6⟩ := hN
  exact ⟨a1, a2, a3, ml, F, (e _ hp).trans a4, (e _ hq).trans a5, a6⟩
theorem sbr_f {h h' : gm_H} {K : Nat → Prop} {s c : Nat} {q : Nat × Nat} {G : Nat → Int} (f : gh_fr h h' K) (h0 : ¬ K s) (h1 : ¬ K q.1) (hN : sbr_at h s q G c) : sbr_at h' s q G c := by
  obtain ⟨a1, a2, a3, ml, F, a4, a5, a6⟩ := hN
  exact ⟨a1, a2, a3, ml, F, gh_at f a4 h0, gh_at f a5 h1, a6⟩
set_option maxRecDepth 4000 in
theorem ct_byInit {h : gm_H} {n : Nat} (hl : h.1.length = n + 1) (h0 : h.1[n]? = some (.inr (11, [.null, .null, .int 0, .null, .null, .null, .null, .null, .null, .int 0, .int 0]))) : ∃ h', gm_co mX10_init 4 [.ref n] h (.inl none) h' ∧ h'.1.length = n + 113 ∧ h'.1[n]? = some (by_c n 0 (-1) (-1)) ∧ st_at h' (n + 1) zV0 ∧ st_at h' (n + 10) zV0 ∧ hi_at h' (n + 19) (fun _ => zV0) 0 ∧ pr_at h' (n + 102) (fun _ => 0) (fun _ => 0) ∧ or_at h' (n + 105) (fun _ => 0) ∧ h'.1[n + 107]? = some (gA 360 (fun _ => 0)) ∧ sbr_at h' (n + 108) (n + 108 + 1, 16) (fun _ => 0) 0 ∧ pg_at h' (n + 110) (fun _ => 0) 0 0 0 (fun _ => 0) 0 ∧ gh_al h h' n 112 2143 := by
  obtain ⟨b0, hb0⟩ : ∃ x : gm_H, x = h := ⟨_, rfl⟩
  have c0 : b0.1[n]? = some (.inr (11, [.null, .null, .int 0, .null, .null, .null, .null, .null, .null, .int 0, .int 0])) := by rw [hb0]; exact h0
  have l0 : b0.1.length = n + 1 := by rw [hb0]; exact hl
  have t0 : gh_al h b0 n 0 0 := by rw [hb0]; exact al_rf
  obtain ⟨a1, ha1⟩ : ∃ x : gm_H, x = (b0.1 ++ [.inr (10, [.null, .null])], (b0.2.1 + 1, b0.2.2 + 2)) := ⟨_, rfl⟩
  have la1 : a1.1.length = n + 1 + 1 := by rw [ha1]; exact gl_a l0
  have na1 : a1.1[n + 1]? = some (.inr (10, [.null, .null])) := by rw [ha1]; exact ga_r l0
  have ea1 : ∀ k, k < n + 1 → a1.1[k]? = b0.1[k]? := fun k hk => by rw [ha1]; show (b0.1 ++ [_])[k]? = _; rw [List.getElem?_append_left (by omega)]
  have ta1 := al_a (d := .inr (10, [.null, .null])) (N := 2) t0 l0 (by omega); rw [← ha1] at ta1
  obtain ⟨d1, i1, ld1, x1, g1⟩ := ct_stInit la1 na1
  have ld1 : d1.1.length = n + 10 := by rw [ld1]
  have ed1 : ∀ k, k < n + 1 → d1.1[k]? = b0.1[k]? := fun k hk => (g1.2 k hk).trans (ea1 k hk)
  have td1 := al_tr ta1 g1 (by omega)
  have cd1 := (ed1 n (by omega)).trans c0
  obtain ⟨b1, hb1⟩ : ∃ x : gm_H, x = (d1.1.set n (.inr (11, [.ref (n + 1), .null, .int 0, .null, .null, .null, .null, .null, .null, .int 0, .int 0])), d1.2) := ⟨_, rfl⟩
  have c1 : b1.1[n]? = some (.inr (11, [.ref (n + 1), .null, .int 0, .null, .null, .null, .null, .null, .null, .int 0, .int 0])) := by rw [hb1]; exact gs_s cd1
  have l1 : b1.1.length = n + 10 := by rw [hb1]; exact gl_s ld1
  have f1 : gh_fr d1 b1 (fun k => k = n) := by rw [hb1]; exact gh_set (K := fun k => k = n) gh_rf rfl _
  have t1 := al_s (k := n) (c := .inr (11, [.ref (n + 1), .null, .int 0, .null, .null, .null, .null, .null, .null, .int 0, .int 0])) td1 (Nat.le_refl n); rw [← hb1] at t1
  have y1_1 := st_fr f1 (fun k hk z => by have := hk.1; omega) (x1)
  obtain ⟨a2, ha2⟩ : ∃ x : gm_H, x = (b1.1 ++ [.inr (10, [.null, .null])], (b1.2.1 + 1, b1.2.2 + 2)) := ⟨_, rfl⟩
  have la2 : a2.1.length = n + 10 + 1 := by rw [ha2]; exact gl_a l1
  have na2 : a2.1[n + 10]? = some (.inr (10, [.null, .null])) := by rw [ha2]; exact ga_r l1
  have ea2 : ∀ k, k < n + 10 → a2.1[k]? = b1.1[k]? := fun k hk => by rw [ha2]; show (b1.1 ++ [_])[k]? = _; rw [List.getElem?_append_left (by omega)]
  have ta2 := al_a (d := .inr (10, [.null, .null])) (N := 2) t1 l1 (by omega); rw [← ha2] at ta2
  obtain ⟨d2, i2, ld2, x2, g2⟩ := ct_stInit la2 na2
  have ld2 : d2.1.length = n + 19 := by rw [ld2]
  have ed2 : ∀ k, k < n + 10 → d2.1[k]? = b1.1[k]? := fun k hk => (g2.2 k hk).trans (ea2 k hk)
  have td2 := al_tr ta2 g2 (by omega)
  have cd2 := (ed2 n (by omega)).trans c1
  obtain ⟨b2, hb2⟩ : ∃ x : gm_H, x = (d2.1.set n (.inr (11, [.ref (n + 1), .ref (n + 10), .int 0, .null, .null, .null, .null, .null, .null, .int 0, .int 0])), d2.2) := ⟨_, rfl⟩
  have c2 : b2.1[n]? = some (.inr (11, [.ref (n + 1), .ref (n + 10), .int 0, .null, .null, .null, .null, .null, .null, .int 0, .int 0])) := by rw [hb2]; exact gs_s cd2
  have l2 : b2.1.length = n + 19 := by rw [hb2]; exact gl_s ld2
  have f2 : gh_fr d2 b2 (fun k => k = n) := by rw [hb2]; exact gh_set (K := fun k => k = n) gh_rf rfl _
  have t2 := al_s (k := n) (c := .inr (11, [.ref (n + 1), .ref (n + 10), .int 0, .null, .null, .null, .null, .null, .null, .int 0, .int 0])) td2 (Nat.le_refl n); rw [← hb2] at t2
  have y2_1 := st_fr f2 (fun k hk z => by have := hk.1; omega) (st_lo ed2 (by omega) y1_1)
  have y2_10 := st_fr f2 (fun k hk z => by have := hk.1; omega) (x2)
  obtain ⟨a3, ha3⟩ : ∃ x : gm_H, x = (b2.1 ++ [.inr (4, [.null, .int 0, .int 0])], (b2.2.1 + 1, b2.2.2 + 3)) := ⟨_, rfl⟩
  have la3 : a3.1.length = n + 19 + 1 := by rw [ha3]; exact gl_a l2
  have na3 : a3.1[n + 19]? = some (.inr (4, [.null, .int 0, .int 0])) := by rw [ha3]; exact ga_r l2
  have ea3 : ∀ k, k < n + 19 → a3.1[k]? = b2.1[k]? := fun k hk => by rw [ha3]; show (b2.1 ++ [_])[k]? = _; rw [List.getElem?_append_left (by omega)]
  have ta3 := al_a (d := .inr (4, [.null, .int 0, .int 0])) (N := 3) t2 l2 (by omega); rw [← ha3] at ta3
  obtain ⟨d3, i3, ld3, x3, g3⟩ := ct_hiInit la3 na3
  have ld3 : d3.1.length = n + 102 := by rw [ld3]
  have ed3 : ∀ k, k < n + 19 → d3.1[k]? = b2.1[k]? := fun k hk => (g3.2 k hk).trans (ea3 k hk)
  have td3 := al_tr ta3 g3 (by omega)
  have cd3 := (ed3 n (by omega)).trans c2
  obtain ⟨b3, hb3⟩ : ∃ x : gm_H, x = (d3.1.set n (.inr (11, [.ref (n + 1), .ref (n + 10), .int 0, .ref (n + 19), .null, .null, .null, .null, .null, .int 0, .int 0])), d3.2) := ⟨_, rfl⟩
  have c3 : b3.1[n]? = some (.inr (11, [.ref (n + 1), .ref (n + 10), .int 0, .ref (n + 19), .null, .null, .null, .null, .null, .int 0, .int 0])) := by rw [hb3]; exact gs_s cd3
  have l3 : b3.1.length = n + 102 := by rw [hb3]; exact gl_s ld3
  have f3 : gh_fr d3 b3 (fun k => k = n) := by rw [hb3]; exact gh_set (K := fun k => k = n) gh_rf rfl _
  have t3 := al_s (k := n) (c := .inr (11, [.ref (n + 1), .ref (n + 10), .int 0, .ref (n + 19), .null, .null, .null, .null, .null, .int 0, .int 0])) td3 (Nat.le_refl n); rw [← hb3] at t3
  have y3_1 := st_fr f3 (fun k hk z => by have := hk.1; omega) (st_lo ed3 (by omega) y2_1)
  have y3_10 := st_fr f3 (fun k hk z => by have := hk.1; omega) (st_lo ed3 (by omega) y2_10)
  have y3_19 := hi_fr f3 (fun k hk z => by have := hk.1; omega) (x3)
  obtain ⟨a4, ha4⟩ : ∃ x : gm_H, x = (b3.1 ++ [.inr (8, [.null, .null])], (b3.2.1 + 1, b3.2.2 + 2)) := ⟨_, rfl⟩
  have la4 : a4.1.length = n + 102 + 1 := by rw [ha4]; exact gl_a l3
  have na4 : a4.1[n + 102]? = some (.inr (8, [.null, .null])) := by rw [ha4]; exact ga_r l3
  have ea4 : ∀ k, k < n + 102 → a4.1[k]? = b3.1[k]? := fun k hk => by rw [ha4]; show (b3.1 ++ [_])[k]? = _; rw [List.getElem?_append_left (by omega)]
  have ta4 := al_a (d := .inr (8, [.null, .null])) (N := 2) t3 l3 (by omega); rw [← ha4] at ta4
  obtain ⟨d4, i4, ld4, x4, g4⟩ := ct_prInit la4 na4
  have ld4 : d4.1.length = n + 105 := by rw [ld4]
  have ed4 : ∀ k, k < n + 102 → d4.1[k]? = b3.1[k]? := fun k hk => (g4.2 k hk).trans (ea4 k hk)
  have td4 := al_tr ta4 g4 (by omega)
  have cd4 := (ed4 n (by omega)).trans c3
  obtain ⟨b4, hb4⟩ : ∃ x : gm_H, x = (d4.1.set n (.inr (11, [.ref (n + 1), .ref (n + 10), .int 0, .ref (n + 19), .ref (n + 102), .null, .null, .null, .null, .int 0, .int 0])), d4.2) := ⟨_, rfl⟩
  have c4 : b4.1[n]? = some (.inr (11, [.ref (n + 1), .ref (n + 10), .int 0, .ref (n + 19), .ref (n + 102), .null, .null, .null, .null, .int 0, .int 0])) := by rw [hb4]; exact gs_s cd4
  have l4 : b4.1.length = n + 105 := by rw [hb4]; exact gl_s ld4
  have f4 : gh_fr d4 b4 (fun k => k = n) := by rw [hb4]; exact gh_set (K := fun k => k = n) gh_rf rfl _
  have t4 := al_s (k := n) (c := .inr (11, [.ref (n + 1), .ref (n + 10), .int 0, .ref (n + 19), .ref (n + 102), .null, .null, .null, .null, .int 0, .int 0])) td4 (Nat.le_refl n); rw [← hb4] at t4
  have y4_1 := st_fr f4 (fun k hk z => by have := hk.1; omega) (st_lo ed4 (by omega) y3_1)
  have y4_10 := st_fr f4 (fun k hk z => by have := hk.1; omega) (st_lo ed4 (by omega) y3_10)
  have y4_19 := hi_fr f4 (fun k hk z => by have := hk.1; omega) (hi_lo ed4 (by omega) y3_19)
  have y4_102 := pr_fr f4 (by omega) (by omega) (by omega) (x4)
  obtain ⟨a5, ha5⟩ : ∃ x : gm_H, x = (b4.1 ++ [.inr (6, [.null])], (b4.2.1 + 1, b4.2.2 + 1)) := ⟨_, rfl⟩
  have la5 : a5.1.length = n + 105 + 1 := by rw [ha5]; exact gl_a l4
  have na5 : a5.1[n + 105]? = some (.inr (6, [.null])) := by rw [ha5]; exact ga_r l4
  have ea5 : ∀ k, k < n + 105 → a5.1[k]? = b4.1[k]? := fun k hk => by rw [ha5]; show (b4.1 ++ [_])[k]? = _; rw [List.getElem?_append_left (by omega)]
  have ta5 := al_a (d := .inr (6, [.null])) (N := 1) t4 l4 (by omega); rw [← ha5] at ta5
  obtain ⟨d5, i5, ld5, x5, g5⟩ := ct_orInit la5 na5
  have ld5 : d5.1.length = n + 107 := by rw [ld5]
  have ed5 : ∀ k, k < n + 105 → d5.1[k]? = b4.1[k]? := fun k hk => (g5.2 k hk).trans (ea5 k hk)
  have td5 := al_tr ta5 g5 (by omega)
  have cd5 := (ed5 n (by omega)).trans c4
  obtain ⟨b5, hb5⟩ : ∃ x : gm_H, x = (d5.1.set n (.inr (11, [.ref (n + 1), .ref (n + 10), .int 0, .ref (n + 19), .ref (n + 102), .ref (n + 105), .null, .null, .null, .int 0, .int 0])), d5.2) := ⟨_, rfl⟩
  have c5 : b5.1[n]? = some (.inr (11, [.ref (n + 1), .ref (n + 10), .int 0, .ref (n + 19), .ref (n + 102), .ref (n + 105), .null, .null, .null, .int 0, .int 0])) := by rw [hb5]; exact gs_s cd5
  have l5 : b5.1.length = n + 107 := by rw [hb5]; exact gl_s ld5
  have f5 : gh_fr d5 b5 (fun k => k = n) := by rw [hb5]; exact gh_set (K := fun k => k = n) gh_rf rfl _
  have t5 := al_s (k := n) (c := .inr (11, [.ref (n + 1), .ref (n + 10), .int 0, .ref (n + 19), .ref (n + 102), .ref (n + 105), .null, .null, .null, .int 0, .int 0])) td5 (Nat.le_refl n); rw [← hb5] at t5
  have y5_1 := st_fr f5 (fun k hk z => by have := hk.1; omega) (st_lo ed5 (by omega) y4_1)
  have y5_10 := st_fr f5 (fun k hk z => by have := hk.1; omega) (st_lo ed5 (by omega) y4_10)
  have y5_19 := hi_fr f5 (fun k hk z => by have := hk.1; omega) (hi_lo ed5 (by omega) y4_19)
  have y5_102 := pr_fr f5 (by omega) (by omega) (by omega) (pr_lo ed5 (by omega) y4_102)
  have y5_105 := or_fr f5 (by omega) (by omega) (x5)
  obtain ⟨a6, ha6⟩ : ∃ x : gm_H, x = (b5.1 ++ [gA 360 (fun _ => 0)], (b5.2.1 + 1, b5.2.2 + 360)) := ⟨_, rfl⟩
  have la6 : a6.1.length = n + 107 + 1 := by rw [ha6]; exact gl_a l5
  have na6 : a6.1[n + 107]? = some (gA 360 (fun _ => 0)) := by rw [ha6]; exact ga_r l5
  have ea6 : ∀ k, k < n + 107 → a6.1[k]? = b5.1[k]? := fun k hk => by rw [ha6]; show (b5.1 ++ [_])[k]? = _; rw [List.getElem?_append_left (by omega)]
  have ta6 := al_a (d := gA 360 (fun _ => 0)) (N := 360) t5 l5 (by omega); rw [← ha6] at ta6
  obtain ⟨d6, hd6⟩ : ∃ x : gm_H, x = a6 := ⟨_, rfl⟩
  have ld6 : d6.1.length = n + 108 := by rw [hd6, la6]
  have x6 : d6.1[n + 107]? = some (gA 360 (fun _ => 0)) := by rw [hd6]; exact na6
  have ed6 : ∀ k, k < n + 107 → d6.1[k]? = b5.1[k]? := fun k hk => by rw [hd6]; exact ea6 k hk
  have td6 := ta6; rw [← hd6] at td6
  have cd6 := (ed6 n (by omega)).trans c5
  obtain ⟨b6, hb6⟩ : ∃ x : gm_H, x = (d6.1.set n (.inr (11, [.ref (n + 1), .ref (n + 10), .int 0, .ref (n + 19), .ref (n + 102), .ref (n + 105), .ref (n + 107), .null, .null, .int 0, .int 0])), d6.2) := ⟨_, rfl⟩
  have c6 : b6.1[n]? = some (.inr (11, [.ref (n + 1), .ref (n + 10), .int 0, .ref (n + 19), .ref (n + 102), .ref (n + 105), .ref (n + 107), .null, .null, .int 0, .int 0])) := by rw [hb6]; exact gs_s cd6
  have l6 : b6.1.length = n + 108 := by rw [hb6]; exact gl_s ld6
  have f6 : gh_fr d6 b6 (fun k => k = n) := by rw [hb6]; exact gh_set (K := fun k => k = n) gh_rf rfl _
  have t6 := al_s (k := n) (c := .inr (11, [.ref (n + 1), .ref (n + 10), .int 0, .ref (n + 19), .ref (n + 102), .ref (n + 105), .ref (n + 107), .null, .null, .int 0, .int 0])) td6 (Nat.le_refl n); rw [← hb6] at t6
  have y6_1 := st_fr f6 (fun k hk z => by have := hk.1; omega) (st_lo ed6 (by omega) y5_1)
  have y6_10 := st_fr f6 (fun k hk z => by have := hk.1; omega) (st_lo ed6 (by omega) y5_10)
  have y6_19 := hi_fr f6 (fun k hk z => by have := hk.1; omega) (hi_lo ed6 (by omega) y5_19)
  have y6_102 := pr_fr f6 (by omega) (by omega) (by omega) (pr_lo ed6 (by omega) y5_102)
  have y6_105 := or_fr f6 (by omega) (by omega) (or_lo ed6 (by omega) y5_105)
  have y6_107 := gh_at f6 (x6) (by omega)
  obtain ⟨a7, ha7⟩ : ∃ x : gm_H, x = (b6.1 ++ [.inr (1, [.null, .int 0, .int 0, .int 0])], (b6.2.1 + 1, b6.2.2 + 4)) := ⟨_, rfl⟩
  have la7 : a7.1.length = n + 108 + 1 := by rw [ha7]; exact gl_a l6
  have na7 : a7.1[n + 108]? = some (.inr (1, [.null, .int 0, .int 0, .int 0])) := by rw [ha7]; exact ga_r l6
  have ea7 : ∀ k, k < n + 108 → a7.1[k]? = b6.1[k]? := fun k hk => by rw [ha7]; show (b6.1 ++ [_])[k]? = _; rw [List.getElem?_append_left (by omega)]
  have ta7 := al_a (d := .inr (1, [.null, .int 0, .int 0, .int 0])) (N := 4) t6 l6 (by omega); rw [← ha7] at ta7
  obtain ⟨d7, i7, x7, ld7, g7⟩ := ct_sbInit na7
  rw [la7] at x7 ld7
  have ld7 : d7.1.length = n + 110 := ld7
  have ed7 : ∀ k, k < n + 108 → d7.1[k]? = b6.1[k]? := fun k hk => (g7.2 k hk).trans (ea7 k hk)
  have td7 := al_tr ta7 g7 (by omega)
  have cd7 := (ed7 n (by omega)).trans c6
  obtain ⟨b7, hb7⟩ : ∃ x : gm_H, x = (d7.1.set n (.inr (11, [.ref (n + 1), .ref (n + 10), .int 0, .ref (n + 19), .ref (n + 102), .ref (n + 105), .ref (n + 107), .ref (n + 108), .null, .int 0, .int 0])), d7.2) := ⟨_, rfl⟩
  have c7 : b7.1[n]? = some (.inr (11, [.ref (n + 1), .ref (n + 10), .int 0, .ref (n + 19), .ref (n + 102), .ref (n + 105), .ref (n + 107), .ref (n + 108), .null, .int 0, .int 0])) := by rw [hb7]; exact gs_s cd7
  have l7 : b7.1.length = n + 110 := by rw [hb7]; exact gl_s ld7
  have f7 : gh_fr d7 b7 (fun k => k = n) := by rw [hb7]; exact gh_set (K := fun k => k = n) gh_rf rfl _
  have t7 := al_s (k := n) (c := .inr (11, [.ref (n + 1), .ref (n + 10), .int 0, .ref (n + 19), .ref (n + 102), .ref (n + 105), .ref (n + 107), .ref (n + 108), .null, .int 0, .int 0])) td7 (Nat.le_refl n); rw [← hb7] at t7
  have y7_1 := st_fr f7 (fun k hk z => by have := hk.1; omega) (st_lo ed7 (by omega) y6_1)
  have y7_10 := st_fr f7 (fun k hk z => by have := hk.1; omega) (st_lo ed7 (by omega) y6_10)
  have y7_19 := hi_fr f7 (fun k hk z => by have := hk.1; omega) (hi_lo ed7 (by omega) y6_19)
  have y7_102 := pr_fr f7 (by omega) (by omega) (by omega) (pr_lo ed7 (by omega) y6_102)
  have y7_105 := or_fr f7 (by omega) (by omega) (or_lo ed7 (by omega) y6_105)
  have y7_107 := gh_at f7 ((ed7 _ (by omega)).trans y6_107) (by omega)
  have y7_108 := sbr_f f7 (by omega) (show ¬ n + 108 + 1 = n by omega) (x7)
  obtain ⟨a8, ha8⟩ : ∃ x : gm_H, x = (b7.1 ++ [.inr (9, [.null, .int 0, .int 0, .null, .null, .int 0])], (b7.2.1 + 1, b7.2.2 + 6)) := ⟨_, rfl⟩
  have la8 : a8.1.length = n + 110 + 1 := by rw [ha8]; exact gl_a l7
  have na8 : a8.1[n + 110]? = some (.inr (9, [.null, .int 0, .int 0, .null, .null, .int 0])) := by rw [ha8]; exact ga_r l7
  have ea8 : ∀ k, k < n + 110 → a8.1[k]? = b7.1[k]? := fun k hk => by rw [ha8]; show (b7.1 ++ [_])[k]? = _; rw [List.getElem?_append_left (by omega)]
  have ta8 := al_a (d := .inr (9, [.null, .int 0, .int 0, .null, .null, .int 0])) (N := 6) t7 l7 (by omega); rw [← ha8] at ta8
  obtain ⟨d8, i8, ld8, x8, g8⟩ := ct_pgInit la8 na8
  have ld8 : d8.1.length = n + 113 := by rw [ld8]
  have ed8 : ∀ k, k < n + 110 → d8.1[k]? = b7.1[k]? := fun k hk => (g8.2 k hk).trans (ea8 k hk)
  have td8 := al_tr ta8 g8 (by omega)
  have cd8 := (ed8 n (by omega)).trans c7
  obtain ⟨b8, hb8⟩ : ∃ x : gm_H, x = (d8.1.set n (.inr (11, [.ref (n + 1), .ref (n + 10), .int 0, .ref (n + 19), .ref (n + 102), .ref (n + 105), .ref (n + 107), .ref (n + 108), .ref (n + 110), .int 0, .int 0])), d8.2) := ⟨_, rfl⟩
  have c8 : b8.1[n]? = some (.inr (11, [.ref (n + 1), .ref (n + 10), .int 0, .ref (n + 19), .ref (n + 102), .ref (n + 105), .ref (n + 107), .ref (n + 108), .ref (n + 110), .int 0, .int 0])) := by rw [hb8]; exact gs_s cd8
  have l8 : b8.1.length = n + 113 := by rw [hb8]; exact gl_s ld8
  have f8 : gh_fr d8 b8 (fun k => k = n) := by rw [hb8]; exact gh_set (K := fun k => k = n) gh_rf rfl _
  have t8 := al_s (k := n) (c := .inr (11, [.ref (n + 1), .ref (n + 10), .int 0, .ref (n + 19), .ref (n + 102), .ref (n + 105), .ref (n + 107), .ref (n + 108), .ref (n + 110), .int 0, .int 0])) td8 (Nat.le_refl n); rw [← hb8] at t8
  have y8_1 := st_fr f8 (fun k hk z => by have := hk.1; omega) (st_lo ed8 (by omega) y7_1)
  have y8_10 := st_fr f8 (fun k hk z => by have := hk.1; omega) (st_lo ed8 (by omega) y7_10)
  have y8_19 := hi_fr f8 (fun k hk z => by have := hk.1; omega) (hi_lo ed8 (by omega) y7_19)
  have y8_102 := pr_fr f8 (by omega) (by omega) (by omega) (pr_lo ed8 (by omega) y7_102)
  have y8_105 := or_fr f8 (by omega) (by omega) (or_lo ed8 (by omega) y7_105)
  have y8_107 := gh_at f8 ((ed8 _ (by omega)).trans y7_107) (by omega)
  have y8_108 := sbr_f f8 (by omega) (show ¬ n + 108 + 1 = n by omega) (sbr_lo ed8 (by omega) (show n + 108 + 1 < n + 110 by omega) y7_108)
  have y8_110 := pg_fr f8 (fun k hk z => by have := hk.1; omega) (x8)
  obtain ⟨b9, hb9⟩ : ∃ x : gm_H, x = (b8.1.set n (.inr (11, [.ref (n + 1), .ref (n + 10), .int 0, .ref (n + 19), .ref (n + 102), .ref (n + 105), .ref (n + 107), .ref (n + 108), .ref (n + 110), .int (zI (-1)), .int 0])), b8.2) := ⟨_, rfl⟩
  have c9 : b9.1[n]? = some (.inr (11, [.ref (n + 1), .ref (n + 10), .int 0, .ref (n + 19), .ref (n + 102), .ref (n + 105), .ref (n + 107), .ref (n + 108), .ref (n + 110), .int (zI (-1)), .int 0])) := by rw [hb9]; exact gs_s c8
  have t9 := al_s (k := n) (c := .inr (11, [.ref (n + 1), .ref (n + 10), .int 0, .ref (n + 19), .ref (n + 102), .ref (n + 105), .ref (n + 107), .ref (n + 108), .ref (n + 110), .int (zI (-1)), .int 0])) t8 (Nat.le_refl n); rw [← hb9] at t9
  obtain ⟨b10, hb10⟩ : ∃ x : gm_H, x = (b9.1.set n (.inr (11, [.ref (n + 1), .ref (n + 10), .int 0, .ref (n + 19), .ref (n + 102), .ref (n + 105), .ref (n + 107), .ref (n + 108), .ref (n + 110), .int (zI (-1)), .int (zI (-1))])), b9.2) := ⟨_, rfl⟩
  have c10 : b10.1[n]? = some (.inr (11, [.ref (n + 1), .ref (n + 10), .int 0, .ref (n + 19), .ref (n + 102), .ref (n + 105), .ref (n + 107), .ref (n + 108), .ref (n + 110), .int (zI (-1)), .int (zI (-1))])) := by rw [hb10]; exact gs_s c9
  have t10 := al_s (k := n) (c := .inr (11, [.ref (n + 1), .ref (n + 10), .int 0, .ref (n + 19), .ref (n + 102), .ref (n + 105), .ref (n + 107), .ref (n + 108), .ref (n + 110), .int (zI (-1)), .int (zI (-1))])) t9 (Nat.le_refl n); rw [← hb10] at t10
  have f10 : gh_fr b8 b10 (fun k => k = n) := by rw [hb10, hb9]; exact gh_set (K := fun k => k = n) (gh_set (K := fun k => k = n) gh_rf rfl _) rfl _
  have l10 : b10.1.length = n + 113 := by rw [f10.2.1]; exact l8
  refine ⟨b10, ?_, l10, c10, st_fr f10 (fun k hk z => by have := hk.1; omega) y8_1, st_fr f10 (fun k hk z => by have := hk.1; omega) y8_10, hi_fr f10 (fun k hk z => by have := hk.1; omega) y8_19, pr_fr f10 (by omega) (by omega) (by omega) y8_102, or_fr f10 (by omega) (by omega) y8_105, gh_at f10 y8_107 (by omega), sbr_f f10 (by omega) (show ¬ n + 108 + 1 = n by omega) y8_108, pg_fr f10 (fun k hk z => by have := hk.1; omega) y8_110, t10⟩
  refine gm_co_of _ (by decide +kernel) rfl (Nat.le_of_ble_eq_true rfl) rfl ?_
  refine gm_go.ru (gm_aload_n dX10_init_0 rfl (by first | exact Or.inl ⟨_, rfl⟩ | exact Or.inr ⟨_, rfl⟩)) ?_
  refine gm_go.ru (gm_objInit dX10_init_1 rfl (ol_X10_1 rfl) oi_i oi_c (Nat.le_of_ble_eq_true rfl) (by decide)) ?_
  rw [← hb0]
  refine gm_go.ru (gm_aload_n dX10_init_4 rfl (by first | exact Or.inl ⟨_, rfl⟩ | exact Or.inr ⟨_, rfl⟩)) ?_
  refine gm_go.ru (gm_new dX10_init_5 (nc_X10_7 rfl)) ?_
  rw [l0]; refine gm_hp ha1 ?_
  refine gm_go.ru (gm_dup dX10_init_8 rfl) ?_
  refine gm_go.ru (gm_cI dX10_init_9 (i1) rfl mt_X9_init mi_X9_init (lk_X10_9 rfl) (Or.inl ⟨_, 10, _, _, _, rfl, na1, rfl⟩) rfl (Nat.le_of_ble_eq_true rfl) (by decide)) ?_
  refine gm_go.ru (gm_put dX10_init_12 (fp_X10_10 rfl rfl) cd1 (Nat.le_of_ble_eq_true rfl) (by first | exact ⟨rfl, rfl⟩ | exact trivial)) ?_
  refine gm_hp hb1 ?_
  refine gm_go.ru (gm_aload_n dX10_init_15 rfl (by first | exact Or.inl ⟨_, rfl⟩ | exact Or.inr ⟨_, rfl⟩)) ?_
  refine gm_go.ru (gm_new dX10_init_16 (nc_X10_7 rfl)) ?_
  rw [l1]; refine gm_hp ha2 ?_
  refine gm_go.ru (gm_dup dX10_init_19 rfl) ?_
  refine gm_go.ru (gm_cI dX10_init_20 (i2) rfl mt_X9_init mi_X9_init (lk_X10_9 rfl) (Or.inl ⟨_, 10, _, _, _, rfl, na2, rfl⟩) rfl (Nat.le_of_ble_eq_true rfl) (by decide)) ?_
  refine gm_go.ru (gm_put dX10_init_23 (fp_X10_16 rfl rfl) cd2 (Nat.le_of_ble_eq_true rfl) (by first | exact ⟨rfl, rfl⟩ | exact trivial)) ?_
  refine gm_hp hb2 ?_
  refine gm_go.ru (gm_aload_n dX10_init_26 rfl (by first | exact Or.inl ⟨_, rfl⟩ | exact Or.inr ⟨_, rfl⟩)) ?_
  refine gm_go.ru (gm_new dX10_init_27 (nc_X10_19 rfl)) ?_
  rw [l2]; refine gm_hp ha3 ?_
  refine gm_go.ru (gm_dup dX10_init_30 rfl) ?_
  refine gm_go.ru (gm_cI dX10_init_31 (i3) rfl mt_X2_init mi_X2_init (lk_X10_21 rfl) (Or.inl ⟨_, 4, _, _, _, rfl, na3, rfl⟩) rfl (Nat.le_of_ble_eq_true rfl) (by decide)) ?_
  refine gm_go.ru (gm_put dX10_init_34 (fp_X10_22 rfl rfl) cd3 (Nat.le_of_ble_eq_true rfl) (by first | exact ⟨rfl, rfl⟩ | exact trivial)) ?_
  refine gm_hp hb3 ?_
  refine gm_go.ru (gm_aload_n dX10_init_37 rfl (by first | exact Or.inl ⟨_, rfl⟩ | exact Or.inr ⟨_, rfl⟩)) ?_
  refine gm_go.ru (gm_new dX10_init_38 (nc_X10_26 rfl)) ?_
  rw [l3]; refine gm_hp ha4 ?_
  refine gm_go.ru (gm_dup dX10_init_41 rfl) ?_
  refine gm_go.ru (gm_cI dX10_init_42 (i4) rfl mt_X6_init mi_X6_init (lk_X10_28 rfl) (Or.inl ⟨_, 8, _, _, _, rfl, na4, rfl⟩) rfl (Nat.le_of_ble_eq_true rfl) (by decide)) ?_
  refine gm_go.ru (gm_put dX10_init_45 (fp_X10_29 rfl rfl) cd4 (Nat.le_of_ble_eq_true rfl) (by first | exact ⟨rfl, rfl⟩ | exact trivial)) ?_
  refine gm_hp hb4 ?_
  refine gm_go.ru (gm_aload_n dX10_init_48 rfl (by first | exact Or.inl ⟨_, rfl⟩ | exact Or.inr ⟨_, rfl⟩)) ?_
  refine gm_go.ru (gm_new dX10_init_49 (nc_X10_33 rfl)) ?_
  rw [l4]; refine gm_hp ha5 ?_
  refine gm_go.ru (gm_dup dX10_init_52 rfl) ?_
  refine gm_go.ru (gm_cI dX10_init_53 (i5) rfl mt_X4_init mi_X4_init (lk_X10_35 rfl) (Or.inl ⟨_, 6, _, _, _, rfl, na5, rfl⟩) rfl (Nat.le_of_ble_eq_true rfl) (by decide)) ?_
  refine gm_go.ru (gm_put dX10_init_56 (fp_X10_36 rfl rfl) cd5 (Nat.le_of_ble_eq_true rfl) (by first | exact ⟨rfl, rfl⟩ | exact trivial)) ?_
  refine gm_hp hb5 ?_
  refine gm_go.ru (gm_aload_n dX10_init_59 rfl (by first | exact Or.inl ⟨_, rfl⟩ | exact Or.inr ⟨_, rfl⟩)) ?_
  refine gm_go.ru (gi_sipush dX10_init_60 (by decide +kernel)) ?_
  refine gm_go.ru (gm_newa_int dX10_init_63 ac_int (by decide) rfl (by decide)) ?_
  rw [l5]; refine gm_hp ha6 ?_
  rw [← hd6]
  refine gm_go.ru (gm_put dX10_init_65 (fp_X10_40 rfl rfl) cd6 (Nat.le_of_ble_eq_true rfl) (by first | exact ⟨rfl, rfl⟩ | exact trivial)) ?_
  refine gm_hp hb6 ?_
  refine gm_go.ru (gm_aload_n dX10_init_68 rfl (by first | exact Or.inl ⟨_, rfl⟩ | exact Or.inr ⟨_, rfl⟩)) ?_
  refine gm_go.ru (gm_new dX10_init_69 (nc_X10_44 rfl)) ?_
  rw [l6]; refine gm_hp ha7 ?_
  refine gm_go.ru (gm_dup dX10_init_72 rfl) ?_
  refine gm_go.ru (gm_cI dX10_init_73 (i7) rfl mt_J4_init_da8c8 mi_J4_init_da8c8 (lk_X10_46 rfl) (Or.inl ⟨_, 1, _, _, _, rfl, na7, rfl⟩) rfl (Nat.le_of_ble_eq_true rfl) (by decide)) ?_
  refine gm_go.ru (gm_put dX10_init_76 (fp_X10_47 rfl rfl) cd7 (Nat.le_of_ble_eq_true rfl) (by first | exact ⟨rfl, rfl⟩ | exact trivial)) ?_
  refine gm_hp hb7 ?_
  refine gm_go.ru (gm_aload_n dX10_init_79 rfl (by first | exact Or.inl ⟨_, rfl⟩ | exact Or.inr ⟨_, rfl⟩)) ?_
  refine gm_go.ru (gm_new dX10_init_80 (nc_X10_51 rfl)) ?_
  rw [l7]; refine gm_hp ha8 ?_
  refine gm_go.ru (gm_dup dX10_init_83 rfl) ?_
  refine gm_go.ru (gm_cI dX10_init_84 (i8) rfl mt_X7_init mi_X7_init (lk_X10_53 rfl) (Or.inl ⟨_, 9, _, _, _, rfl, na8, rfl⟩) rfl (Nat.le_of_ble_eq_true rfl) (by decide)) ?_
  refine gm_go.ru (gm_put dX10_init_87 (fp_X10_54 rfl rfl) cd8 (Nat.le_of_ble_eq_true rfl) (by first | exact ⟨rfl, rfl⟩ | exact trivial)) ?_
  refine gm_hp hb8 ?_
  refine gm_go.ru (gm_aload_n dX10_init_90 rfl (by first | exact Or.inl ⟨_, rfl⟩ | exact Or.inr ⟨_, rfl⟩)) ?_
  refine gm_go.ru (gi_const dX10_init_91) ?_
  refine gm_go.ru (gm_put dX10_init_92 (fp_X10_58 rfl) c8 (Nat.le_of_ble_eq_true rfl) (by first | exact ⟨rfl, rfl⟩ | exact trivial)) ?_
  refine gm_hp hb9 ?_
  refine gm_go.ru (gm_aload_n dX10_init_95 rfl (by first | exact Or.inl ⟨_, rfl⟩ | exact Or.inr ⟨_, rfl⟩)) ?_
  refine gm_go.ru (gi_const dX10_init_96) ?_
  refine gm_go.ru (gm_put dX10_init_97 (fp_X10_62 rfl) c9 (Nat.le_of_ble_eq_true rfl) (by first | exact ⟨rfl, rfl⟩ | exact trivial)) ?_
  refine gm_hp hb10 ?_
  exact gm_vret dX10_init_100 rfl
