theorem nd_mv {h h' : gm_H} {p : Nat} {v : Nat → Int} (e : ∀ k, p ≤ k → k < p + 3 → h'.1[k]? = h.1[k]?) (hN : nd_at h p v) : nd_at h' p v := by
  obtain ⟨h1, S, D, h2, h3, h4⟩ := hN
  exact ⟨(e _ (by omega) (by omega)).trans h1, S, D, (e _ (by omega) (by omega)).trans h2, (e _ (by omega) (by omega)).trans h3, h4⟩
theorem ov_mv {h h' : gm_H} {p : Nat} {v : Nat → Int} (e : ∀ k, p ≤ k → k < p + 5 → h'.1[k]? = h.1[k]?) (hN : ov_at h p v) : ov_at h' p v := by
  obtain ⟨h1, I, M, D, W, h2, h3, h4, h5, h6⟩ := hN
  exact ⟨(e _ (by omega) (by omega)).trans h1, I, M, D, W, (e _ (by omega) (by omega)).trans h2, (e _ (by omega) (by omega)).trans h3, (e _ (by omega) (by omega)).trans h4, (e _ (by omega) (by omega)).trans h5, h6⟩
theorem st_mv {h h' : gm_H} {p : Nat} {v : Nat → Int} (e : ∀ k, p ≤ k → k < p + 9 → h'.1[k]? = h.1[k]?) (hN : st_at h p v) : st_at h' p v :=
  ⟨(e _ (by omega) (by omega)).trans hN.1, nd_mv (fun k a b => e k (by omega) (by omega)) hN.2.1, ov_mv (fun k a b => e k (by omega) (by omega)) hN.2.2⟩
theorem hi_mv {h h' : gm_H} {p c : Nat} {P : Nat → Nat → Int} (e : ∀ k, p ≤ k → k < p + 83 → h'.1[k]? = h.1[k]?) (hN : hi_at h p P c) : hi_at h' p P c := by
  obtain ⟨f, R, ⟨a1, a2, a3, a4, a5⟩, b⟩ := hN
  exact ⟨f, R, ⟨a1, a2, (e _ (by omega) (by omega)).trans a3, (e _ (by omega) (by omega)).trans a4, fun i hi => ⟨st_mv (fun k a b => e k (by omega) (by omega)) (a5 i hi).1, (a5 i hi).2⟩⟩, b⟩
theorem pr_mv {h h' : gm_H} {p : Nat} {F A : Nat → Int} (e : ∀ k, p ≤ k → k < p + 3 → h'.1[k]? = h.1[k]?) (hN : pr_at h p F A) : pr_at h' p F A := ⟨(e _ (by omega) (by omega)).trans hN.1, (e _ (by omega) (by omega)).trans hN.2.1, (e _ (by omega) (by omega)).trans hN.2.2⟩
theorem or_mv {h h' : gm_H} {p : Nat} {F : Nat → Int} (e : ∀ k, p ≤ k → k < p + 2 → h'.1[k]? = h.1[k]?) (hN : or_at h p F) : or_at h' p F := ⟨(e _ (by omega) (by omega)).trans hN.1, (e _ (by omega) (by omega)).trans hN.2⟩
theorem sbr_mv {h h' : gm_H} {s c : Nat} {q : Nat × Nat} {G : Nat → Int} (e0 : h'.1[s]? = h.1[s]?) (e1 : h'.1[q.1]? = h.1[q.1]?) (hN : sbr_at h s q G c) : sbr_at h' s q G c := by
  obtain ⟨a1, a2, a3, ml, F, a4, a5, a6⟩ := hN
  exact ⟨a1, a2, a3, ml, F, e0.trans a4, e1.trans a5, a6⟩
theorem sbr_f {h h' : gm_H} {K : Nat → Prop} {s c : Nat} {q : Nat × Nat} {G : Nat → Int} (f : gh_fr h h' K) (h0 : ¬ K s) (h1 : ¬ K q.1) (hN : sbr_at h s q G c) : sbr_at h' s q G c := sbr_mv (f.2.2 _ h0) (f.2.2 _ h1) hN
theorem pg_mv {h h' : gm_H} {g L p w k : Nat} {X N : Nat → Int} (e : ∀ k, g ≤ k → k < g + 3 → h'.1[k]? = h.1[k]?) (hP : pg_at h g X L p w N k) : pg_at h' g X L p w N k :=
  ⟨(e _ (by omega) (by omega)).trans hP.1, (e _ (by omega) (by omega)).trans hP.2.1, (e _ (by omega) (by omega)).trans hP.2.2.1, hP.2.2.2⟩
/-- a new cell -/
theorem al_new {h b : gm_H} {n x y m : Nat} (nd : gm_cl) (N : Nat) (l : b.1.length = m) (hn : n ≤ m) (t : gh_al h b n x y) : ∃ a : gm_H, a = (b.1 ++ [nd], (b.2.1 + 1, b.2.2 + N)) ∧ a.1.length = m + 1 ∧ a.1[m]? = some nd ∧ (∀ k, k < m → a.1[k]? = b.1[k]?) ∧ gh_al h a n (x + 1) (y + N) :=
  ⟨_, rfl, gl_a l, ga_r l, fun k hk => by show (b.1 ++ [nd])[k]? = _; rw [List.getElem?_append_left (by omega)], al_a t l hn⟩
/-- the made cell put into the object's field -/
theorem al_put {h a b d : gm_H} {n x y m m' u w : Nat} {cc : gm_cl} (cc' : gm_cl) (e : ∀ k, k < m → a.1[k]? = b.1[k]?) (ta : gh_al h a n x y) (g : gh_al a d m u w) (ld : d.1.length = m') (c : b.1[n]? = some cc) (hn : n < m) : d.1[n]? = some cc ∧ ∃ b' : gm_H, b' = (d.1.set n cc', d.2) ∧ b'.1[n]? = some cc' ∧ b'.1.length = m' ∧ (∀ k, n < k → b'.1[k]? = d.1[k]?) ∧ (∀ k, n < k → k < m → b'.1[k]? = b.1[k]?) ∧ gh_al h b' n (x + u) (y + w) := by
  have cd : d.1[n]? = some cc := ((g.2 n hn).trans (e n hn)).trans c
  have s : ∀ k, n < k → (d.1.set n cc')[k]? = d.1[k]? := fun k hk => List.getElem?_set_ne (by omega)
  exact ⟨cd, _, rfl, gs_s cd, gl_s ld, s, fun k h1 h2 => (s k h1).trans ((g.2 k h2).trans (e k h2)), al_s (al_tr ta g (Nat.le_of_lt hn)) (Nat.le_refl n)⟩
/-- a field of the object set -/
theorem al_fld {h b : gm_H} {n x y m : Nat} {cc : gm_cl} (cc' : gm_cl) (l : b.1.length = m) (c : b.1[n]? = some cc) (t : gh_al h b n x y) : ∃ b' : gm_H, b' = (b.1.set n cc', b.2) ∧ b'.1[n]? = some cc' ∧ b'.1.length = m ∧ (∀ k, n < k → b'.1[k]? = b.1[k]?) ∧ gh_al h b' n x y :=
  ⟨_, rfl, gs_s c, gl_s l, fun k hk => List.getElem?_set_ne (by omega), al_s t (Nat.le_refl n)⟩
set_option maxRecDepth 4000 in
theorem ct_byInit {h : gm_H} {n : Nat} (hl : h.1.length = n + 1) (h0 : h.1[n]? = some (.inr (11, [.null, .null, .int 0, .null, .null, .null, .null, .null, .null, .int 0, .int 0]))) : ∃ h', gm_co mX10_init 4 [.ref n] h (.inl none) h' ∧ h'.1.length = n + 113 ∧ h'.1[n]? = some (by_c n 0 (-1) (-1)) ∧ st_at h' (n + 1) zV0 ∧ st_at h' (n + 10) zV0 ∧ hi_at h' (n + 19) (fun _ => zV0) 0 ∧ pr_at h' (n + 102) (fun _ => 0) (fun _ => 0) ∧ or_at h' (n + 105) (fun _ => 0) ∧ h'.1[n + 107]? = some (gA 360 (fun _ => 0)) ∧ sbr_at h' (n + 108) (n + 108 + 1, 16) (fun _ => 0) 0 ∧ pg_at h' (n + 110) (fun _ => 0) 0 0 0 (fun _ => 0) 0 ∧ gh_al h h' n 112 2143 := by
  have hn1 : n < n + 1 := by omega
  have hu10 : n + 1 ≤ n + 10 := by omega
  have hn10 : n < n + 10 := by omega
  have hu19 : n + 10 ≤ n + 19 := by omega
  have hn19 : n < n + 19 := by omega
  have hu102 : n + 19 ≤ n + 102 := by omega
  have hn102 : n < n + 102 := by omega
  have hu105 : n + 102 ≤ n + 105 := by omega
  have hn105 : n < n + 105 := by omega
  have hu107 : n + 105 ≤ n + 107 := by omega
  have hn107 : n < n + 107 := by omega
  have hu108 : n + 107 ≤ n + 108 := by omega
  have hn108 : n < n + 108 := by omega
  have hu110 : n + 108 ≤ n + 110 := by omega
  have hn110 : n < n + 110 := by omega
  have hu113 : n + 110 ≤ n + 113 := by omega
  obtain ⟨b0, hb0⟩ : ∃ x : gm_H, x = h := ⟨_, rfl⟩
  have c0 : b0.1[n]? = some (.inr (11, [.null, .null, .int 0, .null, .null, .null, .null, .null, .null, .int 0, .int 0])) := by rw [hb0]; exact h0
  have l0 : b0.1.length = n + 1 := by rw [hb0]; exact hl
  have t0 : gh_al h b0 n 0 0 := by rw [hb0]; exact al_rf
  clear hl h0
  obtain ⟨a1, ha1, la1, na1, ea1, ta1⟩ := al_new (.inr (10, [.null, .null])) 2 l0 (Nat.le_of_lt hn1) t0
  obtain ⟨d1, i1, ld1, x1, g1⟩ := ct_stInit la1 na1
  obtain ⟨cd1, b1, hb1, c1, l1, u1, s1, t1⟩ := al_put (.inr (11, [.ref (n + 1), .null, .int 0, .null, .null, .null, .null, .null, .null, .int 0, .int 0])) ea1 ta1 g1 (show d1.1.length = n + 10 from ld1) c0 hn1
  clear g1 ta1 ea1 la1 t0 ld1
  obtain ⟨a2, ha2, la2, na2, ea2, ta2⟩ := al_new (.inr (10, [.null, .null])) 2 l1 (Nat.le_of_lt hn10) t1
  obtain ⟨d2, i2, ld2, x2, g2⟩ := ct_stInit la2 na2
  obtain ⟨cd2, b2, hb2, c2, l2, u2, s2, t2⟩ := al_put (.inr (11, [.ref (n + 1), .ref (n + 10), .int 0, .null, .null, .null, .null, .null, .null, .int 0, .int 0])) ea2 ta2 g2 (show d2.1.length = n + 19 from ld2) c1 hn10
  clear g2 ta2 ea2 la2 t1 ld2
  obtain ⟨a3, ha3, la3, na3, ea3, ta3⟩ := al_new (.inr (4, [.null, .int 0, .int 0])) 3 l2 (Nat.le_of_lt hn19) t2
  obtain ⟨d3, i3, ld3, x3, g3⟩ := ct_hiInit la3 na3
  obtain ⟨cd3, b3, hb3, c3, l3, u3, s3, t3⟩ := al_put (.inr (11, [.ref (n + 1), .ref (n + 10), .int 0, .ref (n + 19), .null, .null, .null, .null, .null, .int 0, .int 0])) ea3 ta3 g3 (show d3.1.length = n + 102 from ld3) c2 hn19
  clear g3 ta3 ea3 la3 t2 ld3
  obtain ⟨a4, ha4, la4, na4, ea4, ta4⟩ := al_new (.inr (8, [.null, .null])) 2 l3 (Nat.le_of_lt hn102) t3
  obtain ⟨d4, i4, ld4, x4, g4⟩ := ct_prInit la4 na4
  obtain ⟨cd4, b4, hb4, c4, l4, u4, s4, t4⟩ := al_put (.inr (11, [.ref (n + 1), .ref (n + 10), .int 0, .ref (n + 19), .ref (n + 102), .null, .null, .null, .null, .int 0, .int 0])) ea4 ta4 g4 (show d4.1.length = n + 105 from ld4) c3 hn102
  clear g4 ta4 ea4 la4 t3 ld4
  obtain ⟨a5, ha5, la5, na5, ea5, ta5⟩ := al_new (.inr (6, [.null])) 1 l4 (Nat.le_of_lt hn105) t4
  obtain ⟨d5, i5, ld5, x5, g5⟩ := ct_orInit la5 na5
  obtain ⟨cd5, b5, hb5, c5, l5, u5, s5, t5⟩ := al_put (.inr (11, [.ref (n + 1), .ref (n + 10), .int 0, .ref (n + 19), .ref (n + 102), .ref (n + 105), .null, .null, .null, .int 0, .int 0])) ea5 ta5 g5 (show d5.1.length = n + 107 from ld5) c4 hn105
  clear g5 ta5 ea5 la5 t4 ld5
  obtain ⟨a6, ha6, la6, na6, ea6, ta6⟩ := al_new (gA 360 (fun _ => 0)) 360 l5 (Nat.le_of_lt hn107) t5
  obtain ⟨d6, hd6⟩ : ∃ x : gm_H, x = a6 := ⟨_, rfl⟩
  have ld6 : d6.1.length = n + 108 := by rw [hd6]; exact la6
  have x6 : d6.1[n + 107]? = some (gA 360 (fun _ => 0)) := by rw [hd6]; exact na6
  have g6 : gh_al a6 d6 (n + 107) 0 0 := by rw [hd6]; exact al_rf
  obtain ⟨cd6, b6, hb6, c6, l6, u6, s6, t6⟩ := al_put (.inr (11, [.ref (n + 1), .ref (n + 10), .int 0, .ref (n + 19), .ref (n + 102), .ref (n + 105), .ref (n + 107), .null, .null, .int 0, .int 0])) ea6 ta6 g6 (show d6.1.length = n + 108 from ld6) c5 hn107
  clear g6 ta6 ea6 la6 t5 ld6
  obtain ⟨a7, ha7, la7, na7, ea7, ta7⟩ := al_new (.inr (1, [.null, .int 0, .int 0, .int 0])) 4 l6 (Nat.le_of_lt hn108) t6
  obtain ⟨d7, i7, x7, ld7, g7⟩ := ct_sbInit na7
  rw [la7] at x7 ld7
  obtain ⟨cd7, b7, hb7, c7, l7, u7, s7, t7⟩ := al_put (.inr (11, [.ref (n + 1), .ref (n + 10), .int 0, .ref (n + 19), .ref (n + 102), .ref (n + 105), .ref (n + 107), .ref (n + 108), .null, .int 0, .int 0])) ea7 ta7 g7 (show d7.1.length = n + 110 from ld7) c6 hn108
  clear g7 ta7 ea7 la7 t6 ld7
  obtain ⟨a8, ha8, la8, na8, ea8, ta8⟩ := al_new (.inr (9, [.null, .int 0, .int 0, .null, .null, .int 0])) 6 l7 (Nat.le_of_lt hn110) t7
  obtain ⟨d8, i8, ld8, x8, g8⟩ := ct_pgInit la8 na8
  obtain ⟨cd8, b8, hb8, c8, l8, u8, s8, t8⟩ := al_put (.inr (11, [.ref (n + 1), .ref (n + 10), .int 0, .ref (n + 19), .ref (n + 102), .ref (n + 105), .ref (n + 107), .ref (n + 108), .ref (n + 110), .int 0, .int 0])) ea8 ta8 g8 (show d8.1.length = n + 113 from ld8) c7 hn110
  clear g8 ta8 ea8 la8 t7 ld8
  obtain ⟨b9, hb9, c9, l9, u9, t9⟩ := al_fld (.inr (11, [.ref (n + 1), .ref (n + 10), .int 0, .ref (n + 19), .ref (n + 102), .ref (n + 105), .ref (n + 107), .ref (n + 108), .ref (n + 110), .int (zI (-1)), .int 0])) l8 c8 t8
  obtain ⟨b10, hb10, c10, l10, u10, t10⟩ := al_fld (.inr (11, [.ref (n + 1), .ref (n + 10), .int 0, .ref (n + 19), .ref (n + 102), .ref (n + 105), .ref (n + 107), .ref (n + 108), .ref (n + 110), .int (zI (-1)), .int (zI (-1))])) l9 c9 t9
  have E8 : ∀ k, n < k → b10.1[k]? = b8.1[k]? := fun k a => (u10 k a).trans (u9 k a)
  have E7 : ∀ k, n < k → k < n + 110 → b10.1[k]? = b7.1[k]? := fun k a b => (E8 k a).trans (s8 k a b)
  have E6 : ∀ k, n < k → k < n + 108 → b10.1[k]? = b6.1[k]? := fun k a b => (E7 k a (Nat.lt_of_lt_of_le b hu110)).trans (s7 k a b)
  have E5 : ∀ k, n < k → k < n + 107 → b10.1[k]? = b5.1[k]? := fun k a b => (E6 k a (Nat.lt_of_lt_of_le b hu108)).trans (s6 k a b)
  have E4 : ∀ k, n < k → k < n + 105 → b10.1[k]? = b4.1[k]? := fun k a b => (E5 k a (Nat.lt_of_lt_of_le b hu107)).trans (s5 k a b)
  have E3 : ∀ k, n < k → k < n + 102 → b10.1[k]? = b3.1[k]? := fun k a b => (E4 k a (Nat.lt_of_lt_of_le b hu105)).trans (s4 k a b)
  have E2 : ∀ k, n < k → k < n + 19 → b10.1[k]? = b2.1[k]? := fun k a b => (E3 k a (Nat.lt_of_lt_of_le b hu102)).trans (s3 k a b)
  have E1 : ∀ k, n < k → k < n + 10 → b10.1[k]? = b1.1[k]? := fun k a b => (E2 k a (Nat.lt_of_lt_of_le b hu19)).trans (s2 k a b)
  have D1 : ∀ k, n + 1 ≤ k → k < n + 10 → b10.1[k]? = d1.1[k]? := fun k p q => (E1 k (Nat.lt_of_lt_of_le hn1 p) q).trans (u1 k (Nat.lt_of_lt_of_le hn1 p))
  have D2 : ∀ k, n + 10 ≤ k → k < n + 19 → b10.1[k]? = d2.1[k]? := fun k p q => (E2 k (Nat.lt_of_lt_of_le hn10 p) q).trans (u2 k (Nat.lt_of_lt_of_le hn10 p))
  have D3 : ∀ k, n + 19 ≤ k → k < n + 102 → b10.1[k]? = d3.1[k]? := fun k p q => (E3 k (Nat.lt_of_lt_of_le hn19 p) q).trans (u3 k (Nat.lt_of_lt_of_le hn19 p))
  have D4 : ∀ k, n + 102 ≤ k → k < n + 105 → b10.1[k]? = d4.1[k]? := fun k p q => (E4 k (Nat.lt_of_lt_of_le hn102 p) q).trans (u4 k (Nat.lt_of_lt_of_le hn102 p))
  have D5 : ∀ k, n + 105 ≤ k → k < n + 107 → b10.1[k]? = d5.1[k]? := fun k p q => (E5 k (Nat.lt_of_lt_of_le hn105 p) q).trans (u5 k (Nat.lt_of_lt_of_le hn105 p))
  have D6 : ∀ k, n + 107 ≤ k → k < n + 108 → b10.1[k]? = d6.1[k]? := fun k p q => (E6 k (Nat.lt_of_lt_of_le hn107 p) q).trans (u6 k (Nat.lt_of_lt_of_le hn107 p))
  have D7 : ∀ k, n + 108 ≤ k → k < n + 110 → b10.1[k]? = d7.1[k]? := fun k p q => (E7 k (Nat.lt_of_lt_of_le hn108 p) q).trans (u7 k (Nat.lt_of_lt_of_le hn108 p))
  have D8 : ∀ k, n + 110 ≤ k → k < n + 113 → b10.1[k]? = d8.1[k]? := fun k p q => (E8 k (Nat.lt_of_lt_of_le hn110 p)).trans (u8 k (Nat.lt_of_lt_of_le hn110 p))
  refine ⟨b10, ?_, l10, c10, st_mv D1 x1, st_mv D2 x2, hi_mv D3 x3, pr_mv D4 x4, or_mv D5 x5, (D6 _ (Nat.le_refl _) (by omega)).trans x6, sbr_mv (D7 _ (Nat.le_refl _) (by omega)) (D7 (n + 108 + 1) (by omega) (by omega)) x7, pg_mv D8 x8, t10⟩
  clear E1 D1 s1 u1 x1 E2 D2 s2 u2 x2 E3 D3 s3 u3 x3 E4 D4 s4 u4 x4 E5 D5 s5 u5 x5 E6 D6 s6 u6 x6 E7 D7 s7 u7 x7 E8 D8 s8 u8 x8 u9 u10
  refine gm_co_of _ (by decide +kernel) rfl (Nat.le_of_ble_eq_true rfl) rfl ?_
  refine gm_go.ru (gm_aload_n dX10_init_0 rfl (by first | exact Or.inl ⟨_, rfl⟩ | exact Or.inr ⟨_, rfl⟩)) ?_
  refine gm_go.ru (gm_objInit dX10_init_1 rfl (ol_X10_1 rfl) oi_i oi_c (Nat.le_of_ble_eq_true rfl) (by decide)) ?_
  rw [← hb0]
  refine gm_go.ru (gm_aload_n dX10_init_4 rfl (by first | exact Or.inl ⟨_, rfl⟩ | exact Or.inr ⟨_, rfl⟩)) ?_
  refine gm_go.ru (gm_new dX10_init_5 (nc_X10_7 rfl)) ?_
  rw [l0]; refine gm_hp ha1 ?_
  refine gm_go.ru (gm_dup dX10_init_8 rfl) ?_
  refine gm_go.ru (gm_cI dX10_init_9 (i1) rfl mt_X9_init mi_X9_init (lk_X10_9 rfl) (Or.inl ⟨_, 10, _, _, _, rfl, na1, rfl⟩) rfl (Nat.le_of_ble_eq_true rfl) (by decide)) ?_
  refine gm_go.ru (gm_put dX10_init_12 (fp_X10_10 rfl rfl) cd1 (Nat.le_of_ble_eq_true rfl) (by first | exact ⟨rfl, rfl⟩ | exact trivial)) ?_
  refine gm_hp hb1 ?_
  refine gm_go.ru (gm_aload_n dX10_init_15 rfl (by first | exact Or.inl ⟨_, rfl⟩ | exact Or.inr ⟨_, rfl⟩)) ?_
  refine gm_go.ru (gm_new dX10_init_16 (nc_X10_7 rfl)) ?_
  rw [l1]; refine gm_hp ha2 ?_
  refine gm_go.ru (gm_dup dX10_init_19 rfl) ?_
  refine gm_go.ru (gm_cI dX10_init_20 (i2) rfl mt_X9_init mi_X9_init (lk_X10_9 rfl) (Or.inl ⟨_, 10, _, _, _, rfl, na2, rfl⟩) rfl (Nat.le_of_ble_eq_true rfl) (by decide)) ?_
  refine gm_go.ru (gm_put dX10_init_23 (fp_X10_16 rfl rfl) cd2 (Nat.le_of_ble_eq_true rfl) (by first | exact ⟨rfl, rfl⟩ | exact trivial)) ?_
  refine gm_hp hb2 ?_
  refine gm_go.ru (gm_aload_n dX10_init_26 rfl (by first | exact Or.inl ⟨_, rfl⟩ | exact Or.inr ⟨_, rfl⟩)) ?_
  refine gm_go.ru (gm_new dX10_init_27 (nc_X10_19 rfl)) ?_
  rw [l2]; refine gm_hp ha3 ?_
  refine gm_go.ru (gm_dup dX10_init_30 rfl) ?_
  refine gm_go.ru (gm_cI dX10_init_31 (i3) rfl mt_X2_init mi_X2_init (lk_X10_21 rfl) (Or.inl ⟨_, 4, _, _, _, rfl, na3, rfl⟩) rfl (Nat.le_of_ble_eq_true rfl) (by decide)) ?_
  refine gm_go.ru (gm_put dX10_init_34 (fp_X10_22 rfl rfl) cd3 (Nat.le_of_ble_eq_true rfl) (by first | exact ⟨rfl, rfl⟩ | exact trivial)) ?_
  refine gm_hp hb3 ?_
  refine gm_go.ru (gm_aload_n dX10_init_37 rfl (by first | exact Or.inl ⟨_, rfl⟩ | exact Or.inr ⟨_, rfl⟩)) ?_
  refine gm_go.ru (gm_new dX10_init_38 (nc_X10_26 rfl)) ?_
  rw [l3]; refine gm_hp ha4 ?_
  refine gm_go.ru (gm_dup dX10_init_41 rfl) ?_
  refine gm_go.ru (gm_cI dX10_init_42 (i4) rfl mt_X6_init mi_X6_init (lk_X10_28 rfl) (Or.inl ⟨_, 8, _, _, _, rfl, na4, rfl⟩) rfl (Nat.le_of_ble_eq_true rfl) (by decide)) ?_
  refine gm_go.ru (gm_put dX10_init_45 (fp_X10_29 rfl rfl) cd4 (Nat.le_of_ble_eq_true rfl) (by first | exact ⟨rfl, rfl⟩ | exact trivial)) ?_
  refine gm_hp hb4 ?_
  refine gm_go.ru (gm_aload_n dX10_init_48 rfl (by first | exact Or.inl ⟨_, rfl⟩ | exact Or.inr ⟨_, rfl⟩)) ?_
  refine gm_go.ru (gm_new dX10_init_49 (nc_X10_33 rfl)) ?_
  rw [l4]; refine gm_hp ha5 ?_
  refine gm_go.ru (gm_dup dX10_init_52 rfl) ?_
  refine gm_go.ru (gm_cI dX10_init_53 (i5) rfl mt_X4_init mi_X4_init (lk_X10_35 rfl) (Or.inl ⟨_, 6, _, _, _, rfl, na5, rfl⟩) rfl (Nat.le_of_ble_eq_true rfl) (by decide)) ?_
  refine gm_go.ru (gm_put dX10_init_56 (fp_X10_36 rfl rfl) cd5 (Nat.le_of_ble_eq_true rfl) (by first | exact ⟨rfl, rfl⟩ | exact trivial)) ?_
  refine gm_hp hb5 ?_
  refine gm_go.ru (gm_aload_n dX10_init_59 rfl (by first | exact Or.inl ⟨_, rfl⟩ | exact Or.inr ⟨_, rfl⟩)) ?_
  refine gm_go.ru (gi_sipush dX10_init_60 (by decide +kernel)) ?_
  refine gm_go.ru (gm_newa_int dX10_init_63 ac_int (by decide) rfl (by decide)) ?_
  rw [l5]; refine gm_hp ha6 ?_
  rw [← hd6]
  refine gm_go.ru (gm_put dX10_init_65 (fp_X10_40 rfl rfl) cd6 (Nat.le_of_ble_eq_true rfl) (by first | exact ⟨rfl, rfl⟩ | exact trivial)) ?_
  refine gm_hp hb6 ?_
  refine gm_go.ru (gm_aload_n dX10_init_68 rfl (by first | exact Or.inl ⟨_, rfl⟩ | exact Or.inr ⟨_, rfl⟩)) ?_
  refine gm_go.ru (gm_new dX10_init_69 (nc_X10_44 rfl)) ?_
  rw [l6]; refine gm_hp ha7 ?_
  refine gm_go.ru (gm_dup dX10_init_72 rfl) ?_
  refine gm_go.ru (gm_cI dX10_init_73 (i7) rfl mt_J4_init_da8c8 mi_J4_init_da8c8 (lk_X10_46 rfl) (Or.inl ⟨_, 1, _, _, _, rfl, na7, rfl⟩) rfl (Nat.le_of_ble_eq_true rfl) (by decide)) ?_
  refine gm_go.ru (gm_put dX10_init_76 (fp_X10_47 rfl rfl) cd7 (Nat.le_of_ble_eq_true rfl) (by first | exact ⟨rfl, rfl⟩ | exact trivial)) ?_
  refine gm_hp hb7 ?_
  refine gm_go.ru (gm_aload_n dX10_init_79 rfl (by first | exact Or.inl ⟨_, rfl⟩ | exact Or.inr ⟨_, rfl⟩)) ?_
  refine gm_go.ru (gm_new dX10_init_80 (nc_X10_51 rfl)) ?_
  rw [l7]; refine gm_hp ha8 ?_
  refine gm_go.ru (gm_dup dX10_init_83 rfl) ?_
  refine gm_go.ru (gm_cI dX10_init_84 (i8) rfl mt_X7_init mi_X7_init (lk_X10_53 rfl) (Or.inl ⟨_, 9, _, _, _, rfl, na8, rfl⟩) rfl (Nat.le_of_ble_eq_true rfl) (by decide)) ?_
  refine gm_go.ru (gm_put dX10_init_87 (fp_X10_54 rfl rfl) cd8 (Nat.le_of_ble_eq_true rfl) (by first | exact ⟨rfl, rfl⟩ | exact trivial)) ?_
  refine gm_hp hb8 ?_
  refine gm_go.ru (gm_aload_n dX10_init_90 rfl (by first | exact Or.inl ⟨_, rfl⟩ | exact Or.inr ⟨_, rfl⟩)) ?_
  refine gm_go.ru (gi_const dX10_init_91) ?_
  refine gm_go.ru (gm_put dX10_init_92 (fp_X10_58 rfl) c8 (Nat.le_of_ble_eq_true rfl) (by first | exact ⟨rfl, rfl⟩ | exact trivial)) ?_
  refine gm_hp hb9 ?_
  refine gm_go.ru (gm_aload_n dX10_init_95 rfl (by first | exact Or.inl ⟨_, rfl⟩ | exact Or.inr ⟨_, rfl⟩)) ?_
  refine gm_go.ru (gi_const dX10_init_96) ?_
  refine gm_go.ru (gm_put dX10_init_97 (fp_X10_62 rfl) c9 (Nat.le_of_ble_eq_true rfl) (by first | exact ⟨rfl, rfl⟩ | exact trivial)) ?_
  refine gm_hp hb10 ?_
  exact gm_vret dX10_init_100 rfl
