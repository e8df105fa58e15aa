theorem arrV_cg {cA : ClassId} {n : Nat} {f g : Nat → Value} (e : ∀ j, j < n → f j = g j) : arrV cA n f = arrV cA n g := by
  unfold arrV
  congr 1
  congr 1
  funext i
  rw [e i.1 i.2]
/-- the same array, told by another function -/
theorem gm_re {M : gm_M} {d pc : Nat} {ls : List (Option Value)} {st : List Value} {h : gm_H} {k n : Nat} {F G : Nat → Int} (hk : h.1[k]? = some (gA n F)) (e : ∀ j, j < n → F j = G j) : gm_go M d (pc, ls, st, h) (pc, ls, st, (h.1.set k (gA n G), h.2)) :=
  gm_go_hp fun G0 p l en R s m args below meth c C ws H locs A stC cells slots Q hW hl hs kk => by
    obtain ⟨q, hq, hcell⟩ := gm_h_get hW.2.2.1 hk
    obtain ⟨ty, cA, y, t0, t1, he, hx⟩ := hcell
    obtain ⟨b, x9⟩ := q
    dsimp only at he
    subst he
    have hx : y = .inl (fun j => zI (F j)) := hx
    subst hx
    have hb := hW.1 k _ hq
    refine kk b _ (.inl (cA, n, .inl (fun j => zI (G j)))) H locs stC hq ⟨ty, cA, _, t0, t1, rfl, rfl⟩ ?_ ?_ hW.2.2.2 hs
    · intro j r hr
      by_cases ej : k = j
      · subst ej
        rw [List.getElem?_set_self (List.getElem?_eq_some_iff.mp hq).1] at hr
        cases hr
        show H[b]? = some (arrV cA n (fun j => .int (zI (G j))))
        rw [← arrV_cg (f := fun j => .int (zI (F j))) (fun j hj => by rw [e j hj])]
        exact hb
      · rw [List.getElem?_set_ne ej] at hr
        exact hW.1 j r hr
    · have g1 : ∀ (j : Nat) (r : Nat × va_E), (ws.set k (b, (.inl (cA, n, .inl (fun j => zI (G j))) : va_E)))[j]? = some r → ∃ r0, ws[j]? = some r0 ∧ r0.1 = r.1 := fun j r hr => by
        by_cases ej : k = j
        · subst ej
          rw [List.getElem?_set_self (List.getElem?_eq_some_iff.mp hq).1] at hr
          cases hr
          exact ⟨_, hq, rfl⟩
        · rw [List.getElem?_set_ne ej] at hr
          exact ⟨r, hr, rfl⟩
      refine ⟨fun i j p1 p2 h1 h2 h3 => ?_, fun j r hr => ?_⟩
      · obtain ⟨r1, x1, y1⟩ := g1 i p1 h1
        obtain ⟨r2, x2, y2⟩ := g1 j p2 h2
        exact hW.2.1.1 i j r1 r2 x1 x2 (by rw [y1, y2, h3])
      · obtain ⟨r1, x1, y1⟩ := g1 j r hr
        have := hW.2.1.2 j r1 x1
        rwa [y1] at this
