theorem arrV_cg {cA : ClassId} {n : Nat} {f g : Nat → Value} (e : ∀ j, j < n → f j = g j) : arrV cA n f = arrV cA n g := by
  unfold arrV
  congr 1
  congr 1
  funext i
  rw [e i.1 i.2]
/-- the same array, told by another function -/
theorem gm_re {M : gm_M} {d pc : Nat} {ls : List (Option Value)} {st : List Value} {h : gm_H} {k n : Nat} {F G : Nat → Int} (hk : h.1[k]? = some (gA n F)) (e : ∀ j, j < n → F j = G j) : gm_go M d (pc, ls, st, h) (pc, ls, st, (h.1.set k (gA n G), h.2)) :=
  gm_go_hp fun G0 p l en R s m args below meth c C ws H locs A stC cells slots Q hW hl hs kk => by
    obtain ⟨q, hq, hcell⟩ := gm_h_get hW.2.2.1 hk
    obtain ⟨ty, cA, y, t0, t1, he, hx⟩ := hcell
    obtain ⟨b, x9⟩ := q
    dsimp only at he
    subst he
    have hx : y = .inl (fun j => zI (F j)) := hx
    subst hx
    have hb := hW.1 k _ hq
    refine kk b _ (.inl (cA, n, .inl (fun j => zI (G j)))) H locs stC hq ⟨ty, cA, _, t0, t1, rfl, rfl⟩ ?_ ?_ hW.2.2.2 hs
    · intro j r hr
      by_cases ej : k = j
      · subst ej
        rw [List.getElem?_set_self (List.getElem?_eq_some_iff.mp hq).1] at hr
        cases hr
        show H[b]? = some (arrV cA n (fun j => .int (zI (G j))))
        rw [← arrV_cg (f := fun j => .int (zI (F j))) (fun j hj => by rw [e j hj])]
        exact hb
      · rw [List.getElem?_set_ne ej] at hr
        exact hW.1 j r hr
    · have g1 : ∀ (j : Nat) (r : Nat × va_E), (ws.set k (b, (.inl (cA, n, .inl (fun j => zI (G j))) : va_E)))[j]? = some r → ∃ r0, ws[j]? = some r0 ∧ r0.1 = r.1 := fun j r hr => by
        by_cases ej : k = j
        · subst ej
          rw [List.getElem?_set_self (List.getElem?_eq_some_iff.mp hq).1] at hr
          cases hr
          exact ⟨_, hq, rfl⟩
        · rw [List.getElem?_set_ne ej] at hr
          exact ⟨r, hr, rfl⟩
      refine ⟨fun i j p1 p2 h1 h2 h3 => ?_, fun j r hr => ?_⟩
      · obtain ⟨r1, x1, y1⟩ := g1 i p1 h1
        obtain ⟨r2, x2, y2⟩ := g1 j p2 h2
        exact hW.2.1.1 i j r1 r2 x1 x2 (by rw [y1, y2, h3])
      · obtain ⟨r1, x1, y1⟩ := g1 j r hr
        have := hW.2.1.2 j r1 x1
        rwa [y1] at this
/-! the forms, followed number by number -/
theorem fo_n {X : Nat → Int} {L p mx k : Nat} {f : Int} {N : Nat → Int} (hk : k < 3) : zNum X L mx f (p, (N, k)) = if (zD1 X L p mx).2.2 = true then (false, ((zD1 X L p mx).2.1, (N, k))) else (true, ((zD1 X L p mx).2.1, (zU N k ((zD1 X L p mx).1 * f), k + 1))) := by
  unfold zNum zD1
  by_cases c : zdn X L p mx = 0
  · rw [if_neg (fun z => z.1 c), if_pos (decide_eq_true c)]
  · rw [if_pos ⟨c, hk⟩, if_neg (fun z => c (of_decide_eq_true z))]
theorem fo_D {X : Nat → Int} {L p k : Nat} {N : Nat → Int} {cs : List Nat} (hk : k < 3) : zFol X L (68 :: cs) (p, (N, k)) = if (zD1 X L p 1).2.2 = true then (false, ((zD1 X L p 1).2.1, (N, k))) else zFol X L cs ((zD1 X L p 1).2.1, (zU N k (zD1 X L p 1).1, k + 1)) := by
  rw [zFol, show zPart X L ((68 : Nat) : Int) (p, (N, k)) = zNum X L 1 1 (p, (N, k)) from by unfold zPart; rw [if_pos (by decide)], fo_n hk]
  cases c : (zD1 X L p 1).2.2
  · simp only [Bool.false_eq_true, eq_self, if_true, if_false]; rw [Int.mul_one]
  · simp only [Bool.false_eq_true, eq_self, if_true, if_false]
theorem fo_N {X : Nat → Int} {L p k : Nat} {N : Nat → Int} {cs : List Nat} (hk : k < 3) : zFol X L (78 :: cs) (p, (N, k)) = if (zD1 X L p 3).2.2 = true then (false, ((zD1 X L p 3).2.1, (N, k))) else zFol X L cs ((zD1 X L p 3).2.1, (zU N k (zD1 X L p 3).1, k + 1)) := by
  rw [zFol, show zPart X L ((78 : Nat) : Int) (p, (N, k)) = zNum X L 3 1 (p, (N, k)) from by unfold zPart; rw [if_neg (by decide), if_pos (by decide)], fo_n hk]
  cases c : (zD1 X L p 3).2.2
  · simp only [Bool.false_eq_true, eq_self, if_true, if_false]; rw [Int.mul_one]
  · simp only [Bool.false_eq_true, eq_self, if_true, if_false]
theorem fo_l {X : Nat → Int} {L p k c : Nat} {N : Nat → Int} {cs : List Nat} (hc : c ≠ 68 ∧ c ≠ 78 ∧ c ≠ 71) : zFol X L (c :: cs) (p, (N, k)) = if zsg X L p (c : Int) = true then zFol X L cs (p + 1, (N, k)) else (false, (p, (N, k))) := by
  rw [zFol, show zPart X L (c : Int) (p, (N, k)) = zSig X L (c : Int) (p, (N, k)) from by unfold zPart; rw [if_neg (by omega), if_neg (by omega), if_neg (by omega)]]
  unfold zSig
  cases e : zsg X L p (c : Int)
  · simp only [Bool.false_eq_true, eq_self, if_true, if_false]
  · simp only [Bool.false_eq_true, eq_self, if_true, if_false]
theorem fo_G {X : Nat → Int} {L p k : Nat} {N : Nat → Int} (hk : k < 3) : zFol X L [32, 71] (p, (N, k)) = if (zD3 X L p).2.2 = true then (false, ((zD3 X L p).2.1, (N, k))) else (true, ((zD3 X L p).2.1, (zU N k (zD3 X L p).1, k + 1))) := by
  rw [fo_l (by decide)]
  unfold zD3
  cases e : zsg X L p 32
  · simp only [Bool.false_eq_true, eq_self, if_true, if_false]
  · simp only [Bool.false_eq_true, eq_self, if_true, if_false]; rw [zFol, show zPart X L ((71 : Nat) : Int) (p + 1, (N, k)) = (if zsg X L (p + 1) 45 = true then zNum X L 3 (-1) (p + 1 + 1, (N, k)) else zNum X L 3 1 (p + 1, (N, k))) from by unfold zPart; rw [if_neg (by decide), if_neg (by decide), if_pos (by decide)]]
    cases e2 : zsg X L (p + 1) 45
    · simp only [Bool.false_eq_true, eq_self, if_true, if_false]; rw [fo_n hk]
      cases c : (zD1 X L (p + 1) 3).2.2
      · simp only [Bool.false_eq_true, eq_self, if_true, if_false]; rw [Int.mul_one]; rfl
      · simp only [Bool.false_eq_true, eq_self, if_true, if_false]
    · simp only [Bool.false_eq_true, eq_self, if_true, if_false]; rw [fo_n hk]
      rw [show p + 1 + 1 = p + 2 from rfl]
      cases c : (zD1 X L (p + 2) 3).2.2
      · simp only [Bool.false_eq_true, eq_self, if_true, if_false]; rw [Int.mul_neg_one]; rfl
      · simp only [Bool.false_eq_true, eq_self, if_true, if_false]
theorem fo_B {X : Nat → Int} {L p k mx c d : Nat} {N : Nat → Int} {cs : List Nat} (hc : c ≠ 68 ∧ c ≠ 78 ∧ c ≠ 71) (hd : d = 68 ∧ mx = 1 ∨ d = 78 ∧ mx = 3) (hk : k < 3) : zFol X L (c :: d :: cs) (p, (N, k)) = if (zD2 X L p (c : Int) mx).2.2 = true then (false, ((zD2 X L p (c : Int) mx).2.1, (N, k))) else zFol X L cs ((zD2 X L p (c : Int) mx).2.1, (zU N k (zD2 X L p (c : Int) mx).1, k + 1)) := by
  rw [fo_l hc]
  unfold zD2
  cases e : zsg X L p (c : Int)
  · simp only [Bool.false_eq_true, eq_self, if_true, if_false]
  · simp only [Bool.false_eq_true, eq_self, if_true, if_false]
    rcases hd with ⟨rfl, rfl⟩ | ⟨rfl, rfl⟩
    · exact fo_D hk
    · exact fo_N hk
theorem zMr_f {X : Nat → Int} {L q : Nat} {N : Nat → Int} (hN : ∀ j, j < 3 → N j = 0) : ∀ w : Nat, w < 10 → (zFol X L (zWr w) (q, (N, 0))).1 = !(zMr X L w q).2.2 ∧ (zFol X L (zWr w) (q, (N, 0))).2.1 = (zMr X L w q).2.1 ∧ ((zMr X L w q).2.2 = false → (zFol X L (zWr w) (q, (N, 0))).2.2.1 0 = (zMr X L w q).1.1 ∧ (zFol X L (zWr w) (q, (N, 0))).2.2.1 1 = (zMr X L w q).1.2.1 ∧ (zFol X L (zWr w) (q, (N, 0))).2.2.1 2 = (zMr X L w q).1.2.2) := by
  have n0 := hN 0 (by decide)
  have n1 := hN 1 (by decide)
  have n2 := hN 2 (by decide)
  have sD : ∀ w : Nat, zWr w = [68] → zMr X L w q = (((zD1 X L q 1).1, (0, 0)), (zD1 X L q 1).2) → (zFol X L (zWr w) (q, (N, 0))).1 = !(zMr X L w q).2.2 ∧ (zFol X L (zWr w) (q, (N, 0))).2.1 = (zMr X L w q).2.1 ∧ ((zMr X L w q).2.2 = false → (zFol X L (zWr w) (q, (N, 0))).2.2.1 0 = (zMr X L w q).1.1 ∧ (zFol X L (zWr w) (q, (N, 0))).2.2.1 1 = (zMr X L w q).1.2.1 ∧ (zFol X L (zWr w) (q, (N, 0))).2.2.1 2 = (zMr X L w q).1.2.2) := fun w e1 e2 => by
    rw [e1, e2, fo_D (by decide)]
    cases c : (zD1 X L q 1).2.2
    · simp only [Bool.false_eq_true, eq_self, if_true, if_false]; rw [zFol]; simp [zU, c, n1, n2]
    · simp only [Bool.false_eq_true, eq_self, if_true, if_false]; simp [c]
  have sN : ∀ w : Nat, zWr w = [78] → zMr X L w q = (((zD1 X L q 3).1, (0, 0)), (zD1 X L q 3).2) → (zFol X L (zWr w) (q, (N, 0))).1 = !(zMr X L w q).2.2 ∧ (zFol X L (zWr w) (q, (N, 0))).2.1 = (zMr X L w q).2.1 ∧ ((zMr X L w q).2.2 = false → (zFol X L (zWr w) (q, (N, 0))).2.2.1 0 = (zMr X L w q).1.1 ∧ (zFol X L (zWr w) (q, (N, 0))).2.2.1 1 = (zMr X L w q).1.2.1 ∧ (zFol X L (zWr w) (q, (N, 0))).2.2.1 2 = (zMr X L w q).1.2.2) := fun w e1 e2 => by
    rw [e1, e2, fo_N (by decide)]
    cases c : (zD1 X L q 3).2.2
    · simp only [Bool.false_eq_true, eq_self, if_true, if_false]; rw [zFol]; simp [zU, c, n1, n2]
    · simp only [Bool.false_eq_true, eq_self, if_true, if_false]; simp [c]
  intro w hw
  match w, hw with
  | 0, _ => exact sN 0 rfl rfl
  | 1, _ =>
    rw [show zWr 1 = [68, 32, 68, 32, 71] from rfl, fo_D (by decide)]
    unfold zMr
    rw [if_pos (rfl : (1 : Nat) = 1)]
    cases c1 : (zD1 X L q 1).2.2
    · simp only [Bool.false_eq_true, eq_self, if_true, if_false]; rw [fo_B (mx := 1) (by decide) (Or.inl ⟨rfl, rfl⟩) (by decide)]
      cases c2 : (zD2 X L (zD1 X L q 1).2.1 32 1).2.2
      · simp only [Bool.false_eq_true, eq_self, if_true, if_false]
        rw [fo_G (by decide)]
        cases c3 : (zD3 X L (zD2 X L (zD1 X L q 1).2.1 32 1).2.1).2.2
        · simp only [Bool.false_eq_true, eq_self, if_true, if_false]; simp [zU, c3, n1, n2]
        · simp only [Bool.false_eq_true, eq_self, if_true, if_false]; simp [c3]
      · simp only [Bool.false_eq_true, eq_self, if_true, if_false]; simp [c2]
    · simp only [Bool.false_eq_true, eq_self, if_true, if_false]; simp [c1]
  | 2, _ =>
    rw [show zWr 2 = [68, 32, 71] from rfl, fo_D (by decide)]
    unfold zMr
    rw [if_neg (show ¬ (2 : Nat) = 1 by decide), if_pos (rfl : (2 : Nat) = 2)]
    cases c1 : (zD1 X L q 1).2.2
    · simp only [Bool.false_eq_true, eq_self, if_true, if_false]; rw [fo_G (by decide)]
      cases c3 : (zD3 X L (zD1 X L q 1).2.1).2.2
      · simp only [Bool.false_eq_true, eq_self, if_true, if_false]; simp [zU, c3, n1, n2]
      · simp only [Bool.false_eq_true, eq_self, if_true, if_false]; simp [c3]
    · simp only [Bool.false_eq_true, eq_self, if_true, if_false]; simp [c1]
  | 3, _ => exact sD 3 rfl rfl
  | 4, _ => exact sD 4 rfl rfl
  | 5, _ => exact sN 5 rfl rfl
  | 6, _ =>
    rw [show zWr 6 = [78, 47, 78, 32, 68] from rfl, fo_N (by decide)]
    unfold zMr
    rw [if_neg (show ¬ (6 : Nat) = 1 by decide), if_neg (show ¬ (6 : Nat) = 2 by decide), if_pos (rfl : (6 : Nat) = 6)]
    cases c1 : (zD1 X L q 3).2.2
    · simp only [Bool.false_eq_true, eq_self, if_true, if_false]; rw [fo_B (mx := 3) (by decide) (Or.inr ⟨rfl, rfl⟩) (by decide)]
      cases c2 : (zD2 X L (zD1 X L q 3).2.1 47 3).2.2
      · simp only [Bool.false_eq_true, eq_self, if_true, if_false]
        rw [fo_B (mx := 1) (by decide) (Or.inl ⟨rfl, rfl⟩) (by decide)]
        cases c3 : (zD2 X L (zD2 X L (zD1 X L q 3).2.1 47 3).2.1 32 1).2.2
        · simp only [Bool.false_eq_true, eq_self, if_true, if_false, zFol]; simp [zU, c3, n1, n2]
        · simp only [Bool.false_eq_true, eq_self, if_true, if_false]; simp [c3]
      · simp only [Bool.false_eq_true, eq_self, if_true, if_false]; simp [c2]
    · simp only [Bool.false_eq_true, eq_self, if_true, if_false]; simp [c1]
  | 7, _ => exact sN 7 rfl rfl
  | 8, _ => exact sN 8 rfl rfl
  | 9, _ => exact sN 9 rfl rfl
/-- the Model's command: its word, its numbers, where it ends, whether it is wrong -/
def zMC (X : Nat → Int) (L p : Nat) : Nat × ((Int × (Int × Int)) × (Nat × Bool)) := if (zWs X L p 9 0).1 < 0 then (0, ((0, (0, 0)), ((zWs X L p 9 0).2, true))) else ((zWs X L p 9 0).1.toNat, zMr X L (zWs X L p 9 0).1.toNat (zWs X L p 9 0).2)
theorem zMC_R {X : Nat → Int} {L : Nat} (w0 : Nat) (s : zPS) : (zRc X L w0 s).1 = !(zMC X L s.1).2.2.2 ∧ (zRc X L w0 s).2.2.1 = (zMC X L s.1).2.2.1 ∧ ((zMC X L s.1).2.2.2 = false → (zRc X L w0 s).2.1 = (zMC X L s.1).1 ∧ (zRc X L w0 s).2.2.2.1 0 = (zMC X L s.1).2.1.1 ∧ (zRc X L w0 s).2.2.2.1 1 = (zMC X L s.1).2.1.2.1 ∧ (zRc X L w0 s).2.2.2.1 2 = (zMC X L s.1).2.1.2.2) := by
  rcases zRc_W (X := X) (L := L) (w0 := w0) s with ⟨w, w1, w2, w3, w4⟩ | ⟨x, x1, x2, x3⟩
  · obtain ⟨f1, f2, f3⟩ := zMr_f (X := X) (L := L) (q := s.1 + (zWl w).length) (N := zN0 s.2.1) (fun j hj => if_pos hj) w w1
    have e : zMC X L s.1 = (w, zMr X L w (s.1 + (zWl w).length)) := by
      unfold zMC
      rw [w2, if_neg (by show ¬ (w : Int) < 0; omega)]
      show ((w : Int).toNat, zMr X L (w : Int).toNat (s.1 + (zWl w).length)) = _
      rw [Int.toNat_natCast]
    rw [e]
    show _ = !(zMr X L w (s.1 + (zWl w).length)).2.2 ∧ _ = (zMr X L w (s.1 + (zWl w).length)).2.1 ∧ ((zMr X L w (s.1 + (zWl w).length)).2.2 = false → _)
    cases c : (zMr X L w (s.1 + (zWl w).length)).2.2
    · rw [c] at f1
      have g := w3 f1
      rw [g]
      exact ⟨rfl, f2, fun _ => ⟨rfl, f3 c⟩⟩
    · rw [c] at f1
      have g := w4 f1
      exact ⟨g.1, g.2.trans f2, fun z => absurd z (by decide)⟩
  · have e : zMC X L s.1 = (0, ((0, (0, 0)), (s.1 + x, true))) := by
      unfold zMC
      rw [x1, if_pos (show ((-1 : Int), s.1 + x).1 < 0 from (by decide : (-1 : Int) < 0))]
    rw [e]
    exact ⟨x2, x3, fun z => absurd z (show ¬ true = false by decide)⟩
theorem zWs_p {X : Nat → Int} {L p : Nat} (hp : p ≤ 60) (hL : L ≤ 60) (h : 0 ≤ (zWs X L p 9 0).1) : (zWs X L p 9 0).1.toNat < 10 ∧ (zWs X L p 9 0).1 = ((zWs X L p 9 0).1.toNat : Int) ∧ (zWs X L p 9 0).2 ≤ 60 := by
  rcases zWs_e (X := X) (L := L) (p := p) 9 0 rfl (fun w w1 z => by have := zW_n w w1; omega) (Or.inl rfl) (fun w w1 _ => Nat.zero_le _) with ⟨w, w1, w2, w3⟩ | ⟨h1, x, h2, h3, h4⟩
  · rw [w3]
    have n := zW_n w w1
    have := zsg_l (zLp_at (X := X) (L := L) (p := p) (cs := zWl w) (j := (zWl w).length - 1) (by unfold zLc at w2; omega))
    refine ⟨by show (w : Int).toNat < 10; omega, by show (w : Int) = ((w : Int).toNat : Int); omega, by show p + (zWl w).length ≤ 60; omega⟩
  · rw [h2] at h
    exact absurd (show (0 : Int) ≤ -1 from h) (by decide)
