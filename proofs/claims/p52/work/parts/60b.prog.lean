/-! a command that was read: how far, which, its numbers -/
def zOkN (N : Nat → Int) : Prop := ∀ j, j < 3 → -999 ≤ N j ∧ N j ≤ 999
theorem zdn_dg (X : Nat → Int) (L : Nat) : ∀ m p j, j < zdn X L p m → zdg X L (p + j) = true
  | 0, p, j, h => by rw [zdn] at h; omega
  | m + 1, p, j, h => by
    rw [zdn] at h
    cases hd : zdg X L p with
    | false => rw [hd, if_neg (by decide)] at h; omega
    | true =>
      rw [hd, if_pos rfl] at h
      cases j with
      | zero => exact hd
      | succ j => have := zdn_dg X L m (p + 1) j (by omega); rwa [show p + (j + 1) = p + 1 + j by omega]
theorem zvl_r1 {X : Nat → Int} {p k : Nat} (h : ∀ j, j < k + 1 → 48 ≤ X (p + j) ∧ X (p + j) ≤ 57) {b : Int} (hb : 0 ≤ zvl X p k ∧ zvl X p k ≤ b) : 0 ≤ zvl X p (k + 1) ∧ zvl X p (k + 1) ≤ 10 * b + 9 := by
  have := h k (by omega)
  rw [zvl]; omega
theorem zvl_r {X : Nat → Int} {p : Nat} : ∀ k : Nat, k ≤ 3 → (∀ j, j < k → 48 ≤ X (p + j) ∧ X (p + j) ≤ 57) → 0 ≤ zvl X p k ∧ zvl X p k ≤ 999
  | 0, _, _ => by rw [zvl]; omega
  | 1, _, h => by have := zvl_r1 (k := 0) h (b := 0) (by rw [zvl]; omega); show 0 ≤ zvl X p (0 + 1) ∧ zvl X p (0 + 1) ≤ 999; omega
  | 2, _, h => by have := zvl_r1 (k := 1) h (b := 9) (zvl_r1 (k := 0) (fun j hj => h j (by omega)) (b := 0) (by rw [zvl]; omega)); show 0 ≤ zvl X p (1 + 1) ∧ zvl X p (1 + 1) ≤ 999; omega
  | 3, _, h => by have := zvl_r1 (k := 2) h (b := 99) (zvl_r1 (k := 1) (fun j hj => h j (by omega)) (b := 9) (zvl_r1 (k := 0) (fun j hj => h j (by omega)) (b := 0) (by rw [zvl]; omega))); show 0 ≤ zvl X p (2 + 1) ∧ zvl X p (2 + 1) ≤ 999; omega
  | n + 4, h, _ => absurd h (by omega)
theorem zNum_ok {X : Nat → Int} {L mx : Nat} {f : Int} {s : zPS} (hm : mx ≤ 3) (hf : f = 1 ∨ f = -1) (hN : zOkN s.2.1) : zOkN (zNum X L mx f s).2.2.1 ∧ ((zNum X L mx f s).1 = true → s.1 < (zNum X L mx f s).2.1 ∧ (zNum X L mx f s).2.1 ≤ L) := by
  have h1 := zdn_le X L mx s.1
  have h2 := zvl_r (X := X) (p := s.1) (zdn X L s.1 mx) (by omega) (fun j hj => (of_decide_eq_true (zdn_dg X L mx s.1 j hj)).2)
  unfold zNum
  split
  · rename_i c
    refine ⟨fun j hj => ?_, fun _ => ⟨by show s.1 < s.1 + _; omega, by show s.1 + _ ≤ L; omega⟩⟩
    show -999 ≤ zU s.2.1 s.2.2 _ j ∧ zU s.2.1 s.2.2 _ j ≤ 999
    by_cases e : j = s.2.2
    · rw [e, zU_s]; rcases hf with rfl | rfl <;> omega
    · rw [zU_n e]; exact hN j hj
  · exact ⟨hN, fun z => absurd (show false = true from z) (by decide)⟩
theorem zPart_ok {X : Nat → Int} {L : Nat} {c : Int} {s : zPS} (hN : zOkN s.2.1) : zOkN (zPart X L c s).2.2.1 ∧ ((zPart X L c s).1 = true → s.1 < (zPart X L c s).2.1 ∧ (zPart X L c s).2.1 ≤ L) := by
  unfold zPart
  split
  · exact zNum_ok (by decide) (Or.inl rfl) hN
  · split
    · exact zNum_ok (by decide) (Or.inl rfl) hN
    · split
      · split
        · have := zNum_ok (X := X) (L := L) (mx := 3) (f := -1) (s := (s.1 + 1, s.2)) (by decide) (Or.inr rfl) hN
          exact ⟨this.1, fun z => ⟨by have := (this.2 z).1; simp only at this; omega, (this.2 z).2⟩⟩
        · exact zNum_ok (by decide) (Or.inl rfl) hN
      · unfold zSig
        split
        · rename_i c3 c4
          have := (of_decide_eq_true c4).1
          exact ⟨hN, fun _ => ⟨by show s.1 < s.1 + 1; omega, by show s.1 + 1 ≤ L; omega⟩⟩
        · exact ⟨hN, fun z => absurd (show false = true from z) (by decide)⟩
theorem zFol_ok {X : Nat → Int} {L : Nat} : ∀ (cs : List Nat) (s : zPS), zOkN s.2.1 → zOkN (zFol X L cs s).2.2.1 ∧ ((zFol X L cs s).1 = true → s.1 ≤ (zFol X L cs s).2.1 ∧ (cs ≠ [] → s.1 < (zFol X L cs s).2.1 ∧ (zFol X L cs s).2.1 ≤ L))
  | [], s, hN => ⟨hN, fun _ => ⟨Nat.le_refl _, fun z => absurd rfl z⟩⟩
  | c :: cs, s, hN => by
    have h1 := zPart_ok (X := X) (L := L) (c := (c : Int)) hN
    have h2 := zFol_ok (X := X) (L := L) cs (zPart X L (c : Int) s).2 h1.1
    rw [zFol]
    split
    · rename_i e
      have h3 := h1.2 e
      refine ⟨h2.1, fun z => ?_⟩
      have h4 := h2.2 z
      refine ⟨by omega, fun _ => ⟨by omega, ?_⟩⟩
      by_cases hc : cs = []
      · rw [hc]; exact h3.2
      · exact (h4.2 hc).2
    · exact ⟨h1.1, fun z => absurd (show false = true from z) (by decide)⟩
theorem zForm_ne : ∀ w : Nat, w < 10 → zForm w ≠ [] := by decide
theorem zN0_ok (N : Nat → Int) : zOkN (zN0 N) := fun j hj => by unfold zN0; rw [if_pos hj]; omega
theorem zRd_ok {X : Nat → Int} {L p : Nat} : ∀ (m w w0 : Nat) (s : zPS) (fur : Nat), w + m = 10 → (zRd X L p m w w0 s fur).1 = true → (zRd X L p m w w0 s fur).2.1 < 10 ∧ p < (zRd X L p m w w0 s fur).2.2.1 ∧ (zRd X L p m w w0 s fur).2.2.1 ≤ L ∧ zOkN (zRd X L p m w w0 s fur).2.2.2.1
  | 0, w, w0, s, fur, _, h => by rw [zRd] at h; exact absurd (show false = true from h) (by decide)
  | m + 1, w, w0, s, fur, hw, h => by
    have h1 := zFol_ok (X := X) (L := L) (zForm w) (p, (zN0 s.2.1, 0)) (zN0_ok _)
    rw [zRd] at h ⊢
    split
    · rename_i e
      have h2 := h1.2 e
      have h3 := h2.2 (zForm_ne w (by omega))
      exact ⟨by show w < 10; omega, h3.1, h3.2, h1.1⟩
    · rename_i e
      rw [if_neg e] at h
      exact zRd_ok m (w + 1) w0 _ _ (by omega) h
theorem zRc_ok {X : Nat → Int} {L w0 : Nat} {s : zPS} (h : (zRc X L w0 s).1 = true) : (zRc X L w0 s).2.1 < 10 ∧ s.1 < (zRc X L w0 s).2.2.1 ∧ (zRc X L w0 s).2.2.1 ≤ L ∧ zOkN (zRc X L w0 s).2.2.2.1 := zRd_ok 10 0 w0 s s.1 rfl h
/-- each counted command takes a character -/
theorem zCc_le {X : Nat → Int} {L : Nat} : ∀ (m n w : Nat) (s : zPS), 0 ≤ (zCc X L m n w s).1 → (zCc X L m n w s).1 + s.1 + 1 ≤ n + L ∧ (n : Int) ≤ (zCc X L m n w s).1
  | 0, n, w, s, h => by rw [zCc] at h; exact absurd (show (0 : Int) ≤ -1 from h) (by decide)
  | m + 1, n, w, s, h => by
    rw [zCc] at h ⊢
    split
    · rename_i e
      have h1 := zRc_ok e
      rw [if_pos e] at h
      split
      · exact ⟨by show (n : Int) + s.1 + 1 ≤ n + L; omega, Int.le_refl _⟩
      · rename_i e2
        rw [if_neg e2] at h
        split
        · rename_i e3
          rw [if_pos e3] at h
          have h2 := zCc_le m (n + 1) (zRc X L w s).2.1 _ h
          have h3 : (zSig X L 59 (zRc X L w s).2.2).2.1 = (zRc X L w s).2.2.1 + 1 := by unfold zSig; rw [if_pos e3]
          rw [h3] at h2
          omega
        · rename_i e3
          rw [if_neg e3] at h
          exact absurd (show (0 : Int) ≤ -1 from h) (by decide)
    · rename_i e
      rw [if_neg e] at h
      exact absurd (show (0 : Int) ≤ -1 from h) (by decide)
theorem ov_upx {T T' : Nat} {v : Nat → Int} (hv : ov_iv T v) (h : T ≤ T') (h2 : T' ≤ 1000) : ov_iv T' v := by
  obtain ⟨a, b, c, d, e, f, g, i, j⟩ := hv
  exact ⟨by omega, by omega, c, by omega, by omega, f, by omega, h2, j⟩
theorem st_upx {T T' : Nat} {v : Nat → Int} (hv : st_iv T v) (h : T ≤ T') (h2 : T' ≤ 1000) : st_iv T' v := ⟨hv.1, ov_upx hv.2 h h2⟩
