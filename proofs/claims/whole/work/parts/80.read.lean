/-! words: how far one can be followed -/
def zLp (X : Nat → Int) (L : Nat) : Nat → List Nat → Nat
  | _, [] => 0
  | p, c :: cs => if zsg X L p (c : Int) = true then zLp X L (p + 1) cs + 1 else 0
theorem zLp_le (X : Nat → Int) (L : Nat) : ∀ (cs : List Nat) (p : Nat), zLp X L p cs ≤ cs.length
  | [], _ => Nat.le_refl 0
  | c :: cs, p => by
    have := zLp_le X L cs (p + 1)
    rw [zLp, List.length_cons]
    split <;> omega
theorem zLp_s (X : Nat → Int) (L : Nat) : ∀ (cs : List Nat) (p n : Nat), n + 1 ≤ zLp X L p cs ↔ n ≤ zLp X L p cs ∧ n < cs.length ∧ zsg X L (p + n) ((cs.getD n 0 : Nat) : Int) = true
  | [], p, n => by simp [zLp]
  | c :: cs, p, 0 => by
    rw [zLp, List.length_cons]
    by_cases e : zsg X L p (c : Int) = true
    · rw [if_pos e]; simp [e]
    · rw [if_neg e]; simp [e]
  | c :: cs, p, n + 1 => by
    have ih := zLp_s X L cs (p + 1) n
    rw [zLp, List.length_cons]
    by_cases e : zsg X L p (c : Int) = true
    · rw [if_pos e, show p + (n + 1) = p + 1 + n by omega]
      simp only [List.getD_cons_succ]
      constructor
      · intro h
        have := ih.mp (by omega)
        exact ⟨by omega, by omega, this.2.2⟩
      · intro h
        have := ih.mpr ⟨by omega, by omega, h.2.2⟩
        omega
    · rw [if_neg e]
      constructor
      · intro h; omega
      · intro h; omega
theorem zLp_at {X : Nat → Int} {L p : Nat} {cs : List Nat} {j : Nat} (h : j < zLp X L p cs) : zsg X L (p + j) ((cs.getD j 0 : Nat) : Int) = true := ((zLp_s X L cs p j).mp h).2.2
def zWls : List (List Nat) := [[110, 101, 101, 100, 108, 101, 32], [115, 101, 116, 32], [115, 104, 105, 102, 116, 32], [99, 111, 114, 114, 101, 99, 116, 32], [100, 105, 115, 99, 97, 114, 100, 32], [108, 105, 109, 105, 116, 32], [98, 97, 116, 99, 104, 32], [100, 114, 111, 112, 32], [98, 97, 107, 101, 32], [114, 101, 115, 116, 32]]
def zWrs : List (List Nat) := [[78], [68, 32, 68, 32, 71], [68, 32, 71], [68], [68], [78], [78, 47, 78, 32, 68], [78], [78], [78]]
def zWl (w : Nat) : List Nat := zWls.getD w []
def zWr (w : Nat) : List Nat := zWrs.getD w []
theorem zW_f : ∀ w : Nat, w < 10 → zForm w = zWl w ++ zWr w := by decide
theorem zW_n : ∀ w : Nat, w < 10 → 4 ≤ (zWl w).length ∧ (zWl w).length ≤ 8 := by decide
theorem zW_l : ∀ w : Nat, w < 10 → ∀ c ∈ zWl w, 32 ≤ c ∧ c ≤ 126 ∧ c ≠ 68 ∧ c ≠ 78 ∧ c ≠ 71 := by decide
theorem zW_u : ∀ w : Nat, w < 10 → ∀ u : Nat, u < 10 → w ≠ u → ∃ j, j < 8 ∧ j < (zWl w).length ∧ j < (zWl u).length ∧ (zWl w).getD j 0 ≠ (zWl u).getD j 0 := by decide +kernel
/-- how far the word w can be followed -/
def zLc (X : Nat → Int) (L p w : Nat) : Nat := zLp X L p (zWl w)
theorem zLc_le {X : Nat → Int} {L p w : Nat} : zLc X L p w ≤ (zWl w).length := zLp_le X L _ p
theorem zLc_u {X : Nat → Int} {L p w u : Nat} (hw : w < 10) (hu : u < 10) (hne : w ≠ u) (h : zLc X L p w = (zWl w).length) : zLc X L p u < (zWl w).length ∧ zLc X L p u < (zWl u).length := by
  obtain ⟨j, -, j1, j2, j3⟩ := zW_u w hw u hu hne
  have : zLc X L p u ≤ j := by
    refine Nat.le_of_not_lt fun hj => j3 ?_
    have e1 := (of_decide_eq_true (zLp_at (X := X) (L := L) (p := p) (cs := zWl w) (j := j) (by unfold zLc at h; omega))).2
    have e2 := (of_decide_eq_true (zLp_at (X := X) (L := L) (p := p) (cs := zWl u) (j := j) hj)).2
    omega
  omega
theorem z_ff {α β : Type} {b : α} {x y : β} : (if ((false, b) : Bool × α).1 = true then x else y) = y := rfl
theorem zFol_app (X : Nat → Int) (L : Nat) : ∀ (a b : List Nat) (s : zPS), zFol X L (a ++ b) s = if (zFol X L a s).1 = true then zFol X L b (zFol X L a s).2 else (false, (zFol X L a s).2)
  | [], b, s => rfl
  | c :: cs, b, s => by
    rw [List.cons_append, zFol, zFol]
    by_cases e : (zPart X L (c : Int) s).1 = true
    · rw [if_pos e, if_pos e, zFol_app X L cs b]
    · rw [if_neg e, if_neg e]; rfl
theorem zFol_lit (X : Nat → Int) (L : Nat) : ∀ (cs : List Nat) (p : Nat) (t : (Nat → Int) × Nat), (∀ c ∈ cs, c ≠ 68 ∧ c ≠ 78 ∧ c ≠ 71) → zFol X L cs (p, t) = (decide (zLp X L p cs = cs.length), (p + zLp X L p cs, t))
  | [], p, t, _ => rfl
  | c :: cs, p, t, h => by
    have hc := h c List.mem_cons_self
    have ih := zFol_lit X L cs (p + 1) t (fun c hc => h c (List.mem_cons_of_mem _ hc))
    have e0 : zPart X L (c : Int) (p, t) = zSig X L (c : Int) (p, t) := by
      unfold zPart
      rw [if_neg (by omega), if_neg (by omega), if_neg (by omega)]
    rw [zFol, e0, zLp, List.length_cons]
    unfold zSig
    by_cases e : zsg X L p (c : Int) = true
    · rw [if_pos e, if_pos e, if_pos rfl, ih]
      have : p + 1 + zLp X L (p + 1) cs = p + (zLp X L (p + 1) cs + 1) := by omega
      rw [this]
      congr 1
      exact decide_eq_decide.mpr (by omega)
    · rw [if_neg e, if_neg e, z_ff]
      congr 1
theorem zN0_0 (N : Nat → Int) : zN0 (zN0 N) = zN0 N := by funext j; unfold zN0; split <;> simp_all
/-- a form whose word is not there -/
theorem zFm_no {X : Nat → Int} {L p w : Nat} (hw : w < 10) (t : (Nat → Int) × Nat) (h : zLc X L p w < (zWl w).length) : zFol X L (zForm w) (p, t) = (false, (p + zLc X L p w, t)) := by
  rw [zW_f w hw, zFol_app, zFol_lit X L (zWl w) p t (fun c hc => (zW_l w hw c hc).2.2)]
  have : decide (zLp X L p (zWl w) = (zWl w).length) = false := decide_eq_false (by unfold zLc at h; omega)
  rw [this, z_ff]
  rfl
theorem zFm_yes {X : Nat → Int} {L p w : Nat} (hw : w < 10) (t : (Nat → Int) × Nat) (h : zLc X L p w = (zWl w).length) : zFol X L (zForm w) (p, t) = zFol X L (zWr w) (p + (zWl w).length, t) := by
  rw [zW_f w hw, zFol_app, zFol_lit X L (zWl w) p t (fun c hc => (zW_l w hw c hc).2.2)]
  have : decide (zLp X L p (zWl w) = (zWl w).length) = true := decide_eq_true h
  rw [this, if_pos rfl]
  show zFol X L (zWr w) (p + zLp X L p (zWl w), t) = _
  rw [show zLp X L p (zWl w) = (zWl w).length from h]
/-- without a word: how far one could be followed -/
theorem zRd_no {X : Nat → Int} {L p : Nat} : ∀ (m w w0 : Nat) (s : zPS) (fur : Nat), w + m = 10 → (∀ u, w ≤ u → u < 10 → zLc X L p u < (zWl u).length) → (zRd X L p m w w0 s fur).1 = false ∧ fur ≤ (zRd X L p m w w0 s fur).2.2.1 ∧ (∀ u, w ≤ u → u < 10 → p + zLc X L p u ≤ (zRd X L p m w w0 s fur).2.2.1) ∧ ((zRd X L p m w w0 s fur).2.2.1 = fur ∨ ∃ u, w ≤ u ∧ u < 10 ∧ (zRd X L p m w w0 s fur).2.2.1 = p + zLc X L p u)
  | 0, w, w0, s, fur, hw, h => ⟨rfl, Nat.le_refl _, fun u h1 h2 => absurd h2 (by omega), Or.inl rfl⟩
  | m + 1, w, w0, s, fur, hw, h => by
    have e0 := zFm_no (X := X) (L := L) (p := p) (w := w) (by omega) (zN0 s.2.1, 0) (h w (Nat.le_refl _) (by omega))
    rw [zRd, e0, z_ff]
    dsimp only
    obtain ⟨i1, i2, i3, i4⟩ := zRd_no m (w + 1) w0 (p + zLc X L p w, (zN0 s.2.1, 0)) (max fur (p + zLc X L p w)) (by omega) (fun u h1 h2 => h u (by omega) h2)
    refine ⟨i1, by omega, fun u h1 h2 => ?_, ?_⟩
    · by_cases e : u = w
      · rw [e]; omega
      · exact i3 u (by omega) h2
    · rcases i4 with e | ⟨u, u1, u2, u3⟩
      · by_cases c : fur ≤ p + zLc X L p w
        · exact Or.inr ⟨w, Nat.le_refl _, by omega, by rw [e]; omega⟩
        · exact Or.inl (by rw [e]; omega)
      · exact Or.inr ⟨u, by omega, u2, u3⟩
theorem zPart_mono (X : Nat → Int) (L : Nat) (c : Int) (s : zPS) : s.1 ≤ (zPart X L c s).2.1 := by
  have hn : ∀ (mx : Nat) (f : Int) (s : zPS), s.1 ≤ (zNum X L mx f s).2.1 := fun mx f s => by
    unfold zNum
    split
    · show s.1 ≤ s.1 + _; omega
    · show s.1 ≤ s.1 + _; omega
  unfold zPart
  split
  · exact hn _ _ _
  · split
    · exact hn _ _ _
    · split
      · split
        · have := hn 3 (-1) (s.1 + 1, s.2); simp only at this; omega
        · exact hn _ _ _
      · unfold zSig
        split
        · show s.1 ≤ s.1 + 1; omega
        · exact Nat.le_refl _
theorem zFol_mono (X : Nat → Int) (L : Nat) : ∀ (cs : List Nat) (s : zPS), s.1 ≤ (zFol X L cs s).2.1
  | [], s => Nat.le_refl _
  | c :: cs, s => by
    have h1 := zPart_mono X L (c : Int) s
    have h2 := zFol_mono X L cs (zPart X L (c : Int) s).2
    rw [zFol]
    split
    · omega
    · exact h1
/-- with the word w: its form decides -/
theorem zRd_yes {X : Nat → Int} {L p u : Nat} (hu : u < 10) (hc : zLc X L p u = (zWl u).length) : ∀ (m w w0 : Nat) (s : zPS) (fur : Nat), w + m = 10 → w ≤ u → fur ≤ p + (zWl u).length → ((zFol X L (zWr u) (p + (zWl u).length, (zN0 s.2.1, 0))).1 = true → zRd X L p m w w0 s fur = (true, (u, (zFol X L (zWr u) (p + (zWl u).length, (zN0 s.2.1, 0))).2))) ∧ ((zFol X L (zWr u) (p + (zWl u).length, (zN0 s.2.1, 0))).1 = false → (zRd X L p m w w0 s fur).1 = false ∧ (zRd X L p m w w0 s fur).2.2.1 = (zFol X L (zWr u) (p + (zWl u).length, (zN0 s.2.1, 0))).2.1)
  | 0, w, w0, s, fur, hw, h, _ => absurd h (by omega)
  | m + 1, w, w0, s, fur, hw, h, hf => by
    by_cases e : w = u
    · subst e
      have e0 := zFm_yes (X := X) (L := L) (p := p) (w := w) hu (zN0 s.2.1, 0) hc
      rw [zRd, e0]
      refine ⟨fun ht => if_pos ht, fun ht => ?_⟩
      rw [if_neg (by rw [ht]; decide)]
      have hm : p + (zWl w).length ≤ (zFol X L (zWr w) (p + (zWl w).length, (zN0 s.2.1, 0))).2.1 := zFol_mono X L (zWr w) (p + (zWl w).length, (zN0 s.2.1, 0))
      obtain ⟨i1, i2, i3, i4⟩ := zRd_no (X := X) (L := L) (p := p) m (w + 1) w0 (zFol X L (zWr w) (p + (zWl w).length, (zN0 s.2.1, 0))).2 (max fur (zFol X L (zWr w) (p + (zWl w).length, (zN0 s.2.1, 0))).2.1) (by omega) (fun x h1 h2 => (zLc_u hu h2 (by omega) hc).2)
      refine ⟨i1, ?_⟩
      rcases i4 with e4 | ⟨x, x1, x2, x3⟩
      · rw [e4]; omega
      · have := (zLc_u hu x2 (by omega) hc).1
        omega
    · have hl := zLc_u hu (show w < 10 by omega) (fun z => e z.symm) hc
      have e0 := zFm_no (X := X) (L := L) (p := p) (w := w) (by omega) (zN0 s.2.1, 0) hl.2
      rw [zRd, e0, z_ff]
      dsimp only
      have ih := zRd_yes hu hc m (w + 1) w0 (p + zLc X L p w, (zN0 s.2.1, 0)) (max fur (p + zLc X L p w)) (by omega) (by omega) (by omega)
      simp only [zN0_0] at ih
      exact ih
/-! the Model's search by letters: which words are left after n letters -/
def zLf (X : Nat → Int) (L p n w : Nat) : Bool := decide (n ≤ zLc X L p w)
/-- the last word below k that ends with the n-th letter -/
def zLw (X : Nat → Int) (L p n : Nat) : Nat → Int
  | 0 => -1
  | k + 1 => if n ≤ zLc X L p k ∧ n = (zWl k).length then (k : Int) else zLw X L p n k
def zAy (X : Nat → Int) (L p n : Nat) : Nat → Bool
  | 0 => false
  | k + 1 => zAy X L p n k || zLf X L p n k
def zWs (X : Nat → Int) (L p : Nat) : Nat → Nat → Int × Nat
  | 0, n => (-1, p + n)
  | m + 1, n => if zAy X L p (n + 1) 10 = true then (if 0 ≤ zLw X L p (n + 1) 10 then (zLw X L p (n + 1) 10, p + (n + 1)) else zWs X L p m (n + 1)) else (-1, p + n)
theorem zAy_t {X : Nat → Int} {L p n : Nat} : ∀ k, zAy X L p n k = true ↔ ∃ w, w < k ∧ n ≤ zLc X L p w
  | 0 => by simp [zAy]
  | k + 1 => by
    rw [zAy, Bool.or_eq_true, zAy_t k]
    unfold zLf
    rw [decide_eq_true_iff]
    constructor
    · rintro (⟨w, h1, h2⟩ | h)
      · exact ⟨w, by omega, h2⟩
      · exact ⟨k, by omega, h⟩
    · rintro ⟨w, h1, h2⟩
      by_cases e : w = k
      · exact Or.inr (e ▸ h2)
      · exact Or.inl ⟨w, by omega, h2⟩
theorem zLw_n {X : Nat → Int} {L p n : Nat} : ∀ k, zLw X L p n k < 0 ↔ ∀ w, w < k → ¬ (n ≤ zLc X L p w ∧ n = (zWl w).length)
  | 0 => by simp [zLw]
  | k + 1 => by
    have ih := zLw_n (X := X) (L := L) (p := p) (n := n) k
    rw [zLw]
    by_cases e : n ≤ zLc X L p k ∧ n = (zWl k).length
    · rw [if_pos e]
      constructor
      · intro h; omega
      · intro h; exact absurd e (h k (by omega))
    · rw [if_neg e, ih]
      constructor
      · intro h w hw
        by_cases e2 : w = k
        · rw [e2]; exact e
        · exact h w (by omega)
      · intro h w hw; exact h w (by omega)
theorem zLw_e {X : Nat → Int} {L p n : Nat} : ∀ k, 0 ≤ zLw X L p n k → ∃ w, w < k ∧ zLw X L p n k = (w : Int) ∧ n ≤ zLc X L p w ∧ n = (zWl w).length
  | 0, h => by simp [zLw] at h
  | k + 1, h => by
    rw [zLw] at h ⊢
    by_cases e : n ≤ zLc X L p k ∧ n = (zWl k).length
    · rw [if_pos e]; exact ⟨k, by omega, rfl, e.1, e.2⟩
    · rw [if_neg e] at h ⊢
      obtain ⟨w, h1, h2⟩ := zLw_e k h
      exact ⟨w, by omega, h2⟩
/-- the search ends: with the word that is there, or how far one could be followed -/
theorem zWs_e {X : Nat → Int} {L p : Nat} : ∀ (m n : Nat), n + m = 9 → (∀ w, w < 10 → ¬ (n ≤ zLc X L p w ∧ n = (zWl w).length)) → (n = 0 ∨ ∃ w, w < 10 ∧ n ≤ zLc X L p w) → (∀ w, w < 10 → zLc X L p w = (zWl w).length → n ≤ (zWl w).length) →
    (∃ w, w < 10 ∧ zLc X L p w = (zWl w).length ∧ zWs X L p m n = ((w : Int), p + (zWl w).length)) ∨ ((∀ w, w < 10 → zLc X L p w < (zWl w).length) ∧ ∃ x, zWs X L p m n = (-1, p + x) ∧ (∀ w, w < 10 → zLc X L p w ≤ x) ∧ (x = 0 ∨ ∃ w, w < 10 ∧ zLc X L p w = x))
  | 0, n, hm, hn, h0, hc => by
    exfalso
    rcases h0 with h0 | ⟨w, w1, w2⟩
    · omega
    · have := zLc_le (X := X) (L := L) (p := p) (w := w); have := zW_n w w1; omega
  | m + 1, n, hm, hn, h0, hc => by
    rw [zWs]
    by_cases ca : zAy X L p (n + 1) 10 = true
    · rw [if_pos ca]
      obtain ⟨w, w1, w2⟩ := (zAy_t 10).mp ca
      by_cases cl : 0 ≤ zLw X L p (n + 1) 10
      · rw [if_pos cl]
        obtain ⟨u, u1, u2, u3, u4⟩ := zLw_e 10 cl
        have := zLc_le (X := X) (L := L) (p := p) (w := u)
        exact Or.inl ⟨u, u1, by omega, by rw [u2, u4]⟩
      · rw [if_neg cl]
        have hn2 := (zLw_n 10).mp (show zLw X L p (n + 1) 10 < 0 by omega)
        refine zWs_e m (n + 1) (by omega) hn2 (Or.inr ⟨w, w1, w2⟩) (fun u u1 u2 => ?_)
        have h1 := hc u u1 u2
        have h2 := hn u u1
        omega
    · rw [if_neg ca]
      have hno : ∀ w, w < 10 → ¬ n + 1 ≤ zLc X L p w := fun w w1 w2 => ca ((zAy_t 10).mpr ⟨w, w1, w2⟩)
      refine Or.inr ⟨fun w w1 => ?_, n, rfl, fun w w1 => by have := hno w w1; omega, ?_⟩
      · have h1 := hno w w1
        have h2 := zLc_le (X := X) (L := L) (p := p) (w := w)
        by_cases e : zLc X L p w = (zWl w).length
        · have h3 := hc w w1 e
          have h4 := hn w w1
          omega
        · omega
      · rcases h0 with h0 | ⟨w, w1, w2⟩
        · exact Or.inl h0
        · exact Or.inr ⟨w, w1, by have := hno w w1; omega⟩
/-- the class's reading and the Model's: the same -/
theorem zRc_W {X : Nat → Int} {L w0 : Nat} (s : zPS) : (∃ w : Nat, w < 10 ∧ zWs X L s.1 9 0 = ((w : Int), s.1 + (zWl w).length) ∧ ((zFol X L (zWr w) (s.1 + (zWl w).length, (zN0 s.2.1, 0))).1 = true → zRc X L w0 s = (true, (w, (zFol X L (zWr w) (s.1 + (zWl w).length, (zN0 s.2.1, 0))).2))) ∧ ((zFol X L (zWr w) (s.1 + (zWl w).length, (zN0 s.2.1, 0))).1 = false → (zRc X L w0 s).1 = false ∧ (zRc X L w0 s).2.2.1 = (zFol X L (zWr w) (s.1 + (zWl w).length, (zN0 s.2.1, 0))).2.1)) ∨ ∃ x, zWs X L s.1 9 0 = (-1, s.1 + x) ∧ (zRc X L w0 s).1 = false ∧ (zRc X L w0 s).2.2.1 = s.1 + x := by
  rcases zWs_e (X := X) (L := L) (p := s.1) 9 0 rfl (fun w w1 z => by have := zW_n w w1; omega) (Or.inl rfl) (fun w w1 _ => Nat.zero_le _) with ⟨w, w1, w2, w3⟩ | ⟨h1, x, h2, h3, h4⟩
  · have := zRd_yes (X := X) (L := L) (p := s.1) w1 w2 10 0 w0 s s.1 rfl (Nat.zero_le _) (by omega)
    exact Or.inl ⟨w, w1, w3, this⟩
  · obtain ⟨i1, i2, i3, i4⟩ := zRd_no (X := X) (L := L) (p := s.1) 10 0 w0 s s.1 rfl (fun u _ u2 => h1 u u2)
    refine Or.inr ⟨x, h2, i1, ?_⟩
    show (zRd X L s.1 10 0 w0 s s.1).2.2.1 = s.1 + x
    have hx : s.1 + x ≤ (zRd X L s.1 10 0 w0 s s.1).2.2.1 := by
      rcases h4 with e | ⟨w, w1, w2⟩
      · omega
      · have := i3 w (Nat.zero_le _) w1; omega
    rcases i4 with e | ⟨u, u1, u2, u3⟩
    · omega
    · have := h3 u u2; omega
