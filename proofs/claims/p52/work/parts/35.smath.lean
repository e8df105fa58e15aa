/-! the mathematics of the sorted strengths -/
theorem zK_ext {p : Nat → Bool} {m : Nat} : ∀ n, m ≤ n → (∀ k, m ≤ k → k < n → p k = false) → zK p n = zK p m
  | 0, h, _ => by rw [show m = 0 by omega]
  | n + 1, h, hp => by
    by_cases e : m = n + 1
    · rw [e]
    · rw [zK, zK_ext n (by omega) (fun k hk hn => hp k hk (by omega)), hp n (by omega) (by omega)]; rfl
def zSd (F : Nat → Int) (n : Nat) : Prop := ∀ i j, i ≤ j → j < n → F i ≤ F j
def zKc (F : Nat → Int) (n : Nat) (t : Int) : Nat := zK (fun i => decide (F i ≤ t)) n
theorem zKc_s (F : Nat → Int) (n : Nat) (t : Int) : zKc F (n + 1) t = zKc F n t + (if F n ≤ t then 1 else 0) := by
  unfold zKc; rw [zK]; simp
theorem zKc_cg {F G : Nat → Int} {n : Nat} (h : ∀ i, i < n → F i = G i) (t : Int) : zKc F n t = zKc G n t := zK_cg n (fun k hk => by rw [h k hk])
theorem zKc_in {F G : Nat → Int} {pl : Nat} {s : Int} (h1 : ∀ i, i < pl → G i = F i) (h2 : G pl = s) (t : Int) : ∀ m, (∀ i, pl ≤ i → i < pl + m → G (i + 1) = F i) → zKc G (pl + m + 1) t = zKc F (pl + m) t + (if s ≤ t then 1 else 0)
  | 0, h3 => by
    show zKc G (pl + 1) t = zKc F pl t + _
    rw [zKc_s, zKc_cg h1, h2]
  | m + 1, h3 => by
    have ih := zKc_in h1 h2 t m (fun i hi hn => h3 i hi (by omega))
    rw [show pl + (m + 1) + 1 = (pl + m + 1) + 1 by omega, show pl + (m + 1) = (pl + m) + 1 by omega, zKc_s G, zKc_s F, ih, h3 (pl + m) (by omega) (by omega)]
    omega
/-- what an insertion leaves -/
theorem zSd_in {F G : Nat → Int} {n pl : Nat} {s : Int} (hpl : pl ≤ n) (hs : zSd F n) (h1 : ∀ i, i < pl → G i = F i) (h2 : G pl = s) (h3 : ∀ i, pl ≤ i → i < n → G (i + 1) = F i) (h4 : ∀ i, i < pl → F i ≤ s) (h5 : ∀ i, pl ≤ i → i < n → s < F i) : zSd G (n + 1) := by
  intro i j hij hj
  by_cases a : i < pl
  · rw [h1 i a]
    by_cases b : j < pl
    · rw [h1 j b]; exact hs i j hij (by omega)
    · by_cases c : j = pl
      · rw [c, h2]; exact h4 i a
      · have := h3 (j - 1) (by omega) (by omega)
        rw [show j - 1 + 1 = j by omega] at this
        rw [this]; exact hs i (j - 1) (by omega) (by omega)
  · have hj9 : j = pl ∨ G j = F (j - 1) := by
      by_cases c : j = pl
      · exact Or.inl c
      · have := h3 (j - 1) (by omega) (by omega)
        rw [show j - 1 + 1 = j by omega] at this
        exact Or.inr this
    by_cases c : i = pl
    · rw [c, h2]
      rcases hj9 with e | e
      · rw [e, h2]; exact Int.le_refl _
      · by_cases d : j = pl
        · rw [d, h2]; exact Int.le_refl _
        · rw [e]; have := h5 (j - 1) (by omega) (by omega); omega
    · have e1 := h3 (i - 1) (by omega) (by omega)
      rw [show i - 1 + 1 = i by omega] at e1
      rcases hj9 with e | e
      · omega
      · rw [e1, e]; exact hs (i - 1) (j - 1) (by omega) (by omega)
/-- open after k places; the difference so far -/
def zop (l : Nat) : Nat → Bool
  | 0 => false
  | k + 1 => if k = l then zop l k else !(zop l k)
def zdw (B : Nat → Int) (l : Nat) : Nat → Int
  | 0 => 0
  | k + 1 => if k = l then zdw B l k else zdw B l k + (if zop l k then B k else -(B k))
def zwc (B : Nat → Int) (l k : Nat) (t : Int) : Nat := zK (fun i => decide (i ≠ l) && decide (B i ≤ t)) k
def zWf' (B : Nat → Int) (l k : Nat) : Nat → Nat
  | 0 => 0
  | t + 1 => zWf' B l k t + zwc B l k (t : Int) % 2
theorem zop_p (l : Nat) : ∀ k, zop l k = decide (zK (fun i => decide (i ≠ l)) k % 2 = 1)
  | 0 => rfl
  | k + 1 => by
    rw [zop, zK, zop_p l k]
    by_cases e : k = l
    · rw [if_pos e, if_neg (by simp [e])]; rfl
    · rw [if_neg e, if_pos (by simp [e])]
      by_cases c : zK (fun i => decide (i ≠ l)) k % 2 = 1
      · rw [decide_eq_true c, decide_eq_false (by omega)]; rfl
      · rw [decide_eq_false c, decide_eq_true (by omega)]; rfl
theorem zop_n (l : Nat) : ∀ k, zK (fun i => decide (i ≠ l)) k = if l < k then k - 1 else k
  | 0 => rfl
  | k + 1 => by
    rw [zK, zop_n l k]
    by_cases e : k = l
    · subst e; simp
    · rw [show decide (k ≠ l) = true from decide_eq_true e, if_pos rfl]
      by_cases c : l < k
      · rw [if_pos c, if_pos (by omega)]; omega
      · rw [if_neg c, if_neg (by omega)]
theorem zwc_s {B : Nat → Int} {l k : Nat} {t : Int} (h : k ≠ l) : zwc B l (k + 1) t = zwc B l k t + (if B k ≤ t then 1 else 0) := by
  unfold zwc; rw [zK]; simp [h]
theorem zwc_l {B : Nat → Int} {l : Nat} {t : Int} : zwc B l (l + 1) t = zwc B l l t := by
  unfold zwc; rw [zK]; simp
theorem zwc_all {B : Nat → Int} {l k : Nat} {t : Int} (h : ∀ i, i < k → B i ≤ t) : zwc B l k t = zK (fun i => decide (i ≠ l)) k := zK_cg k (fun i hi => by rw [decide_eq_true (h i hi)]; simp)
theorem zWf'_s {B : Nat → Int} {l k n : Nat} (hs : zSd B n) (hk : k < n) (hl : k ≠ l) (h0 : 0 ≤ B k) : ∀ T : Nat, ((zWf' B l (k + 1) T : Nat) : Int) = if zop l k then (zWf' B l k T : Int) - ((T : Int) - min (B k) T) else (zWf' B l k T : Int) + ((T : Int) - min (B k) T)
  | 0 => by simp only [zWf']; split <;> omega
  | T + 1 => by
    have ih := zWf'_s hs hk hl h0 T
    have hp := zop_p l k
    have h1 := zwc_s (B := B) (t := (T : Int)) hl
    simp only [zWf']
    by_cases c : B k ≤ (T : Int)
    · have h2 := zwc_all (B := B) (l := l) (k := k) (t := (T : Int)) (fun i hi => Int.le_trans (hs i k (by omega) hk) c)
      rw [if_pos c] at h1
      cases ho : zop l k with
      | true =>
        rw [ho] at ih hp
        have hp := of_decide_eq_true hp.symm
        rw [if_pos rfl] at ih
        rw [if_pos rfl]
        omega
      | false =>
        rw [ho] at ih hp
        have hp := of_decide_eq_false hp.symm
        rw [if_neg (by decide)] at ih
        rw [if_neg (by decide)]
        omega
    · rw [if_neg c] at h1
      split at ih <;> split <;> omega
theorem zdw_e {B : Nat → Int} {l n : Nat} (hs : zSd B n) (h0 : ∀ i, i < n → 0 ≤ B i ∧ B i ≤ 99) : ∀ k, k ≤ n → zdw B l k = (zWf' B l k 99 : Int) - (if zop l k then 99 else 0)
  | 0, _ => by
    have : ∀ T, zWf' B l 0 T = 0 := fun T => by
      induction T with
      | zero => rfl
      | succ T ih => rw [zWf', ih]; rfl
    rw [this]; rfl
  | k + 1, hk => by
    have ih := zdw_e (l := l) hs h0 k (by omega)
    by_cases e : k = l
    · subst e
      have : ∀ T, zWf' B k (k + 1) T = zWf' B k k T := fun T => by
        induction T with
        | zero => rfl
        | succ T ih => rw [zWf', zWf', ih, zwc_l]
      rw [zdw, if_pos rfl, ih, this, zop, if_pos rfl]
    · have h9 := zWf'_s hs (show k < n by omega) e (h0 k (by omega)).1 99
      have hb := h0 k (by omega)
      rw [zdw, if_neg e, ih, zop, if_neg e]
      cases ho : zop l k with
      | true => rw [ho] at h9; rw [if_pos rfl] at h9; rw [if_pos rfl]; simp; omega
      | false => rw [ho] at h9; rw [if_neg (by decide)] at h9; rw [if_neg (by decide)]; simp; omega
/-- the same values, as often: each in one is in the other -/
theorem zEx {p q : Nat → Bool} {f g : Nat → Int} {n m : Nat} (h : ∀ t, zK (fun i => p i && decide (f i ≤ t)) n = zK (fun i => q i && decide (g i ≤ t)) m) {i : Nat} (hi : i < n) (hp : p i = true) : ∃ j, j < m ∧ q j = true ∧ g j = f i := by
  have h1 : ∀ (r : Nat → Bool) (e : Nat → Int) (k : Nat), zK (fun i => r i && decide (e i ≤ f i)) k = zK (fun i => r i && decide (e i ≤ f i)) k := fun _ _ _ => rfl
  have h2 : ∀ (r : Nat → Bool) (e : Nat → Int) (k : Nat), zK (fun j => r j && decide (e j ≤ f i)) k = zK (fun j => r j && decide (e j ≤ f i - 1)) k + zK (fun j => r j && decide (e j = f i)) k + zK (fun _ => false) k := fun r e k => zK_three k (fun j _ => by
    cases r j with
    | false => simp
    | true =>
      simp only [Bool.true_and, decide_eq_true_eq]
      by_cases c : e j = f i
      · rw [if_pos (by omega), if_neg (by omega), if_pos c]; rfl
      · by_cases d : e j ≤ f i
        · rw [if_pos d, if_pos (by omega), if_neg c]; rfl
        · rw [if_neg d, if_neg (by omega), if_neg c]; rfl)
  have h3 := h2 p f n
  have h4 := h2 q g m
  have h5 := h (f i)
  have h6 := h (f i - 1)
  have h8 : ∀ k, zK (fun _ => false) k = 0 := fun k => by
    induction k with
    | zero => rfl
    | succ k ih => rw [zK, ih]; rfl
  have h7 := zK_in (p := fun j => p j && decide (f j = f i)) hi (by simp [hp])
  rw [h8] at h3 h4
  obtain ⟨j, hj, hq⟩ := zK_pos (p := fun j => q j && decide (g j = f i)) (n := m) (by omega)
  simp only [Bool.and_eq_true, decide_eq_true_eq] at hq
  exact ⟨j, hj, hq.1, hq.2⟩
/-- the sorted strengths of a set -/
def zSo (v : Nat → Int) (S : Nat) (B : Nat → Int) (n : Nat) : Prop := n = zn S ∧ zSd B n ∧ (∀ i, i < n → 0 ≤ B i ∧ B i ≤ 99) ∧ ∀ t, zKc B n t = zc v S t
theorem zSo_e {v : Nat → Int} {S : Nat} {B : Nat → Int} {n : Nat} (h : zSo v S B n) (he : n % 2 = 0) : zdw B n n = zD v S := by
  obtain ⟨h1, h2, h3, h4⟩ := h
  have e0 : zop n n = false := by rw [zop_p, zop_n, if_neg (by omega)]; exact decide_eq_false (by omega)
  rw [zdw_e h2 h3 n (Nat.le_refl n), e0, zD_e (by omega)]
  have : ∀ T, zWf' B n n T = zAf v S T := fun T => by
    induction T with
    | zero => rfl
    | succ T ih =>
      rw [zWf', zAf, ih, ← h4]
      have : zwc B n n (T : Int) = zKc B n (T : Int) := zK_cg n (fun i hi => by rw [decide_eq_true (show i ≠ n by omega)]; rfl)
      rw [this]
  rw [this]; unfold zA; simp
theorem zSo_l {v : Nat → Int} {S : Nat} {B : Nat → Int} {n l k : Nat} (h : zSo v S B n) (ho : n % 2 = 1) (hS : S < 256) (hl : l < n) (hk : k < 8) (bk : S.testBit k = true) (e : v (10 + 10 * k) = B l) : zdw B l n = (zA v (zC S k) : Int) := by
  obtain ⟨h1, h2, h3, h4⟩ := h
  have e0 : zop l n = false := by rw [zop_p, zop_n, if_pos hl]; exact decide_eq_false (by omega)
  rw [zdw_e h2 h3 n (Nat.le_refl n), e0]
  have : ∀ T, zWf' B l n T = zAf v (zC S k) T := fun T => by
    induction T with
    | zero => rfl
    | succ T ih =>
      rw [zWf', zAf, ih]
      have h5 := zc_r (v := v) hS hk bk (T : Int)
      have h6 := h4 (T : Int)
      have h7 := zK_three (p := fun i => decide (B i ≤ (T : Int))) (a := fun i => decide (i ≠ l) && decide (B i ≤ (T : Int))) (b := fun i => decide (i = l) && decide (B l ≤ (T : Int))) (c := fun _ => false) n (fun i _ => by
        by_cases c : i = l
        · subst c; simp
        · simp [c])
      have h8 : ∀ k, zK (fun _ => false) k = 0 := fun k => by
        induction k with
        | zero => rfl
        | succ k ih => rw [zK, ih]; rfl
      rw [h8] at h7
      have h9 : zK (fun i => decide (i = l) && decide (B l ≤ (T : Int))) n = if B l ≤ (T : Int) then 1 else 0 := by
        by_cases c : B l ≤ (T : Int)
        · rw [if_pos c]; exact zK_one n hl (fun i _ => by simp [c])
        · rw [if_neg c, zK_cg (q := fun _ => false) n (fun i _ => by simp [c]), h8]
      unfold zwc
      unfold zKc at h6
      rw [e] at h5
      congr 2
      omega
  rw [this]; unfold zA; simp
theorem zSo_o {v : Nat → Int} {S : Nat} {B : Nat → Int} {n : Nat} (h : zSo v S B n) (ho : n % 2 = 1) (hS : S < 256) : zFm (fun l => some (zdw B l n)) 2147483647 n = zD v S := by
  have hq := h
  obtain ⟨h1, h2, h3, h4⟩ := hq
  have hr := zD_r v S
  obtain ⟨g1, k, hk, bk, g2⟩ := zD_o (v := v) (S := S) (by omega)
  have hkc : ∀ t, zK (fun i => true && decide (B i ≤ t)) n = zK (fun k => S.testBit k && decide (v (10 + 10 * k) ≤ t)) 8 := fun t => by
    rw [zK_cg (q := fun i => decide (B i ≤ t)) n (fun i _ => by simp)]; exact h4 t
  refine zFm_eq (by omega) (fun l hl c hc => ?_) (Or.inr ?_)
  · obtain ⟨j, hj, bj, e⟩ := zEx (p := fun _ => true) (q := fun k => S.testBit k) (f := B) (g := fun k => v (10 + 10 * k)) hkc hl rfl
    have hc := Option.some.inj hc
    rw [← hc, zSo_l h ho hS hl hj bj e]
    exact g1 j hj bj
  · obtain ⟨l, hl, _, e⟩ := zEx (p := fun k => S.testBit k) (q := fun _ => true) (f := fun k => v (10 + 10 * k)) (g := B) (fun t => (hkc t).symm) hk bk
    exact ⟨l, hl, by rw [zSo_l h ho hS hl hk bk e.symm, g2]⟩
