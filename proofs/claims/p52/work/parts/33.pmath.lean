/-! the mathematics of pairs -/
/-- the least of a and of the candidates below n -/
def zFm (g : Nat → Option Int) (a : Int) : Nat → Int
  | 0 => a
  | n + 1 => match g n with
    | some c => min (zFm g a n) c
    | none => zFm g a n
theorem zFm_s {g : Nat → Option Int} {a c : Int} {n : Nat} (h : g n = some c) : zFm g a (n + 1) = min (zFm g a n) c := by rw [zFm, h]
theorem zFm_n {g : Nat → Option Int} {a : Int} {n : Nat} (h : g n = none) : zFm g a (n + 1) = zFm g a n := by rw [zFm, h]
theorem zFm_a {g : Nat → Option Int} {a : Int} : ∀ n, zFm g a n ≤ a
  | 0 => Int.le_refl a
  | n + 1 => by
    have := zFm_a (g := g) (a := a) n
    cases h : g n with
    | none => rw [zFm_n h]; exact this
    | some c => rw [zFm_s h]; omega
theorem zFm_le {g : Nat → Option Int} {a c : Int} : ∀ {n k : Nat}, k < n → g k = some c → zFm g a n ≤ c
  | 0, k, hk, _ => by omega
  | n + 1, k, hk, hc => by
    by_cases e : k = n
    · subst e; rw [zFm_s hc]; omega
    · have := zFm_le (g := g) (a := a) (n := n) (k := k) (by omega) hc
      cases h : g n with
      | none => rw [zFm_n h]; exact this
      | some c => rw [zFm_s h]; omega
theorem zFm_ge {g : Nat → Option Int} {a x : Int} (h1 : x ≤ a) : ∀ {n : Nat}, (∀ k, k < n → ∀ c, g k = some c → x ≤ c) → x ≤ zFm g a n
  | 0, _ => h1
  | n + 1, h2 => by
    have := zFm_ge (g := g) (a := a) (n := n) h1 (fun k hk => h2 k (by omega))
    cases h : g n with
    | none => rw [zFm_n h]; exact this
    | some c => rw [zFm_s h]; have := h2 n (by omega) c h; omega
theorem zFm_eq {g : Nat → Option Int} {a x : Int} {n : Nat} (h1 : x ≤ a) (h2 : ∀ k, k < n → ∀ c, g k = some c → x ≤ c) (h3 : a = x ∨ ∃ k, k < n ∧ g k = some x) : zFm g a n = x := by
  have h4 := zFm_ge h1 h2
  rcases h3 with h3 | ⟨k, hk, hc⟩
  · have := zFm_a (g := g) (a := a) n; omega
  · have := zFm_le (a := a) hk hc; omega
theorem zFm_at {g : Nat → Option Int} {a : Int} : ∀ n, zFm g a n = a ∨ ∃ k, k < n ∧ g k = some (zFm g a n)
  | 0 => Or.inl rfl
  | n + 1 => by
    have ih := zFm_at (g := g) (a := a) n
    cases h : g n with
    | none =>
      rw [zFm_n h]
      rcases ih with ih | ⟨k, hk, hc⟩
      · exact Or.inl ih
      · exact Or.inr ⟨k, by omega, hc⟩
    | some c =>
      rw [zFm_s h]
      by_cases e : c ≤ zFm g a n
      · rw [Int.min_eq_right e]; exact Or.inr ⟨n, by omega, h⟩
      · rw [Int.min_eq_left (by omega)]
        rcases ih with ih | ⟨k, hk, hc⟩
        · exact Or.inl ih
        · exact Or.inr ⟨k, by omega, hc⟩
theorem zFm_0 {g : Nat → Option Int} {a : Int} : ∀ n, (∀ k, k < n → g k = none) → zFm g a n = a
  | 0, _ => rfl
  | n + 1, h => by rw [zFm_n (h n (by omega))]; exact zFm_0 n (fun k hk => h k (by omega))
/-- how many below n -/
def zK (p : Nat → Bool) : Nat → Nat
  | 0 => 0
  | n + 1 => zK p n + (if p n then 1 else 0)
theorem zK_cg {p q : Nat → Bool} : ∀ n, (∀ k, k < n → p k = q k) → zK p n = zK q n
  | 0, _ => rfl
  | n + 1, h => by rw [zK, zK, zK_cg n (fun k hk => h k (by omega)), h n (by omega)]
theorem zK_le (p : Nat → Bool) : ∀ n, zK p n ≤ n
  | 0 => Nat.le_refl 0
  | n + 1 => by have := zK_le p n; rw [zK]; split <;> omega
theorem zK_pos {p : Nat → Bool} : ∀ {n}, 0 < zK p n → ∃ k, k < n ∧ p k = true
  | 0, h => by simp [zK] at h
  | n + 1, h => by
    by_cases e : p n = true
    · exact ⟨n, by omega, e⟩
    · rw [zK, if_neg e] at h
      obtain ⟨k, hk, hp⟩ := zK_pos (n := n) (by omega)
      exact ⟨k, by omega, hp⟩
theorem zK_in {p : Nat → Bool} : ∀ {n k}, k < n → p k = true → 0 < zK p n
  | 0, k, hk, _ => by omega
  | n + 1, k, hk, hp => by
    rw [zK]
    by_cases e : k = n
    · subst e; rw [if_pos hp]; omega
    · have := zK_in (n := n) (k := k) (by omega) hp; omega
theorem zK_three {p a b c : Nat → Bool} : ∀ n, (∀ k, k < n → (if p k then 1 else 0 : Nat) = (if a k then 1 else 0) + (if b k then 1 else 0) + (if c k then 1 else 0)) → zK p n = zK a n + zK b n + zK c n
  | 0, _ => rfl
  | n + 1, h => by
    have h1 := zK_three n (fun k hk => h k (by omega))
    have h2 := h n (by omega)
    rw [zK, zK, zK, zK]; omega
theorem zK_one {p : Nat → Bool} {a : Nat} : ∀ n, a < n → (∀ k, k < n → (p k = true ↔ k = a)) → zK p n = 1
  | 0, h, _ => by omega
  | n + 1, h, hp => by
    rw [zK]
    by_cases e : a = n
    · subst e
      rw [if_pos ((hp a (by omega)).mpr rfl)]
      have : zK p a = 0 := by
        cases h0 : zK p a with
        | zero => rfl
        | succ m =>
          obtain ⟨k, hk, hk2⟩ := zK_pos (p := p) (n := a) (by omega)
          have := (hp k (by omega)).mp hk2
          omega
      omega
    · rw [zK_one n (by omega) (fun k hk => hp k (by omega)), if_neg (fun z => e ((hp n (by omega)).mp z).symm)]
theorem zK_min {p : Nat → Bool} {f : Nat → Int} : ∀ {n}, 0 < zK p n → ∃ b, b < n ∧ p b = true ∧ ∀ c, c < n → p c = true → f b ≤ f c
  | 0, h => by simp [zK] at h
  | n + 1, h => by
    by_cases h0 : 0 < zK p n
    · obtain ⟨b, hb, hp, hm⟩ := zK_min (f := f) h0
      by_cases e : p n = true ∧ f n < f b
      · refine ⟨n, by omega, e.1, fun c hc hpc => ?_⟩
        by_cases e2 : c = n
        · subst e2; exact Int.le_refl _
        · have := hm c (by omega) hpc; omega
      · refine ⟨b, by omega, hp, fun c hc hpc => ?_⟩
        by_cases e2 : c = n
        · subst e2
          have : ¬ f c < f b := fun z => e ⟨hpc, z⟩
          omega
        · exact hm c (by omega) hpc
    · obtain ⟨k, hk, hp⟩ := zK_pos h
      have hkn : k = n := by
        by_cases e : k = n
        · exact e
        · exact absurd (zK_in (n := n) (k := k) (by omega) hp) h0
      subst hkn
      refine ⟨k, hk, hp, fun c hc hpc => ?_⟩
      by_cases e2 : c = k
      · subst e2; exact Int.le_refl _
      · exact absurd (zK_in (n := k) (k := c) (by omega) hpc) h0
/-! sets of needles as numbers -/
theorem zC_bit : ∀ S : Nat, S < 256 → ∀ k : Nat, k < 8 → ∀ j : Nat, j < 8 → (zC S k).testBit j = (S.testBit j && decide (j ≠ k)) := by decide +kernel
theorem zC_lt : ∀ S : Nat, S < 256 → ∀ k : Nat, k < 8 → zC S k ≤ S ∧ (S.testBit k = true → zC S k < S) := by decide +kernel
/-- how many of S have at most the strength t -/
def zc (v : Nat → Int) (S : Nat) (t : Int) : Nat := zK (fun k => S.testBit k && decide (v (10 + 10 * k) ≤ t)) 8
theorem zKr {S k : Nat} (hS : S < 256) (hk : k < 8) (hb : S.testBit k = true) (q : Nat → Bool) : zK (fun j => S.testBit j && q j) 8 = zK (fun j => (zC S k).testBit j && q j) 8 + (if q k then 1 else 0) := by
  have h3 := zK_three (p := fun j => S.testBit j && q j) (a := fun j => (zC S k).testBit j && q j) (b := fun j => decide (j = k) && q k) (c := fun _ => false) 8 (fun j hj => by
    rw [zC_bit S hS k hk j hj]
    by_cases e : j = k
    · subst e; simp [hb]
    · simp [e])
  have h4 : zK (fun _ => false) 8 = 0 := rfl
  rw [h3, h4]
  cases hq : q k with
  | true =>
    rw [zK_one (p := fun j => decide (j = k) && true) 8 hk (fun j _ => by simp)]
    simp
  | false =>
    have h5 : zK (fun j => decide (j = k) && false) 8 = 0 := by rw [zK_cg (q := fun _ => false) 8 (fun j _ => by simp)]; rfl
    rw [h5]; simp
theorem zc_r {v : Nat → Int} {S k : Nat} (hS : S < 256) (hk : k < 8) (hb : S.testBit k = true) (t : Int) : zc v S t = zc v (zC S k) t + (if v (10 + 10 * k) ≤ t then 1 else 0) := by
  have h := zKr hS hk hb (fun j => decide (v (10 + 10 * j) ≤ t))
  simp only [decide_eq_true_eq] at h
  exact h
/-- how many are in S -/
def zn (S : Nat) : Nat := zK (fun k => S.testBit k) 8
theorem zn_pc : ∀ S : Nat, S < 256 → zPC S = zn S := by decide +kernel
theorem zn_r {S k : Nat} (hS : S < 256) (hk : k < 8) (hb : S.testBit k = true) : zn S = zn (zC S k) + 1 := by
  have h := zKr hS hk hb (fun _ => true)
  simp only [Bool.and_true] at h
  exact h
def zAf (v : Nat → Int) (S : Nat) : Nat → Nat
  | 0 => 0
  | t + 1 => zAf v S t + zc v S (t : Int) % 2
/-- the difference of the neighbours' pairing of an even set -/
def zA (v : Nat → Int) (S : Nat) : Nat := zAf v S 99
def zXf (x y : Int) : Nat → Nat
  | 0 => 0
  | t + 1 => zXf x y t + (if (x ≤ (t : Int)) = (y ≤ (t : Int)) then 0 else 1)
theorem zXf_e {x y : Int} (hx : 0 ≤ x) (hy : 0 ≤ y) : ∀ T : Nat, ((zXf x y T : Nat) : Int) = if min x T ≤ min y T then min y T - min x T else min x T - min y T
  | 0 => by simp only [zXf]; split <;> omega
  | T + 1 => by
    have ih := zXf_e hx hy T
    simp only [zXf, eq_iff_iff]
    split at ih <;> split <;> split <;> omega
theorem zXf_99 {x y : Int} (hx : 0 ≤ x ∧ x ≤ 99) (hy : 0 ≤ y ∧ y ≤ 99) : ((zXf x y 99 : Nat) : Int) = if 0 ≤ x - y then x - y else -(x - y) := by
  have h := zXf_e hx.1 hy.1 99
  split at h <;> split <;> omega
/-- no pair is better -/
theorem zA_le {v : Nat → Int} {S a b : Nat} (hS : S < 256) (ha : a < 8) (hb : b < 8) (hab : a ≠ b) (ba : S.testBit a = true) (bb : S.testBit b = true) : ∀ T, zAf v S T ≤ zXf (v (10 + 10 * a)) (v (10 + 10 * b)) T + zAf v (zC (zC S a) b) T
  | 0 => Nat.zero_le _
  | T + 1 => by
    have ih := zA_le (v := v) hS ha hb hab ba bb T
    have h1 := zc_r (v := v) hS ha ba (T : Int)
    have h2 := zc_r (v := v) (S := zC S a) (k := b) (by have := zC_lt S hS a ha; omega) hb (by rw [zC_bit S hS a ha b hb]; simp [bb]; omega) (T : Int)
    simp only [zAf, zXf, eq_iff_iff]
    split at h1 <;> split at h2 <;> split <;> omega
theorem zA_eqf {v : Nat → Int} {S a b : Nat} (hS : S < 256) (ha : a < 8) (hb : b < 8) (hab : a ≠ b) (ba : S.testBit a = true) (bb : S.testBit b = true) (hq : ∀ t : Int, ¬ ((v (10 + 10 * a) ≤ t) ↔ (v (10 + 10 * b) ≤ t)) → zc v S t % 2 = 1) : ∀ T, zAf v S T = zXf (v (10 + 10 * a)) (v (10 + 10 * b)) T + zAf v (zC (zC S a) b) T
  | 0 => rfl
  | T + 1 => by
    have ih := zA_eqf (v := v) hS ha hb hab ba bb hq T
    have h1 := zc_r (v := v) hS ha ba (T : Int)
    have h2 := zc_r (v := v) (S := zC S a) (k := b) (by have := zC_lt S hS a ha; omega) hb (by rw [zC_bit S hS a ha b hb]; simp [bb]; omega) (T : Int)
    have h3 := hq (T : Int)
    simp only [zAf, zXf, eq_iff_iff]
    split at h1 <;> split at h2 <;> split <;> omega
/-- each one of an even set has a partner in the best pairing -/
theorem zA_ex {v : Nat → Int} {S a : Nat} (hS : S < 256) (ha : a < 8) (ba : S.testBit a = true) (he : zn S % 2 = 0) : ∃ b, b < 8 ∧ b ≠ a ∧ S.testBit b = true ∧ zAf v S 99 = zXf (v (10 + 10 * a)) (v (10 + 10 * b)) 99 + zAf v (zC (zC S a) b) 99 := by
  by_cases he2 : ∃ b, b < 8 ∧ b ≠ a ∧ S.testBit b = true ∧ v (10 + 10 * b) = v (10 + 10 * a)
  · obtain ⟨b, hb, hne, bb, e⟩ := he2
    exact ⟨b, hb, hne, bb, zA_eqf hS ha hb (Ne.symm hne) ba bb (fun t h => absurd (by rw [e]) h) 99⟩
  · have h1 := zK_three (p := fun k => S.testBit k) (a := fun k => S.testBit k && decide (v (10 + 10 * k) < v (10 + 10 * a))) (b := fun k => S.testBit k && decide (v (10 + 10 * a) < v (10 + 10 * k))) (c := fun k => S.testBit k && decide (v (10 + 10 * k) = v (10 + 10 * a))) 8 (fun k hk => by
      cases hs : S.testBit k with
      | false => simp
      | true =>
        simp only [Bool.true_and, decide_eq_true_eq]
        rw [if_pos trivial]
        by_cases c1 : v (10 + 10 * k) < v (10 + 10 * a)
        · rw [if_pos c1, if_neg (by omega), if_neg (by omega)]
        · by_cases c2 : v (10 + 10 * a) < v (10 + 10 * k)
          · rw [if_neg c1, if_pos c2, if_neg (by omega)]
          · rw [if_neg c1, if_neg c2, if_pos (by omega)])
    have h2 : zK (fun k => S.testBit k && decide (v (10 + 10 * k) = v (10 + 10 * a))) 8 = 1 := zK_one 8 ha (fun k hk => by
      constructor
      · intro z
        simp only [Bool.and_eq_true, decide_eq_true_eq] at z
        by_cases e : k = a
        · exact e
        · exact absurd ⟨k, hk, e, z.1, z.2⟩ he2
      · rintro rfl; simp [ba])
    have h3 : zn S = zK (fun k => S.testBit k) 8 := rfl
    rw [h2] at h1
    by_cases hl : zK (fun k => S.testBit k && decide (v (10 + 10 * k) < v (10 + 10 * a))) 8 % 2 = 1
    · obtain ⟨b, hb, hp, hm⟩ := zK_min (f := fun k => -v (10 + 10 * k)) (show 0 < zK (fun k => S.testBit k && decide (v (10 + 10 * k) < v (10 + 10 * a))) 8 by omega)
      simp only [Bool.and_eq_true, decide_eq_true_eq] at hp
      refine ⟨b, hb, fun e => by rw [e] at hp; omega, hp.1, zA_eqf hS ha hb (fun e => by rw [← e] at hp; omega) ba hp.1 (fun t ht => ?_) 99⟩
      have : zc v S t = zK (fun k => S.testBit k && decide (v (10 + 10 * k) < v (10 + 10 * a))) 8 := zK_cg 8 (fun k hk => by
        cases hs : S.testBit k with
        | false => rfl
        | true =>
          simp only [Bool.true_and]
          by_cases c1 : v (10 + 10 * k) < v (10 + 10 * a)
          · have := hm k hk (by simp [hs, c1])
            rw [decide_eq_true c1, decide_eq_true (show v (10 + 10 * k) ≤ t by omega)]
          · rw [decide_eq_false c1, decide_eq_false (show ¬ v (10 + 10 * k) ≤ t by omega)])
      rw [this]; exact hl
    · obtain ⟨b, hb, hp, hm⟩ := zK_min (f := fun k => v (10 + 10 * k)) (show 0 < zK (fun k => S.testBit k && decide (v (10 + 10 * a) < v (10 + 10 * k))) 8 by omega)
      simp only [Bool.and_eq_true, decide_eq_true_eq] at hp
      refine ⟨b, hb, fun e => by rw [e] at hp; omega, hp.1, zA_eqf hS ha hb (fun e => by rw [← e] at hp; omega) ba hp.1 (fun t ht => ?_) 99⟩
      have h9 := zK_three (p := fun k => S.testBit k && decide (v (10 + 10 * k) ≤ t)) (a := fun k => S.testBit k && decide (v (10 + 10 * k) < v (10 + 10 * a))) (b := fun k => S.testBit k && decide (v (10 + 10 * k) = v (10 + 10 * a))) (c := fun _ => false) 8 (fun k hk => by
        cases hs : S.testBit k with
        | false => simp
        | true =>
          simp only [Bool.true_and, decide_eq_true_eq]
          by_cases c1 : v (10 + 10 * k) < v (10 + 10 * a)
          · rw [if_pos (by omega), if_pos c1, if_neg (by omega)]; rfl
          · by_cases c2 : v (10 + 10 * k) = v (10 + 10 * a)
            · rw [if_pos (by omega), if_neg c1, if_pos c2]; rfl
            · have := hm k hk (by simp [hs]; omega)
              rw [if_neg (by omega), if_neg c1, if_neg c2]; rfl)
      have h8 : zK (fun _ => false) 8 = 0 := rfl
      rw [h2, h8] at h9
      have : zc v S t = zK (fun k => S.testBit k && decide (v (10 + 10 * k) ≤ t)) 8 := rfl
      omega
/-! the least difference of a set -/
def zDg (v : Nat → Int) (S : Nat) : Nat → Option Int := fun k => if S.testBit k then some (zA v (zC S k) : Int) else none
def zD (v : Nat → Int) (S : Nat) : Int := if zn S % 2 = 0 then (zA v S : Int) else zFm (zDg v S) 2147483647 8
theorem zAf_r (v : Nat → Int) (S : Nat) : ∀ T, zAf v S T ≤ T
  | 0 => Nat.le_refl 0
  | T + 1 => by have := zAf_r v S T; rw [zAf]; omega
theorem zA_r (v : Nat → Int) (S : Nat) : zA v S ≤ 99 := zAf_r v S 99
theorem zD_o {v : Nat → Int} {S : Nat} (ho : zn S % 2 = 1) : (∀ k, k < 8 → S.testBit k = true → zD v S ≤ (zA v (zC S k) : Int)) ∧ ∃ k, k < 8 ∧ S.testBit k = true ∧ zD v S = (zA v (zC S k) : Int) := by
  unfold zD
  rw [if_neg (by omega)]
  refine ⟨fun k hk hb => zFm_le hk (by unfold zDg; rw [if_pos hb]), ?_⟩
  rcases zFm_at (g := zDg v S) (a := 2147483647) 8 with h | ⟨k, hk, h⟩
  · obtain ⟨k, hk, hb⟩ := zK_pos (p := fun k => S.testBit k) (n := 8) (by have : zn S = zK (fun k => S.testBit k) 8 := rfl; omega)
    have h1 := zFm_le (a := 2147483647) hk (show zDg v S k = some (zA v (zC S k) : Int) by unfold zDg; rw [if_pos hb])
    have h2 := zA_r v (zC S k)
    omega
  · unfold zDg at h
    by_cases hb : S.testBit k = true
    · rw [if_pos hb] at h
      exact ⟨k, hk, hb, (Option.some.inj h).symm⟩
    · rw [if_neg hb] at h; cases h
theorem zD_e {v : Nat → Int} {S : Nat} (he : zn S % 2 = 0) : zD v S = (zA v S : Int) := if_pos he
theorem zD_r (v : Nat → Int) (S : Nat) : 0 ≤ zD v S ∧ zD v S ≤ 99 := by
  by_cases he : zn S % 2 = 0
  · rw [zD_e he]; have := zA_r v S; omega
  · obtain ⟨_, k, _, _, h⟩ := zD_o (v := v) (S := S) (by omega)
    rw [h]; have := zA_r v (zC S k); omega
def zDf (v : Nat → Int) (a b : Nat) : Int := if 0 ≤ v (10 + 10 * a) - v (10 + 10 * b) then v (10 + 10 * a) - v (10 + 10 * b) else -(v (10 + 10 * a) - v (10 + 10 * b))
theorem zC_cm : ∀ S : Nat, S < 256 → ∀ a : Nat, a < 8 → ∀ b : Nat, b < 8 → zC (zC S a) b = zC (zC S b) a := by decide +kernel
/-- a pair and the rest are never better -/
theorem zD_le {v : Nat → Int} (hs : ∀ i, i < 8 → 0 ≤ v (10 + 10 * i) ∧ v (10 + 10 * i) ≤ 99) {S a b : Nat} (hS : S < 256) (ha : a < 8) (hb : b < 8) (hab : a ≠ b) (ba : S.testBit a = true) (bb : S.testBit b = true) : zD v S ≤ zDf v a b + zD v (zC (zC S a) b) := by
  have hx := zXf_99 (hs a ha) (hs b hb)
  have hlt := zC_lt S hS a ha
  have bb' : (zC S a).testBit b = true := by rw [zC_bit S hS a ha b hb]; simp [bb]; omega
  have n1 := zn_r hS ha ba
  have n2 := zn_r (S := zC S a) (k := b) (by omega) hb bb'
  unfold zDf
  rw [← hx]
  by_cases he : zn S % 2 = 0
  · rw [zD_e he, zD_e (by omega)]
    have := zA_le (v := v) hS ha hb hab ba bb 99
    unfold zA; omega
  · obtain ⟨_, k, hk, bk, h⟩ := zD_o (v := v) (S := zC (zC S a) b) (by omega)
    rw [h]
    have hlt2 := zC_lt (zC S a) (by omega) b hb
    rw [zC_bit (zC S a) (by omega) b hb k hk, zC_bit S hS a ha k hk] at bk
    simp only [Bool.and_eq_true, decide_eq_true_eq, ne_eq] at bk
    have h2 := (zD_o (v := v) (S := S) (by omega)).1 k hk bk.1.1
    have hltk := zC_lt S hS k hk
    have h3 := zA_le (v := v) (S := zC S k) (by omega) ha hb hab (by rw [zC_bit S hS k hk a ha]; simp [ba]; omega) (by rw [zC_bit S hS k hk b hb]; simp [bb]; omega) 99
    rw [zC_cm (zC S a) (by omega) b hb k hk, zC_cm S hS a ha k hk]
    unfold zA at *
    omega
/-- and the one a is in a best pair, or left over -/
theorem zD_ex {v : Nat → Int} (hs : ∀ i, i < 8 → 0 ≤ v (10 + 10 * i) ∧ v (10 + 10 * i) ≤ 99) {S a : Nat} (hS : S < 256) (ha : a < 8) (ba : S.testBit a = true) : (zn S % 2 = 1 ∧ zD v S = zD v (zC S a)) ∨ ∃ b, b < 8 ∧ b ≠ a ∧ S.testBit b = true ∧ zD v S = zDf v a b + zD v (zC (zC S a) b) := by
  have hlt := zC_lt S hS a ha
  have n1 := zn_r hS ha ba
  by_cases he : zn S % 2 = 0
  · obtain ⟨b, hb, hne, bb, h⟩ := zA_ex (v := v) hS ha ba he
    have n2 := zn_r (S := zC S a) (k := b) (by omega) hb (by rw [zC_bit S hS a ha b hb]; simp [bb]; omega)
    refine Or.inr ⟨b, hb, hne, bb, ?_⟩
    have hx := zXf_99 (hs a ha) (hs b hb)
    rw [zD_e he, zD_e (by omega)]
    unfold zDf zA
    rw [← hx]; omega
  · obtain ⟨hmin, k, hk, bk, h⟩ := zD_o (v := v) (S := S) (by omega)
    by_cases e : k = a
    · subst e
      exact Or.inl ⟨by omega, by rw [h, zD_e (by omega)]⟩
    · have hltk := zC_lt S hS k hk
      have nk := zn_r hS hk bk
      obtain ⟨b, hb, hne, bb, h2⟩ := zA_ex (v := v) (S := zC S k) (a := a) (by omega) ha (by rw [zC_bit S hS k hk a ha]; simp [ba]; omega) (by omega)
      rw [zC_bit S hS k hk b hb] at bb
      simp only [Bool.and_eq_true, decide_eq_true_eq, ne_eq] at bb
      refine Or.inr ⟨b, hb, hne, bb.1, ?_⟩
      have hle := zD_le hs hS ha hb (Ne.symm hne) ba bb.1
      have bb' : (zC S a).testBit b = true := by rw [zC_bit S hS a ha b hb]; simp [bb.1]; omega
      have n2 := zn_r (S := zC S a) (k := b) (by omega) hb bb'
      have hlt2 := zC_lt (zC S a) (by omega) b hb
      have h3 := (zD_o (v := v) (S := zC (zC S a) b) (by omega)).1 k hk (by rw [zC_bit (zC S a) (by omega) b hb k hk, zC_bit S hS a ha k hk]; simp [bk, e]; omega)
      rw [zC_cm (zC S a) (by omega) b hb k hk, zC_cm S hS a ha k hk] at h3
      have hx : zDf v a b = ((zXf (v (10 + 10 * a)) (v (10 + 10 * b)) 99 : Nat) : Int) := (zXf_99 (hs a ha) (hs b hb)).symm
      rw [hx] at hle
      rw [hx]
      unfold zA at *
      omega
