/-! the mathematics of the orders -/
/-- the minutes of the batches of S (of the others), below n -/
def zMi (v : Nat → Int) (S : Nat) : Nat → Int
  | 0 => 0
  | n + 1 => zMi v S n + (if S.testBit n then v (91 + 4 * n) else 0)
def zMo (v : Nat → Int) (S : Nat) : Nat → Int
  | 0 => 0
  | n + 1 => zMo v S n + (if S.testBit n then 0 else v (91 + 4 * n))
/-- when the set S begins, behind all others -/
def zSt (v : Nat → Int) (S : Nat) : Int := v 2 + zMo v S (v 4).toNat
def zLg' (v : Nat → Int) (L : Nat → Int) (S : Nat) : Nat → Option Int := fun b => if S.testBit b then some (zLt v b (zSt v S) + L (zC S b)) else none
def zLF (v : Nat → Int) : Nat → Nat → Int
  | 0, _ => 0
  | m + 1, S => zFm (zLg' v (zLF v m) S) 2147483647 (v 4).toNat
/-- the least lateness of the set S, behind all others -/
def zL' (v : Nat → Int) (S : Nat) : Int := zLF v (zn S) S
theorem zMi_r {T : Nat} {v : Nat → Int} (hv : ov_iv T v) (S : Nat) : ∀ n : Nat, (n : Int) ≤ v 4 → 0 ≤ zMi v S n ∧ zMi v S n ≤ 60 * n ∧ 0 ≤ zMo v S n ∧ zMo v S n ≤ 60 * n
  | 0, _ => by simp [zMi, zMo]
  | n + 1, h => by
    have h1 := zMi_r hv S n (by omega)
    have h2 := (hv.2.2.2.2.2.2.2.2 n (by omega)).2.1
    rw [zMi, zMo]; split <;> omega
theorem zMi_all {v : Nat → Int} {A S : Nat} : ∀ n : Nat, (∀ k, k < n → A.testBit k = true) → zMi v A n = zMi v S n + zMo v S n
  | 0, _ => rfl
  | n + 1, h => by
    rw [zMi, zMi, zMo, zMi_all (S := S) n (fun k hk => h k (by omega)), if_pos (h n (by omega))]; split <;> omega
theorem zSt_r {T : Nat} {v : Nat → Int} (hv : ov_iv T v) (S : Nat) : 0 ≤ zSt v S ∧ zSt v S ≤ 60420 := by
  obtain ⟨c, hc, hc7⟩ := ov_cnt hv
  have h1 := zMi_r hv S c (by omega)
  have h2 := hv.1
  have h3 := hv.2.2.2.2.2.2.2.1
  unfold zSt
  rw [hc, Int.toNat_natCast]; omega
theorem zn_0 : ∀ S : Nat, S < 256 → (zn S = 0 ↔ S = 0) := by decide +kernel
theorem zL'_0 (v : Nat → Int) : zL' v 0 = 0 := rfl
theorem zL'_s {v : Nat → Int} {S : Nat} (hS : S < 256) (h0 : S ≠ 0) (hc : v 4 ≤ 8) : zL' v S = zFm (zLg' v (zL' v) S) 2147483647 (v 4).toNat := by
  have hn : zn S ≠ 0 := fun e => h0 ((zn_0 S hS).mp e)
  obtain ⟨m, hm⟩ : ∃ m, zn S = m + 1 := ⟨zn S - 1, by omega⟩
  unfold zL'
  rw [hm, zLF]
  have key : ∀ n, n ≤ 8 → zFm (zLg' v (zLF v m) S) 2147483647 n = zFm (zLg' v (fun S => zLF v (zn S) S) S) 2147483647 n := by
    intro n
    induction n with
    | zero => intro _; rfl
    | succ n ih =>
      intro hn8
      have h1 := ih (by omega)
      cases hb : S.testBit n with
      | false => rw [zFm_n (by unfold zLg'; rw [hb]; rfl), zFm_n (by unfold zLg'; rw [hb]; rfl), h1]
      | true =>
        have h2 := zn_r hS (show n < 8 by omega) hb
        rw [zFm_s (c := zLt v n (zSt v S) + zLF v m (zC S n)) (by unfold zLg'; rw [hb]; rfl), zFm_s (c := zLt v n (zSt v S) + zLF v (zn (zC S n)) (zC S n)) (by unfold zLg'; rw [hb]; rfl), h1, show zn (zC S n) = m by omega]
  exact key _ (by omega)
/-- a set of batches that wait -/
def zOk (v : Nat → Int) (S : Nat) : Prop := S < 128 ∧ ∀ k, k < 8 → S.testBit k = true → (k : Int) < v 4
theorem zOk_C {v : Nat → Int} {S k : Nat} (h : zOk v S) (hk : k < 8) : zOk v (zC S k) := by
  have h1 := zC_lt S (by have := h.1; omega) k hk
  refine ⟨by have := h.1; omega, fun j hj hb => h.2 j hj ?_⟩
  rw [zC_bit S (by have := h.1; omega) k hk j hj] at hb
  simp only [Bool.and_eq_true] at hb
  exact hb.1
theorem zOk_ex {v : Nat → Int} {S : Nat} (h : zOk v S) (h0 : S ≠ 0) : ∃ k, k < 8 ∧ S.testBit k = true ∧ (k : Int) < v 4 := by
  have h1 := zLo_a S (by have := h.1; omega) h0
  exact ⟨zLo S, h1.1, h1.2.1, h.2 _ h1.1 h1.2.1⟩
theorem zL'_r {T : Nat} {v : Nat → Int} (hv : ov_iv T v) : ∀ m S, zOk v S → zn S = m → 0 ≤ zL' v S ∧ zL' v S ≤ 600000 * m
  | 0, S, h, hm => by
    have e := (zn_0 S (by have := h.1; omega)).mp hm
    rw [e, zL'_0]; omega
  | m + 1, S, h, hm => by
    have hS : S < 256 := by have := h.1; omega
    have h0 : S ≠ 0 := fun e => by rw [(zn_0 S hS).mpr e] at hm; omega
    have hs := zSt_r hv S
    have h4 := hv.2.2.1
    rw [zL'_s hS h0 (by omega)]
    have hc : ∀ k, k < 8 → S.testBit k = true → 0 ≤ zLt v k (zSt v S) + zL' v (zC S k) ∧ zLt v k (zSt v S) + zL' v (zC S k) ≤ 600000 * ((m + 1 : Nat) : Int) := fun k hk hb => by
      have h1 := zn_r hS hk hb
      have h2 := zL'_r hv m (zC S k) (zOk_C h hk) (by omega)
      have h3 := zLt_r hv (h.2 k hk hb) hs
      omega
    constructor
    · refine zFm_ge (by omega) (fun k hk c hcc => ?_)
      unfold zLg' at hcc
      by_cases hb : S.testBit k = true
      · rw [if_pos hb] at hcc
        have := hc k (by omega) hb
        have := Option.some.inj hcc
        omega
      · rw [if_neg hb] at hcc; cases hcc
    · obtain ⟨k, hk, hb, hk4⟩ := zOk_ex h h0
      have h5 := zFm_le (g := zLg' v (zL' v) S) (a := 2147483647) (n := (v 4).toNat) (k := k) (by omega) (show _ = some _ by unfold zLg'; rw [if_pos hb])
      have := hc k hk hb
      omega
theorem zL'_b {T : Nat} {v : Nat → Int} (hv : ov_iv T v) {S : Nat} (h : zOk v S) : 0 ≤ zL' v S ∧ zL' v S ≤ 4800000 := by
  have h1 := zL'_r hv _ S h rfl
  have h2 : zn S ≤ 8 := zK_le _ 8
  omega
/-- a fold shifted, from best on -/
theorem zFm_sh {g : Nat → Option Int} {l b : Int} (hb : b ≤ l + 2147483647) : ∀ n, zFm (fun k => (g k).map (l + ·)) b n = min b (l + zFm g 2147483647 n)
  | 0 => by show b = min b (l + 2147483647); omega
  | n + 1 => by
    have ih := zFm_sh (g := g) hb n
    cases h : g n with
    | none => rw [zFm_n (by rw [h]; rfl), zFm_n h, ih]
    | some c => rw [zFm_s (c := l + c) (by rw [h]; rfl), zFm_s h, ih]; omega
theorem zMo_C {v : Nat → Int} {S b : Nat} (hS : S < 256) (hb : b < 8) (bb : S.testBit b = true) : ∀ n, n ≤ 8 → zMo v (zC S b) n = zMo v S n + (if b < n then v (91 + 4 * b) else 0)
  | 0, _ => rfl
  | n + 1, hn => by
    rw [zMo, zMo, zMo_C hS hb bb n (by omega), zC_bit S hS b hb n (by omega)]
    by_cases e : n = b
    · subst e; rw [bb]; simp
    · by_cases c : b < n
      · rw [if_pos c, if_pos (show b < n + 1 by omega)]; simp [e]; omega
      · rw [if_neg c, if_neg (show ¬ b < n + 1 by omega)]; simp [e]
theorem zSt_C {v : Nat → Int} {S b : Nat} (hS : S < 256) (hb : b < 8) (bb : S.testBit b = true) (h4 : (b : Int) < v 4) (h8 : v 4 ≤ 8) : zSt v (zC S b) = zSt v S + v (91 + 4 * b) := by
  unfold zSt
  rw [zMo_C hS hb bb _ (by omega), if_pos (by omega)]; omega
/-- all that wait -/
def zAl (v : Nat → Int) : Nat := 2 ^ (v 4).toNat - 1
theorem zAl_b {v : Nat → Int} (k : Nat) : (zAl v).testBit k = decide (k < (v 4).toNat) := Nat.testBit_two_pow_sub_one _ _
theorem zAl_lt {v : Nat → Int} (h : v 4 ≤ 7) : zAl v < 128 := by
  have h1 : 2 ^ (v 4).toNat ≤ 2 ^ 7 := Nat.pow_le_pow_right (by decide) (by omega)
  have h2 : 0 < 2 ^ (v 4).toNat := Nat.two_pow_pos _
  unfold zAl; omega
theorem zOk_al {v : Nat → Int} (h : v 4 ≤ 7) {S : Nat} (hS : S ≤ zAl v) : zOk v S := by
  have h1 := zAl_lt h
  refine ⟨by omega, fun k hk hb => ?_⟩
  by_cases c : (k : Int) < v 4
  · exact c
  · have h2 : S < 2 ^ k := by
      have h3 : 2 ^ (v 4).toNat ≤ 2 ^ k := Nat.pow_le_pow_right (by decide) (by omega)
      have h4 : 0 < 2 ^ (v 4).toNat := Nat.two_pow_pos _
      unfold zAl at hS; omega
    rw [Nat.testBit_lt_two_pow h2] at hb; cases hb
theorem zMo_al {v : Nat → Int} : ∀ n, n ≤ (v 4).toNat → zMo v (zAl v) n = 0
  | 0, _ => rfl
  | n + 1, h => by rw [zMo, zMo_al n (by omega), zAl_b, decide_eq_true (show n < (v 4).toNat by omega)]; rfl
theorem zSt_al (v : Nat → Int) : zSt v (zAl v) = v 2 := by unfold zSt; rw [zMo_al _ (Nat.le_refl _)]; omega
/-- the place of the batch to be baked first -/
def zBf (v : Nat → Int) : Nat → Nat → Int
  | 0, _ => -1
  | m + 1, k => if zLt v k (v 2) + zL' v (zC (zAl v) k) = zL' v (zAl v) then (k : Int) else zBf v m (k + 1)
/-- in the order of the ids -/
def zLs (v : Nat → Int) : Nat → Int
  | 0 => v 2
  | n + 1 => zLs v n + v (91 + 4 * n)
def zLi (v : Nat → Int) : Nat → Int
  | 0 => 0
  | n + 1 => zLi v n + zLt v n (zLs v n)
theorem zLs_r {T : Nat} {v : Nat → Int} (hv : ov_iv T v) : ∀ n : Nat, (n : Int) ≤ v 4 → 0 ≤ zLs v n ∧ zLs v n ≤ 60000 + 60 * n
  | 0, _ => by have h2 := hv.1; have h3 := hv.2.2.2.2.2.2.2.1; rw [zLs]; omega
  | n + 1, h => by
    have h1 := zLs_r hv n (by omega)
    have h2 := (hv.2.2.2.2.2.2.2.2 n (by omega)).2.1
    rw [zLs]; omega
