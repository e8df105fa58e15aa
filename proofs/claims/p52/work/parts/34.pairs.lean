theorem gi_not {M : gm_M} {d pc : Nat} {ls : List (Option Value)} {st : List Value} {h : gm_H} {a : Int} (hd : decode M.2.1 pc = .ok (.ixor, 1)) : gm_go M d (pc, ls, .int (zI (-1)) :: .int (zI a) :: st, h) (pc + 1, ls, .int (zI (-a - 1)) :: st, h) := by rw [← zI_not]; exact gm_ixor hd
theorem gi_clr {M : gm_M} {d pc : Nat} {ls : List (Option Value)} {st : List Value} {h : gm_H} {n k : Nat} (hd : decode M.2.1 pc = .ok (.iand, 1)) (hn : n < 256) (hk : k < 8) : gm_go M d (pc, ls, .int (zI (-((2 ^ k : Nat) : Int) - 1)) :: .int (zI (n : Int)) :: st, h) (pc + 1, ls, .int (zI ((zC n k : Nat) : Int)) :: st, h) := by rw [← zI_clr n hn k hk]; exact gm_iand hd
/-! Pairs: its three cells -/
def pr_at (h : gm_H) (p : Nat) (F A : Nat → Int) : Prop := h.1[p]? = some (.inr (8, [.ref (p + 1), .ref (p + 2)])) ∧ h.1[p + 1]? = some (gA 256 F) ∧ h.1[p + 2]? = some (gA 8 A)
theorem pr_fr {h h' : gm_H} {K : Nat → Prop} {p : Nat} {F A : Nat → Int} (f : gh_fr h h' K) (h0 : ¬ K p) (h1 : ¬ K (p + 1)) (h2 : ¬ K (p + 2)) (hN : pr_at h p F A) : pr_at h' p F A := ⟨gh_at f hN.1 h0, gh_at f hN.2.1 h1, gh_at f hN.2.2 h2⟩
/-- the lowest one of a set -/
def zLg (S : Nat) : Nat → Nat
  | 0 => 0
  | m + 1 => if S.testBit (7 - m) then 7 - m else zLg S m
def zLo (S : Nat) : Nat := zLg S 8
theorem zLo_a : ∀ S : Nat, S < 256 → S ≠ 0 → zLo S < 8 ∧ S.testBit (zLo S) = true ∧ ∀ j : Nat, j < 8 → j < zLo S → S.testBit j = false := by decide +kernel
theorem zLg_r (S : Nat) : ∀ m, zLg S m ≤ 7
  | 0 => by simp [zLg]
  | m + 1 => by have := zLg_r S m; rw [zLg]; split <;> omega
set_option maxRecDepth 4000 in
theorem ct_lowestOf {h : gm_H} {S : Nat} (hS : S < 256) : gm_co mX6_lowestOf 2 [.int (zI S)] h (.inl (some (.int (zI (zLo S : Nat))))) h := by
  refine gm_co_of _ (by decide +kernel) rfl (Nat.le_of_ble_eq_true rfl) rfl ?_
  have key : ∀ (m j : Nat), j + m = 8 → gm_ru mX6_lowestOf 2 (5, [some (.int (zI S)), some (.int (zI (zLg S j : Nat))), some (.int (zI (7 - (j : Int))))], [], h) (.inl (some (.int (zI (zLg S 8 : Nat))))) h := by
    intro m
    induction m with
    | zero =>
      intro j hj
      obtain rfl : j = 8 := by omega
      refine gm_go.ru (gm_iload_n dX6_lowestOf_5 rfl) ?_
      refine gm_go.ru (gi_if_lt_t (tgt := 29) dX6_lowestOf_6 (by decide) (by omega) (by omega)) ?_
      refine gm_go.ru (gm_iload_n dX6_lowestOf_29 rfl) ?_
      exact gm_iret dX6_lowestOf_30 rfl
    | succ m ih =>
      intro j hj
      have hz := zLg_r S j
      have e := ih (j + 1) (by omega)
      rw [zLg] at e
      rw [show (7 - (j : Int)) = ((7 - j : Nat) : Int) by omega]
      refine gm_go.ru (gm_iload_n dX6_lowestOf_5 rfl) ?_
      refine gm_go.ru (gi_if_lt_f 29 dX6_lowestOf_6 (by decide) (by omega) (by omega)) ?_
      refine gm_go.ru (gm_iload_n dX6_lowestOf_9 rfl) ?_
      refine gm_go.ru (gm_iload_n dX6_lowestOf_10 rfl) ?_
      refine gm_go.ru (gm_cS dX6_lowestOf_11 (ct_holds (by omega) (by omega)) rfl mt_X10_holds ms_X10_holds (lk_X6_38 rfl) rfl (Nat.le_of_ble_eq_true rfl) (by decide)) ?_
      cases hb : S.testBit (7 - j)
      ·
        rw [hb] at e
        refine gm_go.ru (gi_if_eq_t (tgt := 21) dX6_lowestOf_14 (by decide) (by decide) rfl) ?_
        refine gm_go.ru (gm_iload_n dX6_lowestOf_21 rfl) ?_
        refine gm_go.ru (gm_istore_n (ls' := [_, _, _]) dX6_lowestOf_22 (by decide) rfl) ?_
        refine gm_go.ru (gi_iinc (ls' := [_, _, _]) dX6_lowestOf_23 rfl (by decide) rfl) ?_
        refine gm_go.ru (gm_goto (tgt := 5) dX6_lowestOf_26 (by decide)) ?_
        rw [show ((7 - j : Nat) : Int) + -1 = 7 - ((j + 1 : Nat) : Int) by omega]
        exact e
      ·
        rw [hb] at e
        refine gm_go.ru (gi_if_eq_f 21 dX6_lowestOf_14 (by decide) (by decide) (by decide)) ?_
        refine gm_go.ru (gm_iload_n dX6_lowestOf_17 rfl) ?_
        refine gm_go.ru (gm_goto (tgt := 22) dX6_lowestOf_18 (by decide)) ?_
        refine gm_go.ru (gm_istore_n (ls' := [_, _, _]) dX6_lowestOf_22 (by decide) rfl) ?_
        refine gm_go.ru (gi_iinc (ls' := [_, _, _]) dX6_lowestOf_23 rfl (by decide) rfl) ?_
        refine gm_go.ru (gm_goto (tgt := 5) dX6_lowestOf_26 (by decide)) ?_
        rw [show ((7 - j : Nat) : Int) + -1 = 7 - ((j + 1 : Nat) : Int) by omega]
        exact e
  refine gm_go.ru (gi_const dX6_lowestOf_0) ?_
  refine gm_go.ru (gm_istore_n (ls' := [_, _, _]) dX6_lowestOf_1 (by decide) rfl) ?_
  refine gm_go.ru (gi_bipush dX6_lowestOf_2 (by decide +kernel)) ?_
  refine gm_go.ru (gm_istore_n (ls' := [_, _, _]) dX6_lowestOf_4 (by decide) rfl) ?_
  exact key 8 0 (by omega)
set_option maxRecDepth 4000 in
theorem ct_withPair {h : gm_H} {n p : Nat} {v F A : Nat → Int} (hN : nd_at h n v) (hv : nd_iv v) (hP : pr_at h p F A) {S a b : Nat} (hS : S < 256) (ha : a < 8) (hb : b < 8) : gm_co mX6_withPair 2 [.ref p, .ref n, .int (zI S), .int (zI a), .int (zI b)] h (.inl (some (.int (zI (zDf v a b + F (zC (zC S a) b)))))) h := by
  refine gm_co_of _ (by decide +kernel) rfl (Nat.le_of_ble_eq_true rfl) rfl ?_
  obtain ⟨h1, S9, D9, h2, h3, h4, h5⟩ := id hN
  obtain ⟨p1, p2, p3⟩ := id hP
  have ea := h4 a ha
  have eb := h4 b hb
  have sa := hv.2.2.1 a ha
  have sb := hv.2.2.1 b hb
  have hl := zC_lt S hS a ha
  have hl2 := zC_lt (zC S a) (by omega) b hb
  refine gm_go.ru (gm_iload_n dX6_withPair_0 rfl) ?_
  refine gm_go.ru (gi_const dX6_withPair_1) ?_
  refine gm_go.ru (gm_iload_n dX6_withPair_2 rfl) ?_
  refine gm_go.ru (gi_shl1 dX6_withPair_3 (by omega)) ?_
  refine gm_go.ru (gi_const dX6_withPair_4) ?_
  refine gm_go.ru (gi_not dX6_withPair_5) ?_
  refine gm_go.ru (gi_clr dX6_withPair_6 hS ha) ?_
  refine gm_go.ru (gi_const dX6_withPair_7) ?_
  refine gm_go.ru (gm_iload dX6_withPair_8 rfl) ?_
  refine gm_go.ru (gi_shl1 dX6_withPair_10 (by omega)) ?_
  refine gm_go.ru (gi_const dX6_withPair_11) ?_
  refine gm_go.ru (gi_not dX6_withPair_12) ?_
  refine gm_go.ru (gi_clr dX6_withPair_13 (by omega) hb) ?_
  refine gm_go.ru (gm_istore (ls' := [_, _, _, _, _, _]) dX6_withPair_14 (by decide) rfl) ?_
  refine gm_go.ru (gm_aload_n dX6_withPair_16 rfl (by first | exact Or.inl ⟨_, rfl⟩ | exact Or.inr ⟨_, rfl⟩)) ?_
  refine gm_go.ru (gm_get dX6_withPair_17 (fl_X6_52 rfl) h1 rfl) ?_
  refine gm_go.ru (gm_iload_n dX6_withPair_20 rfl) ?_
  refine gm_go.ru (gi_ald dX6_withPair_21 h2 (by omega) (by omega) (by decide)) ?_
  rw [Int.toNat_natCast, ea]
  refine gm_go.ru (gm_aload_n dX6_withPair_22 rfl (by first | exact Or.inl ⟨_, rfl⟩ | exact Or.inr ⟨_, rfl⟩)) ?_
  refine gm_go.ru (gm_get dX6_withPair_23 (fl_X6_52 rfl) h1 rfl) ?_
  refine gm_go.ru (gm_iload dX6_withPair_26 rfl) ?_
  refine gm_go.ru (gi_ald dX6_withPair_28 h2 (by omega) (by omega) (by decide)) ?_
  rw [Int.toNat_natCast, eb]
  refine gm_go.ru (gi_sub dX6_withPair_29) ?_
  refine gm_go.ru (gm_cS dX6_withPair_30 (ct_abs (by omega)) rfl mt_J9_abs_0f7a4 ms_J9_abs_0f7a4 (lk_X6_55 rfl) rfl (Nat.le_of_ble_eq_true rfl) (by decide)) ?_
  refine gm_go.ru (gm_aload_n dX6_withPair_33 rfl (by first | exact Or.inl ⟨_, rfl⟩ | exact Or.inr ⟨_, rfl⟩)) ?_
  refine gm_go.ru (gm_get dX6_withPair_34 (fl_X6_9 rfl) p1 rfl) ?_
  refine gm_go.ru (gm_iload dX6_withPair_37 rfl) ?_
  refine gm_go.ru (gi_ald dX6_withPair_39 p2 (by omega) (by omega) (by decide)) ?_
  refine gm_go.ru (gi_add dX6_withPair_40) ?_
  exact gm_iret dX6_withPair_41 rfl
def zSub (R S : Nat) : Prop := ∀ j, j < 8 → R.testBit j = true → S.testBit j = true
theorem zSub_C {R S k : Nat} (hR : R < 256) (hk : k < 8) (h : zSub R S) : zSub (zC R k) S := fun j hj hb => by
  rw [zC_bit R hR k hk j hj] at hb
  simp only [Bool.and_eq_true] at hb
  exact h j hj hb.1
def zFg (v F : Nat → Int) (S f : Nat) : Nat → Option Int := fun k => if (zC S f).testBit k then some (zDf v f k + F (zC (zC S f) k)) else none
theorem zFg_D {v F : Nat → Int} (hs : ∀ i, i < 8 → 0 ≤ v (10 + 10 * i) ∧ v (10 + 10 * i) ≤ 99) {S f : Nat} (hS : S < 256) (hf : f < 8) (bf : S.testBit f = true) (hF : ∀ R, R < S → zSub R S → F R = zD v R) : zFm (zFg v F S f) (if zn S % 2 = 1 then F (zC S f) else 2147483647) 8 = zD v S := by
  have hr := zD_r v S
  have hlt := zC_lt S hS f hf
  have hlf := hlt.2 bf
  have e1 : F (zC S f) = zD v (zC S f) := hF _ hlf (zSub_C hS hf (fun _ _ h => h))
  have e2 : ∀ k, k < 8 → (zC S f).testBit k = true → k ≠ f ∧ S.testBit k = true ∧ F (zC (zC S f) k) = zD v (zC (zC S f) k) := fun k hk hb => by
    have hl2 := zC_lt (zC S f) (by omega) k hk
    have e3 := hF (zC (zC S f) k) (by omega) (zSub_C (by omega) hk (zSub_C hS hf (fun _ _ h => h)))
    rw [zC_bit S hS f hf k hk] at hb
    simp only [Bool.and_eq_true, decide_eq_true_eq] at hb
    exact ⟨hb.2, hb.1, e3⟩
  refine zFm_eq ?_ (fun k hk c hc => ?_) ?_
  · by_cases ho : zn S % 2 = 1
    · rw [if_pos ho, e1]
      have h1 := (zD_o (v := v) ho).1 f hf bf
      have n1 := zn_r hS hf bf
      rw [zD_e (S := zC S f) (by omega)]
      exact h1
    · rw [if_neg ho]; omega
  · unfold zFg at hc
    by_cases hb : (zC S f).testBit k = true
    · rw [if_pos hb] at hc
      obtain ⟨g1, g2, g3⟩ := e2 k hk hb
      have := zD_le hs hS hf hk (Ne.symm g1) bf g2
      have hc := Option.some.inj hc
      omega
    · rw [if_neg hb] at hc; cases hc
  · rcases zD_ex hs hS hf bf with ⟨ho, h⟩ | ⟨b, hb, hne, bb, h⟩
    · exact Or.inl (by rw [if_pos ho, e1, h])
    · have hb2 : (zC S f).testBit b = true := by rw [zC_bit S hS f hf b hb]; simp [bb, hne]
      refine Or.inr ⟨b, hb, ?_⟩
      unfold zFg
      rw [if_pos hb2, (e2 b hb hb2).2.2, h]
theorem zD_0 (v : Nat → Int) : zD v 0 = 0 := by
  have h1 : ∀ t, zc v 0 t = 0 := fun t => by unfold zc; rw [zK_cg (q := fun _ => false) 8 (fun k _ => by simp)]; rfl
  have h2 : ∀ T, zAf v 0 T = 0 := fun T => by
    induction T with
    | zero => rfl
    | succ T ih => rw [zAf, ih, h1]
  rw [zD_e (by decide)]
  unfold zA; rw [h2]; rfl
set_option maxRecDepth 4000 in
theorem ct_leastForSet {h : gm_H} {n p : Nat} {v F A : Nat → Int} (hN : nd_at h n v) (hv : nd_iv v) (hP : pr_at h p F A) {S : Nat} (hS : S < 256) (h0 : S ≠ 0) (hF : ∀ R, R < S → zSub R S → F R = zD v R) : gm_co mX6_leastForSet 3 [.ref p, .ref n, .int (zI S)] h (.inl (some (.int (zI (zD v S))))) h := by
  refine gm_co_of _ (by decide +kernel) rfl (Nat.le_of_ble_eq_true rfl) rfl ?_
  obtain ⟨h1, S9, D9, h2, h3, h4, h5⟩ := id hN
  obtain ⟨p1, p2, p3⟩ := id hP
  obtain ⟨hf, bf, hlo⟩ := zLo_a S hS h0
  generalize hfe : zLo S = f at *
  have hl := zC_lt S hS f hf
  have hpc := zn_pc S hS
  have hn8 := zK_le (fun k => S.testBit k) 8
  have hzn : zn S = zK (fun k => S.testBit k) 8 := rfl
  have hfin := zFg_D hv.2.2.1 hS hf bf hF
  have hin : ∀ a, zFm (zFg v F S f) a (f + 1) = a := fun a => zFm_0 (f + 1) (fun k hk => by
    unfold zFg; rw [zC_bit S hS f hf k (by omega)]
    by_cases e : k = f
    · simp [e]
    · rw [hlo k (by omega) (by omega)]; simp)
  have hbd : ∀ k, k < 8 → (zC S f).testBit k = true → 0 ≤ zDf v f k + F (zC (zC S f) k) ∧ zDf v f k + F (zC (zC S f) k) ≤ 1000 := fun k hk hb => by
    have hlf := hl.2 bf
    have hl2 := zC_lt (zC S f) (by omega) k hk
    have e3 := hF (zC (zC S f) k) (by omega) (zSub_C (by omega) hk (zSub_C hS hf (fun _ _ h => h)))
    have e4 := zD_r v (zC (zC S f) k)
    have e5 := hv.2.2.1 f hf
    have e6 := hv.2.2.1 k hk
    rw [e3]; unfold zDf; split <;> omega
  have key : ∀ (od : Int) (m j : Nat) (a : Int), j + m = 8 → f < j → zFm (zFg v F S f) a 8 = zD v S → zR (zFm (zFg v F S f) a j) → gm_ru mX6_leastForSet 3 (55, [some (.ref p), some (.ref n), some (.int (zI S)), some (.int (zI f)), some (.int (zI (zC S f : Nat))), some (.int (zI od)), some (.int (zI (zFm (zFg v F S f) a j))), some (.int (zI j))], [], h) (.inl (some (.int (zI (zD v S))))) h := by
    intro od m
    induction m with
    | zero =>
      intro j a hj hj0 ha hr
      obtain rfl : j = 8 := by omega
      rw [ha] at *
      refine gm_go.ru (gm_iload dX6_leastForSet_55 rfl) ?_
      refine gm_go.ru (gi_bipush dX6_leastForSet_57 (by decide +kernel)) ?_
      refine gm_go.ru (gi_icmp_ge_t (tgt := 94) dX6_leastForSet_59 (by decide) (by omega) (by omega) (by omega)) ?_
      refine gm_go.ru (gm_iload dX6_leastForSet_94 rfl) ?_
      exact gm_iret dX6_leastForSet_96 rfl
    | succ m ih =>
      intro j a hj hj0 ha hr
      have e := ih (j + 1) a (by omega) (by omega) ha
      refine gm_go.ru (gm_iload dX6_leastForSet_55 rfl) ?_
      refine gm_go.ru (gi_bipush dX6_leastForSet_57 (by decide +kernel)) ?_
      refine gm_go.ru (gi_icmp_ge_f 94 dX6_leastForSet_59 (by decide) (by omega) (by omega) (by omega)) ?_
      refine gm_go.ru (gm_iload dX6_leastForSet_62 rfl) ?_
      refine gm_go.ru (gm_iload dX6_leastForSet_64 rfl) ?_
      refine gm_go.ru (gm_cS dX6_leastForSet_66 (ct_holds (by omega) (by omega)) rfl mt_X10_holds ms_X10_holds (lk_X6_38 rfl) rfl (Nat.le_of_ble_eq_true rfl) (by decide)) ?_
      cases hb : (zC S f).testBit j
      ·
        rw [zFm_n (by unfold zFg; rw [hb]; rfl)] at e
        refine gm_go.ru (gi_if_eq_t (tgt := 88) dX6_leastForSet_69 (by decide) (by decide) rfl) ?_
        refine gm_go.ru (gi_iinc (ls' := [_, _, _, _, _, _, _, _]) dX6_leastForSet_88 rfl (by decide) rfl) ?_
        refine gm_go.ru (gm_goto (tgt := 55) dX6_leastForSet_91 (by decide)) ?_
        exact e hr
      ·
        have hbj := hbd j (by omega) hb
        rw [zFm_s (c := zDf v f j + F (zC (zC S f) j)) (by unfold zFg; rw [hb]; rfl)] at e
        refine gm_go.ru (gi_if_eq_f 88 dX6_leastForSet_69 (by decide) (by decide) (by decide)) ?_
        refine gm_go.ru (gm_iload dX6_leastForSet_72 rfl) ?_
        refine gm_go.ru (gm_aload_n dX6_leastForSet_74 rfl (by first | exact Or.inl ⟨_, rfl⟩ | exact Or.inr ⟨_, rfl⟩)) ?_
        refine gm_go.ru (gm_aload_n dX6_leastForSet_75 rfl (by first | exact Or.inl ⟨_, rfl⟩ | exact Or.inr ⟨_, rfl⟩)) ?_
        refine gm_go.ru (gm_iload_n dX6_leastForSet_76 rfl) ?_
        refine gm_go.ru (gm_iload_n dX6_leastForSet_77 rfl) ?_
        refine gm_go.ru (gm_iload dX6_leastForSet_78 rfl) ?_
        refine gm_go.ru (gm_cV dX6_leastForSet_80 (ct_withPair hN hv hP hS hf (by omega)) rfl mt_X6_withPair mv_X6_withPair (lk_X6_42 rfl) (Or.inl ⟨_, 8, _, _, _, rfl, p1, rfl⟩) rfl (Nat.le_of_ble_eq_true rfl) (by decide)) ?_
        refine gm_go.ru (gm_cS dX6_leastForSet_83 (ct_min hr (by omega)) rfl mt_J9_min_7cf53 ms_J9_min_7cf53 (lk_X6_46 rfl) rfl (Nat.le_of_ble_eq_true rfl) (by decide)) ?_
        refine gm_go.ru (gm_istore (ls' := [_, _, _, _, _, _, _, _]) dX6_leastForSet_86 (by decide) rfl) ?_
        refine gm_go.ru (gi_iinc (ls' := [_, _, _, _, _, _, _, _]) dX6_leastForSet_88 rfl (by decide) rfl) ?_
        refine gm_go.ru (gm_goto (tgt := 55) dX6_leastForSet_91 (by decide)) ?_
        exact e (by omega)
  refine gm_go.ru (gm_iload_n dX6_leastForSet_0 rfl) ?_
  refine gm_go.ru (gm_cS dX6_leastForSet_1 (ct_lowestOf hS) rfl mt_X6_lowestOf ms_X6_lowestOf (lk_X6_28 rfl) rfl (Nat.le_of_ble_eq_true rfl) (by decide)) ?_
  rw [hfe]
  refine gm_go.ru (gm_istore_n (ls' := [_, _, _, _, _, _, _, _]) dX6_leastForSet_4 (by decide) rfl) ?_
  refine gm_go.ru (gm_iload_n dX6_leastForSet_5 rfl) ?_
  refine gm_go.ru (gi_const dX6_leastForSet_6) ?_
  refine gm_go.ru (gm_iload_n dX6_leastForSet_7 rfl) ?_
  refine gm_go.ru (gi_shl1 dX6_leastForSet_8 (by omega)) ?_
  refine gm_go.ru (gi_const dX6_leastForSet_9) ?_
  refine gm_go.ru (gi_not dX6_leastForSet_10) ?_
  refine gm_go.ru (gi_clr dX6_leastForSet_11 hS hf) ?_
  refine gm_go.ru (gm_istore (ls' := [_, _, _, _, _, _, _, _]) dX6_leastForSet_12 (by decide) rfl) ?_
  refine gm_go.ru (gm_iload_n dX6_leastForSet_14 rfl) ?_
  refine gm_go.ru (gm_cS dX6_leastForSet_15 (ct_bitCount hS) rfl mt_J6_bitCount_0f7a4 ms_J6_bitCount_0f7a4 (lk_X6_32 rfl) rfl (Nat.le_of_ble_eq_true rfl) (by decide)) ?_
  refine gm_go.ru (gi_const dX6_leastForSet_18) ?_
  refine gm_go.ru (gi_rem dX6_leastForSet_19 (by omega) (by omega) (by omega)) ?_
  rw [show ((zPC S : Nat) : Int).tmod 2 = ((zn S % 2 : Nat) : Int) by rw [z_tmod (by decide), if_pos (by omega)]; omega]
  refine gm_go.ru (gi_const dX6_leastForSet_20) ?_
  by_cases ho : zn S % 2 = 1
  ·
    rw [if_pos ho] at hfin
    have e1 := hF _ (hl.2 bf) (zSub_C hS hf (fun _ _ h => h))
    have e2 := zD_r v (zC S f)
    have k0 := key 1 (7 - f) (f + 1) (F (zC S f)) (by omega) (by omega) hfin
    rw [hin] at k0
    refine gm_go.ru (gi_icmp_ne_f 28 dX6_leastForSet_21 (by decide) (by omega) (by omega) (by omega)) ?_
    refine gm_go.ru (gi_const dX6_leastForSet_24) ?_
    refine gm_go.ru (gm_goto (tgt := 29) dX6_leastForSet_25 (by decide)) ?_
    refine gm_go.ru (gm_istore (ls' := [_, _, _, _, _, _, _, _]) dX6_leastForSet_29 (by decide) rfl) ?_
    refine gm_go.ru (gm_iload dX6_leastForSet_31 rfl) ?_
    refine gm_go.ru (gi_if_eq_f 46 dX6_leastForSet_33 (by decide) (by decide) (by decide)) ?_
    refine gm_go.ru (gm_aload_n dX6_leastForSet_36 rfl (by first | exact Or.inl ⟨_, rfl⟩ | exact Or.inr ⟨_, rfl⟩)) ?_
    refine gm_go.ru (gm_get dX6_leastForSet_37 (fl_X6_9 rfl) p1 rfl) ?_
    refine gm_go.ru (gm_iload dX6_leastForSet_40 rfl) ?_
    refine gm_go.ru (gi_ald dX6_leastForSet_42 p2 (by omega) (by omega) (by decide)) ?_
    refine gm_go.ru (gm_goto (tgt := 48) dX6_leastForSet_43 (by decide)) ?_
    refine gm_go.ru (gm_istore (ls' := [_, _, _, _, _, _, _, _]) dX6_leastForSet_48 (by decide) rfl) ?_
    refine gm_go.ru (gm_iload_n dX6_leastForSet_50 rfl) ?_
    refine gm_go.ru (gi_const dX6_leastForSet_51) ?_
    refine gm_go.ru (gi_add dX6_leastForSet_52) ?_
    refine gm_go.ru (gm_istore (ls' := [_, _, _, _, _, _, _, _]) dX6_leastForSet_53 (by decide) rfl) ?_
    exact k0 (by omega)
  ·
    rw [if_neg ho] at hfin
    have k0 := key 0 (7 - f) (f + 1) 2147483647 (by omega) (by omega) hfin
    rw [hin] at k0
    refine gm_go.ru (gi_icmp_ne_t (tgt := 28) dX6_leastForSet_21 (by decide) (by omega) (by omega) (by omega)) ?_
    refine gm_go.ru (gi_const dX6_leastForSet_28) ?_
    refine gm_go.ru (gm_istore (ls' := [_, _, _, _, _, _, _, _]) dX6_leastForSet_29 (by decide) rfl) ?_
    refine gm_go.ru (gm_iload dX6_leastForSet_31 rfl) ?_
    refine gm_go.ru (gi_if_eq_t (tgt := 46) dX6_leastForSet_33 (by decide) (by decide) rfl) ?_
    refine gm_go.ru (gm_ldci (v := zI 2147483647) dX6_leastForSet_46 (kc_X6_37 rfl)) ?_
    refine gm_go.ru (gm_istore (ls' := [_, _, _, _, _, _, _, _]) dX6_leastForSet_48 (by decide) rfl) ?_
    refine gm_go.ru (gm_iload_n dX6_leastForSet_50 rfl) ?_
    refine gm_go.ru (gi_const dX6_leastForSet_51) ?_
    refine gm_go.ru (gi_add dX6_leastForSet_52) ?_
    refine gm_go.ru (gm_istore (ls' := [_, _, _, _, _, _, _, _]) dX6_leastForSet_53 (by decide) rfl) ?_
    exact k0 (by omega)
theorem zSub_and {S g : Nat} (hS : S < 256) : S &&& g = S ↔ zSub S g := by
  constructor
  · intro e j hj hb
    rw [← e, Nat.testBit_and] at hb
    simp only [Bool.and_eq_true] at hb
    exact hb.2
  · intro h
    apply Nat.eq_of_testBit_eq
    intro j
    rw [Nat.testBit_and]
    by_cases hj : j < 8
    · cases hb : S.testBit j with
      | false => rfl
      | true => rw [h j hj hb]; rfl
    · rw [Nat.testBit_lt_two_pow (x := S) (i := j) (Nat.lt_of_lt_of_le hS (show 256 ≤ 2 ^ j from (Nat.pow_le_pow_right (by decide) (show 8 ≤ j by omega) : 2 ^ 8 ≤ 2 ^ j)))]; rfl
/-- the good ones -/
def zGd (v : Nat → Int) : Nat := zGS v (v 0).toNat
theorem zGd_lt {v : Nat → Int} (hv : nd_iv v) : zGd v < 256 := by
  have h1 := zGS_lt v (v 0).toNat
  have h2 := hv.1
  exact Nat.lt_of_lt_of_le h1 (Nat.pow_le_pow_right (by decide) (show (v 0).toNat ≤ 8 by omega) : 2 ^ (v 0).toNat ≤ 2 ^ 8)
theorem zSub_tr {a b c : Nat} (h : zSub a b) (g : zSub b c) : zSub a c := fun j hj hb => g j hj (h j hj hb)
set_option maxRecDepth 4000 in
theorem ct_leastBySets {h : gm_H} {n p : Nat} {v F A : Nat → Int} (hN : nd_at h n v) (hv : nd_iv v) (hP : pr_at h p F A) (hd : n + 3 ≤ p ∨ p + 3 ≤ n) : ∃ h' F', gm_co mX6_leastBySets 5 [.ref p, .ref n] h (.inl (some (.int (zI (zD v (zGd v)))))) h' ∧ pr_at h' p F' A ∧ (∀ R, R ≤ zGd v → zSub R (zGd v) → F' R = zD v R) ∧ gh_fr h h' (fun k => k = p + 1) := by
  have hg := zGd_lt hv
  obtain ⟨h1, h2⟩ := id hN
  obtain ⟨p1, p2, p3⟩ := id hP
  have hco := ct_goodSet hN hv
  rw [show zGS v (v 0).toNat = zGd v from rfl] at hco
  generalize zGd v = g at *
  obtain ⟨f', hgo, q, F', rfl, hN', hP', hF', hfr⟩ := gl_up (M := mX6_leastBySets) (d := 5) (fun j f => ∃ q F, f = (14, [some (.ref p), some (.ref n), some (.int (zI g)), some (.int (zI ((j + 1 : Nat) : Int)))], [], q) ∧ nd_at q n v ∧ pr_at q p F A ∧ (∀ R, R < j + 1 → zSub R g → F R = zD v R) ∧ gh_fr h q (fun k => k = p + 1)) g (by
    rintro j f hj ⟨q, F, rfl, hN, hP, hF, hfr⟩
    obtain ⟨h1, h2⟩ := id hN
    obtain ⟨p1, p2, p3⟩ := id hP
    by_cases hs : (j + 1) &&& g = j + 1
    ·
      have hsub := (zSub_and (by omega)).mp hs
      refine ⟨(14, [some (.ref p), some (.ref n), some (.int (zI g)), some (.int (zI ((j + 1 + 1 : Nat) : Int)))], [], (q.1.set (p + 1) (gA 256 (zU F (j + 1) (zD v (j + 1)))), q.2)), ?_, _, _, rfl, nd_fr (K := fun k => k = p + 1) (gh_set (K := fun k => k = p + 1) gh_rf rfl _) (fun k hk z => by have := hk.1; have := hk.2; omega) hN, ⟨gs_n p1 (by omega), gs_s p2, gs_n p3 (by omega)⟩, fun R hR hRs => ?_, gh_set (K := fun k => k = p + 1) hfr rfl _⟩
      ·
        refine gm_go_tr (gm_iload_n dX6_leastBySets_14 rfl) ?_
        refine gm_go_tr (gm_iload_n dX6_leastBySets_15 rfl) ?_
        refine gm_go_tr (gi_icmp_gt_f 44 dX6_leastBySets_16 (by decide) (by omega) (by omega) (by omega)) ?_
        refine gm_go_tr (gm_iload_n dX6_leastBySets_19 rfl) ?_
        refine gm_go_tr (gm_iload_n dX6_leastBySets_20 rfl) ?_
        refine gm_go_tr (gi_and dX6_leastBySets_21) ?_
        refine gm_go_tr (gm_iload_n dX6_leastBySets_22 rfl) ?_
        rw [hs]
        refine gm_go_tr (gi_icmp_ne_f 38 dX6_leastBySets_23 (by decide) (by omega) (by omega) rfl) ?_
        refine gm_go_tr (gm_aload_n dX6_leastBySets_26 rfl (by first | exact Or.inl ⟨_, rfl⟩ | exact Or.inr ⟨_, rfl⟩)) ?_
        refine gm_go_tr (gm_get dX6_leastBySets_27 (fl_X6_9 rfl) p1 rfl) ?_
        refine gm_go_tr (gm_iload_n dX6_leastBySets_30 rfl) ?_
        refine gm_go_tr (gm_aload_n dX6_leastBySets_31 rfl (by first | exact Or.inl ⟨_, rfl⟩ | exact Or.inr ⟨_, rfl⟩)) ?_
        refine gm_go_tr (gm_aload_n dX6_leastBySets_32 rfl (by first | exact Or.inl ⟨_, rfl⟩ | exact Or.inr ⟨_, rfl⟩)) ?_
        refine gm_go_tr (gm_iload_n dX6_leastBySets_33 rfl) ?_
        refine gm_go_tr (gm_cV dX6_leastBySets_34 (ct_leastForSet hN hv hP (S := j + 1) (by omega) (by omega) (fun R hR hRs => hF R (by omega) (zSub_tr hRs hsub))) rfl mt_X6_leastForSet mv_X6_leastForSet (lk_X6_24 rfl) (Or.inl ⟨_, 8, _, _, _, rfl, p1, rfl⟩) rfl (Nat.le_of_ble_eq_true rfl) (by decide)) ?_
        refine gm_go_tr (gi_ast dX6_leastBySets_37 p2 (by omega) (by omega) (by decide)) ?_
        rw [show ((j + 1 : Nat) : Int).toNat = j + 1 by omega]
        refine gm_go_tr (gi_iinc (ls' := [_, _, _, _]) dX6_leastBySets_38 rfl (by decide) rfl) ?_
        exact gm_goto (tgt := 14) dX6_leastBySets_41 (by decide)
      · by_cases e : R = j + 1
        · rw [e, zU_s]
        · rw [zU_n e]; exact hF R (by omega) hRs
    ·
      refine ⟨(14, [some (.ref p), some (.ref n), some (.int (zI g)), some (.int (zI ((j + 1 + 1 : Nat) : Int)))], [], q), ?_, _, _, rfl, hN, hP, fun R hR hRs => ?_, hfr⟩
      ·
        refine gm_go_tr (gm_iload_n dX6_leastBySets_14 rfl) ?_
        refine gm_go_tr (gm_iload_n dX6_leastBySets_15 rfl) ?_
        refine gm_go_tr (gi_icmp_gt_f 44 dX6_leastBySets_16 (by decide) (by omega) (by omega) (by omega)) ?_
        refine gm_go_tr (gm_iload_n dX6_leastBySets_19 rfl) ?_
        refine gm_go_tr (gm_iload_n dX6_leastBySets_20 rfl) ?_
        refine gm_go_tr (gi_and dX6_leastBySets_21) ?_
        refine gm_go_tr (gm_iload_n dX6_leastBySets_22 rfl) ?_
        have hle : (j + 1) &&& g ≤ j + 1 := Nat.and_le_left
        refine gm_go_tr (gi_icmp_ne_t (tgt := 38) dX6_leastBySets_23 (by decide) (by omega) (by omega) (by omega)) ?_
        refine gm_go_tr (gi_iinc (ls' := [_, _, _, _]) dX6_leastBySets_38 rfl (by decide) rfl) ?_
        exact gm_goto (tgt := 14) dX6_leastBySets_41 (by decide)
      · by_cases e : R = j + 1
        · rw [e] at hRs; exact absurd ((zSub_and (by omega)).mpr hRs) hs
        · exact hF R (by omega) hRs
    ) 0 (14, [some (.ref p), some (.ref n), some (.int (zI g)), some (.int (zI ((0 + 1 : Nat) : Int)))], [], (h.1.set (p + 1) (gA 256 (zU F (0 : Int).toNat 0)), h.2)) (by omega) ⟨_, _, rfl, nd_fr (K := fun k => k = p + 1) (gh_set (K := fun k => k = p + 1) gh_rf rfl _) (fun k hk z => by have := hk.1; have := hk.2; omega) hN, ⟨gs_n p1 (by omega), gs_s p2, gs_n p3 (by omega)⟩, fun R hR hRs => by rw [show R = 0 by omega]; exact zU_s.trans (zD_0 v).symm, gh_set (K := fun k => k = p + 1) gh_rf rfl _⟩
  refine ⟨q, F', ?_, hP', fun R hR hRs => hF' R (by omega) hRs, hfr⟩
  obtain ⟨p1', p2', p3'⟩ := id hP'
  refine gm_co_of _ (by decide +kernel) rfl (Nat.le_of_ble_eq_true rfl) rfl ?_
  refine gm_go.ru (gm_aload_n dX6_leastBySets_0 rfl (by first | exact Or.inl ⟨_, rfl⟩ | exact Or.inr ⟨_, rfl⟩)) ?_
  refine gm_go.ru (gm_cV dX6_leastBySets_1 (hco) rfl mt_X3_goodSet mv_X3_goodSet (lk_X6_18 rfl) (Or.inl ⟨_, 5, _, _, _, rfl, h1, rfl⟩) rfl (Nat.le_of_ble_eq_true rfl) (by decide)) ?_
  refine gm_go.ru (gm_istore_n (ls' := [_, _, _, _]) dX6_leastBySets_4 (by decide) rfl) ?_
  refine gm_go.ru (gm_aload_n dX6_leastBySets_5 rfl (by first | exact Or.inl ⟨_, rfl⟩ | exact Or.inr ⟨_, rfl⟩)) ?_
  refine gm_go.ru (gm_get dX6_leastBySets_6 (fl_X6_9 rfl) p1 rfl) ?_
  refine gm_go.ru (gi_const dX6_leastBySets_9) ?_
  refine gm_go.ru (gi_const dX6_leastBySets_10) ?_
  refine gm_go.ru (gi_ast dX6_leastBySets_11 p2 (by omega) (by omega) (by decide)) ?_
  refine gm_go.ru (gi_const dX6_leastBySets_12) ?_
  refine gm_go.ru (gm_istore_n (ls' := [_, _, _, _]) dX6_leastBySets_13 (by decide) rfl) ?_
  refine gm_go.ru hgo ?_
  refine gm_go.ru (gm_iload_n dX6_leastBySets_14 rfl) ?_
  refine gm_go.ru (gm_iload_n dX6_leastBySets_15 rfl) ?_
  refine gm_go.ru (gi_icmp_gt_t (tgt := 44) dX6_leastBySets_16 (by decide) (by omega) (by omega) (by omega)) ?_
  refine gm_go.ru (gm_aload_n dX6_leastBySets_44 rfl (by first | exact Or.inl ⟨_, rfl⟩ | exact Or.inr ⟨_, rfl⟩)) ?_
  refine gm_go.ru (gm_get dX6_leastBySets_45 (fl_X6_9 rfl) p1' rfl) ?_
  refine gm_go.ru (gm_iload_n dX6_leastBySets_48 rfl) ?_
  refine gm_go.ru (gi_ald dX6_leastBySets_49 p2' (by omega) (by omega) (by decide)) ?_
  rw [Int.toNat_natCast, hF' g (by omega) (fun _ _ h => h)]
  exact gm_iret dX6_leastBySets_50 rfl
def zPn (v : Nat → Int) (i : Nat) : Nat → Nat → Int
  | 0, _ => -1
  | m + 1, k => if k ≠ i ∧ (zGd v).testBit k = true ∧ zDf v i k + zD v (zC (zC (zGd v) i) k) = zD v (zGd v) then (k : Int) else zPn v i m (k + 1)
def zPt (v : Nat → Int) (i : Nat) : Int := if (zGd v).testBit i then zPn v i (v 0).toNat 0 else -1
theorem zC_le2 : ∀ S : Nat, S < 256 → ∀ a : Nat, a < 8 → ∀ b : Nat, b < 8 → zC (zC S a) b ≤ S := by decide +kernel
set_option maxRecDepth 4000 in
theorem ct_lowestPartner {h : gm_H} {n p : Nat} {v F A : Nat → Int} (hN : nd_at h n v) (hv : nd_iv v) (hP : pr_at h p F A) (hd : n + 3 ≤ p ∨ p + 3 ≤ n) {i : Nat} (hi : i < 8) : ∃ h' F', gm_co mX6_lowestPartner 6 [.ref p, .ref n, .int (zI i)] h (.inl (some (.int (zI (zPt v i))))) h' ∧ pr_at h' p F' A ∧ gh_fr h h' (fun k => k = p + 1) := by
  obtain ⟨cn, hc, hc8⟩ := nd_cnt hv
  have hg := zGd_lt hv
  obtain ⟨h1, h2⟩ := id hN
  obtain ⟨p1, p2, p3⟩ := id hP
  have hco := ct_goodSet hN hv
  rw [show zGS v (v 0).toNat = zGd v from rfl] at hco
  obtain ⟨h', F', hl, hP', hF', hfr⟩ := ct_leastBySets hN hv hP hd
  have hN' := nd_fr hfr (fun k hk z => by have := hk.1; have := hk.2; omega) hN
  obtain ⟨h1', h2'⟩ := id hN'
  obtain ⟨p1', p2', p3'⟩ := id hP'
  have hr := zD_r v (zGd v)
  unfold zPt
  by_cases hb : (zGd v).testBit i = true
  ·
    refine ⟨h', F', ?_, hP', hfr⟩
    rw [if_pos hb]
    have key : ∀ (m j : Nat) (x : Option Value), j + m = cn → gm_ru mX6_lowestPartner 6 (25, [some (.ref p), some (.ref n), some (.int (zI i)), some (.int (zI (zGd v : Nat))), some (.int (zI (zD v (zGd v)))), some (.int (zI j)), x], [], h') (.inl (some (.int (zI (zPn v i m j))))) h' := by
      intro m
      induction m with
      | zero =>
        intro j x hj
        obtain rfl : j = cn := by omega
        refine gm_go.ru (gm_iload dX6_lowestPartner_25 rfl) ?_
        refine gm_go.ru (gm_aload_n dX6_lowestPartner_27 rfl (by first | exact Or.inl ⟨_, rfl⟩ | exact Or.inr ⟨_, rfl⟩)) ?_
        refine gm_go.ru (gm_get dX6_lowestPartner_28 (fl_X6_65 rfl) h1' rfl) ?_
        refine gm_go.ru (gi_icmp_ge_t (tgt := 84) dX6_lowestPartner_31 (by decide) (by omega) (by omega) (by omega)) ?_
        refine gm_go.ru (gi_const dX6_lowestPartner_84) ?_
        exact gm_iret dX6_lowestPartner_85 rfl
      | succ m ih =>
        intro j x hj
        have e := fun x => ih (j + 1) x (by omega)
        have hnx : ∀ x, (¬ (j ≠ i ∧ (zGd v).testBit j = true ∧ zDf v i j + zD v (zC (zC (zGd v) i) j) = zD v (zGd v))) → gm_ru mX6_lowestPartner 6 (78, [some (.ref p), some (.ref n), some (.int (zI i)), some (.int (zI (zGd v : Nat))), some (.int (zI (zD v (zGd v)))), some (.int (zI j)), x], [], h') (.inl (some (.int (zI (zPn v i (m + 1) j))))) h' := by
          intro x hq
          rw [zPn, if_neg hq]
          refine gm_go.ru (gi_iinc (ls' := [_, _, _, _, _, _, _]) dX6_lowestPartner_78 rfl (by decide) rfl) ?_
          refine gm_go.ru (gm_goto (tgt := 25) dX6_lowestPartner_81 (by decide)) ?_
          exact e x
        by_cases c1 : j = i
        ·
          refine gm_go.ru (gm_iload dX6_lowestPartner_25 rfl) ?_
          refine gm_go.ru (gm_aload_n dX6_lowestPartner_27 rfl (by first | exact Or.inl ⟨_, rfl⟩ | exact Or.inr ⟨_, rfl⟩)) ?_
          refine gm_go.ru (gm_get dX6_lowestPartner_28 (fl_X6_65 rfl) h1' rfl) ?_
          refine gm_go.ru (gi_icmp_ge_f 84 dX6_lowestPartner_31 (by decide) (by omega) (by omega) (by omega)) ?_
          refine gm_go.ru (gm_iload dX6_lowestPartner_34 rfl) ?_
          refine gm_go.ru (gm_iload_n dX6_lowestPartner_36 rfl) ?_
          refine gm_go.ru (gi_icmp_eq_t (tgt := 53) dX6_lowestPartner_37 (by decide) (by omega) (by omega) (by omega)) ?_
          refine gm_go.ru (gi_const dX6_lowestPartner_53) ?_
          refine gm_go.ru (gm_istore (ls' := [_, _, _, _, _, _, _]) dX6_lowestPartner_54 (by decide) rfl) ?_
          refine gm_go.ru (gm_iload dX6_lowestPartner_56 rfl) ?_
          refine gm_go.ru (gi_if_eq_t (tgt := 78) dX6_lowestPartner_58 (by decide) (by decide) rfl) ?_
          exact hnx _ (fun z => z.1 c1)
        ·
          refine gm_go.ru (gm_iload dX6_lowestPartner_25 rfl) ?_
          refine gm_go.ru (gm_aload_n dX6_lowestPartner_27 rfl (by first | exact Or.inl ⟨_, rfl⟩ | exact Or.inr ⟨_, rfl⟩)) ?_
          refine gm_go.ru (gm_get dX6_lowestPartner_28 (fl_X6_65 rfl) h1' rfl) ?_
          refine gm_go.ru (gi_icmp_ge_f 84 dX6_lowestPartner_31 (by decide) (by omega) (by omega) (by omega)) ?_
          refine gm_go.ru (gm_iload dX6_lowestPartner_34 rfl) ?_
          refine gm_go.ru (gm_iload_n dX6_lowestPartner_36 rfl) ?_
          refine gm_go.ru (gi_icmp_eq_f 53 dX6_lowestPartner_37 (by decide) (by omega) (by omega) (by omega)) ?_
          refine gm_go.ru (gm_iload_n dX6_lowestPartner_40 rfl) ?_
          refine gm_go.ru (gm_iload dX6_lowestPartner_41 rfl) ?_
          refine gm_go.ru (gm_cS dX6_lowestPartner_43 (ct_holds (by omega) (by omega)) rfl mt_X10_holds ms_X10_holds (lk_X6_38 rfl) rfl (Nat.le_of_ble_eq_true rfl) (by decide)) ?_
          cases c2 : (zGd v).testBit j
          ·
            refine gm_go.ru (gi_if_eq_t (tgt := 53) dX6_lowestPartner_46 (by decide) (by decide) rfl) ?_
            refine gm_go.ru (gi_const dX6_lowestPartner_53) ?_
            refine gm_go.ru (gm_istore (ls' := [_, _, _, _, _, _, _]) dX6_lowestPartner_54 (by decide) rfl) ?_
            refine gm_go.ru (gm_iload dX6_lowestPartner_56 rfl) ?_
            refine gm_go.ru (gi_if_eq_t (tgt := 78) dX6_lowestPartner_58 (by decide) (by decide) rfl) ?_
            exact hnx _ (fun z => by rw [c2] at z; exact absurd z.2.1 (by decide))
          ·
            have hle := zC_le2 (zGd v) hg i hi j (by omega)
            have eF := hF' (zC (zC (zGd v) i) j) hle (zSub_C (by have := zC_lt (zGd v) hg i hi; omega) (by omega) (zSub_C hg hi (fun _ _ h => h)))
            have hrr := zD_r v (zC (zC (zGd v) i) j)
            have s1 := hv.2.2.1 i hi
            have s2 := hv.2.2.1 j (by omega)
            have hdf : 0 ≤ zDf v i j ∧ zDf v i j ≤ 99 := by unfold zDf; split <;> omega
            refine gm_go.ru (gi_if_eq_f 53 dX6_lowestPartner_46 (by decide) (by decide) (by decide)) ?_
            refine gm_go.ru (gi_const dX6_lowestPartner_49) ?_
            refine gm_go.ru (gm_goto (tgt := 54) dX6_lowestPartner_50 (by decide)) ?_
            refine gm_go.ru (gm_istore (ls' := [_, _, _, _, _, _, _]) dX6_lowestPartner_54 (by decide) rfl) ?_
            refine gm_go.ru (gm_iload dX6_lowestPartner_56 rfl) ?_
            refine gm_go.ru (gi_if_eq_f 78 dX6_lowestPartner_58 (by decide) (by decide) (by decide)) ?_
            refine gm_go.ru (gm_aload_n dX6_lowestPartner_61 rfl (by first | exact Or.inl ⟨_, rfl⟩ | exact Or.inr ⟨_, rfl⟩)) ?_
            refine gm_go.ru (gm_aload_n dX6_lowestPartner_62 rfl (by first | exact Or.inl ⟨_, rfl⟩ | exact Or.inr ⟨_, rfl⟩)) ?_
            refine gm_go.ru (gm_iload_n dX6_lowestPartner_63 rfl) ?_
            refine gm_go.ru (gm_iload_n dX6_lowestPartner_64 rfl) ?_
            refine gm_go.ru (gm_iload dX6_lowestPartner_65 rfl) ?_
            refine gm_go.ru (gm_cV dX6_lowestPartner_67 (ct_withPair hN' hv hP' hg hi (by omega)) rfl mt_X6_withPair mv_X6_withPair (lk_X6_42 rfl) (Or.inl ⟨_, 8, _, _, _, rfl, p1', rfl⟩) rfl (Nat.le_of_ble_eq_true rfl) (by decide)) ?_
            rw [eF]
            refine gm_go.ru (gm_iload dX6_lowestPartner_70 rfl) ?_
            by_cases c3 : zDf v i j + zD v (zC (zC (zGd v) i) j) = zD v (zGd v)
            ·
              rw [zPn, if_pos ⟨c1, c2, c3⟩]
              refine gm_go.ru (gi_icmp_ne_f 78 dX6_lowestPartner_72 (by decide) (by omega) (by omega) c3) ?_
              refine gm_go.ru (gm_iload dX6_lowestPartner_75 rfl) ?_
              exact gm_iret dX6_lowestPartner_77 rfl
            ·
              refine gm_go.ru (gi_icmp_ne_t (tgt := 78) dX6_lowestPartner_72 (by decide) (by omega) (by omega) c3) ?_
              exact hnx _ (fun z => c3 z.2.2)
    refine gm_co_of _ (by decide +kernel) rfl (Nat.le_of_ble_eq_true rfl) rfl ?_
    refine gm_go.ru (gm_aload_n dX6_lowestPartner_0 rfl (by first | exact Or.inl ⟨_, rfl⟩ | exact Or.inr ⟨_, rfl⟩)) ?_
    refine gm_go.ru (gm_cV dX6_lowestPartner_1 (hco) rfl mt_X3_goodSet mv_X3_goodSet (lk_X6_18 rfl) (Or.inl ⟨_, 5, _, _, _, rfl, h1, rfl⟩) rfl (Nat.le_of_ble_eq_true rfl) (by decide)) ?_
    refine gm_go.ru (gm_istore_n (ls' := [_, _, _, _, _, _, _]) dX6_lowestPartner_4 (by decide) rfl) ?_
    refine gm_go.ru (gm_iload_n dX6_lowestPartner_5 rfl) ?_
    refine gm_go.ru (gm_iload_n dX6_lowestPartner_6 rfl) ?_
    refine gm_go.ru (gm_cS dX6_lowestPartner_7 (ct_holds (by omega) (by omega)) rfl mt_X10_holds ms_X10_holds (lk_X6_38 rfl) rfl (Nat.le_of_ble_eq_true rfl) (by decide)) ?_
    rw [hb]
    refine gm_go.ru (gi_if_ne_t (tgt := 15) dX6_lowestPartner_10 (by decide) (by decide) (by decide)) ?_
    refine gm_go.ru (gm_aload_n dX6_lowestPartner_15 rfl (by first | exact Or.inl ⟨_, rfl⟩ | exact Or.inr ⟨_, rfl⟩)) ?_
    refine gm_go.ru (gm_aload_n dX6_lowestPartner_16 rfl (by first | exact Or.inl ⟨_, rfl⟩ | exact Or.inr ⟨_, rfl⟩)) ?_
    refine gm_go.ru (gm_cV dX6_lowestPartner_17 (hl) rfl mt_X6_leastBySets mv_X6_leastBySets (lk_X6_69 rfl) (Or.inl ⟨_, 8, _, _, _, rfl, p1, rfl⟩) rfl (Nat.le_of_ble_eq_true rfl) (by decide)) ?_
    refine gm_go.ru (gm_istore (ls' := [_, _, _, _, _, _, _]) dX6_lowestPartner_20 (by decide) rfl) ?_
    refine gm_go.ru (gi_const dX6_lowestPartner_22) ?_
    refine gm_go.ru (gm_istore (ls' := [_, _, _, _, _, _, _]) dX6_lowestPartner_23 (by decide) rfl) ?_
    rw [hc, Int.toNat_natCast]
    exact key cn 0 _ (by omega)
  ·
    refine ⟨h, F, ?_, hP, gh_rf⟩
    rw [if_neg hb]
    refine gm_co_of _ (by decide +kernel) rfl (Nat.le_of_ble_eq_true rfl) rfl ?_
    refine gm_go.ru (gm_aload_n dX6_lowestPartner_0 rfl (by first | exact Or.inl ⟨_, rfl⟩ | exact Or.inr ⟨_, rfl⟩)) ?_
    refine gm_go.ru (gm_cV dX6_lowestPartner_1 (hco) rfl mt_X3_goodSet mv_X3_goodSet (lk_X6_18 rfl) (Or.inl ⟨_, 5, _, _, _, rfl, h1, rfl⟩) rfl (Nat.le_of_ble_eq_true rfl) (by decide)) ?_
    refine gm_go.ru (gm_istore_n (ls' := [_, _, _, _, _, _, _]) dX6_lowestPartner_4 (by decide) rfl) ?_
    refine gm_go.ru (gm_iload_n dX6_lowestPartner_5 rfl) ?_
    refine gm_go.ru (gm_iload_n dX6_lowestPartner_6 rfl) ?_
    refine gm_go.ru (gm_cS dX6_lowestPartner_7 (ct_holds (by omega) (by omega)) rfl mt_X10_holds ms_X10_holds (lk_X6_38 rfl) rfl (Nat.le_of_ble_eq_true rfl) (by decide)) ?_
    rw [Bool.eq_false_iff.mpr hb]
    refine gm_go.ru (gi_if_ne_f 15 dX6_lowestPartner_10 (by decide) (by decide) (by decide)) ?_
    refine gm_go.ru (gi_const dX6_lowestPartner_13) ?_
    exact gm_iret dX6_lowestPartner_14 rfl
