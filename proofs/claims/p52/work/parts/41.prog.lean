/-- how many digits stand from p on, of the next m; their number -/
def zdn (X : Nat → Int) (L : Nat) : Nat → Nat → Nat
  | _, 0 => 0
  | p, m + 1 => if zdg X L p then zdn X L (p + 1) m + 1 else 0
def zvl (X : Nat → Int) (p : Nat) : Nat → Int
  | 0 => 0
  | k + 1 => zvl X p k * 10 + (X (p + k) - 48)
theorem zdn_le (X : Nat → Int) (L : Nat) : ∀ m p, zdn X L p m ≤ m ∧ (zdn X L p m = 0 ∨ p + zdn X L p m ≤ L)
  | 0, p => ⟨Nat.le_refl 0, Or.inl rfl⟩
  | m + 1, p => by
    have ih := zdn_le X L m (p + 1)
    rw [zdn]
    cases hd : zdg X L p with
    | false => simp
    | true =>
      have h1 := of_decide_eq_true hd
      rw [if_pos rfl]
      omega
set_option maxRecDepth 4000 in
theorem tn_in {g L p w k mx : Nat} {X N : Nat → Int} {f : Int} (hmx : mx ≤ 3) : ∀ (m j : Nat) (h : gm_H), j + m = mx → pg_at h g X L (p + j) w N k → ∃ h', gm_go mX7_takesNumber 2 (5, [some (.ref g), some (.int (zI (mx : Nat))), some (.int (zI f)), some (.int (zI (zvl X p j))), some (.int (zI (j : Nat)))], [], h) (52, [some (.ref g), some (.int (zI (mx : Nat))), some (.int (zI f)), some (.int (zI (zvl X p (j + zdn X L (p + j) m)))), some (.int (zI ((j + zdn X L (p + j) m) : Nat)))], [], h') ∧ pg_at h' g X L (p + (j + zdn X L (p + j) m)) w N k ∧ gh_fr h h' (pg_K g) := by
  intro m
  induction m with
  | zero =>
    intro j h hj hP
    obtain ⟨h1, h2, h3, hL, hp, hX, hk⟩ := id hP
    refine ⟨h, ?_, hP, gh_rf⟩
    refine gm_go_tr (gm_iload dX7_takesNumber_5 rfl) ?_
    refine gm_go_tr (gm_iload_n dX7_takesNumber_7 rfl) ?_
    refine gm_go_tr (gi_icmp_ge_t (tgt := 52) dX7_takesNumber_8 (by decide) (by omega) (by omega) (by omega)) ?_
    exact gm_go_rf
  | succ m ih =>
    intro j h hj hP
    obtain ⟨h1, h2, h3, hL, hp, hX, hk⟩ := id hP
    rw [zdn]
    cases hd : zdg X L (p + j)
    ·
      rw [if_neg (by decide)]
      refine ⟨h, ?_, hP, gh_rf⟩
      refine gm_go_tr (gm_iload dX7_takesNumber_5 rfl) ?_
      refine gm_go_tr (gm_iload_n dX7_takesNumber_7 rfl) ?_
      refine gm_go_tr (gi_icmp_ge_f 52 dX7_takesNumber_8 (by decide) (by omega) (by omega) (by omega)) ?_
      refine gm_go_tr (gm_aload_n dX7_takesNumber_11 rfl (by first | exact Or.inl ⟨_, rfl⟩ | exact Or.inr ⟨_, rfl⟩)) ?_
      refine gm_go_tr (gm_cV dX7_takesNumber_12 (ct_atDigit hP) rfl mt_X7_atDigit mv_X7_atDigit (lk_X7_86 rfl) (Or.inl ⟨_, 9, _, _, _, rfl, h1, rfl⟩) rfl (Nat.le_of_ble_eq_true rfl) (by decide)) ?_
      rw [hd]
      refine gm_go_tr (gi_if_eq_t (tgt := 52) dX7_takesNumber_15 (by decide) (by decide) rfl) ?_
      exact gm_go_rf
    ·
      rw [if_pos rfl]
      have hd2 := of_decide_eq_true hd
      obtain ⟨a1, ha1⟩ : ∃ x : gm_H, x = (h.1.set g (pg_c g L (p + (j + 1)) w k), h.2) := ⟨_, rfl⟩
      have hP1 : pg_at a1 g X L (p + (j + 1)) w N k := by rw [ha1]; exact pg_set hP L (p + (j + 1)) w k hL (by omega) hX hk
      have hF1 : gh_fr h a1 (pg_K g) := by rw [ha1]; exact gh_set gh_rf ⟨by omega, by omega⟩ _
      obtain ⟨h', e1, e2, e3⟩ := ih (j + 1) a1 (by omega) hP1
      rw [show p + (j + 1) = p + j + 1 by omega, show j + 1 + zdn X L (p + j + 1) m = j + (zdn X L (p + j + 1) m + 1) by omega] at e1 e2
      refine ⟨h', ?_, e2, gh_tr hF1 e3⟩
      refine gm_go_tr (gm_iload dX7_takesNumber_5 rfl) ?_
      refine gm_go_tr (gm_iload_n dX7_takesNumber_7 rfl) ?_
      refine gm_go_tr (gi_icmp_ge_f 52 dX7_takesNumber_8 (by decide) (by omega) (by omega) (by omega)) ?_
      refine gm_go_tr (gm_aload_n dX7_takesNumber_11 rfl (by first | exact Or.inl ⟨_, rfl⟩ | exact Or.inr ⟨_, rfl⟩)) ?_
      refine gm_go_tr (gm_cV dX7_takesNumber_12 (ct_atDigit hP) rfl mt_X7_atDigit mv_X7_atDigit (lk_X7_86 rfl) (Or.inl ⟨_, 9, _, _, _, rfl, h1, rfl⟩) rfl (Nat.le_of_ble_eq_true rfl) (by decide)) ?_
      rw [hd]
      refine gm_go_tr (gi_if_eq_f 52 dX7_takesNumber_15 (by decide) (by decide) (by decide)) ?_
      refine gm_go_tr (gm_iload_n dX7_takesNumber_18 rfl) ?_
      refine gm_go_tr (gi_bipush dX7_takesNumber_19 (by decide +kernel)) ?_
      refine gm_go_tr (gi_mul dX7_takesNumber_21) ?_
      refine gm_go_tr (gm_aload_n dX7_takesNumber_22 rfl (by first | exact Or.inl ⟨_, rfl⟩ | exact Or.inr ⟨_, rfl⟩)) ?_
      refine gm_go_tr (gm_get dX7_takesNumber_23 (fl_X7_9 rfl) h1 rfl) ?_
      refine gm_go_tr (gm_aload_n dX7_takesNumber_26 rfl (by first | exact Or.inl ⟨_, rfl⟩ | exact Or.inr ⟨_, rfl⟩)) ?_
      refine gm_go_tr (gm_get dX7_takesNumber_27 (fl_X7_32 rfl) h1 rfl) ?_
      refine gm_go_tr (gi_cald dX7_takesNumber_30 h2 (by omega) (by omega) (by decide)) ?_
      rw [Int.toNat_natCast]
      refine gm_go_tr (gi_bipush dX7_takesNumber_31 (by decide +kernel)) ?_
      refine gm_go_tr (gi_sub dX7_takesNumber_33) ?_
      refine gm_go_tr (gi_add dX7_takesNumber_34) ?_
      refine gm_go_tr (gm_istore_n (ls' := [_, _, _, _, _]) dX7_takesNumber_35 (by decide) rfl) ?_
      refine gm_go_tr (gm_aload_n dX7_takesNumber_36 rfl (by first | exact Or.inl ⟨_, rfl⟩ | exact Or.inr ⟨_, rfl⟩)) ?_
      refine gm_go_tr (gm_dup dX7_takesNumber_37 rfl) ?_
      refine gm_go_tr (gm_get dX7_takesNumber_38 (fl_X7_32 rfl) h1 rfl) ?_
      refine gm_go_tr (gi_const dX7_takesNumber_41) ?_
      refine gm_go_tr (gi_add dX7_takesNumber_42) ?_
      refine gm_go_tr (gm_put dX7_takesNumber_43 (fp_X7_32 rfl) h1 (Nat.le_of_ble_eq_true rfl) (by first | exact ⟨rfl, rfl⟩ | exact trivial)) ?_
      refine gm_hq ha1 ?_
      refine gm_go_tr (gi_iinc (ls' := [_, _, _, _, _]) dX7_takesNumber_46 rfl (by decide) rfl) ?_
      refine gm_go_tr (gm_goto (tgt := 5) dX7_takesNumber_49 (by decide)) ?_
      exact e1
set_option maxRecDepth 4000 in
theorem ct_takesNumber {h : gm_H} {g L p w k : Nat} {X N : Nat → Int} (hP : pg_at h g X L p w N k) {mx : Nat} {f : Int} (hmx : mx ≤ 3) : ∃ h', gm_co mX7_takesNumber 2 [.ref g, .int (zI (mx : Nat)), .int (zI f)] h (.inl (some (.int (zI (zB (decide (zdn X L p mx ≠ 0 ∧ k < 3))))))) h' ∧ pg_at h' g X L (p + zdn X L p mx) w (if decide (zdn X L p mx ≠ 0 ∧ k < 3) = true then zU N k (zvl X p (zdn X L p mx) * f) else N) (if decide (zdn X L p mx ≠ 0 ∧ k < 3) = true then k + 1 else k) ∧ gh_fr h h' (pg_K g) := by
  have hle := zdn_le X L mx p
  obtain ⟨q, hgo, hQ, hF⟩ := tn_in (f := f) hmx mx 0 h (by omega) hP
  simp only [Nat.zero_add, Nat.add_zero] at hgo hQ
  obtain ⟨h1, h2, h3, hL, hp, hX, hk⟩ := id hQ
  generalize hn : zdn X L p mx = n at *
  by_cases c : n ≠ 0 ∧ k < 3
  ·
    rw [show decide (n ≠ 0 ∧ k < 3) = true from decide_eq_true c, if_pos rfl, if_pos rfl]
    obtain ⟨a1, ha1⟩ : ∃ x : gm_H, x = (q.1.set (g + 2) (gA 3 (zU N k (zvl X p n * f))), q.2) := ⟨_, rfl⟩
    have e1 : a1.1[g]? = some (pg_c g L (p + n) w k) := by rw [ha1]; exact gs_n h1 (by omega)
    have e2 : a1.1[g + 1]? = some (gC 60 X) := by rw [ha1]; exact gs_n h2 (by omega)
    have e3 : a1.1[g + 2]? = some (gA 3 (zU N k (zvl X p n * f))) := by rw [ha1]; exact gs_s h3
    obtain ⟨a2, ha2⟩ : ∃ x : gm_H, x = (a1.1.set g (pg_c g L (p + n) w (k + 1)), a1.2) := ⟨_, rfl⟩
    refine ⟨a2, ?_, by rw [ha2]; exact ⟨gs_s e1, gs_n e2 (by omega), gs_n e3 (by omega), hL, hp, hX, by omega⟩, by rw [ha2, ha1]; exact gh_set (gh_set hF ⟨by omega, by omega⟩ _) ⟨by omega, by omega⟩ _⟩
    refine gm_co_of _ (by decide +kernel) rfl (Nat.le_of_ble_eq_true rfl) rfl ?_
    refine gm_go.ru (gi_const dX7_takesNumber_0) ?_
    refine gm_go.ru (gm_istore_n (ls' := [_, _, _, _, _]) dX7_takesNumber_1 (by decide) rfl) ?_
    refine gm_go.ru (gi_const dX7_takesNumber_2) ?_
    refine gm_go.ru (gm_istore (ls' := [_, _, _, _, _]) dX7_takesNumber_3 (by decide) rfl) ?_
    refine gm_go.ru hgo ?_
    refine gm_go.ru (gm_iload dX7_takesNumber_52 rfl) ?_
    refine gm_go.ru (gi_if_eq_f 65 dX7_takesNumber_54 (by decide) (by omega) (by omega)) ?_
    refine gm_go.ru (gm_aload_n dX7_takesNumber_57 rfl (by first | exact Or.inl ⟨_, rfl⟩ | exact Or.inr ⟨_, rfl⟩)) ?_
    refine gm_go.ru (gm_get dX7_takesNumber_58 (fl_X7_67 rfl) h1 rfl) ?_
    refine gm_go.ru (gi_const dX7_takesNumber_61) ?_
    refine gm_go.ru (gi_icmp_lt_t (tgt := 67) dX7_takesNumber_62 (by decide) (by omega) (by omega) (by omega)) ?_
    refine gm_go.ru (gm_aload_n dX7_takesNumber_67 rfl (by first | exact Or.inl ⟨_, rfl⟩ | exact Or.inr ⟨_, rfl⟩)) ?_
    refine gm_go.ru (gm_get dX7_takesNumber_68 (fl_X7_24 rfl) h1 rfl) ?_
    refine gm_go.ru (gm_aload_n dX7_takesNumber_71 rfl (by first | exact Or.inl ⟨_, rfl⟩ | exact Or.inr ⟨_, rfl⟩)) ?_
    refine gm_go.ru (gm_get dX7_takesNumber_72 (fl_X7_67 rfl) h1 rfl) ?_
    refine gm_go.ru (gm_iload_n dX7_takesNumber_75 rfl) ?_
    refine gm_go.ru (gm_iload_n dX7_takesNumber_76 rfl) ?_
    refine gm_go.ru (gi_mul dX7_takesNumber_77) ?_
    refine gm_go.ru (gi_ast dX7_takesNumber_78 h3 (by omega) (by omega) (by decide)) ?_
    refine gm_hp ha1 ?_
    refine gm_go.ru (gm_aload_n dX7_takesNumber_79 rfl (by first | exact Or.inl ⟨_, rfl⟩ | exact Or.inr ⟨_, rfl⟩)) ?_
    refine gm_go.ru (gm_dup dX7_takesNumber_80 rfl) ?_
    refine gm_go.ru (gm_get dX7_takesNumber_81 (fl_X7_67 rfl) e1 rfl) ?_
    refine gm_go.ru (gi_const dX7_takesNumber_84) ?_
    refine gm_go.ru (gi_add dX7_takesNumber_85) ?_
    refine gm_go.ru (gm_put dX7_takesNumber_86 (fp_X7_67 rfl) e1 (Nat.le_of_ble_eq_true rfl) (by first | exact ⟨rfl, rfl⟩ | exact trivial)) ?_
    refine gm_hp ha2 ?_
    refine gm_go.ru (gi_const dX7_takesNumber_89) ?_
    exact gm_zret' dX7_takesNumber_90 rfl rfl
  ·
    rw [show decide (n ≠ 0 ∧ k < 3) = false from decide_eq_false c, if_neg (by decide), if_neg (by decide)]
    refine ⟨q, ?_, hQ, hF⟩
    refine gm_co_of _ (by decide +kernel) rfl (Nat.le_of_ble_eq_true rfl) rfl ?_
    refine gm_go.ru (gi_const dX7_takesNumber_0) ?_
    refine gm_go.ru (gm_istore_n (ls' := [_, _, _, _, _]) dX7_takesNumber_1 (by decide) rfl) ?_
    refine gm_go.ru (gi_const dX7_takesNumber_2) ?_
    refine gm_go.ru (gm_istore (ls' := [_, _, _, _, _]) dX7_takesNumber_3 (by decide) rfl) ?_
    refine gm_go.ru hgo ?_
    by_cases c0 : n = 0
    ·
      refine gm_go.ru (gm_iload dX7_takesNumber_52 rfl) ?_
      refine gm_go.ru (gi_if_eq_t (tgt := 65) dX7_takesNumber_54 (by decide) (by omega) (by omega)) ?_
      refine gm_go.ru (gi_const dX7_takesNumber_65) ?_
      exact gm_zret' dX7_takesNumber_66 rfl rfl
    ·
      refine gm_go.ru (gm_iload dX7_takesNumber_52 rfl) ?_
      refine gm_go.ru (gi_if_eq_f 65 dX7_takesNumber_54 (by decide) (by omega) (by omega)) ?_
      refine gm_go.ru (gm_aload_n dX7_takesNumber_57 rfl (by first | exact Or.inl ⟨_, rfl⟩ | exact Or.inr ⟨_, rfl⟩)) ?_
      refine gm_go.ru (gm_get dX7_takesNumber_58 (fl_X7_67 rfl) h1 rfl) ?_
      refine gm_go.ru (gi_const dX7_takesNumber_61) ?_
      refine gm_go.ru (gi_icmp_lt_f 67 dX7_takesNumber_62 (by decide) (by omega) (by omega) (by omega)) ?_
      refine gm_go.ru (gi_const dX7_takesNumber_65) ?_
      exact gm_zret' dX7_takesNumber_66 rfl rfl
/-- the reading of a form: where it stands, the numbers, how many -/
abbrev zPS : Type := Nat × ((Nat → Int) × Nat)
def zNum (X : Nat → Int) (L mx : Nat) (f : Int) (s : zPS) : Bool × zPS := if zdn X L s.1 mx ≠ 0 ∧ s.2.2 < 3 then (true, (s.1 + zdn X L s.1 mx, (zU s.2.1 s.2.2 (zvl X s.1 (zdn X L s.1 mx) * f), s.2.2 + 1))) else (false, (s.1 + zdn X L s.1 mx, (s.2.1, s.2.2)))
def zSig (X : Nat → Int) (L : Nat) (c : Int) (s : zPS) : Bool × zPS := if zsg X L s.1 c = true then (true, (s.1 + 1, s.2)) else (false, s)
def zPart (X : Nat → Int) (L : Nat) (c : Int) (s : zPS) : Bool × zPS := if c = 68 then zNum X L 1 1 s else if c = 78 then zNum X L 3 1 s else if c = 71 then (if zsg X L s.1 45 = true then zNum X L 3 (-1) (s.1 + 1, s.2) else zNum X L 3 1 s) else zSig X L c s
def pg_st (h : gm_H) (g : Nat) (X : Nat → Int) (L w : Nat) (s : zPS) : Prop := pg_at h g X L s.1 w s.2.1 s.2.2
theorem ct_num {h : gm_H} {g L w : Nat} {X : Nat → Int} {s : zPS} (hP : pg_st h g X L w s) {mx : Nat} {f : Int} (hmx : mx ≤ 3) : ∃ h', gm_co mX7_takesNumber 2 [.ref g, .int (zI (mx : Nat)), .int (zI f)] h (.inl (some (.int (zI (zB (zNum X L mx f s).1))))) h' ∧ pg_st h' g X L w (zNum X L mx f s).2 ∧ gh_fr h h' (pg_K g) := by
  obtain ⟨h', h1, h2, h3⟩ := ct_takesNumber (f := f) hP hmx
  refine ⟨h', ?_, ?_, h3⟩
  · unfold zNum
    by_cases c : zdn X L s.1 mx ≠ 0 ∧ s.2.2 < 3
    · rw [if_pos c]; rw [decide_eq_true c] at h1; exact h1
    · rw [if_neg c]; rw [decide_eq_false c] at h1; exact h1
  · unfold zNum pg_st
    by_cases c : zdn X L s.1 mx ≠ 0 ∧ s.2.2 < 3
    · rw [if_pos c]; rw [decide_eq_true c, if_pos rfl, if_pos rfl] at h2; exact h2
    · rw [if_neg c]; rw [decide_eq_false c, if_neg (by decide), if_neg (by decide)] at h2; exact h2
theorem ct_sig {h : gm_H} {g L w : Nat} {X : Nat → Int} {s : zPS} (hP : pg_st h g X L w s) {c : Int} (hc : zR c) : ∃ h', gm_co mX7_takesSign 1 [.ref g, .int (zI c)] h (.inl (some (.int (zI (zB (zsg X L s.1 c)))))) h' ∧ pg_st h' g X L w (zSig X L c s).2 ∧ gh_fr h h' (pg_K g) := by
  obtain ⟨h', h1, h2, h3⟩ := ct_takesSign hP hc
  refine ⟨h', h1, ?_, h3⟩
  unfold zSig pg_st
  by_cases e : zsg X L s.1 c = true
  · rw [if_pos e]; rw [if_pos e] at h2; exact h2
  · rw [if_neg e]; rw [if_neg e] at h2; exact h2
theorem zSig_1 {X : Nat → Int} {L : Nat} {c : Int} {s : zPS} : (zSig X L c s).1 = zsg X L s.1 c := by
  unfold zSig
  cases zsg X L s.1 c <;> rfl
theorem zLk (c : Int) (h1 : ¬ c = 68) (h2 : ¬ c = 78) (h3 : ¬ c = 71) : Op.lookupswitch.offset [(68, 35), (71, 49), (78, 42)] 69 c = 69 := by
  simp [Op.lookupswitch.offset, Ne.symm h1, Ne.symm h2, Ne.symm h3, h1, h2, h3]
set_option maxRecDepth 4000 in
theorem ct_takesPart {h : gm_H} {g L w : Nat} {X : Nat → Int} {s : zPS} (hP : pg_st h g X L w s) {c : Int} (hc : 0 ≤ c ∧ c ≤ 127) : ∃ h', gm_co mX7_takesPart 3 [.ref g, .int (zI c)] h (.inl (some (.int (zI (zB (zPart X L c s).1))))) h' ∧ pg_st h' g X L w (zPart X L c s).2 ∧ gh_fr h h' (pg_K g) := by
  obtain ⟨h1, hr⟩ := id hP
  unfold zPart
  by_cases c1 : c = 68
  ·
    subst c1
    rw [if_pos rfl]
    obtain ⟨h', e1, e2, e3⟩ := ct_num (f := 1) hP (show 1 ≤ 3 by omega)
    refine ⟨h', ?_, e2, e3⟩
    refine gm_co_of _ (by decide +kernel) rfl (Nat.le_of_ble_eq_true rfl) rfl ?_
    refine gm_go.ru (gm_iload_n dX7_takesPart_0 rfl) ?_
    refine gm_go.ru (gm_lookup (tgt := 36) (off := 35) dX7_takesPart_1 (by decide) (by decide +kernel) (by decide)) ?_
    refine gm_go.ru (gm_aload_n dX7_takesPart_36 rfl (by first | exact Or.inl ⟨_, rfl⟩ | exact Or.inr ⟨_, rfl⟩)) ?_
    refine gm_go.ru (gi_const dX7_takesPart_37) ?_
    refine gm_go.ru (gi_const dX7_takesPart_38) ?_
    refine gm_go.ru (gm_cV dX7_takesPart_39 (e1) rfl mt_X7_takesNumber mv_X7_takesNumber (lk_X7_82 rfl) (Or.inl ⟨_, 9, _, _, _, rfl, h1, rfl⟩) rfl (Nat.le_of_ble_eq_true rfl) (by decide)) ?_
    exact gm_zret' dX7_takesPart_42 rfl rfl
  ·
    rw [if_neg c1]
    by_cases c2 : c = 78
    ·
      subst c2
      rw [if_pos rfl]
      obtain ⟨h', e1, e2, e3⟩ := ct_num (f := 1) hP (show 3 ≤ 3 by omega)
      refine ⟨h', ?_, e2, e3⟩
      refine gm_co_of _ (by decide +kernel) rfl (Nat.le_of_ble_eq_true rfl) rfl ?_
      refine gm_go.ru (gm_iload_n dX7_takesPart_0 rfl) ?_
      refine gm_go.ru (gm_lookup (tgt := 43) (off := 42) dX7_takesPart_1 (by decide) (by decide +kernel) (by decide)) ?_
      refine gm_go.ru (gm_aload_n dX7_takesPart_43 rfl (by first | exact Or.inl ⟨_, rfl⟩ | exact Or.inr ⟨_, rfl⟩)) ?_
      refine gm_go.ru (gi_const dX7_takesPart_44) ?_
      refine gm_go.ru (gi_const dX7_takesPart_45) ?_
      refine gm_go.ru (gm_cV dX7_takesPart_46 (e1) rfl mt_X7_takesNumber mv_X7_takesNumber (lk_X7_82 rfl) (Or.inl ⟨_, 9, _, _, _, rfl, h1, rfl⟩) rfl (Nat.le_of_ble_eq_true rfl) (by decide)) ?_
      exact gm_zret' dX7_takesPart_49 rfl rfl
    ·
      rw [if_neg c2]
      by_cases c3 : c = 71
      ·
        subst c3
        rw [if_pos rfl]
        obtain ⟨q, g1, g2, g3⟩ := ct_sig hP (c := 45) (by omega)
        unfold zSig at g2
        cases hs : zsg X L s.1 45
        ·
          rw [hs, if_neg (by decide)] at g2
          rw [if_neg (by decide)]
          obtain ⟨h1q, hrq⟩ := id g2
          obtain ⟨h', e1, e2, e3⟩ := ct_num (f := 1) g2 (show 3 ≤ 3 by omega)
          refine ⟨h', ?_, e2, gh_tr g3 e3⟩
          refine gm_co_of _ (by decide +kernel) rfl (Nat.le_of_ble_eq_true rfl) rfl ?_
          rw [hs] at g1
          refine gm_go.ru (gm_iload_n dX7_takesPart_0 rfl) ?_
          refine gm_go.ru (gm_lookup (tgt := 50) (off := 49) dX7_takesPart_1 (by decide) (by decide +kernel) (by decide)) ?_
          refine gm_go.ru (gm_aload_n dX7_takesPart_50 rfl (by first | exact Or.inl ⟨_, rfl⟩ | exact Or.inr ⟨_, rfl⟩)) ?_
          refine gm_go.ru (gi_const dX7_takesPart_51) ?_
          refine gm_go.ru (gm_aload_n dX7_takesPart_52 rfl (by first | exact Or.inl ⟨_, rfl⟩ | exact Or.inr ⟨_, rfl⟩)) ?_
          refine gm_go.ru (gi_bipush dX7_takesPart_53 (by decide +kernel)) ?_
          refine gm_go.ru (gm_cV dX7_takesPart_55 (g1) rfl mt_X7_takesSign mv_X7_takesSign (lk_X7_39 rfl) (Or.inl ⟨_, 9, _, _, _, rfl, h1, rfl⟩) rfl (Nat.le_of_ble_eq_true rfl) (by decide)) ?_
          refine gm_go.ru (gi_if_eq_t (tgt := 65) dX7_takesPart_58 (by decide) (by decide) rfl) ?_
          refine gm_go.ru (gi_const dX7_takesPart_65) ?_
          refine gm_go.ru (gm_cV dX7_takesPart_66 (e1) rfl mt_X7_takesNumber mv_X7_takesNumber (lk_X7_82 rfl) (Or.inl ⟨_, 9, _, _, _, rfl, h1q, rfl⟩) rfl (Nat.le_of_ble_eq_true rfl) (by decide)) ?_
          exact gm_zret' dX7_takesPart_69 rfl rfl
        ·
          rw [hs, if_pos (by decide)] at g2
          rw [if_pos (by decide)]
          obtain ⟨h1q, hrq⟩ := id g2
          obtain ⟨h', e1, e2, e3⟩ := ct_num (f := -1) g2 (show 3 ≤ 3 by omega)
          refine ⟨h', ?_, e2, gh_tr g3 e3⟩
          refine gm_co_of _ (by decide +kernel) rfl (Nat.le_of_ble_eq_true rfl) rfl ?_
          rw [hs] at g1
          refine gm_go.ru (gm_iload_n dX7_takesPart_0 rfl) ?_
          refine gm_go.ru (gm_lookup (tgt := 50) (off := 49) dX7_takesPart_1 (by decide) (by decide +kernel) (by decide)) ?_
          refine gm_go.ru (gm_aload_n dX7_takesPart_50 rfl (by first | exact Or.inl ⟨_, rfl⟩ | exact Or.inr ⟨_, rfl⟩)) ?_
          refine gm_go.ru (gi_const dX7_takesPart_51) ?_
          refine gm_go.ru (gm_aload_n dX7_takesPart_52 rfl (by first | exact Or.inl ⟨_, rfl⟩ | exact Or.inr ⟨_, rfl⟩)) ?_
          refine gm_go.ru (gi_bipush dX7_takesPart_53 (by decide +kernel)) ?_
          refine gm_go.ru (gm_cV dX7_takesPart_55 (g1) rfl mt_X7_takesSign mv_X7_takesSign (lk_X7_39 rfl) (Or.inl ⟨_, 9, _, _, _, rfl, h1, rfl⟩) rfl (Nat.le_of_ble_eq_true rfl) (by decide)) ?_
          refine gm_go.ru (gi_if_eq_f 65 dX7_takesPart_58 (by decide) (by decide) (by decide)) ?_
          refine gm_go.ru (gi_const dX7_takesPart_61) ?_
          refine gm_go.ru (gm_goto (tgt := 66) dX7_takesPart_62 (by decide)) ?_
          refine gm_go.ru (gm_cV dX7_takesPart_66 (e1) rfl mt_X7_takesNumber mv_X7_takesNumber (lk_X7_82 rfl) (Or.inl ⟨_, 9, _, _, _, rfl, h1q, rfl⟩) rfl (Nat.le_of_ble_eq_true rfl) (by decide)) ?_
          exact gm_zret' dX7_takesPart_69 rfl rfl
      ·
        rw [if_neg c3]
        obtain ⟨h', e1, e2, e3⟩ := ct_sig hP (c := c) (by omega)
        refine ⟨h', ?_, e2, e3⟩
        rw [zSig_1]
        refine gm_co_of _ (by decide +kernel) rfl (Nat.le_of_ble_eq_true rfl) rfl ?_
        have hsw : Op.lookupswitch.offset [(68, 35), (71, 49), (78, 42)] 69 (zI c).toInt = 69 := by rw [zI_toInt (by omega)]; exact zLk c c1 c2 c3
        refine gm_go.ru (gm_iload_n dX7_takesPart_0 rfl) ?_
        refine gm_go.ru (gm_lookup (tgt := 70) (off := 69) dX7_takesPart_1 (by decide) hsw (by decide)) ?_
        refine gm_go.ru (gm_aload_n dX7_takesPart_70 rfl (by first | exact Or.inl ⟨_, rfl⟩ | exact Or.inr ⟨_, rfl⟩)) ?_
        refine gm_go.ru (gm_iload_n dX7_takesPart_71 rfl) ?_
        refine gm_go.ru (gm_cV dX7_takesPart_72 (e1) rfl mt_X7_takesSign mv_X7_takesSign (lk_X7_39 rfl) (Or.inl ⟨_, 9, _, _, _, rfl, h1, rfl⟩) rfl (Nat.le_of_ble_eq_true rfl) (by decide)) ?_
        exact gm_zret' dX7_takesPart_75 rfl rfl
