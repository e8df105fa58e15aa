theorem gi_kc {M : gm_M} {d pc : Nat} {ls : List (Option Value)} {st : List Value} {h : gm_H} {w : Nat} (hd : decode M.2.1 pc = .ok (.aaload, 1)) (hw : w < 10) : gm_go M d (pc, ls, .int (zI (w : Int)) :: .retAddr 17 :: st, h) (pc + 1, ls, .retAddr (7 + w) :: st, h) := by
  have h0 : (zI (w : Int)).toNatClampNeg = w := by rw [zI_cl (by omega)]; omega
  have h1 := gm_kq (M := M) (d := d) (ls := ls) (st := st) (h := h) (k := 17) (n := 10) (f := fun j => Value.retAddr (7 + j)) (Cn := "NeedleBakery$Change") (i := zI (w : Int)) hd (List.mem_cons_self ..) (zI_in (a := (w : Int)) (by omega) (by omega) (by decide)) rfl
  rw [h0] at h1
  exact h1
/-- the first form from w on that can be followed from p on; else how far one could -/
def zRd (X : Nat → Int) (L p : Nat) : Nat → Nat → Nat → zPS → Nat → Bool × (Nat × zPS)
  | 0, _, w0, s, fur => (false, (w0, (fur, s.2)))
  | m + 1, w, w0, s, fur => if (zFol X L (zForm w) (p, (zN0 s.2.1, 0))).1 = true then (true, (w, (zFol X L (zForm w) (p, (zN0 s.2.1, 0))).2)) else zRd X L p m (w + 1) w0 (zFol X L (zForm w) (p, (zN0 s.2.1, 0))).2 (max fur (zFol X L (zForm w) (p, (zN0 s.2.1, 0))).2.1)
set_option maxRecDepth 4000 in
theorem rd_in {g L p w0 : Nat} {X : Nat → Int} (hp : p ≤ 61) : ∀ (m w : Nat) (s : zPS) (fur : Nat) (h : gm_H), w + m = 10 → pg_st h g X L w0 s → fur ≤ 61 → ∃ h', gm_ru mX7_readsCommand 6 (9, [some (.ref g), some (.int (zI (p : Int))), some (.int (zI (fur : Int))), some (.int (zI (w : Int)))], [], h) (.inl (some (.int (zI (zB (zRd X L p m w w0 s fur).1))))) h' ∧ pg_st h' g X L (zRd X L p m w w0 s fur).2.1 (zRd X L p m w w0 s fur).2.2 ∧ gh_fr h h' (pg_K g) := by
  intro m
  induction m with
  | zero =>
    intro w s fur h hm hP hf
    obtain rfl : w = 10 := by omega
    obtain ⟨h1, h2, h3, hL, hp9, hX, hk⟩ := id hP
    obtain ⟨a1, ha1⟩ : ∃ x : gm_H, x = (h.1.set g (pg_c g L fur w0 s.2.2), h.2) := ⟨_, rfl⟩
    refine ⟨a1, ?_, by rw [ha1]; exact pg_set hP L fur w0 s.2.2 hL hf hX hk, by rw [ha1]; exact gh_set gh_rf ⟨by omega, by omega⟩ _⟩
    refine gm_go.ru (gm_iload_n dX7_readsCommand_9 rfl) ?_
    refine gm_go.ru (gm_gets (v := .retAddr 17) dX7_readsCommand_10 (by decide +kernel) (sl_X7_43 rfl) rfl) ?_
    refine gm_go.ru (gm_klen (x := zI 10) dX7_readsCommand_13 (List.mem_cons_self ..) rfl) ?_
    refine gm_go.ru (gi_icmp_ge_t (tgt := 63) dX7_readsCommand_14 (by decide) (by omega) (by omega) (by omega)) ?_
    refine gm_go.ru (gm_aload_n dX7_readsCommand_63 rfl (by first | exact Or.inl ⟨_, rfl⟩ | exact Or.inr ⟨_, rfl⟩)) ?_
    refine gm_go.ru (gm_iload_n dX7_readsCommand_64 rfl) ?_
    refine gm_go.ru (gm_put dX7_readsCommand_65 (fp_X7_32 rfl) h1 (Nat.le_of_ble_eq_true rfl) (by first | exact ⟨rfl, rfl⟩ | exact trivial)) ?_
    refine gm_hp ha1 ?_
    refine gm_go.ru (gi_const dX7_readsCommand_68) ?_
    exact gm_zret' dX7_readsCommand_69 rfl rfl
  | succ m ih =>
    intro w s fur h hm hP hf
    obtain ⟨h1, h2, h3, hL, hp9, hX, hk⟩ := id hP
    obtain ⟨a1, ha1⟩ : ∃ x : gm_H, x = (h.1.set g (pg_c g L p w0 s.2.2), h.2) := ⟨_, rfl⟩
    have hP1 : pg_at a1 g X L p w0 s.2.1 s.2.2 := by rw [ha1]; exact pg_set hP L p w0 s.2.2 hL hp hX hk
    have hF1 : gh_fr h a1 (pg_K g) := by rw [ha1]; exact gh_set gh_rf ⟨by omega, by omega⟩ _
    obtain ⟨a2, c1, c2, c3⟩ := ct_follows hP1 (ks_form (w := w) (by omega)) (ks_f6 w (by omega))
    rw [zRd]
    generalize hr : zFol X L (zForm w) (p, (zN0 s.2.1, 0)) = r at *
    have g1 := hP1.1
    obtain ⟨k1, k2, k3, kL, kp, kX, kk⟩ := id c2
    cases hb : r.1
    ·
      rw [if_neg (by decide)]
      obtain ⟨h', e1, e2, e3⟩ := ih (w + 1) r.2 (max fur r.2.1) a2 (by omega) c2 (by omega)
      refine ⟨h', ?_, e2, gh_tr hF1 (gh_tr c3 e3)⟩
      refine gm_go.ru (gm_iload_n dX7_readsCommand_9 rfl) ?_
      refine gm_go.ru (gm_gets (v := .retAddr 17) dX7_readsCommand_10 (by decide +kernel) (sl_X7_43 rfl) rfl) ?_
      refine gm_go.ru (gm_klen (x := zI 10) dX7_readsCommand_13 (List.mem_cons_self ..) rfl) ?_
      refine gm_go.ru (gi_icmp_ge_f 63 dX7_readsCommand_14 (by decide) (by omega) (by omega) (by omega)) ?_
      refine gm_go.ru (gm_aload_n dX7_readsCommand_17 rfl (by first | exact Or.inl ⟨_, rfl⟩ | exact Or.inr ⟨_, rfl⟩)) ?_
      refine gm_go.ru (gm_iload_n dX7_readsCommand_18 rfl) ?_
      refine gm_go.ru (gm_put dX7_readsCommand_19 (fp_X7_32 rfl) h1 (Nat.le_of_ble_eq_true rfl) (by first | exact ⟨rfl, rfl⟩ | exact trivial)) ?_
      refine gm_hp ha1 ?_
      refine gm_go.ru (gm_aload_n dX7_readsCommand_22 rfl (by first | exact Or.inl ⟨_, rfl⟩ | exact Or.inr ⟨_, rfl⟩)) ?_
      refine gm_go.ru (gm_gets (v := .retAddr 17) dX7_readsCommand_23 (by decide +kernel) (sl_X7_43 rfl) rfl) ?_
      refine gm_go.ru (gm_iload_n dX7_readsCommand_26 rfl) ?_
      refine gm_go.ru (gi_kc dX7_readsCommand_27 (by omega)) ?_
      refine gm_go.ru (gm_getk dX7_readsCommand_28 (ks_f7 w (by omega)) (sl_X7_47 rfl) rfl) ?_
      refine gm_go.ru (gm_cV dX7_readsCommand_31 (c1) rfl mt_X7_follows mv_X7_follows (lk_X7_51 rfl) (Or.inl ⟨_, 9, _, _, _, rfl, g1, rfl⟩) rfl (Nat.le_of_ble_eq_true rfl) (by decide)) ?_
      rw [hb]
      refine gm_go.ru (gi_if_eq_t (tgt := 48) dX7_readsCommand_34 (by decide) (by decide) rfl) ?_
      refine gm_go.ru (gm_iload_n dX7_readsCommand_48 rfl) ?_
      refine gm_go.ru (gm_aload_n dX7_readsCommand_49 rfl (by first | exact Or.inl ⟨_, rfl⟩ | exact Or.inr ⟨_, rfl⟩)) ?_
      refine gm_go.ru (gm_get dX7_readsCommand_50 (fl_X7_32 rfl) k1 rfl) ?_
      refine gm_go.ru (gm_cS dX7_readsCommand_53 (ct_max (by omega) (by omega)) rfl mt_J9_max_7cf53 ms_J9_max_7cf53 (lk_X7_55 rfl) rfl (Nat.le_of_ble_eq_true rfl) (by decide)) ?_
      refine gm_go.ru (gm_istore_n (ls' := [_, _, _, _]) dX7_readsCommand_56 (by decide) rfl) ?_
      refine gm_go.ru (gi_iinc (ls' := [_, _, _, _]) dX7_readsCommand_57 rfl (by decide) rfl) ?_
      rw [show max (fur : Int) (r.2.1 : Int) = ((max fur r.2.1 : Nat) : Int) by omega]
      refine gm_go.ru (gm_goto (tgt := 9) dX7_readsCommand_60 (by decide)) ?_
      exact e1
    ·
      rw [if_pos rfl]
      obtain ⟨a3, ha3⟩ : ∃ x : gm_H, x = (a2.1.set g (pg_c g L r.2.1 w r.2.2.2), a2.2) := ⟨_, rfl⟩
      refine ⟨a3, ?_, by rw [ha3]; exact pg_set c2 L r.2.1 w r.2.2.2 kL kp kX kk, by rw [ha3]; exact gh_set (gh_tr hF1 c3) ⟨by omega, by omega⟩ _⟩
      refine gm_go.ru (gm_iload_n dX7_readsCommand_9 rfl) ?_
      refine gm_go.ru (gm_gets (v := .retAddr 17) dX7_readsCommand_10 (by decide +kernel) (sl_X7_43 rfl) rfl) ?_
      refine gm_go.ru (gm_klen (x := zI 10) dX7_readsCommand_13 (List.mem_cons_self ..) rfl) ?_
      refine gm_go.ru (gi_icmp_ge_f 63 dX7_readsCommand_14 (by decide) (by omega) (by omega) (by omega)) ?_
      refine gm_go.ru (gm_aload_n dX7_readsCommand_17 rfl (by first | exact Or.inl ⟨_, rfl⟩ | exact Or.inr ⟨_, rfl⟩)) ?_
      refine gm_go.ru (gm_iload_n dX7_readsCommand_18 rfl) ?_
      refine gm_go.ru (gm_put dX7_readsCommand_19 (fp_X7_32 rfl) h1 (Nat.le_of_ble_eq_true rfl) (by first | exact ⟨rfl, rfl⟩ | exact trivial)) ?_
      refine gm_hp ha1 ?_
      refine gm_go.ru (gm_aload_n dX7_readsCommand_22 rfl (by first | exact Or.inl ⟨_, rfl⟩ | exact Or.inr ⟨_, rfl⟩)) ?_
      refine gm_go.ru (gm_gets (v := .retAddr 17) dX7_readsCommand_23 (by decide +kernel) (sl_X7_43 rfl) rfl) ?_
      refine gm_go.ru (gm_iload_n dX7_readsCommand_26 rfl) ?_
      refine gm_go.ru (gi_kc dX7_readsCommand_27 (by omega)) ?_
      refine gm_go.ru (gm_getk dX7_readsCommand_28 (ks_f7 w (by omega)) (sl_X7_47 rfl) rfl) ?_
      refine gm_go.ru (gm_cV dX7_readsCommand_31 (c1) rfl mt_X7_follows mv_X7_follows (lk_X7_51 rfl) (Or.inl ⟨_, 9, _, _, _, rfl, g1, rfl⟩) rfl (Nat.le_of_ble_eq_true rfl) (by decide)) ?_
      rw [hb]
      refine gm_go.ru (gi_if_eq_f 48 dX7_readsCommand_34 (by decide) (by decide) (by decide)) ?_
      refine gm_go.ru (gm_aload_n dX7_readsCommand_37 rfl (by first | exact Or.inl ⟨_, rfl⟩ | exact Or.inr ⟨_, rfl⟩)) ?_
      refine gm_go.ru (gm_gets (v := .retAddr 17) dX7_readsCommand_38 (by decide +kernel) (sl_X7_43 rfl) rfl) ?_
      refine gm_go.ru (gm_iload_n dX7_readsCommand_41 rfl) ?_
      refine gm_go.ru (gi_kc dX7_readsCommand_42 (by omega)) ?_
      refine gm_go.ru (gm_put dX7_readsCommand_43 (fp_X7_21 rfl) k1 (Nat.le_of_ble_eq_true rfl) (by first | exact ⟨rfl, rfl⟩ | exact trivial)) ?_
      refine gm_hp ha3 ?_
      refine gm_go.ru (gi_const dX7_readsCommand_46) ?_
      exact gm_zret' dX7_readsCommand_47 rfl rfl
/-- a command from where it stands -/
def zRc (X : Nat → Int) (L w0 : Nat) (s : zPS) : Bool × (Nat × zPS) := zRd X L s.1 10 0 w0 s s.1
set_option maxRecDepth 4000 in
theorem ct_readsCommand {h : gm_H} {g L w0 : Nat} {X : Nat → Int} {s : zPS} (hP : pg_st h g X L w0 s) : ∃ h', gm_co mX7_readsCommand 6 [.ref g] h (.inl (some (.int (zI (zB (zRc X L w0 s).1))))) h' ∧ pg_st h' g X L (zRc X L w0 s).2.1 (zRc X L w0 s).2.2 ∧ gh_fr h h' (pg_K g) := by
  obtain ⟨h1, h2, h3, hL, hp9, hX, hk⟩ := id hP
  obtain ⟨h', e1, e2, e3⟩ := rd_in hp9 10 0 s s.1 h rfl hP hp9
  refine ⟨h', ?_, e2, e3⟩
  refine gm_co_of _ (by decide +kernel) rfl (Nat.le_of_ble_eq_true rfl) rfl ?_
  refine gm_go.ru (gm_aload_n dX7_readsCommand_0 rfl (by first | exact Or.inl ⟨_, rfl⟩ | exact Or.inr ⟨_, rfl⟩)) ?_
  refine gm_go.ru (gm_get dX7_readsCommand_1 (fl_X7_32 rfl) h1 rfl) ?_
  refine gm_go.ru (gm_istore_n (ls' := [_, _, _, _]) dX7_readsCommand_4 (by decide) rfl) ?_
  refine gm_go.ru (gm_iload_n dX7_readsCommand_5 rfl) ?_
  refine gm_go.ru (gm_istore_n (ls' := [_, _, _, _]) dX7_readsCommand_6 (by decide) rfl) ?_
  refine gm_go.ru (gi_const dX7_readsCommand_7) ?_
  refine gm_go.ru (gm_istore_n (ls' := [_, _, _, _]) dX7_readsCommand_8 (by decide) rfl) ?_
  exact e1
