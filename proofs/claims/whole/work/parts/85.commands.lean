def mt_at (h : gm_H) (m : Nat) (X : Nat → Int) : Prop := h.1[m + 8]? = some (gA 60 X) ∧ (∃ G, h.1[m + 10]? = some (gA 10 G)) ∧ h.1[m + 11]? = some (gA 60 zWo) ∧ h.1[m + 12]? = some (gA 11 zWa)
def mt_K (m : Nat) : Nat → Prop := fun k => k = m ∨ k = m + 10
theorem mt_fr {h h' : gm_H} {m : Nat} {X : Nat → Int} {K : Nat → Prop} (f : gh_fr h h' K) (h8 : ¬ K (m + 8)) (h10 : ¬ K (m + 10)) (h11 : ¬ K (m + 11)) (h12 : ¬ K (m + 12)) (hT : mt_at h m X) : mt_at h' m X :=
  ⟨gh_at f hT.1 h8, hT.2.1.imp fun _ z => gh_at f z h10, gh_at f hT.2.2.1 h11, gh_at f hT.2.2.2 h12⟩
theorem mt_fr2 {h h' : gm_H} {m : Nat} {X G : Nat → Int} (f : gh_fr h h' (mt_K m)) (hG : h'.1[m + 10]? = some (gA 10 G)) (hT : mt_at h m X) : mt_at h' m X :=
  ⟨gh_at f hT.1 (fun z => by rcases z with z | z <;> omega), ⟨G, hG⟩, gh_at f hT.2.2.1 (fun z => by rcases z with z | z <;> omega), gh_at f hT.2.2.2 (fun z => by rcases z with z | z <;> omega)⟩
theorem zMC_w {X : Nat → Int} {L p : Nat} (c : ¬ (zWs X L p 9 0).1 < 0) : zMC X L p = ((zWs X L p 9 0).1.toNat, zMr X L (zWs X L p 9 0).1.toNat (zWs X L p 9 0).2) := by unfold zMC; rw [if_neg c]
theorem zMC_x {X : Nat → Int} {L p : Nat} (c : (zWs X L p 9 0).1 < 0) : zMC X L p = (0, ((0, (0, 0)), ((zWs X L p 9 0).2, true))) := by unfold zMC; rw [if_pos c]
theorem zMC_ok {X : Nat → Int} {L p : Nat} (h : (zMC X L p).2.2.2 = false) : (zMC X L p).1 < 10 ∧ p < (zMC X L p).2.2.1 ∧ (zMC X L p).2.2.1 ≤ L ∧ zR (zMC X L p).2.1.1 ∧ zR (zMC X L p).2.1.2.1 ∧ zR (zMC X L p).2.1.2.2 := by
  obtain ⟨a1, a2, a3⟩ := zMC_R (X := X) (L := L) 0 (p, (fun _ => 0, 0))
  dsimp only at a1 a2 a3
  rw [h] at a1
  obtain ⟨b1, b2, b3, b4⟩ := a3 h
  obtain ⟨r1, r2, r3, r4⟩ := zRc_ok a1
  have n0 := r4 0 (by decide)
  have n1 := r4 1 (by decide)
  have n2 := r4 2 (by decide)
  rw [b2] at n0
  rw [b3] at n1
  rw [b4] at n2
  rw [b1] at r1
  rw [a2] at r2 r3
  exact ⟨r1, r2, r3, by omega, by omega, by omega⟩
set_option maxRecDepth 4000 in
theorem ct_mCmdR {h : gm_H} {m p L : Nat} {K X : Nat → Int} (hM : h.1[m]? = some (md_c m K)) (hT : mt_at h m X) (hp : K 18 = (p : Int)) (hL : K 19 = (L : Int)) (ht : zTx X L) (hp9 : p ≤ 60) (hw : K 21 = 0) (hd : (zMC X L p).2.2.2 = true ∨ K 22 = 0) : ∃ h' K', gm_co mX11_command 7 [.ref m] h (.inl none) h' ∧ h'.1[m]? = some (md_c m K') ∧ mt_at h' m X ∧ kp K K' (zMC X L p).2.2.1 (zMC X L p).2.2.2 ∧ gh_fr h h' (mt_K m) := by
  obtain ⟨hX, ⟨G, hG⟩, hWo, hWa⟩ := id hT
  have hL60 := ht.1
  obtain ⟨a1, K1, G1, e1, e2, e3, e4, e5⟩ := ct_mWord hM hX hG hWo hWa hp hL ht (by omega) hw
  have T1 := mt_fr2 e5 e3 hT
  by_cases c : (zWs X L p 9 0).1 < 0
  ·
    rw [decide_eq_true c] at e4
    rw [zMC_x c]
    refine ⟨a1, K1, ?_, e2, T1, e4, e5⟩
    refine gm_co_of _ (by decide +kernel) rfl (Nat.le_of_ble_eq_true rfl) rfl ?_
    refine gm_go.ru (gm_aload_n dX11_command_0 rfl (by first | exact Or.inl ⟨_, rfl⟩ | exact Or.inr ⟨_, rfl⟩)) ?_
    refine gm_go.ru (gm_cV dX11_command_1 (e1) rfl mt_X11_word mv_X11_word (lk_X11_235 rfl) (Or.inl ⟨_, 12, _, _, _, rfl, hM, rfl⟩) rfl (Nat.le_of_ble_eq_true rfl) (by decide)) ?_
    refine gm_go.ru (gm_istore_n (ls' := [_, _, _, _, _, _]) dX11_command_4 (by decide) rfl) ?_
    refine gm_go.ru (gi_const dX11_command_5) ?_
    refine gm_go.ru (gm_istore_n (ls' := [_, _, _, _, _, _]) dX11_command_6 (by decide) rfl) ?_
    refine gm_go.ru (gi_const dX11_command_7) ?_
    refine gm_go.ru (gm_istore_n (ls' := [_, _, _, _, _, _]) dX11_command_8 (by decide) rfl) ?_
    refine gm_go.ru (gm_aload_n dX11_command_9 rfl (by first | exact Or.inl ⟨_, rfl⟩ | exact Or.inr ⟨_, rfl⟩)) ?_
    refine gm_go.ru (gm_get dX11_command_10 (fl_X11_222 rfl) e2 rfl) ?_
    rw [e4.2.1]
    refine gm_go.ru (gi_if_eq_f 17 dX11_command_13 (by decide) (by decide) (by decide)) ?_
    exact gm_vret dX11_command_16 rfl
  ·
    obtain ⟨q0, q1, q2⟩ := zWs_p hp9 hL60 (show 0 ≤ (zWs X L p 9 0).1 by omega)
    rw [decide_eq_false c] at e4
    obtain ⟨a2, K2, g1, g2, g3, g4⟩ := cm_r e2 T1.1 e4.1 ((e4.2.2 19 (by decide) (by decide)).trans hL) ht q2 e4.2.1 q0
    have k3 := kp_tr e4 g3
    have T2 := mt_fr g4 (by omega) (by omega) (by omega) (by omega) T1
    have f2 : gh_fr h a2 (mt_K m) := gh_tr e5 (gh_mono g4 fun k z => Or.inl z)
    have zc := zMC_w c
    rw [zc] at hd ⊢
    refine ⟨a2, K2, ?_, g2, T2, k3, f2⟩
    refine gm_co_of _ (by decide +kernel) rfl (Nat.le_of_ble_eq_true rfl) rfl ?_
    refine gm_go.ru (gm_aload_n dX11_command_0 rfl (by first | exact Or.inl ⟨_, rfl⟩ | exact Or.inr ⟨_, rfl⟩)) ?_
    refine gm_go.ru (gm_cV dX11_command_1 (e1) rfl mt_X11_word mv_X11_word (lk_X11_235 rfl) (Or.inl ⟨_, 12, _, _, _, rfl, hM, rfl⟩) rfl (Nat.le_of_ble_eq_true rfl) (by decide)) ?_
    refine gm_go.ru (gm_istore_n (ls' := [_, _, _, _, _, _]) dX11_command_4 (by decide) rfl) ?_
    refine gm_go.ru (gi_const dX11_command_5) ?_
    refine gm_go.ru (gm_istore_n (ls' := [_, _, _, _, _, _]) dX11_command_6 (by decide) rfl) ?_
    refine gm_go.ru (gi_const dX11_command_7) ?_
    refine gm_go.ru (gm_istore_n (ls' := [_, _, _, _, _, _]) dX11_command_8 (by decide) rfl) ?_
    rw [q1]
    refine gm_go.ru (gm_aload_n dX11_command_9 rfl (by first | exact Or.inl ⟨_, rfl⟩ | exact Or.inr ⟨_, rfl⟩)) ?_
    refine gm_go.ru (gm_get dX11_command_10 (fl_X11_222 rfl) e2 rfl) ?_
    rw [e4.2.1]
    refine gm_go.ru (gi_if_eq_t (tgt := 17) dX11_command_13 (by decide) (by decide) (by decide)) ?_
    refine gm_go.ru g1 ?_
    refine gm_go.ru (gm_aload_n dX11_command_133 rfl (by first | exact Or.inl ⟨_, rfl⟩ | exact Or.inr ⟨_, rfl⟩)) ?_
    refine gm_go.ru (gm_get dX11_command_134 (fl_X11_222 rfl) g2 rfl) ?_
    rw [k3.2.1]
    cases cw : (zMr X L (zWs X L p 9 0).1.toNat (zWs X L p 9 0).2).2.2
    ·
      have k22 : K2 22 = 0 := (k3.2.2 22 (by decide) (by decide)).trans (hd.resolve_left (by show ¬ (zMr X L (zWs X L p 9 0).1.toNat (zWs X L p 9 0).2).2.2 = true; rw [cw]; decide))
      refine gm_go.ru (gi_if_ne_f 147 dX11_command_137 (by decide) (by decide) (by decide)) ?_
      refine gm_go.ru (gm_aload_n dX11_command_140 rfl (by first | exact Or.inl ⟨_, rfl⟩ | exact Or.inr ⟨_, rfl⟩)) ?_
      refine gm_go.ru (gm_get dX11_command_141 (fl_X11_244 rfl) g2 rfl) ?_
      rw [k22]
      refine gm_go.ru (gi_if_ne_f 148 dX11_command_144 (by decide) (by decide) (by decide)) ?_
      exact gm_vret dX11_command_147 rfl
    ·
      refine gm_go.ru (gi_if_ne_t (tgt := 147) dX11_command_137 (by decide) (by decide) (by decide)) ?_
      exact gm_vret dX11_command_147 rfl
def mv_K (m : Nat) : Nat → Prop := fun k => k = m ∨ k = m + 1 ∨ k = m + 10
set_option maxRecDepth 4000 in
theorem ct_mCmdX {h : gm_H} {m p L : Nat} {K X : Nat → Int} (hM : h.1[m]? = some (md_c m K)) (hT : mt_at h m X) (hp : K 18 = (p : Int)) (hL : K 19 = (L : Int)) (ht : zTx X L) (hp9 : p ≤ 60) (hw : K 21 = 0) (hd : K 22 = 1) (hn : (zMC X L p).2.2.2 = false) {F : Nat → Int} (hV : h.1[m + 1]? = some (gA 118 F)) {T : Nat} (hv : st_iv T F) (hT9 : T < 1000) (hq : zqWhy F (zMC X L p).1 (zMC X L p).2.1.1 (zMC X L p).2.1.2.1 (zMC X L p).2.1.2.2 ≠ 0) : ∃ h' K' F', gm_co mX11_command 7 [.ref m] h (.inl none) h' ∧ h'.1[m]? = some (md_c m K') ∧ h'.1[m + 1]? = some (gA 118 F') ∧ mt_at h' m X ∧ (K' 18 = ((zMC X L p).2.2.1 : Int) ∧ K' 21 = zB (zMC X L p).2.2.2 ∧ ∀ j, j ≠ 0 → j ≠ 18 → j ≠ 21 → K' j = K j) ∧ K' 0 = zCd (zMC X L p).1 (zqWhy F (zMC X L p).1 (zMC X L p).2.1.1 (zMC X L p).2.1.2.1 (zMC X L p).2.1.2.2) ∧ gh_fr h h' (mv_K m) := by
  obtain ⟨hX, ⟨G, hG⟩, hWo, hWa⟩ := id hT
  have hL60 := ht.1
  obtain ⟨a1, K1, G1, e1, e2, e3, e4, e5⟩ := ct_mWord hM hX hG hWo hWa hp hL ht (by omega) hw
  have T1 := mt_fr2 e5 e3 hT
  have zok := zMC_ok hn
  have c : ¬ (zWs X L p 9 0).1 < 0 := fun z => by rw [zMC_x z] at hn; exact absurd hn (show ¬ true = false by decide)
  obtain ⟨q0, q1, q2⟩ := zWs_p hp9 hL60 (show 0 ≤ (zWs X L p 9 0).1 by omega)
  rw [decide_eq_false c] at e4
  obtain ⟨a2, K2, g1, g2, g3, g4⟩ := cm_r e2 T1.1 e4.1 ((e4.2.2 19 (by decide) (by decide)).trans hL) ht q2 e4.2.1 q0
  have k3 := kp_tr e4 g3
  have T2 := mt_fr g4 (by omega) (by omega) (by omega) (by omega) T1
  have f2 : gh_fr h a2 (mt_K m) := gh_tr e5 (gh_mono g4 fun k z => Or.inl z)
  have zc := zMC_w c
  rw [zc] at hn hq zok ⊢
  have w2 : K2 21 = 0 := by rw [k3.2.1, hn]; rfl
  have k22 : K2 22 = 1 := (k3.2.2 22 (by decide) (by decide)).trans hd
  have V2 := gh_at f2 hV (fun z => by rcases z with z | z <;> omega)
  obtain ⟨a3, F3, i1, i2, i3, i4⟩ := ct_mDoX g2 V2 q0 hv zok.2.2.2.1 zok.2.2.2.2.1 zok.2.2.2.2.2 hT9 hq
  refine ⟨a3, _, F3, ?_, i2, i3, mt_fr i4 (by omega) (by omega) (by omega) (by omega) T2, ⟨(zU_n (by decide)).trans k3.1, (zU_n (by decide)).trans k3.2.1, fun j j1 j2 j3 => (zU_n j1).trans (k3.2.2 j j2 j3)⟩, zU_s, gh_tr (gh_mono f2 fun k z => z.elim Or.inl fun z => Or.inr (Or.inr z)) (gh_mono i4 fun k z => z.elim Or.inl fun z => Or.inr (Or.inl z))⟩
  refine gm_co_of _ (by decide +kernel) rfl (Nat.le_of_ble_eq_true rfl) rfl ?_
  refine gm_go.ru (gm_aload_n dX11_command_0 rfl (by first | exact Or.inl ⟨_, rfl⟩ | exact Or.inr ⟨_, rfl⟩)) ?_
  refine gm_go.ru (gm_cV dX11_command_1 (e1) rfl mt_X11_word mv_X11_word (lk_X11_235 rfl) (Or.inl ⟨_, 12, _, _, _, rfl, hM, rfl⟩) rfl (Nat.le_of_ble_eq_true rfl) (by decide)) ?_
  refine gm_go.ru (gm_istore_n (ls' := [_, _, _, _, _, _]) dX11_command_4 (by decide) rfl) ?_
  refine gm_go.ru (gi_const dX11_command_5) ?_
  refine gm_go.ru (gm_istore_n (ls' := [_, _, _, _, _, _]) dX11_command_6 (by decide) rfl) ?_
  refine gm_go.ru (gi_const dX11_command_7) ?_
  refine gm_go.ru (gm_istore_n (ls' := [_, _, _, _, _, _]) dX11_command_8 (by decide) rfl) ?_
  rw [q1]
  refine gm_go.ru (gm_aload_n dX11_command_9 rfl (by first | exact Or.inl ⟨_, rfl⟩ | exact Or.inr ⟨_, rfl⟩)) ?_
  refine gm_go.ru (gm_get dX11_command_10 (fl_X11_222 rfl) e2 rfl) ?_
  rw [e4.2.1]
  refine gm_go.ru (gi_if_eq_t (tgt := 17) dX11_command_13 (by decide) (by decide) (by decide)) ?_
  refine gm_go.ru g1 ?_
  refine gm_go.ru (gm_aload_n dX11_command_133 rfl (by first | exact Or.inl ⟨_, rfl⟩ | exact Or.inr ⟨_, rfl⟩)) ?_
  refine gm_go.ru (gm_get dX11_command_134 (fl_X11_222 rfl) g2 rfl) ?_
  rw [w2]
  refine gm_go.ru (gi_if_ne_f 147 dX11_command_137 (by decide) (by decide) (by decide)) ?_
  refine gm_go.ru (gm_aload_n dX11_command_140 rfl (by first | exact Or.inl ⟨_, rfl⟩ | exact Or.inr ⟨_, rfl⟩)) ?_
  refine gm_go.ru (gm_get dX11_command_141 (fl_X11_244 rfl) g2 rfl) ?_
  rw [k22]
  refine gm_go.ru (gi_if_ne_t (tgt := 148) dX11_command_144 (by decide) (by decide) (by decide)) ?_
  refine gm_go.ru (gm_aload_n dX11_command_148 rfl (by first | exact Or.inl ⟨_, rfl⟩ | exact Or.inr ⟨_, rfl⟩)) ?_
  refine gm_go.ru (gm_iload_n dX11_command_149 rfl) ?_
  refine gm_go.ru (gm_iload dX11_command_150 rfl) ?_
  refine gm_go.ru (gm_iload_n dX11_command_152 rfl) ?_
  refine gm_go.ru (gm_iload_n dX11_command_153 rfl) ?_
  refine gm_go.ru (gm_cV dX11_command_154 (i1) rfl mt_X11_does mv_X11_does (lk_X11_247 rfl) (Or.inl ⟨_, 12, _, _, _, rfl, g2, rfl⟩) rfl (Nat.le_of_ble_eq_true rfl) (by decide)) ?_
  refine gm_go.ru (gm_istore (ls' := [_, _, _, _, _, _]) dX11_command_157 (by decide) rfl) ?_
  exact gm_vret dX11_command_159 rfl
set_option maxRecDepth 4000 in
theorem ct_mCmdD {h : gm_H} {m p L : Nat} {K X : Nat → Int} (hM : h.1[m]? = some (md_c m K)) (hT : mt_at h m X) (hp : K 18 = (p : Int)) (hL : K 19 = (L : Int)) (ht : zTx X L) (hp9 : p ≤ 60) (hw : K 21 = 0) (hd : K 22 = 1) (hn : (zMC X L p).2.2.2 = false) {F : Nat → Int} (hV : h.1[m + 1]? = some (gA 118 F)) {T : Nat} (hv : st_iv T F) (hT9 : T < 1000) (hq : zqWhy F (zMC X L p).1 (zMC X L p).2.1.1 (zMC X L p).2.1.2.1 (zMC X L p).2.1.2.2 = 0) : ∃ h' K' F', gm_co mX11_command 7 [.ref m] h (.inl none) h' ∧ h'.1[m]? = some (md_c m K') ∧ h'.1[m + 1]? = some (gA 118 F') ∧ (∀ k, k < 118 → F' k = zDo F (zMC X L p).1 (zMC X L p).2.1.1 (zMC X L p).2.1.2.1 (zMC X L p).2.1.2.2 k) ∧ mt_at h' m X ∧ kp K K' (zMC X L p).2.2.1 (zMC X L p).2.2.2 ∧ gh_fr h h' (mv_K m) := by
  obtain ⟨hX, ⟨G, hG⟩, hWo, hWa⟩ := id hT
  have hL60 := ht.1
  obtain ⟨a1, K1, G1, e1, e2, e3, e4, e5⟩ := ct_mWord hM hX hG hWo hWa hp hL ht (by omega) hw
  have T1 := mt_fr2 e5 e3 hT
  have zok := zMC_ok hn
  have c : ¬ (zWs X L p 9 0).1 < 0 := fun z => by rw [zMC_x z] at hn; exact absurd hn (show ¬ true = false by decide)
  obtain ⟨q0, q1, q2⟩ := zWs_p hp9 hL60 (show 0 ≤ (zWs X L p 9 0).1 by omega)
  rw [decide_eq_false c] at e4
  obtain ⟨a2, K2, g1, g2, g3, g4⟩ := cm_r e2 T1.1 e4.1 ((e4.2.2 19 (by decide) (by decide)).trans hL) ht q2 e4.2.1 q0
  have k3 := kp_tr e4 g3
  have T2 := mt_fr g4 (by omega) (by omega) (by omega) (by omega) T1
  have f2 : gh_fr h a2 (mt_K m) := gh_tr e5 (gh_mono g4 fun k z => Or.inl z)
  have zc := zMC_w c
  rw [zc] at hn hq zok ⊢
  have w2 : K2 21 = 0 := by rw [k3.2.1, hn]; rfl
  have k22 : K2 22 = 1 := (k3.2.2 22 (by decide) (by decide)).trans hd
  have V2 := gh_at f2 hV (fun z => by rcases z with z | z <;> omega)
  obtain ⟨a3, F3, i1, i2, i3, i5, i4⟩ := ct_mDo g2 V2 q0 hv zok.2.2.2.1 zok.2.2.2.2.1 zok.2.2.2.2.2 hT9 hq
  refine ⟨a3, _, F3, ?_, i2, i3, i5, mt_fr i4 (by omega) (by omega) (by omega) (by omega) T2, k3, gh_tr (gh_mono f2 fun k z => z.elim Or.inl fun z => Or.inr (Or.inr z)) (gh_mono i4 fun k z => Or.inr (Or.inl z))⟩
  refine gm_co_of _ (by decide +kernel) rfl (Nat.le_of_ble_eq_true rfl) rfl ?_
  refine gm_go.ru (gm_aload_n dX11_command_0 rfl (by first | exact Or.inl ⟨_, rfl⟩ | exact Or.inr ⟨_, rfl⟩)) ?_
  refine gm_go.ru (gm_cV dX11_command_1 (e1) rfl mt_X11_word mv_X11_word (lk_X11_235 rfl) (Or.inl ⟨_, 12, _, _, _, rfl, hM, rfl⟩) rfl (Nat.le_of_ble_eq_true rfl) (by decide)) ?_
  refine gm_go.ru (gm_istore_n (ls' := [_, _, _, _, _, _]) dX11_command_4 (by decide) rfl) ?_
  refine gm_go.ru (gi_const dX11_command_5) ?_
  refine gm_go.ru (gm_istore_n (ls' := [_, _, _, _, _, _]) dX11_command_6 (by decide) rfl) ?_
  refine gm_go.ru (gi_const dX11_command_7) ?_
  refine gm_go.ru (gm_istore_n (ls' := [_, _, _, _, _, _]) dX11_command_8 (by decide) rfl) ?_
  rw [q1]
  refine gm_go.ru (gm_aload_n dX11_command_9 rfl (by first | exact Or.inl ⟨_, rfl⟩ | exact Or.inr ⟨_, rfl⟩)) ?_
  refine gm_go.ru (gm_get dX11_command_10 (fl_X11_222 rfl) e2 rfl) ?_
  rw [e4.2.1]
  refine gm_go.ru (gi_if_eq_t (tgt := 17) dX11_command_13 (by decide) (by decide) (by decide)) ?_
  refine gm_go.ru g1 ?_
  refine gm_go.ru (gm_aload_n dX11_command_133 rfl (by first | exact Or.inl ⟨_, rfl⟩ | exact Or.inr ⟨_, rfl⟩)) ?_
  refine gm_go.ru (gm_get dX11_command_134 (fl_X11_222 rfl) g2 rfl) ?_
  rw [w2]
  refine gm_go.ru (gi_if_ne_f 147 dX11_command_137 (by decide) (by decide) (by decide)) ?_
  refine gm_go.ru (gm_aload_n dX11_command_140 rfl (by first | exact Or.inl ⟨_, rfl⟩ | exact Or.inr ⟨_, rfl⟩)) ?_
  refine gm_go.ru (gm_get dX11_command_141 (fl_X11_244 rfl) g2 rfl) ?_
  rw [k22]
  refine gm_go.ru (gi_if_ne_t (tgt := 148) dX11_command_144 (by decide) (by decide) (by decide)) ?_
  refine gm_go.ru (gm_aload_n dX11_command_148 rfl (by first | exact Or.inl ⟨_, rfl⟩ | exact Or.inr ⟨_, rfl⟩)) ?_
  refine gm_go.ru (gm_iload_n dX11_command_149 rfl) ?_
  refine gm_go.ru (gm_iload dX11_command_150 rfl) ?_
  refine gm_go.ru (gm_iload_n dX11_command_152 rfl) ?_
  refine gm_go.ru (gm_iload_n dX11_command_153 rfl) ?_
  refine gm_go.ru (gm_cV dX11_command_154 (i1) rfl mt_X11_does mv_X11_does (lk_X11_247 rfl) (Or.inl ⟨_, 12, _, _, _, rfl, g2, rfl⟩) rfl (Nat.le_of_ble_eq_true rfl) (by decide)) ?_
  refine gm_go.ru (gm_istore (ls' := [_, _, _, _, _, _]) dX11_command_157 (by decide) rfl) ?_
  exact gm_vret dX11_command_159 rfl
/-- a state that stands somewhere -/
def zHas (F : Nat → Int) : Prop := ∃ (hh : gm_H) (r : Nat), st_at hh r F
theorem st_do {F : Nat → Int} {T w : Nat} {a b c : Int} (hS : zHas F) (hv : st_iv T F) (hT : T < 1000) (hw : w < 10) (ha : zR a) (hq : zqWhy F w a b c = 0) : zHas (zDo F w a b c) ∧ st_iv (T + 1) (zDo F w a b c) := by
  obtain ⟨hh, r, hS⟩ := hS
  obtain ⟨h', -, e1, e2, -⟩ := ct_perform hS hv hT hw ha hq (b := b) (c := c)
  exact ⟨⟨h', r, e1⟩, e2⟩
set_option maxRecDepth 4000 in
theorem c16_R {m L : Nat} {X : Nat → Int} (ht : zTx X L) : ∀ (z n w : Nat) (s : zPS) (h : gm_H) (K : Nat → Int), 120 ≤ s.1 + 2 * z → s.1 ≤ 60 → n + z ≤ 100 → h.1[m]? = some (md_c m K) → mt_at h m X → K 18 = (s.1 : Int) → K 19 = (L : Int) → K 21 = 0 → K 0 = 0 → K 22 = 0 → ∃ h1 h' K' r, gm_co mX11_command 7 [.ref m] h (.inl none) h1 ∧ gm_ru mX11_commands 8 (16, [some (.ref m), some (.int (zI (n : Int)))], [], h1) (.inl (some (.int (zI r)))) h' ∧ h'.1[m]? = some (md_c m K') ∧ mt_at h' m X ∧ K' 18 = ((zCc X L z n w s).2.2.1 : Int) ∧ K' 21 = zB (decide ((zCc X L z n w s).1 < 0)) ∧ (∀ j, j ≠ 18 → j ≠ 21 → K' j = K j) ∧ gh_fr h h' (mt_K m) := by
  intro z
  induction z with
  | zero => intro n w s h K hz hs hn; omega
  | succ z ih =>
    intro n w s h K hz hs hn hM hT hp hL hw h0 hd
    have hL60 := ht.1
    obtain ⟨a1, K1, e1, e2, e3, e4, e5⟩ := ct_mCmdR hM hT hp hL ht hs hw (Or.inr hd)
    obtain ⟨r1, r2, r3⟩ := zMC_R (X := X) (L := L) w s
    have ok := zMC_ok (X := X) (L := L) (p := s.1)
    have o1 : K1 0 = 0 := (e4.2.2 0 (by decide) (by decide)).trans h0
    have l1 : K1 19 = (L : Int) := (e4.2.2 19 (by decide) (by decide)).trans hL
    rw [zCc]
    cases cw : (zMC X L s.1).2.2.2
    ·
      have ok := ok cw
      rw [cw] at r1 e4
      rw [if_pos (show (zRc X L w s).1 = true from r1), r2]
      by_cases cl : (zMC X L s.1).2.2.1 = L
      ·
        rw [if_pos cl]
        refine ⟨a1, a1, K1, (n : Int), e1, ?_, e2, e3, by rw [e4.1]; exact congrArg (fun x : Nat => (x : Int)) r2.symm, by rw [e4.2.1]; exact congrArg zB (decide_eq_false (show ¬ (n : Int) < 0 by omega)).symm, e4.2.2, e5⟩
        refine gm_go.ru (gm_aload_n dX11_commands_16 rfl (by first | exact Or.inl ⟨_, rfl⟩ | exact Or.inr ⟨_, rfl⟩)) ?_
        refine gm_go.ru (gm_get dX11_commands_17 (fl_X11_222 rfl) e2 rfl) ?_
        rw [e4.2.1]
        refine gm_go.ru (gi_if_ne_f 64 dX11_commands_20 (by decide) (by decide) (by decide)) ?_
        refine gm_go.ru (gm_aload_n dX11_commands_23 rfl (by first | exact Or.inl ⟨_, rfl⟩ | exact Or.inr ⟨_, rfl⟩)) ?_
        refine gm_go.ru (gm_get dX11_commands_24 (fl_X11_53 rfl) e2 rfl) ?_
        rw [o1]
        refine gm_go.ru (gi_if_ne_f 64 dX11_commands_27 (by decide) (by decide) (by decide)) ?_
        refine gm_go.ru (gm_aload_n dX11_commands_30 rfl (by first | exact Or.inl ⟨_, rfl⟩ | exact Or.inr ⟨_, rfl⟩)) ?_
        refine gm_go.ru (gm_get dX11_commands_31 (fl_X11_216 rfl) e2 rfl) ?_
        rw [e4.1]
        refine gm_go.ru (gm_aload_n dX11_commands_34 rfl (by first | exact Or.inl ⟨_, rfl⟩ | exact Or.inr ⟨_, rfl⟩)) ?_
        refine gm_go.ru (gm_get dX11_commands_35 (fl_X11_219 rfl) e2 rfl) ?_
        rw [l1]
        refine gm_go.ru (gi_icmp_ge_t (tgt := 64) dX11_commands_38 (by decide) (by omega) (by omega) (by omega)) ?_
        refine gm_go.ru (gm_iload_n dX11_commands_64 rfl) ?_
        exact gm_iret dX11_commands_65 rfl
      ·
        rw [if_neg cl]
        obtain ⟨a2, K2, d1, d2, d3, d4⟩ := ct_mMark e2 e3.1 e4.1 l1 ht (by omega) e4.2.1 (x := 59) (by decide)
        have T2 := mt_fr d4 (by omega) (by omega) (by omega) (by omega) e3
        have f2 : gh_fr h a2 (mt_K m) := gh_tr e5 (gh_mono d4 fun k z => Or.inl z)
        cases cs : zsg X L (zMC X L s.1).2.2.1 59
        ·
          rw [cs, if_neg (by decide)] at d3
          rw [if_neg (by decide)]
          have zs : (zSig X L 59 (zRc X L w s).2.2).2.1 = (zMC X L s.1).2.2.1 := by unfold zSig; rw [r2, cs, if_neg (by decide)]; exact r2
          refine ⟨a1, a2, K2, ((n : Int) + 1), e1, ?_, d2, T2, by rw [d3.1]; exact congrArg (fun x : Nat => (x : Int)) zs.symm, d3.2.1, fun j j1 j2 => (d3.2.2 j j1 j2).trans (e4.2.2 j j1 j2), f2⟩
          refine gm_go.ru (gm_aload_n dX11_commands_16 rfl (by first | exact Or.inl ⟨_, rfl⟩ | exact Or.inr ⟨_, rfl⟩)) ?_
          refine gm_go.ru (gm_get dX11_commands_17 (fl_X11_222 rfl) e2 rfl) ?_
          rw [e4.2.1]
          refine gm_go.ru (gi_if_ne_f 64 dX11_commands_20 (by decide) (by decide) (by decide)) ?_
          refine gm_go.ru (gm_aload_n dX11_commands_23 rfl (by first | exact Or.inl ⟨_, rfl⟩ | exact Or.inr ⟨_, rfl⟩)) ?_
          refine gm_go.ru (gm_get dX11_commands_24 (fl_X11_53 rfl) e2 rfl) ?_
          rw [o1]
          refine gm_go.ru (gi_if_ne_f 64 dX11_commands_27 (by decide) (by decide) (by decide)) ?_
          refine gm_go.ru (gm_aload_n dX11_commands_30 rfl (by first | exact Or.inl ⟨_, rfl⟩ | exact Or.inr ⟨_, rfl⟩)) ?_
          refine gm_go.ru (gm_get dX11_commands_31 (fl_X11_216 rfl) e2 rfl) ?_
          rw [e4.1]
          refine gm_go.ru (gm_aload_n dX11_commands_34 rfl (by first | exact Or.inl ⟨_, rfl⟩ | exact Or.inr ⟨_, rfl⟩)) ?_
          refine gm_go.ru (gm_get dX11_commands_35 (fl_X11_219 rfl) e2 rfl) ?_
          rw [l1]
          refine gm_go.ru (gi_icmp_ge_f 64 dX11_commands_38 (by decide) (by omega) (by omega) (by omega)) ?_
          refine gm_go.ru (gm_aload_n dX11_commands_41 rfl (by first | exact Or.inl ⟨_, rfl⟩ | exact Or.inr ⟨_, rfl⟩)) ?_
          refine gm_go.ru (gi_bipush dX11_commands_42 (by decide +kernel)) ?_
          refine gm_go.ru (gm_cV0 dX11_commands_44 (d1) rfl mt_X11_mark mv_X11_mark (lk_X11_229 rfl) (Or.inl ⟨_, 12, _, _, _, rfl, e2, rfl⟩) rfl (Nat.le_of_ble_eq_true rfl) (by decide)) ?_
          refine gm_go.ru (gm_aload_n dX11_commands_47 rfl (by first | exact Or.inl ⟨_, rfl⟩ | exact Or.inr ⟨_, rfl⟩)) ?_
          refine gm_go.ru (gm_get dX11_commands_48 (fl_X11_222 rfl) d2 rfl) ?_
          rw [d3.2.1]
          refine gm_go.ru (gi_if_ne_t (tgt := 58) dX11_commands_51 (by decide) (by decide) (by decide)) ?_
          refine gm_go.ru (gi_iinc (ls' := [_, _]) dX11_commands_58 rfl (by decide) rfl) ?_
          refine gm_go.ru (gm_goto (tgt := 16) dX11_commands_61 (by decide)) ?_
          refine gm_go.ru (gm_aload_n dX11_commands_16 rfl (by first | exact Or.inl ⟨_, rfl⟩ | exact Or.inr ⟨_, rfl⟩)) ?_
          refine gm_go.ru (gm_get dX11_commands_17 (fl_X11_222 rfl) d2 rfl) ?_
          rw [d3.2.1]
          refine gm_go.ru (gi_if_ne_t (tgt := 64) dX11_commands_20 (by decide) (by decide) (by decide)) ?_
          refine gm_go.ru (gm_iload_n dX11_commands_64 rfl) ?_
          exact gm_iret dX11_commands_65 rfl
        ·
          rw [cs, if_pos rfl] at d3
          rw [if_pos rfl]
          have sl := zsg_l cs
          have zs : (zSig X L 59 (zRc X L w s).2.2).2 = ((zMC X L s.1).2.2.1 + 1, (zRc X L w s).2.2.2) := by unfold zSig; rw [r2, cs, if_pos rfl]
          rw [zs]
          obtain ⟨b1, h', K', r, g1, g2, g3, g4, g5, g6, g7, g8⟩ := ih (n + 1) (zRc X L w s).2.1 ((zMC X L s.1).2.2.1 + 1, (zRc X L w s).2.2.2) a2 K2 (by show 120 ≤ (zMC X L s.1).2.2.1 + 1 + 2 * z; omega) (by show (zMC X L s.1).2.2.1 + 1 ≤ 60; omega) (by omega) d2 T2 d3.1 ((d3.2.2 19 (by decide) (by decide)).trans l1) d3.2.1 ((d3.2.2 0 (by decide) (by decide)).trans o1) ((d3.2.2 22 (by decide) (by decide)).trans ((e4.2.2 22 (by decide) (by decide)).trans hd))
          refine ⟨a1, h', K', r, e1, ?_, g3, g4, g5, g6, fun j j1 j2 => (g7 j j1 j2).trans ((d3.2.2 j j1 j2).trans (e4.2.2 j j1 j2)), gh_tr f2 g8⟩
          refine gm_go.ru (gm_aload_n dX11_commands_16 rfl (by first | exact Or.inl ⟨_, rfl⟩ | exact Or.inr ⟨_, rfl⟩)) ?_
          refine gm_go.ru (gm_get dX11_commands_17 (fl_X11_222 rfl) e2 rfl) ?_
          rw [e4.2.1]
          refine gm_go.ru (gi_if_ne_f 64 dX11_commands_20 (by decide) (by decide) (by decide)) ?_
          refine gm_go.ru (gm_aload_n dX11_commands_23 rfl (by first | exact Or.inl ⟨_, rfl⟩ | exact Or.inr ⟨_, rfl⟩)) ?_
          refine gm_go.ru (gm_get dX11_commands_24 (fl_X11_53 rfl) e2 rfl) ?_
          rw [o1]
          refine gm_go.ru (gi_if_ne_f 64 dX11_commands_27 (by decide) (by decide) (by decide)) ?_
          refine gm_go.ru (gm_aload_n dX11_commands_30 rfl (by first | exact Or.inl ⟨_, rfl⟩ | exact Or.inr ⟨_, rfl⟩)) ?_
          refine gm_go.ru (gm_get dX11_commands_31 (fl_X11_216 rfl) e2 rfl) ?_
          rw [e4.1]
          refine gm_go.ru (gm_aload_n dX11_commands_34 rfl (by first | exact Or.inl ⟨_, rfl⟩ | exact Or.inr ⟨_, rfl⟩)) ?_
          refine gm_go.ru (gm_get dX11_commands_35 (fl_X11_219 rfl) e2 rfl) ?_
          rw [l1]
          refine gm_go.ru (gi_icmp_ge_f 64 dX11_commands_38 (by decide) (by omega) (by omega) (by omega)) ?_
          refine gm_go.ru (gm_aload_n dX11_commands_41 rfl (by first | exact Or.inl ⟨_, rfl⟩ | exact Or.inr ⟨_, rfl⟩)) ?_
          refine gm_go.ru (gi_bipush dX11_commands_42 (by decide +kernel)) ?_
          refine gm_go.ru (gm_cV0 dX11_commands_44 (d1) rfl mt_X11_mark mv_X11_mark (lk_X11_229 rfl) (Or.inl ⟨_, 12, _, _, _, rfl, e2, rfl⟩) rfl (Nat.le_of_ble_eq_true rfl) (by decide)) ?_
          refine gm_go.ru (gm_aload_n dX11_commands_47 rfl (by first | exact Or.inl ⟨_, rfl⟩ | exact Or.inr ⟨_, rfl⟩)) ?_
          refine gm_go.ru (gm_get dX11_commands_48 (fl_X11_222 rfl) d2 rfl) ?_
          rw [d3.2.1]
          refine gm_go.ru (gi_if_ne_f 58 dX11_commands_51 (by decide) (by decide) (by decide)) ?_
          refine gm_go.ru (gm_aload_n dX11_commands_54 rfl (by first | exact Or.inl ⟨_, rfl⟩ | exact Or.inr ⟨_, rfl⟩)) ?_
          refine gm_go.ru (gm_cV0 dX11_commands_55 (g1) rfl mt_X11_command mv_X11_command (lk_X11_251 rfl) (Or.inl ⟨_, 12, _, _, _, rfl, d2, rfl⟩) rfl (Nat.le_of_ble_eq_true rfl) (by decide)) ?_
          refine gm_go.ru (gi_iinc (ls' := [_, _]) dX11_commands_58 rfl (by decide) rfl) ?_
          refine gm_go.ru (gm_goto (tgt := 16) dX11_commands_61 (by decide)) ?_
          exact g2
    ·
      rw [cw] at r1 e4
      rw [if_neg (by rw [r1]; decide)]
      refine ⟨a1, a1, K1, (n : Int), e1, ?_, e2, e3, by rw [e4.1]; exact congrArg (fun x : Nat => (x : Int)) r2.symm, e4.2.1, e4.2.2, e5⟩
      refine gm_go.ru (gm_aload_n dX11_commands_16 rfl (by first | exact Or.inl ⟨_, rfl⟩ | exact Or.inr ⟨_, rfl⟩)) ?_
      refine gm_go.ru (gm_get dX11_commands_17 (fl_X11_222 rfl) e2 rfl) ?_
      rw [e4.2.1]
      refine gm_go.ru (gi_if_ne_t (tgt := 64) dX11_commands_20 (by decide) (by decide) (by decide)) ?_
      refine gm_go.ru (gm_iload_n dX11_commands_64 rfl) ?_
      exact gm_iret dX11_commands_65 rfl
set_option maxRecDepth 4000 in
theorem ct_mComsR {h : gm_H} {m L : Nat} {K X : Nat → Int} (ht : zTx X L) (hM : h.1[m]? = some (md_c m K)) (hT : mt_at h m X) (hL : K 19 = (L : Int)) (h0 : K 0 = 0) (hd : K 22 = 0) (w : Nat) (t : (Nat → Int) × Nat) : ∃ h' K' r, gm_co mX11_commands 8 [.ref m] h (.inl (some (.int (zI r)))) h' ∧ h'.1[m]? = some (md_c m K') ∧ mt_at h' m X ∧ K' 18 = ((zCc X L 60 1 w (0, t)).2.2.1 : Int) ∧ K' 21 = zB (decide ((zCc X L 60 1 w (0, t)).1 < 0)) ∧ (∀ j, j ≠ 18 → j ≠ 21 → K' j = K j) ∧ gh_fr h h' (mt_K m) := by
  obtain ⟨b1, hb1⟩ : ∃ y : gm_H, y = (h.1.set m (md_c m (zU K 18 0)), h.2) := ⟨_, rfl⟩
  have M1 : b1.1[m]? = some (md_c m (zU K 18 0)) := by rw [hb1]; exact gs_s hM
  obtain ⟨b2, hb2⟩ : ∃ y : gm_H, y = (b1.1.set m (md_c m (zU (zU K 18 0) 21 0)), b1.2) := ⟨_, rfl⟩
  have M2 : b2.1[m]? = some (md_c m (zU (zU K 18 0) 21 0)) := by rw [hb2]; exact gs_s M1
  have f2 : gh_fr h b2 (fun k => k = m) := by rw [hb2]; exact gh_set (K := (fun k => k = m)) (by rw [hb1]; exact gh_set (K := (fun k => k = m)) gh_rf rfl _) rfl _
  have T2 := mt_fr f2 (by omega) (by omega) (by omega) (by omega) hT
  have k2 : ∀ j, j ≠ 18 → j ≠ 21 → zU (zU K 18 0) 21 0 j = K j := fun j j1 j2 => (zU_n j2).trans (zU_n j1)
  obtain ⟨c1, h', K', r, g1, g2, g3, g4, g5, g6, g7, g8⟩ := c16_R ht 60 1 w (0, t) b2 _ (by show 120 ≤ 0 + 2 * 60; decide) (Nat.zero_le _) (by decide) M2 T2 ((zU_n (by decide)).trans zU_s) ((k2 19 (by decide) (by decide)).trans hL) zU_s ((k2 0 (by decide) (by decide)).trans h0) ((k2 22 (by decide) (by decide)).trans hd)
  refine ⟨h', K', r, ?_, g3, g4, g5, g6, fun j j1 j2 => (g7 j j1 j2).trans (k2 j j1 j2), gh_tr (gh_mono f2 fun k z => Or.inl z) g8⟩
  refine gm_co_of _ (by decide +kernel) rfl (Nat.le_of_ble_eq_true rfl) rfl ?_
  refine gm_go.ru (gm_aload_n dX11_commands_0 rfl (by first | exact Or.inl ⟨_, rfl⟩ | exact Or.inr ⟨_, rfl⟩)) ?_
  refine gm_go.ru (gi_const dX11_commands_1) ?_
  refine gm_go.ru (gm_put dX11_commands_2 (fp_X11_216 rfl) hM (Nat.le_of_ble_eq_true rfl) (by first | exact ⟨rfl, rfl⟩ | exact trivial)) ?_
  refine gm_hp hb1 ?_
  refine gm_go.ru (gm_aload_n dX11_commands_5 rfl (by first | exact Or.inl ⟨_, rfl⟩ | exact Or.inr ⟨_, rfl⟩)) ?_
  refine gm_go.ru (gi_const dX11_commands_6) ?_
  refine gm_go.ru (gm_put dX11_commands_7 (fp_X11_222 rfl) M1 (Nat.le_of_ble_eq_true rfl) (by first | exact ⟨rfl, rfl⟩ | exact trivial)) ?_
  refine gm_hp hb2 ?_
  refine gm_go.ru (gi_const dX11_commands_10) ?_
  refine gm_go.ru (gm_istore_n (ls' := [_, _]) dX11_commands_11 (by decide) rfl) ?_
  refine gm_go.ru (gm_aload_n dX11_commands_12 rfl (by first | exact Or.inl ⟨_, rfl⟩ | exact Or.inr ⟨_, rfl⟩)) ?_
  refine gm_go.ru (gm_cV0 dX11_commands_13 (g1) rfl mt_X11_command mv_X11_command (lk_X11_251 rfl) (Or.inl ⟨_, 12, _, _, _, rfl, M2, rfl⟩) rfl (Nat.le_of_ble_eq_true rfl) (by decide)) ?_
  exact g2
