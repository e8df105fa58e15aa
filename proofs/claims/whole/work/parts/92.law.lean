theorem ov_cg8 {h : gm_H} {r : Nat} {v w : Nat → Int} (hN : ov_at h r v) (h7 : v 4 ≤ 7) (e : ∀ j, j < 118 → w j = v j) : ov_at h r w := by
  obtain ⟨h1, I, M, D, W, h2, h3, h4, h5, h6⟩ := hN
  refine ⟨?_, I, M, D, W, h2, h3, h4, h5, fun k hk => ?_⟩
  · rw [e 2 (by omega), e 3 (by omega), e 4 (by omega), e 5 (by omega), e 6 (by omega), e 7 (by omega), e 8 (by omega)]; exact h1
  · rw [e 4 (by omega)] at hk
    rw [e (90 + 4 * k) (by omega), e (91 + 4 * k) (by omega), e (92 + 4 * k) (by omega), e (93 + 4 * k) (by omega)]; exact h6 k hk
theorem st_cg8 {h : gm_H} {r : Nat} {v w : Nat → Int} (hN : st_at h r v) (h7 : v 4 ≤ 7) (e : ∀ j, j < 118 → w j = v j) : st_at h r w := ⟨hN.1, nd_cg hN.2.1 (fun j hj => e j (by omega)), ov_cg8 hN.2.2 h7 e⟩
theorem ov_ivcg8 {T : Nat} {v w : Nat → Int} (hv : ov_iv T v) (e : ∀ j, j < 118 → w j = v j) : ov_iv T w := by
  obtain ⟨a, b, c, d, f, g, i, t, q⟩ := hv
  refine ⟨by rw [e 2 (by omega)]; exact a, by rw [e 3 (by omega)]; exact b, by rw [e 4 (by omega)]; exact c, by rw [e 5 (by omega)]; exact d, by rw [e 6 (by omega)]; exact f, by rw [e 7 (by omega)]; exact g, by rw [e 8 (by omega)]; exact i, t, fun k hk => ?_⟩
  rw [e 4 (by omega)] at hk
  rw [e 3 (by omega), e (90 + 4 * k) (by omega), e (91 + 4 * k) (by omega), e (92 + 4 * k) (by omega), e (93 + 4 * k) (by omega)]; exact q k hk
theorem st_ivcg8 {T : Nat} {v w : Nat → Int} (hv : st_iv T v) (e : ∀ j, j < 118 → w j = v j) : st_iv T w := ⟨nd_ivcg hv.1 (fun j hj => e j (by omega)), ov_ivcg8 hv.2 e⟩
theorem st_mono {T U : Nat} {v : Nat → Int} (hv : st_iv T v) (h : T ≤ U) (hU : U ≤ 1000) : st_iv U v := by
  obtain ⟨a, b, c, d, f, g, i, t, q⟩ := hv.2
  exact ⟨hv.1, ⟨a.1, by omega⟩, ⟨b.1, by omega⟩, c, ⟨d.1, by omega⟩, ⟨f.1, by omega⟩, g, ⟨i.1, by omega⟩, hU, q⟩
theorem hi_cg {h : gm_H} {n c : Nat} {P Q : Nat → Nat → Int} (hH : hi_at h n P c) (e : ∀ i, i < c → ∀ k, k < 118 → Q i k = P i k) : hi_at h n Q c := by
  obtain ⟨f, R, ⟨a1, a2, a3, a4, a5⟩, b⟩ := hH
  refine ⟨f, fun j => if (j + 9 - f) % 9 < c then Q ((j + 9 - f) % 9) else R j, ⟨a1, a2, a3, a4, fun i hi => ?_⟩, fun k hk => ?_⟩
  · dsimp only
    by_cases z : (i + 9 - f) % 9 < c
    · rw [if_pos z]
      have h1 : (f + (i + 9 - f) % 9) % 9 = i := by omega
      have h2 := b _ z
      rw [h1] at h2
      have h3 := a5 i hi
      refine ⟨st_cg8 h3.1 h3.2 (fun k hk => by rw [h2]; exact e _ z k hk), ?_⟩
      rw [e _ z 4 (by omega), ← h2]; exact h3.2
    · rw [if_neg z]; exact a5 i hi
  · dsimp only
    have h1 : ((f + k) % 9 + 9 - f) % 9 = k := by omega
    rw [h1, if_pos hk]
theorem zPush_iv {T c : Nat} {Q : Nat → Nat → Int} {F : Nat → Int} (hc : c ≤ 8) (hQ : ∀ i, i < c → st_iv T (Q i)) (hF : st_iv T F) : ∀ i, i < min (c + 1) 8 → st_iv T (zPush Q c F i) := by
  intro i hi
  unfold zPush
  by_cases h : c < 8
  · rw [if_pos h]
    show st_iv T (if i = c then F else Q i)
    by_cases z : i = c
    · rw [if_pos z]; exact hF
    · rw [if_neg z]; exact hQ i (by omega)
  · rw [if_neg h]
    show st_iv T (if i = 7 then F else Q (i + 1))
    by_cases z : i = 7
    · rw [if_pos z]; exact hF
    · rw [if_neg z]; exact hQ (i + 1) (by omega)
theorem sb_cg {h : gm_H} {s c : Nat} {q : Nat × Nat} {G H : Nat → Int} (hS : sbr_at h s q G c) (e : ∀ k, k < c → H k = G k) : sbr_at h s q H c := by
  obtain ⟨a1, a2, a3, ml, F, a4, a5, a6, a7⟩ := hS
  exact ⟨a1, a2, a3, ml, F, a4, a5, fun k hk => (a6 k hk).trans (e k hk).symm, a7⟩
/-- the Model -/
def LM (h : gm_H) (m : Nat) (K F S P X Ln : Nat → Int) : Prop := h.1[m]? = some (md_c m K) ∧ h.1[m + 1]? = some (gA 118 F) ∧ (∃ B, h.1[m + 2]? = some (gA 118 B)) ∧ h.1[m + 3]? = some (gA 118 S) ∧ h.1[m + 4]? = some (gA 944 P) ∧ (∃ B, h.1[m + 5]? = some (gA 256 B)) ∧ (∃ B, h.1[m + 6]? = some (gA 128 B)) ∧ (∃ B, h.1[m + 7]? = some (gA 360 B)) ∧ h.1[m + 9]? = some (gA 60 Ln) ∧ mt_at h m X
/-- the bakery; R: the throws so far -/
def LB (h : gm_H) (n : Nat) (s e f : Int) (F S : Nat → Int) (Q : Nat → Nat → Int) (X Ln : Nat → Int) (c L g R : Nat) : Prop := h.1[n]? = some (by_c n s e f) ∧ st_at h (n + 1) F ∧ (∃ u, st_at h (n + 10) u ∧ (s = 1 → u = S)) ∧ hi_at h (n + 19) Q c ∧ (∃ A B, pr_at h (n + 102) A B) ∧ (∃ A, or_at h (n + 105) A) ∧ (∃ A, h.1[n + 107]? = some (gA 360 A)) ∧ (∃ p w N k, pg_at h (n + 110) X L p w N k) ∧ ∃ q, sbr_at h (n + 108) q Ln g ∧ (q.1 = n + 109 ∨ n + 128 ≤ q.1) ∧ h.2.1 + zq1 q.2 ≤ 200 + R ∧ h.2.2 + zq2 q.2 ≤ 6000 + 6 * R
/-- the law's own arrays -/
def LO (h : gm_H) (n : Nat) : Prop := (∃ f, h.1[n + 126]? = some (gLo f)) ∧ (∃ f, h.1[n + 127]? = some (gDo f)) ∧ n + 128 ≤ h.1.length
/-- the numbers -/
def LN (K F S : Nat → Int) (Q : Nat → Nat → Int) (X : Nat → Int) (c L g T : Nat) : Prop := K 1 = (c : Int) ∧ c ≤ 8 ∧ (K 4 = 0 ∨ K 4 = 1) ∧ (-1 ≤ K 2 ∧ K 2 ≤ 100) ∧ (-1 ≤ K 3 ∧ K 3 ≤ 100) ∧ K 17 = (L : Int) ∧ zTx X L ∧ K 20 = (g : Int) ∧ g ≤ 60 ∧ st_iv T F ∧ (K 4 = 1 → st_iv T S) ∧ ∀ i, i < c → st_iv T (Q i)
def LI (h : gm_H) (n J R : Nat) : Prop := ∃ K F S P X Ln c L g T, LM h (n + 113) K F S P X Ln ∧ LB h n (K 4) (K 2) (K 3) F S (zSt8 P) X Ln c L g R ∧ LO h n ∧ LN K F S (zSt8 P) X c L g T ∧ T + L ≤ J
theorem li_of {h : gm_H} {n J R c L g T : Nat} {s e f : Int} {K F S P X Ln F0 S0 : Nat → Int} {Q : Nat → Nat → Int} (hM : LM h (n + 113) K F S P X Ln) (hB : LB h n s e f F0 S0 Q X Ln c L g R) (hO : LO h n) (hN : LN K F0 S0 Q X c L g T) (hs : s = K 4) (he : e = K 2) (hf : f = K 3) (eF : ∀ k, k < 118 → F k = F0 k) (eS : K 4 = 1 → ∀ k, k < 118 → S k = S0 k) (eQ : ∀ i, i < c → ∀ k, k < 118 → zSt8 P i k = Q i k) (hJ : T + L ≤ J) : LI h n J R := by
  subst hs he hf
  obtain ⟨b1, b2, ⟨u, b3, b4⟩, b5, b6⟩ := hB
  obtain ⟨n1, n2, n3, n4, n5, n6, n7, n8, n9, n10, n11, n12⟩ := hN
  refine ⟨K, F, S, P, X, Ln, c, L, g, T, hM, ⟨b1, st_cg8 b2 n10.2.2.2.1.2 eF, ?_, hi_cg b5 eQ, b6⟩, hO, ⟨n1, n2, n3, n4, n5, n6, n7, n8, n9, st_ivcg8 n10 eF, fun z => st_ivcg8 (n11 z) (eS z), fun i hi => st_ivcg8 (n12 i hi) (eQ i hi)⟩, hJ⟩
  by_cases z : K 4 = 1
  · have hu := b4 z
    subst hu
    exact ⟨S, st_cg8 b3 (n11 z).2.2.2.1.2 (eS z), fun _ => rfl⟩
  · exact ⟨u, b3, fun y => absurd y z⟩
theorem lm_q {h h' : gm_H} {m : Nat} {K F S P X Ln K' : Nat → Int} (hM : LM h m K F S P X Ln) (h1 : h'.1[m]? = some (md_c m K')) (f : gh_fr h h' (fun k => k = m)) : LM h' m K' F S P X Ln :=
  ⟨h1, gh_at f hM.2.1 (by omega), hM.2.2.1.imp fun _ y => gh_at f y (by omega), gh_at f hM.2.2.2.1 (by omega), gh_at f hM.2.2.2.2.1 (by omega), hM.2.2.2.2.2.1.imp fun _ y => gh_at f y (by omega), hM.2.2.2.2.2.2.1.imp fun _ y => gh_at f y (by omega), hM.2.2.2.2.2.2.2.1.imp fun _ y => gh_at f y (by omega), gh_at f hM.2.2.2.2.2.2.2.2.1 (by omega), mt_fr f (by omega) (by omega) (by omega) (by omega) hM.2.2.2.2.2.2.2.2.2⟩
theorem lm_q5 {h h' : gm_H} {m : Nat} {K F S P X Ln K' B : Nat → Int} (hM : LM h m K F S P X Ln) (h1 : h'.1[m]? = some (md_c m K')) (h2 : h'.1[m + 5]? = some (gA 256 B)) (f : gh_fr h h' (fun k => k = m ∨ k = m + 5)) : LM h' m K' F S P X Ln :=
  ⟨h1, gh_at f hM.2.1 (by omega), hM.2.2.1.imp fun _ y => gh_at f y (by omega), gh_at f hM.2.2.2.1 (by omega), gh_at f hM.2.2.2.2.1 (by omega), ⟨_, h2⟩, hM.2.2.2.2.2.2.1.imp fun _ y => gh_at f y (by omega), hM.2.2.2.2.2.2.2.1.imp fun _ y => gh_at f y (by omega), gh_at f hM.2.2.2.2.2.2.2.2.1 (by omega), mt_fr f (by omega) (by omega) (by omega) (by omega) hM.2.2.2.2.2.2.2.2.2⟩
theorem lm_q6 {h h' : gm_H} {m : Nat} {K F S P X Ln K' B : Nat → Int} (hM : LM h m K F S P X Ln) (h1 : h'.1[m]? = some (md_c m K')) (h2 : h'.1[m + 6]? = some (gA 128 B)) (f : gh_fr h h' (fun k => k = m ∨ k = m + 6)) : LM h' m K' F S P X Ln :=
  ⟨h1, gh_at f hM.2.1 (by omega), hM.2.2.1.imp fun _ y => gh_at f y (by omega), gh_at f hM.2.2.2.1 (by omega), gh_at f hM.2.2.2.2.1 (by omega), hM.2.2.2.2.2.1.imp fun _ y => gh_at f y (by omega), ⟨_, h2⟩, hM.2.2.2.2.2.2.2.1.imp fun _ y => gh_at f y (by omega), gh_at f hM.2.2.2.2.2.2.2.2.1 (by omega), mt_fr f (by omega) (by omega) (by omega) (by omega) hM.2.2.2.2.2.2.2.2.2⟩
theorem lm_q7 {h h' : gm_H} {m : Nat} {K F S P X Ln K' B : Nat → Int} (hM : LM h m K F S P X Ln) (h1 : h'.1[m]? = some (md_c m K')) (h2 : h'.1[m + 7]? = some (gA 360 B)) (f : gh_fr h h' (fun k => k = m ∨ k = m + 7)) : LM h' m K' F S P X Ln :=
  ⟨h1, gh_at f hM.2.1 (by omega), hM.2.2.1.imp fun _ y => gh_at f y (by omega), gh_at f hM.2.2.2.1 (by omega), gh_at f hM.2.2.2.2.1 (by omega), hM.2.2.2.2.2.1.imp fun _ y => gh_at f y (by omega), hM.2.2.2.2.2.2.1.imp fun _ y => gh_at f y (by omega), ⟨_, h2⟩, gh_at f hM.2.2.2.2.2.2.2.2.1 (by omega), mt_fr f (by omega) (by omega) (by omega) (by omega) hM.2.2.2.2.2.2.2.2.2⟩
theorem lm_mod {h h' : gm_H} {m : Nat} {K F S P X Ln K' F' B P' : Nat → Int} (hM : LM h m K F S P X Ln) (h1 : h'.1[m]? = some (md_c m K')) (h2 : h'.1[m + 1]? = some (gA 118 F')) (h3 : h'.1[m + 2]? = some (gA 118 B)) (h4 : h'.1[m + 4]? = some (gA 944 P')) (f : gh_fr h h' (mk_K m)) : LM h' m K' F' S P' X Ln :=
  ⟨h1, h2, ⟨_, h3⟩, gh_at f hM.2.2.2.1 (by intro z; simp only [mk_K] at z; omega), h4, hM.2.2.2.2.2.1.imp fun _ y => gh_at f y (by intro z; simp only [mk_K] at z; omega), hM.2.2.2.2.2.2.1.imp fun _ y => gh_at f y (by intro z; simp only [mk_K] at z; omega), hM.2.2.2.2.2.2.2.1.imp fun _ y => gh_at f y (by intro z; simp only [mk_K] at z; omega), gh_at f hM.2.2.2.2.2.2.2.2.1 (by intro z; simp only [mk_K] at z; omega), mt_fr f (by intro z; simp only [mk_K] at z; omega) (by intro z; simp only [mk_K] at z; omega) (by intro z; simp only [mk_K] at z; omega) (by intro z; simp only [mk_K] at z; omega) hM.2.2.2.2.2.2.2.2.2⟩
theorem lm_q1 {h h' : gm_H} {m : Nat} {K F S P X Ln K' F' : Nat → Int} (hM : LM h m K F S P X Ln) (h1 : h'.1[m]? = some (md_c m K')) (h2 : h'.1[m + 1]? = some (gA 118 F')) (f : gh_fr h h' (fun k => k = m ∨ k = m + 1)) : LM h' m K' F' S P X Ln :=
  ⟨h1, h2, hM.2.2.1.imp fun _ y => gh_at f y (by omega), gh_at f hM.2.2.2.1 (by omega), gh_at f hM.2.2.2.2.1 (by omega), hM.2.2.2.2.2.1.imp fun _ y => gh_at f y (by omega), hM.2.2.2.2.2.2.1.imp fun _ y => gh_at f y (by omega), hM.2.2.2.2.2.2.2.1.imp fun _ y => gh_at f y (by omega), gh_at f hM.2.2.2.2.2.2.2.2.1 (by omega), mt_fr f (by omega) (by omega) (by omega) (by omega) hM.2.2.2.2.2.2.2.2.2⟩
theorem lm_q3 {h h' : gm_H} {m : Nat} {K F S P X Ln K' S' : Nat → Int} (hM : LM h m K F S P X Ln) (h1 : h'.1[m]? = some (md_c m K')) (h2 : h'.1[m + 3]? = some (gA 118 S')) (f : gh_fr h h' (fun k => k = m ∨ k = m + 3)) : LM h' m K' F S' P X Ln :=
  ⟨h1, gh_at f hM.2.1 (by omega), hM.2.2.1.imp fun _ y => gh_at f y (by omega), h2, gh_at f hM.2.2.2.2.1 (by omega), hM.2.2.2.2.2.1.imp fun _ y => gh_at f y (by omega), hM.2.2.2.2.2.2.1.imp fun _ y => gh_at f y (by omega), hM.2.2.2.2.2.2.2.1.imp fun _ y => gh_at f y (by omega), gh_at f hM.2.2.2.2.2.2.2.2.1 (by omega), mt_fr f (by omega) (by omega) (by omega) (by omega) hM.2.2.2.2.2.2.2.2.2⟩
theorem lm_q8 {h h' : gm_H} {m : Nat} {K F S P X Ln K' X' : Nat → Int} (hM : LM h m K F S P X Ln) (h1 : h'.1[m]? = some (md_c m K')) (h2 : h'.1[m + 8]? = some (gA 60 X')) (f : gh_fr h h' (fun k => k = m ∨ k = m + 8)) : LM h' m K' F S P X' Ln :=
  ⟨h1, gh_at f hM.2.1 (by omega), hM.2.2.1.imp fun _ y => gh_at f y (by omega), gh_at f hM.2.2.2.1 (by omega), gh_at f hM.2.2.2.2.1 (by omega), hM.2.2.2.2.2.1.imp fun _ y => gh_at f y (by omega), hM.2.2.2.2.2.2.1.imp fun _ y => gh_at f y (by omega), hM.2.2.2.2.2.2.2.1.imp fun _ y => gh_at f y (by omega), gh_at f hM.2.2.2.2.2.2.2.2.1 (by omega), ⟨h2, hM.2.2.2.2.2.2.2.2.2.2.1.imp fun _ y => gh_at f y (by omega), gh_at f hM.2.2.2.2.2.2.2.2.2.2.2.1 (by omega), gh_at f hM.2.2.2.2.2.2.2.2.2.2.2.2 (by omega)⟩⟩
theorem lm_q9 {h h' : gm_H} {m : Nat} {K F S P X Ln K' L' : Nat → Int} (hM : LM h m K F S P X Ln) (h1 : h'.1[m]? = some (md_c m K')) (h2 : h'.1[m + 9]? = some (gA 60 L')) (f : gh_fr h h' (fun k => k = m ∨ k = m + 9)) : LM h' m K' F S P X L' :=
  ⟨h1, gh_at f hM.2.1 (by omega), hM.2.2.1.imp fun _ y => gh_at f y (by omega), gh_at f hM.2.2.2.1 (by omega), gh_at f hM.2.2.2.2.1 (by omega), hM.2.2.2.2.2.1.imp fun _ y => gh_at f y (by omega), hM.2.2.2.2.2.2.1.imp fun _ y => gh_at f y (by omega), hM.2.2.2.2.2.2.2.1.imp fun _ y => gh_at f y (by omega), h2, mt_fr f (by omega) (by omega) (by omega) (by omega) hM.2.2.2.2.2.2.2.2.2⟩
theorem lm_ex {h h' : gm_H} {m : Nat} {K F S P X Ln K' F' B P' : Nat → Int} (hM : LM h m K F S P X Ln) (h1 : h'.1[m]? = some (md_c m K')) (h2 : h'.1[m + 1]? = some (gA 118 F')) (h3 : h'.1[m + 2]? = some (gA 118 B)) (h4 : h'.1[m + 4]? = some (gA 944 P')) (h5 : mt_at h' m X) (f : gh_fr h h' (my_K m)) : LM h' m K' F' S P' X Ln :=
  ⟨h1, h2, ⟨_, h3⟩, gh_at f hM.2.2.2.1 (by intro z; simp only [my_K] at z; omega), h4, hM.2.2.2.2.2.1.imp fun _ y => gh_at f y (by intro z; simp only [my_K] at z; omega), hM.2.2.2.2.2.2.1.imp fun _ y => gh_at f y (by intro z; simp only [my_K] at z; omega), hM.2.2.2.2.2.2.2.1.imp fun _ y => gh_at f y (by intro z; simp only [my_K] at z; omega), gh_at f hM.2.2.2.2.2.2.2.2.1 (by intro z; simp only [my_K] at z; omega), h5⟩
theorem lm_mv {h h' : gm_H} {m : Nat} {K F S P X Ln : Nat → Int} (e : ∀ k, m ≤ k → k < m + 13 → h'.1[k]? = h.1[k]?) (hM : LM h m K F S P X Ln) : LM h' m K F S P X Ln :=
  ⟨(e _ (by omega) (by omega)).trans hM.1, (e _ (by omega) (by omega)).trans hM.2.1, hM.2.2.1.imp fun _ y => (e _ (by omega) (by omega)).trans y, (e _ (by omega) (by omega)).trans hM.2.2.2.1, (e _ (by omega) (by omega)).trans hM.2.2.2.2.1, hM.2.2.2.2.2.1.imp fun _ y => (e _ (by omega) (by omega)).trans y, hM.2.2.2.2.2.2.1.imp fun _ y => (e _ (by omega) (by omega)).trans y, hM.2.2.2.2.2.2.2.1.imp fun _ y => (e _ (by omega) (by omega)).trans y, (e _ (by omega) (by omega)).trans hM.2.2.2.2.2.2.2.2.1, ⟨(e _ (by omega) (by omega)).trans hM.2.2.2.2.2.2.2.2.2.1, hM.2.2.2.2.2.2.2.2.2.2.1.imp fun _ y => (e _ (by omega) (by omega)).trans y, (e _ (by omega) (by omega)).trans hM.2.2.2.2.2.2.2.2.2.2.2.1, (e _ (by omega) (by omega)).trans hM.2.2.2.2.2.2.2.2.2.2.2.2⟩⟩
theorem lm_fr {h h' : gm_H} {m : Nat} {Kp : Nat → Prop} {K F S P X Ln : Nat → Int} (hM : LM h m K F S P X Ln) (f : gh_fr h h' Kp) (hK : ∀ k, m ≤ k → k < m + 13 → ¬ Kp k) : LM h' m K F S P X Ln := lm_mv (fun k a b => f.2.2 k (hK k a b)) hM
theorem lo_fr {h h' : gm_H} {n : Nat} {Kp : Nat → Prop} (hO : LO h n) (f : gh_fr h h' Kp) (h1 : ¬ Kp (n + 126)) (h2 : ¬ Kp (n + 127)) : LO h' n := ⟨hO.1.imp fun _ y => gh_at f y h1, hO.2.1.imp fun _ y => gh_at f y h2, by rw [f.2.1]; exact hO.2.2⟩
theorem lb_fr {h h' : gm_H} {n c L g R : Nat} {s e f : Int} {F S X Ln : Nat → Int} {Q : Nat → Nat → Int} {Kp : Nat → Prop} (hB : LB h n s e f F S Q X Ln c L g R) (w : gh_fr h h' Kp) (hK : ∀ k, (n ≤ k ∧ k < n + 113) ∨ n + 128 ≤ k → ¬ Kp k) : LB h' n s e f F S Q X Ln c L g R := by
  obtain ⟨b1, b2, ⟨u, b3, b4⟩, b5, ⟨A, B, b6⟩, ⟨O, b7⟩, ⟨Z, b8⟩, ⟨p, v, N, k, b9⟩, q, b10, b11, b12, b13⟩ := hB
  have m : ∀ k, (n ≤ k ∧ k < n + 113) ∨ n + 128 ≤ k → h'.1[k]? = h.1[k]? := fun k z => w.2.2 k (hK k z)
  refine ⟨(m _ (by omega)).trans b1, st_mv (fun k a b => m k (by omega)) b2, ⟨u, st_mv (fun k a b => m k (by omega)) b3, b4⟩, hi_mv (fun k a b => m k (by omega)) b5, ⟨A, B, pr_mv (fun k a b => m k (by omega)) b6⟩, ⟨O, or_mv (fun k a b => m k (by omega)) b7⟩, ⟨Z, (m _ (by omega)).trans b8⟩, ⟨p, v, N, k, pg_mv (fun k a b => m k (by omega)) b9⟩, q, sbr_mv (m _ (by omega)) (m _ (by omega)) b10, b11, ?_, ?_⟩
  · rw [w.1]; exact b12
  · rw [w.1]; exact b13
/-- what a method of the class may change, apart from the label -/
theorem lb_ex {h h' : gm_H} {n c L g R c' L' p' w' k' : Nat} {s e f s' e' f' : Int} {F S X Ln F' X' N' : Nat → Int} {Q Q' : Nat → Nat → Int} (hB : LB h n s e f F S Q X Ln c L g R) (h1 : h'.1[n]? = some (by_c n s' e' f')) (h2 : st_at h' (n + 1) F') (h3 : hi_at h' (n + 19) Q' c') (h4 : pg_at h' (n + 110) X' L' p' w' N' k') (hs : s' = s) (w : gh_fr h h' (ex_K n)) : LB h' n s' e' f' F' S Q' X' Ln c' L' g R := by
  obtain ⟨b1, b2, ⟨u, b3, b4⟩, b5, ⟨A, B, b6⟩, ⟨O, b7⟩, ⟨Z, b8⟩, b9, q, b10, b11, b12, b13⟩ := hB
  have m : ∀ k, (n + 10 ≤ k ∧ k < n + 19) ∨ (n + 102 ≤ k ∧ k < n + 110) ∨ n + 128 ≤ k → h'.1[k]? = h.1[k]? := fun k z => w.2.2 k (fun y => by simp only [ex_K, st_K, hi_K, pg_K] at y; omega)
  subst hs
  refine ⟨h1, h2, ⟨u, st_mv (fun k a b => m k (by omega)) b3, b4⟩, h3, ⟨A, B, pr_mv (fun k a b => m k (by omega)) b6⟩, ⟨O, or_mv (fun k a b => m k (by omega)) b7⟩, ⟨Z, (m _ (by omega)).trans b8⟩, ⟨p', w', N', k', h4⟩, q, sbr_mv (m _ (by omega)) (m _ (by omega)) b10, b11, ?_, ?_⟩
  · rw [w.1]; exact b12
  · rw [w.1]; exact b13
theorem lb_mod {h h' : gm_H} {n c L g R c' : Nat} {s e f : Int} {F S X Ln F' : Nat → Int} {Q Q' : Nat → Nat → Int} (hB : LB h n s e f F S Q X Ln c L g R) (h2 : st_at h' (n + 1) F') (h3 : hi_at h' (n + 19) Q' c') (w : gh_fr h h' (fun k => st_K (n + 1) k ∨ hi_K (n + 19) k)) : LB h' n s e f F' S Q' X Ln c' L g R := by
  obtain ⟨p, v, N, k, b9⟩ := hB.2.2.2.2.2.2.2.1
  exact lb_ex hB (gh_at w hB.1 (by intro z; simp only [st_K, hi_K] at z; omega)) h2 h3 (pg_fr w (fun k hk z => by simp only [st_K, hi_K, pg_K] at hk z; omega) b9) rfl (gh_mono w (fun k z => z.elim (fun y => Or.inr (Or.inl y)) (fun y => Or.inr (Or.inr (Or.inl y)))))
theorem lb_typ {h h' : gm_H} {n c L g R L' p' w' k' : Nat} {s e f : Int} {F S X Ln X' N' : Nat → Int} {Q : Nat → Nat → Int} (hB : LB h n s e f F S Q X Ln c L g R) (h4 : pg_at h' (n + 110) X' L' p' w' N' k') (w : gh_fr h h' (pg_K (n + 110))) : LB h' n s e f F S Q X' Ln c L' g R :=
  lb_ex hB (gh_at w hB.1 (by intro z; simp only [pg_K] at z; omega)) (st_fr w (fun k hk z => by simp only [st_K, pg_K] at hk z; omega) hB.2.1) (hi_fr w (fun k hk z => by simp only [hi_K, pg_K] at hk z; omega) hB.2.2.2.1) h4 rfl (gh_mono w (fun k z => Or.inr (Or.inr (Or.inr z))))
theorem lb_exX {h h' : gm_H} {n c L g R L' p' w' k' : Nat} {s e f e' : Int} {F S X Ln X' N' : Nat → Int} {Q : Nat → Nat → Int} (hB : LB h n s e f F S Q X Ln c L g R) (h1 : h'.1[n]? = some (by_c n s e' f)) (h4 : pg_at h' (n + 110) X' L' p' w' N' k') (w : gh_fr h h' (fun k => k = n ∨ pg_K (n + 110) k)) : LB h' n s e' f F S Q X' Ln c L' g R :=
  lb_ex hB h1 (st_fr w (fun k hk z => by simp only [st_K, pg_K] at hk z; omega) hB.2.1) (hi_fr w (fun k hk z => by simp only [hi_K, pg_K] at hk z; omega) hB.2.2.2.1) h4 rfl (gh_mono w (fun k z => z.elim Or.inl (fun y => Or.inr (Or.inr (Or.inr y)))))
theorem lb_sav {h h' : gm_H} {n c L g R : Nat} {s e f : Int} {F S X Ln : Nat → Int} {Q : Nat → Nat → Int} (hB : LB h n s e f F S Q X Ln c L g R) (h1 : h'.1[n]? = some (by_c n 1 e f)) (h2 : st_at h' (n + 1) F) (h3 : st_at h' (n + 10) F) (w : gh_fr h h' (fun k => k = n ∨ st_K (n + 10) k)) : LB h' n 1 e f F F Q X Ln c L g R := by
  obtain ⟨b1, b2, ⟨u, b3, b4⟩, b5, ⟨A, B, b6⟩, ⟨O, b7⟩, ⟨Z, b8⟩, ⟨p, v, N, k, b9⟩, q, b10, b11, b12, b13⟩ := hB
  have m : ∀ k, (n + 19 ≤ k ∧ k < n + 113) ∨ n + 128 ≤ k → h'.1[k]? = h.1[k]? := fun k z => w.2.2 k (fun y => by simp only [st_K] at y; omega)
  refine ⟨h1, h2, ⟨F, h3, fun _ => rfl⟩, hi_mv (fun k a b => m k (by omega)) b5, ⟨A, B, pr_mv (fun k a b => m k (by omega)) b6⟩, ⟨O, or_mv (fun k a b => m k (by omega)) b7⟩, ⟨Z, (m _ (by omega)).trans b8⟩, ⟨p, v, N, k, pg_mv (fun k a b => m k (by omega)) b9⟩, q, sbr_mv (m _ (by omega)) (m _ (by omega)) b10, b11, ?_, ?_⟩
  · rw [w.1]; exact b12
  · rw [w.1]; exact b13
/-- its room for reckoning -/
theorem lb_scr {h h' : gm_H} {n c L g R : Nat} {s e f : Int} {F S X Ln : Nat → Int} {Q : Nat → Nat → Int} {Kp : Nat → Prop} (hB : LB h n s e f F S Q X Ln c L g R) (w : gh_fr h h' Kp) (hK : ∀ k, Kp k → n + 102 ≤ k ∧ k < n + 108) (h1 : ∃ A B, pr_at h' (n + 102) A B) (h2 : ∃ A, or_at h' (n + 105) A) (h3 : ∃ A, h'.1[n + 107]? = some (gA 360 A)) : LB h' n s e f F S Q X Ln c L g R := by
  obtain ⟨b1, b2, ⟨u, b3, b4⟩, b5, -, -, -, ⟨p, v, N, k, b9⟩, q, b10, b11, b12, b13⟩ := hB
  have m : ∀ k, k < n + 102 ∨ n + 108 ≤ k → h'.1[k]? = h.1[k]? := fun k z => w.2.2 k (fun y => by have := hK k y; omega)
  refine ⟨(m _ (by omega)).trans b1, st_mv (fun k a b => m k (by omega)) b2, ⟨u, st_mv (fun k a b => m k (by omega)) b3, b4⟩, hi_mv (fun k a b => m k (by omega)) b5, h1, h2, h3, ⟨p, v, N, k, pg_mv (fun k a b => m k (by omega)) b9⟩, q, sbr_mv (m _ (by omega)) (m _ (by omega)) b10, b11, ?_, ?_⟩
  · rw [w.1]; exact b12
  · rw [w.1]; exact b13
theorem lb_pr {h h' : gm_H} {n c L g R z : Nat} {s e f : Int} {F S X Ln A B : Nat → Int} {Q : Nat → Nat → Int} (hB : LB h n s e f F S Q X Ln c L g R) (h1 : pr_at h' (n + 102) A B) (w : gh_fr h h' (fun k => k = n + z)) (hz : z = 103 ∨ z = 104) : LB h' n s e f F S Q X Ln c L g R :=
  lb_scr hB w (fun k y => by omega) ⟨A, B, h1⟩ (hB.2.2.2.2.2.1.imp fun _ y => or_fr w (by omega) (by omega) y) (hB.2.2.2.2.2.2.1.imp fun _ y => gh_at w y (by omega))
theorem lb_or {h h' : gm_H} {n c L g R : Nat} {s e f : Int} {F S X Ln A : Nat → Int} {Q : Nat → Nat → Int} (hB : LB h n s e f F S Q X Ln c L g R) (h1 : or_at h' (n + 105) A) (w : gh_fr h h' (fun k => k = n + 106)) : LB h' n s e f F S Q X Ln c L g R :=
  lb_scr hB w (fun k y => by omega) (hB.2.2.2.2.1.imp fun _ y => y.imp fun _ y => pr_fr w (by omega) (by omega) (by omega) y) ⟨A, h1⟩ (hB.2.2.2.2.2.2.1.imp fun _ y => gh_at w y (by omega))
theorem lb_re {h h' : gm_H} {n c L g R : Nat} {s e f : Int} {F S X Ln A : Nat → Int} {Q : Nat → Nat → Int} (hB : LB h n s e f F S Q X Ln c L g R) (h1 : h'.1[n + 107]? = some (gA 360 A)) (w : gh_fr h h' (fun k => k = n + 107)) : LB h' n s e f F S Q X Ln c L g R :=
  lb_scr hB w (fun k y => by omega) (hB.2.2.2.2.1.imp fun _ y => y.imp fun _ y => pr_fr w (by omega) (by omega) (by omega) y) (hB.2.2.2.2.2.1.imp fun _ y => or_fr w (by omega) (by omega) y) ⟨A, h1⟩
/-- a throw costs -/
theorem lb_th {h : gm_H} {n c L g R : Nat} {s e f : Int} {F S X Ln : Nat → Int} {Q : Nat → Nat → Int} (hB : LB h n s e f F S Q X Ln c L g R) : LB (zTh h) n s e f F S Q X Ln c L g (R + 1) := by
  obtain ⟨b1, b2, b3, b4, b5, b6, b7, b8, q, b10, b11, b12, b13⟩ := hB
  exact ⟨b1, b2, b3, b4, b5, b6, b7, b8, q, b10, b11, (show h.2.1 + 1 + zq1 q.2 ≤ 200 + (R + 1) by omega), (show h.2.2 + 6 + zq2 q.2 ≤ 6000 + 6 * (R + 1) by omega)⟩
theorem lb_up {h : gm_H} {n c L g R : Nat} {s e f : Int} {F S X Ln : Nat → Int} {Q : Nat → Nat → Int} (hB : LB h n s e f F S Q X Ln c L g R) : LB h n s e f F S Q X Ln c L g (R + 1) := by
  obtain ⟨b1, b2, b3, b4, b5, b6, b7, b8, q, b10, b11, b12, b13⟩ := hB
  exact ⟨b1, b2, b3, b4, b5, b6, b7, b8, q, b10, b11, by omega, by omega⟩
/-- the label written anew -/
theorem lb_lab {h h' : gm_H} {n c L g g' R : Nat} {s e f : Int} {F S X Ln Ln' : Nat → Int} {Q : Nat → Nat → Int} {q q' : Nat × Nat} (hB : LB h n s e f F S Q X Ln c L g R) (hq : q.1 = n + 109 ∨ n + 128 ≤ q.1) (hl : n + 128 ≤ h.1.length) (r1 : h.2.1 + zq1 q.2 ≤ 200 + R) (r2 : h.2.2 + zq2 q.2 ≤ 6000 + 6 * R) (h1 : sbr_at h' (n + 108) q' Ln' g') (w : sx h h' (n + 108) q q') : LB h' n s e f F S Q X Ln' c L g' R := by
  obtain ⟨b1, b2, ⟨u, b3, b4⟩, b5, ⟨A, B, b6⟩, ⟨O, b7⟩, ⟨Z, b8⟩, ⟨p, v, N, k, b9⟩, -⟩ := hB
  obtain ⟨w1, w2, w3, ⟨w4, w5⟩, w6, w7⟩ := w
  have m : ∀ k, k < n + 108 ∨ (n + 110 ≤ k ∧ k < n + 128) → h'.1[k]? = h.1[k]? := fun k z => w3 k (by omega) (by omega) (by omega)
  exact ⟨(m _ (by omega)).trans b1, st_mv (fun k a b => m k (by omega)) b2, ⟨u, st_mv (fun k a b => m k (by omega)) b3, b4⟩, hi_mv (fun k a b => m k (by omega)) b5, ⟨A, B, pr_mv (fun k a b => m k (by omega)) b6⟩, ⟨O, or_mv (fun k a b => m k (by omega)) b7⟩, ⟨Z, (m _ (by omega)).trans b8⟩, ⟨p, v, N, k, pg_mv (fun k a b => m k (by omega)) b9⟩, q', h1, by omega, by omega, by omega⟩
/-- out written -/
theorem lm_set {h : gm_H} {n k : Nat} {K F S P X Ln : Nat → Int} (hk : k = n + 126 ∨ k = n + 127) (c : gm_cl) (hM : LM h (n + 113) K F S P X Ln) : LM (h.1.set k c, h.2) (n + 113) K F S P X Ln :=
  lm_fr hM (gh_set (K := fun j => j = k) gh_rf rfl c) (fun j a b z => by omega)
theorem lb_set {h : gm_H} {n k c L g R : Nat} {s e f : Int} {F S X Ln : Nat → Int} {Q : Nat → Nat → Int} (hk : k = n + 126 ∨ k = n + 127) (d : gm_cl) (hB : LB h n s e f F S Q X Ln c L g R) : LB (h.1.set k d, h.2) n s e f F S Q X Ln c L g R :=
  lb_fr hB (gh_set (K := fun j => j = k) gh_rf rfl d) (fun j a z => by omega)
theorem lo_set {h : gm_H} {n : Nat} {f : Nat → Int64} (hO : LO h n) : LO (h.1.set (n + 126) (gLo f), h.2) n := by
  obtain ⟨⟨f0, h0⟩, ⟨f1, h1⟩, h2⟩ := hO
  exact ⟨⟨f, gs_s h0⟩, ⟨f1, gs_n h1 (by omega)⟩, by rw [List.length_set]; exact h2⟩
theorem lo_setD {h : gm_H} {n : Nat} {f : Nat → UInt64} (hO : LO h n) : LO (h.1.set (n + 127) (gDo f), h.2) n := by
  obtain ⟨⟨f0, h0⟩, ⟨f1, h1⟩, h2⟩ := hO
  exact ⟨⟨f0, gs_n h0 (by omega)⟩, ⟨f, gs_s h1⟩, by rw [List.length_set]; exact h2⟩
