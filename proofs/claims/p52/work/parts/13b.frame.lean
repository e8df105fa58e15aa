/-! what a run leaves alone -/
def gh_fr (h h' : gm_H) (K : Nat → Prop) : Prop := h'.2 = h.2 ∧ h'.1.length = h.1.length ∧ ∀ k, ¬ K k → h'.1[k]? = h.1[k]?
theorem gh_rf {h : gm_H} {K : Nat → Prop} : gh_fr h h K := ⟨rfl, rfl, fun _ _ => rfl⟩
theorem gh_tr {a b c : gm_H} {K : Nat → Prop} (h : gh_fr a b K) (g : gh_fr b c K) : gh_fr a c K := ⟨g.1.trans h.1, g.2.1.trans h.2.1, fun k hk => (g.2.2 k hk).trans (h.2.2 k hk)⟩
theorem gh_mono {a b : gm_H} {K L : Nat → Prop} (h : gh_fr a b K) (g : ∀ k, K k → L k) : gh_fr a b L := ⟨h.1, h.2.1, fun k hk => h.2.2 k fun z => hk (g k z)⟩
theorem gh_set {h h' : gm_H} {K : Nat → Prop} (f : gh_fr h h' K) {k : Nat} (hk : K k) (c : gm_cl) : gh_fr h (h'.1.set k c, h'.2) K :=
  ⟨f.1, by rw [List.length_set]; exact f.2.1, fun j hj => by
    have hne : k ≠ j := fun e => hj (by rw [← e]; exact hk)
    show (h'.1.set k c)[j]? = _
    rw [List.getElem?_set_ne hne]; exact f.2.2 j hj⟩
theorem gh_at {h h' : gm_H} {K : Nat → Prop} (f : gh_fr h h' K) {k : Nat} {c : gm_cl} (hk : h.1[k]? = some c) (hK : ¬ K k) : h'.1[k]? = some c := (f.2.2 k hK).trans hk
theorem gs_s {h : gm_H} {k : Nat} {c c' : gm_cl} (hk : h.1[k]? = some c) : (h.1.set k c', h.2).1[k]? = some c' := by
  show (h.1.set k c')[k]? = some c'
  rw [List.getElem?_set_self (List.getElem?_eq_some_iff.mp hk).1]
theorem gs_n {h : gm_H} {k j : Nat} {c c' : gm_cl} (hj : h.1[j]? = some c) (hne : k ≠ j) : (h.1.set k c', h.2).1[j]? = some c := by
  show (h.1.set k c')[j]? = some c
  rw [List.getElem?_set_ne hne]; exact hj
def zCp (F G : Nat → Int) (n : Nat) : Nat → Int := fun k => if k < n then F k else G k
theorem gi_copy {M : gm_M} {d pc : Nat} {ls : List (Option Value)} {st : List Value} {h : gm_H} {index k0 k1 n0 n1 n : Nat} {F G : Nat → Int} (hd : decode M.2.1 pc = .ok (.invokestatic index, 3)) (hw : gm_cp M index) (hk0 : h.1[k0]? = some (gA n0 F)) (hk1 : h.1[k1]? = some (gA n1 G))
    (h4 : n ≤ n0) (h5 : n ≤ n1) (hn : n ≤ 2147483647) (hrest : (st.map fun v => v.category).sum ≤ 8) (hdd : 1 ≤ d) :
    gm_go M d (pc, ls, .int (zI n) :: .int (zI 0) :: .ref k1 :: .int (zI 0) :: .ref k0 :: st, h) (pc + 3, ls, st, (h.1.set k1 (gA n1 (zCp F G n)), h.2)) := by
  have hc : (zI (n : Int)).toNatClampNeg = n := by rw [zI_cl (by omega)]; omega
  have h0 : (zI 0).toNatClampNeg = 0 := rfl
  have hneg : ¬ zI (n : Int) < 0 := by rw [zI_0, zI_lt (by omega) zR_0]; omega
  have h9 := gm_copy (st := st) (ls := ls) (d := d) (t := 0) (sp := zI 0) (dp := zI 0) (n := zI n) hd hw rfl hk0 hk1 rfl (by decide) (by decide) hneg (by rw [h0, hc]; omega) (by rw [h0, hc]; omega) (fun i hi => rfl) hrest hdd
  rw [h0, hc] at h9
  have e : va_cpy (fun j => zI (F j)) (fun j => zI (G j)) 0 0 n = fun j => zI (zCp F G n j) := by
    funext j
    unfold va_cpy zCp
    by_cases hj : j < n
    · rw [if_pos ⟨Nat.zero_le _, by omega⟩, if_pos hj]
      simp
    · rw [if_neg (by omega), if_neg hj]
  rw [e] at h9
  exact h9
