/-! ints as whole numbers: the rows over zI -/
def zI (z : Int) : Int32 := Int32.ofInt z
def zL (z : Int) : Int64 := Int64.ofInt z
abbrev zR (z : Int) : Prop := -2147483648 ≤ z ∧ z ≤ 2147483647
theorem zI_add (a b : Int) : zI a + zI b = zI (a + b) := (Int32.ofInt_add a b).symm
theorem zI_sub (a b : Int) : zI a - zI b = zI (a - b) := (Int32.ofInt_sub a b).symm
theorem zI_mul (a b : Int) : zI a * zI b = zI (a * b) := (Int32.ofInt_mul a b).symm
theorem zI_neg (a : Int) : -zI a = zI (-a) := (Int32.ofInt_neg a).symm
theorem zI_toInt {a : Int} (h : zR a) : (zI a).toInt = a := Int32.toInt_ofInt_of_le (by have := h.1; omega) (by have := h.2; omega)
theorem zI_lt {a b : Int} (ha : zR a) (hb : zR b) : zI a < zI b ↔ a < b := by rw [Int32.lt_iff_toInt_lt, zI_toInt ha, zI_toInt hb]
theorem zI_le {a b : Int} (ha : zR a) (hb : zR b) : zI a ≤ zI b ↔ a ≤ b := by rw [Int32.le_iff_toInt_le, zI_toInt ha, zI_toInt hb]
theorem zI_eq {a b : Int} (ha : zR a) (hb : zR b) : zI a = zI b ↔ a = b := by rw [← Int32.toInt_inj, zI_toInt ha, zI_toInt hb]
theorem zR_0 : zR 0 := by decide
theorem zI_0 : (0 : Int32) = zI 0 := rfl
theorem zI_nat (n : Nat) : zI (n : Int) = nI n := Int32.ofInt_eq_ofNat
theorem zI_cl {a : Int} (h : zR a) : (zI a).toNatClampNeg = a.toNat := by
  rw [← Int32.toNat_toInt, zI_toInt h]
theorem zI_in {a : Int} {n : Nat} (h0 : 0 ≤ a) (h1 : a < n) (hn : n ≤ 2147483647) : vp_in (zI a) n := by
  have hr : zR a := by omega
  unfold vp_in
  rw [zI_0, zI_lt hr zR_0, zI_cl hr]
  omega
theorem zI_div {a b : Int} (ha : zR a) (hb : zR b) : zI a / zI b = zI (a.tdiv b) := by
  rw [← Int32.toInt_inj]
  have h1 : (zI a / zI b).toInt = ((zI a).toInt.tdiv (zI b).toInt).bmod (2 ^ 32) := Int32.toInt_div _ _
  rw [h1, zI_toInt ha, zI_toInt hb]
  exact (Int32.toInt_ofInt).symm
theorem zI_rem {a b : Int} (ha : zR a) (hb : zR b) : zI a - zI a / zI b * zI b = zI (a.tmod b) := by
  rw [zI_div ha hb, zI_mul, zI_sub, Int.mul_comm, ← Int.tmod_def]
theorem zL_toInt {a : Int} (h1 : -9223372036854775808 ≤ a) (h2 : a ≤ 9223372036854775807) : (zL a).toInt = a := Int64.toInt_ofInt_of_le (by omega) (by omega)
theorem zI_long {a : Int} (h : zR a) : (zI a).toInt64 = zL a := by
  rw [← Int64.toInt_inj, Int32.toInt_toInt64, zI_toInt h, zL_toInt (by have := h.1; omega) (by have := h.2; omega)]
/-- a function changed at one place -/
def zU {α : Type} (F : Nat → α) (k : Nat) (z : α) : Nat → α := fun j => if j = k then z else F j
theorem zU_s {α : Type} {F : Nat → α} {k : Nat} {z : α} : zU F k z k = z := by simp [zU]
theorem zU_n {α : Type} {F : Nat → α} {k j : Nat} {z : α} (h : j ≠ k) : zU F k z j = F j := by simp [zU, h]
/-- an array of ints (of chars), its content as whole numbers -/
abbrev gA (n : Nat) (F : Nat → Int) : gm_cl := .inl (0, n, .inl (fun j => zI (F j)))
abbrev gC (n : Nat) (F : Nat → Int) : gm_cl := .inl (3, n, .inl (fun j => zI (F j)))
theorem gA_up (F : Nat → Int) (k : Nat) (z : Int) : upd (fun j => zI (F j)) k (zI z) = fun j => zI (zU F k z j) := by
  funext j
  unfold upd zU
  split <;> rfl
theorem gA_U (n : Nat) (F : Nat → Int) (k : Nat) (z : Int) : (.inl (0, n, .inl (upd (fun j => zI (F j)) k (zI z))) : gm_cl) = gA n (zU F k z) := by rw [gA_up]
theorem gi_add {M : gm_M} {d pc : Nat} {ls : List (Option Value)} {st : List Value} {h : gm_H} {a b : Int} (hd : decode M.2.1 pc = .ok (.iadd, 1)) : gm_go M d (pc, ls, .int (zI b) :: .int (zI a) :: st, h) (pc + 1, ls, .int (zI (a + b)) :: st, h) := by rw [← zI_add]; exact gm_iadd hd
theorem gi_sub {M : gm_M} {d pc : Nat} {ls : List (Option Value)} {st : List Value} {h : gm_H} {a b : Int} (hd : decode M.2.1 pc = .ok (.isub, 1)) : gm_go M d (pc, ls, .int (zI b) :: .int (zI a) :: st, h) (pc + 1, ls, .int (zI (a - b)) :: st, h) := by rw [← zI_sub]; exact gm_isub hd
theorem gi_mul {M : gm_M} {d pc : Nat} {ls : List (Option Value)} {st : List Value} {h : gm_H} {a b : Int} (hd : decode M.2.1 pc = .ok (.imul, 1)) : gm_go M d (pc, ls, .int (zI b) :: .int (zI a) :: st, h) (pc + 1, ls, .int (zI (a * b)) :: st, h) := by rw [← zI_mul]; exact gm_imul hd
theorem gi_neg {M : gm_M} {d pc : Nat} {ls : List (Option Value)} {st : List Value} {h : gm_H} {a : Int} (hd : decode M.2.1 pc = .ok (.ineg, 1)) : gm_go M d (pc, ls, .int (zI a) :: st, h) (pc + 1, ls, .int (zI (-a)) :: st, h) := by rw [← zI_neg]; exact gm_ineg hd
theorem gi_div {M : gm_M} {d pc : Nat} {ls : List (Option Value)} {st : List Value} {h : gm_H} {a b : Int} (hd : decode M.2.1 pc = .ok (.idiv, 1)) (ha : zR a) (hb : zR b) (h0 : b ≠ 0) : gm_go M d (pc, ls, .int (zI b) :: .int (zI a) :: st, h) (pc + 1, ls, .int (zI (a.tdiv b)) :: st, h) := by rw [← zI_div ha hb]; exact gm_idiv (fun z => h0 ((zI_eq hb zR_0).mp z)) hd
theorem gi_rem {M : gm_M} {d pc : Nat} {ls : List (Option Value)} {st : List Value} {h : gm_H} {a b : Int} (hd : decode M.2.1 pc = .ok (.irem, 1)) (ha : zR a) (hb : zR b) (h0 : b ≠ 0) : gm_go M d (pc, ls, .int (zI b) :: .int (zI a) :: st, h) (pc + 1, ls, .int (zI (a.tmod b)) :: st, h) := by rw [← zI_rem ha hb]; exact gm_irem (fun z => h0 ((zI_eq hb zR_0).mp z)) hd
theorem gi_const {M : gm_M} {d pc : Nat} {ls : List (Option Value)} {st : List Value} {h : gm_H} {n : Int} (hd : decode M.2.1 pc = .ok (.iconst n, 1)) : gm_go M d (pc, ls, st, h) (pc + 1, ls, .int (zI n) :: st, h) := gm_iconst rfl hd
theorem gi_bipush {M : gm_M} {d pc : Nat} {ls : List (Option Value)} {st : List Value} {h : gm_H} {n : Int} (hd : decode M.2.1 pc = .ok (.bipush n, 2)) (hv : (Int8.ofInt n).toInt32 = zI n) : gm_go M d (pc, ls, st, h) (pc + 2, ls, .int (zI n) :: st, h) := gm_bipush hv hd
theorem gi_sipush {M : gm_M} {d pc : Nat} {ls : List (Option Value)} {st : List Value} {h : gm_H} {n : Int} (hd : decode M.2.1 pc = .ok (.sipush n, 3)) (hv : (Int16.ofInt n).toInt32 = zI n) : gm_go M d (pc, ls, st, h) (pc + 3, ls, .int (zI n) :: st, h) := gm_sipush hv hd
theorem gi_i2l {M : gm_M} {d pc : Nat} {ls : List (Option Value)} {st : List Value} {h : gm_H} {a : Int} (hd : decode M.2.1 pc = .ok (.i2l, 1)) (ha : zR a) : gm_go M d (pc, ls, .int (zI a) :: st, h) (pc + 1, ls, .long (zL a) :: st, h) := by rw [← zI_long ha]; exact gm_i2l hd
theorem gi_if_eq_t {M : gm_M} {d pc : Nat} {ls : List (Option Value)} {st : List Value} {h : gm_H} {a : Int} {off : Int} {tgt : Nat} (hd : decode M.2.1 pc = .ok (.ifCond .eq off, 3)) (ht : (pc : Int) + off = (tgt : Int)) (ha : zR a) (hc : a = 0) : gm_go M d (pc, ls, .int (zI a) :: st, h) (tgt, ls, st, h) := gm_if_eq_t hd ht ((zI_eq ha zR_0).mpr hc)
theorem gi_if_eq_f {M : gm_M} {d pc : Nat} {ls : List (Option Value)} {st : List Value} {h : gm_H} {a : Int} {off : Int} (tgt : Nat) (hd : decode M.2.1 pc = .ok (.ifCond .eq off, 3)) (ht : (pc : Int) + off = (tgt : Int)) (ha : zR a) (hc : ¬ a = 0) : gm_go M d (pc, ls, .int (zI a) :: st, h) (pc + 3, ls, st, h) := gm_if_eq_f tgt hd ht (fun z => hc ((zI_eq ha zR_0).mp z))
theorem gi_icmp_eq_t {M : gm_M} {d pc : Nat} {ls : List (Option Value)} {st : List Value} {h : gm_H} {a b : Int} {off : Int} {tgt : Nat} (hd : decode M.2.1 pc = .ok (.if_icmp .eq off, 3)) (ht : (pc : Int) + off = (tgt : Int)) (ha : zR a) (hb : zR b) (hc : a = b) : gm_go M d (pc, ls, .int (zI b) :: .int (zI a) :: st, h) (tgt, ls, st, h) := gm_icmp_eq_t hd ht ((zI_eq ha hb).mpr hc)
theorem gi_icmp_eq_f {M : gm_M} {d pc : Nat} {ls : List (Option Value)} {st : List Value} {h : gm_H} {a b : Int} {off : Int} (tgt : Nat) (hd : decode M.2.1 pc = .ok (.if_icmp .eq off, 3)) (ht : (pc : Int) + off = (tgt : Int)) (ha : zR a) (hb : zR b) (hc : ¬ a = b) : gm_go M d (pc, ls, .int (zI b) :: .int (zI a) :: st, h) (pc + 3, ls, st, h) := gm_icmp_eq_f tgt hd ht (fun z => hc ((zI_eq ha hb).mp z))
theorem gi_if_ne_t {M : gm_M} {d pc : Nat} {ls : List (Option Value)} {st : List Value} {h : gm_H} {a : Int} {off : Int} {tgt : Nat} (hd : decode M.2.1 pc = .ok (.ifCond .ne off, 3)) (ht : (pc : Int) + off = (tgt : Int)) (ha : zR a) (hc : ¬ a = 0) : gm_go M d (pc, ls, .int (zI a) :: st, h) (tgt, ls, st, h) := gm_if_ne_t hd ht (fun z => hc ((zI_eq ha zR_0).mp z))
theorem gi_if_ne_f {M : gm_M} {d pc : Nat} {ls : List (Option Value)} {st : List Value} {h : gm_H} {a : Int} {off : Int} (tgt : Nat) (hd : decode M.2.1 pc = .ok (.ifCond .ne off, 3)) (ht : (pc : Int) + off = (tgt : Int)) (ha : zR a) (hc : a = 0) : gm_go M d (pc, ls, .int (zI a) :: st, h) (pc + 3, ls, st, h) := gm_if_ne_f tgt hd ht ((zI_eq ha zR_0).mpr hc)
theorem gi_icmp_ne_t {M : gm_M} {d pc : Nat} {ls : List (Option Value)} {st : List Value} {h : gm_H} {a b : Int} {off : Int} {tgt : Nat} (hd : decode M.2.1 pc = .ok (.if_icmp .ne off, 3)) (ht : (pc : Int) + off = (tgt : Int)) (ha : zR a) (hb : zR b) (hc : ¬ a = b) : gm_go M d (pc, ls, .int (zI b) :: .int (zI a) :: st, h) (tgt, ls, st, h) := gm_icmp_ne_t hd ht (fun z => hc ((zI_eq ha hb).mp z))
theorem gi_icmp_ne_f {M : gm_M} {d pc : Nat} {ls : List (Option Value)} {st : List Value} {h : gm_H} {a b : Int} {off : Int} (tgt : Nat) (hd : decode M.2.1 pc = .ok (.if_icmp .ne off, 3)) (ht : (pc : Int) + off = (tgt : Int)) (ha : zR a) (hb : zR b) (hc : a = b) : gm_go M d (pc, ls, .int (zI b) :: .int (zI a) :: st, h) (pc + 3, ls, st, h) := gm_icmp_ne_f tgt hd ht ((zI_eq ha hb).mpr hc)
theorem gi_if_lt_t {M : gm_M} {d pc : Nat} {ls : List (Option Value)} {st : List Value} {h : gm_H} {a : Int} {off : Int} {tgt : Nat} (hd : decode M.2.1 pc = .ok (.ifCond .lt off, 3)) (ht : (pc : Int) + off = (tgt : Int)) (ha : zR a) (hc : a < 0) : gm_go M d (pc, ls, .int (zI a) :: st, h) (tgt, ls, st, h) := gm_if_lt_t hd ht ((zI_lt ha zR_0).mpr hc)
theorem gi_if_lt_f {M : gm_M} {d pc : Nat} {ls : List (Option Value)} {st : List Value} {h : gm_H} {a : Int} {off : Int} (tgt : Nat) (hd : decode M.2.1 pc = .ok (.ifCond .lt off, 3)) (ht : (pc : Int) + off = (tgt : Int)) (ha : zR a) (hc : ¬ a < 0) : gm_go M d (pc, ls, .int (zI a) :: st, h) (pc + 3, ls, st, h) := gm_if_lt_f tgt hd ht (fun z => hc ((zI_lt ha zR_0).mp z))
theorem gi_icmp_lt_t {M : gm_M} {d pc : Nat} {ls : List (Option Value)} {st : List Value} {h : gm_H} {a b : Int} {off : Int} {tgt : Nat} (hd : decode M.2.1 pc = .ok (.if_icmp .lt off, 3)) (ht : (pc : Int) + off = (tgt : Int)) (ha : zR a) (hb : zR b) (hc : a < b) : gm_go M d (pc, ls, .int (zI b) :: .int (zI a) :: st, h) (tgt, ls, st, h) := gm_icmp_lt_t hd ht ((zI_lt ha hb).mpr hc)
theorem gi_icmp_lt_f {M : gm_M} {d pc : Nat} {ls : List (Option Value)} {st : List Value} {h : gm_H} {a b : Int} {off : Int} (tgt : Nat) (hd : decode M.2.1 pc = .ok (.if_icmp .lt off, 3)) (ht : (pc : Int) + off = (tgt : Int)) (ha : zR a) (hb : zR b) (hc : ¬ a < b) : gm_go M d (pc, ls, .int (zI b) :: .int (zI a) :: st, h) (pc + 3, ls, st, h) := gm_icmp_lt_f tgt hd ht (fun z => hc ((zI_lt ha hb).mp z))
theorem gi_if_ge_t {M : gm_M} {d pc : Nat} {ls : List (Option Value)} {st : List Value} {h : gm_H} {a : Int} {off : Int} {tgt : Nat} (hd : decode M.2.1 pc = .ok (.ifCond .ge off, 3)) (ht : (pc : Int) + off = (tgt : Int)) (ha : zR a) (hc : 0 ≤ a) : gm_go M d (pc, ls, .int (zI a) :: st, h) (tgt, ls, st, h) := gm_if_ge_t hd ht ((zI_le zR_0 ha).mpr hc)
theorem gi_if_ge_f {M : gm_M} {d pc : Nat} {ls : List (Option Value)} {st : List Value} {h : gm_H} {a : Int} {off : Int} (tgt : Nat) (hd : decode M.2.1 pc = .ok (.ifCond .ge off, 3)) (ht : (pc : Int) + off = (tgt : Int)) (ha : zR a) (hc : ¬ 0 ≤ a) : gm_go M d (pc, ls, .int (zI a) :: st, h) (pc + 3, ls, st, h) := gm_if_ge_f tgt hd ht (fun z => hc ((zI_le zR_0 ha).mp z))
theorem gi_icmp_ge_t {M : gm_M} {d pc : Nat} {ls : List (Option Value)} {st : List Value} {h : gm_H} {a b : Int} {off : Int} {tgt : Nat} (hd : decode M.2.1 pc = .ok (.if_icmp .ge off, 3)) (ht : (pc : Int) + off = (tgt : Int)) (ha : zR a) (hb : zR b) (hc : b ≤ a) : gm_go M d (pc, ls, .int (zI b) :: .int (zI a) :: st, h) (tgt, ls, st, h) := gm_icmp_ge_t hd ht ((zI_le hb ha).mpr hc)
theorem gi_icmp_ge_f {M : gm_M} {d pc : Nat} {ls : List (Option Value)} {st : List Value} {h : gm_H} {a b : Int} {off : Int} (tgt : Nat) (hd : decode M.2.1 pc = .ok (.if_icmp .ge off, 3)) (ht : (pc : Int) + off = (tgt : Int)) (ha : zR a) (hb : zR b) (hc : ¬ b ≤ a) : gm_go M d (pc, ls, .int (zI b) :: .int (zI a) :: st, h) (pc + 3, ls, st, h) := gm_icmp_ge_f tgt hd ht (fun z => hc ((zI_le hb ha).mp z))
theorem gi_if_gt_t {M : gm_M} {d pc : Nat} {ls : List (Option Value)} {st : List Value} {h : gm_H} {a : Int} {off : Int} {tgt : Nat} (hd : decode M.2.1 pc = .ok (.ifCond .gt off, 3)) (ht : (pc : Int) + off = (tgt : Int)) (ha : zR a) (hc : 0 < a) : gm_go M d (pc, ls, .int (zI a) :: st, h) (tgt, ls, st, h) := gm_if_gt_t hd ht ((zI_lt zR_0 ha).mpr hc)
theorem gi_if_gt_f {M : gm_M} {d pc : Nat} {ls : List (Option Value)} {st : List Value} {h : gm_H} {a : Int} {off : Int} (tgt : Nat) (hd : decode M.2.1 pc = .ok (.ifCond .gt off, 3)) (ht : (pc : Int) + off = (tgt : Int)) (ha : zR a) (hc : ¬ 0 < a) : gm_go M d (pc, ls, .int (zI a) :: st, h) (pc + 3, ls, st, h) := gm_if_gt_f tgt hd ht (fun z => hc ((zI_lt zR_0 ha).mp z))
theorem gi_icmp_gt_t {M : gm_M} {d pc : Nat} {ls : List (Option Value)} {st : List Value} {h : gm_H} {a b : Int} {off : Int} {tgt : Nat} (hd : decode M.2.1 pc = .ok (.if_icmp .gt off, 3)) (ht : (pc : Int) + off = (tgt : Int)) (ha : zR a) (hb : zR b) (hc : b < a) : gm_go M d (pc, ls, .int (zI b) :: .int (zI a) :: st, h) (tgt, ls, st, h) := gm_icmp_gt_t hd ht ((zI_lt hb ha).mpr hc)
theorem gi_icmp_gt_f {M : gm_M} {d pc : Nat} {ls : List (Option Value)} {st : List Value} {h : gm_H} {a b : Int} {off : Int} (tgt : Nat) (hd : decode M.2.1 pc = .ok (.if_icmp .gt off, 3)) (ht : (pc : Int) + off = (tgt : Int)) (ha : zR a) (hb : zR b) (hc : ¬ b < a) : gm_go M d (pc, ls, .int (zI b) :: .int (zI a) :: st, h) (pc + 3, ls, st, h) := gm_icmp_gt_f tgt hd ht (fun z => hc ((zI_lt hb ha).mp z))
theorem gi_if_le_t {M : gm_M} {d pc : Nat} {ls : List (Option Value)} {st : List Value} {h : gm_H} {a : Int} {off : Int} {tgt : Nat} (hd : decode M.2.1 pc = .ok (.ifCond .le off, 3)) (ht : (pc : Int) + off = (tgt : Int)) (ha : zR a) (hc : a ≤ 0) : gm_go M d (pc, ls, .int (zI a) :: st, h) (tgt, ls, st, h) := gm_if_le_t hd ht ((zI_le ha zR_0).mpr hc)
theorem gi_if_le_f {M : gm_M} {d pc : Nat} {ls : List (Option Value)} {st : List Value} {h : gm_H} {a : Int} {off : Int} (tgt : Nat) (hd : decode M.2.1 pc = .ok (.ifCond .le off, 3)) (ht : (pc : Int) + off = (tgt : Int)) (ha : zR a) (hc : ¬ a ≤ 0) : gm_go M d (pc, ls, .int (zI a) :: st, h) (pc + 3, ls, st, h) := gm_if_le_f tgt hd ht (fun z => hc ((zI_le ha zR_0).mp z))
theorem gi_icmp_le_t {M : gm_M} {d pc : Nat} {ls : List (Option Value)} {st : List Value} {h : gm_H} {a b : Int} {off : Int} {tgt : Nat} (hd : decode M.2.1 pc = .ok (.if_icmp .le off, 3)) (ht : (pc : Int) + off = (tgt : Int)) (ha : zR a) (hb : zR b) (hc : a ≤ b) : gm_go M d (pc, ls, .int (zI b) :: .int (zI a) :: st, h) (tgt, ls, st, h) := gm_icmp_le_t hd ht ((zI_le ha hb).mpr hc)
theorem gi_icmp_le_f {M : gm_M} {d pc : Nat} {ls : List (Option Value)} {st : List Value} {h : gm_H} {a b : Int} {off : Int} (tgt : Nat) (hd : decode M.2.1 pc = .ok (.if_icmp .le off, 3)) (ht : (pc : Int) + off = (tgt : Int)) (ha : zR a) (hb : zR b) (hc : ¬ a ≤ b) : gm_go M d (pc, ls, .int (zI b) :: .int (zI a) :: st, h) (pc + 3, ls, st, h) := gm_icmp_le_f tgt hd ht (fun z => hc ((zI_le ha hb).mp z))
theorem gi_iinc {M : gm_M} {d pc : Nat} {ls : List (Option Value)} {st : List Value} {h : gm_H} {i : Nat} {n x : Int} {ls' : List (Option Value)} (hd : decode M.2.1 pc = .ok (.iinc i n, 3)) (hv : ls[i]? = some (some (.int (zI x)))) (hn : i < M.2.2.1) (he : gm_s1 ls i (.int (zI (x + n))) = ls') : gm_go M d (pc, ls, st, h) (pc + 3, ls', st, h) := gm_iinc hd hv hn (zI_add x n) he
theorem gi_ald {M : gm_M} {d pc : Nat} {ls : List (Option Value)} {st : List Value} {h : gm_H} {k n : Nat} {a : Int} {F : Nat → Int} (hd : decode M.2.1 pc = .ok (.iaload, 1)) (hk : h.1[k]? = some (gA n F)) (h0 : 0 ≤ a) (h1 : a < n) (hn : n ≤ 2147483647) : gm_go M d (pc, ls, .int (zI a) :: .ref k :: st, h) (pc + 1, ls, .int (zI (F a.toNat)) :: st, h) := by
  have h9 := gm_iald (st := st) (ls := ls) (d := d) (i := zI a) hd hk (zI_in h0 h1 hn)
  rw [zI_cl (by omega)] at h9
  exact h9
theorem gi_ast {M : gm_M} {d pc : Nat} {ls : List (Option Value)} {st : List Value} {h : gm_H} {k n : Nat} {a z : Int} {F : Nat → Int} (hd : decode M.2.1 pc = .ok (.iastore, 1)) (hk : h.1[k]? = some (gA n F)) (h0 : 0 ≤ a) (h1 : a < n) (hn : n ≤ 2147483647) : gm_go M d (pc, ls, .int (zI z) :: .int (zI a) :: .ref k :: st, h) (pc + 1, ls, st, (h.1.set k (gA n (zU F a.toNat z)), h.2)) := by
  have h9 := gm_iast (st := st) (ls := ls) (d := d) (i := zI a) (x := zI z) hd hk (zI_in h0 h1 hn)
  rw [zI_cl (by omega), gA_up] at h9
  exact h9
theorem gi_cald {M : gm_M} {d pc : Nat} {ls : List (Option Value)} {st : List Value} {h : gm_H} {k n : Nat} {a : Int} {F : Nat → Int} (hd : decode M.2.1 pc = .ok (.caload, 1)) (hk : h.1[k]? = some (gC n F)) (h0 : 0 ≤ a) (h1 : a < n) (hn : n ≤ 2147483647) : gm_go M d (pc, ls, .int (zI a) :: .ref k :: st, h) (pc + 1, ls, .int (zI (F a.toNat)) :: st, h) := by
  have h9 := gm_cald (st := st) (ls := ls) (d := d) (i := zI a) hd hk (zI_in h0 h1 hn)
  rw [zI_cl (by omega)] at h9
  exact h9
theorem zI_char {z : Int} (h0 : 0 ≤ z) (h1 : z < 65536) : vp_nar .char (zI z) = zI z := by
  obtain ⟨n, rfl⟩ : ∃ n : Nat, z = (n : Int) := ⟨z.toNat, by omega⟩
  rw [zI_nat, vp_nar_char]
  have h2 : ((nI n).toUInt32 % 65536).toInt32 = nI n := by
    rw [pk_char, pk_tn (by omega), Nat.mod_eq_of_lt (by omega)]
  exact h2
theorem zI_i2c {z : Int} (h0 : 0 ≤ z) (h1 : z < 65536) : ((zI z).toUInt32 % 65536).toInt32 = zI z := by
  obtain ⟨n, rfl⟩ : ∃ n : Nat, z = (n : Int) := ⟨z.toNat, by omega⟩
  rw [zI_nat, pk_char, pk_tn (by omega), Nat.mod_eq_of_lt (by omega)]
theorem gi_cast {M : gm_M} {d pc : Nat} {ls : List (Option Value)} {st : List Value} {h : gm_H} {k n : Nat} {a z : Int} {F : Nat → Int} (hd : decode M.2.1 pc = .ok (.castore, 1)) (hk : h.1[k]? = some (gC n F)) (h0 : 0 ≤ a) (h1 : a < n) (hn : n ≤ 2147483647) (hz : 0 ≤ z) (hz2 : z < 65536) : gm_go M d (pc, ls, .int (zI z) :: .int (zI a) :: .ref k :: st, h) (pc + 1, ls, st, (h.1.set k (gC n (zU F a.toNat z)), h.2)) := by
  have h9 := gm_cast (st := st) (ls := ls) (d := d) (i := zI a) (x := zI z) hd hk (zI_in h0 h1 hn)
  rw [zI_cl (by omega), zI_char hz hz2, gA_up] at h9
  exact h9
theorem gi_i2c {M : gm_M} {d pc : Nat} {ls : List (Option Value)} {st : List Value} {h : gm_H} {z : Int} (hd : decode M.2.1 pc = .ok (.i2c, 1)) (h0 : 0 ≤ z) (h1 : z < 65536) : gm_go M d (pc, ls, .int (zI z) :: st, h) (pc + 1, ls, .int (zI z) :: st, h) := by
  have h9 := gm_i2c (st := st) (ls := ls) (d := d) (h := h) (x := zI z) hd
  rw [zI_i2c h0 h1] at h9
  exact h9
theorem gi_alen {M : gm_M} {d pc : Nat} {ls : List (Option Value)} {st : List Value} {h : gm_H} {k n : Nat} {F : Nat → Int} (hd : decode M.2.1 pc = .ok (.arraylength, 1)) (hk : h.1[k]? = some (gA n F)) : gm_go M d (pc, ls, .ref k :: st, h) (pc + 1, ls, .int (zI n) :: st, h) := gm_alen hd hk (zI_nat n).symm
/-! bits: sets of eight -/
theorem gm_nIand (a b : Nat) : nI a &&& nI b = nI (a &&& b) := by
  apply Int32.toBitVec_inj.1
  show BitVec.ofNat 32 a &&& BitVec.ofNat 32 b = BitVec.ofNat 32 (a &&& b)
  apply BitVec.eq_of_getLsbD_eq
  intro i hi
  simp [hi]
theorem gm_nIor (a b : Nat) : nI a ||| nI b = nI (a ||| b) := by
  apply Int32.toBitVec_inj.1
  show BitVec.ofNat 32 a ||| BitVec.ofNat 32 b = BitVec.ofNat 32 (a ||| b)
  apply BitVec.eq_of_getLsbD_eq
  intro i hi
  simp [hi]
theorem zI_and (a b : Nat) : zI (a : Int) &&& zI (b : Int) = zI ((a &&& b : Nat) : Int) := by rw [zI_nat, zI_nat, zI_nat]; exact gm_nIand a b
theorem zI_or (a b : Nat) : zI (a : Int) ||| zI (b : Int) = zI ((a ||| b : Nat) : Int) := by rw [zI_nat, zI_nat, zI_nat]; exact gm_nIor a b
theorem zI_shl1 : ∀ k : Nat, k < 31 → zI 1 <<< (zI (k : Int) &&& 31) = zI ((2 ^ k : Nat) : Int) := by decide +kernel
theorem zI_shr {n k : Nat} (hn : n < 2 ^ 31) (hk : k < 32) : zI (n : Int) >>> (zI (k : Int) &&& 31) = zI ((n / 2 ^ k : Nat) : Int) := by
  rw [zI_nat, zI_nat, zI_nat]
  have h1 : ∀ k, k < 32 → ((nI k &&& 31).toBitVec.smod 32).toNat = k := by decide +kernel
  exact pk_shrN hn _ k (h1 k hk)
theorem zI_not (a : Int) : zI a ^^^ zI (-1) = zI (-a - 1) := by
  have h1 : ∀ x : Int32, x ^^^ (-1) = ~~~x := by
    intro x
    apply Int32.toBitVec_inj.mp
    rw [Int32.toBitVec_xor, Int32.toBitVec_not]
    exact BitVec.xor_allOnes
  rw [show zI (-1) = (-1 : Int32) from rfl, h1, Int32.not_eq_neg_sub, zI_neg]
  exact zI_sub (-a) 1
/-- without the place k -/
def zC (n k : Nat) : Nat := if n.testBit k then n - 2 ^ k else n
theorem zI_clr : ∀ n : Nat, n < 256 → ∀ k : Nat, k < 8 → zI (n : Int) &&& zI (-((2 ^ k : Nat) : Int) - 1) = zI ((zC n k : Nat) : Int) := by decide +kernel
