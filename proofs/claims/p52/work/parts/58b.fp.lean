/-! quotients of ints as double and float are numbers -/
theorem zt64 : FP.Core.Fmt.tails FP.Core.b64 = 4503599627370496 := by decide
theorem ze64 : FP.Core.Fmt.exps FP.Core.b64 = 2048 := by decide
theorem zx64 : FP.Core.Fmt.qmax FP.Core.b64 = 971 := by decide
theorem zm64 : FP.Core.Fmt.qmin FP.Core.b64 = -1074 := by decide
theorem zp64 : 2 ^ FP.Core.Fmt.p FP.Core.b64 = 9007199254740992 := by decide
theorem zt32 : FP.Core.Fmt.tails FP.Core.b32 = 8388608 := by decide
theorem ze32 : FP.Core.Fmt.exps FP.Core.b32 = 256 := by decide
theorem zx32 : FP.Core.Fmt.qmax FP.Core.b32 = 104 := by decide
theorem zm32 : FP.Core.Fmt.qmin FP.Core.b32 = -149 := by decide
theorem zp32 : 2 ^ FP.Core.Fmt.p FP.Core.b32 = 16777216 := by decide
def zNm64 (n : Nat) : Prop := ∃ b E T : Nat, b ≤ 1 ∧ E ≤ 2047 ∧ T < 4503599627370496 ∧ (E = 2047 → T = 0) ∧ n = (b * 2048 + E) * 4503599627370496 + T
def zNm32 (n : Nat) : Prop := ∃ b E T : Nat, b ≤ 1 ∧ E ≤ 255 ∧ T < 8388608 ∧ (E = 255 → T = 0) ∧ n = (b * 256 + E) * 8388608 + T
theorem zb_1 (s : Bool) : s.toNat ≤ 1 := by cases s <;> decide
theorem zEn64 (s : Bool) (c : Nat) (q : Int) (hq : -1074 ≤ q) : zNm64 (FP.Core.encode FP.Core.b64 (FP.Core.settle FP.Core.b64 s c q)) := by
  unfold FP.Core.settle FP.Core.bound
  simp only [zp64, zx64, zt64]
  have hs := zb_1 s
  split
  · split
    · unfold FP.Core.encode
      simp only [zt64, ze64, zm64, FP.Core.assemble]
      split
      · exact ⟨s.toNat, 0, c, hs, by omega, by omega, by omega, rfl⟩
      · exact ⟨s.toNat, (q - -1074).toNat + 1, c - 4503599627370496, hs, by omega, by omega, by omega, rfl⟩
    · unfold FP.Core.encode
      simp only [zt64, ze64, FP.Core.assemble]
      exact ⟨s.toNat, 2047, 0, hs, by omega, by omega, by omega, rfl⟩
  · split
    · unfold FP.Core.encode
      simp only [zt64, ze64, zm64, FP.Core.assemble]
      split
      · omega
      · exact ⟨s.toNat, (q + 1 - -1074).toNat + 1, 4503599627370496 - 4503599627370496, hs, by omega, by omega, by omega, rfl⟩
    · unfold FP.Core.encode
      simp only [zt64, ze64, FP.Core.assemble]
      exact ⟨s.toNat, 2047, 0, hs, by omega, by omega, by omega, rfl⟩
theorem zEn32 (s : Bool) (c : Nat) (q : Int) (hq : -149 ≤ q) : zNm32 (FP.Core.encode FP.Core.b32 (FP.Core.settle FP.Core.b32 s c q)) := by
  unfold FP.Core.settle FP.Core.bound
  simp only [zp32, zx32, zt32]
  have hs := zb_1 s
  split
  · split
    · unfold FP.Core.encode
      simp only [zt32, ze32, zm32, FP.Core.assemble]
      split
      · exact ⟨s.toNat, 0, c, hs, by omega, by omega, by omega, rfl⟩
      · exact ⟨s.toNat, (q - -149).toNat + 1, c - 8388608, hs, by omega, by omega, by omega, rfl⟩
    · unfold FP.Core.encode
      simp only [zt32, ze32, FP.Core.assemble]
      exact ⟨s.toNat, 255, 0, hs, by omega, by omega, by omega, rfl⟩
  · split
    · unfold FP.Core.encode
      simp only [zt32, ze32, zm32, FP.Core.assemble]
      split
      · omega
      · exact ⟨s.toNat, (q + 1 - -149).toNat + 1, 8388608 - 8388608, hs, by omega, by omega, by omega, rfl⟩
    · unfold FP.Core.encode
      simp only [zt32, ze32, FP.Core.assemble]
      exact ⟨s.toNat, 255, 0, hs, by omega, by omega, by omega, rfl⟩
theorem zRo64 (s : Bool) (a b : Nat) (q : Int) : zNm64 (FP.Core.encode FP.Core.b64 (FP.Core.roundRatio FP.Core.b64 s a b q)) := by
  unfold FP.Core.roundRatio
  split
  · unfold FP.Core.encode
    simp only [zt64, ze64, zm64, FP.Core.assemble]
    exact ⟨s.toNat, 0, 0, zb_1 s, by omega, by omega, by omega, rfl⟩
  · exact zEn64 _ _ _ (by unfold FP.Core.quantum; rw [zm64]; exact Int.le_max_left _ _)
theorem zRo32 (s : Bool) (a b : Nat) (q : Int) : zNm32 (FP.Core.encode FP.Core.b32 (FP.Core.roundRatio FP.Core.b32 s a b q)) := by
  unfold FP.Core.roundRatio
  split
  · unfold FP.Core.encode
    simp only [zt32, ze32, zm32, FP.Core.assemble]
    exact ⟨s.toNat, 0, 0, zb_1 s, by omega, by omega, by omega, rfl⟩
  · exact zEn32 _ _ _ (by unfold FP.Core.quantum; rw [zm32]; exact Int.le_max_left _ _)
theorem zlead {n : Nat} (hn : n ≠ 0) : FP.Core.leading n 1 = (n.log2 : Int) := by
  have h1 : 2 ^ n.log2 ≤ n := Nat.log2_self_le hn
  have h2 : (1 : Nat).log2 = 0 := by decide +kernel
  unfold FP.Core.leading
  rw [h2]
  simp only [show ((n.log2 : Int) - ((0 : Nat) : Int)).toNat = n.log2 by omega, show (-((n.log2 : Int) - ((0 : Nat) : Int))).toNat = 0 by omega]
  rw [if_pos (by omega)]
  omega
theorem zqt32 {n : Nat} (hn : n ≠ 0) (h : n < 16777216) : FP.Core.quantum FP.Core.b32 n 1 0 = (n.log2 : Int) - 23 := by
  unfold FP.Core.quantum
  rw [zlead hn, zm32, show ((FP.Core.Fmt.p FP.Core.b32 : Nat) : Int) = 24 from rfl]
  have h2 : n.log2 < 24 := (Nat.log2_lt hn).mpr (by rw [show (2 : Nat) ^ 24 = 16777216 by decide]; exact h)
  omega
theorem zfn32 {n : Nat} (h : n < 16777216) : ∃ s c q, FP.Core.decode FP.Core.b32 (FP.Core.fromInt FP.Core.b32 (n : Int)) = .fin s c q ∧ (n ≠ 0 → c ≠ 0) := by
  by_cases hn : n = 0
  · subst hn
    exact ⟨false, 0, (-149), by decide +kernel, fun z => absurd rfl z⟩
  · have hk : n.log2 < 24 := (Nat.log2_lt hn).mpr (by rw [show (2 : Nat) ^ 24 = 16777216 by decide]; exact h)
    have h1 : 2 ^ n.log2 ≤ n := Nat.log2_self_le hn
    have h2 : n < 2 ^ (n.log2 + 1) := Nat.lt_log2_self
    have e1 : 2 ^ n.log2 * 2 ^ (23 - n.log2) = 8388608 := by rw [← Nat.pow_add, show n.log2 + (23 - n.log2) = 23 by omega]
    have e2 : 2 ^ (n.log2 + 1) * 2 ^ (23 - n.log2) = 16777216 := by rw [← Nat.pow_add, show n.log2 + 1 + (23 - n.log2) = 24 by omega]
    have b1 : 8388608 ≤ n * 2 ^ (23 - n.log2) := by rw [← e1]; exact Nat.mul_le_mul_right _ h1
    have b2 : n * 2 ^ (23 - n.log2) < 16777216 := by rw [← e2]; exact Nat.mul_lt_mul_of_pos_right h2 (Nat.pow_pos (by decide))
    have e3 : FP.Core.fromInt FP.Core.b32 (n : Int) = FP.Core.encode FP.Core.b32 (FP.Core.settle FP.Core.b32 (decide ((n : Int) < 0)) (n * 2 ^ (23 - n.log2)) ((n.log2 : Int) - 23)) := by
      show FP.Core.encode FP.Core.b32 (FP.Core.roundRatio FP.Core.b32 (decide ((n : Int) < 0)) (n : Int).natAbs 1 0) = _
      rw [Int.natAbs_natCast]
      unfold FP.Core.roundRatio
      rw [if_neg hn, zqt32 hn h]
      unfold FP.Core.roundAt FP.Core.unitsNum FP.Core.unitsDen FP.Core.nearest
      rw [show ((n.log2 : Int) - 23 - 0).toNat = 0 by omega, show (0 - ((n.log2 : Int) - 23)).toNat = 23 - n.log2 by omega, Nat.pow_zero, Nat.mul_one, Nat.mod_one, if_pos (by decide), Nat.div_one]
    rw [e3]
    generalize n * 2 ^ (23 - n.log2) = a at *
    unfold FP.Core.settle FP.Core.bound
    rw [zp32, zx32, if_pos b2, if_pos (by omega)]
    unfold FP.Core.encode
    simp only [zt32]
    rw [if_neg (by omega)]
    simp only [zm32, ze32, zt32, FP.Core.assemble]
    have hb := zb_1 (decide ((n : Int) < 0))
    generalize (decide ((n : Int) < 0)).toNat = sb at *
    unfold FP.Core.decode FP.Core.fieldE FP.Core.fieldT
    simp only [zt32, ze32]
    rw [if_neg (by omega), if_neg (by omega)]
    exact ⟨_, _, _, rfl, fun _ => by omega⟩
theorem zqt64 {n : Nat} (hn : n ≠ 0) (h : n < 9007199254740992) : FP.Core.quantum FP.Core.b64 n 1 0 = (n.log2 : Int) - 52 := by
  unfold FP.Core.quantum
  rw [zlead hn, zm64, show ((FP.Core.Fmt.p FP.Core.b64 : Nat) : Int) = 53 from rfl]
  have h2 : n.log2 < 53 := (Nat.log2_lt hn).mpr (by rw [show (2 : Nat) ^ 53 = 9007199254740992 by decide]; exact h)
  omega
theorem zfn64 {n : Nat} (h : n < 9007199254740992) : ∃ s c q, FP.Core.decode FP.Core.b64 (FP.Core.fromInt FP.Core.b64 (n : Int)) = .fin s c q ∧ (n ≠ 0 → c ≠ 0) := by
  by_cases hn : n = 0
  · subst hn
    exact ⟨false, 0, (-1074), by decide +kernel, fun z => absurd rfl z⟩
  · have hk : n.log2 < 53 := (Nat.log2_lt hn).mpr (by rw [show (2 : Nat) ^ 53 = 9007199254740992 by decide]; exact h)
    have h1 : 2 ^ n.log2 ≤ n := Nat.log2_self_le hn
    have h2 : n < 2 ^ (n.log2 + 1) := Nat.lt_log2_self
    have e1 : 2 ^ n.log2 * 2 ^ (52 - n.log2) = 4503599627370496 := by rw [← Nat.pow_add, show n.log2 + (52 - n.log2) = 52 by omega]
    have e2 : 2 ^ (n.log2 + 1) * 2 ^ (52 - n.log2) = 9007199254740992 := by rw [← Nat.pow_add, show n.log2 + 1 + (52 - n.log2) = 53 by omega]
    have b1 : 4503599627370496 ≤ n * 2 ^ (52 - n.log2) := by rw [← e1]; exact Nat.mul_le_mul_right _ h1
    have b2 : n * 2 ^ (52 - n.log2) < 9007199254740992 := by rw [← e2]; exact Nat.mul_lt_mul_of_pos_right h2 (Nat.pow_pos (by decide))
    have e3 : FP.Core.fromInt FP.Core.b64 (n : Int) = FP.Core.encode FP.Core.b64 (FP.Core.settle FP.Core.b64 (decide ((n : Int) < 0)) (n * 2 ^ (52 - n.log2)) ((n.log2 : Int) - 52)) := by
      show FP.Core.encode FP.Core.b64 (FP.Core.roundRatio FP.Core.b64 (decide ((n : Int) < 0)) (n : Int).natAbs 1 0) = _
      rw [Int.natAbs_natCast]
      unfold FP.Core.roundRatio
      rw [if_neg hn, zqt64 hn h]
      unfold FP.Core.roundAt FP.Core.unitsNum FP.Core.unitsDen FP.Core.nearest
      rw [show ((n.log2 : Int) - 52 - 0).toNat = 0 by omega, show (0 - ((n.log2 : Int) - 52)).toNat = 52 - n.log2 by omega, Nat.pow_zero, Nat.mul_one, Nat.mod_one, if_pos (by decide), Nat.div_one]
    rw [e3]
    generalize n * 2 ^ (52 - n.log2) = a at *
    unfold FP.Core.settle FP.Core.bound
    rw [zp64, zx64, if_pos b2, if_pos (by omega)]
    unfold FP.Core.encode
    simp only [zt64]
    rw [if_neg (by omega)]
    simp only [zm64, ze64, zt64, FP.Core.assemble]
    have hb := zb_1 (decide ((n : Int) < 0))
    generalize (decide ((n : Int) < 0)).toNat = sb at *
    unfold FP.Core.decode FP.Core.fieldE FP.Core.fieldT
    simp only [zt64, ze64]
    rw [if_neg (by omega), if_neg (by omega)]
    exact ⟨_, _, _, rfl, fun _ => by omega⟩
theorem zNm_lt64 {n : Nat} (h : zNm64 n) : n < 18446744073709551616 := by obtain ⟨b, E, T, h1, h2, h3, h4, h5⟩ := h; omega
theorem zNm_lt32 {n : Nat} (h : zNm32 n) : n < 4294967296 := by obtain ⟨b, E, T, h1, h2, h3, h4, h5⟩ := h; omega
theorem zNm_mod64 {n : Nat} (h : zNm64 n) : n % 9223372036854775808 ≤ 9218868437227405312 := by obtain ⟨b, E, T, h1, h2, h3, h4, h5⟩ := h; omega
theorem zNm_mod32 {n : Nat} (h : zNm32 n) : n % 2147483648 ≤ 2139095040 := by obtain ⟨b, E, T, h1, h2, h3, h4, h5⟩ := h; omega
theorem zvn64 {n : Nat} (h : zNm64 n) : vf_n64 (UInt64.ofNat n) := by
  unfold vf_n64
  rw [UInt64.le_iff_toNat_le, UInt64.toNat_and]
  have h1 : (UInt64.ofNat n).toNat = n := UInt64.toNat_ofNat_of_lt' (zNm_lt64 h)
  rw [h1, show (0x7fffffffffffffff : UInt64).toNat = 2 ^ 63 - 1 by decide, show (0x7ff0000000000000 : UInt64).toNat = 9218868437227405312 by decide, Nat.and_two_pow_sub_one_eq_mod]
  exact zNm_mod64 h
theorem zvn32 {n : Nat} (h : zNm32 n) : vf_n32 (UInt32.ofNat n) := by
  unfold vf_n32
  rw [UInt32.le_iff_toNat_le, UInt32.toNat_and]
  have h1 : (UInt32.ofNat n).toNat = n := UInt32.toNat_ofNat_of_lt' (zNm_lt32 h)
  rw [h1, show (0x7fffffff : UInt32).toNat = 2 ^ 31 - 1 by decide, show (0x7f800000 : UInt32).toNat = 2139095040 by decide, Nat.and_two_pow_sub_one_eq_mod]
  exact zNm_mod32 h
theorem zi2d_n {n : Nat} (h : n ≤ 25600) : (FP.i2d (zI (n : Int))).toNat = FP.Core.fromInt FP.Core.b64 (n : Int) := by
  show (UInt64.ofNat (FP.Core.fromInt FP.Core.b64 (zI (n : Int)).toInt)).toNat = _
  rw [zI_toInt (by omega)]
  refine UInt64.toNat_ofNat_of_lt' (zNm_lt64 ?_)
  exact zRo64 _ _ _ _
theorem zi2f_n {n : Nat} (h : n ≤ 60000) : (FP.i2f (zI (n : Int))).toNat = FP.Core.fromInt FP.Core.b32 (n : Int) := by
  show (UInt32.ofNat (FP.Core.fromInt FP.Core.b32 (zI (n : Int)).toInt)).toNat = _
  rw [zI_toInt (by omega)]
  refine UInt32.toNat_ofNat_of_lt' (zNm_lt32 ?_)
  exact zRo32 _ _ _ _
/-- the mean of errors -/
def zMe (a b : Nat) : UInt64 := FP.ddiv (FP.i2d (zI (a : Int))) (FP.i2d (zI (b : Int)))
/-- a share -/
def zSh (a b : Nat) : UInt32 := FP.fdiv (FP.i2f (zI (a : Int))) (FP.i2f (zI (b : Int)))
theorem zMe_nm {a b : Nat} (ha : a ≤ 25600) (hb : b ≤ 25600) (h0 : b ≠ 0) : ∃ n, zNm64 n ∧ zMe a b = UInt64.ofNat n := by
  refine ⟨_, ?_, rfl⟩
  rw [zi2d_n ha, zi2d_n hb]
  obtain ⟨s, c, q, d1, d2⟩ := zfn64 (show a < 9007199254740992 by omega)
  obtain ⟨s', c', q', e1, e2⟩ := zfn64 (show b < 9007199254740992 by omega)
  unfold FP.Core.div
  rw [d1, e1]
  unfold FP.Core.quotient
  simp only [if_neg (e2 h0)]
  exact zRo64 _ _ _ _
theorem zSh_nm {a b : Nat} (ha : a ≤ 60000) (hb : b ≤ 60000) (h0 : b ≠ 0) : ∃ n, zNm32 n ∧ zSh a b = UInt32.ofNat n := by
  refine ⟨_, ?_, rfl⟩
  rw [zi2f_n ha, zi2f_n hb]
  obtain ⟨s, c, q, d1, d2⟩ := zfn32 (show a < 16777216 by omega)
  obtain ⟨s', c', q', e1, e2⟩ := zfn32 (show b < 16777216 by omega)
  unfold FP.Core.div
  rw [d1, e1]
  unfold FP.Core.quotient
  simp only [if_neg (e2 h0)]
  exact zRo32 _ _ _ _
theorem zMe_n {a b : Nat} (ha : a ≤ 25600) (hb : b ≤ 25600) (h0 : b ≠ 0) : vf_n64 (zMe a b) := by
  obtain ⟨n, h1, h2⟩ := zMe_nm ha hb h0
  rw [h2]; exact zvn64 h1
theorem zSh_n {a b : Nat} (ha : a ≤ 60000) (hb : b ≤ 60000) (h0 : b ≠ 0) : vf_n32 (zSh a b) := by
  obtain ⟨n, h1, h2⟩ := zSh_nm ha hb h0
  rw [h2]; exact zvn32 h1
theorem zdc64 {n : Nat} (h : zNm64 n) : (∃ s, FP.Core.decode FP.Core.b64 n = .inf s) ∨ ∃ s c q, FP.Core.decode FP.Core.b64 n = .fin s c q := by
  obtain ⟨b, E, T, h1, h2, h3, h4, h5⟩ := h
  unfold FP.Core.decode FP.Core.fieldE FP.Core.fieldT
  simp only [zt64, ze64]
  split
  · split
    · exact Or.inl ⟨_, rfl⟩
    · exfalso; omega
  · split
    · exact Or.inr ⟨_, _, _, rfl⟩
    · exact Or.inr ⟨_, _, _, rfl⟩
theorem zdc32 {n : Nat} (h : zNm32 n) : (∃ s, FP.Core.decode FP.Core.b32 n = .inf s) ∨ ∃ s c q, FP.Core.decode FP.Core.b32 n = .fin s c q := by
  obtain ⟨b, E, T, h1, h2, h3, h4, h5⟩ := h
  unfold FP.Core.decode FP.Core.fieldE FP.Core.fieldT
  simp only [zt32, ze32]
  split
  · split
    · exact Or.inl ⟨_, rfl⟩
    · exfalso; omega
  · split
    · exact Or.inr ⟨_, _, _, rfl⟩
    · exact Or.inr ⟨_, _, _, rfl⟩
theorem zcmp_s (a : Int) : compare a a = Ordering.eq := by
  show compareOfLessAndEq a a = _
  unfold compareOfLessAndEq
  simp
/-- a number equals itself -/
theorem zdcmp {n : Nat} (h : zNm64 n) : FP.dcmp (UInt64.ofNat n) (UInt64.ofNat n) = some .eq := by
  show FP.Core.order (FP.Core.decode FP.Core.b64 (UInt64.ofNat n).toNat) (FP.Core.decode FP.Core.b64 (UInt64.ofNat n).toNat) = _
  rw [UInt64.toNat_ofNat_of_lt' (zNm_lt64 h)]
  rcases zdc64 h with ⟨s, e⟩ | ⟨s, c, q, e⟩ <;> rw [e] <;> unfold FP.Core.order <;> simp only [zcmp_s]
/-- a number of one format in the other -/
theorem zf2d {n : Nat} (h : zNm32 n) : ∃ k, zNm64 k ∧ FP.f2d (UInt32.ofNat n) = UInt64.ofNat k := by
  have e0 : (UInt32.ofNat n).toNat = n := UInt32.toNat_ofNat_of_lt' (zNm_lt32 h)
  have hn : FP.Core.fIsNaN (UInt32.ofNat n) = false := by
    show decide (FP.Core.decode FP.Core.b32 (UInt32.ofNat n).toNat = .nan) = false
    rw [e0]
    rcases zdc32 h with ⟨s, e⟩ | ⟨s, c, q, e⟩ <;> rw [e] <;> simp
  unfold FP.f2d
  rw [hn]
  refine ⟨FP.Core.encode FP.Core.b64 (FP.Core.round FP.Core.b64 (FP.Core.decode FP.Core.b32 n)), ?_, ?_⟩
  · rcases zdc32 h with ⟨s, e⟩ | ⟨s, c, q, e⟩ <;> rw [e]
    · unfold FP.Core.round FP.Core.encode
      simp only [zt64, ze64, FP.Core.assemble]
      exact ⟨s.toNat, 2047, 0, zb_1 s, by omega, by omega, by omega, rfl⟩
    · unfold FP.Core.round
      exact zRo64 _ _ _ _
  · show UInt64.ofNat (FP.Core.encode FP.Core.b64 (FP.Core.round FP.Core.b64 (FP.Core.decode FP.Core.b32 (UInt32.ofNat n).toNat))) = _
    rw [e0]
theorem zMe_c {a b : Nat} (ha : a ≤ 25600) (hb : b ≤ 25600) (h0 : b ≠ 0) : FP.dcmp (zMe a b) (zMe a b) = some .eq := by
  obtain ⟨n, h1, h2⟩ := zMe_nm ha hb h0
  rw [h2]; exact zdcmp h1
theorem zSh_d {a b : Nat} (ha : a ≤ 60000) (hb : b ≤ 60000) (h0 : b ≠ 0) : vf_n64 (FP.f2d (zSh a b)) ∧ FP.dcmp (FP.f2d (zSh a b)) (FP.f2d (zSh a b)) = some .eq := by
  obtain ⟨n, h1, h2⟩ := zSh_nm ha hb h0
  obtain ⟨k, h3, h4⟩ := zf2d h1
  rw [h2, h4]; exact ⟨zvn64 h3, zdcmp h3⟩
