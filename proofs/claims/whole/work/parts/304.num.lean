theorem i_lt {a b : Nat} (ha : a < 2147483648) (hb : b < 2147483648) : (Int32.ofNat a < Int32.ofNat b) ↔ a < b := by
  rw [Int32.lt_iff_toInt_lt, Int32.toInt_ofNat_of_lt (by omega), Int32.toInt_ofNat_of_lt (by omega)]
  omega
theorem i_le {a b : Nat} (ha : a < 2147483648) (hb : b < 2147483648) : (Int32.ofNat a ≤ Int32.ofNat b) ↔ a ≤ b := by
  rw [Int32.le_iff_toInt_le, Int32.toInt_ofNat_of_lt (by omega), Int32.toInt_ofNat_of_lt (by omega)]
  omega
theorem i_eq {a b : Nat} (ha : a < 2147483648) (hb : b < 2147483648) : (Int32.ofNat a = Int32.ofNat b) ↔ a = b := by
  rw [← Int32.toInt_inj, Int32.toInt_ofNat_of_lt (by omega), Int32.toInt_ofNat_of_lt (by omega)]
  omega
theorem i_nn {a : Nat} (ha : a < 2147483648) : ¬ (Int32.ofNat a < 0) := by
  rw [Int32.lt_iff_toInt_lt, Int32.toInt_ofNat_of_lt (by omega)]
  show ¬ ((a : Int) < 0)
  omega
theorem i_ge {a : Nat} (ha : a < 2147483648) : (0 : Int32) ≤ Int32.ofNat a := by
  rw [Int32.le_iff_toInt_le, Int32.toInt_ofNat_of_lt (by omega)]
  show (0 : Int) ≤ (a : Int)
  omega
theorem i_ne {a : Nat} (ha : a < 2147483648) : Int32.ofNat a ≠ -1 := by
  intro e
  have := i_nn ha
  rw [e] at this
  exact this (by decide)
theorem i_cl {a : Nat} (ha : a < 2147483648) : (Int32.ofNat a).toNatClampNeg = a := Int32.toNatClampNeg_ofNat_of_lt (by omega)
theorem i_in {a n : Nat} (ha : a < 2147483648) (h : a < n) : vp_in (Int32.ofNat a) n := by
  unfold vp_in
  rw [i_cl ha]
  intro q
  rcases q with q | q
  · exact i_nn ha q
  · omega
theorem i_of {x : Int32} (h : ¬ x < 0) : ∃ n, n < 2147483648 ∧ x = Int32.ofNat n := by
  refine ⟨x.toNatClampNeg, by have := Int32.toNatClampNeg_lt x; omega, ?_⟩
  rw [Int32.ofNat_toNatClampNeg]
  rw [Int32.lt_iff_toInt_lt] at h
  rw [Int32.le_iff_toInt_le]
  have : (0 : Int32).toInt = 0 := rfl
  omega
theorem i_of2 {x : Int32} (h : 0 ≤ x) : ∃ n, n < 2147483648 ∧ x = Int32.ofNat n := by
  refine ⟨x.toNatClampNeg, by have := Int32.toNatClampNeg_lt x; omega, ?_⟩
  rw [Int32.ofNat_toNatClampNeg _ h]
theorem i_add (a b : Nat) : Int32.ofNat a + Int32.ofNat b = Int32.ofNat (a + b) := Int32.toBitVec_inj.1 (by simp [BitVec.ofNat_add])
theorem i_mul (a b : Nat) : Int32.ofNat a * Int32.ofNat b = Int32.ofNat (a * b) := Int32.toBitVec_inj.1 (by simp [BitVec.ofNat_mul])
theorem i_sub {a b : Nat} (h : b ≤ a) : Int32.ofNat a - Int32.ofNat b = Int32.ofNat (a - b) := by
  have e : Int32.ofNat a = Int32.ofNat (a - b) + Int32.ofNat b := by rw [i_add]; congr 1; omega
  rw [e, Int32.add_sub_cancel]
theorem i_and (a b : Nat) : Int32.ofNat a &&& Int32.ofNat b = Int32.ofNat (a &&& b) := Int32.toBitVec_inj.1 (by simp)
theorem i_or (a b : Nat) : Int32.ofNat a ||| Int32.ofNat b = Int32.ofNat (a ||| b) := Int32.toBitVec_inj.1 (by simp)
theorem l_add (a b : Nat) : Int64.ofNat a + Int64.ofNat b = Int64.ofNat (a + b) := Int64.toBitVec_inj.1 (by simp [BitVec.ofNat_add])
theorem l_mul (a b : Nat) : Int64.ofNat a * Int64.ofNat b = Int64.ofNat (a * b) := Int64.toBitVec_inj.1 (by simp [BitVec.ofNat_mul])
theorem l_and (a b : Nat) : Int64.ofNat a &&& Int64.ofNat b = Int64.ofNat (a &&& b) := Int64.toBitVec_inj.1 (by simp)
theorem l_or (a b : Nat) : Int64.ofNat a ||| Int64.ofNat b = Int64.ofNat (a ||| b) := Int64.toBitVec_inj.1 (by simp)
theorem l_xor (a b : Nat) : Int64.ofNat a ^^^ Int64.ofNat b = Int64.ofNat (a ^^^ b) := Int64.toBitVec_inj.1 (by simp)
theorem l_of {a : Nat} (ha : a < 2147483648) : (Int32.ofNat a).toInt64 = Int64.ofNat a := by
  rw [← Int64.toInt_inj, Int32.toInt_toInt64, Int32.toInt_ofNat_of_lt (by omega), Int64.toInt_ofNat_of_lt (by omega)]
theorem l_to (a : Nat) : (Int64.ofNat a).toInt32 = Int32.ofNat a := Int64.toInt32_ofNat'
theorem l_eq {a b : Nat} (ha : a < 9223372036854775808) (hb : b < 9223372036854775808) : (Int64.ofNat a = Int64.ofNat b) ↔ a = b := by
  rw [← Int64.toInt_inj, Int64.toInt_ofNat_of_lt (by omega), Int64.toInt_ofNat_of_lt (by omega)]
  omega
theorem l_m63 {k : Nat} (hk : k < 64) : (Int32.ofNat k).toInt64 &&& 63 = Int64.ofNat k := by
  rw [l_of (by omega)]
  show Int64.ofNat k &&& Int64.ofNat 63 = _
  rw [l_and]
  congr 1
  rw [show (63 : Nat) = 2 ^ 6 - 1 from rfl, Nat.and_two_pow_sub_one_eq_mod]
  omega
theorem l_smod : ∀ k : Fin 64, (BitVec.ofNat 64 k.1).smod 64 = BitVec.ofNat 64 k.1 := by decide +kernel
theorem i_smod : ∀ k : Fin 32, (BitVec.ofNat 32 k.1).smod 32 = BitVec.ofNat 32 k.1 := by decide +kernel
theorem l_shl (a : Nat) {k : Nat} (hk : k < 64) : jlshl (Int64.ofNat a) (Int32.ofNat k) = Int64.ofNat (a * 2 ^ k) := by
  unfold jlshl
  rw [l_m63 hk]
  apply Int64.toBitVec_inj.1
  rw [Int64.toBitVec_shiftLeft, Int64.toBitVec_ofNat', Int64.toBitVec_ofNat', Int64.toBitVec_ofNat', l_smod ⟨k, hk⟩]
  apply BitVec.eq_of_toNat_eq
  simp only [BitVec.shiftLeft_eq', BitVec.toNat_shiftLeft, BitVec.toNat_ofNat, Nat.shiftLeft_eq]
  rw [Nat.mod_eq_of_lt (show k < 2 ^ 64 by omega)]
  simp
theorem l_shr {a : Nat} (ha : a < 9223372036854775808) {k : Nat} (hk : k < 64) : jlshr (Int64.ofNat a) (Int32.ofNat k) = Int64.ofNat (a / 2 ^ k) := by
  unfold jlshr
  rw [l_m63 hk]
  apply Int64.toBitVec_inj.1
  rw [Int64.toBitVec_shiftRight, Int64.toBitVec_ofNat', Int64.toBitVec_ofNat', Int64.toBitVec_ofNat', l_smod ⟨k, hk⟩]
  rw [BitVec.sshiftRight', BitVec.sshiftRight_eq_of_msb_false (by rw [BitVec.msb_eq_decide]; simp; omega)]
  apply BitVec.eq_of_toNat_eq
  simp only [BitVec.toNat_ushiftRight, BitVec.toNat_ofNat, Nat.shiftRight_eq_div_pow]
  rw [Nat.mod_eq_of_lt (show k < 2 ^ 64 by omega), Nat.mod_eq_of_lt (show a < 2 ^ 64 by omega), Nat.mod_eq_of_lt]
  exact Nat.lt_of_le_of_lt (Nat.div_le_self _ _) (by omega)
theorem l_ushr {a : Nat} (ha : a < 9223372036854775808) {k : Nat} (hk : k < 64) : jlushr (Int64.ofNat a) (Int32.ofNat k) = Int64.ofNat (a / 2 ^ k) := by
  unfold jlushr
  have e : (Int32.ofNat k).toInt64.toUInt64 &&& Int64.toUInt64 63 = UInt64.ofNat k := by
    rw [← Int64.toUInt64_and, l_m63 hk]
    rfl
  rw [e]
  apply Int64.toBitVec_inj.1
  apply BitVec.eq_of_toNat_eq
  have q : (UInt64.ofNat a >>> UInt64.ofNat k).toNat = a / 2 ^ k := by
    rw [UInt64.toNat_shiftRight, UInt64.toNat_ofNat', UInt64.toNat_ofNat', Nat.mod_eq_of_lt (show a < 2 ^ 64 by omega), Nat.mod_eq_of_lt (show k < 2 ^ 64 by omega), Nat.mod_eq_of_lt hk, Nat.shiftRight_eq_div_pow]
  show (UInt64.ofNat a >>> UInt64.ofNat k).toNat = (BitVec.ofNat 64 (a / 2 ^ k)).toNat
  rw [q, BitVec.toNat_ofNat, Nat.mod_eq_of_lt]
  exact Nat.lt_of_le_of_lt (Nat.div_le_self _ _) (by omega)
theorem i_m31 {k : Nat} (hk : k < 32) : Int32.ofNat k &&& 31 = Int32.ofNat k := by
  show Int32.ofNat k &&& Int32.ofNat 31 = _
  rw [i_and]
  congr 1
  rw [show (31 : Nat) = 2 ^ 5 - 1 from rfl, Nat.and_two_pow_sub_one_eq_mod]
  omega
theorem i_shl (a : Nat) {k : Nat} (hk : k < 32) : jishl (Int32.ofNat a) (Int32.ofNat k) = Int32.ofNat (a * 2 ^ k) := by
  unfold jishl
  rw [i_m31 hk]
  apply Int32.toBitVec_inj.1
  rw [Int32.toBitVec_shiftLeft, Int32.toBitVec_ofNat', Int32.toBitVec_ofNat', Int32.toBitVec_ofNat', i_smod ⟨k, hk⟩]
  apply BitVec.eq_of_toNat_eq
  simp only [BitVec.shiftLeft_eq', BitVec.toNat_shiftLeft, BitVec.toNat_ofNat, Nat.shiftLeft_eq]
  rw [Nat.mod_eq_of_lt (show k < 2 ^ 32 by omega)]
  simp
theorem i_shr {a : Nat} (ha : a < 2147483648) {k : Nat} (hk : k < 32) : jishr (Int32.ofNat a) (Int32.ofNat k) = Int32.ofNat (a / 2 ^ k) := by
  unfold jishr
  rw [i_m31 hk]
  apply Int32.toBitVec_inj.1
  rw [Int32.toBitVec_shiftRight, Int32.toBitVec_ofNat', Int32.toBitVec_ofNat', Int32.toBitVec_ofNat', i_smod ⟨k, hk⟩]
  rw [BitVec.sshiftRight', BitVec.sshiftRight_eq_of_msb_false (by rw [BitVec.msb_eq_decide]; simp; omega)]
  apply BitVec.eq_of_toNat_eq
  simp only [BitVec.toNat_ushiftRight, BitVec.toNat_ofNat, Nat.shiftRight_eq_div_pow]
  rw [Nat.mod_eq_of_lt (show k < 2 ^ 32 by omega), Nat.mod_eq_of_lt (show a < 2 ^ 32 by omega), Nat.mod_eq_of_lt]
  exact Nat.lt_of_le_of_lt (Nat.div_le_self _ _) (by omega)
/-- lower bits -/
theorem n_and (a k : Nat) : a &&& (2 ^ k - 1) = a % 2 ^ k := Nat.and_two_pow_sub_one_eq_mod a k
/-- joined bits -/
theorem n_or {a b k : Nat} (hb : b < 2 ^ k) : a * 2 ^ k ||| b = a * 2 ^ k + b := by
  rw [← Nat.shiftLeft_eq, ← Nat.shiftLeft_add_eq_or_of_lt hb]
