theorem n_split {k hi lo mhi mlo : Nat} (hlo : lo < 2 ^ k) (hm : mlo < 2 ^ k) : (hi * 2 ^ k + lo) &&& (mhi * 2 ^ k + mlo) = (hi &&& mhi) * 2 ^ k + (lo &&& mlo) := by
  apply Nat.eq_of_testBit_eq
  intro j
  have hl : lo &&& mlo < 2 ^ k := Nat.lt_of_le_of_lt Nat.and_le_left hlo
  rw [Nat.testBit_and, Nat.mul_comm hi, Nat.mul_comm mhi, Nat.mul_comm (hi &&& mhi), Nat.testBit_two_pow_mul_add _ hlo, Nat.testBit_two_pow_mul_add _ hm, Nat.testBit_two_pow_mul_add _ hl]
  by_cases c : j < k
  · simp [c]
  · simp [c]
theorem n_splitO {k hi lo mhi mlo : Nat} (hlo : lo < 2 ^ k) (hm : mlo < 2 ^ k) : (hi * 2 ^ k + lo) ||| (mhi * 2 ^ k + mlo) = (hi ||| mhi) * 2 ^ k + (lo ||| mlo) := by
  apply Nat.eq_of_testBit_eq
  intro j
  have hl : lo ||| mlo < 2 ^ k := Nat.or_lt_two_pow hlo hm
  rw [Nat.testBit_or, Nat.mul_comm hi, Nat.mul_comm mhi, Nat.mul_comm (hi ||| mhi), Nat.testBit_two_pow_mul_add _ hlo, Nat.testBit_two_pow_mul_add _ hm, Nat.testBit_two_pow_mul_add _ hl]
  by_cases c : j < k
  · simp [c]
  · simp [c]
theorem n_put {A x lo k : Nat} (hx : x < 16) (hlo : lo < 2 ^ k) : A * 2 ^ (k + 4) + lo ||| x * 2 ^ k = (A * 16 + x) * 2 ^ k + lo := by
  have p4 : A * 2 ^ (k + 4) = A * 2 ^ 4 * 2 ^ k := by rw [Nat.add_comm k 4, Nat.pow_add, Nat.mul_assoc]
  have e := n_splitO (hi := A * 2 ^ 4) (lo := lo) (mhi := x) (mlo := 0) hlo (Nat.two_pow_pos k)
  rw [Nat.add_zero, n_or hx, Nat.or_zero] at e
  rw [p4, e]
theorem n_clear {e k j : Nat} (he : e < 2 ^ j * 2 ^ (k + 4)) : e &&& ((2 ^ j - 1) * 2 ^ (k + 4) + (2 ^ k - 1)) = e / 2 ^ (k + 4) * 2 ^ (k + 4) + e % 2 ^ k := by
  have p4 : 2 ^ (k + 4) = 16 * 2 ^ k := by rw [Nat.pow_add]; omega
  have pk : 0 < 2 ^ k := Nat.two_pow_pos k
  have e1 : e = e / 2 ^ (k + 4) * 2 ^ (k + 4) + e % 2 ^ (k + 4) := by
    have := Nat.div_add_mod e (2 ^ (k + 4)); rw [Nat.mul_comm] at this; exact this.symm
  have hm : 2 ^ k - 1 < 2 ^ (k + 4) := by omega
  have hd : e / 2 ^ (k + 4) < 2 ^ j := (Nat.div_lt_iff_lt_mul (by omega)).2 he
  have e2 : e &&& ((2 ^ j - 1) * 2 ^ (k + 4) + (2 ^ k - 1)) = (e / 2 ^ (k + 4) * 2 ^ (k + 4) + e % 2 ^ (k + 4)) &&& ((2 ^ j - 1) * 2 ^ (k + 4) + (2 ^ k - 1)) := by rw [← e1]
  rw [e2, n_split (Nat.mod_lt _ (by omega)) hm, n_and, n_and, Nat.mod_eq_of_lt hd, Nat.mod_mod_of_dvd]
  exact ⟨16, by rw [p4, Nat.mul_comm]⟩
def enP (s n v : Nat) : Nat := s * 134217728 + n * 16777216 + v % 16777216
theorem enP_lt {s n v : Nat} (hs : s < 34359738368) (hn : n < 8) : enP s n v < 4611686018427387904 := by
  unfold enP; omega
theorem k_X3_packed {l : Launch} {g : AG} {h : AH} {s n v : Nat} {Q : Int64 → AH → Prop} (hn : n < 8) (hq : Q (Int64.ofNat (enP s n v)) h) : C_X3_packed l g h (Int64.ofNat s) (Int32.ofNat n) (Int64.ofNat v) Q := by
  refine c_X3_packed (s_X3_packed_0 ?_)
  intro w e
  have e2 : w = Int64.ofNat (enP s n v) := by
    rw [e, show (27 : Int32) = Int32.ofNat 27 from rfl, show (24 : Int32) = Int32.ofNat 24 from rfl, show (16777215 : Int64) = Int64.ofNat (2 ^ 24 - 1) from rfl, l_of (by omega), l_shl _ (by decide), l_shl _ (by decide), l_and, n_and, l_or, l_or, n_or (by omega)]
    rw [show s * 2 ^ 27 + n * 2 ^ 24 = (s * 8 + n) * 2 ^ 24 from by omega, n_or (Nat.mod_lt _ (by decide))]
    exact congrArg Int64.ofNat (by unfold enP; omega)
  rw [e2]
  exact hq
theorem k_X3_openOf {l : Launch} {g : AG} {h : AH} {e : Nat} {Q : Int32 → AH → Prop} (he : e < 9223372036854775808) (hq : Q (Int32.ofNat (e / 16777216 % 8)) h) : C_X3_openOf l g h (Int64.ofNat e) Q := by
  refine c_X3_openOf (s_X3_openOf_0 ?_)
  rw [show (24 : Int32) = Int32.ofNat 24 from rfl, show (7 : Int32) = Int32.ofNat (2 ^ 3 - 1) from rfl, l_ushr he (by decide), l_to, i_and, n_and]
  exact hq
theorem k_X3_faultOf {l : Launch} {g : AG} {h : AH} {e : Nat} {Q : Int32 → AH → Prop} (he : e < 9223372036854775808) (hq : Q (if e / 16777216 % 8 = 0 then Int32.ofNat (e / 134217728) else 0) h) : C_X3_faultOf l g h (Int64.ofNat e) Q := by
  refine c_X3_faultOf (s_X3_faultOf_0 (k_X3_openOf he ?_))
  rw [show (27 : Int32) = Int32.ofNat 27 from rfl, l_ushr he (by decide), l_to, show (0 : Int32) = Int32.ofNat 0 from rfl, i_le (by omega) (by omega)]
  refine ⟨fun c => ?_, fun c => ?_⟩
  · rw [if_pos (by omega)] at hq; exact hq
  · rw [if_neg (by omega)] at hq; exact hq
theorem k_X3_topOf {l : Launch} {g : AG} {h : AH} {e : Nat} {Q : Int32 → AH → Prop} (he : e < 9223372036854775808) (hq : Q (if e / 16777216 % 8 = 0 then -1 else Int32.ofNat (e / 2147483648 % 8)) h) : C_X3_topOf l g h (Int64.ofNat e) Q := by
  refine c_X3_topOf (s_X3_topOf_0 (k_X3_openOf he ?_))
  rw [show (31 : Int32) = Int32.ofNat 31 from rfl, l_ushr he (by decide), l_to, show (7 : Int32) = Int32.ofNat (2 ^ 3 - 1) from rfl, i_and, n_and, show (0 : Int32) = Int32.ofNat 0 from rfl, i_le (by omega) (by omega)]
  refine ⟨fun c => ?_, fun c => ?_⟩
  · rw [if_pos (by omega)] at hq; exact hq
  · rw [if_neg (by omega)] at hq; exact hq
theorem k_X3_ticksOf {l : Launch} {g : AG} {h : AH} {e : Nat} {Q : Int32 → AH → Prop} (he : e < 9223372036854775808) (hq : Q (if e / 16777216 % 8 = 0 then -1 else Int32.ofNat (e / 134217728 % 16)) h) : C_X3_ticksOf l g h (Int64.ofNat e) Q := by
  refine c_X3_ticksOf (s_X3_ticksOf_0 (k_X3_openOf he ?_))
  rw [show (27 : Int32) = Int32.ofNat 27 from rfl, l_ushr he (by decide), l_to, show (15 : Int32) = Int32.ofNat (2 ^ 4 - 1) from rfl, i_and, n_and, show (0 : Int32) = Int32.ofNat 0 from rfl, i_le (by omega) (by omega)]
  refine ⟨fun c => ?_, fun c => ?_⟩
  · rw [if_pos (by omega)] at hq; exact hq
  · rw [if_neg (by omega)] at hq; exact hq
theorem k_X3_valueOf {l : Launch} {g : AG} {h : AH} {e v : Nat} {Q : Int32 → AH → Prop} (he : e < 9223372036854775808) (hv : v < 6) (hq : Q (Int32.ofNat (e / 2 ^ (4 * v) % 16)) h) : C_X3_valueOf l g h (Int64.ofNat e) (Int32.ofNat v) Q := by
  refine c_X3_valueOf (s_X3_valueOf_0 ?_)
  rw [show (4 : Int32) = Int32.ofNat 4 from rfl, i_mul, l_ushr he (by omega), l_to, show (15 : Int32) = Int32.ofNat (2 ^ 4 - 1) from rfl, i_and, n_and]
  exact hq
theorem k_X3_withValue {l : Launch} {g : AG} {h : AH} {e v x : Nat} {Q : Int64 → AH → Prop} (he : e < 4611686018427387904) (hv : v < 6) (hx : x < 16) (hq : Q (Int64.ofNat ((e / 2 ^ (4 * v + 4) * 16 + x) * 2 ^ (4 * v) + e % 2 ^ (4 * v))) h) : C_X3_withValue l g h (Int64.ofNat e) (Int32.ofNat v) (Int32.ofNat x) Q := by
  refine c_X3_withValue (s_X3_withValue_0 ?_)
  intro w q
  have e2 : w = Int64.ofNat ((e / 2 ^ (4 * v + 4) * 16 + x) * 2 ^ (4 * v) + e % 2 ^ (4 * v)) := by
    rw [q, show (4 : Int32) = Int32.ofNat 4 from rfl, i_mul, show (15 : Int64) = Int64.ofNat 15 from rfl, l_of (by omega), l_shl _ (by omega), l_shl _ (by omega), show (-1 : Int64) = Int64.ofNat 18446744073709551615 from rfl, l_xor, l_and, l_or]
    have em : 15 * 2 ^ (4 * v) ^^^ 18446744073709551615 = (2 ^ (60 - 4 * v) - 1) * 2 ^ (4 * v + 4) + (2 ^ (4 * v) - 1) := by
      have : ∀ u : Fin 6, 15 * 2 ^ (4 * u.1) ^^^ 18446744073709551615 = (2 ^ (60 - 4 * u.1) - 1) * 2 ^ (4 * u.1 + 4) + (2 ^ (4 * u.1) - 1) := by decide +kernel
      exact this ⟨v, hv⟩
    have ej : 2 ^ (60 - 4 * v) * 2 ^ (4 * v + 4) = 18446744073709551616 := by
      rw [← Nat.pow_add, show 60 - 4 * v + (4 * v + 4) = 64 by omega]
    rw [em, n_clear (by rw [ej]; omega)]
    rw [n_put hx (Nat.mod_lt _ (Nat.two_pow_pos _))]
  rw [e2]
  exact hq
theorem k_X3_withTicks {l : Launch} {g : AG} {h : AH} {e x : Nat} {Q : Int64 → AH → Prop} (he : e < 4611686018427387904) (hx : x < 16) (hq : Q (Int64.ofNat ((e / 2147483648 * 16 + x) * 134217728 + e % 134217728)) h) : C_X3_withTicks l g h (Int64.ofNat e) (Int32.ofNat x) Q := by
  refine c_X3_withTicks (s_X3_withTicks_0 ?_)
  rw [show (-2013265921 : Int64) = Int64.ofNat ((2 ^ 33 - 1) * 2 ^ (27 + 4) + (2 ^ 27 - 1)) from by decide, show (27 : Int32) = Int32.ofNat 27 from rfl, l_of (by omega), l_shl _ (by omega), l_and, l_or, n_clear (by omega), n_put hx (Nat.mod_lt _ (by decide))]
  exact hq
theorem k_X3_alone {l : Launch} {g : AG} {h : AH} {w v : Nat} {Q : Int64 → AH → Prop} (hw : w < 8) (hq : Q (Int64.ofNat (enP (w * 16) 1 v)) h) : C_X3_alone l g h (Int32.ofNat w) (Int64.ofNat v) Q := by
  refine c_X3_alone (s_X3_alone_0 ?_)
  rw [show (4 : Int32) = Int32.ofNat 4 from rfl, l_of (by omega), l_shl _ (by omega), show (1 : Int32) = Int32.ofNat 1 from rfl]
  exact k_X3_packed (by decide) hq
theorem k_X3_closed {l : Launch} {g : AG} {h : AH} {e : Nat} {Q : Int64 → AH → Prop} (he : e < 4611686018427387904) (hq : Q (Int64.ofNat (if 2 ≤ e / 16777216 % 8 then enP (e / 17179869184) (e / 16777216 % 8 - 1) e else e)) h) : C_X3_closed l g h (Int64.ofNat e) Q := by
  refine c_X3_closed (s_X3_closed_0 (k_X3_openOf (by omega) ?_))
  rw [show (2 : Int32) = Int32.ofNat 2 from rfl, i_le (by omega) (by omega)]
  refine ⟨fun c => ?_, fun c => ?_⟩
  · rw [if_pos c] at hq
    rw [show (34 : Int32) = Int32.ofNat 34 from rfl, l_ushr (by omega) (by decide), show (1 : Int32) = Int32.ofNat 1 from rfl, i_sub (by omega)]
    exact k_X3_packed (by omega) hq
  · rw [if_neg c] at hq
    exact hq
theorem k_X3_opened {l : Launch} {g : AG} {h : AH} {e w : Nat} {Q : Int64 → AH → Prop} (he : e < 4611686018427387904) (hw : w < 8) (hq : Q (Int64.ofNat (if e / 16777216 % 8 < 5 then enP (e / 134217728 * 128 + w * 16) (e / 16777216 % 8 + 1) e else e)) h) : C_X3_opened l g h (Int64.ofNat e) (Int32.ofNat w) Q := by
  refine c_X3_opened (s_X3_opened_0 (k_X3_openOf (by omega) ?_))
  rw [show (5 : Int32) = Int32.ofNat 5 from rfl, i_lt (by omega) (by omega)]
  refine ⟨fun c => ?_, fun c => ?_⟩
  · rw [if_pos c] at hq
    intro v5 e5
    rw [show (27 : Int32) = Int32.ofNat 27 from rfl, show (7 : Int32) = Int32.ofNat 7 from rfl, show (4 : Int32) = Int32.ofNat 4 from rfl, l_ushr (by omega) (by decide), l_shl _ (by decide), l_of (by omega), l_shl _ (by decide), l_or, n_or (by omega)] at e5
    rw [e5, show (1 : Int32) = Int32.ofNat 1 from rfl, i_add]
    exact k_X3_packed (by omega) hq
  · rw [if_neg c] at hq
    exact hq
theorem k_X3_faulted {l : Launch} {g : AG} {h : AH} {f v : Nat} {Q : Int64 → AH → Prop} (hf : f < 2147483648) (hq : Q (Int64.ofNat (enP f 0 v)) h) : C_X3_faulted l g h (Int32.ofNat f) (Int64.ofNat v) Q := by
  refine c_X3_faulted (s_X3_faulted_0 ?_)
  rw [l_of hf, show (0 : Int32) = Int32.ofNat 0 from rfl]
  exact k_X3_packed (by decide) hq
