noncomputable def bI (p : Prop) : Nat := @ite Nat p (Classical.propDecidable p) 1 0
theorem bI_t {p : Prop} (h : p) : bI p = 1 := by unfold bI; exact if_pos h
theorem bI_f {p : Prop} (h : ¬ p) : bI p = 0 := by unfold bI; exact if_neg h
theorem bI_le (p : Prop) : bI p ≤ 1 := by
  by_cases h : p
  · rw [bI_t h]; exact Nat.le_refl 1
  · rw [bI_f h]; exact Nat.zero_le 1
theorem bI_one {p : Prop} : bI p = 1 ↔ p := by
  by_cases h : p
  · exact ⟨fun _ => h, fun _ => bI_t h⟩
  · exact ⟨fun e => by rw [bI_f h] at e; omega, fun z => absurd z h⟩
theorem bI_zero {p : Prop} : bI p = 0 ↔ ¬ p := by
  by_cases h : p
  · exact ⟨fun e => by rw [bI_t h] at e; omega, fun z => absurd h z⟩
  · exact ⟨fun _ => h, fun _ => bI_f h⟩
theorem bI_congr {p q : Prop} (h : p ↔ q) : bI p = bI q := by
  by_cases hp : p
  · rw [bI_t hp, bI_t (h.1 hp)]
  · rw [bI_f hp, bI_f (fun z => hp (h.2 z))]
noncomputable def bsum (f : Nat → Prop) : Nat → Nat
  | 0 => 0
  | n + 1 => bsum f n + bI (f n) * 2 ^ n
theorem bsum_lt (f : Nat → Prop) : ∀ n, bsum f n < 2 ^ n
  | 0 => Nat.one_pos
  | n + 1 => by
    have a := bsum_lt f n
    have b := bI_le (f n)
    have c : bI (f n) * 2 ^ n ≤ 1 * 2 ^ n := Nat.mul_le_mul_right _ b
    show bsum f n + bI (f n) * 2 ^ n < 2 ^ (n + 1)
    rw [Nat.pow_succ]
    omega
theorem bsum_bit (f : Nat → Prop) {a : Nat} (n : Nat) (h : a < n) : bsum f n / 2 ^ a % 2 = bI (f a) := by
  induction n with
  | zero => exact absurd h (Nat.not_lt_zero a)
  | succ n ih =>
    show (bsum f n + bI (f n) * 2 ^ n) / 2 ^ a % 2 = _
    by_cases c : a = n
    · subst c
      rw [Nat.add_mul_div_right _ _ (Nat.two_pow_pos a), Nat.div_eq_of_lt (bsum_lt f a), Nat.zero_add]
      have := bI_le (f a)
      omega
    · have e : 2 ^ n = 2 ^ (n - a - 1) * 2 * 2 ^ a := by
        rw [← Nat.pow_succ, ← Nat.pow_add]
        congr 1
        omega
      have e2 : bI (f n) * 2 ^ n = (bI (f n) * 2 ^ (n - a - 1) * 2) * 2 ^ a := by
        rw [e, ← Nat.mul_assoc, ← Nat.mul_assoc]
      rw [e2, Nat.add_mul_div_right _ _ (Nat.two_pow_pos a), Nat.add_mul_mod_self_right]
      exact ih (by omega)
theorem bsum_congr {f f2 : Nat → Prop} : ∀ n, (∀ a, a < n → (f a ↔ f2 a)) → bsum f n = bsum f2 n := by
  intro n
  induction n with
  | zero => intro _; rfl
  | succ n ih =>
    intro h
    show bsum f n + bI (f n) * 2 ^ n = bsum f2 n + bI (f2 n) * 2 ^ n
    rw [ih (fun a ha => h a (by omega)), bI_congr (h n (by omega))]
theorem bsum_inj {f f2 : Nat → Prop} {n : Nat} (e : bsum f n = bsum f2 n) : ∀ a, a < n → (f a ↔ f2 a) := by
  intro a ha
  have h1 := bsum_bit f n ha
  have h2 := bsum_bit f2 n ha
  rw [e, h2] at h1
  by_cases c : f a
  · rw [bI_t c, bI_one] at h1
    simp [c, h1]
  · rw [bI_f c, bI_zero] at h1
    simp [c, h1]
theorem bsum_none {f : Nat → Prop} {m : Nat} : ∀ n, (∀ a, m ≤ a → ¬ f a) → m ≤ n → bsum f n = bsum f m := by
  intro n
  induction n with
  | zero => intro _ h; rw [show m = 0 by omega]
  | succ n ih =>
    intro h hm
    by_cases c : m = n + 1
    · rw [c]
    · show bsum f n + bI (f n) * 2 ^ n = _
      rw [ih h (by omega), bI_f (h n (by omega)), Nat.zero_mul, Nat.add_zero]
theorem bsum_or (f : Nat → Prop) (n : Nat) : bsum f n ||| bI (f n) * 2 ^ n = bsum f (n + 1) := by
  rw [Nat.or_comm, n_or (bsum_lt f n), Nat.add_comm]
  rfl
noncomputable def pops (f : Nat → Prop) : Nat → Nat
  | 0 => 0
  | n + 1 => pops f n + bI (f n)
theorem pops_le (f : Nat → Prop) : ∀ n, pops f n ≤ n
  | 0 => Nat.le_refl 0
  | n + 1 => by
    have a := pops_le f n
    have b := bI_le (f n)
    show pops f n + bI (f n) ≤ n + 1
    omega
theorem pops_congr {f f2 : Nat → Prop} : ∀ n, (∀ a, a < n → (f a ↔ f2 a)) → pops f n = pops f2 n := by
  intro n
  induction n with
  | zero => intro _; rfl
  | succ n ih =>
    intro h
    show pops f n + bI (f n) = pops f2 n + bI (f2 n)
    rw [ih (fun a ha => h a (by omega)), bI_congr (h n (by omega))]
/-- how many bits: by fuel -/
def popF : Nat → Nat → Nat
  | 0, _ => 0
  | k + 1, n => n % 2 + popF k (n / 2)
theorem popF_zero : ∀ k, popF k 0 = 0
  | 0 => rfl
  | k + 1 => by show 0 % 2 + popF k (0 / 2) = 0; rw [Nat.zero_div, popF_zero k]
theorem popF_step : ∀ k v, 0 < v → v < 2 ^ k → popF k (v &&& (v - 1)) + 1 = popF k v := by
  intro k
  induction k with
  | zero => intro v h1 h2; rw [Nat.pow_zero] at h2; omega
  | succ k ih =>
    intro v h1 h2
    rw [Nat.pow_succ] at h2
    show (v &&& (v - 1)) % 2 + popF k ((v &&& (v - 1)) / 2) + 1 = v % 2 + popF k (v / 2)
    by_cases c : v % 2 = 1
    · have e : v &&& (v - 1) = v / 2 * 2 := by
        have q := n_split (k := 1) (hi := v / 2) (lo := 1) (mhi := v / 2) (mlo := 0) (by decide) (by decide)
        rw [show v / 2 * 2 ^ 1 + 1 = v by omega, show v / 2 * 2 ^ 1 + 0 = v - 1 by omega, Nat.and_self] at q
        rw [q]
        show v / 2 * 2 + 0 = v / 2 * 2
        omega
      rw [e, c, Nat.mul_mod_left, Nat.mul_div_cancel _ (by decide)]
      omega
    · have e : v &&& (v - 1) = (v / 2 &&& (v / 2 - 1)) * 2 := by
        have q := n_split (k := 1) (hi := v / 2) (lo := 0) (mhi := v / 2 - 1) (mlo := 1) (by decide) (by decide)
        rw [show v / 2 * 2 ^ 1 + 0 = v by omega, show (v / 2 - 1) * 2 ^ 1 + 1 = v - 1 by omega] at q
        rw [q]
        show (v / 2 &&& (v / 2 - 1)) * 2 + 0 = _
        omega
      rw [e, Nat.mul_mod_left, Nat.mul_div_cancel _ (by decide), show v % 2 = 0 by omega]
      have := ih (v / 2) (by omega) (by omega)
      omega
theorem popF_add (f : Nat → Prop) : ∀ n k x, popF (n + k) (bsum f n + x * 2 ^ n) = pops f n + popF k x := by
  intro n
  induction n with
  | zero =>
    intro k x
    show popF (0 + k) (0 + x * 1) = 0 + popF k x
    rw [Nat.zero_add, Nat.zero_add, Nat.zero_add, Nat.mul_one]
  | succ n ih =>
    intro k x
    have e : bsum f (n + 1) + x * 2 ^ (n + 1) = bsum f n + (bI (f n) + x * 2) * 2 ^ n := by
      show bsum f n + bI (f n) * 2 ^ n + x * 2 ^ (n + 1) = _
      rw [Nat.add_mul, Nat.pow_succ, Nat.mul_assoc, Nat.mul_comm 2 (2 ^ n), Nat.add_assoc]
    rw [e, show n + 1 + k = n + (k + 1) by omega, ih (k + 1)]
    show pops f n + ((bI (f n) + x * 2) % 2 + popF k ((bI (f n) + x * 2) / 2)) = pops f n + bI (f n) + popF k x
    have b := bI_le (f n)
    rw [show (bI (f n) + x * 2) % 2 = bI (f n) by omega, show (bI (f n) + x * 2) / 2 = x by omega]
    omega
theorem popF_bsum (f : Nat → Prop) (n : Nat) : popF n (bsum f n) = pops f n := by
  have := popF_add f n 0 0
  rw [Nat.zero_mul, Nat.add_zero, Nat.add_zero] at this
  rw [this]
  rfl
theorem i_m1r {a : Nat} (h : 1 ≤ a) : Int32.ofNat a - 1 = Int32.ofNat (a - 1) := i_sub h
theorem k_X12_bits_loop {l : Launch} {g : AG} {h : AH} {Q : Int32 → AH → Prop} {n : Nat} (hq : Q (Int32.ofNat n) h) : ∀ d v m : Nat, v < 2 ^ 27 → v ≤ d → m + popF 27 v = n → L_X12_bits_4 l g h (Int32.ofNat m) (Int32.ofNat v) Q := by
  intro d
  induction d with
  | zero =>
    intro v m hv hd e
    have : v = 0 := by omega
    subst this
    refine s_X12_bits_4 ⟨fun _ => ?_, fun c => absurd rfl c⟩
    rw [popF_zero] at e
    rw [show m = n by omega]
    exact hq
  | succ d ih =>
    intro v m hv hd e
    refine s_X12_bits_4 ⟨fun c => ?_, fun c => ?_⟩
    · have : v = 0 := (i_eq (b := 0) (by omega) (by omega)).1 c
      subst this
      rw [popF_zero] at e
      rw [show m = n by omega]
      exact hq
    · have v0 : 0 < v := by
        rcases Nat.eq_zero_or_pos v with q | q
        · subst q; exact absurd rfl c
        · exact q
      intro v2 e2 v4 e4
      rw [i_p1] at e2
      rw [i_m1r v0, i_and] at e4
      subst e2 e4
      have hl : v &&& (v - 1) ≤ v - 1 := Nat.and_le_right
      refine ih _ _ (by omega) (by omega) ?_
      have := popF_step 27 v v0 hv
      omega
theorem k_X12_bits {l : Launch} {g : AG} {h : AH} {Q : Int32 → AH → Prop} {f : Nat → Prop} (hq : Q (Int32.ofNat (pops f 27)) h) : C_X12_bits l g h (Int32.ofNat (bsum f 27)) Q := by
  refine c_X12_bits (s_X12_bits_0 ?_)
  refine k_X12_bits_loop hq (bsum f 27) _ 0 (bsum_lt f 27) (Nat.le_refl _) ?_
  rw [popF_bsum]
  omega
