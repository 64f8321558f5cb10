/-- the text: byte k, or 256 behind its end -/
def bt (T : Nat → Nat) (n k : Nat) : Nat := if k < n then T k else 256
def isBl (c : Nat) : Bool := decide (c = 32 ∨ c = 10)
def isLe (c : Nat) : Bool := decide (97 ≤ c ∧ c ≤ 122)
def isDi (c : Nat) : Bool := decide (48 ≤ c ∧ c ≤ 57)
def isSi (c : Nat) : Bool := decide (c = 123 ∨ c = 125 ∨ c = 59 ∨ c = 44 ∨ c = 61 ∨ c = 60 ∨ c = 62)
/-- the first byte from p on that isn't such -/
def runF (q : Nat → Bool) (b : Nat → Nat) : Nat → Nat → Nat
  | 0, p => p
  | d + 1, p => if q (b p) = true then runF q b d (p + 1) else p
theorem runF_ok {q : Nat → Bool} {b : Nat → Nat} {n : Nat} (hq : ∀ k, n ≤ k → q (b k) = false) : ∀ d p, p ≤ n → n ≤ p + d → p ≤ runF q b d p ∧ runF q b d p ≤ n ∧ (∀ i, p ≤ i → i < runF q b d p → q (b i) = true) ∧ q (b (runF q b d p)) = false := by
  intro d
  induction d with
  | zero =>
    intro p h1 h2
    exact ⟨Nat.le_refl _, h1, fun i h3 h4 => absurd h4 (by show ¬ i < p; omega), hq _ (by show n ≤ p; omega)⟩
  | succ d ih =>
    intro p h1 h2
    show p ≤ (if q (b p) = true then runF q b d (p + 1) else p) ∧ (if q (b p) = true then runF q b d (p + 1) else p) ≤ n ∧ (∀ i, p ≤ i → i < (if q (b p) = true then runF q b d (p + 1) else p) → q (b i) = true) ∧ q (b (if q (b p) = true then runF q b d (p + 1) else p)) = false
    by_cases c : q (b p) = true
    · rw [if_pos c]
      have hp : p < n := by
        rcases Nat.lt_or_ge p n with z | z
        · exact z
        · rw [hq p z] at c; exact absurd c (by decide)
      obtain ⟨a1, a2, a3, a4⟩ := ih (p + 1) (by omega) (by omega)
      refine ⟨by omega, a2, fun i h3 h4 => ?_, a4⟩
      by_cases e : i = p
      · rw [e]; exact c
      · exact a3 i (by omega) h4
    · rw [if_neg c]
      exact ⟨Nat.le_refl _, h1, fun i h3 h4 => absurd h4 (by omega), by simpa using c⟩
/-- a WORD's number, the model's and the class's; a NUMBER -/
def wM (b : Nat → Nat) (p : Nat) : Nat → Nat
  | 0 => 0
  | k + 1 => 32 * wM b p k + (b (p + k) - 96)
def wC (b : Nat → Nat) (p : Nat) : Nat → Nat
  | 0 => 0
  | k + 1 => wC b p k * 256 + b (p + k)
def nM (b : Nat → Nat) (p : Nat) : Nat → Nat
  | 0 => 0
  | k + 1 => 10 * nM b p k + (b (p + k) - 48)
theorem cwf_wM {b : Nat → Nat} {p : Nat} : ∀ k j, k ≤ j → (∀ i, i < k → 97 ≤ b (p + i) ∧ b (p + i) ≤ 122) → cwf j (wM b p k) = wC b p k := by
  intro k
  induction k with
  | zero =>
    intro j _ _
    cases j with
    | zero => rfl
    | succ j => rfl
  | succ k ih =>
    intro j hj hb
    cases j with
    | zero => omega
    | succ j =>
      have q := hb k (Nat.lt_succ_self k)
      have e1 : (32 * wM b p k + (b (p + k) - 96)) / 32 = wM b p k := by omega
      have e2 : (32 * wM b p k + (b (p + k) - 96)) % 32 = b (p + k) - 96 := by omega
      show (if 32 * wM b p k + (b (p + k) - 96) = 0 then 0 else cwf j ((32 * wM b p k + (b (p + k) - 96)) / 32) * 256 + ((32 * wM b p k + (b (p + k) - 96)) % 32 + 96)) = wC b p k * 256 + b (p + k)
      rw [if_neg (by omega), e1, e2, ih j (by omega) (fun i hi => hb i (by omega))]
      omega
theorem wM_lt {b : Nat → Nat} {p : Nat} : ∀ k, (∀ i, i < k → 97 ≤ b (p + i) ∧ b (p + i) ≤ 122) → wM b p k < 32 ^ k := by
  intro k
  induction k with
  | zero => intro _; exact Nat.one_pos
  | succ k ih =>
    intro hb
    have q := hb k (Nat.lt_succ_self k)
    have := ih (fun i hi => hb i (by omega))
    show 32 * wM b p k + (b (p + k) - 96) < 32 ^ (k + 1)
    rw [Nat.pow_succ]
    omega
theorem wM_lt8 {b : Nat → Nat} {p k : Nat} (hk : k ≤ 8) (hb : ∀ i, i < k → 97 ≤ b (p + i) ∧ b (p + i) ≤ 122) : wM b p k < 1099511627776 :=
  Nat.lt_of_lt_of_le (wM_lt k hb) (Nat.le_trans (Nat.pow_le_pow_right (by omega) hk) (by decide))
theorem wC_lt {b : Nat → Nat} {p : Nat} : ∀ k, (∀ i, i < k → b (p + i) < 256) → wC b p k < 256 ^ k := by
  intro k
  induction k with
  | zero => intro _; exact Nat.one_pos
  | succ k ih =>
    intro hb
    have q := hb k (Nat.lt_succ_self k)
    have := ih (fun i hi => hb i (by omega))
    show wC b p k * 256 + b (p + k) < 256 ^ (k + 1)
    rw [Nat.pow_succ]
    omega
theorem nM_lt {b : Nat → Nat} {p : Nat} : ∀ k, (∀ i, i < k → 48 ≤ b (p + i) ∧ b (p + i) ≤ 57) → nM b p k < 10 ^ k := by
  intro k
  induction k with
  | zero => intro _; exact Nat.one_pos
  | succ k ih =>
    intro hb
    have q := hb k (Nat.lt_succ_self k)
    have := ih (fun i hi => hb i (by omega))
    show 10 * nM b p k + (b (p + k) - 48) < 10 ^ (k + 1)
    rw [Nat.pow_succ]
    omega
/-- WORDS are alike where their numbers are -/
theorem wM_inj {b c : Nat → Nat} {p r : Nat} : ∀ k j, (∀ i, i < k → 97 ≤ b (p + i) ∧ b (p + i) ≤ 122) → (∀ i, i < j → 97 ≤ c (r + i) ∧ c (r + i) ≤ 122) → wM b p k = wM c r j → k = j ∧ ∀ i, i < k → b (p + i) = c (r + i) := by
  intro k
  induction k with
  | zero =>
    intro j _ h2 e
    cases j with
    | zero => exact ⟨rfl, fun i hi => absurd hi (Nat.not_lt_zero i)⟩
    | succ j =>
      have q := h2 j (Nat.lt_succ_self j)
      have e2 : 0 = 32 * wM c r j + (c (r + j) - 96) := e
      omega
  | succ k ih =>
    intro j h1 h2 e
    have q := h1 k (Nat.lt_succ_self k)
    cases j with
    | zero =>
      have e2 : 32 * wM b p k + (b (p + k) - 96) = 0 := e
      omega
    | succ j =>
      have q2 := h2 j (Nat.lt_succ_self j)
      have e2 : 32 * wM b p k + (b (p + k) - 96) = 32 * wM c r j + (c (r + j) - 96) := e
      obtain ⟨i1, i2⟩ := ih j (fun i hi => h1 i (by omega)) (fun i hi => h2 i (by omega)) (by omega)
      subst i1
      refine ⟨rfl, fun i hi => ?_⟩
      by_cases z : i = k
      · rw [z]; omega
      · exact i2 i (by omega)
theorem wM_congr {b c : Nat → Nat} {p r : Nat} : ∀ k, (∀ i, i < k → b (p + i) = c (r + i)) → wM b p k = wM c r k := by
  intro k
  induction k with
  | zero => intro _; rfl
  | succ k ih =>
    intro h
    show 32 * wM b p k + (b (p + k) - 96) = 32 * wM c r k + (c (r + k) - 96)
    rw [ih (fun i hi => h i (by omega)), h k (Nat.lt_succ_self k)]
/-- the TOKEN from p on: kind (0 END, 1 WORD, 2 NUMBER, 3 none, or the sign), number, place, the byte behind it -/
def tk (b : Nat → Nat) (p : Nat) : Nat × Nat × Nat × Nat :=
  if b (runF isBl b 801 p) = 256 then (0, 0, runF isBl b 801 p, runF isBl b 801 p)
  else if isLe (b (runF isBl b 801 p)) = true then (if runF isLe b 801 (runF isBl b 801 p) - runF isBl b 801 p ≤ 8 then 1 else 3, wM b (runF isBl b 801 p) (runF isLe b 801 (runF isBl b 801 p) - runF isBl b 801 p), runF isBl b 801 p, runF isLe b 801 (runF isBl b 801 p))
  else if isDi (b (runF isBl b 801 p)) = true then (if runF isDi b 801 (runF isBl b 801 p) - runF isBl b 801 p ≤ 2 then 2 else 3, nM b (runF isBl b 801 p) (runF isDi b 801 (runF isBl b 801 p) - runF isBl b 801 p), runF isBl b 801 p, runF isDi b 801 (runF isBl b 801 p))
  else (if isSi (b (runF isBl b 801 p)) = true then b (runF isBl b 801 p) else 3, 0, runF isBl b 801 p, runF isBl b 801 p + 1)
theorem bt_in {T : Nat → Nat} {n k : Nat} (h : k < n) : bt T n k = T k := if_pos h
theorem bt_out {T : Nat → Nat} {n k : Nat} (h : n ≤ k) : bt T n k = 256 := if_neg (by omega)
theorem le_iff {c : Nat} : isLe c = true ↔ 97 ≤ c ∧ c ≤ 122 := decide_eq_true_iff
theorem di_iff {c : Nat} : isDi c = true ↔ 48 ≤ c ∧ c ≤ 57 := decide_eq_true_iff
theorem bl_iff {c : Nat} : isBl c = true ↔ c = 32 ∨ c = 10 := decide_eq_true_iff
theorem si_iff {c : Nat} : isSi c = true ↔ (c = 123 ∨ c = 125 ∨ c = 59 ∨ c = 44 ∨ c = 61 ∨ c = 60 ∨ c = 62) := decide_eq_true_iff
theorem run_bt {q : Nat → Bool} {T : Nat → Nat} {n p : Nat} (hq : q 256 = false) (hn : n ≤ 800) (hp : p ≤ n) : p ≤ runF q (bt T n) 801 p ∧ runF q (bt T n) 801 p ≤ n ∧ (∀ i, p ≤ i → i < runF q (bt T n) 801 p → q (bt T n i) = true) ∧ q (bt T n (runF q (bt T n) 801 p)) = false :=
  runF_ok (fun k hk => by rw [bt_out hk]; exact hq) 801 p hp (by omega)
/-- a WORD that is a TOKEN -/
def isW (v : Nat) : Prop := v < 1099511627776
/-- what a TOKEN is -/
theorem tk_ok {T : Nat → Nat} {n p : Nat} (hT : ∀ k, k < n → T k < 256) (hn : n ≤ 800) (hp : p ≤ n) : p ≤ (tk (bt T n) p).2.2.1 ∧ (tk (bt T n) p).2.2.1 ≤ n ∧ (tk (bt T n) p).2.2.2 ≤ n ∧ ((tk (bt T n) p).1 = 0 ∨ p < (tk (bt T n) p).2.2.2) ∧ (tk (bt T n) p).1 < 256 ∧ ((tk (bt T n) p).1 = 1 → isW (tk (bt T n) p).2.1) ∧ ((tk (bt T n) p).1 = 2 → (tk (bt T n) p).2.1 < 100) := by
  obtain ⟨s1, s2, s3, s4⟩ := run_bt (q := isBl) (T := T) (by decide) hn hp
  unfold tk
  revert s1 s2 s3 s4
  generalize runF isBl (bt T n) 801 p = s
  intro s1 s2 s3 s4
  by_cases c : bt T n s = 256
  · rw [if_pos c]
    exact ⟨s1, s2, s2, Or.inl rfl, by show 0 < 256; omega, fun z => absurd z (show ¬ (0 : Nat) = 1 by decide), fun z => absurd z (show ¬ (0 : Nat) = 2 by decide)⟩
  · rw [if_neg c]
    have sn : s < n := by
      rcases Nat.lt_or_ge s n with z | z
      · exact z
      · exact absurd (bt_out z) c
    by_cases c1 : isLe (bt T n s) = true
    · rw [if_pos c1]
      obtain ⟨e1, e2, e3, e4⟩ := run_bt (q := isLe) (T := T) (by decide) hn s2
      revert e1 e2 e3 e4
      generalize runF isLe (bt T n) 801 s = e
      intro e1 e2 e3 e4
      have es : s < e := by
        rcases Nat.lt_or_ge s e with z | z
        · exact z
        · rw [show e = s by omega, c1] at e4; exact absurd e4 (by decide)
      refine ⟨s1, s2, e2, Or.inr (by show p < e; omega), ?_, fun z => ?_, fun z => ?_⟩
      · show (if e - s ≤ 8 then 1 else 3) < 256
        split <;> omega
      · have z2 : (if e - s ≤ 8 then 1 else 3) = 1 := z
        by_cases y : e - s ≤ 8
        · exact wM_lt8 y (fun i hi => le_iff.1 (e3 (s + i) (by omega) (by omega)))
        · rw [if_neg y] at z2; exact absurd z2 (by decide)
      · have z2 : (if e - s ≤ 8 then 1 else 3) = 2 := z
        by_cases y : e - s ≤ 8
        · rw [if_pos y] at z2; exact absurd z2 (by decide)
        · rw [if_neg y] at z2; exact absurd z2 (by decide)
    · rw [if_neg c1]
      by_cases c2 : isDi (bt T n s) = true
      · rw [if_pos c2]
        obtain ⟨e1, e2, e3, e4⟩ := run_bt (q := isDi) (T := T) (by decide) hn s2
        revert e1 e2 e3 e4
        generalize runF isDi (bt T n) 801 s = e
        intro e1 e2 e3 e4
        have es : s < e := by
          rcases Nat.lt_or_ge s e with z | z
          · exact z
          · rw [show e = s by omega, c2] at e4; exact absurd e4 (by decide)
        refine ⟨s1, s2, e2, Or.inr (by show p < e; omega), ?_, fun z => ?_, fun z => ?_⟩
        · show (if e - s ≤ 2 then 2 else 3) < 256
          split <;> omega
        · have z2 : (if e - s ≤ 2 then 2 else 3) = 1 := z
          by_cases y : e - s ≤ 2
          · rw [if_pos y] at z2; exact absurd z2 (by decide)
          · rw [if_neg y] at z2; exact absurd z2 (by decide)
        · have z2 : (if e - s ≤ 2 then 2 else 3) = 2 := z
          by_cases y : e - s ≤ 2
          · exact Nat.lt_of_lt_of_le (nM_lt _ (fun i hi => di_iff.1 (e3 (s + i) (by omega) (by omega)))) (Nat.le_trans (Nat.pow_le_pow_right (by omega) y) (by decide))
          · rw [if_neg y] at z2; exact absurd z2 (by decide)
      · rw [if_neg c2]
        have tb := hT s sn
        rw [bt_in sn]
        refine ⟨s1, s2, by show s + 1 ≤ n; omega, Or.inr (by show p < s + 1; omega), ?_, fun z => ?_, fun z => ?_⟩
        · show (if isSi (T s) = true then T s else 3) < 256
          split <;> omega
        · have z2 : (if isSi (T s) = true then T s else 3) = 1 := z
          by_cases y : isSi (T s) = true
          · rw [if_pos y] at z2; have := si_iff.1 y; omega
          · rw [if_neg y] at z2; exact absurd z2 (by decide)
        · have z2 : (if isSi (T s) = true then T s else 3) = 2 := z
          by_cases y : isSi (T s) = true
          · rw [if_pos y] at z2; have := si_iff.1 y; omega
          · rw [if_neg y] at z2; exact absurd z2 (by decide)
