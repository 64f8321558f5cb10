theorem k_X12_begins {l : Launch} {g : AG} {h : AH} {Q : AH → Prop} (hr : Refs h) (hq : ∀ h', FrS h h' → RepS h' st0 → Q h') : C_X12_begins l g h 103 Q := by
  refine c_X12_begins (s_X12_begins_0 ⟨⟨by decide, rfl⟩, ?_⟩)
  intro h2 e2 h4 e4
  have r4 : Refs h4 := by subst e4 e2; exact hr
  rw [rf_103_21 r4]
  refine ⟨⟨by decide, rfl⟩, i_in (a := 0) (by omega) (show 0 < 5 by omega), ?_⟩
  intro h8 e8
  have r8 : Refs h8 := by subst e8; exact r4
  rw [rf_103_22 r8]
  refine ⟨⟨by decide, rfl⟩, i_in (a := 0) (by omega) (show 0 < 5 by omega), ?_⟩
  intro h12 e12
  have r12 : Refs h12 := by subst e12; exact r8
  have f12 : FrS h h12 := by
    subst e12 e8 e4 e2
    exact ((((FrS.refl h).setI (Or.inr (Or.inr (Or.inr ⟨rfl, Or.inl rfl⟩)))).setI (Or.inr (Or.inr (Or.inr ⟨rfl, Or.inr rfl⟩)))).setI (Or.inl rfl)).setI (Or.inr (Or.inl rfl))
  refine k_X12_begins_loop hq 6 0 rfl h12 r12 f12 ?_ ?_ ?_ ?_ (fun v hv => absurd hv (Nat.not_lt_zero v))
  · subst e12 e8 e4 e2
    rw [gI_I, if_neg (fun q => absurd q.1 (by decide)), gI_I, if_neg (fun q => absurd q.1 (by decide)), gI_I, if_neg (fun q => absurd q.2 (by decide)), gI_I, if_pos ⟨rfl, rfl⟩]
  · subst e12 e8 e4 e2
    rw [gI_I, if_neg (fun q => absurd q.1 (by decide)), gI_I, if_neg (fun q => absurd q.1 (by decide)), gI_I, if_pos ⟨rfl, rfl⟩]
  · subst e12 e8 e4 e2
    rw [gI_I, if_neg (fun q => absurd q.1 (by decide)), gI_I, if_pos ⟨rfl, rfl⟩]
  · subst e12
    rw [gI_I, if_pos ⟨rfl, rfl⟩]
theorem ea_div {nw : Nat} {S : AS} (hs : WS nw S) (k : Nat) : ∀ j : Nat, ea S (k + j) / 128 ^ j = ea S k
  | 0 => by rw [Nat.pow_zero, Nat.div_one]; rfl
  | j + 1 => by
    have a := ea_div hs k j
    have b : ea S (k + (j + 1)) = ea S (k + j) * 128 + eaD S (k + j) := rfl
    have c := eaD_lt hs (k + j)
    rw [Nat.pow_succ, Nat.mul_comm, ← Nat.div_div_eq_div_mul, b, show (ea S (k + j) * 128 + eaD S (k + j)) / 128 = ea S (k + j) by omega, a]
theorem ea_lt {nw : Nat} {S : AS} (hs : WS nw S) : ea S 5 < 8796093022208 := by
  have hF : S.1 < 21 := by
    by_cases c : S.2.1 = 0
    · have := (hs.2.2.1 c).2; omega
    · have := hs.2.2.2.1 (by omega); omega
  have hN := hs.2.1
  have b0 : ea S 0 = S.1 * 8 + S.2.1 := rfl
  have b1 : ea S 1 = ea S 0 * 128 + eaD S 0 := rfl
  have b2 : ea S 2 = ea S 1 * 128 + eaD S 1 := rfl
  have b3 : ea S 3 = ea S 2 * 128 + eaD S 2 := rfl
  have b4 : ea S 4 = ea S 3 * 128 + eaD S 3 := rfl
  have b5 : ea S 5 = ea S 4 * 128 + eaD S 4 := rfl
  have c0 := eaD_lt hs 0
  have c1 := eaD_lt hs 1
  have c2 := eaD_lt hs 2
  have c3 := eaD_lt hs 3
  have c4 := eaD_lt hs 4
  omega
theorem ea_dig {nw k : Nat} {S : AS} (hs : WS nw S) (hk : k < 5) : ea S 5 / 2 ^ (7 * (4 - k)) % 128 = eaD S k := by
  have a := ea_div hs (k + 1) (4 - k)
  rw [show k + 1 + (4 - k) = 5 by omega] at a
  rw [Nat.pow_mul, show (2 ^ 7 : Nat) = 128 from rfl, a]
  have c := eaD_lt hs k
  show (ea S k * 128 + eaD S k) % 128 = _
  omega
theorem ea_head {nw : Nat} {S : AS} (hs : WS nw S) : ea S 5 / 2 ^ 38 = S.1 ∧ ea S 5 / 2 ^ 35 % 8 = S.2.1 := by
  have a := ea_div hs 0 5
  rw [show 0 + 5 = 5 by omega] at a
  have b0 : ea S 0 = S.1 * 8 + S.2.1 := rfl
  have hN := hs.2.1
  rw [b0] at a
  omega
theorem eb_div {V : Nat → Nat} (hv : ∀ v, v < 6 → V v < 16) (k : Nat) : ∀ j : Nat, k + j ≤ 6 → eb V (k + j) / 16 ^ j = eb V k
  | 0, _ => by rw [Nat.pow_zero, Nat.div_one]; rfl
  | j + 1, h => by
    have a := eb_div hv k j (by omega)
    have b : eb V (k + (j + 1)) = eb V (k + j) * 16 + V (k + j) := rfl
    have c := hv (k + j) (by omega)
    rw [Nat.pow_succ, Nat.mul_comm, ← Nat.div_div_eq_div_mul, b, show (eb V (k + j) * 16 + V (k + j)) / 16 = eb V (k + j) by omega, a]
theorem eb_lt {V : Nat → Nat} (hv : ∀ v, v < 6 → V v < 16) : eb V 6 < 16777216 := by
  have b0 : eb V 0 = 0 := rfl
  have b1 : eb V 1 = eb V 0 * 16 + V 0 := rfl
  have b2 : eb V 2 = eb V 1 * 16 + V 1 := rfl
  have b3 : eb V 3 = eb V 2 * 16 + V 2 := rfl
  have b4 : eb V 4 = eb V 3 * 16 + V 3 := rfl
  have b5 : eb V 5 = eb V 4 * 16 + V 4 := rfl
  have b6 : eb V 6 = eb V 5 * 16 + V 5 := rfl
  have c0 := hv 0 (by omega)
  have c1 := hv 1 (by omega)
  have c2 := hv 2 (by omega)
  have c3 := hv 3 (by omega)
  have c4 := hv 4 (by omega)
  have c5 := hv 5 (by omega)
  omega
theorem eb_dig {k : Nat} {V : Nat → Nat} (hv : ∀ v, v < 6 → V v < 16) (hk : k < 6) : eb V 6 / 2 ^ (4 * (5 - k)) % 16 = V k := by
  have a := eb_div hv (k + 1) (5 - k) (by omega)
  rw [show k + 1 + (5 - k) = 6 by omega] at a
  rw [Nat.pow_mul, show (2 ^ 4 : Nat) = 16 from rfl, a]
  have c := hv k hk
  show (eb V k * 16 + V k) % 16 = _
  omega
