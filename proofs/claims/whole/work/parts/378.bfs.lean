/-- THE MAP as it grows: how many STATES, they, from where, by which ACT, how far, where each ACT leads -/
abbrev BT : Type := Nat × (Nat → AS) × (Nat → Nat) × (Nat → Nat) × (Nat → Nat) × (Nat → Nat)
def bs0 : BT := (1, fun _ => st0, fun _ => 0, fun _ => 0, fun _ => 0, fun _ => 0)
/-- where ACT j % 27 leads from STATE j / 27 -/
def bsT (D : AD) (B : BT) (j : Nat) : AS := stepD D (B.2.1 (j / 27)) (j % 27)
def bsP (D : AD) (B : BT) (j : Nat) : Prop := possD D (B.2.1 (j / 27)) (j % 27)
noncomputable def bsF (D : AD) (B : BT) (j : Nat) : Nat := findN (fun i => en (B.2.1 i) = en (bsT D B j)) B.1
noncomputable def bs1 (D : AD) (B : BT) (j : Nat) : BT := @ite BT (bsP D B j) (Classical.propDecidable _) (if bsF D B j < B.1 then (B.1, B.2.1, B.2.2.1, B.2.2.2.1, B.2.2.2.2.1, nup B.2.2.2.2.2 j (bsF D B j)) else (B.1 + 1, upS B.2.1 B.1 (bsT D B j), nup B.2.2.1 B.1 (j / 27), nup B.2.2.2.1 B.1 (j % 27), nup B.2.2.2.2.1 B.1 (B.2.2.2.2.1 (j / 27) + 1), nup B.2.2.2.2.2 j B.1)) B
noncomputable def bsN (D : AD) : Nat → BT
  | 0 => bs0
  | j + 1 => bs1 D (bsN D j) j
/-- there is no room for the next STATE -/
def bsO (D : AD) (B : BT) (j : Nat) : Prop := bsP D B j ∧ (∀ i, i < B.1 → en (B.2.1 i) ≠ en (bsT D B j)) ∧ B.1 = 400
def bsOK (D : AD) (j : Nat) : Prop := ∀ i, i < j → ¬ bsO D (bsN D i) i ∧ i / 27 < (bsN D i).1
theorem bs1_no {D : AD} {B : BT} {j : Nat} (h : ¬ bsP D B j) : bs1 D B j = B := by unfold bs1; exact if_neg h
theorem bs1_old {D : AD} {B : BT} {j i : Nat} (h : bsP D B j) (hi : i < B.1) (e : en (B.2.1 i) = en (bsT D B j)) (hl : ∀ k, k < i → en (B.2.1 k) ≠ en (bsT D B j)) : bs1 D B j = (B.1, B.2.1, B.2.2.1, B.2.2.2.1, B.2.2.2.2.1, nup B.2.2.2.2.2 j i) := by
  have q : bsF D B j = i := findN_eq hi e hl
  unfold bs1
  rw [if_pos h, q, if_pos hi]
theorem bs1_new {D : AD} {B : BT} {j : Nat} (h : bsP D B j) (hl : ∀ k, k < B.1 → en (B.2.1 k) ≠ en (bsT D B j)) : bs1 D B j = (B.1 + 1, upS B.2.1 B.1 (bsT D B j), nup B.2.2.1 B.1 (j / 27), nup B.2.2.2.1 B.1 (j % 27), nup B.2.2.2.2.1 B.1 (B.2.2.2.2.1 (j / 27) + 1), nup B.2.2.2.2.2 j B.1) := by
  have q : bsF D B j = B.1 := findN_none hl
  unfold bs1
  rw [if_pos h, q, if_neg (Nat.lt_irrefl _)]
theorem upS_s (S : Nat → AS) (a : Nat) (U : AS) : upS S a U a = U := by unfold upS; rw [if_pos rfl]
theorem upS_n {S : Nat → AS} {a b : Nat} {U : AS} (h : b ≠ a) : upS S a U b = S b := by unfold upS; rw [if_neg h]
def bsW (D : AD) (B : BT) (j : Nat) : Prop := MapW D B.1 B.2.1 B.2.2.1 B.2.2.2.1 B.2.2.2.2.1 ∧ LdW D B.1 B.2.1 B.2.2.2.2.2 j
/-- which of the three: nothing, an old STATE, a new one -/
theorem bs_case {D : AD} {B : BT} {j : Nat} (w : MapW D B.1 B.2.1 B.2.2.1 B.2.2.2.1 B.2.2.2.2.1) : (¬ bsP D B j) ∨ (bsP D B j ∧ ∃ i, i < B.1 ∧ en (B.2.1 i) = en (bsT D B j) ∧ ∀ k, k < B.1 → k ≠ i → en (B.2.1 k) ≠ en (bsT D B j)) ∨ (bsP D B j ∧ ∀ k, k < B.1 → en (B.2.1 k) ≠ en (bsT D B j)) := by
  by_cases p : bsP D B j
  · by_cases q : ∃ i, i < B.1 ∧ en (B.2.1 i) = en (bsT D B j)
    · obtain ⟨i, i1, i2⟩ := q
      refine Or.inr (Or.inl ⟨p, i, i1, i2, fun k hk hne e => hne ?_⟩)
      exact w.2.2.2.1 k i hk i1 (e.trans i2.symm)
    · exact Or.inr (Or.inr ⟨p, fun k hk e => q ⟨k, hk, e⟩⟩)
  · exact Or.inl p
theorem bsW_step {D : AD} {B : BT} {j : Nat} (hD : WfD D) (w : bsW D B j) (hj : j / 27 < B.1) (ho : ¬ bsO D B j) : bsW D (bs1 D B j) (j + 1) := by
  obtain ⟨wM, wL⟩ := w
  rcases bs_case (j := j) wM with p | ⟨p, i, i1, i2, i3⟩ | ⟨p, q⟩
  · rw [bs1_no p]
    refine ⟨wM, fun i hi hp => ?_⟩
    by_cases c : i = j
    · rw [c] at hp; exact absurd hp p
    · exact wL i (by omega) hp
  · rw [bs1_old p i1 i2 (fun k hk => i3 k (by omega) (by omega))]
    refine ⟨wM, fun k hk hp => ?_⟩
    show nup B.2.2.2.2.2 j i k < B.1 ∧ en (B.2.1 (nup B.2.2.2.2.2 j i k)) = _
    by_cases c : k = j
    · rw [c, nup_s]; exact ⟨i1, i2⟩
    · rw [nup_n c]; exact wL k (by omega) hp
  · rw [bs1_new p q]
    have h400 : B.1 < 400 := by
      rcases Nat.lt_or_ge B.1 400 with z | z
      · exact z
      · exact absurd ⟨p, q, by have := wM.2.1; omega⟩ ho
    have wT : WS (D 0 0) (bsT D B j) := ws_stepD hD (wM.2.2.1 _ hj) p
    refine ⟨⟨by show 0 < B.1 + 1; omega, by show B.1 + 1 ≤ 400; omega, fun i hi => ?_, fun i k hi hk e => ?_, ?_, fun i hi h0 => ?_⟩, fun i hi hp => ?_⟩
    · show WS (D 0 0) (upS B.2.1 B.1 (bsT D B j) i)
      by_cases c : i = B.1
      · rw [c, upS_s]; exact wT
      · have hi2 : i < B.1 + 1 := hi
        rw [upS_n c]; exact wM.2.2.1 i (by omega)
    · have hi2 : i < B.1 + 1 := hi
      have hk2 : k < B.1 + 1 := hk
      have e2 : en (upS B.2.1 B.1 (bsT D B j) i) = en (upS B.2.1 B.1 (bsT D B j) k) := e
      by_cases c : i = B.1
      · by_cases c2 : k = B.1
        · omega
        · rw [c, upS_s, upS_n c2] at e2
          exact absurd e2.symm (q k (by omega))
      · by_cases c2 : k = B.1
        · rw [c2, upS_s, upS_n c] at e2
          exact absurd e2 (q i (by omega))
        · rw [upS_n c, upS_n c2] at e2
          exact wM.2.2.2.1 i k (by omega) (by omega) e2
    · show nup B.2.2.2.2.1 B.1 (B.2.2.2.2.1 (j / 27) + 1) 0 = 0
      rw [nup_n (by have := wM.1; omega)]; exact wM.2.2.2.2.1
    · have hi2 : i < B.1 + 1 := hi
      show nup B.2.2.1 B.1 (j / 27) i < i ∧ nup B.2.2.2.1 B.1 (j % 27) i < 27 ∧ nup B.2.2.2.2.1 B.1 (B.2.2.2.2.1 (j / 27) + 1) i = nup B.2.2.2.2.1 B.1 (B.2.2.2.2.1 (j / 27) + 1) (nup B.2.2.1 B.1 (j / 27) i) + 1
      by_cases c : i = B.1
      · rw [c, nup_s, nup_s, nup_s, nup_n (by omega)]
        exact ⟨hj, Nat.mod_lt _ (by omega), rfl⟩
      · have z := wM.2.2.2.2.2 i (by omega) h0
        rw [nup_n c, nup_n c, nup_n c, nup_n (by omega)]
        exact z
    · have hi2 : i / 27 < B.1 := by omega
      have hp2 : possD D (upS B.2.1 B.1 (bsT D B j) (i / 27)) (i % 27) := hp
      rw [upS_n (by omega)] at hp2
      show nup B.2.2.2.2.2 j B.1 i < B.1 + 1 ∧ en (upS B.2.1 B.1 (bsT D B j) (nup B.2.2.2.2.2 j B.1 i)) = en (stepD D (upS B.2.1 B.1 (bsT D B j) (i / 27)) (i % 27))
      rw [upS_n (show i / 27 ≠ B.1 by omega)]
      by_cases c : i = j
      · rw [c, nup_s, upS_s]; exact ⟨by omega, rfl⟩
      · have z := wL i (by omega) hp2
        rw [nup_n c, upS_n (by omega)]
        exact ⟨by omega, z.2⟩
theorem bsW_all {D : AD} (hD : WfD D) : ∀ j, bsOK D j → bsW D (bsN D j) j := by
  intro j
  induction j with
  | zero =>
    intro _
    refine ⟨⟨Nat.one_pos, by show 1 ≤ 400; omega, fun i _ => WS.zero hD.1.1 hD.1.2.1, fun i k hi hk _ => ?_, rfl, fun i hi h0 => ?_⟩, fun i hi => absurd hi (Nat.not_lt_zero i)⟩
    · have h1 : i < 1 := hi
      have h2 : k < 1 := hk
      omega
    · have h1 : i < 1 := hi
      omega
  | succ j ih =>
    intro h
    have q := h j (by omega)
    exact bsW_step hD (ih (fun i hi => h i (by omega))) q.2 q.1
theorem bs1_le (D : AD) (B : BT) (j : Nat) : B.1 ≤ (bs1 D B j).1 := by
  unfold bs1
  by_cases p : bsP D B j
  · rw [if_pos p]
    split
    · exact Nat.le_refl _
    · show B.1 ≤ B.1 + 1
      omega
  · rw [if_neg p]; exact Nat.le_refl _
theorem bsN_mono (D : AD) {i j : Nat} (h : i ≤ j) : (bsN D i).1 ≤ (bsN D j).1 := by
  induction j with
  | zero => rw [show i = 0 by omega]; exact Nat.le_refl _
  | succ j ih =>
    by_cases c : i = j + 1
    · rw [c]; exact Nat.le_refl _
    · exact Nat.le_trans (ih (by omega)) (bs1_le D (bsN D j) j)
/-- STATES keep their numbers -/
theorem bs1_ST {D : AD} {B : BT} {j i : Nat} (hi : i < B.1) : (bs1 D B j).2.1 i = B.2.1 i := by
  unfold bs1
  by_cases p : bsP D B j
  · rw [if_pos p]
    split
    · rfl
    · show upS B.2.1 B.1 (bsT D B j) i = _
      rw [upS_n (by omega)]
  · rw [if_neg p]
/-- how the search ends: at J, all gone through or no room -/
def bsEnd (D : AD) (J : Nat) (suc : Prop) : Prop := bsOK D J ∧ (suc → ∃ se, J = 27 * se ∧ (bsN D J).1 = se) ∧ (¬ suc → J / 27 < (bsN D J).1 ∧ bsO D (bsN D J) J)
