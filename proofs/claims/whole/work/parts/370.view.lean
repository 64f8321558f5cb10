def vsh (D : AD) (V : Nat → Nat) (w : Nat) : Nat → Nat
  | 0 => 0
  | k + 1 => vsh D V w k * 16 + V (D 7 (6 * w + k))
noncomputable def vbt (D : AD) (V : Nat → Nat) (w c : Nat) : Nat → Nat
  | 0 => c
  | j + 1 => vbt D V w c j * 2 + bI (holdsD D V (D 18 w + j))
noncomputable def viewCN (D : AD) (S : AS) (w : Nat) : Nat := vbt D S.2.2.2.2 w (vsh D S.2.2.2.2 w (D 6 w)) (D 19 w - D 18 w) * 8 + w
/-- the class's VIEW in one long -/
noncomputable def viewC (D : AD) (S : AS) : Int64 := if S.2.1 = 0 then -(Int64.ofNat S.1) else Int64.ofNat (viewCN D S (S.2.2.1 (S.2.1 - 1)))
theorem vsh_lt {D : AD} {V : Nat → Nat} {w : Nat} : ∀ k, (∀ j, j < k → V (D 7 (6 * w + j)) < 16) → vsh D V w k < 16 ^ k
  | 0, _ => Nat.one_pos
  | k + 1, h => by
    have a := vsh_lt (D := D) (V := V) (w := w) k (fun j hj => h j (by omega))
    have b := h k (by omega)
    show vsh D V w k * 16 + V (D 7 (6 * w + k)) < 16 ^ (k + 1)
    rw [Nat.pow_succ]
    omega
theorem vbt_lt {D : AD} {V : Nat → Nat} {w c m : Nat} (hc : c < m) : ∀ k, vbt D V w c k < m * 2 ^ k
  | 0 => by show c < m * 2 ^ 0; omega
  | k + 1 => by
    have a := vbt_lt (D := D) (V := V) (w := w) hc k
    have b := bI_le (holdsD D V (D 18 w + k))
    show vbt D V w c k * 2 + bI (holdsD D V (D 18 w + k)) < m * 2 ^ (k + 1)
    rw [Nat.pow_succ, ← Nat.mul_assoc]
    omega
theorem vsh_inj {D : AD} {V U : Nat → Nat} {w : Nat} : ∀ k, (∀ j, j < k → V (D 7 (6 * w + j)) < 16) → (∀ j, j < k → U (D 7 (6 * w + j)) < 16) → (vsh D V w k = vsh D U w k ↔ ∀ j, j < k → V (D 7 (6 * w + j)) = U (D 7 (6 * w + j))) := by
  intro k
  induction k with
  | zero => intro _ _; exact ⟨fun _ j hj => absurd hj (Nat.not_lt_zero j), fun _ => rfl⟩
  | succ k ih =>
    intro h1 h2
    have ih := ih (fun j hj => h1 j (by omega)) (fun j hj => h2 j (by omega))
    have b1 := h1 k (by omega)
    have b2 := h2 k (by omega)
    show vsh D V w k * 16 + V (D 7 (6 * w + k)) = vsh D U w k * 16 + U (D 7 (6 * w + k)) ↔ _
    refine ⟨fun e j hj => ?_, fun e => ?_⟩
    · by_cases c : j = k
      · subst c; omega
      · exact ih.1 (by omega) j (by omega)
    · rw [ih.2 (fun j hj => e j (by omega)), e k (by omega)]
theorem vbt_inj {D : AD} {V U : Nat → Nat} {w c c2 : Nat} : ∀ k, (vbt D V w c k = vbt D U w c2 k ↔ c = c2 ∧ ∀ j, j < k → (holdsD D V (D 18 w + j) ↔ holdsD D U (D 18 w + j))) := by
  intro k
  induction k with
  | zero => exact ⟨fun e => ⟨e, fun j hj => absurd hj (Nat.not_lt_zero j)⟩, fun e => e.1⟩
  | succ k ih =>
    have b1 := bI_le (holdsD D V (D 18 w + k))
    have b2 := bI_le (holdsD D U (D 18 w + k))
    show vbt D V w c k * 2 + bI (holdsD D V (D 18 w + k)) = vbt D U w c2 k * 2 + bI (holdsD D U (D 18 w + k)) ↔ _
    refine ⟨fun e => ?_, fun e => ?_⟩
    · have q := ih.1 (by omega)
      refine ⟨q.1, fun j hj => ?_⟩
      by_cases z : j = k
      · subst z
        have e2 : bI (holdsD D V (D 18 w + j)) = bI (holdsD D U (D 18 w + j)) := by omega
        by_cases p : holdsD D V (D 18 w + j)
        · rw [bI_t p, eq_comm, bI_one] at e2
          exact ⟨fun _ => e2, fun _ => p⟩
        · rw [bI_f p, eq_comm, bI_zero] at e2
          exact ⟨fun z => absurd z p, fun z => absurd z e2⟩
      · exact q.2 j (by omega)
    · rw [ih.2 ⟨e.1, fun j hj => e.2 j (by omega)⟩, bI_congr (e.2 k (by omega))]
/-- two STATES show alike -/
def VE (D : AD) (S U : AS) : Prop := (S.2.1 = 0 ∧ U.2.1 = 0 ∧ S.1 = U.1) ∨ (0 < S.2.1 ∧ 0 < U.2.1 ∧ S.2.2.1 (S.2.1 - 1) = U.2.2.1 (U.2.1 - 1) ∧ (∀ k, k < D 6 (S.2.2.1 (S.2.1 - 1)) → S.2.2.2.2 (D 7 (6 * S.2.2.1 (S.2.1 - 1) + k)) = U.2.2.2.2 (D 7 (6 * S.2.2.1 (S.2.1 - 1) + k))) ∧ ∀ b, b < 24 → (pressD D S b ↔ pressD D U b))
theorem press_iff {D : AD} {S : AS} (hD : WfD D) (hs : WS (D 0 0) S) (h0 : 0 < S.2.1) (b : Nat) : pressD D S b ↔ (D 18 (S.2.2.1 (S.2.1 - 1)) ≤ b ∧ b < D 19 (S.2.2.1 (S.2.1 - 1)) ∧ holdsD D S.2.2.2.2 b) := by
  have hw := (hs.2.2.2.2.1 (S.2.1 - 1) (by omega)).1
  have q := hD.2.1 _ hw
  refine ⟨fun z => ?_, fun z => ⟨h0, by omega, (q.2.2.2.2.2 b (by omega)).2 ⟨z.1, z.2.1⟩, z.2.2⟩⟩
  have := (q.2.2.2.2.2 b z.2.1).1 z.2.2.1
  exact ⟨this.1, this.2, z.2.2.2⟩
theorem show_lt {D : AD} {S : AS} (hD : WfD D) (hs : WS (D 0 0) S) {w : Nat} (hw : w < D 0 0) : ∀ j, j < D 6 w → S.2.2.2.2 (D 7 (6 * w + j)) < 16 := by
  intro j hj
  have a := (hD.2.1 w hw).2.1 j hj
  have b := hD.1.2.2.2
  exact hs.2.2.2.2.2 _ (by omega)
theorem viewCN_lt {D : AD} {S : AS} (hD : WfD D) (hs : WS (D 0 0) S) {w : Nat} (hw : w < D 0 0) : viewCN D S w < 4503599627370496 := by
  have a := vsh_lt (D := D) (V := S.2.2.2.2) (w := w) (D 6 w) (show_lt hD hs hw)
  have q := hD.2.1 w hw
  have h8 := hD.1.2.1
  have h24 := hD.1.2.2.1
  have p1 : 16 ^ D 6 w ≤ 16 ^ 6 := Nat.pow_le_pow_right (by omega) q.1
  have b := vbt_lt (D := D) (V := S.2.2.2.2) (w := w) (c := vsh D S.2.2.2.2 w (D 6 w)) (m := 16 ^ 6) (by omega) (D 19 w - D 18 w)
  have p2 : 2 ^ (D 19 w - D 18 w) ≤ 2 ^ 24 := Nat.pow_le_pow_right (by omega) (by omega)
  have p3 : 16 ^ 6 * 2 ^ (D 19 w - D 18 w) ≤ 16 ^ 6 * 2 ^ 24 := Nat.mul_le_mul_left _ p2
  unfold viewCN
  omega
theorem l_neg_ne {a b : Nat} (ha : 0 < a) (ha2 : a < 100) (hb : b < 9223372036854775808) : -(Int64.ofNat a) ≠ Int64.ofNat b := by
  intro e
  have e2 := congrArg Int64.toInt e
  rw [Int64.toInt_neg, Int64.toInt_ofNat_of_lt (by omega), Int64.toInt_ofNat_of_lt (by omega)] at e2
  rw [Int.bmod_eq_of_le (by omega) (by omega)] at e2
  omega
theorem l_neg_eq {a b : Nat} (ha2 : a < 100) (hb : b < 100) : -(Int64.ofNat a) = -(Int64.ofNat b) ↔ a = b := by
  refine ⟨fun e => ?_, fun e => by rw [e]⟩
  rw [Int64.neg_inj] at e
  exact (l_eq (by omega) (by omega)).1 e
theorem viewC_iff {D : AD} {S U : AS} (hD : WfD D) (hs : WS (D 0 0) S) (hu : WS (D 0 0) U) : viewC D S = viewC D U ↔ VE D S U := by
  have f1 := fault_le hs
  have f2 := fault_le hu
  unfold viewC VE
  by_cases c : S.2.1 = 0
  · by_cases c2 : U.2.1 = 0
    · rw [if_pos c, if_pos c2, l_neg_eq (by omega) (by omega)]
      exact ⟨fun e => Or.inl ⟨c, c2, e⟩, fun e => by rcases e with e | e; exact e.2.2; omega⟩
    · have hw := (hu.2.2.2.2.1 (U.2.1 - 1) (by omega)).1
      have := viewCN_lt hD hu hw
      rw [if_pos c, if_neg c2]
      exact ⟨fun e => absurd e (l_neg_ne (by have := (hs.2.2.1 c).1; omega) (by omega) (by omega)), fun e => by rcases e with e | e <;> omega⟩
  · have hw := (hs.2.2.2.2.1 (S.2.1 - 1) (by omega)).1
    have b1 := viewCN_lt hD hs hw
    by_cases c2 : U.2.1 = 0
    · rw [if_neg c, if_pos c2]
      exact ⟨fun e => absurd e.symm (l_neg_ne (by have := (hu.2.2.1 c2).1; omega) (by omega) (by omega)), fun e => by rcases e with e | e <;> omega⟩
    · have hw2 := (hu.2.2.2.2.1 (U.2.1 - 1) (by omega)).1
      have b2 := viewCN_lt hD hu hw2
      have h8 := hD.1.2.1
      rw [if_neg c, if_neg c2, l_eq (by omega) (by omega)]
      have key : S.2.2.1 (S.2.1 - 1) = U.2.2.1 (U.2.1 - 1) → (viewCN D S (S.2.2.1 (S.2.1 - 1)) = viewCN D U (S.2.2.1 (S.2.1 - 1)) ↔ (∀ k, k < D 6 (S.2.2.1 (S.2.1 - 1)) → S.2.2.2.2 (D 7 (6 * S.2.2.1 (S.2.1 - 1) + k)) = U.2.2.2.2 (D 7 (6 * S.2.2.1 (S.2.1 - 1) + k))) ∧ ∀ b, b < 24 → (pressD D S b ↔ pressD D U b)) := by
        intro ew
        have qw := hD.2.1 _ hw
        have h24 := hD.1.2.2.1
        have e1 : viewCN D S (S.2.2.1 (S.2.1 - 1)) = viewCN D U (S.2.2.1 (S.2.1 - 1)) ↔ vbt D S.2.2.2.2 (S.2.2.1 (S.2.1 - 1)) (vsh D S.2.2.2.2 (S.2.2.1 (S.2.1 - 1)) (D 6 (S.2.2.1 (S.2.1 - 1)))) (D 19 (S.2.2.1 (S.2.1 - 1)) - D 18 (S.2.2.1 (S.2.1 - 1))) = vbt D U.2.2.2.2 (S.2.2.1 (S.2.1 - 1)) (vsh D U.2.2.2.2 (S.2.2.1 (S.2.1 - 1)) (D 6 (S.2.2.1 (S.2.1 - 1)))) (D 19 (S.2.2.1 (S.2.1 - 1)) - D 18 (S.2.2.1 (S.2.1 - 1))) := by
          unfold viewCN
          omega
        rw [e1, vbt_inj, vsh_inj _ (show_lt hD hs hw) (show_lt hD hu (by omega))]
        refine ⟨fun e => ⟨e.1, fun b hb => ?_⟩, fun e => ⟨e.1, fun j hj => ?_⟩⟩
        · rw [press_iff hD hs (by omega), press_iff hD hu (by omega), ← ew]
          by_cases z : D 18 (S.2.2.1 (S.2.1 - 1)) ≤ b ∧ b < D 19 (S.2.2.1 (S.2.1 - 1))
          · have := e.2 (b - D 18 (S.2.2.1 (S.2.1 - 1))) (by omega)
            rw [show D 18 (S.2.2.1 (S.2.1 - 1)) + (b - D 18 (S.2.2.1 (S.2.1 - 1))) = b by omega] at this
            exact ⟨fun y => ⟨z.1, z.2, this.1 y.2.2⟩, fun y => ⟨z.1, z.2, this.2 y.2.2⟩⟩
          · exact ⟨fun y => absurd ⟨y.1, y.2.1⟩ z, fun y => absurd ⟨y.1, y.2.1⟩ z⟩
        · have := e.2 (D 18 (S.2.2.1 (S.2.1 - 1)) + j) (by omega)
          rw [press_iff hD hs (by omega), press_iff hD hu (by omega), ← ew] at this
          exact ⟨fun y => (this.1 ⟨by omega, by omega, y⟩).2.2, fun y => (this.2 ⟨by omega, by omega, y⟩).2.2⟩
      refine ⟨fun e => ?_, fun e => ?_⟩
      · have ew : S.2.2.1 (S.2.1 - 1) = U.2.2.1 (U.2.1 - 1) := by
          unfold viewCN at e
          omega
        rw [← ew] at e
        have := (key ew).1 e
        exact Or.inr ⟨by omega, by omega, ew, this.1, this.2⟩
      · rcases e with e | e
        · omega
        · rw [← e.2.2.1]
          exact (key e.2.2.1).2 e.2.2.2
theorem shD_lt {D : AD} {S : AS} {w : Nat} (hw : w < 8) (h : ∀ j, j < D 6 w → S.2.2.2.2 (D 7 (6 * w + j)) < 16) : ∀ k, shD D S w k < 8 * 16 ^ k
  | 0 => by show w < 8 * 16 ^ 0; omega
  | k + 1 => by
    have a := shD_lt hw h k
    show shD D S w k * 16 + (if k < D 6 w then S.2.2.2.2 (D 7 (6 * w + k)) else 0) < 8 * 16 ^ (k + 1)
    rw [Nat.pow_succ]
    split
    · next c => have := h k c; omega
    · omega
theorem shD_inj {D : AD} {S U : AS} {w w2 : Nat} (hw : w < 8) (hw2 : w2 < 8) (h : ∀ j, j < D 6 w → S.2.2.2.2 (D 7 (6 * w + j)) < 16) (h2 : ∀ j, j < D 6 w2 → U.2.2.2.2 (D 7 (6 * w2 + j)) < 16) : ∀ k, (shD D S w k = shD D U w2 k ↔ w = w2 ∧ ∀ j, j < k → j < D 6 w → S.2.2.2.2 (D 7 (6 * w + j)) = U.2.2.2.2 (D 7 (6 * w + j))) := by
  intro k
  induction k with
  | zero => exact ⟨fun e => ⟨e, fun j hj => absurd hj (Nat.not_lt_zero j)⟩, fun e => e.1⟩
  | succ k ih =>
    have b1 : (if k < D 6 w then S.2.2.2.2 (D 7 (6 * w + k)) else 0) < 16 := by
      split
      · next c => exact h k c
      · omega
    have b2 : (if k < D 6 w2 then U.2.2.2.2 (D 7 (6 * w2 + k)) else 0) < 16 := by
      split
      · next c => exact h2 k c
      · omega
    show shD D S w k * 16 + (if k < D 6 w then S.2.2.2.2 (D 7 (6 * w + k)) else 0) = shD D U w2 k * 16 + (if k < D 6 w2 then U.2.2.2.2 (D 7 (6 * w2 + k)) else 0) ↔ _
    refine ⟨fun e => ?_, fun e => ?_⟩
    · have q := ih.1 (by omega)
      refine ⟨q.1, fun j hj hj2 => ?_⟩
      by_cases z : j = k
      · subst z
        have e2 : (if j < D 6 w then S.2.2.2.2 (D 7 (6 * w + j)) else 0) = (if j < D 6 w2 then U.2.2.2.2 (D 7 (6 * w2 + j)) else 0) := by omega
        rw [← q.1, if_pos hj2, if_pos hj2] at e2
        exact e2
      · exact q.2 j (by omega) hj2
    · obtain ⟨e1, e2⟩ := e
      subst e1
      rw [ih.2 ⟨rfl, fun j hj => e2 j (by omega)⟩]
      by_cases c : k < D 6 w
      · rw [if_pos c, if_pos c, e2 k (by omega) c]
      · rw [if_neg c, if_neg c]
theorem viewM_iff {D : AD} {S U : AS} (hD : WfD D) (hs : WS (D 0 0) S) (hu : WS (D 0 0) U) : viewM D S = viewM D U ↔ VE D S U := by
  have f1 := fault_le hs
  have f2 := fault_le hu
  have h8 := hD.1.2.1
  unfold viewM VE
  have bnd : ∀ T : AS, WS (D 0 0) T → 0 < T.2.1 → shD D T (T.2.2.1 (T.2.1 - 1)) 6 * 16777216 + bsum (pressD D T) 24 < 9223372036854775808 := by
    intro T hT h0
    have hw := (hT.2.2.2.2.1 (T.2.1 - 1) (by omega)).1
    have a := shD_lt (D := D) (S := T) (w := T.2.2.1 (T.2.1 - 1)) (by omega) (show_lt hD hT hw) 6
    have b := bsum_lt (pressD D T) 24
    omega
  by_cases c : S.2.1 = 0
  · by_cases c2 : U.2.1 = 0
    · rw [if_pos c, if_pos c2, l_neg_eq (by omega) (by omega)]
      exact ⟨fun e => Or.inl ⟨c, c2, e⟩, fun e => by rcases e with e | e; exact e.2.2; omega⟩
    · have := bnd U hu (by omega)
      rw [if_pos c, if_neg c2]
      exact ⟨fun e => absurd e (l_neg_ne (by have := (hs.2.2.1 c).1; omega) (by omega) (by omega)), fun e => by rcases e with e | e <;> omega⟩
  · have b1 := bnd S hs (by omega)
    by_cases c2 : U.2.1 = 0
    · rw [if_neg c, if_pos c2]
      exact ⟨fun e => absurd e.symm (l_neg_ne (by have := (hu.2.2.1 c2).1; omega) (by omega) (by omega)), fun e => by rcases e with e | e <;> omega⟩
    · have b2 := bnd U hu (by omega)
      have hw := (hs.2.2.2.2.1 (S.2.1 - 1) (by omega)).1
      have hw2 := (hu.2.2.2.2.1 (U.2.1 - 1) (by omega)).1
      have l1 := bsum_lt (pressD D S) 24
      have l2 := bsum_lt (pressD D U) 24
      have q6 := (hD.2.1 _ hw).1
      rw [if_neg c, if_neg c2, l_eq b1 b2]
      have inj := shD_inj (S := S) (U := U) (w := S.2.2.1 (S.2.1 - 1)) (w2 := U.2.2.1 (U.2.1 - 1)) (by omega) (by omega) (show_lt hD hs hw) (show_lt hD hu hw2) 6
      refine ⟨fun e => ?_, fun e => ?_⟩
      · have q := inj.1 (by omega)
        exact Or.inr ⟨by omega, by omega, q.1, fun k hk => q.2 k (by omega) hk, bsum_inj (by omega)⟩
      · rcases e with e | e
        · omega
        · rw [inj.2 ⟨e.2.2.1, fun j _ hj => e.2.2.2.1 j hj⟩, bsum_congr 24 e.2.2.2.2]
