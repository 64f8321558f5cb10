theorem k_X12_packedVars_loop {l : Launch} {g : AG} {h : AH} {nw : Nat} {S : AS} {Q : Int64 → AH → Prop} (hr : Refs h) (hs : WS nw S) (hp : RepS h S) (hq : Q (Int64.ofNat (eb S.2.2.2.2 6)) h) : ∀ d k : Nat, k + d = 6 → L_X12_packedVars_4 l g h 103 (Int64.ofNat (eb S.2.2.2.2 k)) (Int32.ofNat k) Q := by
  intro d
  induction d with
  | zero =>
    intro k hk
    refine s_X12_packedVars_4 ⟨fun _ => ?_, fun c => ?_⟩
    · rw [show k = 6 by omega]
      exact hq
    · exact absurd ((i_le (a := 6) (b := k) (by omega) (by omega)).2 (by omega)) c
  | succ d ih =>
    intro k hk
    refine s_X12_packedVars_4 ⟨fun c => ?_, fun c => ?_⟩
    · exact absurd ((i_le (a := 6) (b := k) (by omega) (by omega)).1 c) (by omega)
    · rw [rf_103_23 hr, i_cl (show k < 2147483648 by omega)]
      refine ⟨⟨by decide, rfl⟩, ⟨by decide, rfl⟩, i_in (by omega) (show k < 6 by omega), ?_⟩
      intro v5 e5 v7 e7
      have w := hs.2.2.2.2.2 k (by omega)
      have a : v5 = Int64.ofNat (eb S.2.2.2.2 (k + 1)) := by
        rw [e5, hp.2.2.2 k (by omega), show (4 : Int32) = Int32.ofNat 4 from rfl, l_shl _ (by decide), l_of (by omega), l_or, n_or (by omega)]
        rfl
      have b : v7 = Int32.ofNat (k + 1) := by
        rw [e7, show (1 : Int32) = Int32.ofNat 1 from rfl, i_add]
      rw [a, b]
      exact ih (k + 1) (by omega)
theorem k_X12_packedVars {l : Launch} {g : AG} {h : AH} {nw : Nat} {S : AS} {Q : Int64 → AH → Prop} (hr : Refs h) (hs : WS nw S) (hp : RepS h S) (hq : Q (Int64.ofNat (eb S.2.2.2.2 6)) h) : C_X12_packedVars l g h 103 Q :=
  c_X12_packedVars (s_X12_packedVars_0 (k_X12_packedVars_loop hr hs hp hq 6 0 rfl))
/-- heaps alike but for the model's scratch STATE -/
def FrS (h h' : AH) : Prop := h'.2 = h.2 ∧ ∀ c p, c ≠ 130 → c ≠ 131 → c ≠ 132 → ¬ (c = 103 ∧ (p = 19 ∨ p = 20)) → h'.1 c p = h.1 c p
theorem FrS.refl (h : AH) : FrS h h := ⟨rfl, fun _ _ _ _ _ _ => rfl⟩
theorem FrS.trans {h h1 h2 : AH} (a : FrS h h1) (b : FrS h1 h2) : FrS h h2 := ⟨b.1.trans a.1, fun c p q1 q2 q3 q4 => (b.2 c p q1 q2 q3 q4).trans (a.2 c p q1 q2 q3 q4)⟩
theorem FrS.setI {h h1 : AH} {i k : Nat} {v : Int32} (a : FrS h h1) (e : i = 130 ∨ i = 131 ∨ i = 132 ∨ (i = 103 ∧ (k = 19 ∨ k = 20))) : FrS h (ax_setI h1 i k v) := by
  refine ⟨a.1, ?_⟩
  intro c p q1 q2 q3 q4
  rw [gI_I, if_neg]
  · exact a.2 c p q1 q2 q3 q4
  · intro q
    rcases e with e | e | e | e
    · exact q1 (q.1.trans e)
    · exact q2 (q.1.trans e)
    · exact q3 (q.1.trans e)
    · exact q4 ⟨q.1.trans e.1, by rcases e.2 with f | f; exact Or.inl (q.2.trans f); exact Or.inr (q.2.trans f)⟩
theorem FrS.refs {h h1 : AH} (a : FrS h h1) (hr : Refs h) : Refs h1 := by
  intro c p hn
  rw [a.1]
  exact hr c p hn
theorem k_X12_begins_loop {l : Launch} {g : AG} {h0 : AH} {Q : AH → Prop} (hq : ∀ h', FrS h0 h' → RepS h' st0 → Q h') : ∀ d k : Nat, k + d = 6 → ∀ h : AH, Refs h → FrS h0 h → h.1 103 19 = 0 → h.1 103 20 = 1 → h.1 130 0 = 0 → h.1 131 0 = 0 → (∀ v, v < k → h.1 132 v = 0) → L_X12_begins_26 l g h 103 (Int32.ofNat k) Q := by
  intro d
  induction d with
  | zero =>
    intro k hk h hr hf a1 a2 a3 a4 a5
    refine s_X12_begins_26 ⟨fun _ => ?_, fun c => ?_⟩
    · refine hq h hf ⟨a1, a2, ?_, ?_⟩
      · intro j hj
        have : j = 0 := by have : j < 1 := hj; omega
        subst this
        exact ⟨a3, a4⟩
      · intro v hv
        exact a5 v (by omega)
    · exact absurd ((i_le (a := 6) (b := k) (by omega) (by omega)).2 (by omega)) c
  | succ d ih =>
    intro k hk h hr hf a1 a2 a3 a4 a5
    refine s_X12_begins_26 ⟨fun c => ?_, fun c => ?_⟩
    · exact absurd ((i_le (a := 6) (b := k) (by omega) (by omega)).1 c) (by omega)
    · rw [rf_103_23 hr, i_cl (show k < 2147483648 by omega)]
      refine ⟨⟨by decide, rfl⟩, ⟨by decide, rfl⟩, i_in (by omega) (show k < 6 by omega), ?_⟩
      intro h2 e2 v7 e7
      have b : v7 = Int32.ofNat (k + 1) := by
        rw [e7, show (1 : Int32) = Int32.ofNat 1 from rfl, i_add]
      rw [b]
      subst e2
      refine ih (k + 1) (by omega) _ hr.setI (hf.setI (Or.inr (Or.inr (Or.inl rfl)))) ?_ ?_ ?_ ?_ ?_
      · rw [gI_I, if_neg (fun q => absurd q.1 (by decide))]; exact a1
      · rw [gI_I, if_neg (fun q => absurd q.1 (by decide))]; exact a2
      · rw [gI_I, if_neg (fun q => absurd q.1 (by decide))]; exact a3
      · rw [gI_I, if_neg (fun q => absurd q.1 (by decide))]; exact a4
      · intro v hv
        rw [gI_I]
        by_cases e : v = k
        · rw [if_pos ⟨rfl, e⟩]
        · rw [if_neg (fun q => e q.2)]
          exact a5 v (by omega)
