def rowchk (h : AH) (c : Nat) : Nat → List Nat → Bool
  | _, [] => true
  | p, v :: vs => (Nat.beq v 0 || Nat.beq (h.2.2 c p) v) && rowchk h c (p + 1) vs
def rfchk (h : AH) : Nat → List (List Nat) → Bool
  | _, [] => true
  | c, r :: rs => rowchk h c 0 r && rfchk h (c + 1) rs
theorem rowchk_ok {h : AH} {c : Nat} : ∀ (r : List Nat) (q : Nat), rowchk h c q r = true → ∀ p, r.getD p 0 ≠ 0 → h.2.2 c (q + p) = r.getD p 0 := by
  intro r
  induction r with
  | nil => intro q _ p hp; exact absurd (by cases p <;> rfl) hp
  | cons v vs ih =>
    intro q hk p hp
    have hk : ((Nat.beq v 0 || Nat.beq (h.2.2 c q) v) && rowchk h c (q + 1) vs) = true := hk
    rw [Bool.and_eq_true] at hk
    cases p with
    | zero =>
      have hp : v ≠ 0 := hp
      rcases Bool.or_eq_true _ _ ▸ hk.1 with u | u
      · exact absurd (Nat.eq_of_beq_eq_true u) hp
      · exact Nat.eq_of_beq_eq_true u
    | succ p =>
      have := ih (q + 1) hk.2 p hp
      rw [show q + (p + 1) = q + 1 + p by omega]
      exact this
theorem rfchk_ok {h : AH} : ∀ (L : List (List Nat)) (q : Nat), rfchk h q L = true → ∀ c p, (L.getD c []).getD p 0 ≠ 0 → h.2.2 (q + c) p = (L.getD c []).getD p 0 := by
  intro L
  induction L with
  | nil => intro q _ c p hp; exact absurd (by cases c <;> cases p <;> rfl) hp
  | cons v vs ih =>
    intro q hk c p hp
    have hk : (rowchk h q 0 v && rfchk h (q + 1) vs) = true := hk
    rw [Bool.and_eq_true] at hk
    cases c with
    | zero =>
      have := rowchk_ok v 0 hk.1 p hp
      rw [Nat.zero_add] at this
      exact this
    | succ c =>
      have := ih (q + 1) hk.2 c p hp
      rw [show q + (c + 1) = q + 1 + c by omega]
      exact this
set_option maxRecDepth 100000 in
theorem hf_r (g : AG) : rfchk (h_fin g) 0 rf_t = true := rfl
theorem hf_refs (g : AG) : Refs (h_fin g) := by
  intro c p hp
  have := rfchk_ok rf_t 0 (hf_r g) c p hp
  rw [Nat.zero_add] at this
  exact this
set_option maxRecDepth 100000 in
theorem hf_2 (g : AG) : (h_fin g).2.2 3 0 = 4 ∧ (h_fin g).2.2 3 1 = 25 ∧ (h_fin g).2.2 1 3 = 46 := ⟨rfl, rfl, rfl⟩
set_option maxRecDepth 100000 in
theorem hf_3 (g : AG) : (h_fin g).2.2 104 0 = 154 ∧ (h_fin g).2.2 104 1 = 174 ∧ (h_fin g).2.2 103 5 = 105 := ⟨rfl, rfl, rfl⟩
set_option maxRecDepth 100000 in
theorem hf_4 (g : AG) : (h_fin g).1 125 0 = 0 ∧ (h_fin g).1 125 1 = 0 ∧ (h_fin g).1 4 0 = 0 ∧ (h_fin g).1 25 0 = 0 := ⟨rfl, rfl, rfl, rfl⟩
set_option maxRecDepth 100000 in
theorem hf_5 (g : AG) : (h_fin g).1 1 1 = Int32.ofNat 0 ∧ (h_fin g).1 103 11 = Int32.ofNat 0 ∧ (h_fin g).1 1 9 = Int32.ofNat 0 ∧ (h_fin g).1 103 40 = Int32.ofNat 0 := ⟨rfl, rfl, rfl, rfl⟩
set_option maxRecDepth 100000 in
theorem hf_6 (g : AG) : (h_fin g).1 67 3 = 0 ∧ (h_fin g).1 103 3 = 0 ∧ (h_fin g).1 1 12 = 0 ∧ (h_fin g).1 103 1 = 0 ∧ (h_fin g).1 103 2 = -1 ∧ (h_fin g).1 1 11 = -1 ∧ (h_fin g).1 103 41 = -1 := ⟨rfl, rfl, rfl, rfl, rfl, rfl, rfl⟩
set_option maxRecDepth 100000 in
theorem hf_7 (g : AG) : (h_fin g).1 74 0 = -1 ∧ (h_fin g).1 103 24 = -1 ∧ (h_fin g).1 103 25 = 0 ∧ (h_fin g).1 94 0 = 0 ∧ (h_fin g).1 103 43 = 0 := ⟨rfl, rfl, rfl, rfl, rfl⟩
theorem inv_fin (g : AG) : Inv (h_fin g) := by
  have a := hf_2 g
  have b := hf_3 g
  have c := hf_4 g
  have d := hf_5 g
  have e := hf_6 g
  have f := hf_7 g
  have r := hf_refs g
  generalize h_fin g = h at *
  refine ⟨fun k => if k = 0 then 4 else if k = 1 then 25 else 46, fun k => if k = 0 then 154 else if k = 1 then 174 else 105, fun _ _ _ => 0, fun _ => st0, fun _ => False, r, ⟨?_, ?_, ?_, a.1, a.2.1, a.2.2, b.1, b.2.1, b.2.2⟩, ?_, ⟨0, fun _ => 0, by omega, d.1, d.2.1, fun k hk => absurd hk (by omega)⟩, ⟨?_, ?_, ?_, ?_⟩, ⟨0, fun _ => 0, by omega, d.2.2.1, d.2.2.2, fun k hk => absurd hk (by omega)⟩, Or.inl ⟨f.1, f.2.1, f.2.2.1⟩, ?_⟩
  · intro k hk
    have : k = 0 ∨ k = 1 ∨ k = 2 := by omega
    unfold isA isB
    rcases this with z | z | z <;> rw [z] <;> decide
  · intro k j hk hj
    have h1 : k = 0 ∨ k = 1 ∨ k = 2 := by omega
    have h2 : j = 0 ∨ j = 1 ∨ j = 2 := by omega
    rcases h1 with z | z | z <;> rcases h2 with y | y | y <;> rw [z, y] <;> decide
  · intro k j hk hj
    have h1 : k = 0 ∨ k = 1 ∨ k = 2 := by omega
    have h2 : j = 0 ∨ j = 1 ∨ j = 2 := by omega
    rcases h1 with z | z | z <;> rcases h2 with y | y | y <;> rw [z, y] <;> decide
  · intro k hk
    refine ⟨fun z => absurd z (fun y => y), fun _ => ?_⟩
    have : k = 0 ∨ k = 1 := by omega
    rcases this with z | z
    · rw [z]; exact ⟨c.1, c.2.2.1⟩
    · rw [z]; exact ⟨c.2.1, c.2.2.2⟩
  · rw [e.1, e.2.1]
  · rw [e.2.2.1, e.2.2.2.1]
  · rw [e.2.2.2.2.1, e.2.2.1, if_neg (by decide)]
  · rw [e.2.2.2.2.2.1, e.2.2.2.2.2.2]
  · unfold IPair
    rw [f.2.2.2.1, f.2.2.2.2]
