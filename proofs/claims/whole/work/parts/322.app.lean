/-- an APP: tag, index -/
abbrev AD : Type := Nat → Nat → Nat
def condOk (D : AD) (V : Nat → Nat) (c : Nat) : Prop := if D 12 c = 61 then V (D 11 c) = D 13 c else if D 12 c = 60 then V (D 11 c) < D 13 c else D 13 c < V (D 11 c)
def holdsD (D : AD) (V : Nat → Nat) (b : Nat) : Prop := ∀ k, k < D 10 b → condOk D V (3 * b + k)
/-- the CONDS of the class's APP at x -/
def RepAc (h : AH) (x : Nat) (D : AD) : Prop := ∀ b, b < D 0 1 → h.1 (x + 12) b = Int32.ofNat (D 10 b) ∧ D 10 b ≤ 3 ∧ ∀ k, k < D 10 b → h.1 (x + 13) (3 * b + k) = Int32.ofNat (D 11 (3 * b + k)) ∧ D 11 (3 * b + k) < 6 ∧ D 13 (3 * b + k) ≤ 9 ∧ h.1 (x + 14) (3 * b + k) = Int32.ofNat (if D 12 (3 * b + k) = 61 then D 13 (3 * b + k) else if D 12 (3 * b + k) = 60 then 0 else D 13 (3 * b + k) + 1) ∧ h.1 (x + 15) (3 * b + k) = (if D 12 (3 * b + k) = 61 then Int32.ofNat (D 13 (3 * b + k)) else if D 12 (3 * b + k) = 60 then Int32.ofNat (D 13 (3 * b + k)) - 1 else 15)
theorem i_subm {a b : Nat} (hb : b < 100) (ha : a < 100) : (Int32.ofNat a ≤ Int32.ofNat b - 1) ↔ a < b := by
  by_cases c : b = 0
  · subst c
    rw [show Int32.ofNat 0 - 1 = -1 from rfl, Int32.le_iff_toInt_le, Int32.toInt_ofNat_of_lt (by omega), show (-1 : Int32).toInt = -1 from rfl]
    omega
  · rw [show (1 : Int32) = Int32.ofNat 1 from rfl, i_sub (by omega), i_le (by omega) (by omega)]
    omega
theorem k_X4_hold_loop {l : Launch} {g : AG} {h : AH} {x b nw : Nat} {S : AS} {D : AD} {Q : Int32 → AH → Prop} (hr : Refs h) (hx : isA x) (hs : WS nw S) (hD : RepAc h x D) (hb : b < D 0 1) (hB : D 0 1 ≤ 24) (hy : holdsD D S.2.2.2.2 b → Q 1 h) (hn : ¬ holdsD D S.2.2.2.2 b → Q 0 h) : ∀ d k : Nat, k + d = D 10 b → (∀ j, j < k → condOk D S.2.2.2.2 (3 * b + j)) → L_X4_hold_9 l g h (x + 11) (Int32.ofNat b) (Int64.ofNat (en S)) (Int32.ofNat (3 * b)) (Int32.ofNat (3 * b + k)) Q := by
  have he := en_lt hs
  obtain ⟨hm, h3, hc⟩ := hD b hb
  intro d
  induction d with
  | zero =>
    intro k hk hj
    refine s_X4_hold_9 ?_
    rw [rfC_0 hr hx, i_cl (show b < 2147483648 by omega), hm, i_add, i_le (by omega) (by omega), (shA_12 hx).2]
    refine ⟨(shA_11 hx).1, (shA_12 hx).1, i_in (by omega) (by omega), fun _ => hy ?_, fun c => absurd (show 3 * b + D 10 b ≤ 3 * b + k by omega) c⟩
    intro j hj2
    exact hj j (by omega)
  | succ d ih =>
    intro k hk hj
    obtain ⟨o1, o2, o3, o4, o5⟩ := hc k (by omega)
    refine s_X4_hold_9 ?_
    rw [rfC_0 hr hx, rfC_1 hr hx, i_cl (show b < 2147483648 by omega), hm, i_add, i_le (by omega) (by omega), (shA_12 hx).2, (shA_13 hx).2, i_cl (show 3 * b + k < 2147483648 by omega), o1]
    refine ⟨(shA_11 hx).1, (shA_12 hx).1, i_in (by omega) (by omega), fun c => absurd c (by omega), fun _ => ⟨(shA_13 hx).1, i_in (by omega) (by omega), k_X3_valueOf (by omega) o2 ?_⟩⟩
    rw [en_val hs o2, rfC_2 hr hx, rfC_3 hr hx, (shA_14 hx).2, (shA_15 hx).2, o4, o5]
    have hv := hs.2.2.2.2.2 _ o2
    have key : condOk D S.2.2.2.2 (3 * b + k) → L_X4_hold_9 l g h (x + 11) (Int32.ofNat b) (Int64.ofNat (en S)) (Int32.ofNat (3 * b)) (Int32.ofNat (3 * b + (k + 1))) Q := by
      intro q
      refine ih (k + 1) (by omega) ?_
      intro j hj2
      by_cases e : j = k
      · rw [e]; exact q
      · exact hj j (by omega)
    have key0 : ¬ condOk D S.2.2.2.2 (3 * b + k) → Q 0 h := fun q => hn (fun a => q (a k (by omega)))
    refine ⟨(shA_14 hx).1, i_in (by omega) (by omega), fun c => key0 ?_, fun c => ⟨(shA_15 hx).1, i_in (by omega) (by omega), fun c2 => ?_, fun c2 => key0 ?_⟩⟩
    · intro q
      unfold condOk at q
      by_cases s1 : D 12 (3 * b + k) = 61
      · rw [if_pos s1] at q c
        rw [i_lt (by omega) (by omega)] at c
        omega
      · by_cases s2 : D 12 (3 * b + k) = 60
        · rw [if_neg s1, if_pos s2] at c
          exact i_nn (by omega) c
        · rw [if_neg s1, if_neg s2] at q c
          rw [i_lt (by omega) (by omega)] at c
          omega
    · intro v18 e18
      rw [show v18 = Int32.ofNat (3 * b + (k + 1)) from by rw [e18, show (1 : Int32) = Int32.ofNat 1 from rfl, i_add]; rfl]
      refine key ?_
      unfold condOk
      by_cases s1 : D 12 (3 * b + k) = 61
      · rw [if_pos s1] at c c2 ⊢
        rw [i_lt (by omega) (by omega)] at c
        rw [i_le (by omega) (by omega)] at c2
        omega
      · by_cases s2 : D 12 (3 * b + k) = 60
        · rw [if_neg s1, if_pos s2] at c2 ⊢
          exact (i_subm (by omega) (by omega)).1 c2
        · rw [if_neg s1, if_neg s2] at c ⊢
          rw [i_lt (by omega) (by omega)] at c
          omega
    · intro q
      unfold condOk at q
      by_cases s1 : D 12 (3 * b + k) = 61
      · rw [if_pos s1] at q c2
        rw [i_le (by omega) (by omega)] at c2
        omega
      · by_cases s2 : D 12 (3 * b + k) = 60
        · rw [if_neg s1, if_pos s2] at q c2
          exact c2 ((i_subm (by omega) (by omega)).2 q)
        · rw [if_neg s1, if_neg s2] at c2
          exact c2 ((i_le (b := 15) (by omega) (by omega)).2 (by omega))
