/-- names are WORDS; no two BUTTONS of a WINDOW have one name -/
def WfN (D : AD) : Prop := (∀ w, w < D 0 0 → D 1 w < 1099511627776) ∧ (∀ b, b < D 0 1 → D 2 b < 1099511627776) ∧ ∀ b c, b < D 0 1 → c < D 0 1 → D 9 b = D 9 c → D 2 b = D 2 c → b = c
def WfDn (D : AD) : Prop := 1 ≤ D 0 0 ∧ D 0 0 ≤ 8 ∧ D 0 1 ≤ 24 ∧ D 0 2 ≤ 6 ∧ WfN D
def WfDw (D : AD) : Prop := ∀ w, w < D 0 0 → D 6 w ≤ 6 ∧ (∀ k, k < D 6 w → D 7 (6 * w + k) < D 0 2) ∧ D 8 w ≤ 9 ∧ D 18 w ≤ D 19 w ∧ D 19 w ≤ D 0 1 ∧ ∀ b, b < D 0 1 → (D 9 b = w ↔ D 18 w ≤ b ∧ b < D 19 w)
def WfDv (D : AD) : Prop := ∀ v, v < D 0 2 → 1 ≤ D 4 v ∧ D 4 v ≤ 9 ∧ D 5 v ≤ 1
def WfDd (D : AD) : Prop := ∀ k, isL D k → D 14 k ≤ 4 ∧ ∀ d, d < D 14 k → D 15 (4 * k + d) ≤ 4 ∧ (D 15 (4 * k + d) = 0 → D 16 (4 * k + d) < D 0 0) ∧ (D 15 (4 * k + d) = 2 → D 16 (4 * k + d) < D 0 2 ∧ D 17 (4 * k + d) ≤ 9) ∧ (D 15 (4 * k + d) = 3 → D 16 (4 * k + d) < D 0 2 ∧ D 17 (4 * k + d) ≤ 9) ∧ (D 15 (4 * k + d) = 4 → 1 ≤ D 16 (4 * k + d) ∧ D 16 (4 * k + d) ≤ 20)
def possD (D : AD) (S : AS) (act : Nat) : Prop := act = 26 ∨ (0 < S.2.1 ∧ (act = 24 ∨ (act = 25 ∧ 1 < S.2.1) ∨ (act < D 0 1 ∧ D 9 act = S.2.2.1 (S.2.1 - 1) ∧ holdsD D S.2.2.2.2 act)))
theorem k_X0_possible {l : Launch} {g : AG} {h : AH} {x a : Nat} {S : AS} {D : AD} {Q : Int32 → AH → Prop} (hr : Refs h) (hx : isA x) (hs : WS (D 0 0) S) (hn0 : WfDn D) (hw : WfDw D) (hA : RepAw h x D) (hC : RepAc h x D) (ha : a < 2147483648) (hy : possD D S a → Q 1 h) (hn : ¬ possD D S a → Q 0 h) : C_X0_possible l g h x (Int64.ofNat (en S)) (Int32.ofNat a) Q := by
  have he := en_lt hs
  have hN := hs.2.1
  refine c_X0_possible (s_X0_possible_0 ?_)
  rw [show (26 : Int32) = Int32.ofNat 26 from rfl, i_eq ha (by omega), show (24 : Int32) = Int32.ofNat 24 from rfl, i_eq ha (by omega), show (25 : Int32) = Int32.ofNat 25 from rfl, i_eq ha (by omega)]
  refine ⟨fun c26 => k_X3_topOf (by omega) ?_, fun c26 => hy (Or.inl c26)⟩
  rw [en_open hs]
  by_cases c0 : S.2.1 = 0
  · rw [if_pos c0]
    refine ⟨fun q => absurd rfl q, fun _ => hn ?_⟩
    intro q
    rcases q with q | q
    · exact c26 q
    · omega
  · rw [if_neg c0]
    obtain ⟨n, hnn⟩ : ∃ n, S.2.1 = n + 1 := ⟨S.2.1 - 1, by omega⟩
    have ht := (en_top hs hnn).1
    rw [ht]
    have hWn := (hs.2.2.2.2.1 n (by omega)).1
    have h8 := hs.1
    refine ⟨fun _ => ?_, fun q => absurd q (i_ne (by omega))⟩
    refine ⟨fun c24 => ⟨fun c25 => ?_, fun c25 => ?_⟩, fun c24 => hy (Or.inr ⟨by omega, Or.inl c24⟩)⟩
    · obtain ⟨q1, q2, q3, q4, q5, q6⟩ := hA _ hWn
      obtain ⟨p1, p2, p3, p4, p5, p6⟩ := hw _ hWn
      have hB := hn0.2.2.1
      rw [rfA_14 hr hx, rfA_15 hr hx, rfA_17 hr hx, (shA_8 hx).2, (shA_9 hx).2, i_cl (show S.2.2.1 n < 2147483648 by omega), q5, q6, i_lt ha (by omega), i_le (by omega) ha]
      refine ⟨(shA_0 hx).1, (shA_8 hx).1, i_in (by omega) (by omega), fun c => hn ?_, fun c => ⟨(shA_9 hx).1, i_in (by omega) (by omega), fun c2 => hn ?_, fun c2 => ⟨(shA_11 hx).1, k_X4_hold hr hx hs hC (by omega) hB ?_ ?_⟩⟩⟩
      · intro q
        rcases q with q | ⟨_, q | q | q⟩
        · exact c26 q
        · exact c24 q
        · exact c25 q.1
        · rw [hnn] at q
          have := (p6 a q.1).1 q.2.1
          omega
      · intro q
        rcases q with q | ⟨_, q | q | q⟩
        · exact c26 q
        · exact c24 q
        · exact c25 q.1
        · rw [hnn] at q
          have := (p6 a q.1).1 q.2.1
          omega
      · intro q
        refine ⟨fun z => absurd z (by decide), fun _ => hy (Or.inr ⟨by omega, Or.inr (Or.inr ⟨by omega, ?_, q⟩)⟩)⟩
        rw [hnn]
        exact (p6 a (by omega)).2 ⟨by omega, by omega⟩
      · intro q
        refine ⟨fun _ => hn ?_, fun z => absurd rfl z⟩
        intro z
        rcases z with z | ⟨_, z | z | z⟩
        · exact c26 z
        · exact c24 z
        · exact c25 z.1
        · exact q z.2.2
    · refine k_X3_openOf (by omega) ?_
      rw [en_open hs, show (1 : Int32) = Int32.ofNat 1 from rfl, i_le (by omega) (by omega)]
      refine ⟨fun c => hn ?_, fun c => hy (Or.inr ⟨by omega, Or.inr (Or.inl ⟨c25, by omega⟩)⟩)⟩
      intro q
      rcases q with q | ⟨_, q | q | q⟩
      · exact c26 q
      · exact c24 q
      · omega
      · have := q.1
        have := hn0.2.2.1
        omega
