theorem k_X12_unpack_vars {l : Launch} {g : AG} {h0 : AH} {nw : Nat} {S : AS} {Q : AH → Prop} (hs : WS nw S) (hq : ∀ h', FrS h0 h' → RepS h' S → Q h') : ∀ d k : Nat, k + d = 6 → ∀ h : AH, Refs h → FrS h0 h → h.1 103 19 = Int32.ofNat S.1 → h.1 103 20 = Int32.ofNat S.2.1 → (∀ j, j < S.2.1 → h.1 130 j = Int32.ofNat (S.2.2.1 j) ∧ h.1 131 j = Int32.ofNat (S.2.2.2.1 j)) → (∀ v, v < k → h.1 132 v = Int32.ofNat (S.2.2.2.2 v)) → L_X12_unpack_79 l g h 103 (Int64.ofNat (eb S.2.2.2.2 6)) (Int32.ofNat k) Q := by
  intro d
  induction d with
  | zero =>
    intro k hk h hr hf a1 a2 a3 a5
    refine s_X12_unpack_79 ⟨fun _ => ?_, fun c => ?_⟩
    · exact hq h hf ⟨a1, a2, a3, fun v hv => a5 v (by omega)⟩
    · exact absurd ((i_le (a := 6) (b := k) (by omega) (by omega)).2 (by omega)) c
  | succ d ih =>
    intro k hk h hr hf a1 a2 a3 a5
    refine s_X12_unpack_79 ⟨fun c => ?_, fun c => ?_⟩
    · exact absurd ((i_le (a := 6) (b := k) (by omega) (by omega)).1 c) (by omega)
    · have hb := eb_lt hs.2.2.2.2.2
      rw [rf_103_23 hr, i_cl (show k < 2147483648 by omega), show (5 : Int32) = Int32.ofNat 5 from rfl, i_sub (show k ≤ 5 by omega), show (4 : Int32) = Int32.ofNat 4 from rfl, i_mul, l_shr (by omega) (by omega), show (15 : Int64) = Int64.ofNat (2 ^ 4 - 1) from rfl, l_and, n_and, l_to, show (2 ^ 4 : Nat) = 16 from rfl, eb_dig hs.2.2.2.2.2 (show k < 6 by omega)]
      refine ⟨⟨by decide, rfl⟩, ⟨by decide, rfl⟩, i_in (by omega) (show k < 6 by omega), ?_⟩
      intro h2 e2 v7 e7
      have b : v7 = Int32.ofNat (k + 1) := by
        rw [e7, show (1 : Int32) = Int32.ofNat 1 from rfl, i_add]
      rw [b]
      subst e2
      refine ih (k + 1) (by omega) _ hr.setI (hf.setI (Or.inr (Or.inr (Or.inl rfl)))) ?_ ?_ ?_ ?_
      · rw [gI_I, if_neg (fun q => absurd q.1 (by decide))]; exact a1
      · rw [gI_I, if_neg (fun q => absurd q.1 (by decide))]; exact a2
      · intro j hj
        rw [gI_I, if_neg (fun q => absurd q.1 (by decide)), gI_I, if_neg (fun q => absurd q.1 (by decide))]
        exact a3 j hj
      · intro v hv
        rw [gI_I]
        by_cases e : v = k
        · rw [if_pos ⟨rfl, e⟩, e]
        · rw [if_neg (fun q => e q.2)]
          exact a5 v (by omega)
theorem k_X12_unpack_loop {l : Launch} {g : AG} {h0 : AH} {nw : Nat} {S : AS} {Q : AH → Prop} (hs : WS nw S) (hq : ∀ h', FrS h0 h' → RepS h' S → Q h') : ∀ d k : Nat, k + d = 5 → ∀ h : AH, Refs h → FrS h0 h → h.1 103 19 = Int32.ofNat S.1 → h.1 103 20 = Int32.ofNat S.2.1 → (∀ j, j < k → h.1 130 j = Int32.ofNat (eaD S j / 16) ∧ h.1 131 j = Int32.ofNat (eaD S j % 16)) → L_X12_unpack_25 l g h 103 (Int64.ofNat (ea S 5)) (Int64.ofNat (eb S.2.2.2.2 6)) (Int32.ofNat k) Q := by
  intro d
  induction d with
  | zero =>
    intro k hk h hr hf a1 a2 a3
    refine s_X12_unpack_25 ⟨fun _ => ?_, fun c => ?_⟩
    · refine k_X12_unpack_vars hs hq 6 0 rfl h hr hf a1 a2 ?_ (fun v hv => absurd hv (Nat.not_lt_zero v))
      intro j hj
      have hN := hs.2.1
      have w := hs.2.2.2.2.1 j hj
      have e : eaD S j = S.2.2.1 j * 16 + S.2.2.2.1 j := by unfold eaD; rw [if_pos hj]
      have r := a3 j (by omega)
      rw [r.1, r.2, e]
      exact ⟨congrArg Int32.ofNat (by omega), congrArg Int32.ofNat (by omega)⟩
    · exact absurd ((i_le (a := 5) (b := k) (by omega) (by omega)).2 (by omega)) c
  | succ d ih =>
    intro k hk h hr hf a1 a2 a3
    refine s_X12_unpack_25 ⟨fun c => ?_, fun c => ?_⟩
    · exact absurd ((i_le (a := 5) (b := k) (by omega) (by omega)).1 c) (by omega)
    · have hb := ea_lt hs
      have hD := eaD_lt hs k
      rw [rf_103_21 hr, i_cl (show k < 2147483648 by omega), show (7 : Int32) = Int32.ofNat 7 from rfl, show (4 : Int32) = Int32.ofNat 4 from rfl, i_sub (show k ≤ 4 by omega), i_mul, l_shr (by omega) (by omega), show (127 : Int64) = Int64.ofNat (2 ^ 7 - 1) from rfl, l_and, n_and, l_to, show (2 ^ 7 : Nat) = 128 from rfl, ea_dig hs (show k < 5 by omega)]
      intro v7 e7
      subst e7
      rw [i_shr (by omega) (by decide), show (15 : Int32) = Int32.ofNat (2 ^ 4 - 1) from rfl, i_and, n_and, show (2 ^ 4 : Nat) = 16 from rfl]
      refine ⟨⟨by decide, rfl⟩, ⟨by decide, rfl⟩, i_in (by omega) (show k < 5 by omega), ?_⟩
      intro h2 e2
      have r2 : Refs h2 := by subst e2; exact hr
      rw [rf_103_22 r2]
      refine ⟨⟨by decide, rfl⟩, i_in (by omega) (show k < 5 by omega), ?_⟩
      intro h3 e3 v18 e18
      have b : v18 = Int32.ofNat (k + 1) := by
        rw [e18, show (1 : Int32) = Int32.ofNat 1 from rfl, i_add]
      rw [b]
      subst e3 e2
      refine ih (k + 1) (by omega) _ hr.setI.setI ((hf.setI (Or.inl rfl)).setI (Or.inr (Or.inl rfl))) ?_ ?_ ?_
      · rw [gI_I, if_neg (fun q => absurd q.1 (by decide)), gI_I, if_neg (fun q => absurd q.1 (by decide))]; exact a1
      · rw [gI_I, if_neg (fun q => absurd q.1 (by decide)), gI_I, if_neg (fun q => absurd q.1 (by decide))]; exact a2
      · intro j hj
        by_cases e : j = k
        · subst e
          rw [gI_I, if_neg (fun q => absurd q.1 (by decide)), gI_I, if_pos ⟨rfl, rfl⟩, gI_I, if_pos ⟨rfl, rfl⟩]
          exact ⟨rfl, rfl⟩
        · rw [gI_I, if_neg (fun q => absurd q.1 (by decide)), gI_I, if_neg (fun q => e q.2), gI_I, if_neg (fun q => e q.2), gI_I, if_neg (fun q => absurd q.1 (by decide))]
          exact a3 j (by omega)
theorem k_X12_unpack {l : Launch} {g : AG} {h : AH} {nw : Nat} {S : AS} {Q : AH → Prop} (hr : Refs h) (hs : WS nw S) (hq : ∀ h', FrS h h' → RepS h' S → Q h') : C_X12_unpack l g h 103 (Int64.ofNat (ea S 5)) (Int64.ofNat (eb S.2.2.2.2 6)) Q := by
  have hb := ea_lt hs
  have hh := ea_head hs
  refine c_X12_unpack (s_X12_unpack_0 ?_)
  rw [show (38 : Int32) = Int32.ofNat 38 from rfl, show (35 : Int32) = Int32.ofNat 35 from rfl, l_shr (by omega) (by decide), l_shr (by omega) (by decide), l_to, show (7 : Int64) = Int64.ofNat (2 ^ 3 - 1) from rfl, l_and, n_and, l_to, show (2 ^ 3 : Nat) = 8 from rfl, hh.1, hh.2]
  refine ⟨⟨by decide, rfl⟩, ?_⟩
  intro h2 e2 h4 e4
  subst e4 e2
  refine k_X12_unpack_loop hs hq 5 0 rfl _ hr.setI.setI (((FrS.refl h).setI (Or.inr (Or.inr (Or.inr ⟨rfl, Or.inl rfl⟩)))).setI (Or.inr (Or.inr (Or.inr ⟨rfl, Or.inr rfl⟩)))) ?_ ?_ (fun j hj => absurd hj (Nat.not_lt_zero j))
  · rw [gI_I, if_neg (fun q => absurd q.2 (by decide)), gI_I, if_pos ⟨rfl, rfl⟩]
  · rw [gI_I, if_pos ⟨rfl, rfl⟩]
