/-- the class's reader: APP at x, a awaited -/
def CS (h : AH) (x a : Nat) (D : AD) : Prop := RepP h x D ∧ h.2.2 67 1 = x ∧ h.1 67 2 = Int32.ofNat a ∧ h.1 67 7 = Int32.ofNat (D 30 3) ∧ h.1 67 11 = Int32.ofNat (D 30 7) ∧ (a = 1 ∨ a = 2 → h.1 67 6 = Int32.ofNat (D 30 2)) ∧ (a = 2 → h.2.1 67 5 = Int64.ofNat (cwf 8 (D 30 1))) ∧ (a = 13 → h.1 67 8 = Int32.ofNat (D 30 4)) ∧ (18 ≤ a ∧ a ≤ 20 → h.1 67 9 = Int32.ofNat (D 30 5)) ∧ (10 ≤ a ∧ a ≤ 21 → h.1 67 10 = Int32.ofNat (D 30 6)) ∧ ∀ i, i < D 30 7 → h.1 70 i = Int32.ofNat (D 31 i) ∧ h.2.1 71 i = Int64.ofNat (cwf 8 (D 21 (D 31 i))) ∧ h.1 72 i = Int32.ofNat (D 22 (D 31 i))
def PRd (x c p : Nat) : Prop := PAx x c p ∨ (c = 67 ∧ 2 ≤ p) ∨ (70 ≤ c ∧ c ≤ 72)
/-- the fault c at the TOKEN t -/
def fh (h : AH) (t : Nat × Nat × Nat × Nat) (c : Nat) : AH := ax_setI (ax_setI h 67 3 (Int32.ofNat c)) 67 4 (Int32.ofNat t.2.2.1)
theorem k_faulty {l : Launch} {g : AG} {h : AH} {t : Nat × Nat × Nat × Nat} {Q : Int32 → AH → Prop} (c : Nat) (hr : Refs h) (tc : TokC h t) (hq : Q 0 (fh h t c)) : C_X7_faulty l g h 67 (Int32.ofNat c) Q := by
  refine c_X7_faulty (s_X7_faulty_0 ⟨is_67, ?_⟩)
  intro h2 e2
  have r2 : Refs h2 := by rw [e2]; exact hr.setI
  have e4 : h2.1 68 4 = Int32.ofNat t.2.2.1 := by rw [e2, gI_c (by omega)]; exact tc.2.1
  rw [rf_67_0 r2, e4]
  refine ⟨is_68, ?_⟩
  intro h5 e5
  rw [e5, e2]
  exact hq
theorem k_awaits {l : Launch} {g : AG} {h : AH} {Q : Int32 → AH → Prop} (a : Nat) (hq : Q 1 (ax_setI h 67 2 (Int32.ofNat a))) : C_X7_awaits l g h 67 (Int32.ofNat a) Q := by
  refine c_X7_awaits (s_X7_awaits_0 ⟨is_67, ?_⟩)
  intro h2 e2
  rw [e2]
  exact hq
theorem k_isNumber {l : Launch} {g : AG} {h : AH} {t : Nat × Nat × Nat × Nat} {lo hi : Nat} {Q : Int32 → AH → Prop} (hr : Refs h) (tc : TokC h t) (tk1 : t.1 < 256) (tk2 : t.1 = 2 → t.2.1 < 100) (hlo : lo < 100) (hhi : hi < 100) (q1 : t.1 = 2 → lo ≤ t.2.1 → t.2.1 ≤ hi → Q 1 h) (q4 : t.1 = 2 → (t.2.1 < lo ∨ hi < t.2.1) → Q 0 (fh h t 4)) (q0 : t.1 ≠ 2 → Q 0 (fh h t 1)) : C_X7_isNumber l g h 67 (Int32.ofNat lo) (Int32.ofNat hi) Q := by
  have p39 : Q 0 (fh h t 4) → L_X7_isNumber_39 l g h 67 Q := fun z => s_X7_isNumber_39 ⟨is_67, k_faulty 4 hr tc ⟨fun _ => z, fun y => absurd rfl y⟩⟩
  refine c_X7_isNumber (s_X7_isNumber_0 ?_)
  rw [rf_67_0 hr, tc.1]
  refine ⟨is_67, is_68, fun z => ⟨is_68, ?_⟩, fun z => k_faulty 1 hr tc ⟨Or.inl rfl, q0 (fun y => z (by rw [y]; rfl))⟩⟩
  have t2 : t.1 = 2 := (i_eq (b := 2) (by omega) (by omega)).1 z
  have v6 := tc.2.2.2.2 t2
  have v100 := tk2 t2
  rw [v6]
  refine ⟨fun y => p39 (q4 t2 (Or.inl ((i_lt (by omega) (by omega)).1 y))), fun y => ⟨is_68, fun w => ?_, fun w => ?_⟩⟩
  · have w2 := (i_le (by omega) (by omega)).1 w
    refine q1 t2 ?_ w2
    rcases Nat.lt_or_ge t.2.1 lo with u | u
    · exact absurd ((i_lt (by omega) (by omega)).2 u) y
    · exact u
  · refine p39 (q4 t2 (Or.inr ?_))
    rcases Nat.lt_or_ge hi t.2.1 with u | u
    · exact u
    · exact absurd ((i_le (by omega) (by omega)).2 u) w
theorem k_isNewName {l : Launch} {g : AG} {h : AH} {t : Nat × Nat × Nat × Nat} {x1 : Int32} {Q : Int32 → AH → Prop} (hr : Refs h) (tc : TokC h t) (tk1 : t.1 < 256) (q1 : t.1 = 1 → x1 = -1 → Q 1 h) (q3 : t.1 = 1 → ¬ x1 = -1 → Q 0 (fh h t 3)) (q0 : t.1 ≠ 1 → Q 0 (fh h t 1)) : C_X7_isNewName l g h 67 x1 Q := by
  refine c_X7_isNewName (s_X7_isNewName_0 ?_)
  rw [rf_67_0 hr, tc.1]
  refine ⟨is_67, is_68, fun z => ?_, fun z => k_faulty 1 hr tc ⟨Or.inl rfl, q0 (fun y => z (by rw [y]; rfl))⟩⟩
  have t2 : t.1 = 1 := (i_eq (b := 1) (by omega) (by omega)).1 z
  exact ⟨fun y => q1 t2 y, fun y => k_faulty 3 hr tc ⟨fun _ => q3 t2 y, fun u => absurd rfl u⟩⟩
/-- where names stand -/
theorem k_named {l : Launch} {g : AG} {h : AH} {c lo hi w : Nat} {N : Nat → Nat} {W : Int64} {Q : Int32 → AH → Prop} (hi1 : Is 194 c 21) (hb : hi ≤ (ax_s c).2) (hb2 : hi ≤ 24) (hlo : lo ≤ 24) (hN : ∀ i, i < hi → h.2.1 c i = Int64.ofNat (cwf 8 (N i)) ∧ N i < 1099511627776) (hq : ∀ r : Int32, (W = Int64.ofNat (cwf 8 w) → w < 1099511627776 → (findN (fun i => lo ≤ i ∧ N i = w) hi < hi → r = Int32.ofNat (findN (fun i => lo ≤ i ∧ N i = w) hi)) ∧ (¬ findN (fun i => lo ≤ i ∧ N i = w) hi < hi → r = -1)) → Q r h) : C_X0_placeOf l g h W c (Int32.ofNat lo) (Int32.ofNat hi) Q := by
  refine k_X0_placeOf hi1 hb (by omega) (by omega) (fun k k1 k2 k3 k4 => hq _ (fun eW hw => ?_)) (fun k4 => hq _ (fun eW hw => ?_))
  · have e : findN (fun i => lo ≤ i ∧ N i = w) hi = k := by
      refine findN_eq k2 ⟨k1, ?_⟩ (fun j hj y => ?_)
      · rw [(hN k k2).1, eW] at k3
        exact (cwf8_eq (hN k k2).2 hw).1 k3
      · refine k4 j y.1 hj ?_
        rw [(hN j (by omega)).1, y.2, eW]
    rw [e]
    exact ⟨fun _ => rfl, fun z => absurd k2 z⟩
  · have e : findN (fun i => lo ≤ i ∧ N i = w) hi = hi := by
      refine findN_none (fun j hj y => ?_)
      refine k4 j y.1 hj ?_
      rw [(hN j hj).1, y.2, eW]
    rw [e]
    exact ⟨fun z => absurd z (Nat.lt_irrefl _), fun _ => rfl⟩
