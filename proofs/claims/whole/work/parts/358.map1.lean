theorem PQ_map {c p : Nat} (h : PQ c p) : ¬ PMAP c p := by
  unfold PQ SCR at h
  unfold PMAP
  omega
/-- the first such STATE, or -2 -/
noncomputable def firstI (P : Nat → Prop) (n : Nat) : Int32 := if findN P n < n then Int32.ofNat (findN P n) else -2
theorem firstI_hit {P : Nat → Prop} {n i : Nat} (hi : i < n) (hp : P i) (hl : ∀ j, j < i → ¬ P j) : firstI P n = Int32.ofNat i := by
  unfold firstI
  rw [findN_eq hi hp hl, if_pos hi]
theorem firstI_none {P : Nat → Prop} {n : Nat} (hl : ∀ j, j < n → ¬ P j) : firstI P n = -2 := by
  unfold firstI
  rw [findN_none hl, if_neg (Nat.lt_irrefl n)]
theorem firstI_congr {P R : Nat → Prop} {n : Nat} (h : ∀ i, i < n → (P i ↔ R i)) : firstI P n = firstI R n := by
  unfold firstI
  rw [findN_congr h]
/-- what THE MAP gives to the class and to the model -/
theorem mapC_lead {h : AH} {D : AD} {n : Nat} {ST : Nat → AS} {FR BY DP LD : Nat → Nat} {K : Nat} {KD : Nat → Nat} (m : MapI h D n ST FR BY DP LD K KD) {i a : Nat} (hi : i < n) (ha : a < 27) : (possD D (ST i) a → LD (27 * i + a) < n ∧ h.1 82 (27 * i + a) = Int32.ofNat (LD (27 * i + a)) ∧ h.1 142 (27 * i + a) = Int32.ofNat (LD (27 * i + a))) ∧ (¬ possD D (ST i) a → h.1 82 (27 * i + a) = -2 ∧ h.1 142 (27 * i + a) = -2) := by
  have e1 : (27 * i + a) / 27 = i := by omega
  have e2 : (27 * i + a) % 27 = a := by omega
  have q1 := m.2.2.2.1 (27 * i + a) (by omega)
  have q2 := m.2.2.2.2.2.1 (27 * i + a) (by omega)
  have q3 := m.2.1 (27 * i + a) (by omega)
  rw [e1, e2] at q1 q2 q3
  exact ⟨fun p => ⟨(q3 p).1, q1.1 p, q2.1 p⟩, fun p => ⟨q1.2 p, q2.2 p⟩⟩
theorem k_isState_y {l : Launch} {g : AG} {h : AH} {n i a : Nat} {Q : Int32 → AH → Prop} (e1 : h.1 103 24 = Int32.ofNat a) (ha : a < 2) (e2 : h.1 103 25 = Int32.ofNat n) (hn : n ≤ 400) (hi : i < n) (hq : Q 1 h) : C_X12_isState l g h 103 (Int32.ofNat i) Q := by
  refine c_X12_isState (s_X12_isState_0 ?_)
  rw [e1, e2]
  simp (disch := first | assumption | omega) only [true_and, and_true, forall_eq, true_implies, false_implies, implies_true, not_true_eq_false, not_false_eq_true, false_and, and_false, ne_eq, ite_true, ite_false, Nat.reduceLeDiff, Nat.reduceEqDiff, Nat.reduceLT, Nat.reduceAdd, Nat.reduceMul, Nat.reduceSub, Nat.le_refl, eq_self, li_0, li_1, li_2, li_3, li_4, li_5, li_6, li_7, li_8, li_9, li_10, li_11, li_12, li_13, li_14, li_15, li_16, li_17, li_18, li_19, li_20, li_21, li_22, li_23, li_24, li_25, li_26, li_27, li_28, li_29, li_30, li_31, li_32, li_44, li_48, li_57, li_59, li_60, li_61, li_62, li_63, li_97, li_100, li_122, li_123, li_125, li_127, li_255, li_400, li_401, li_800, li_1023, li_1024, li_10827, i_add, i_mul, i_sub, i_p1, i_m1, i_nm, i_nm2, i_cl, i_cl0, vi_ok, i_lt, i_le, i_eq, lg_e, is_103, show ¬ i < 0 by omega, show ¬ n ≤ i by omega]
  exact hq
theorem k_isState_n {l : Launch} {g : AG} {h : AH} {n a : Nat} {x : Int32} {Q : Int32 → AH → Prop} (e1 : h.1 103 24 = Int32.ofNat a) (ha : a < 2) (e2 : h.1 103 25 = Int32.ofNat n) (hn : n ≤ 400) (hx : x < 0 ∨ Int32.ofNat n ≤ x) (hq : Q 0 h) : C_X12_isState l g h 103 x Q := by
  refine c_X12_isState (s_X12_isState_0 ?_)
  rw [e1, e2]
  refine ⟨is_103, fun _ => hq, fun _ => ⟨fun _ => hq, fun z => ⟨fun _ => hq, fun z2 => ?_⟩⟩⟩
  rcases hx with hx | hx
  · exact absurd hx z
  · exact absurd hx z2
theorem k_isState_0 {l : Launch} {g : AG} {h : AH} {x : Int32} {Q : Int32 → AH → Prop} (e1 : h.1 103 24 = -1) (hq : Q 0 h) : C_X12_isState l g h 103 x Q := by
  refine c_X12_isState (s_X12_isState_0 ?_)
  rw [e1]
  exact ⟨is_103, fun _ => hq, fun z => absurd rfl z⟩
theorem i_state (n : Nat) (hn : n ≤ 400) (x : Int32) : (∃ i, i < n ∧ x = Int32.ofNat i) ∨ x < 0 ∨ (¬ x < 0 ∧ Int32.ofNat n ≤ x) := by
  rcases i_split x with hx | ⟨i, hi, rfl⟩
  · exact Or.inr (Or.inl hx)
  · by_cases c : i < n
    · exact Or.inl ⟨i, c, rfl⟩
    · exact Or.inr (Or.inr ⟨i_nn hi, (i_le (by omega) hi).2 (by omega)⟩)
theorem ob_leads {l : Launch} {g : AG} (h : AH) (a1 a2 : Int32) (hI : Inv h) : C_X9_leads l g h 1 a1 a2 (fun r h1 => C_X12_leads l g h1 103 a1 a2 (fun r2 h2 => r2 = r ∧ Inv h2)) := by
  obtain ⟨X, Y, D, S, t, hI⟩ := hI
  have hr := hI.1
  rcases hI.2.2.2.2.2.2.1 with ⟨z1, z2, z3⟩ | ⟨a, z1, z2, z3, z4, z5, n, ST, FR, BY, DP, LD, K, KD, m⟩
  · have model : C_X12_leads l g h 103 a1 a2 (fun r2 h2 => r2 = -1 ∧ Inv h2) := by
      refine c_X12_leads (s_X12_leads_0 ⟨is_103, ?_⟩)
      intro h2 e2
      obtain ⟨i1, f1, e0⟩ := mIn hI e2
      exact k_isState_0 (by rw [e2, gI_p (by decide)]; exact z2) ⟨fun _ => ⟨rfl, e0⟩, fun z => absurd rfl z⟩
    refine c_X9_leads (s_X9_leads_0 ⟨fun _ => model, fun c => ?_⟩)
    rw [rf_1_6 hr]
    refine ⟨is_1, is_74, k_X1_many hr ?_⟩
    rw [if_pos z1]
    refine ⟨fun _ => model, fun q => absurd ?_ q⟩
    rw [Int32.lt_iff_toInt_lt] at c
    rw [Int32.le_iff_toInt_le]
    omega
  · have hn := m.1.2.1
    have v : ∀ h2, h2 = ax_setI h 103 0 0 → h2.1 103 24 = Int32.ofNat a ∧ h2.1 103 25 = Int32.ofNat n := fun h2 e2 => ⟨by rw [e2, gI_p (by decide)]; exact z4, by rw [e2, gI_p (by decide)]; exact m.2.2.2.2.1.1⟩
    have model : (a1 < 0 ∨ Int32.ofNat n ≤ a1) → C_X12_leads l g h 103 a1 a2 (fun r2 h2 => r2 = -1 ∧ Inv h2) := by
      intro c
      refine c_X12_leads (s_X12_leads_0 ⟨is_103, ?_⟩)
      intro h2 e2
      obtain ⟨i1, f1, e0⟩ := mIn hI e2
      exact k_isState_n (v h2 e2).1 z1 (v h2 e2).2 hn c ⟨fun _ => ⟨rfl, e0⟩, fun z => absurd rfl z⟩
    refine c_X9_leads (s_X9_leads_0 ?_)
    rcases i_state n hn a1 with ⟨i, hi, rfl⟩ | c | ⟨c1, c2⟩
    · refine ⟨fun c => absurd c (i_nn (by omega)), fun _ => ?_⟩
      rw [rf_1_6 hr]
      refine ⟨is_1, is_74, k_X1_many hr ?_⟩
      rw [if_neg (by rw [z3]; exact i_ne (by omega)), m.2.2.1.1.1]
      simp (disch := first | assumption | omega) only [true_and, and_true, forall_eq, true_implies, false_implies, implies_true, not_true_eq_false, not_false_eq_true, false_and, and_false, ne_eq, ite_true, ite_false, Nat.reduceLeDiff, Nat.reduceEqDiff, Nat.reduceLT, Nat.reduceAdd, Nat.reduceMul, Nat.reduceSub, Nat.le_refl, eq_self, li_0, li_1, li_2, li_3, li_4, li_5, li_6, li_7, li_8, li_9, li_10, li_11, li_12, li_13, li_14, li_15, li_16, li_17, li_18, li_19, li_20, li_21, li_22, li_23, li_24, li_25, li_26, li_27, li_28, li_29, li_30, li_31, li_32, li_44, li_48, li_57, li_59, li_60, li_61, li_62, li_63, li_97, li_100, li_122, li_123, li_125, li_127, li_255, li_400, li_401, li_800, li_1023, li_1024, li_10827, i_add, i_mul, i_sub, i_p1, i_m1, i_nm, i_nm2, i_cl, i_cl0, vi_ok, i_lt, i_le, i_eq, lg_e, show ¬ n ≤ i by omega]
      rcases i_act a2 with ⟨b, hb, rfl⟩ | ⟨c1, c2⟩
      · have q := mapC_lead m hi hb
        have ev : h.1 82 (27 * i + b) = h.1 142 (27 * i + b) := by
          by_cases p : possD (D a) (ST i) b
          · rw [(q.1 p).2.1, (q.1 p).2.2]
          · rw [(q.2 p).1, (q.2 p).2]
        simp (disch := first | assumption | omega) only [true_and, and_true, forall_eq, true_implies, false_implies, implies_true, not_true_eq_false, not_false_eq_true, false_and, and_false, ne_eq, ite_true, ite_false, Nat.reduceLeDiff, Nat.reduceEqDiff, Nat.reduceLT, Nat.reduceAdd, Nat.reduceMul, Nat.reduceSub, Nat.le_refl, eq_self, li_0, li_1, li_2, li_3, li_4, li_5, li_6, li_7, li_8, li_9, li_10, li_11, li_12, li_13, li_14, li_15, li_16, li_17, li_18, li_19, li_20, li_21, li_22, li_23, li_24, li_25, li_26, li_27, li_28, li_29, li_30, li_31, li_32, li_44, li_48, li_57, li_59, li_60, li_61, li_62, li_63, li_97, li_100, li_122, li_123, li_125, li_127, li_255, li_400, li_401, li_800, li_1023, li_1024, li_10827, i_add, i_mul, i_sub, i_p1, i_m1, i_nm, i_nm2, i_cl, i_cl0, vi_ok, i_lt, i_le, i_eq, lg_e, show ¬ b < 0 by omega, hb, rf_1_0, rf_1_2, rf_1_4, rf_1_5, rf_1_6, rf_1_7, rf_1_8, rf_1_10, is_1, is_2, sz_2, is_3, sz_3, is_67, sz_67, is_73, sz_73, is_74, sz_74, is_93, sz_93, is_101, sz_101, is_102, sz_102, rf_74_2, rf_74_3, rf_74_4, rf_74_6, rf_74_7, rf_74_8, is_74, is_75, sz_75, is_82, sz_82, is_83, sz_83, is_90, sz_90, is_91, sz_91, is_92, sz_92, Nat.mul_comm i 27]
        refine c_X12_leads (s_X12_leads_0 ⟨is_103, ?_⟩)
        intro h2 e2
        obtain ⟨i1, f1, e0⟩ := mIn hI e2
        have hr1 := i1.1
        have e142 : h2.1 142 (27 * i + b) = h.1 142 (27 * i + b) := by rw [e2, gI_c (by decide)]
        refine k_isState_y (v h2 e2).1 z1 (v h2 e2).2 hn hi ⟨fun z => absurd z (by decide), fun _ => k_isAct_y hb ⟨fun z => absurd z (by decide), fun _ => ?_⟩⟩
        simp (disch := first | assumption | omega) only [true_and, and_true, forall_eq, true_implies, false_implies, implies_true, not_true_eq_false, not_false_eq_true, false_and, and_false, ne_eq, ite_true, ite_false, Nat.reduceLeDiff, Nat.reduceEqDiff, Nat.reduceLT, Nat.reduceAdd, Nat.reduceMul, Nat.reduceSub, Nat.le_refl, eq_self, li_0, li_1, li_2, li_3, li_4, li_5, li_6, li_7, li_8, li_9, li_10, li_11, li_12, li_13, li_14, li_15, li_16, li_17, li_18, li_19, li_20, li_21, li_22, li_23, li_24, li_25, li_26, li_27, li_28, li_29, li_30, li_31, li_32, li_44, li_48, li_57, li_59, li_60, li_61, li_62, li_63, li_97, li_100, li_122, li_123, li_125, li_127, li_255, li_400, li_401, li_800, li_1023, li_1024, li_10827, i_add, i_mul, i_sub, i_p1, i_m1, i_nm, i_nm2, i_cl, i_cl0, vi_ok, i_lt, i_le, i_eq, lg_e, rf_103_4, rf_103_6, rf_103_7, rf_103_8, rf_103_9, rf_103_10, rf_103_21, rf_103_22, rf_103_23, rf_103_26, rf_103_27, rf_103_28, rf_103_29, rf_103_30, rf_103_31, rf_103_32, rf_103_33, rf_103_34, rf_103_35, rf_103_37, rf_103_38, rf_103_39, rf_103_44, rf_103_45, rf_103_46, rf_103_47, rf_103_48, rf_103_49, rf_103_54, rf_103_55, is_103, is_104, sz_104, is_125, sz_125, is_126, sz_126, is_127, sz_127, is_128, sz_128, is_129, sz_129, is_130, sz_130, is_131, sz_131, is_132, sz_132, is_133, sz_133, is_134, sz_134, is_135, sz_135, is_136, sz_136, is_137, sz_137, is_138, sz_138, is_139, sz_139, is_140, sz_140, is_141, sz_141, is_142, sz_142, is_143, sz_143, is_144, sz_144, is_145, sz_145, is_146, sz_146, is_147, sz_147, is_148, sz_148, is_149, sz_149, is_150, sz_150, is_151, sz_151, is_152, sz_152, is_153, sz_153, e142]
        exact ⟨ev.symm, e0⟩
      · have model2 : C_X12_leads l g h 103 (Int32.ofNat i) a2 (fun r2 h2 => r2 = -1 ∧ Inv h2) := by
          refine c_X12_leads (s_X12_leads_0 ⟨is_103, ?_⟩)
          intro h2 e2
          obtain ⟨i1, f1, e0⟩ := mIn hI e2
          exact k_isState_y (v h2 e2).1 z1 (v h2 e2).2 hn hi ⟨fun z => absurd z (by decide), fun _ => k_isAct_n c2 ⟨fun _ => ⟨rfl, e0⟩, fun z => absurd rfl z⟩⟩
        refine ⟨fun _ => model2, fun z => ⟨fun z2 => ?_, fun _ => model2⟩⟩
        rcases c1 with c1 | c1
        · exact absurd c1 z
        · exact absurd z2 c1
    · exact ⟨fun _ => model (Or.inl c), fun q => absurd c q⟩
    · refine ⟨fun q => absurd q c1, fun _ => ?_⟩
      rw [rf_1_6 hr]
      refine ⟨is_1, is_74, k_X1_many hr ?_⟩
      rw [if_neg (by rw [z3]; exact i_ne (by omega)), m.2.2.1.1.1]
      exact ⟨fun _ => model (Or.inr c2), fun q => absurd c2 q⟩
theorem k_firstOfFault {l : Launch} {g : AG} {h : AH} {D : AD} {n : Nat} {ST : Nat → AS} {x : Int32} {Q : Int32 → AH → Prop} (hr : Refs h) (hn : n ≤ 400) (e1 : h.1 75 0 = Int32.ofNat n) (e2 : ∀ i, i < n → h.2.1 76 i = Int64.ofNat (en (ST i)) ∧ WS (D 0 0) (ST i)) (hq : Q (firstI (fun i => Int32.ofNat (ST i).1 = x) n) h) : C_X1_firstOfFault l g h 74 x Q := by
  have loop : ∀ d i, i + d = n → (∀ j, j < i → ¬ Int32.ofNat (ST j).1 = x) → L_X1_firstOfFault_2 l g h 74 x (Int32.ofNat i) Q := by
    intro d
    induction d with
    | zero =>
      intro i hi hl
      refine s_X1_firstOfFault_2 ?_
      simp (disch := first | assumption | omega) only [true_and, and_true, forall_eq, true_implies, false_implies, implies_true, not_true_eq_false, not_false_eq_true, false_and, and_false, ne_eq, ite_true, ite_false, Nat.reduceLeDiff, Nat.reduceEqDiff, Nat.reduceLT, Nat.reduceAdd, Nat.reduceMul, Nat.reduceSub, Nat.le_refl, eq_self, li_0, li_1, li_2, li_3, li_4, li_5, li_6, li_7, li_8, li_9, li_10, li_11, li_12, li_13, li_14, li_15, li_16, li_17, li_18, li_19, li_20, li_21, li_22, li_23, li_24, li_25, li_26, li_27, li_28, li_29, li_30, li_31, li_32, li_44, li_48, li_57, li_59, li_60, li_61, li_62, li_63, li_97, li_100, li_122, li_123, li_125, li_127, li_255, li_400, li_401, li_800, li_1023, li_1024, li_10827, i_add, i_mul, i_sub, i_p1, i_m1, i_nm, i_nm2, i_cl, i_cl0, vi_ok, i_lt, i_le, i_eq, lg_e, rf_74_2, rf_74_3, rf_74_4, rf_74_6, rf_74_7, rf_74_8, is_74, is_75, sz_75, is_82, sz_82, is_83, sz_83, is_90, sz_90, is_91, sz_91, is_92, sz_92, e1, show n ≤ i by omega]
      rw [firstI_none (fun j hj => hl j (by omega))] at hq
      exact hq
    | succ d ih =>
      intro i hi hl
      refine s_X1_firstOfFault_2 ?_
      simp (disch := first | assumption | omega) only [true_and, and_true, forall_eq, true_implies, false_implies, implies_true, not_true_eq_false, not_false_eq_true, false_and, and_false, ne_eq, ite_true, ite_false, Nat.reduceLeDiff, Nat.reduceEqDiff, Nat.reduceLT, Nat.reduceAdd, Nat.reduceMul, Nat.reduceSub, Nat.le_refl, eq_self, li_0, li_1, li_2, li_3, li_4, li_5, li_6, li_7, li_8, li_9, li_10, li_11, li_12, li_13, li_14, li_15, li_16, li_17, li_18, li_19, li_20, li_21, li_22, li_23, li_24, li_25, li_26, li_27, li_28, li_29, li_30, li_31, li_32, li_44, li_48, li_57, li_59, li_60, li_61, li_62, li_63, li_97, li_100, li_122, li_123, li_125, li_127, li_255, li_400, li_401, li_800, li_1023, li_1024, li_10827, i_add, i_mul, i_sub, i_p1, i_m1, i_nm, i_nm2, i_cl, i_cl0, vi_ok, i_lt, i_le, i_eq, lg_e, rf_74_2, rf_74_3, rf_74_4, rf_74_6, rf_74_7, rf_74_8, is_74, is_75, sz_75, is_82, sz_82, is_83, sz_83, is_90, sz_90, is_91, sz_91, is_92, sz_92, rf_75_1, rf_75_2, rf_75_3, rf_75_4, rf_75_5, rf_75_6, is_75, is_76, sz_76, is_77, sz_77, is_78, sz_78, is_79, sz_79, is_80, sz_80, is_81, sz_81, e1, (e2 i (by omega)).1, show ¬ n ≤ i by omega]
      refine q_X3_faultOf (e2 i (by omega)).2 ⟨fun c => ?_, fun c => ?_⟩
      · refine ih (i + 1) (by omega) (fun j hj => ?_)
        by_cases z : j = i
        · rw [z]; exact c
        · exact hl j (by omega)
      · rw [firstI_hit (show i < n by omega) c hl] at hq
        exact hq
  exact c_X1_firstOfFault (s_X1_firstOfFault_0 (loop n 0 (by omega) (fun j hj => absurd hj (Nat.not_lt_zero j))))
theorem k_faultAt {l : Launch} {g : AG} {h : AH} {D : AD} {n : Nat} {ST : Nat → AS} {x : Int32} {Q : Int32 → AH → Prop} (hr : Refs h) (hn : n ≤ 400) (e1 : h.1 103 25 = Int32.ofNat n) (e2 : ∀ i, i < n → h.2.1 133 i = Int64.ofNat (ea (ST i) 5) ∧ WS (D 0 0) (ST i)) (hq : Q (firstI (fun i => Int32.ofNat (ST i).1 = x) n) (ax_setI (ax_setI h 103 1 0) 103 2 (-1))) : ∀ d i, i + d = n → (∀ j, j < i → ¬ Int32.ofNat (ST j).1 = x) → L_X12_faultAt_39 l g h 103 x (Int32.ofNat i) Q := by
  intro d
  induction d with
  | zero =>
    intro i hi hl
    refine s_X12_faultAt_39 ?_
    simp (disch := first | assumption | omega) only [true_and, and_true, forall_eq, true_implies, false_implies, implies_true, not_true_eq_false, not_false_eq_true, false_and, and_false, ne_eq, ite_true, ite_false, Nat.reduceLeDiff, Nat.reduceEqDiff, Nat.reduceLT, Nat.reduceAdd, Nat.reduceMul, Nat.reduceSub, Nat.le_refl, eq_self, li_0, li_1, li_2, li_3, li_4, li_5, li_6, li_7, li_8, li_9, li_10, li_11, li_12, li_13, li_14, li_15, li_16, li_17, li_18, li_19, li_20, li_21, li_22, li_23, li_24, li_25, li_26, li_27, li_28, li_29, li_30, li_31, li_32, li_44, li_48, li_57, li_59, li_60, li_61, li_62, li_63, li_97, li_100, li_122, li_123, li_125, li_127, li_255, li_400, li_401, li_800, li_1023, li_1024, li_10827, i_add, i_mul, i_sub, i_p1, i_m1, i_nm, i_nm2, i_cl, i_cl0, vi_ok, i_lt, i_le, i_eq, lg_e, is_103, e1, show n ≤ i by omega]
    refine s_X12_faultAt_67 ?_
    simp (disch := first | assumption | omega) only [true_and, and_true, forall_eq, true_implies, false_implies, implies_true, not_true_eq_false, not_false_eq_true, false_and, and_false, ne_eq, ite_true, ite_false, Nat.reduceLeDiff, Nat.reduceEqDiff, Nat.reduceLT, Nat.reduceAdd, Nat.reduceMul, Nat.reduceSub, Nat.le_refl, eq_self, li_0, li_1, li_2, li_3, li_4, li_5, li_6, li_7, li_8, li_9, li_10, li_11, li_12, li_13, li_14, li_15, li_16, li_17, li_18, li_19, li_20, li_21, li_22, li_23, li_24, li_25, li_26, li_27, li_28, li_29, li_30, li_31, li_32, li_44, li_48, li_57, li_59, li_60, li_61, li_62, li_63, li_97, li_100, li_122, li_123, li_125, li_127, li_255, li_400, li_401, li_800, li_1023, li_1024, li_10827, i_add, i_mul, i_sub, i_p1, i_m1, i_nm, i_nm2, i_cl, i_cl0, vi_ok, i_lt, i_le, i_eq, lg_e, is_103, e1, show n ≤ i by omega]
    rw [firstI_none (fun j hj => hl j (by omega))] at hq
    exact k_X12_done hq
  | succ d ih =>
    intro i hi hl
    have w := (e2 i (by omega)).2
    have eh : (jlshr (Int64.ofNat (ea (ST i) 5)) 38).toInt32 = Int32.ofNat (ST i).1 := by
      have := ea_lt w
      rw [show (38 : Int32) = Int32.ofNat 38 from rfl, l_shr (by omega) (by decide), l_to, (ea_head w).1]
    have eh2 : (jlshr (Int64.ofNat (ea (ST i) 5)) (Int32.ofNat 38)).toInt32 = Int32.ofNat (ST i).1 := eh
    refine s_X12_faultAt_39 ?_
    simp (disch := first | assumption | omega) only [true_and, and_true, forall_eq, true_implies, false_implies, implies_true, not_true_eq_false, not_false_eq_true, false_and, and_false, ne_eq, ite_true, ite_false, Nat.reduceLeDiff, Nat.reduceEqDiff, Nat.reduceLT, Nat.reduceAdd, Nat.reduceMul, Nat.reduceSub, Nat.le_refl, eq_self, li_0, li_1, li_2, li_3, li_4, li_5, li_6, li_7, li_8, li_9, li_10, li_11, li_12, li_13, li_14, li_15, li_16, li_17, li_18, li_19, li_20, li_21, li_22, li_23, li_24, li_25, li_26, li_27, li_28, li_29, li_30, li_31, li_32, li_44, li_48, li_57, li_59, li_60, li_61, li_62, li_63, li_97, li_100, li_122, li_123, li_125, li_127, li_255, li_400, li_401, li_800, li_1023, li_1024, li_10827, i_add, i_mul, i_sub, i_p1, i_m1, i_nm, i_nm2, i_cl, i_cl0, vi_ok, i_lt, i_le, i_eq, lg_e, rf_103_4, rf_103_6, rf_103_7, rf_103_8, rf_103_9, rf_103_10, rf_103_21, rf_103_22, rf_103_23, rf_103_26, rf_103_27, rf_103_28, rf_103_29, rf_103_30, rf_103_31, rf_103_32, rf_103_33, rf_103_34, rf_103_35, rf_103_37, rf_103_38, rf_103_39, rf_103_44, rf_103_45, rf_103_46, rf_103_47, rf_103_48, rf_103_49, rf_103_54, rf_103_55, is_103, is_104, sz_104, is_125, sz_125, is_126, sz_126, is_127, sz_127, is_128, sz_128, is_129, sz_129, is_130, sz_130, is_131, sz_131, is_132, sz_132, is_133, sz_133, is_134, sz_134, is_135, sz_135, is_136, sz_136, is_137, sz_137, is_138, sz_138, is_139, sz_139, is_140, sz_140, is_141, sz_141, is_142, sz_142, is_143, sz_143, is_144, sz_144, is_145, sz_145, is_146, sz_146, is_147, sz_147, is_148, sz_148, is_149, sz_149, is_150, sz_150, is_151, sz_151, is_152, sz_152, is_153, sz_153, e1, (e2 i (by omega)).1, show ¬ n ≤ i by omega, eh, eh2]
    refine ⟨fun c => ?_, fun c => ?_⟩
    · refine s_X12_faultAt_67 ?_
      simp (disch := first | assumption | omega) only [true_and, and_true, forall_eq, true_implies, false_implies, implies_true, not_true_eq_false, not_false_eq_true, false_and, and_false, ne_eq, ite_true, ite_false, Nat.reduceLeDiff, Nat.reduceEqDiff, Nat.reduceLT, Nat.reduceAdd, Nat.reduceMul, Nat.reduceSub, Nat.le_refl, eq_self, li_0, li_1, li_2, li_3, li_4, li_5, li_6, li_7, li_8, li_9, li_10, li_11, li_12, li_13, li_14, li_15, li_16, li_17, li_18, li_19, li_20, li_21, li_22, li_23, li_24, li_25, li_26, li_27, li_28, li_29, li_30, li_31, li_32, li_44, li_48, li_57, li_59, li_60, li_61, li_62, li_63, li_97, li_100, li_122, li_123, li_125, li_127, li_255, li_400, li_401, li_800, li_1023, li_1024, li_10827, i_add, i_mul, i_sub, i_p1, i_m1, i_nm, i_nm2, i_cl, i_cl0, vi_ok, i_lt, i_le, i_eq, lg_e, is_103, e1, show ¬ n ≤ i by omega]
      rw [firstI_hit (show i < n by omega) c hl] at hq
      exact k_X12_done hq
    · refine ih (i + 1) (by omega) (fun j hj => ?_)
      by_cases z : j = i
      · rw [z]; exact c
      · exact hl j (by omega)
/-- a call over THE MAP: both know whether there is one -/
theorem map_none {l : Launch} {g : AG} {h : AH} {X Y : Nat → Nat} {D : Nat → AD} {S : Nat → AS} {t : Nat → Prop} (hI : InvD h X Y D S t) (z1 : h.1 74 0 = -1) (z2 : h.1 103 24 = -1) {Q : Int32 → AH → Prop} (hq : Q 0 h) : C_X1_stands l g h 74 Q := by
  refine k_X1_stands ?_
  rw [if_pos z1]
  exact hq
theorem map_some {l : Launch} {g : AG} {h : AH} {a : Nat} (ha : a < 2) (z3 : h.1 74 0 = Int32.ofNat a) {Q : Int32 → AH → Prop} (hq : Q 1 h) : C_X1_stands l g h 74 Q := by
  refine k_X1_stands ?_
  rw [if_neg (by rw [z3]; exact i_ne (by omega))]
  exact hq
theorem map_in {h h1 h2 : AH} {X Y : Nat → Nat} {D : Nat → AD} {S : Nat → AS} {t : Nat → Prop} {D1 : AD} {n : Nat} {ST : Nat → AS} {FR BY DP LD : Nat → Nat} {K : Nat} {KD : Nat → Nat} (hI : InvD h X Y D S t) (m : MapI h D1 n ST FR BY DP LD K KD) (k : Int32) (e1 : h1 = ax_setI h 1 12 k) (e2 : h2 = ax_setI h1 103 0 0) : InvC h2 X Y D S t ∧ Fr PQ h h2 ∧ MapI h2 D1 n ST FR BY DP LD K KD ∧ h2.1 1 12 = k ∧ h2.1 103 24 = h.1 103 24 := by
  have fk : Fr PQ h h1 := by rw [e1]; exact (Fr.refl PQ h).setI PQ_112
  obtain ⟨i1, f1, g1⟩ := mIn2 hI.c fk (by rw [e1]; exact hI.1.setI) e2
  refine ⟨i1, f1, m.fr f1 (fun c p => PQ_map), ?_, ?_⟩
  · rw [g1 _ _ (by omega), e1, gI_s]
  · exact (f1 103 24 (fun q => PQ_map q (by unfold PMAP; omega))).1
theorem ob_faultAt {l : Launch} {g : AG} (h : AH) (a1 : Int32) (hI : Inv h) : C_X9_faultAt l g h 1 a1 (fun r h1 => C_X12_faultAt l g h1 103 a1 (fun r2 h2 => r2 = r ∧ Inv h2)) := by
  obtain ⟨X, Y, D, S, t, hI⟩ := hI
  have hr := hI.1
  refine c_X9_faultAt (s_X9_faultAt_0 ?_)
  rw [rf_1_6 hr]
  rcases hI.2.2.2.2.2.2.1 with ⟨z1, z2, z3⟩ | ⟨a, z1, z2, z3, z4, z5, n, ST, FR, BY, DP, LD, K, KD, m⟩
  · refine ⟨is_1, is_74, map_none hI z1 z2 ⟨fun z => absurd rfl z, fun _ => k_X9_refused ?_⟩⟩
    refine c_X12_faultAt (s_X12_faultAt_0 ⟨is_103, ?_⟩)
    intro h2 e2
    have : h2.1 103 24 = -1 := by rw [e2]; simp (disch := first | assumption | omega) only [true_and, and_true, forall_eq, true_implies, false_implies, implies_true, not_true_eq_false, not_false_eq_true, false_and, and_false, ne_eq, ite_true, ite_false, Nat.reduceLeDiff, Nat.reduceEqDiff, Nat.reduceLT, Nat.reduceAdd, Nat.reduceMul, Nat.reduceSub, Nat.le_refl, eq_self, li_0, li_1, li_2, li_3, li_4, li_5, li_6, li_7, li_8, li_9, li_10, li_11, li_12, li_13, li_14, li_15, li_16, li_17, li_18, li_19, li_20, li_21, li_22, li_23, li_24, li_25, li_26, li_27, li_28, li_29, li_30, li_31, li_32, li_44, li_48, li_57, li_59, li_60, li_61, li_62, li_63, li_97, li_100, li_122, li_123, li_125, li_127, li_255, li_400, li_401, li_800, li_1023, li_1024, li_10827, i_add, i_mul, i_sub, i_p1, i_m1, i_nm, i_nm2, i_cl, i_cl0, vi_ok, i_lt, i_le, i_eq, lg_e, gI_s, gI_c, gI_p, gI_L, gI_R, gL_s, gL_c, gL_p, gL_I, gL_R, gR_s, gR_c, gR_p, gR_I, gR_L]; exact z2
    rw [this]
    subst e2
    exact ⟨fun z => absurd rfl z, fun _ => ob_ref hI 6 (by decide)⟩
  · have hn := m.1.2.1
    have bad : (a1 < 1 ∨ (¬ a1 < 1 ∧ ¬ a1 ≤ 20)) → C_X12_faultAt l g (ax_setI h 1 12 2) 103 a1 (fun r2 h2 => r2 = -1 ∧ Inv h2) := by
      intro c
      refine c_X12_faultAt (s_X12_faultAt_0 ⟨is_103, ?_⟩)
      intro h2 e2
      have e24 := (map_in hI m 2 rfl e2).2.2.2.2
      rw [e24, z4]
      subst e2
      refine ⟨fun _ => ⟨fun _ => ob_ref hI 2 (by decide), fun z => ⟨fun z2 => ?_, fun _ => ob_ref hI 2 (by decide)⟩⟩, fun z => absurd z (i_ne (by omega))⟩
      rcases c with c | c
      · exact absurd c z
      · exact absurd z2 c.2
    refine ⟨is_1, is_74, map_some z1 z3 ⟨fun _ => ⟨fun z => k_X9_refused (bad (Or.inl z)), fun z => ⟨fun z2 => ?_, fun z2 => k_X9_refused (bad (Or.inr ⟨z, z2⟩))⟩⟩, fun z => absurd z (by decide)⟩⟩
    rw [rf_1_6 hr]
    refine ⟨is_74, k_firstOfFault (D := D a) hr hn m.2.2.1.1.1 (fun i hi => ⟨(m.2.2.1.1.2.2.1 i hi).1, m.1.2.2.1 i hi⟩) (k_X9_granted ?_)⟩
    refine c_X12_faultAt (s_X12_faultAt_0 ⟨is_103, ?_⟩)
    intro h2 e2
    obtain ⟨i1, f1, m1, w1, w2⟩ := map_in hI m 0 rfl e2
    rw [w2, z4]
    refine ⟨fun _ => ⟨fun q => absurd q z, fun _ => ⟨fun _ => ?_, fun q => absurd z2 q⟩⟩, fun q => absurd q (i_ne (by omega))⟩
    refine k_faultAt (D := D a) i1.1 hn m1.2.2.2.2.1.1 (fun i hi => ⟨(m1.2.2.2.2.1.2 i hi).1, m.1.2.2.1 i hi⟩) ⟨rfl, ?_⟩ n 0 (by omega) (fun j hj => absurd hj (Nat.not_lt_zero j))
    exact inv_say hI 0 (by decide) f1 i1.1 w1
