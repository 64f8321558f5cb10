theorem i_negm2 : (-2 : Int32) < 0 := by decide
theorem lead_neg {h : AH} {D : AD} {n : Nat} {ST : Nat → AS} {FR BY DP LD : Nat → Nat} {K : Nat} {KD : Nat → Nat} (m : MapI h D n ST FR BY DP LD K KD) {i a : Nat} (hi : i < n) (ha : a < 27) : (h.1 82 (27 * i + a) < Int32.ofNat 0) ↔ ¬ possD D (ST i) a := by
  have q := mapC_lead m hi ha
  have hn := m.1.2.1
  by_cases p : possD D (ST i) a
  · rw [(q.1 p).2.1]
    have := (q.1 p).1
    exact ⟨fun z => absurd z (i_nn (by omega)), fun z => absurd p z⟩
  · rw [(q.2 p).1]
    exact ⟨fun _ => p, fun _ => i_negm2⟩
theorem k_firstOfPressed {l : Launch} {g : AG} {h : AH} {D : AD} {n : Nat} {ST : Nat → AS} {FR BY DP LD : Nat → Nat} {K : Nat} {KD : Nat → Nat} {b : Nat} {Q : Int32 → AH → Prop} (hr : Refs h) (m : MapI h D n ST FR BY DP LD K KD) (hb : b < 27) (hq : Q (firstI (fun i => possD D (ST i) b) n) h) : C_X1_firstOfPressed l g h 74 (Int32.ofNat b) Q := by
  have hn := m.1.2.1
  have e1 := m.2.2.1.1.1
  have loop : ∀ d i, i + d = n → (∀ j, j < i → ¬ possD D (ST j) b) → L_X1_firstOfPressed_2 l g h 74 (Int32.ofNat b) (Int32.ofNat i) Q := by
    intro d
    induction d with
    | zero =>
      intro i hi hl
      refine s_X1_firstOfPressed_2 ?_
      simp (disch := first | assumption | omega) only [true_and, and_true, forall_eq, true_implies, false_implies, implies_true, not_true_eq_false, not_false_eq_true, false_and, and_false, ne_eq, ite_true, ite_false, Nat.reduceLeDiff, Nat.reduceEqDiff, Nat.reduceLT, Nat.reduceAdd, Nat.reduceMul, Nat.reduceSub, Nat.le_refl, eq_self, li_0, li_1, li_2, li_3, li_4, li_5, li_6, li_7, li_8, li_9, li_10, li_11, li_12, li_13, li_14, li_15, li_16, li_17, li_18, li_19, li_20, li_21, li_22, li_23, li_24, li_25, li_26, li_27, li_28, li_29, li_30, li_31, li_32, li_44, li_48, li_57, li_59, li_60, li_61, li_62, li_63, li_97, li_100, li_122, li_123, li_125, li_127, li_255, li_400, li_401, li_800, li_1023, li_1024, li_10827, i_add, i_mul, i_sub, i_p1, i_m1, i_nm, i_nm2, i_cl, i_cl0, vi_ok, i_lt, i_le, i_eq, lg_e, rf_74_2, rf_74_3, rf_74_4, rf_74_6, rf_74_7, rf_74_8, is_74, is_75, sz_75, is_82, sz_82, is_83, sz_83, is_90, sz_90, is_91, sz_91, is_92, sz_92, e1, show n ≤ i by omega]
      rw [firstI_none (fun j hj => hl j (by omega))] at hq
      exact hq
    | succ d ih =>
      intro i hi hl
      refine s_X1_firstOfPressed_2 ?_
      simp (disch := first | assumption | omega) only [true_and, and_true, forall_eq, true_implies, false_implies, implies_true, not_true_eq_false, not_false_eq_true, false_and, and_false, ne_eq, ite_true, ite_false, Nat.reduceLeDiff, Nat.reduceEqDiff, Nat.reduceLT, Nat.reduceAdd, Nat.reduceMul, Nat.reduceSub, Nat.le_refl, eq_self, li_0, li_1, li_2, li_3, li_4, li_5, li_6, li_7, li_8, li_9, li_10, li_11, li_12, li_13, li_14, li_15, li_16, li_17, li_18, li_19, li_20, li_21, li_22, li_23, li_24, li_25, li_26, li_27, li_28, li_29, li_30, li_31, li_32, li_44, li_48, li_57, li_59, li_60, li_61, li_62, li_63, li_97, li_100, li_122, li_123, li_125, li_127, li_255, li_400, li_401, li_800, li_1023, li_1024, li_10827, i_add, i_mul, i_sub, i_p1, i_m1, i_nm, i_nm2, i_cl, i_cl0, vi_ok, i_lt, i_le, i_eq, lg_e, rf_74_2, rf_74_3, rf_74_4, rf_74_6, rf_74_7, rf_74_8, is_74, is_75, sz_75, is_82, sz_82, is_83, sz_83, is_90, sz_90, is_91, sz_91, is_92, sz_92, rf_75_1, rf_75_2, rf_75_3, rf_75_4, rf_75_5, rf_75_6, is_75, is_76, sz_76, is_77, sz_77, is_78, sz_78, is_79, sz_79, is_80, sz_80, is_81, sz_81, e1, show ¬ n ≤ i by omega, Nat.mul_comm i 27]
      rw [lead_neg m (by omega) hb]
      refine ⟨fun c => ?_, fun c => ?_⟩
      · refine ih (i + 1) (by omega) (fun j hj => ?_)
        by_cases z : j = i
        · rw [z]; exact c
        · exact hl j (by omega)
      · rw [firstI_hit (show i < n by omega) (Classical.not_not.1 c) hl] at hq
        exact hq
  exact c_X1_firstOfPressed (s_X1_firstOfPressed_0 (loop n 0 (by omega) (fun j hj => absurd hj (Nat.not_lt_zero j))))
theorem k_pressedAt {l : Launch} {g : AG} {h : AH} {D : AD} {n : Nat} {ST : Nat → AS} {b : Nat} {Q : Int32 → AH → Prop} (hr : Refs h) (hn : n ≤ 400) (hb : b < 27) (e1 : h.1 103 25 = Int32.ofNat n) (e2 : ∀ i, i < n → h.1 138 i = Int32.ofNat (bsum (possD D (ST i)) 27)) (hq : Q (firstI (fun i => possD D (ST i) b) n) (ax_setI (ax_setI h 103 1 0) 103 2 (-1))) : ∀ d i, i + d = n → (∀ j, j < i → ¬ possD D (ST j) b) → L_X12_pressedAt_48 l g h 103 (Int32.ofNat b) (Int32.ofNat i) Q := by
  intro d
  induction d with
  | zero =>
    intro i hi hl
    refine s_X12_pressedAt_48 ?_
    simp (disch := first | assumption | omega) only [true_and, and_true, forall_eq, true_implies, false_implies, implies_true, not_true_eq_false, not_false_eq_true, false_and, and_false, ne_eq, ite_true, ite_false, Nat.reduceLeDiff, Nat.reduceEqDiff, Nat.reduceLT, Nat.reduceAdd, Nat.reduceMul, Nat.reduceSub, Nat.le_refl, eq_self, li_0, li_1, li_2, li_3, li_4, li_5, li_6, li_7, li_8, li_9, li_10, li_11, li_12, li_13, li_14, li_15, li_16, li_17, li_18, li_19, li_20, li_21, li_22, li_23, li_24, li_25, li_26, li_27, li_28, li_29, li_30, li_31, li_32, li_44, li_48, li_57, li_59, li_60, li_61, li_62, li_63, li_97, li_100, li_122, li_123, li_125, li_127, li_255, li_400, li_401, li_800, li_1023, li_1024, li_10827, i_add, i_mul, i_sub, i_p1, i_m1, i_nm, i_nm2, i_cl, i_cl0, vi_ok, i_lt, i_le, i_eq, lg_e, is_103, e1, show n ≤ i by omega]
    refine s_X12_pressedAt_75 ?_
    simp (disch := first | assumption | omega) only [true_and, and_true, forall_eq, true_implies, false_implies, implies_true, not_true_eq_false, not_false_eq_true, false_and, and_false, ne_eq, ite_true, ite_false, Nat.reduceLeDiff, Nat.reduceEqDiff, Nat.reduceLT, Nat.reduceAdd, Nat.reduceMul, Nat.reduceSub, Nat.le_refl, eq_self, li_0, li_1, li_2, li_3, li_4, li_5, li_6, li_7, li_8, li_9, li_10, li_11, li_12, li_13, li_14, li_15, li_16, li_17, li_18, li_19, li_20, li_21, li_22, li_23, li_24, li_25, li_26, li_27, li_28, li_29, li_30, li_31, li_32, li_44, li_48, li_57, li_59, li_60, li_61, li_62, li_63, li_97, li_100, li_122, li_123, li_125, li_127, li_255, li_400, li_401, li_800, li_1023, li_1024, li_10827, i_add, i_mul, i_sub, i_p1, i_m1, i_nm, i_nm2, i_cl, i_cl0, vi_ok, i_lt, i_le, i_eq, lg_e, is_103, e1, show n ≤ i by omega]
    rw [firstI_none (fun j hj => hl j (by omega))] at hq
    exact k_X12_done hq
  | succ d ih =>
    intro i hi hl
    refine s_X12_pressedAt_48 ?_
    simp (disch := first | assumption | omega) only [true_and, and_true, forall_eq, true_implies, false_implies, implies_true, not_true_eq_false, not_false_eq_true, false_and, and_false, ne_eq, ite_true, ite_false, Nat.reduceLeDiff, Nat.reduceEqDiff, Nat.reduceLT, Nat.reduceAdd, Nat.reduceMul, Nat.reduceSub, Nat.le_refl, eq_self, li_0, li_1, li_2, li_3, li_4, li_5, li_6, li_7, li_8, li_9, li_10, li_11, li_12, li_13, li_14, li_15, li_16, li_17, li_18, li_19, li_20, li_21, li_22, li_23, li_24, li_25, li_26, li_27, li_28, li_29, li_30, li_31, li_32, li_44, li_48, li_57, li_59, li_60, li_61, li_62, li_63, li_97, li_100, li_122, li_123, li_125, li_127, li_255, li_400, li_401, li_800, li_1023, li_1024, li_10827, i_add, i_mul, i_sub, i_p1, i_m1, i_nm, i_nm2, i_cl, i_cl0, vi_ok, i_lt, i_le, i_eq, lg_e, rf_103_4, rf_103_6, rf_103_7, rf_103_8, rf_103_9, rf_103_10, rf_103_21, rf_103_22, rf_103_23, rf_103_26, rf_103_27, rf_103_28, rf_103_29, rf_103_30, rf_103_31, rf_103_32, rf_103_33, rf_103_34, rf_103_35, rf_103_37, rf_103_38, rf_103_39, rf_103_44, rf_103_45, rf_103_46, rf_103_47, rf_103_48, rf_103_49, rf_103_54, rf_103_55, is_103, is_104, sz_104, is_125, sz_125, is_126, sz_126, is_127, sz_127, is_128, sz_128, is_129, sz_129, is_130, sz_130, is_131, sz_131, is_132, sz_132, is_133, sz_133, is_134, sz_134, is_135, sz_135, is_136, sz_136, is_137, sz_137, is_138, sz_138, is_139, sz_139, is_140, sz_140, is_141, sz_141, is_142, sz_142, is_143, sz_143, is_144, sz_144, is_145, sz_145, is_146, sz_146, is_147, sz_147, is_148, sz_148, is_149, sz_149, is_150, sz_150, is_151, sz_151, is_152, sz_152, is_153, sz_153, e1, e2 i (by omega), show ¬ n ≤ i by omega, i_bit hb, bI_ez]
    refine ⟨fun c => ?_, fun c => ?_⟩
    · refine s_X12_pressedAt_75 ?_
      simp (disch := first | assumption | omega) only [true_and, and_true, forall_eq, true_implies, false_implies, implies_true, not_true_eq_false, not_false_eq_true, false_and, and_false, ne_eq, ite_true, ite_false, Nat.reduceLeDiff, Nat.reduceEqDiff, Nat.reduceLT, Nat.reduceAdd, Nat.reduceMul, Nat.reduceSub, Nat.le_refl, eq_self, li_0, li_1, li_2, li_3, li_4, li_5, li_6, li_7, li_8, li_9, li_10, li_11, li_12, li_13, li_14, li_15, li_16, li_17, li_18, li_19, li_20, li_21, li_22, li_23, li_24, li_25, li_26, li_27, li_28, li_29, li_30, li_31, li_32, li_44, li_48, li_57, li_59, li_60, li_61, li_62, li_63, li_97, li_100, li_122, li_123, li_125, li_127, li_255, li_400, li_401, li_800, li_1023, li_1024, li_10827, i_add, i_mul, i_sub, i_p1, i_m1, i_nm, i_nm2, i_cl, i_cl0, vi_ok, i_lt, i_le, i_eq, lg_e, is_103, e1, show ¬ n ≤ i by omega]
      rw [firstI_hit (show i < n by omega) (Classical.not_not.1 c) hl] at hq
      exact k_X12_done hq
    · refine ih (i + 1) (by omega) (fun j hj => ?_)
      by_cases z : j = i
      · rw [z]; exact c
      · exact hl j (by omega)
theorem ob_pressedAt {l : Launch} {g : AG} (h : AH) (a1 : Int32) (hI : Inv h) : C_X9_pressedAt l g h 1 a1 (fun r h1 => C_X12_pressedAt l g h1 103 a1 (fun r2 h2 => r2 = r ∧ Inv h2)) := by
  obtain ⟨X, Y, D, S, t, hI⟩ := hI
  have hr := hI.1
  refine c_X9_pressedAt (s_X9_pressedAt_0 ?_)
  rw [rf_1_6 hr]
  rcases hI.2.2.2.2.2.2.1 with ⟨z1, z2, z3⟩ | ⟨a, z1, z2, z3, z4, z5, n, ST, FR, BY, DP, LD, K, KD, m⟩
  · refine ⟨is_1, is_74, map_none hI z1 z2 ⟨fun z => absurd rfl z, fun _ => k_X9_refused ?_⟩⟩
    refine c_X12_pressedAt (s_X12_pressedAt_0 ⟨is_103, ?_⟩)
    intro h2 e2
    have : h2.1 103 24 = -1 := by rw [e2]; simp (disch := first | assumption | omega) only [true_and, and_true, forall_eq, true_implies, false_implies, implies_true, not_true_eq_false, not_false_eq_true, false_and, and_false, ne_eq, ite_true, ite_false, Nat.reduceLeDiff, Nat.reduceEqDiff, Nat.reduceLT, Nat.reduceAdd, Nat.reduceMul, Nat.reduceSub, Nat.le_refl, eq_self, li_0, li_1, li_2, li_3, li_4, li_5, li_6, li_7, li_8, li_9, li_10, li_11, li_12, li_13, li_14, li_15, li_16, li_17, li_18, li_19, li_20, li_21, li_22, li_23, li_24, li_25, li_26, li_27, li_28, li_29, li_30, li_31, li_32, li_44, li_48, li_57, li_59, li_60, li_61, li_62, li_63, li_97, li_100, li_122, li_123, li_125, li_127, li_255, li_400, li_401, li_800, li_1023, li_1024, li_10827, i_add, i_mul, i_sub, i_p1, i_m1, i_nm, i_nm2, i_cl, i_cl0, vi_ok, i_lt, i_le, i_eq, lg_e, gI_s, gI_c, gI_p, gI_L, gI_R, gL_s, gL_c, gL_p, gL_I, gL_R, gR_s, gR_c, gR_p, gR_I, gR_L]; exact z2
    rw [this]
    subst e2
    exact ⟨fun z => absurd rfl z, fun _ => ob_ref hI 6 (by decide)⟩
  · have hn := m.1.2.1
    obtain ⟨t1, t2, t3, t4, t5, t6, t7, t8⟩ := (hI.2.2.1 a z1).1 z2
    have hB := t2.1.2.2.1
    have hA := hI.2.1
    have hx := hA.isx z1
    have hy := hA.isy z1
    have bad : (a1 < 0 ∨ (¬ a1 < 0 ∧ ¬ a1 < Int32.ofNat (D a 0 1))) → C_X12_pressedAt l g (ax_setI h 1 12 1) 103 a1 (fun r2 h2 => r2 = -1 ∧ Inv h2) := by
      intro c
      refine c_X12_pressedAt (s_X12_pressedAt_0 ⟨is_103, ?_⟩)
      intro h2 e2
      obtain ⟨i1, f1, m1, w1, w2⟩ := map_in hI m 1 rfl e2
      have hr1 := i1.1
      have u := (i1.2.2.1 a z1).1 z2
      have u4 := u.2.2.2.1
      have hA1 := i1.2.1
      rw [w2, z4]
      have rf : C_X12_refused l g h2 103 1 (fun r2 h2 => r2 = -1 ∧ Inv h2) := by rw [e2]; exact ob_ref hI 1 (by decide)
      refine ⟨fun _ => ⟨fun _ => rf, fun z => ?_⟩, fun q => absurd q (i_ne (by omega))⟩
      simp (disch := first | assumption | omega) only [true_and, and_true, forall_eq, true_implies, false_implies, implies_true, not_true_eq_false, not_false_eq_true, false_and, and_false, ne_eq, ite_true, ite_false, Nat.reduceLeDiff, Nat.reduceEqDiff, Nat.reduceLT, Nat.reduceAdd, Nat.reduceMul, Nat.reduceSub, Nat.le_refl, eq_self, li_0, li_1, li_2, li_3, li_4, li_5, li_6, li_7, li_8, li_9, li_10, li_11, li_12, li_13, li_14, li_15, li_16, li_17, li_18, li_19, li_20, li_21, li_22, li_23, li_24, li_25, li_26, li_27, li_28, li_29, li_30, li_31, li_32, li_44, li_48, li_57, li_59, li_60, li_61, li_62, li_63, li_97, li_100, li_122, li_123, li_125, li_127, li_255, li_400, li_401, li_800, li_1023, li_1024, li_10827, i_add, i_mul, i_sub, i_p1, i_m1, i_nm, i_nm2, i_cl, i_cl0, vi_ok, i_lt, i_le, i_eq, lg_e, rf_103_4, rf_103_6, rf_103_7, rf_103_8, rf_103_9, rf_103_10, rf_103_21, rf_103_22, rf_103_23, rf_103_26, rf_103_27, rf_103_28, rf_103_29, rf_103_30, rf_103_31, rf_103_32, rf_103_33, rf_103_34, rf_103_35, rf_103_37, rf_103_38, rf_103_39, rf_103_44, rf_103_45, rf_103_46, rf_103_47, rf_103_48, rf_103_49, rf_103_54, rf_103_55, is_103, is_104, sz_104, is_125, sz_125, is_126, sz_126, is_127, sz_127, is_128, sz_128, is_129, sz_129, is_130, sz_130, is_131, sz_131, is_132, sz_132, is_133, sz_133, is_134, sz_134, is_135, sz_135, is_136, sz_136, is_137, sz_137, is_138, sz_138, is_139, sz_139, is_140, sz_140, is_141, sz_141, is_142, sz_142, is_143, sz_143, is_144, sz_144, is_145, sz_145, is_146, sz_146, is_147, sz_147, is_148, sz_148, is_149, sz_149, is_150, sz_150, is_151, sz_151, is_152, sz_152, is_153, sz_153, hA1.y z1, isB_x hy, u4.1.2.1]
      refine ⟨fun z2 => ?_, fun _ => rf⟩
      rcases c with c | c
      · exact absurd c z
      · exact absurd z2 c.2
    refine ⟨is_1, is_74, map_some z1 z3 ⟨fun _ => ⟨fun z => k_X9_refused (bad (Or.inl z)), fun z => ?_⟩, fun z => absurd z (by decide)⟩⟩
    rw [rf_1_6 hr, z5, t3.1.2.1]
    refine ⟨is_74, isA_x hx, fun c => ?_, fun c => k_X9_refused (bad (Or.inr ⟨z, c⟩))⟩
    obtain ⟨b, hb, rfl⟩ := i_of z
    have c := (i_lt hb (by omega)).1 c
    refine ⟨is_74, k_firstOfPressed hr m (by omega) (k_X9_granted ?_)⟩
    refine c_X12_pressedAt (s_X12_pressedAt_0 ⟨is_103, ?_⟩)
    intro h2 e2
    obtain ⟨i1, f1, m1, w1, w2⟩ := map_in hI m 0 rfl e2
    clear e2
    have hr1 := i1.1
    have u := (i1.2.2.1 a z1).1 z2
    have u4 := u.2.2.2.1
    have hA1 := i1.2.1
    rw [w2, z4]
    refine ⟨fun _ => ⟨fun q => absurd q z, fun _ => ?_⟩, fun q => absurd q (i_ne (by omega))⟩
    simp (disch := first | assumption | omega) only [true_and, and_true, forall_eq, true_implies, false_implies, implies_true, not_true_eq_false, not_false_eq_true, false_and, and_false, ne_eq, ite_true, ite_false, Nat.reduceLeDiff, Nat.reduceEqDiff, Nat.reduceLT, Nat.reduceAdd, Nat.reduceMul, Nat.reduceSub, Nat.le_refl, eq_self, li_0, li_1, li_2, li_3, li_4, li_5, li_6, li_7, li_8, li_9, li_10, li_11, li_12, li_13, li_14, li_15, li_16, li_17, li_18, li_19, li_20, li_21, li_22, li_23, li_24, li_25, li_26, li_27, li_28, li_29, li_30, li_31, li_32, li_44, li_48, li_57, li_59, li_60, li_61, li_62, li_63, li_97, li_100, li_122, li_123, li_125, li_127, li_255, li_400, li_401, li_800, li_1023, li_1024, li_10827, i_add, i_mul, i_sub, i_p1, i_m1, i_nm, i_nm2, i_cl, i_cl0, vi_ok, i_lt, i_le, i_eq, lg_e, rf_103_4, rf_103_6, rf_103_7, rf_103_8, rf_103_9, rf_103_10, rf_103_21, rf_103_22, rf_103_23, rf_103_26, rf_103_27, rf_103_28, rf_103_29, rf_103_30, rf_103_31, rf_103_32, rf_103_33, rf_103_34, rf_103_35, rf_103_37, rf_103_38, rf_103_39, rf_103_44, rf_103_45, rf_103_46, rf_103_47, rf_103_48, rf_103_49, rf_103_54, rf_103_55, is_103, is_104, sz_104, is_125, sz_125, is_126, sz_126, is_127, sz_127, is_128, sz_128, is_129, sz_129, is_130, sz_130, is_131, sz_131, is_132, sz_132, is_133, sz_133, is_134, sz_134, is_135, sz_135, is_136, sz_136, is_137, sz_137, is_138, sz_138, is_139, sz_139, is_140, sz_140, is_141, sz_141, is_142, sz_142, is_143, sz_143, is_144, sz_144, is_145, sz_145, is_146, sz_146, is_147, sz_147, is_148, sz_148, is_149, sz_149, is_150, sz_150, is_151, sz_151, is_152, sz_152, is_153, sz_153, hA1.y z1, isB_x hy, u4.1.2.1, c]
    refine k_pressedAt (D := D a) hr1 hn (by omega) m1.2.2.2.2.1.1 (fun i hi => (m1.2.2.2.2.2.2.1 i hi).1) ⟨rfl, ?_⟩ n 0 (by omega) (fun j hj => absurd hj (Nat.not_lt_zero j))
    exact inv_say hI 0 (by decide) f1 i1.1 w1
theorem k_firstOfValue {l : Launch} {g : AG} {h : AH} {D : AD} {n v : Nat} {ST : Nat → AS} {x : Int32} {Q : Int32 → AH → Prop} (hr : Refs h) (hn : n ≤ 400) (hv : v < 6) (e1 : h.1 75 0 = Int32.ofNat n) (e2 : ∀ i, i < n → h.2.1 76 i = Int64.ofNat (en (ST i)) ∧ WS (D 0 0) (ST i)) (hq : Q (firstI (fun i => Int32.ofNat ((ST i).2.2.2.2 v) = x) n) h) : C_X1_firstOfValue l g h 74 (Int32.ofNat v) x Q := by
  have loop : ∀ d i, i + d = n → (∀ j, j < i → ¬ Int32.ofNat ((ST j).2.2.2.2 v) = x) → L_X1_firstOfValue_2 l g h 74 (Int32.ofNat v) x (Int32.ofNat i) Q := by
    intro d
    induction d with
    | zero =>
      intro i hi hl
      refine s_X1_firstOfValue_2 ?_
      simp (disch := first | assumption | omega) only [true_and, and_true, forall_eq, true_implies, false_implies, implies_true, not_true_eq_false, not_false_eq_true, false_and, and_false, ne_eq, ite_true, ite_false, Nat.reduceLeDiff, Nat.reduceEqDiff, Nat.reduceLT, Nat.reduceAdd, Nat.reduceMul, Nat.reduceSub, Nat.le_refl, eq_self, li_0, li_1, li_2, li_3, li_4, li_5, li_6, li_7, li_8, li_9, li_10, li_11, li_12, li_13, li_14, li_15, li_16, li_17, li_18, li_19, li_20, li_21, li_22, li_23, li_24, li_25, li_26, li_27, li_28, li_29, li_30, li_31, li_32, li_44, li_48, li_57, li_59, li_60, li_61, li_62, li_63, li_97, li_100, li_122, li_123, li_125, li_127, li_255, li_400, li_401, li_800, li_1023, li_1024, li_10827, i_add, i_mul, i_sub, i_p1, i_m1, i_nm, i_nm2, i_cl, i_cl0, vi_ok, i_lt, i_le, i_eq, lg_e, rf_74_2, rf_74_3, rf_74_4, rf_74_6, rf_74_7, rf_74_8, is_74, is_75, sz_75, is_82, sz_82, is_83, sz_83, is_90, sz_90, is_91, sz_91, is_92, sz_92, e1, show n ≤ i by omega]
      rw [firstI_none (fun j hj => hl j (by omega))] at hq
      exact hq
    | succ d ih =>
      intro i hi hl
      refine s_X1_firstOfValue_2 ?_
      simp (disch := first | assumption | omega) only [true_and, and_true, forall_eq, true_implies, false_implies, implies_true, not_true_eq_false, not_false_eq_true, false_and, and_false, ne_eq, ite_true, ite_false, Nat.reduceLeDiff, Nat.reduceEqDiff, Nat.reduceLT, Nat.reduceAdd, Nat.reduceMul, Nat.reduceSub, Nat.le_refl, eq_self, li_0, li_1, li_2, li_3, li_4, li_5, li_6, li_7, li_8, li_9, li_10, li_11, li_12, li_13, li_14, li_15, li_16, li_17, li_18, li_19, li_20, li_21, li_22, li_23, li_24, li_25, li_26, li_27, li_28, li_29, li_30, li_31, li_32, li_44, li_48, li_57, li_59, li_60, li_61, li_62, li_63, li_97, li_100, li_122, li_123, li_125, li_127, li_255, li_400, li_401, li_800, li_1023, li_1024, li_10827, i_add, i_mul, i_sub, i_p1, i_m1, i_nm, i_nm2, i_cl, i_cl0, vi_ok, i_lt, i_le, i_eq, lg_e, rf_74_2, rf_74_3, rf_74_4, rf_74_6, rf_74_7, rf_74_8, is_74, is_75, sz_75, is_82, sz_82, is_83, sz_83, is_90, sz_90, is_91, sz_91, is_92, sz_92, rf_75_1, rf_75_2, rf_75_3, rf_75_4, rf_75_5, rf_75_6, is_75, is_76, sz_76, is_77, sz_77, is_78, sz_78, is_79, sz_79, is_80, sz_80, is_81, sz_81, e1, (e2 i (by omega)).1, show ¬ n ≤ i by omega]
      have w := (e2 i (by omega)).2
      have := en_lt w
      refine k_X3_valueOf (by omega) hv ?_
      rw [en_val w hv]
      refine ⟨fun c => ?_, fun c => ?_⟩
      · refine ih (i + 1) (by omega) (fun j hj => ?_)
        by_cases z : j = i
        · rw [z]; exact c
        · exact hl j (by omega)
      · rw [firstI_hit (show i < n by omega) c hl] at hq
        exact hq
  exact c_X1_firstOfValue (s_X1_firstOfValue_0 (loop n 0 (by omega) (fun j hj => absurd hj (Nat.not_lt_zero j))))
theorem k_holdsAt {l : Launch} {g : AG} {h : AH} {D : AD} {n v : Nat} {ST : Nat → AS} {x : Int32} {Q : Int32 → AH → Prop} (hr : Refs h) (hn : n ≤ 400) (hv : v < 6) (e1 : h.1 103 25 = Int32.ofNat n) (e2 : ∀ i, i < n → h.2.1 134 i = Int64.ofNat (eb (ST i).2.2.2.2 6) ∧ WS (D 0 0) (ST i)) (hq : Q (firstI (fun i => Int32.ofNat ((ST i).2.2.2.2 v) = x) n) (ax_setI (ax_setI h 103 1 0) 103 2 (-1))) : ∀ d i, i + d = n → (∀ j, j < i → ¬ Int32.ofNat ((ST j).2.2.2.2 v) = x) → L_X12_holdsAt_48 l g h 103 (Int32.ofNat v) x (Int32.ofNat i) Q := by
  intro d
  induction d with
  | zero =>
    intro i hi hl
    refine s_X12_holdsAt_48 ?_
    simp (disch := first | assumption | omega) only [true_and, and_true, forall_eq, true_implies, false_implies, implies_true, not_true_eq_false, not_false_eq_true, false_and, and_false, ne_eq, ite_true, ite_false, Nat.reduceLeDiff, Nat.reduceEqDiff, Nat.reduceLT, Nat.reduceAdd, Nat.reduceMul, Nat.reduceSub, Nat.le_refl, eq_self, li_0, li_1, li_2, li_3, li_4, li_5, li_6, li_7, li_8, li_9, li_10, li_11, li_12, li_13, li_14, li_15, li_16, li_17, li_18, li_19, li_20, li_21, li_22, li_23, li_24, li_25, li_26, li_27, li_28, li_29, li_30, li_31, li_32, li_44, li_48, li_57, li_59, li_60, li_61, li_62, li_63, li_97, li_100, li_122, li_123, li_125, li_127, li_255, li_400, li_401, li_800, li_1023, li_1024, li_10827, i_add, i_mul, i_sub, i_p1, i_m1, i_nm, i_nm2, i_cl, i_cl0, vi_ok, i_lt, i_le, i_eq, lg_e, is_103, e1, show n ≤ i by omega]
    refine s_X12_holdsAt_83 ?_
    simp (disch := first | assumption | omega) only [true_and, and_true, forall_eq, true_implies, false_implies, implies_true, not_true_eq_false, not_false_eq_true, false_and, and_false, ne_eq, ite_true, ite_false, Nat.reduceLeDiff, Nat.reduceEqDiff, Nat.reduceLT, Nat.reduceAdd, Nat.reduceMul, Nat.reduceSub, Nat.le_refl, eq_self, li_0, li_1, li_2, li_3, li_4, li_5, li_6, li_7, li_8, li_9, li_10, li_11, li_12, li_13, li_14, li_15, li_16, li_17, li_18, li_19, li_20, li_21, li_22, li_23, li_24, li_25, li_26, li_27, li_28, li_29, li_30, li_31, li_32, li_44, li_48, li_57, li_59, li_60, li_61, li_62, li_63, li_97, li_100, li_122, li_123, li_125, li_127, li_255, li_400, li_401, li_800, li_1023, li_1024, li_10827, i_add, i_mul, i_sub, i_p1, i_m1, i_nm, i_nm2, i_cl, i_cl0, vi_ok, i_lt, i_le, i_eq, lg_e, is_103, e1, show n ≤ i by omega]
    rw [firstI_none (fun j hj => hl j (by omega))] at hq
    exact k_X12_done hq
  | succ d ih =>
    intro i hi hl
    have w := (e2 i (by omega)).2
    have eh : (jlshr (Int64.ofNat (eb (ST i).2.2.2.2 6)) (Int32.ofNat (4 * (5 - v))) &&& 15).toInt32 = Int32.ofNat ((ST i).2.2.2.2 v) := by
      have := eb_lt w.2.2.2.2.2
      rw [l_shr (by omega) (by omega), show (15 : Int64) = Int64.ofNat (2 ^ 4 - 1) from rfl, l_and, n_and, l_to, show (2 ^ 4 : Nat) = 16 from rfl, eb_dig w.2.2.2.2.2 hv]
    refine s_X12_holdsAt_48 ?_
    simp (disch := first | assumption | omega) only [true_and, and_true, forall_eq, true_implies, false_implies, implies_true, not_true_eq_false, not_false_eq_true, false_and, and_false, ne_eq, ite_true, ite_false, Nat.reduceLeDiff, Nat.reduceEqDiff, Nat.reduceLT, Nat.reduceAdd, Nat.reduceMul, Nat.reduceSub, Nat.le_refl, eq_self, li_0, li_1, li_2, li_3, li_4, li_5, li_6, li_7, li_8, li_9, li_10, li_11, li_12, li_13, li_14, li_15, li_16, li_17, li_18, li_19, li_20, li_21, li_22, li_23, li_24, li_25, li_26, li_27, li_28, li_29, li_30, li_31, li_32, li_44, li_48, li_57, li_59, li_60, li_61, li_62, li_63, li_97, li_100, li_122, li_123, li_125, li_127, li_255, li_400, li_401, li_800, li_1023, li_1024, li_10827, i_add, i_mul, i_sub, i_p1, i_m1, i_nm, i_nm2, i_cl, i_cl0, vi_ok, i_lt, i_le, i_eq, lg_e, rf_103_4, rf_103_6, rf_103_7, rf_103_8, rf_103_9, rf_103_10, rf_103_21, rf_103_22, rf_103_23, rf_103_26, rf_103_27, rf_103_28, rf_103_29, rf_103_30, rf_103_31, rf_103_32, rf_103_33, rf_103_34, rf_103_35, rf_103_37, rf_103_38, rf_103_39, rf_103_44, rf_103_45, rf_103_46, rf_103_47, rf_103_48, rf_103_49, rf_103_54, rf_103_55, is_103, is_104, sz_104, is_125, sz_125, is_126, sz_126, is_127, sz_127, is_128, sz_128, is_129, sz_129, is_130, sz_130, is_131, sz_131, is_132, sz_132, is_133, sz_133, is_134, sz_134, is_135, sz_135, is_136, sz_136, is_137, sz_137, is_138, sz_138, is_139, sz_139, is_140, sz_140, is_141, sz_141, is_142, sz_142, is_143, sz_143, is_144, sz_144, is_145, sz_145, is_146, sz_146, is_147, sz_147, is_148, sz_148, is_149, sz_149, is_150, sz_150, is_151, sz_151, is_152, sz_152, is_153, sz_153, e1, (e2 i (by omega)).1, show ¬ n ≤ i by omega, eh]
    refine ⟨fun c => ?_, fun c => ?_⟩
    · refine s_X12_holdsAt_83 ?_
      simp (disch := first | assumption | omega) only [true_and, and_true, forall_eq, true_implies, false_implies, implies_true, not_true_eq_false, not_false_eq_true, false_and, and_false, ne_eq, ite_true, ite_false, Nat.reduceLeDiff, Nat.reduceEqDiff, Nat.reduceLT, Nat.reduceAdd, Nat.reduceMul, Nat.reduceSub, Nat.le_refl, eq_self, li_0, li_1, li_2, li_3, li_4, li_5, li_6, li_7, li_8, li_9, li_10, li_11, li_12, li_13, li_14, li_15, li_16, li_17, li_18, li_19, li_20, li_21, li_22, li_23, li_24, li_25, li_26, li_27, li_28, li_29, li_30, li_31, li_32, li_44, li_48, li_57, li_59, li_60, li_61, li_62, li_63, li_97, li_100, li_122, li_123, li_125, li_127, li_255, li_400, li_401, li_800, li_1023, li_1024, li_10827, i_add, i_mul, i_sub, i_p1, i_m1, i_nm, i_nm2, i_cl, i_cl0, vi_ok, i_lt, i_le, i_eq, lg_e, is_103, e1, show ¬ n ≤ i by omega]
      rw [firstI_hit (show i < n by omega) c hl] at hq
      exact k_X12_done hq
    · refine ih (i + 1) (by omega) (fun j hj => ?_)
      by_cases z : j = i
      · rw [z]; exact c
      · exact hl j (by omega)
theorem ob_holdsAt {l : Launch} {g : AG} (h : AH) (a1 a2 : Int32) (hI : Inv h) : C_X9_holdsAt l g h 1 a1 a2 (fun r h1 => C_X12_holdsAt l g h1 103 a1 a2 (fun r2 h2 => r2 = r ∧ Inv h2)) := by
  obtain ⟨X, Y, D, S, t, hI⟩ := hI
  have hr := hI.1
  refine c_X9_holdsAt (s_X9_holdsAt_0 ?_)
  rw [rf_1_6 hr]
  rcases hI.2.2.2.2.2.2.1 with ⟨z1, z2, z3⟩ | ⟨a, z1, z2, z3, z4, z5, n, ST, FR, BY, DP, LD, K, KD, m⟩
  · refine ⟨is_1, is_74, map_none hI z1 z2 ⟨fun z => absurd rfl z, fun _ => k_X9_refused ?_⟩⟩
    refine c_X12_holdsAt (s_X12_holdsAt_0 ⟨is_103, ?_⟩)
    intro h2 e2
    have : h2.1 103 24 = -1 := by rw [e2]; simp (disch := first | assumption | omega) only [true_and, and_true, forall_eq, true_implies, false_implies, implies_true, not_true_eq_false, not_false_eq_true, false_and, and_false, ne_eq, ite_true, ite_false, Nat.reduceLeDiff, Nat.reduceEqDiff, Nat.reduceLT, Nat.reduceAdd, Nat.reduceMul, Nat.reduceSub, Nat.le_refl, eq_self, li_0, li_1, li_2, li_3, li_4, li_5, li_6, li_7, li_8, li_9, li_10, li_11, li_12, li_13, li_14, li_15, li_16, li_17, li_18, li_19, li_20, li_21, li_22, li_23, li_24, li_25, li_26, li_27, li_28, li_29, li_30, li_31, li_32, li_44, li_48, li_57, li_59, li_60, li_61, li_62, li_63, li_97, li_100, li_122, li_123, li_125, li_127, li_255, li_400, li_401, li_800, li_1023, li_1024, li_10827, i_add, i_mul, i_sub, i_p1, i_m1, i_nm, i_nm2, i_cl, i_cl0, vi_ok, i_lt, i_le, i_eq, lg_e, gI_s, gI_c, gI_p, gI_L, gI_R, gL_s, gL_c, gL_p, gL_I, gL_R, gR_s, gR_c, gR_p, gR_I, gR_L]; exact z2
    rw [this]
    subst e2
    exact ⟨fun z => absurd rfl z, fun _ => ob_ref hI 6 (by decide)⟩
  · have hn := m.1.2.1
    obtain ⟨t1, t2, t3, t4, t5, t6, t7, t8⟩ := (hI.2.2.1 a z1).1 z2
    have h6 := t2.1.2.2.2
    have hA := hI.2.1
    have hx := hA.isx z1
    have hy := hA.isy z1
    have bad : (a1 < 0 ∨ (¬ a1 < 0 ∧ ¬ a1 < Int32.ofNat (D a 0 2))) → C_X12_holdsAt l g (ax_setI h 1 12 1) 103 a1 a2 (fun r2 h2 => r2 = -1 ∧ Inv h2) := by
      intro c
      refine c_X12_holdsAt (s_X12_holdsAt_0 ⟨is_103, ?_⟩)
      intro h2 e2
      obtain ⟨i1, f1, m1, w1, w2⟩ := map_in hI m 1 rfl e2
      have hr1 := i1.1
      have u := (i1.2.2.1 a z1).1 z2
      have u4 := u.2.2.2.1
      have hA1 := i1.2.1
      rw [w2, z4]
      have rf : C_X12_refused l g h2 103 1 (fun r2 h2 => r2 = -1 ∧ Inv h2) := by rw [e2]; exact ob_ref hI 1 (by decide)
      refine ⟨fun _ => ⟨fun _ => rf, fun z => ?_⟩, fun q => absurd q (i_ne (by omega))⟩
      simp (disch := first | assumption | omega) only [true_and, and_true, forall_eq, true_implies, false_implies, implies_true, not_true_eq_false, not_false_eq_true, false_and, and_false, ne_eq, ite_true, ite_false, Nat.reduceLeDiff, Nat.reduceEqDiff, Nat.reduceLT, Nat.reduceAdd, Nat.reduceMul, Nat.reduceSub, Nat.le_refl, eq_self, li_0, li_1, li_2, li_3, li_4, li_5, li_6, li_7, li_8, li_9, li_10, li_11, li_12, li_13, li_14, li_15, li_16, li_17, li_18, li_19, li_20, li_21, li_22, li_23, li_24, li_25, li_26, li_27, li_28, li_29, li_30, li_31, li_32, li_44, li_48, li_57, li_59, li_60, li_61, li_62, li_63, li_97, li_100, li_122, li_123, li_125, li_127, li_255, li_400, li_401, li_800, li_1023, li_1024, li_10827, i_add, i_mul, i_sub, i_p1, i_m1, i_nm, i_nm2, i_cl, i_cl0, vi_ok, i_lt, i_le, i_eq, lg_e, rf_103_4, rf_103_6, rf_103_7, rf_103_8, rf_103_9, rf_103_10, rf_103_21, rf_103_22, rf_103_23, rf_103_26, rf_103_27, rf_103_28, rf_103_29, rf_103_30, rf_103_31, rf_103_32, rf_103_33, rf_103_34, rf_103_35, rf_103_37, rf_103_38, rf_103_39, rf_103_44, rf_103_45, rf_103_46, rf_103_47, rf_103_48, rf_103_49, rf_103_54, rf_103_55, is_103, is_104, sz_104, is_125, sz_125, is_126, sz_126, is_127, sz_127, is_128, sz_128, is_129, sz_129, is_130, sz_130, is_131, sz_131, is_132, sz_132, is_133, sz_133, is_134, sz_134, is_135, sz_135, is_136, sz_136, is_137, sz_137, is_138, sz_138, is_139, sz_139, is_140, sz_140, is_141, sz_141, is_142, sz_142, is_143, sz_143, is_144, sz_144, is_145, sz_145, is_146, sz_146, is_147, sz_147, is_148, sz_148, is_149, sz_149, is_150, sz_150, is_151, sz_151, is_152, sz_152, is_153, sz_153, hA1.y z1, isB_x hy, u4.1.2.2]
      refine ⟨fun z2 => ?_, fun _ => rf⟩
      rcases c with c | c
      · exact absurd c z
      · exact absurd z2 c.2
    refine ⟨is_1, is_74, map_some z1 z3 ⟨fun _ => ⟨fun z => k_X9_refused (bad (Or.inl z)), fun z => ?_⟩, fun z => absurd z (by decide)⟩⟩
    rw [rf_1_6 hr, z5, t3.1.2.2.1]
    refine ⟨is_74, isA_x hx, fun c => ?_, fun c => k_X9_refused (bad (Or.inr ⟨z, c⟩))⟩
    obtain ⟨b, hb, rfl⟩ := i_of z
    have c := (i_lt hb (by omega)).1 c
    refine ⟨is_74, k_firstOfValue (D := D a) hr hn (by omega) m.2.2.1.1.1 (fun i hi => ⟨(m.2.2.1.1.2.2.1 i hi).1, m.1.2.2.1 i hi⟩) (k_X9_granted ?_)⟩
    refine c_X12_holdsAt (s_X12_holdsAt_0 ⟨is_103, ?_⟩)
    intro h2 e2
    obtain ⟨i1, f1, m1, w1, w2⟩ := map_in hI m 0 rfl e2
    clear e2
    have hr1 := i1.1
    have u := (i1.2.2.1 a z1).1 z2
    have u4 := u.2.2.2.1
    have hA1 := i1.2.1
    rw [w2, z4]
    refine ⟨fun _ => ⟨fun q => absurd q z, fun _ => ?_⟩, fun q => absurd q (i_ne (by omega))⟩
    simp (disch := first | assumption | omega) only [true_and, and_true, forall_eq, true_implies, false_implies, implies_true, not_true_eq_false, not_false_eq_true, false_and, and_false, ne_eq, ite_true, ite_false, Nat.reduceLeDiff, Nat.reduceEqDiff, Nat.reduceLT, Nat.reduceAdd, Nat.reduceMul, Nat.reduceSub, Nat.le_refl, eq_self, li_0, li_1, li_2, li_3, li_4, li_5, li_6, li_7, li_8, li_9, li_10, li_11, li_12, li_13, li_14, li_15, li_16, li_17, li_18, li_19, li_20, li_21, li_22, li_23, li_24, li_25, li_26, li_27, li_28, li_29, li_30, li_31, li_32, li_44, li_48, li_57, li_59, li_60, li_61, li_62, li_63, li_97, li_100, li_122, li_123, li_125, li_127, li_255, li_400, li_401, li_800, li_1023, li_1024, li_10827, i_add, i_mul, i_sub, i_p1, i_m1, i_nm, i_nm2, i_cl, i_cl0, vi_ok, i_lt, i_le, i_eq, lg_e, rf_103_4, rf_103_6, rf_103_7, rf_103_8, rf_103_9, rf_103_10, rf_103_21, rf_103_22, rf_103_23, rf_103_26, rf_103_27, rf_103_28, rf_103_29, rf_103_30, rf_103_31, rf_103_32, rf_103_33, rf_103_34, rf_103_35, rf_103_37, rf_103_38, rf_103_39, rf_103_44, rf_103_45, rf_103_46, rf_103_47, rf_103_48, rf_103_49, rf_103_54, rf_103_55, is_103, is_104, sz_104, is_125, sz_125, is_126, sz_126, is_127, sz_127, is_128, sz_128, is_129, sz_129, is_130, sz_130, is_131, sz_131, is_132, sz_132, is_133, sz_133, is_134, sz_134, is_135, sz_135, is_136, sz_136, is_137, sz_137, is_138, sz_138, is_139, sz_139, is_140, sz_140, is_141, sz_141, is_142, sz_142, is_143, sz_143, is_144, sz_144, is_145, sz_145, is_146, sz_146, is_147, sz_147, is_148, sz_148, is_149, sz_149, is_150, sz_150, is_151, sz_151, is_152, sz_152, is_153, sz_153, hA1.y z1, isB_x hy, u4.1.2.2, c]
    refine k_holdsAt (D := D a) hr1 hn (by omega) m1.2.2.2.2.1.1 (fun i hi => ⟨(m1.2.2.2.2.1.2 i hi).2.1, m.1.2.2.1 i hi⟩) ⟨rfl, ?_⟩ n 0 (by omega) (fun j hj => absurd hj (Nat.not_lt_zero j))
    exact inv_say hI 0 (by decide) f1 i1.1 w1
