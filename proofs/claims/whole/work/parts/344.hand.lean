theorem ob_state {l : Launch} {g : AG} (h : AH) (a1 a2 : Int32) (hI : Inv h) : C_X9_state l g h 1 a1 a2 (fun r h1 => C_X12_state l g h1 103 a1 a2 (fun r2 h2 => r2 = r ∧ Inv h2)) := by
  obtain ⟨X, Y, D, S, t, hI⟩ := hI
  by_cases hT : Tel t a1
  · obtain ⟨a, ha, rfl, ht⟩ := hT
    have hr := hI.1
    have hA := hI.2.1
    obtain ⟨t1, t2, t3, t4, t5, t6, t7, t8⟩ := (hI.2.2.1 a ha).1 ht
    have hx := hA.isx ha
    have hy := hA.isy ha
    have h5 := t5.2.1
    have hf := fault_le t5
    refine c_X9_state (s_X9_state_0 ⟨is_1, q_has_y hI.c ha ht ?_⟩)
    have model : ∀ Q : Int32 → AH → Prop, (∀ h', Fr SCR h h' → RepS h' (S a) → Refs h' → ((a2 = 0 → Q (Int32.ofNat (S a).1) h') ∧ (a2 = 1 → Q (Int32.ofNat (S a).2.1) h') ∧ (a2 = 2 → Q (topI (S a)) h') ∧ (a2 = 3 → Q (tickI (S a)) h') ∧ (a2 = 4 → Q (Int32.ofNat (pops (possD (D a) (S a)) 27)) h') ∧ (¬ a2 = 0 → ¬ a2 = 1 → ¬ a2 = 2 → ¬ a2 = 3 → ¬ a2 = 4 → Q (-1) h'))) → C_X12_state l g h 103 (Int32.ofNat a) a2 Q := by
      intro Q hq
      refine c_X12_state (s_X12_state_0 ⟨is_103, ?_⟩)
      intro h2 e2
      obtain ⟨i1, f1, e0⟩ := mIn hI e2
      clear e2
      have hr1 := i1.1
      have hA1 := i1.2.1
      obtain ⟨u1, u2, u3, u4, u5, u6, u7, u8⟩ := (i1.2.2.1 a ha).1 ht
      refine q_isApp_y i1 ha ht ⟨fun _ => ?_, fun z => absurd z (by decide)⟩
      simp (disch := first | assumption | omega) only [true_and, and_true, forall_eq, true_implies, false_implies, implies_true, not_true_eq_false, not_false_eq_true, false_and, and_false, ne_eq, ite_true, ite_false, Nat.reduceLeDiff, Nat.reduceEqDiff, Nat.reduceLT, Nat.reduceAdd, Nat.reduceMul, Nat.reduceSub, Nat.le_refl, eq_self, li_0, li_1, li_2, li_3, li_4, li_5, li_6, li_7, li_8, li_9, li_10, li_11, li_12, li_13, li_14, li_15, li_16, li_17, li_18, li_19, li_20, li_21, li_22, li_23, li_24, li_25, li_26, li_27, li_28, li_29, li_30, li_31, li_32, li_44, li_48, li_57, li_59, li_60, li_61, li_62, li_63, li_97, li_100, li_122, li_123, li_125, li_127, li_255, li_400, li_401, li_800, li_1023, li_1024, li_10827, i_add, i_mul, i_sub, i_p1, i_m1, i_nm, i_nm2, i_cl, i_cl0, vi_ok, i_lt, i_le, i_eq, lg_e, rf_103_4, rf_103_6, rf_103_7, rf_103_8, rf_103_9, rf_103_10, rf_103_21, rf_103_22, rf_103_23, rf_103_26, rf_103_27, rf_103_28, rf_103_29, rf_103_30, rf_103_31, rf_103_32, rf_103_33, rf_103_34, rf_103_35, rf_103_37, rf_103_38, rf_103_39, rf_103_44, rf_103_45, rf_103_46, rf_103_47, rf_103_48, rf_103_49, rf_103_54, rf_103_55, is_103, is_104, sz_104, is_125, sz_125, is_126, sz_126, is_127, sz_127, is_128, sz_128, is_129, sz_129, is_130, sz_130, is_131, sz_131, is_132, sz_132, is_133, sz_133, is_134, sz_134, is_135, sz_135, is_136, sz_136, is_137, sz_137, is_138, sz_138, is_139, sz_139, is_140, sz_140, is_141, sz_141, is_142, sz_142, is_143, sz_143, is_144, sz_144, is_145, sz_145, is_146, sz_146, is_147, sz_147, is_148, sz_148, is_149, sz_149, is_150, sz_150, is_151, sz_151, is_152, sz_152, is_153, sz_153, u7, u8]
      refine k_X12_unpack hr1 u5 (fun h' f' s' => ?_)
      have r' := f'.refs hr1
      obtain ⟨q0, q1, q2, q3, q4, q5⟩ := hq h' (f1.trans f'.scr) s' r'
      unfold topI at q2
      unfold tickI at q3
      have htop : S a = S a := rfl
      refine ⟨fun z => ?_, fun z0 => ⟨fun z => ?_, fun z1 => ⟨fun z => ?_, fun z2 => ⟨fun z => ?_, fun z3 => ⟨fun z => ?_, fun z4 => q5 z0 z1 z2 z3 z4⟩⟩⟩⟩⟩
      · rw [s'.1]; exact q0 z
      · rw [s'.2.1]; exact q1 z
      · have q2 := q2 z
        rw [s'.2.1]
        by_cases c : (S a).2.1 = 0
        · rw [if_pos c] at q2
          simp (disch := first | assumption | omega) only [true_and, and_true, forall_eq, true_implies, false_implies, implies_true, not_true_eq_false, not_false_eq_true, false_and, and_false, ne_eq, ite_true, ite_false, Nat.reduceLeDiff, Nat.reduceEqDiff, Nat.reduceLT, Nat.reduceAdd, Nat.reduceMul, Nat.reduceSub, Nat.le_refl, eq_self, li_0, li_1, li_2, li_3, li_4, li_5, li_6, li_7, li_8, li_9, li_10, li_11, li_12, li_13, li_14, li_15, li_16, li_17, li_18, li_19, li_20, li_21, li_22, li_23, li_24, li_25, li_26, li_27, li_28, li_29, li_30, li_31, li_32, li_44, li_48, li_57, li_59, li_60, li_61, li_62, li_63, li_97, li_100, li_122, li_123, li_125, li_127, li_255, li_400, li_401, li_800, li_1023, li_1024, li_10827, i_add, i_mul, i_sub, i_p1, i_m1, i_nm, i_nm2, i_cl, i_cl0, vi_ok, i_lt, i_le, i_eq, lg_e, c]
          exact q2
        · rw [if_neg c] at q2
          simp (disch := first | assumption | omega) only [true_and, and_true, forall_eq, true_implies, false_implies, implies_true, not_true_eq_false, not_false_eq_true, false_and, and_false, ne_eq, ite_true, ite_false, Nat.reduceLeDiff, Nat.reduceEqDiff, Nat.reduceLT, Nat.reduceAdd, Nat.reduceMul, Nat.reduceSub, Nat.le_refl, eq_self, li_0, li_1, li_2, li_3, li_4, li_5, li_6, li_7, li_8, li_9, li_10, li_11, li_12, li_13, li_14, li_15, li_16, li_17, li_18, li_19, li_20, li_21, li_22, li_23, li_24, li_25, li_26, li_27, li_28, li_29, li_30, li_31, li_32, li_44, li_48, li_57, li_59, li_60, li_61, li_62, li_63, li_97, li_100, li_122, li_123, li_125, li_127, li_255, li_400, li_401, li_800, li_1023, li_1024, li_10827, i_add, i_mul, i_sub, i_p1, i_m1, i_nm, i_nm2, i_cl, i_cl0, vi_ok, i_lt, i_le, i_eq, lg_e, rf_103_4, rf_103_6, rf_103_7, rf_103_8, rf_103_9, rf_103_10, rf_103_21, rf_103_22, rf_103_23, rf_103_26, rf_103_27, rf_103_28, rf_103_29, rf_103_30, rf_103_31, rf_103_32, rf_103_33, rf_103_34, rf_103_35, rf_103_37, rf_103_38, rf_103_39, rf_103_44, rf_103_45, rf_103_46, rf_103_47, rf_103_48, rf_103_49, rf_103_54, rf_103_55, is_103, is_104, sz_104, is_125, sz_125, is_126, sz_126, is_127, sz_127, is_128, sz_128, is_129, sz_129, is_130, sz_130, is_131, sz_131, is_132, sz_132, is_133, sz_133, is_134, sz_134, is_135, sz_135, is_136, sz_136, is_137, sz_137, is_138, sz_138, is_139, sz_139, is_140, sz_140, is_141, sz_141, is_142, sz_142, is_143, sz_143, is_144, sz_144, is_145, sz_145, is_146, sz_146, is_147, sz_147, is_148, sz_148, is_149, sz_149, is_150, sz_150, is_151, sz_151, is_152, sz_152, is_153, sz_153, (s'.2.2.1 ((S a).2.1 - 1) (by omega)).1, show ¬ (S a).2.1 ≤ 0 by omega]
          exact q2
      · have q3 := q3 z
        rw [s'.2.1]
        by_cases c : (S a).2.1 = 0
        · rw [if_pos c] at q3
          simp (disch := first | assumption | omega) only [true_and, and_true, forall_eq, true_implies, false_implies, implies_true, not_true_eq_false, not_false_eq_true, false_and, and_false, ne_eq, ite_true, ite_false, Nat.reduceLeDiff, Nat.reduceEqDiff, Nat.reduceLT, Nat.reduceAdd, Nat.reduceMul, Nat.reduceSub, Nat.le_refl, eq_self, li_0, li_1, li_2, li_3, li_4, li_5, li_6, li_7, li_8, li_9, li_10, li_11, li_12, li_13, li_14, li_15, li_16, li_17, li_18, li_19, li_20, li_21, li_22, li_23, li_24, li_25, li_26, li_27, li_28, li_29, li_30, li_31, li_32, li_44, li_48, li_57, li_59, li_60, li_61, li_62, li_63, li_97, li_100, li_122, li_123, li_125, li_127, li_255, li_400, li_401, li_800, li_1023, li_1024, li_10827, i_add, i_mul, i_sub, i_p1, i_m1, i_nm, i_nm2, i_cl, i_cl0, vi_ok, i_lt, i_le, i_eq, lg_e, c]
          exact q3
        · rw [if_neg c] at q3
          simp (disch := first | assumption | omega) only [true_and, and_true, forall_eq, true_implies, false_implies, implies_true, not_true_eq_false, not_false_eq_true, false_and, and_false, ne_eq, ite_true, ite_false, Nat.reduceLeDiff, Nat.reduceEqDiff, Nat.reduceLT, Nat.reduceAdd, Nat.reduceMul, Nat.reduceSub, Nat.le_refl, eq_self, li_0, li_1, li_2, li_3, li_4, li_5, li_6, li_7, li_8, li_9, li_10, li_11, li_12, li_13, li_14, li_15, li_16, li_17, li_18, li_19, li_20, li_21, li_22, li_23, li_24, li_25, li_26, li_27, li_28, li_29, li_30, li_31, li_32, li_44, li_48, li_57, li_59, li_60, li_61, li_62, li_63, li_97, li_100, li_122, li_123, li_125, li_127, li_255, li_400, li_401, li_800, li_1023, li_1024, li_10827, i_add, i_mul, i_sub, i_p1, i_m1, i_nm, i_nm2, i_cl, i_cl0, vi_ok, i_lt, i_le, i_eq, lg_e, rf_103_4, rf_103_6, rf_103_7, rf_103_8, rf_103_9, rf_103_10, rf_103_21, rf_103_22, rf_103_23, rf_103_26, rf_103_27, rf_103_28, rf_103_29, rf_103_30, rf_103_31, rf_103_32, rf_103_33, rf_103_34, rf_103_35, rf_103_37, rf_103_38, rf_103_39, rf_103_44, rf_103_45, rf_103_46, rf_103_47, rf_103_48, rf_103_49, rf_103_54, rf_103_55, is_103, is_104, sz_104, is_125, sz_125, is_126, sz_126, is_127, sz_127, is_128, sz_128, is_129, sz_129, is_130, sz_130, is_131, sz_131, is_132, sz_132, is_133, sz_133, is_134, sz_134, is_135, sz_135, is_136, sz_136, is_137, sz_137, is_138, sz_138, is_139, sz_139, is_140, sz_140, is_141, sz_141, is_142, sz_142, is_143, sz_143, is_144, sz_144, is_145, sz_145, is_146, sz_146, is_147, sz_147, is_148, sz_148, is_149, sz_149, is_150, sz_150, is_151, sz_151, is_152, sz_152, is_153, sz_153, (s'.2.2.1 ((S a).2.1 - 1) (by omega)).2, show ¬ (S a).2.1 ≤ 0 by omega]
          exact q3
      · have hA' : IA h' X Y := i1.2.1.fr f'.fr (fun c p q => by unfold PS at q; omega)
        simp (disch := first | assumption | omega) only [true_and, and_true, forall_eq, true_implies, false_implies, implies_true, not_true_eq_false, not_false_eq_true, false_and, and_false, ne_eq, ite_true, ite_false, Nat.reduceLeDiff, Nat.reduceEqDiff, Nat.reduceLT, Nat.reduceAdd, Nat.reduceMul, Nat.reduceSub, Nat.le_refl, eq_self, li_0, li_1, li_2, li_3, li_4, li_5, li_6, li_7, li_8, li_9, li_10, li_11, li_12, li_13, li_14, li_15, li_16, li_17, li_18, li_19, li_20, li_21, li_22, li_23, li_24, li_25, li_26, li_27, li_28, li_29, li_30, li_31, li_32, li_44, li_48, li_57, li_59, li_60, li_61, li_62, li_63, li_97, li_100, li_122, li_123, li_125, li_127, li_255, li_400, li_401, li_800, li_1023, li_1024, li_10827, i_add, i_mul, i_sub, i_p1, i_m1, i_nm, i_nm2, i_cl, i_cl0, vi_ok, i_lt, i_le, i_eq, lg_e, rf_103_4, rf_103_6, rf_103_7, rf_103_8, rf_103_9, rf_103_10, rf_103_21, rf_103_22, rf_103_23, rf_103_26, rf_103_27, rf_103_28, rf_103_29, rf_103_30, rf_103_31, rf_103_32, rf_103_33, rf_103_34, rf_103_35, rf_103_37, rf_103_38, rf_103_39, rf_103_44, rf_103_45, rf_103_46, rf_103_47, rf_103_48, rf_103_49, rf_103_54, rf_103_55, is_103, is_104, sz_104, is_125, sz_125, is_126, sz_126, is_127, sz_127, is_128, sz_128, is_129, sz_129, is_130, sz_130, is_131, sz_131, is_132, sz_132, is_133, sz_133, is_134, sz_134, is_135, sz_135, is_136, sz_136, is_137, sz_137, is_138, sz_138, is_139, sz_139, is_140, sz_140, is_141, sz_141, is_142, sz_142, is_143, sz_143, is_144, sz_144, is_145, sz_145, is_146, sz_146, is_147, sz_147, is_148, sz_148, is_149, sz_149, is_150, sz_150, is_151, sz_151, is_152, sz_152, is_153, sz_153, hA'.y ha, isB_x hy]
        exact k_X12_possible r' hy t5 s' t2 (f'.repB hy u4) (k_X12_bits (q4 z))
    have fin : ∀ h', Fr SCR h h' → Refs h' → Inv h' := fun h' f' r' => ⟨X, Y, D, S, t, inv_fr hI f' r'⟩
    refine ⟨fun _ => ?_, fun z => absurd z (by decide)⟩
    simp (disch := first | assumption | omega) only [true_and, and_true, forall_eq, true_implies, false_implies, implies_true, not_true_eq_false, not_false_eq_true, false_and, and_false, ne_eq, ite_true, ite_false, Nat.reduceLeDiff, Nat.reduceEqDiff, Nat.reduceLT, Nat.reduceAdd, Nat.reduceMul, Nat.reduceSub, Nat.le_refl, eq_self, li_0, li_1, li_2, li_3, li_4, li_5, li_6, li_7, li_8, li_9, li_10, li_11, li_12, li_13, li_14, li_15, li_16, li_17, li_18, li_19, li_20, li_21, li_22, li_23, li_24, li_25, li_26, li_27, li_28, li_29, li_30, li_31, li_32, li_44, li_48, li_57, li_59, li_60, li_61, li_62, li_63, li_97, li_100, li_122, li_123, li_125, li_127, li_255, li_400, li_401, li_800, li_1023, li_1024, li_10827, i_add, i_mul, i_sub, i_p1, i_m1, i_nm, i_nm2, i_cl, i_cl0, vi_ok, i_lt, i_le, i_eq, lg_e, rf_1_0, rf_1_2, rf_1_4, rf_1_5, rf_1_6, rf_1_7, rf_1_8, rf_1_10, is_1, is_2, sz_2, is_3, sz_3, is_67, sz_67, is_73, sz_73, is_74, sz_74, is_93, sz_93, is_101, sz_101, is_102, sz_102, hA.x ha, isA_x hx, t6]
    refine ⟨fun z => ?_, fun z0 => ⟨fun z => ?_, fun z1 => ⟨fun z => ?_, fun z2 => ⟨fun z => ?_, fun z3 => ⟨fun z => ?_, fun z4 => ?_⟩⟩⟩⟩⟩
    · refine q_X3_faultOf t5 (model _ (fun h' f' s' r' => ?_))
      subst z
      exact ⟨fun _ => ⟨rfl, fin h' f' r'⟩, fun q => absurd q (by decide), fun q => absurd q (by decide), fun q => absurd q (by decide), fun q => absurd q (by decide), fun q => absurd rfl q⟩
    · refine q_X3_openOf t5 (model _ (fun h' f' s' r' => ?_))
      subst z
      exact ⟨fun q => absurd q (by decide), fun _ => ⟨rfl, fin h' f' r'⟩, fun q => absurd q (by decide), fun q => absurd q (by decide), fun q => absurd q (by decide), fun _ q => absurd rfl q⟩
    · refine q_X3_topOf t5 (model _ (fun h' f' s' r' => ?_))
      subst z
      exact ⟨fun q => absurd q (by decide), fun q => absurd q (by decide), fun _ => ⟨rfl, fin h' f' r'⟩, fun q => absurd q (by decide), fun q => absurd q (by decide), fun _ _ q => absurd rfl q⟩
    · refine q_X3_ticksOf t5 (model _ (fun h' f' s' r' => ?_))
      subst z
      exact ⟨fun q => absurd q (by decide), fun q => absurd q (by decide), fun q => absurd q (by decide), fun _ => ⟨rfl, fin h' f' r'⟩, fun q => absurd q (by decide), fun _ _ _ q => absurd rfl q⟩
    · refine k_X0_possibleMany hr hx t2 t3 t5 (model _ (fun h' f' s' r' => ?_))
      subst z
      exact ⟨fun q => absurd q (by decide), fun q => absurd q (by decide), fun q => absurd q (by decide), fun q => absurd q (by decide), fun _ => ⟨rfl, fin h' f' r'⟩, fun _ _ _ _ q => absurd rfl q⟩
    · refine model _ (fun h' f' s' r' => ?_)
      exact ⟨fun q => absurd q z0, fun q => absurd q z1, fun q => absurd q z2, fun q => absurd q z3, fun q => absurd q z4, fun _ _ _ _ _ => ⟨rfl, fin h' f' r'⟩⟩
  · refine c_X9_state (s_X9_state_0 ⟨is_1, q_has_n hI.c hT ⟨fun z => absurd rfl z, fun _ => ?_⟩⟩)
    refine c_X12_state (s_X12_state_0 ⟨is_103, ?_⟩)
    intro h2 e2
    obtain ⟨i1, f1, e0⟩ := mIn hI e2
    clear e2
    exact q_isApp_n i1 hT ⟨fun z => absurd rfl z, fun _ => ⟨rfl, e0⟩⟩
theorem ob_var {l : Launch} {g : AG} (h : AH) (a1 a2 : Int32) (hI : Inv h) : C_X9_var l g h 1 a1 a2 (fun r h1 => C_X12_var l g h1 103 a1 a2 (fun r2 h2 => r2 = r ∧ Inv h2)) := by
  obtain ⟨X, Y, D, S, t, hI⟩ := hI
  by_cases hT : Tel t a1
  · obtain ⟨a, ha, rfl, ht⟩ := hT
    have hr := hI.1
    have hA := hI.2.1
    obtain ⟨t1, t2, t3, t4, t5, t6, t7, t8⟩ := (hI.2.2.1 a ha).1 ht
    have hx := hA.isx ha
    have hy := hA.isy ha
    have h6 := t2.1.2.2.2
    refine c_X9_var (s_X9_var_0 ⟨is_1, q_has_y hI.c ha ht ⟨fun z => absurd z (by decide), fun _ => ?_⟩⟩)
    rcases i_split a2 with c | ⟨v, hv, rfl⟩
    · refine ⟨fun _ => ?_, fun q => absurd c q⟩
      refine c_X12_var (s_X12_var_0 ⟨is_103, ?_⟩)
      intro h2 e2
      obtain ⟨i1, f1, e0⟩ := mIn hI e2
      clear e2
      exact q_isApp_y i1 ha ht ⟨fun z => absurd z (by decide), fun _ => ⟨fun _ => ⟨rfl, e0⟩, fun q => absurd c q⟩⟩
    · simp (disch := first | assumption | omega) only [true_and, and_true, forall_eq, true_implies, false_implies, implies_true, not_true_eq_false, not_false_eq_true, false_and, and_false, ne_eq, ite_true, ite_false, Nat.reduceLeDiff, Nat.reduceEqDiff, Nat.reduceLT, Nat.reduceAdd, Nat.reduceMul, Nat.reduceSub, Nat.le_refl, eq_self, li_0, li_1, li_2, li_3, li_4, li_5, li_6, li_7, li_8, li_9, li_10, li_11, li_12, li_13, li_14, li_15, li_16, li_17, li_18, li_19, li_20, li_21, li_22, li_23, li_24, li_25, li_26, li_27, li_28, li_29, li_30, li_31, li_32, li_44, li_48, li_57, li_59, li_60, li_61, li_62, li_63, li_97, li_100, li_122, li_123, li_125, li_127, li_255, li_400, li_401, li_800, li_1023, li_1024, li_10827, i_add, i_mul, i_sub, i_p1, i_m1, i_nm, i_nm2, i_cl, i_cl0, vi_ok, i_lt, i_le, i_eq, lg_e, rf_1_0, rf_1_2, rf_1_4, rf_1_5, rf_1_6, rf_1_7, rf_1_8, rf_1_10, is_1, is_2, sz_2, is_3, sz_3, is_67, sz_67, is_73, sz_73, is_74, sz_74, is_93, sz_93, is_101, sz_101, is_102, sz_102, hA.x ha, isA_x hx, t6, t3.1.2.2.1, show ¬ v < 0 by omega]
      refine ⟨fun z => ?_, fun z => ?_⟩
      · have he := en_lt t5
        refine k_X3_valueOf (by omega) (by omega) ?_
        rw [en_val t5 (by omega)]
        refine c_X12_var (s_X12_var_0 ⟨is_103, ?_⟩)
        intro h2 e2
        obtain ⟨i1, f1, e0⟩ := mIn hI e2
        clear e2
        have hr1 := i1.1
        have hA1 := i1.2.1
        obtain ⟨u1, u2, u3, u4, u5, u6, u7, u8⟩ := (i1.2.2.1 a ha).1 ht
        refine q_isApp_y i1 ha ht ⟨fun z => absurd z (by decide), fun _ => ?_⟩
        simp (disch := first | assumption | omega) only [true_and, and_true, forall_eq, true_implies, false_implies, implies_true, not_true_eq_false, not_false_eq_true, false_and, and_false, ne_eq, ite_true, ite_false, Nat.reduceLeDiff, Nat.reduceEqDiff, Nat.reduceLT, Nat.reduceAdd, Nat.reduceMul, Nat.reduceSub, Nat.le_refl, eq_self, li_0, li_1, li_2, li_3, li_4, li_5, li_6, li_7, li_8, li_9, li_10, li_11, li_12, li_13, li_14, li_15, li_16, li_17, li_18, li_19, li_20, li_21, li_22, li_23, li_24, li_25, li_26, li_27, li_28, li_29, li_30, li_31, li_32, li_44, li_48, li_57, li_59, li_60, li_61, li_62, li_63, li_97, li_100, li_122, li_123, li_125, li_127, li_255, li_400, li_401, li_800, li_1023, li_1024, li_10827, i_add, i_mul, i_sub, i_p1, i_m1, i_nm, i_nm2, i_cl, i_cl0, vi_ok, i_lt, i_le, i_eq, lg_e, rf_103_4, rf_103_6, rf_103_7, rf_103_8, rf_103_9, rf_103_10, rf_103_21, rf_103_22, rf_103_23, rf_103_26, rf_103_27, rf_103_28, rf_103_29, rf_103_30, rf_103_31, rf_103_32, rf_103_33, rf_103_34, rf_103_35, rf_103_37, rf_103_38, rf_103_39, rf_103_44, rf_103_45, rf_103_46, rf_103_47, rf_103_48, rf_103_49, rf_103_54, rf_103_55, is_103, is_104, sz_104, is_125, sz_125, is_126, sz_126, is_127, sz_127, is_128, sz_128, is_129, sz_129, is_130, sz_130, is_131, sz_131, is_132, sz_132, is_133, sz_133, is_134, sz_134, is_135, sz_135, is_136, sz_136, is_137, sz_137, is_138, sz_138, is_139, sz_139, is_140, sz_140, is_141, sz_141, is_142, sz_142, is_143, sz_143, is_144, sz_144, is_145, sz_145, is_146, sz_146, is_147, sz_147, is_148, sz_148, is_149, sz_149, is_150, sz_150, is_151, sz_151, is_152, sz_152, is_153, sz_153, hA1.y ha, isB_x hy, u7, u8, u4.1.2.2, show ¬ v < 0 by omega, z]
        refine k_X12_unpack hr1 u5 (fun h' f' s' => ?_)
        have r' := f'.refs hr1
        simp (disch := first | assumption | omega) only [true_and, and_true, forall_eq, true_implies, false_implies, implies_true, not_true_eq_false, not_false_eq_true, false_and, and_false, ne_eq, ite_true, ite_false, Nat.reduceLeDiff, Nat.reduceEqDiff, Nat.reduceLT, Nat.reduceAdd, Nat.reduceMul, Nat.reduceSub, Nat.le_refl, eq_self, li_0, li_1, li_2, li_3, li_4, li_5, li_6, li_7, li_8, li_9, li_10, li_11, li_12, li_13, li_14, li_15, li_16, li_17, li_18, li_19, li_20, li_21, li_22, li_23, li_24, li_25, li_26, li_27, li_28, li_29, li_30, li_31, li_32, li_44, li_48, li_57, li_59, li_60, li_61, li_62, li_63, li_97, li_100, li_122, li_123, li_125, li_127, li_255, li_400, li_401, li_800, li_1023, li_1024, li_10827, i_add, i_mul, i_sub, i_p1, i_m1, i_nm, i_nm2, i_cl, i_cl0, vi_ok, i_lt, i_le, i_eq, lg_e, rf_103_4, rf_103_6, rf_103_7, rf_103_8, rf_103_9, rf_103_10, rf_103_21, rf_103_22, rf_103_23, rf_103_26, rf_103_27, rf_103_28, rf_103_29, rf_103_30, rf_103_31, rf_103_32, rf_103_33, rf_103_34, rf_103_35, rf_103_37, rf_103_38, rf_103_39, rf_103_44, rf_103_45, rf_103_46, rf_103_47, rf_103_48, rf_103_49, rf_103_54, rf_103_55, is_103, is_104, sz_104, is_125, sz_125, is_126, sz_126, is_127, sz_127, is_128, sz_128, is_129, sz_129, is_130, sz_130, is_131, sz_131, is_132, sz_132, is_133, sz_133, is_134, sz_134, is_135, sz_135, is_136, sz_136, is_137, sz_137, is_138, sz_138, is_139, sz_139, is_140, sz_140, is_141, sz_141, is_142, sz_142, is_143, sz_143, is_144, sz_144, is_145, sz_145, is_146, sz_146, is_147, sz_147, is_148, sz_148, is_149, sz_149, is_150, sz_150, is_151, sz_151, is_152, sz_152, is_153, sz_153, s'.2.2.2 v (by omega)]
        exact ⟨X, Y, D, S, t, inv_fr hI (f1.trans f'.scr) r'⟩
      · refine c_X12_var (s_X12_var_0 ⟨is_103, ?_⟩)
        intro h2 e2
        obtain ⟨i1, f1, e0⟩ := mIn hI e2
        clear e2
        have hr1 := i1.1
        have hA1 := i1.2.1
        obtain ⟨u1, u2, u3, u4, u5, u6, u7, u8⟩ := (i1.2.2.1 a ha).1 ht
        refine q_isApp_y i1 ha ht ⟨fun z => absurd z (by decide), fun _ => ?_⟩
        simp (disch := first | assumption | omega) only [true_and, and_true, forall_eq, true_implies, false_implies, implies_true, not_true_eq_false, not_false_eq_true, false_and, and_false, ne_eq, ite_true, ite_false, Nat.reduceLeDiff, Nat.reduceEqDiff, Nat.reduceLT, Nat.reduceAdd, Nat.reduceMul, Nat.reduceSub, Nat.le_refl, eq_self, li_0, li_1, li_2, li_3, li_4, li_5, li_6, li_7, li_8, li_9, li_10, li_11, li_12, li_13, li_14, li_15, li_16, li_17, li_18, li_19, li_20, li_21, li_22, li_23, li_24, li_25, li_26, li_27, li_28, li_29, li_30, li_31, li_32, li_44, li_48, li_57, li_59, li_60, li_61, li_62, li_63, li_97, li_100, li_122, li_123, li_125, li_127, li_255, li_400, li_401, li_800, li_1023, li_1024, li_10827, i_add, i_mul, i_sub, i_p1, i_m1, i_nm, i_nm2, i_cl, i_cl0, vi_ok, i_lt, i_le, i_eq, lg_e, rf_103_4, rf_103_6, rf_103_7, rf_103_8, rf_103_9, rf_103_10, rf_103_21, rf_103_22, rf_103_23, rf_103_26, rf_103_27, rf_103_28, rf_103_29, rf_103_30, rf_103_31, rf_103_32, rf_103_33, rf_103_34, rf_103_35, rf_103_37, rf_103_38, rf_103_39, rf_103_44, rf_103_45, rf_103_46, rf_103_47, rf_103_48, rf_103_49, rf_103_54, rf_103_55, is_103, is_104, sz_104, is_125, sz_125, is_126, sz_126, is_127, sz_127, is_128, sz_128, is_129, sz_129, is_130, sz_130, is_131, sz_131, is_132, sz_132, is_133, sz_133, is_134, sz_134, is_135, sz_135, is_136, sz_136, is_137, sz_137, is_138, sz_138, is_139, sz_139, is_140, sz_140, is_141, sz_141, is_142, sz_142, is_143, sz_143, is_144, sz_144, is_145, sz_145, is_146, sz_146, is_147, sz_147, is_148, sz_148, is_149, sz_149, is_150, sz_150, is_151, sz_151, is_152, sz_152, is_153, sz_153, hA1.y ha, isB_x hy, u4.1.2.2, show ¬ v < 0 by omega, z]
        exact e0
  · refine c_X9_var (s_X9_var_0 ⟨is_1, q_has_n hI.c hT ⟨fun _ => ?_, fun z => absurd rfl z⟩⟩)
    refine c_X12_var (s_X12_var_0 ⟨is_103, ?_⟩)
    intro h2 e2
    obtain ⟨i1, f1, e0⟩ := mIn hI e2
    clear e2
    exact q_isApp_n i1 hT ⟨fun _ => ⟨rfl, e0⟩, fun z => absurd rfl z⟩
theorem ob_can {l : Launch} {g : AG} (h : AH) (a1 a2 : Int32) (hI : Inv h) : C_X9_can l g h 1 a1 a2 (fun r h1 => C_X12_can l g h1 103 a1 a2 (fun r2 h2 => r2 = r ∧ Inv h2)) := by
  obtain ⟨X, Y, D, S, t, hI⟩ := hI
  by_cases hT : Tel t a1
  · obtain ⟨a, ha, rfl, ht⟩ := hT
    have hr := hI.1
    have hA := hI.2.1
    obtain ⟨t1, t2, t3, t4, t5, t6, t7, t8⟩ := (hI.2.2.1 a ha).1 ht
    have hx := hA.isx ha
    have hy := hA.isy ha
    refine c_X9_can (s_X9_can_0 ⟨is_1, q_has_y hI.c ha ht ⟨fun z => absurd z (by decide), fun _ => ?_⟩⟩)
    rcases i_act a2 with ⟨b, hb, rfl⟩ | ⟨c1, c2⟩
    · have model : ∀ r : Nat, r = bI (possD (D a) (S a) b) → C_X12_can l g h 103 (Int32.ofNat a) (Int32.ofNat b) (fun r2 h2 => r2 = Int32.ofNat r ∧ Inv h2) := by
        intro r er
        refine c_X12_can (s_X12_can_0 ⟨is_103, ?_⟩)
        intro h2 e2
        obtain ⟨i1, f1, e0⟩ := mIn hI e2
        clear e2
        have hr1 := i1.1
        have hA1 := i1.2.1
        obtain ⟨u1, u2, u3, u4, u5, u6, u7, u8⟩ := (i1.2.2.1 a ha).1 ht
        refine q_isApp_y i1 ha ht ⟨fun z => absurd z (by decide), fun _ => k_isAct_y hb ⟨fun _ => ?_, fun z => absurd z (by decide)⟩⟩
        simp (disch := first | assumption | omega) only [true_and, and_true, forall_eq, true_implies, false_implies, implies_true, not_true_eq_false, not_false_eq_true, false_and, and_false, ne_eq, ite_true, ite_false, Nat.reduceLeDiff, Nat.reduceEqDiff, Nat.reduceLT, Nat.reduceAdd, Nat.reduceMul, Nat.reduceSub, Nat.le_refl, eq_self, li_0, li_1, li_2, li_3, li_4, li_5, li_6, li_7, li_8, li_9, li_10, li_11, li_12, li_13, li_14, li_15, li_16, li_17, li_18, li_19, li_20, li_21, li_22, li_23, li_24, li_25, li_26, li_27, li_28, li_29, li_30, li_31, li_32, li_44, li_48, li_57, li_59, li_60, li_61, li_62, li_63, li_97, li_100, li_122, li_123, li_125, li_127, li_255, li_400, li_401, li_800, li_1023, li_1024, li_10827, i_add, i_mul, i_sub, i_p1, i_m1, i_nm, i_nm2, i_cl, i_cl0, vi_ok, i_lt, i_le, i_eq, lg_e, rf_103_4, rf_103_6, rf_103_7, rf_103_8, rf_103_9, rf_103_10, rf_103_21, rf_103_22, rf_103_23, rf_103_26, rf_103_27, rf_103_28, rf_103_29, rf_103_30, rf_103_31, rf_103_32, rf_103_33, rf_103_34, rf_103_35, rf_103_37, rf_103_38, rf_103_39, rf_103_44, rf_103_45, rf_103_46, rf_103_47, rf_103_48, rf_103_49, rf_103_54, rf_103_55, is_103, is_104, sz_104, is_125, sz_125, is_126, sz_126, is_127, sz_127, is_128, sz_128, is_129, sz_129, is_130, sz_130, is_131, sz_131, is_132, sz_132, is_133, sz_133, is_134, sz_134, is_135, sz_135, is_136, sz_136, is_137, sz_137, is_138, sz_138, is_139, sz_139, is_140, sz_140, is_141, sz_141, is_142, sz_142, is_143, sz_143, is_144, sz_144, is_145, sz_145, is_146, sz_146, is_147, sz_147, is_148, sz_148, is_149, sz_149, is_150, sz_150, is_151, sz_151, is_152, sz_152, is_153, sz_153, u7, u8]
        refine k_X12_unpack hr1 u5 (fun h' f' s' => ?_)
        have r' := f'.refs hr1
        have hA' : IA h' X Y := hA1.fr f'.fr (fun c p q => by unfold PS at q; omega)
        simp (disch := first | assumption | omega) only [true_and, and_true, forall_eq, true_implies, false_implies, implies_true, not_true_eq_false, not_false_eq_true, false_and, and_false, ne_eq, ite_true, ite_false, Nat.reduceLeDiff, Nat.reduceEqDiff, Nat.reduceLT, Nat.reduceAdd, Nat.reduceMul, Nat.reduceSub, Nat.le_refl, eq_self, li_0, li_1, li_2, li_3, li_4, li_5, li_6, li_7, li_8, li_9, li_10, li_11, li_12, li_13, li_14, li_15, li_16, li_17, li_18, li_19, li_20, li_21, li_22, li_23, li_24, li_25, li_26, li_27, li_28, li_29, li_30, li_31, li_32, li_44, li_48, li_57, li_59, li_60, li_61, li_62, li_63, li_97, li_100, li_122, li_123, li_125, li_127, li_255, li_400, li_401, li_800, li_1023, li_1024, li_10827, i_add, i_mul, i_sub, i_p1, i_m1, i_nm, i_nm2, i_cl, i_cl0, vi_ok, i_lt, i_le, i_eq, lg_e, rf_103_4, rf_103_6, rf_103_7, rf_103_8, rf_103_9, rf_103_10, rf_103_21, rf_103_22, rf_103_23, rf_103_26, rf_103_27, rf_103_28, rf_103_29, rf_103_30, rf_103_31, rf_103_32, rf_103_33, rf_103_34, rf_103_35, rf_103_37, rf_103_38, rf_103_39, rf_103_44, rf_103_45, rf_103_46, rf_103_47, rf_103_48, rf_103_49, rf_103_54, rf_103_55, is_103, is_104, sz_104, is_125, sz_125, is_126, sz_126, is_127, sz_127, is_128, sz_128, is_129, sz_129, is_130, sz_130, is_131, sz_131, is_132, sz_132, is_133, sz_133, is_134, sz_134, is_135, sz_135, is_136, sz_136, is_137, sz_137, is_138, sz_138, is_139, sz_139, is_140, sz_140, is_141, sz_141, is_142, sz_142, is_143, sz_143, is_144, sz_144, is_145, sz_145, is_146, sz_146, is_147, sz_147, is_148, sz_148, is_149, sz_149, is_150, sz_150, is_151, sz_151, is_152, sz_152, is_153, sz_153, hA'.y ha, isB_x hy]
        refine k_X12_possible r' hy t5 s' t2 (f'.repB hy u4) ?_
        rw [i_bit hb, er]
        exact ⟨rfl, X, Y, D, S, t, inv_fr hI (f1.trans f'.scr) r'⟩
      simp (disch := first | assumption | omega) only [true_and, and_true, forall_eq, true_implies, false_implies, implies_true, not_true_eq_false, not_false_eq_true, false_and, and_false, ne_eq, ite_true, ite_false, Nat.reduceLeDiff, Nat.reduceEqDiff, Nat.reduceLT, Nat.reduceAdd, Nat.reduceMul, Nat.reduceSub, Nat.le_refl, eq_self, li_0, li_1, li_2, li_3, li_4, li_5, li_6, li_7, li_8, li_9, li_10, li_11, li_12, li_13, li_14, li_15, li_16, li_17, li_18, li_19, li_20, li_21, li_22, li_23, li_24, li_25, li_26, li_27, li_28, li_29, li_30, li_31, li_32, li_44, li_48, li_57, li_59, li_60, li_61, li_62, li_63, li_97, li_100, li_122, li_123, li_125, li_127, li_255, li_400, li_401, li_800, li_1023, li_1024, li_10827, i_add, i_mul, i_sub, i_p1, i_m1, i_nm, i_nm2, i_cl, i_cl0, vi_ok, i_lt, i_le, i_eq, lg_e, rf_1_0, rf_1_2, rf_1_4, rf_1_5, rf_1_6, rf_1_7, rf_1_8, rf_1_10, is_1, is_2, sz_2, is_3, sz_3, is_67, sz_67, is_73, sz_73, is_74, sz_74, is_93, sz_93, is_101, sz_101, is_102, sz_102, hA.x ha, isA_x hx, t6, show ¬ b < 0 by omega, hb]
      refine k_X0_possible hr hx t5 t2.1 t2.2.1 t3.2.1 t3.2.2.2.2.1 (by omega) (fun p => ?_) (fun p => ?_)
      · exact ⟨fun z => absurd z (by decide), fun _ => model 1 (by rw [bI_t p])⟩
      · exact ⟨fun _ => model 0 (by rw [bI_f p]), fun z => absurd rfl z⟩
    · have model : C_X12_can l g h 103 (Int32.ofNat a) a2 (fun r2 h2 => r2 = -1 ∧ Inv h2) := by
        refine c_X12_can (s_X12_can_0 ⟨is_103, ?_⟩)
        intro h2 e2
        obtain ⟨i1, f1, e0⟩ := mIn hI e2
        clear e2
        exact q_isApp_y i1 ha ht ⟨fun z => absurd z (by decide), fun _ => k_isAct_n c2 ⟨fun z => absurd rfl z, fun _ => ⟨rfl, e0⟩⟩⟩
      refine ⟨fun _ => model, fun z => ⟨fun z2 => ?_, fun _ => model⟩⟩
      rcases c1 with c1 | c1
      · exact absurd c1 z
      · exact absurd z2 c1
  · refine c_X9_can (s_X9_can_0 ⟨is_1, q_has_n hI.c hT ⟨fun _ => ?_, fun z => absurd rfl z⟩⟩)
    refine c_X12_can (s_X12_can_0 ⟨is_103, ?_⟩)
    intro h2 e2
    obtain ⟨i1, f1, e0⟩ := mIn hI e2
    clear e2
    exact q_isApp_n i1 hT ⟨fun _ => ⟨rfl, e0⟩, fun z => absurd rfl z⟩
