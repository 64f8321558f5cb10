theorem ob_begin {l : Launch} {g : AG} (h : AH) (a1 : Int32) (hI : Inv h) : C_X9_begin l g h 1 a1 (fun r h1 => C_X12_begin l g h1 103 a1 (fun r2 h2 => r2 = r ∧ Inv h2)) := by
  obtain ⟨X, Y, D, S, t, hI⟩ := hI
  have fk : ∀ k, Fr PQ h (ax_setI h 1 12 k) := fun k => (Fr.refl PQ h).setI PQ_112
  by_cases hT : Tel t a1
  · obtain ⟨a, ha, rfl, ht⟩ := hT
    have hr := hI.1
    have hA := hI.2.1
    obtain ⟨t1, t2, t3, t4, t5, t6, t7, t8⟩ := (hI.2.2.1 a ha).1 ht
    have hx := hA.isx ha
    have hy := hA.isy ha
    have wS : WS (D a 0 0) st0 := WS.zero t2.1.1 t2.1.2.1
    refine c_X9_begin (s_X9_begin_0 ⟨is_1, q_has_y hI.c ha ht ⟨fun _ => ?_, fun z => absurd z (by decide)⟩⟩)
    simp (disch := first | assumption | omega) only [true_and, and_true, forall_eq, true_implies, false_implies, implies_true, not_true_eq_false, not_false_eq_true, false_and, and_false, ne_eq, ite_true, ite_false, Nat.reduceLeDiff, Nat.reduceEqDiff, Nat.reduceLT, Nat.reduceAdd, Nat.reduceMul, Nat.reduceSub, Nat.le_refl, eq_self, li_0, li_1, li_2, li_3, li_4, li_5, li_6, li_7, li_8, li_9, li_10, li_11, li_12, li_13, li_14, li_15, li_16, li_17, li_18, li_19, li_20, li_21, li_22, li_23, li_24, li_25, li_26, li_27, li_28, li_29, li_30, li_31, li_32, li_44, li_48, li_57, li_59, li_60, li_61, li_62, li_63, li_97, li_100, li_122, li_123, li_125, li_127, li_255, li_400, li_401, li_800, li_1023, li_1024, li_10827, i_add, i_mul, i_sub, i_p1, i_m1, i_nm, i_nm2, i_cl, i_cl0, vi_ok, i_lt, i_le, i_eq, lg_e, rf_1_0, rf_1_2, rf_1_4, rf_1_5, rf_1_6, rf_1_7, rf_1_8, rf_1_10, is_1, is_2, sz_2, is_3, sz_3, is_67, sz_67, is_73, sz_73, is_74, sz_74, is_93, sz_93, is_101, sz_101, is_102, sz_102, hA.x ha, isA_x hx]
    refine k_X0_beginning ?_
    (try simp (disch := first | assumption | omega) only [true_and, and_true, forall_eq, true_implies, false_implies, implies_true, not_true_eq_false, not_false_eq_true, false_and, and_false, ne_eq, ite_true, ite_false, Nat.reduceLeDiff, Nat.reduceEqDiff, Nat.reduceLT, Nat.reduceAdd, Nat.reduceMul, Nat.reduceSub, Nat.le_refl, eq_self, li_0, li_1, li_2, li_3, li_4, li_5, li_6, li_7, li_8, li_9, li_10, li_11, li_12, li_13, li_14, li_15, li_16, li_17, li_18, li_19, li_20, li_21, li_22, li_23, li_24, li_25, li_26, li_27, li_28, li_29, li_30, li_31, li_32, li_44, li_48, li_57, li_59, li_60, li_61, li_62, li_63, li_97, li_100, li_122, li_123, li_125, li_127, li_255, li_400, li_401, li_800, li_1023, li_1024, li_10827, i_add, i_mul, i_sub, i_p1, i_m1, i_nm, i_nm2, i_cl, i_cl0, vi_ok, i_lt, i_le, i_eq, lg_e])
    have fa : Fr (PC a) h (ax_setI (ax_setL h 73 a (Int64.ofNat (en st0))) 1 12 (Int32.ofNat 0)) := ((Fr.refl (PC a) h).setL (Or.inr ⟨rfl, rfl⟩)).setI (Or.inl PQ_112)
    have v73 : (ax_setI (ax_setL h 73 a (Int64.ofNat (en st0))) 1 12 (Int32.ofNat 0)).2.1 73 a = Int64.ofNat (en st0) := by simp (disch := first | assumption | omega) only [true_and, and_true, forall_eq, true_implies, false_implies, implies_true, not_true_eq_false, not_false_eq_true, false_and, and_false, ne_eq, ite_true, ite_false, Nat.reduceLeDiff, Nat.reduceEqDiff, Nat.reduceLT, Nat.reduceAdd, Nat.reduceMul, Nat.reduceSub, Nat.le_refl, eq_self, li_0, li_1, li_2, li_3, li_4, li_5, li_6, li_7, li_8, li_9, li_10, li_11, li_12, li_13, li_14, li_15, li_16, li_17, li_18, li_19, li_20, li_21, li_22, li_23, li_24, li_25, li_26, li_27, li_28, li_29, li_30, li_31, li_32, li_44, li_48, li_57, li_59, li_60, li_61, li_62, li_63, li_97, li_100, li_122, li_123, li_125, li_127, li_255, li_400, li_401, li_800, li_1023, li_1024, li_10827, i_add, i_mul, i_sub, i_p1, i_m1, i_nm, i_nm2, i_cl, i_cl0, vi_ok, i_lt, i_le, i_eq, lg_e, gI_s, gI_c, gI_p, gI_L, gI_R, gL_s, gL_c, gL_p, gL_I, gL_R, gR_s, gR_c, gR_p, gR_I, gR_L]
    have v112 : (ax_setI (ax_setL h 73 a (Int64.ofNat (en st0))) 1 12 (Int32.ofNat 0)).1 1 12 = 0 := by simp (disch := first | assumption | omega) only [true_and, and_true, forall_eq, true_implies, false_implies, implies_true, not_true_eq_false, not_false_eq_true, false_and, and_false, ne_eq, ite_true, ite_false, Nat.reduceLeDiff, Nat.reduceEqDiff, Nat.reduceLT, Nat.reduceAdd, Nat.reduceMul, Nat.reduceSub, Nat.le_refl, eq_self, li_0, li_1, li_2, li_3, li_4, li_5, li_6, li_7, li_8, li_9, li_10, li_11, li_12, li_13, li_14, li_15, li_16, li_17, li_18, li_19, li_20, li_21, li_22, li_23, li_24, li_25, li_26, li_27, li_28, li_29, li_30, li_31, li_32, li_44, li_48, li_57, li_59, li_60, li_61, li_62, li_63, li_97, li_100, li_122, li_123, li_125, li_127, li_255, li_400, li_401, li_800, li_1023, li_1024, li_10827, i_add, i_mul, i_sub, i_p1, i_m1, i_nm, i_nm2, i_cl, i_cl0, vi_ok, i_lt, i_le, i_eq, lg_e, gI_s, gI_c, gI_p, gI_L, gI_R, gL_s, gL_c, gL_p, gL_I, gL_R, gR_s, gR_c, gR_p, gR_I, gR_L]
    have ra : Refs (ax_setI (ax_setL h 73 a (Int64.ofNat (en st0))) 1 12 (Int32.ofNat 0)) := hr.setL.setI
    revert fa v73 v112 ra
    generalize ax_setI (ax_setL h 73 a (Int64.ofNat (en st0))) 1 12 (Int32.ofNat 0) = h1
    intro fa v73 v112 ra
    refine c_X12_begin (s_X12_begin_0 ⟨is_103, ?_⟩)
    intro h2 e2
    have f2 : Fr (PC a) h h2 := by rw [e2]; exact fa.setI (Or.inl PQ_1030)
    have r2 : Refs h2 := by rw [e2]; exact ra.setI
    have w73 : h2.2.1 73 a = Int64.ofNat (en st0) := by rw [e2]; exact v73
    have w112 : h2.1 1 12 = 0 := by rw [e2, gI_c (by omega)]; exact v112
    clear e2
    refine k_isApp1 r2 ha (by rw [(f2 125 a (fun q => by unfold PC PQ SCR at q; omega)).1]; exact t1) ⟨fun z => absurd z (by decide), fun _ => ?_⟩
    refine s_X12_begin_19 ?_
    simp (disch := first | assumption | omega) only [true_and, and_true, forall_eq, true_implies, false_implies, implies_true, not_true_eq_false, not_false_eq_true, false_and, and_false, ne_eq, ite_true, ite_false, Nat.reduceLeDiff, Nat.reduceEqDiff, Nat.reduceLT, Nat.reduceAdd, Nat.reduceMul, Nat.reduceSub, Nat.le_refl, eq_self, li_0, li_1, li_2, li_3, li_4, li_5, li_6, li_7, li_8, li_9, li_10, li_11, li_12, li_13, li_14, li_15, li_16, li_17, li_18, li_19, li_20, li_21, li_22, li_23, li_24, li_25, li_26, li_27, li_28, li_29, li_30, li_31, li_32, li_44, li_48, li_57, li_59, li_60, li_61, li_62, li_63, li_97, li_100, li_122, li_123, li_125, li_127, li_255, li_400, li_401, li_800, li_1023, li_1024, li_10827, i_add, i_mul, i_sub, i_p1, i_m1, i_nm, i_nm2, i_cl, i_cl0, vi_ok, i_lt, i_le, i_eq, lg_e, is_103, gI_s, gI_c, gI_p, gI_L, gI_R, gL_s, gL_c, gL_p, gL_I, gL_R, gR_s, gR_c, gR_p, gR_I, gR_L]
    refine k_X12_begins r2.setI.setI (fun h3 f3 s3 => ?_)
    have r3 := f3.refs r2.setI.setI
    simp (disch := first | assumption | omega) only [true_and, and_true, forall_eq, true_implies, false_implies, implies_true, not_true_eq_false, not_false_eq_true, false_and, and_false, ne_eq, ite_true, ite_false, Nat.reduceLeDiff, Nat.reduceEqDiff, Nat.reduceLT, Nat.reduceAdd, Nat.reduceMul, Nat.reduceSub, Nat.le_refl, eq_self, li_0, li_1, li_2, li_3, li_4, li_5, li_6, li_7, li_8, li_9, li_10, li_11, li_12, li_13, li_14, li_15, li_16, li_17, li_18, li_19, li_20, li_21, li_22, li_23, li_24, li_25, li_26, li_27, li_28, li_29, li_30, li_31, li_32, li_44, li_48, li_57, li_59, li_60, li_61, li_62, li_63, li_97, li_100, li_122, li_123, li_125, li_127, li_255, li_400, li_401, li_800, li_1023, li_1024, li_10827, i_add, i_mul, i_sub, i_p1, i_m1, i_nm, i_nm2, i_cl, i_cl0, vi_ok, i_lt, i_le, i_eq, lg_e, rf_103_4, rf_103_6, rf_103_7, rf_103_8, rf_103_9, rf_103_10, rf_103_21, rf_103_22, rf_103_23, rf_103_26, rf_103_27, rf_103_28, rf_103_29, rf_103_30, rf_103_31, rf_103_32, rf_103_33, rf_103_34, rf_103_35, rf_103_37, rf_103_38, rf_103_39, rf_103_44, rf_103_45, rf_103_46, rf_103_47, rf_103_48, rf_103_49, rf_103_54, rf_103_55, is_103, is_104, sz_104, is_125, sz_125, is_126, sz_126, is_127, sz_127, is_128, sz_128, is_129, sz_129, is_130, sz_130, is_131, sz_131, is_132, sz_132, is_133, sz_133, is_134, sz_134, is_135, sz_135, is_136, sz_136, is_137, sz_137, is_138, sz_138, is_139, sz_139, is_140, sz_140, is_141, sz_141, is_142, sz_142, is_143, sz_143, is_144, sz_144, is_145, sz_145, is_146, sz_146, is_147, sz_147, is_148, sz_148, is_149, sz_149, is_150, sz_150, is_151, sz_151, is_152, sz_152, is_153, sz_153]
    refine k_X12_packed r3 wS s3 ?_
    simp (disch := first | assumption | omega) only [true_and, and_true, forall_eq, true_implies, false_implies, implies_true, not_true_eq_false, not_false_eq_true, false_and, and_false, ne_eq, ite_true, ite_false, Nat.reduceLeDiff, Nat.reduceEqDiff, Nat.reduceLT, Nat.reduceAdd, Nat.reduceMul, Nat.reduceSub, Nat.le_refl, eq_self, li_0, li_1, li_2, li_3, li_4, li_5, li_6, li_7, li_8, li_9, li_10, li_11, li_12, li_13, li_14, li_15, li_16, li_17, li_18, li_19, li_20, li_21, li_22, li_23, li_24, li_25, li_26, li_27, li_28, li_29, li_30, li_31, li_32, li_44, li_48, li_57, li_59, li_60, li_61, li_62, li_63, li_97, li_100, li_122, li_123, li_125, li_127, li_255, li_400, li_401, li_800, li_1023, li_1024, li_10827, i_add, i_mul, i_sub, i_p1, i_m1, i_nm, i_nm2, i_cl, i_cl0, vi_ok, i_lt, i_le, i_eq, lg_e, rf_103_4, rf_103_6, rf_103_7, rf_103_8, rf_103_9, rf_103_10, rf_103_21, rf_103_22, rf_103_23, rf_103_26, rf_103_27, rf_103_28, rf_103_29, rf_103_30, rf_103_31, rf_103_32, rf_103_33, rf_103_34, rf_103_35, rf_103_37, rf_103_38, rf_103_39, rf_103_44, rf_103_45, rf_103_46, rf_103_47, rf_103_48, rf_103_49, rf_103_54, rf_103_55, is_103, is_104, sz_104, is_125, sz_125, is_126, sz_126, is_127, sz_127, is_128, sz_128, is_129, sz_129, is_130, sz_130, is_131, sz_131, is_132, sz_132, is_133, sz_133, is_134, sz_134, is_135, sz_135, is_136, sz_136, is_137, sz_137, is_138, sz_138, is_139, sz_139, is_140, sz_140, is_141, sz_141, is_142, sz_142, is_143, sz_143, is_144, sz_144, is_145, sz_145, is_146, sz_146, is_147, sz_147, is_148, sz_148, is_149, sz_149, is_150, sz_150, is_151, sz_151, is_152, sz_152, is_153, sz_153, gI_s, gI_c, gI_p, gI_L, gI_R, gL_s, gL_c, gL_p, gL_I, gL_R, gR_s, gR_c, gR_p, gR_I, gR_L]
    have s5 : RepS (ax_setL h3 126 a (Int64.ofNat (ea st0 5))) st0 := s3
    refine k_X12_packedVars r3.setL wS s5 ?_
    (try simp (disch := first | assumption | omega) only [true_and, and_true, forall_eq, true_implies, false_implies, implies_true, not_true_eq_false, not_false_eq_true, false_and, and_false, ne_eq, ite_true, ite_false, Nat.reduceLeDiff, Nat.reduceEqDiff, Nat.reduceLT, Nat.reduceAdd, Nat.reduceMul, Nat.reduceSub, Nat.le_refl, eq_self, li_0, li_1, li_2, li_3, li_4, li_5, li_6, li_7, li_8, li_9, li_10, li_11, li_12, li_13, li_14, li_15, li_16, li_17, li_18, li_19, li_20, li_21, li_22, li_23, li_24, li_25, li_26, li_27, li_28, li_29, li_30, li_31, li_32, li_44, li_48, li_57, li_59, li_60, li_61, li_62, li_63, li_97, li_100, li_122, li_123, li_125, li_127, li_255, li_400, li_401, li_800, li_1023, li_1024, li_10827, i_add, i_mul, i_sub, i_p1, i_m1, i_nm, i_nm2, i_cl, i_cl0, vi_ok, i_lt, i_le, i_eq, lg_e])
    have f2h : Fr (PH a) h h2 := f2.mono (fun _ _ => PC_H)
    have fe : Fr (PH a) h (ax_setL (ax_setL h3 126 a (Int64.ofNat (ea st0 5))) 127 a (Int64.ofNat (eb st0.2.2.2.2 6))) := ((((f2h.setI (Or.inl PQ_1031)).setI (Or.inl PQ_1032)).trans (f3.pq.mono (fun _ _ z => Or.inl z))).setL (Or.inr ⟨rfl, Or.inr (Or.inl rfl)⟩)).setL (Or.inr ⟨rfl, Or.inr (Or.inr rfl)⟩)
    refine inv_end2 (hI.c.hand ha ht fe r3.setL.setL wS ?_ ?_ ?_) ?_ ?_ 0 (by decide) ?_ ?_ ?_
    · simp (disch := first | assumption | omega) only [true_and, and_true, forall_eq, true_implies, false_implies, implies_true, not_true_eq_false, not_false_eq_true, false_and, and_false, ne_eq, ite_true, ite_false, Nat.reduceLeDiff, Nat.reduceEqDiff, Nat.reduceLT, Nat.reduceAdd, Nat.reduceMul, Nat.reduceSub, Nat.le_refl, eq_self, li_0, li_1, li_2, li_3, li_4, li_5, li_6, li_7, li_8, li_9, li_10, li_11, li_12, li_13, li_14, li_15, li_16, li_17, li_18, li_19, li_20, li_21, li_22, li_23, li_24, li_25, li_26, li_27, li_28, li_29, li_30, li_31, li_32, li_44, li_48, li_57, li_59, li_60, li_61, li_62, li_63, li_97, li_100, li_122, li_123, li_125, li_127, li_255, li_400, li_401, li_800, li_1023, li_1024, li_10827, i_add, i_mul, i_sub, i_p1, i_m1, i_nm, i_nm2, i_cl, i_cl0, vi_ok, i_lt, i_le, i_eq, lg_e, gI_s, gI_c, gI_p, gI_L, gI_R, gL_s, gL_c, gL_p, gL_I, gL_R, gR_s, gR_c, gR_p, gR_I, gR_L]
      rw [f3.1]
      exact w73
    · simp (disch := first | assumption | omega) only [true_and, and_true, forall_eq, true_implies, false_implies, implies_true, not_true_eq_false, not_false_eq_true, false_and, and_false, ne_eq, ite_true, ite_false, Nat.reduceLeDiff, Nat.reduceEqDiff, Nat.reduceLT, Nat.reduceAdd, Nat.reduceMul, Nat.reduceSub, Nat.le_refl, eq_self, li_0, li_1, li_2, li_3, li_4, li_5, li_6, li_7, li_8, li_9, li_10, li_11, li_12, li_13, li_14, li_15, li_16, li_17, li_18, li_19, li_20, li_21, li_22, li_23, li_24, li_25, li_26, li_27, li_28, li_29, li_30, li_31, li_32, li_44, li_48, li_57, li_59, li_60, li_61, li_62, li_63, li_97, li_100, li_122, li_123, li_125, li_127, li_255, li_400, li_401, li_800, li_1023, li_1024, li_10827, i_add, i_mul, i_sub, i_p1, i_m1, i_nm, i_nm2, i_cl, i_cl0, vi_ok, i_lt, i_le, i_eq, lg_e, gI_s, gI_c, gI_p, gI_L, gI_R, gL_s, gL_c, gL_p, gL_I, gL_R, gR_s, gR_c, gR_p, gR_I, gR_L]
    · simp (disch := first | assumption | omega) only [true_and, and_true, forall_eq, true_implies, false_implies, implies_true, not_true_eq_false, not_false_eq_true, false_and, and_false, ne_eq, ite_true, ite_false, Nat.reduceLeDiff, Nat.reduceEqDiff, Nat.reduceLT, Nat.reduceAdd, Nat.reduceMul, Nat.reduceSub, Nat.le_refl, eq_self, li_0, li_1, li_2, li_3, li_4, li_5, li_6, li_7, li_8, li_9, li_10, li_11, li_12, li_13, li_14, li_15, li_16, li_17, li_18, li_19, li_20, li_21, li_22, li_23, li_24, li_25, li_26, li_27, li_28, li_29, li_30, li_31, li_32, li_44, li_48, li_57, li_59, li_60, li_61, li_62, li_63, li_97, li_100, li_122, li_123, li_125, li_127, li_255, li_400, li_401, li_800, li_1023, li_1024, li_10827, i_add, i_mul, i_sub, i_p1, i_m1, i_nm, i_nm2, i_cl, i_cl0, vi_ok, i_lt, i_le, i_eq, lg_e, gI_s, gI_c, gI_p, gI_L, gI_R, gL_s, gL_c, gL_p, gL_I, gL_R, gR_s, gR_c, gR_p, gR_I, gR_L]
    · rw [(fe 67 3 (fun q => by unfold PH PQ SCR at q; omega)).1, (fe 103 3 (fun q => by unfold PH PQ SCR at q; omega)).1]
      exact hI.2.2.2.2.1.1
    · rw [(fe 1 11 (fun q => by unfold PH PQ SCR at q; omega)).1, (fe 103 41 (fun q => by unfold PH PQ SCR at q; omega)).1]
      exact hI.2.2.2.2.1.2.2.2
    · simp (disch := first | assumption | omega) only [true_and, and_true, forall_eq, true_implies, false_implies, implies_true, not_true_eq_false, not_false_eq_true, false_and, and_false, ne_eq, ite_true, ite_false, Nat.reduceLeDiff, Nat.reduceEqDiff, Nat.reduceLT, Nat.reduceAdd, Nat.reduceMul, Nat.reduceSub, Nat.le_refl, eq_self, li_0, li_1, li_2, li_3, li_4, li_5, li_6, li_7, li_8, li_9, li_10, li_11, li_12, li_13, li_14, li_15, li_16, li_17, li_18, li_19, li_20, li_21, li_22, li_23, li_24, li_25, li_26, li_27, li_28, li_29, li_30, li_31, li_32, li_44, li_48, li_57, li_59, li_60, li_61, li_62, li_63, li_97, li_100, li_122, li_123, li_125, li_127, li_255, li_400, li_401, li_800, li_1023, li_1024, li_10827, i_add, i_mul, i_sub, i_p1, i_m1, i_nm, i_nm2, i_cl, i_cl0, vi_ok, i_lt, i_le, i_eq, lg_e, gI_s, gI_c, gI_p, gI_L, gI_R, gL_s, gL_c, gL_p, gL_I, gL_R, gR_s, gR_c, gR_p, gR_I, gR_L]
      rw [(f3.fr 1 12 (fun q => by unfold PS at q; omega)).1]
      simp (disch := first | assumption | omega) only [true_and, and_true, forall_eq, true_implies, false_implies, implies_true, not_true_eq_false, not_false_eq_true, false_and, and_false, ne_eq, ite_true, ite_false, Nat.reduceLeDiff, Nat.reduceEqDiff, Nat.reduceLT, Nat.reduceAdd, Nat.reduceMul, Nat.reduceSub, Nat.le_refl, eq_self, li_0, li_1, li_2, li_3, li_4, li_5, li_6, li_7, li_8, li_9, li_10, li_11, li_12, li_13, li_14, li_15, li_16, li_17, li_18, li_19, li_20, li_21, li_22, li_23, li_24, li_25, li_26, li_27, li_28, li_29, li_30, li_31, li_32, li_44, li_48, li_57, li_59, li_60, li_61, li_62, li_63, li_97, li_100, li_122, li_123, li_125, li_127, li_255, li_400, li_401, li_800, li_1023, li_1024, li_10827, i_add, i_mul, i_sub, i_p1, i_m1, i_nm, i_nm2, i_cl, i_cl0, vi_ok, i_lt, i_le, i_eq, lg_e, gI_s, gI_c, gI_p, gI_L, gI_R, gL_s, gL_c, gL_p, gL_I, gL_R, gR_s, gR_c, gR_p, gR_I, gR_L]
      exact w112
    · simp (disch := first | assumption | omega) only [true_and, and_true, forall_eq, true_implies, false_implies, implies_true, not_true_eq_false, not_false_eq_true, false_and, and_false, ne_eq, ite_true, ite_false, Nat.reduceLeDiff, Nat.reduceEqDiff, Nat.reduceLT, Nat.reduceAdd, Nat.reduceMul, Nat.reduceSub, Nat.le_refl, eq_self, li_0, li_1, li_2, li_3, li_4, li_5, li_6, li_7, li_8, li_9, li_10, li_11, li_12, li_13, li_14, li_15, li_16, li_17, li_18, li_19, li_20, li_21, li_22, li_23, li_24, li_25, li_26, li_27, li_28, li_29, li_30, li_31, li_32, li_44, li_48, li_57, li_59, li_60, li_61, li_62, li_63, li_97, li_100, li_122, li_123, li_125, li_127, li_255, li_400, li_401, li_800, li_1023, li_1024, li_10827, i_add, i_mul, i_sub, i_p1, i_m1, i_nm, i_nm2, i_cl, i_cl0, vi_ok, i_lt, i_le, i_eq, lg_e, gI_s, gI_c, gI_p, gI_L, gI_R, gL_s, gL_c, gL_p, gL_I, gL_R, gR_s, gR_c, gR_p, gR_I, gR_L]
      rw [(f3.fr 103 1 (fun q => by unfold PS at q; omega)).1]
      simp (disch := first | assumption | omega) only [true_and, and_true, forall_eq, true_implies, false_implies, implies_true, not_true_eq_false, not_false_eq_true, false_and, and_false, ne_eq, ite_true, ite_false, Nat.reduceLeDiff, Nat.reduceEqDiff, Nat.reduceLT, Nat.reduceAdd, Nat.reduceMul, Nat.reduceSub, Nat.le_refl, eq_self, li_0, li_1, li_2, li_3, li_4, li_5, li_6, li_7, li_8, li_9, li_10, li_11, li_12, li_13, li_14, li_15, li_16, li_17, li_18, li_19, li_20, li_21, li_22, li_23, li_24, li_25, li_26, li_27, li_28, li_29, li_30, li_31, li_32, li_44, li_48, li_57, li_59, li_60, li_61, li_62, li_63, li_97, li_100, li_122, li_123, li_125, li_127, li_255, li_400, li_401, li_800, li_1023, li_1024, li_10827, i_add, i_mul, i_sub, i_p1, i_m1, i_nm, i_nm2, i_cl, i_cl0, vi_ok, i_lt, i_le, i_eq, lg_e, gI_s, gI_c, gI_p, gI_L, gI_R, gL_s, gL_c, gL_p, gL_I, gL_R, gR_s, gR_c, gR_p, gR_I, gR_L]
    · simp (disch := first | assumption | omega) only [true_and, and_true, forall_eq, true_implies, false_implies, implies_true, not_true_eq_false, not_false_eq_true, false_and, and_false, ne_eq, ite_true, ite_false, Nat.reduceLeDiff, Nat.reduceEqDiff, Nat.reduceLT, Nat.reduceAdd, Nat.reduceMul, Nat.reduceSub, Nat.le_refl, eq_self, li_0, li_1, li_2, li_3, li_4, li_5, li_6, li_7, li_8, li_9, li_10, li_11, li_12, li_13, li_14, li_15, li_16, li_17, li_18, li_19, li_20, li_21, li_22, li_23, li_24, li_25, li_26, li_27, li_28, li_29, li_30, li_31, li_32, li_44, li_48, li_57, li_59, li_60, li_61, li_62, li_63, li_97, li_100, li_122, li_123, li_125, li_127, li_255, li_400, li_401, li_800, li_1023, li_1024, li_10827, i_add, i_mul, i_sub, i_p1, i_m1, i_nm, i_nm2, i_cl, i_cl0, vi_ok, i_lt, i_le, i_eq, lg_e, gI_s, gI_c, gI_p, gI_L, gI_R, gL_s, gL_c, gL_p, gL_I, gL_R, gR_s, gR_c, gR_p, gR_I, gR_L]
      rw [(f3.fr 103 2 (fun q => by unfold PS at q; omega)).1]
      simp (disch := first | assumption | omega) only [true_and, and_true, forall_eq, true_implies, false_implies, implies_true, not_true_eq_false, not_false_eq_true, false_and, and_false, ne_eq, ite_true, ite_false, Nat.reduceLeDiff, Nat.reduceEqDiff, Nat.reduceLT, Nat.reduceAdd, Nat.reduceMul, Nat.reduceSub, Nat.le_refl, eq_self, li_0, li_1, li_2, li_3, li_4, li_5, li_6, li_7, li_8, li_9, li_10, li_11, li_12, li_13, li_14, li_15, li_16, li_17, li_18, li_19, li_20, li_21, li_22, li_23, li_24, li_25, li_26, li_27, li_28, li_29, li_30, li_31, li_32, li_44, li_48, li_57, li_59, li_60, li_61, li_62, li_63, li_97, li_100, li_122, li_123, li_125, li_127, li_255, li_400, li_401, li_800, li_1023, li_1024, li_10827, i_add, i_mul, i_sub, i_p1, i_m1, i_nm, i_nm2, i_cl, i_cl0, vi_ok, i_lt, i_le, i_eq, lg_e, gI_s, gI_c, gI_p, gI_L, gI_R, gL_s, gL_c, gL_p, gL_I, gL_R, gR_s, gR_c, gR_p, gR_I, gR_L]
  · refine c_X9_begin (s_X9_begin_0 ⟨is_1, q_has_n hI.c hT ⟨fun z => absurd rfl z, fun _ => ?_⟩⟩)
    intro h1 e1
    subst e1
    refine c_X12_begin (s_X12_begin_0 ⟨is_103, ?_⟩)
    intro h2 e2
    obtain ⟨i1, f1, g1⟩ := mIn2 hI.c (fk _) hI.1.setI e2
    have w112 : h2.1 1 12 = 1 := by rw [e2]; simp (disch := first | assumption | omega) only [true_and, and_true, forall_eq, true_implies, false_implies, implies_true, not_true_eq_false, not_false_eq_true, false_and, and_false, ne_eq, ite_true, ite_false, Nat.reduceLeDiff, Nat.reduceEqDiff, Nat.reduceLT, Nat.reduceAdd, Nat.reduceMul, Nat.reduceSub, Nat.le_refl, eq_self, li_0, li_1, li_2, li_3, li_4, li_5, li_6, li_7, li_8, li_9, li_10, li_11, li_12, li_13, li_14, li_15, li_16, li_17, li_18, li_19, li_20, li_21, li_22, li_23, li_24, li_25, li_26, li_27, li_28, li_29, li_30, li_31, li_32, li_44, li_48, li_57, li_59, li_60, li_61, li_62, li_63, li_97, li_100, li_122, li_123, li_125, li_127, li_255, li_400, li_401, li_800, li_1023, li_1024, li_10827, i_add, i_mul, i_sub, i_p1, i_m1, i_nm, i_nm2, i_cl, i_cl0, vi_ok, i_lt, i_le, i_eq, lg_e, gI_s, gI_c, gI_p, gI_L, gI_R, gL_s, gL_c, gL_p, gL_I, gL_R, gR_s, gR_c, gR_p, gR_I, gR_L]
    clear e2
    refine q_isApp_n i1 hT ⟨fun _ => ?_, fun z => absurd rfl z⟩
    refine s_X12_begin_19 ?_
    simp (disch := first | assumption | omega) only [true_and, and_true, forall_eq, true_implies, false_implies, implies_true, not_true_eq_false, not_false_eq_true, false_and, and_false, ne_eq, ite_true, ite_false, Nat.reduceLeDiff, Nat.reduceEqDiff, Nat.reduceLT, Nat.reduceAdd, Nat.reduceMul, Nat.reduceSub, Nat.le_refl, eq_self, li_0, li_1, li_2, li_3, li_4, li_5, li_6, li_7, li_8, li_9, li_10, li_11, li_12, li_13, li_14, li_15, li_16, li_17, li_18, li_19, li_20, li_21, li_22, li_23, li_24, li_25, li_26, li_27, li_28, li_29, li_30, li_31, li_32, li_44, li_48, li_57, li_59, li_60, li_61, li_62, li_63, li_97, li_100, li_122, li_123, li_125, li_127, li_255, li_400, li_401, li_800, li_1023, li_1024, li_10827, i_add, i_mul, i_sub, i_p1, i_m1, i_nm, i_nm2, i_cl, i_cl0, vi_ok, i_lt, i_le, i_eq, lg_e, is_103, gI_s, gI_c, gI_p, gI_L, gI_R, gL_s, gL_c, gL_p, gL_I, gL_R, gR_s, gR_c, gR_p, gR_I, gR_L]
    exact inv_say hI 1 (by decide) f1 i1.1 w112
theorem sumN_congr {f f2 : Nat → Nat} : ∀ n, (∀ k, k < n → f k = f2 k) → sumN f n = sumN f2 n := by
  intro n
  induction n with
  | zero => intro _; rfl
  | succ n ih =>
    intro h
    show sumN f n + f n = sumN f2 n + f2 n
    rw [ih (fun k hk => h k (by omega)), h n (by omega)]
theorem k_about_kept {l : Launch} {g : AG} {h : AH} {y : Nat} {D : AD} {Q : Int32 → AH → Prop} (hr : Refs h) (hy : isB y) (hD : WfD D) (hB : RepB h y D) (hq : Q (Int32.ofNat (sumN (fun v => D 5 v) (D 0 2))) h) : ∀ d v : Nat, v + d = D 0 2 → L_X12_about_82 l g h y (Int32.ofNat (sumN (fun v => D 5 v) v)) (Int32.ofNat v) Q := by
  have h6 := hD.1.2.2.2
  intro d
  induction d with
  | zero =>
    intro v hv
    refine s_X12_about_82 ?_
    simp (disch := first | assumption | omega) only [true_and, and_true, forall_eq, true_implies, false_implies, implies_true, not_true_eq_false, not_false_eq_true, false_and, and_false, ne_eq, ite_true, ite_false, Nat.reduceLeDiff, Nat.reduceEqDiff, Nat.reduceLT, Nat.reduceAdd, Nat.reduceMul, Nat.reduceSub, Nat.le_refl, eq_self, li_0, li_1, li_2, li_3, li_4, li_5, li_6, li_7, li_8, li_9, li_10, li_11, li_12, li_13, li_14, li_15, li_16, li_17, li_18, li_19, li_20, li_21, li_22, li_23, li_24, li_25, li_26, li_27, li_28, li_29, li_30, li_31, li_32, li_44, li_48, li_57, li_59, li_60, li_61, li_62, li_63, li_97, li_100, li_122, li_123, li_125, li_127, li_255, li_400, li_401, li_800, li_1023, li_1024, li_10827, i_add, i_mul, i_sub, i_p1, i_m1, i_nm, i_nm2, i_cl, i_cl0, vi_ok, i_lt, i_le, i_eq, lg_e, isB_x, rfB_3, rfB_4, rfB_5, rfB_6, rfB_7, rfB_8, rfB_9, rfB_10, rfB_11, rfB_12, rfB_13, rfB_14, rfB_15, rfB_16, rfB_17, rfB_18, rfB_19, rfB_20, rfB_21, isB_1, szB_1, isB_2, szB_2, isB_3, szB_3, isB_4, szB_4, isB_5, szB_5, isB_6, szB_6, isB_7, szB_7, isB_8, szB_8, isB_9, szB_9, isB_10, szB_10, isB_11, szB_11, isB_12, szB_12, isB_13, szB_13, isB_14, szB_14, isB_15, szB_15, isB_16, szB_16, isB_17, szB_17, isB_18, szB_18, isB_19, szB_19, hB.1.2.2, show D 0 2 ≤ v by omega]
    rw [show v = D 0 2 by omega]
    exact hq
  | succ d ih =>
    intro v hv
    have q := hD.2.2.1 v (by omega)
    have e : sumN (fun v => D 5 v) (v + 1) = sumN (fun v => D 5 v) v + D 5 v := rfl
    have ih := ih (v + 1) (by omega)
    rw [e] at ih
    refine s_X12_about_82 ?_
    simp (disch := first | assumption | omega) only [true_and, and_true, forall_eq, true_implies, false_implies, implies_true, not_true_eq_false, not_false_eq_true, false_and, and_false, ne_eq, ite_true, ite_false, Nat.reduceLeDiff, Nat.reduceEqDiff, Nat.reduceLT, Nat.reduceAdd, Nat.reduceMul, Nat.reduceSub, Nat.le_refl, eq_self, li_0, li_1, li_2, li_3, li_4, li_5, li_6, li_7, li_8, li_9, li_10, li_11, li_12, li_13, li_14, li_15, li_16, li_17, li_18, li_19, li_20, li_21, li_22, li_23, li_24, li_25, li_26, li_27, li_28, li_29, li_30, li_31, li_32, li_44, li_48, li_57, li_59, li_60, li_61, li_62, li_63, li_97, li_100, li_122, li_123, li_125, li_127, li_255, li_400, li_401, li_800, li_1023, li_1024, li_10827, i_add, i_mul, i_sub, i_p1, i_m1, i_nm, i_nm2, i_cl, i_cl0, vi_ok, i_lt, i_le, i_eq, lg_e, isB_x, rfB_3, rfB_4, rfB_5, rfB_6, rfB_7, rfB_8, rfB_9, rfB_10, rfB_11, rfB_12, rfB_13, rfB_14, rfB_15, rfB_16, rfB_17, rfB_18, rfB_19, rfB_20, rfB_21, isB_1, szB_1, isB_2, szB_2, isB_3, szB_3, isB_4, szB_4, isB_5, szB_5, isB_6, szB_6, isB_7, szB_7, isB_8, szB_8, isB_9, szB_9, isB_10, szB_10, isB_11, szB_11, isB_12, szB_12, isB_13, szB_13, isB_14, szB_14, isB_15, szB_15, isB_16, szB_16, isB_17, szB_17, isB_18, szB_18, isB_19, szB_19, hB.1.2.2, (hB.2.2.1 v (by omega)).2.2, show ¬ D 0 2 ≤ v by omega]
    refine ⟨fun z => ?_, fun z => ?_⟩
    · rw [z] at ih; exact ih
    · rw [show D 5 v = 1 by omega] at ih; exact ih
theorem k_about_shows {l : Launch} {g : AG} {h : AH} {y : Nat} {D : AD} {Q : Int32 → AH → Prop} (hr : Refs h) (hy : isB y) (hD : WfD D) (hB : RepB h y D) (hq : Q (Int32.ofNat (sumN (fun w => D 6 w) (D 0 0))) h) : ∀ d v : Nat, v + d = D 0 0 → L_X12_about_123 l g h y (Int32.ofNat (sumN (fun w => D 6 w) v)) (Int32.ofNat v) Q := by
  have h8 := hD.1.2.1
  intro d
  induction d with
  | zero =>
    intro v hv
    refine s_X12_about_123 ?_
    simp (disch := first | assumption | omega) only [true_and, and_true, forall_eq, true_implies, false_implies, implies_true, not_true_eq_false, not_false_eq_true, false_and, and_false, ne_eq, ite_true, ite_false, Nat.reduceLeDiff, Nat.reduceEqDiff, Nat.reduceLT, Nat.reduceAdd, Nat.reduceMul, Nat.reduceSub, Nat.le_refl, eq_self, li_0, li_1, li_2, li_3, li_4, li_5, li_6, li_7, li_8, li_9, li_10, li_11, li_12, li_13, li_14, li_15, li_16, li_17, li_18, li_19, li_20, li_21, li_22, li_23, li_24, li_25, li_26, li_27, li_28, li_29, li_30, li_31, li_32, li_44, li_48, li_57, li_59, li_60, li_61, li_62, li_63, li_97, li_100, li_122, li_123, li_125, li_127, li_255, li_400, li_401, li_800, li_1023, li_1024, li_10827, i_add, i_mul, i_sub, i_p1, i_m1, i_nm, i_nm2, i_cl, i_cl0, vi_ok, i_lt, i_le, i_eq, lg_e, isB_x, rfB_3, rfB_4, rfB_5, rfB_6, rfB_7, rfB_8, rfB_9, rfB_10, rfB_11, rfB_12, rfB_13, rfB_14, rfB_15, rfB_16, rfB_17, rfB_18, rfB_19, rfB_20, rfB_21, isB_1, szB_1, isB_2, szB_2, isB_3, szB_3, isB_4, szB_4, isB_5, szB_5, isB_6, szB_6, isB_7, szB_7, isB_8, szB_8, isB_9, szB_9, isB_10, szB_10, isB_11, szB_11, isB_12, szB_12, isB_13, szB_13, isB_14, szB_14, isB_15, szB_15, isB_16, szB_16, isB_17, szB_17, isB_18, szB_18, isB_19, szB_19, hB.1.1, show D 0 0 ≤ v by omega]
    rw [show v = D 0 0 by omega]
    exact hq
  | succ d ih =>
    intro v hv
    have ih := ih (v + 1) (by omega)
    refine s_X12_about_123 ?_
    simp (disch := first | assumption | omega) only [true_and, and_true, forall_eq, true_implies, false_implies, implies_true, not_true_eq_false, not_false_eq_true, false_and, and_false, ne_eq, ite_true, ite_false, Nat.reduceLeDiff, Nat.reduceEqDiff, Nat.reduceLT, Nat.reduceAdd, Nat.reduceMul, Nat.reduceSub, Nat.le_refl, eq_self, li_0, li_1, li_2, li_3, li_4, li_5, li_6, li_7, li_8, li_9, li_10, li_11, li_12, li_13, li_14, li_15, li_16, li_17, li_18, li_19, li_20, li_21, li_22, li_23, li_24, li_25, li_26, li_27, li_28, li_29, li_30, li_31, li_32, li_44, li_48, li_57, li_59, li_60, li_61, li_62, li_63, li_97, li_100, li_122, li_123, li_125, li_127, li_255, li_400, li_401, li_800, li_1023, li_1024, li_10827, i_add, i_mul, i_sub, i_p1, i_m1, i_nm, i_nm2, i_cl, i_cl0, vi_ok, i_lt, i_le, i_eq, lg_e, isB_x, rfB_3, rfB_4, rfB_5, rfB_6, rfB_7, rfB_8, rfB_9, rfB_10, rfB_11, rfB_12, rfB_13, rfB_14, rfB_15, rfB_16, rfB_17, rfB_18, rfB_19, rfB_20, rfB_21, isB_1, szB_1, isB_2, szB_2, isB_3, szB_3, isB_4, szB_4, isB_5, szB_5, isB_6, szB_6, isB_7, szB_7, isB_8, szB_8, isB_9, szB_9, isB_10, szB_10, isB_11, szB_11, isB_12, szB_12, isB_13, szB_13, isB_14, szB_14, isB_15, szB_15, isB_16, szB_16, isB_17, szB_17, isB_18, szB_18, isB_19, szB_19, hB.1.1, (hB.2.1 v (by omega)).2.1, show ¬ D 0 0 ≤ v by omega]
    exact ih
theorem k_about_timers {l : Launch} {g : AG} {h : AH} {y : Nat} {D : AD} {Q : Int32 → AH → Prop} (hr : Refs h) (hy : isB y) (hD : WfD D) (hB : RepB h y D) (hq : Q (Int32.ofNat (sumN (fun w => if 0 < D 8 w then 1 else 0) (D 0 0))) h) : ∀ d v : Nat, v + d = D 0 0 → L_X12_about_156 l g h y (Int32.ofNat (sumN (fun w => if 0 < D 8 w then 1 else 0) v)) (Int32.ofNat v) Q := by
  have h8 := hD.1.2.1
  intro d
  induction d with
  | zero =>
    intro v hv
    refine s_X12_about_156 ?_
    simp (disch := first | assumption | omega) only [true_and, and_true, forall_eq, true_implies, false_implies, implies_true, not_true_eq_false, not_false_eq_true, false_and, and_false, ne_eq, ite_true, ite_false, Nat.reduceLeDiff, Nat.reduceEqDiff, Nat.reduceLT, Nat.reduceAdd, Nat.reduceMul, Nat.reduceSub, Nat.le_refl, eq_self, li_0, li_1, li_2, li_3, li_4, li_5, li_6, li_7, li_8, li_9, li_10, li_11, li_12, li_13, li_14, li_15, li_16, li_17, li_18, li_19, li_20, li_21, li_22, li_23, li_24, li_25, li_26, li_27, li_28, li_29, li_30, li_31, li_32, li_44, li_48, li_57, li_59, li_60, li_61, li_62, li_63, li_97, li_100, li_122, li_123, li_125, li_127, li_255, li_400, li_401, li_800, li_1023, li_1024, li_10827, i_add, i_mul, i_sub, i_p1, i_m1, i_nm, i_nm2, i_cl, i_cl0, vi_ok, i_lt, i_le, i_eq, lg_e, isB_x, rfB_3, rfB_4, rfB_5, rfB_6, rfB_7, rfB_8, rfB_9, rfB_10, rfB_11, rfB_12, rfB_13, rfB_14, rfB_15, rfB_16, rfB_17, rfB_18, rfB_19, rfB_20, rfB_21, isB_1, szB_1, isB_2, szB_2, isB_3, szB_3, isB_4, szB_4, isB_5, szB_5, isB_6, szB_6, isB_7, szB_7, isB_8, szB_8, isB_9, szB_9, isB_10, szB_10, isB_11, szB_11, isB_12, szB_12, isB_13, szB_13, isB_14, szB_14, isB_15, szB_15, isB_16, szB_16, isB_17, szB_17, isB_18, szB_18, isB_19, szB_19, hB.1.1, show D 0 0 ≤ v by omega]
    rw [show v = D 0 0 by omega]
    exact hq
  | succ d ih =>
    intro v hv
    have q := hD.2.1 v (by omega)
    have ih := ih (v + 1) (by omega)
    have e : sumN (fun w => if 0 < D 8 w then 1 else 0) (v + 1) = sumN (fun w => if 0 < D 8 w then 1 else 0) v + (if 0 < D 8 v then 1 else 0) := rfl
    rw [e] at ih
    refine s_X12_about_156 ?_
    simp (disch := first | assumption | omega) only [true_and, and_true, forall_eq, true_implies, false_implies, implies_true, not_true_eq_false, not_false_eq_true, false_and, and_false, ne_eq, ite_true, ite_false, Nat.reduceLeDiff, Nat.reduceEqDiff, Nat.reduceLT, Nat.reduceAdd, Nat.reduceMul, Nat.reduceSub, Nat.le_refl, eq_self, li_0, li_1, li_2, li_3, li_4, li_5, li_6, li_7, li_8, li_9, li_10, li_11, li_12, li_13, li_14, li_15, li_16, li_17, li_18, li_19, li_20, li_21, li_22, li_23, li_24, li_25, li_26, li_27, li_28, li_29, li_30, li_31, li_32, li_44, li_48, li_57, li_59, li_60, li_61, li_62, li_63, li_97, li_100, li_122, li_123, li_125, li_127, li_255, li_400, li_401, li_800, li_1023, li_1024, li_10827, i_add, i_mul, i_sub, i_p1, i_m1, i_nm, i_nm2, i_cl, i_cl0, vi_ok, i_lt, i_le, i_eq, lg_e, isB_x, rfB_3, rfB_4, rfB_5, rfB_6, rfB_7, rfB_8, rfB_9, rfB_10, rfB_11, rfB_12, rfB_13, rfB_14, rfB_15, rfB_16, rfB_17, rfB_18, rfB_19, rfB_20, rfB_21, isB_1, szB_1, isB_2, szB_2, isB_3, szB_3, isB_4, szB_4, isB_5, szB_5, isB_6, szB_6, isB_7, szB_7, isB_8, szB_8, isB_9, szB_9, isB_10, szB_10, isB_11, szB_11, isB_12, szB_12, isB_13, szB_13, isB_14, szB_14, isB_15, szB_15, isB_16, szB_16, isB_17, szB_17, isB_18, szB_18, isB_19, szB_19, hB.1.1, (hB.2.1 v (by omega)).2.2.2, show ¬ D 0 0 ≤ v by omega]
    refine ⟨fun z => ?_, fun z => ?_⟩
    · rw [if_neg (by omega)] at ih; exact ih
    · rw [if_pos (by omega)] at ih; exact ih
theorem ob_about {l : Launch} {g : AG} (h : AH) (a1 a2 : Int32) (hI : Inv h) : C_X9_about l g h 1 a1 a2 (fun r h1 => C_X12_about l g h1 103 a1 a2 (fun r2 h2 => r2 = r ∧ Inv h2)) := by
  obtain ⟨X, Y, D, S, t, hI⟩ := hI
  by_cases hT : Tel t a1
  · obtain ⟨a, ha, rfl, ht⟩ := hT
    have hr := hI.1
    have hA := hI.2.1
    obtain ⟨t1, t2, t3, t4, t5, t6, t7, t8⟩ := (hI.2.2.1 a ha).1 ht
    have hx := hA.isx ha
    have hy := hA.isy ha
    refine c_X9_about (s_X9_about_0 ⟨is_1, q_has_y hI.c ha ht ⟨fun _ => ?_, fun z => absurd z (by decide)⟩⟩)
    obtain ⟨n0, n1, n2, n3, n4, n5, n6⟩ := t3.1
    simp (disch := first | assumption | omega) only [true_and, and_true, forall_eq, true_implies, false_implies, implies_true, not_true_eq_false, not_false_eq_true, false_and, and_false, ne_eq, ite_true, ite_false, Nat.reduceLeDiff, Nat.reduceEqDiff, Nat.reduceLT, Nat.reduceAdd, Nat.reduceMul, Nat.reduceSub, Nat.le_refl, eq_self, li_0, li_1, li_2, li_3, li_4, li_5, li_6, li_7, li_8, li_9, li_10, li_11, li_12, li_13, li_14, li_15, li_16, li_17, li_18, li_19, li_20, li_21, li_22, li_23, li_24, li_25, li_26, li_27, li_28, li_29, li_30, li_31, li_32, li_44, li_48, li_57, li_59, li_60, li_61, li_62, li_63, li_97, li_100, li_122, li_123, li_125, li_127, li_255, li_400, li_401, li_800, li_1023, li_1024, li_10827, i_add, i_mul, i_sub, i_p1, i_m1, i_nm, i_nm2, i_cl, i_cl0, vi_ok, i_lt, i_le, i_eq, lg_e, rf_1_0, rf_1_2, rf_1_4, rf_1_5, rf_1_6, rf_1_7, rf_1_8, rf_1_10, is_1, is_2, sz_2, is_3, sz_3, is_67, sz_67, is_73, sz_73, is_74, sz_74, is_93, sz_93, is_101, sz_101, is_102, sz_102, hA.x ha, isA_x hx, n0, n1, n2, n3, n4, n5]
    have model : ∀ Q : Int32 → AH → Prop, (∀ h2, Inv h2 → ((a2 = Int32.ofNat 0 → Q (Int32.ofNat (D a 0 0)) h2) ∧ (a2 = Int32.ofNat 1 → Q (Int32.ofNat (D a 0 1)) h2) ∧ (a2 = Int32.ofNat 2 → Q (Int32.ofNat (D a 0 2)) h2) ∧ (a2 = Int32.ofNat 3 → Q (Int32.ofNat (sumN (fun v => D a 5 v) (D a 0 2))) h2) ∧ (a2 = Int32.ofNat 4 → Q (Int32.ofNat (sumN (fun w => D a 6 w) (D a 0 0))) h2) ∧ (a2 = Int32.ofNat 5 → Q (Int32.ofNat (sumN (fun w => if 0 < D a 8 w then 1 else 0) (D a 0 0))) h2) ∧ (¬ a2 = Int32.ofNat 0 → ¬ a2 = Int32.ofNat 1 → ¬ a2 = Int32.ofNat 2 → ¬ a2 = Int32.ofNat 3 → ¬ a2 = Int32.ofNat 4 → ¬ a2 = Int32.ofNat 5 → Q (-1) h2))) → C_X12_about l g h 103 (Int32.ofNat a) a2 Q := by
      intro Q hq
      refine c_X12_about (s_X12_about_0 ⟨is_103, ?_⟩)
      intro h2 e2
      obtain ⟨i1, f1, e0⟩ := mIn hI e2
      clear e2
      obtain ⟨u1, u2, u3, u4, u5, u6, u7, u8⟩ := (i1.2.2.1 a ha).1 ht
      have hA1 := i1.2.1
      have hr1 := i1.1
      obtain ⟨q0, q1, q2, q3, q4, q5, q6⟩ := hq h2 e0
      refine q_isApp_y i1 ha ht ⟨fun _ => ?_, fun z => absurd z (by decide)⟩
      simp (disch := first | assumption | omega) only [true_and, and_true, forall_eq, true_implies, false_implies, implies_true, not_true_eq_false, not_false_eq_true, false_and, and_false, ne_eq, ite_true, ite_false, Nat.reduceLeDiff, Nat.reduceEqDiff, Nat.reduceLT, Nat.reduceAdd, Nat.reduceMul, Nat.reduceSub, Nat.le_refl, eq_self, li_0, li_1, li_2, li_3, li_4, li_5, li_6, li_7, li_8, li_9, li_10, li_11, li_12, li_13, li_14, li_15, li_16, li_17, li_18, li_19, li_20, li_21, li_22, li_23, li_24, li_25, li_26, li_27, li_28, li_29, li_30, li_31, li_32, li_44, li_48, li_57, li_59, li_60, li_61, li_62, li_63, li_97, li_100, li_122, li_123, li_125, li_127, li_255, li_400, li_401, li_800, li_1023, li_1024, li_10827, i_add, i_mul, i_sub, i_p1, i_m1, i_nm, i_nm2, i_cl, i_cl0, vi_ok, i_lt, i_le, i_eq, lg_e, rf_103_4, rf_103_6, rf_103_7, rf_103_8, rf_103_9, rf_103_10, rf_103_21, rf_103_22, rf_103_23, rf_103_26, rf_103_27, rf_103_28, rf_103_29, rf_103_30, rf_103_31, rf_103_32, rf_103_33, rf_103_34, rf_103_35, rf_103_37, rf_103_38, rf_103_39, rf_103_44, rf_103_45, rf_103_46, rf_103_47, rf_103_48, rf_103_49, rf_103_54, rf_103_55, is_103, is_104, sz_104, is_125, sz_125, is_126, sz_126, is_127, sz_127, is_128, sz_128, is_129, sz_129, is_130, sz_130, is_131, sz_131, is_132, sz_132, is_133, sz_133, is_134, sz_134, is_135, sz_135, is_136, sz_136, is_137, sz_137, is_138, sz_138, is_139, sz_139, is_140, sz_140, is_141, sz_141, is_142, sz_142, is_143, sz_143, is_144, sz_144, is_145, sz_145, is_146, sz_146, is_147, sz_147, is_148, sz_148, is_149, sz_149, is_150, sz_150, is_151, sz_151, is_152, sz_152, is_153, sz_153, hA1.y ha, isB_x hy, u4.1.1, u4.1.2.1, u4.1.2.2]
      refine ⟨q0, fun z0 => ⟨q1, fun z1 => ⟨q2, fun z2 => ⟨fun z => ?_, fun z3 => ⟨fun z => ?_, fun z4 => ⟨fun z => ?_, fun z5 => q6 z0 z1 z2 z3 z4 z5⟩⟩⟩⟩⟩⟩
      · exact k_about_kept hr1 hy t2 u4 (q3 z) _ 0 (Nat.zero_add _)
      · exact k_about_shows hr1 hy t2 u4 (q4 z) _ 0 (Nat.zero_add _)
      · exact k_about_timers hr1 hy t2 u4 (q5 z) _ 0 (Nat.zero_add _)
    refine ⟨fun z => ?_, fun z0 => ⟨fun z => ?_, fun z1 => ⟨fun z => ?_, fun z2 => ⟨fun z => ?_, fun z3 => ⟨fun z => ?_, fun z4 => ⟨fun z => ?_, fun z5 => ?_⟩⟩⟩⟩⟩⟩
    · subst z
      exact model _ (fun h2 i2 => ⟨fun _ => ⟨rfl, i2⟩, fun q => absurd q (by decide), fun q => absurd q (by decide), fun q => absurd q (by decide), fun q => absurd q (by decide), fun q => absurd q (by decide), fun q => absurd rfl q⟩)
    · subst z
      exact model _ (fun h2 i2 => ⟨fun q => absurd q (by decide), fun _ => ⟨rfl, i2⟩, fun q => absurd q (by decide), fun q => absurd q (by decide), fun q => absurd q (by decide), fun q => absurd q (by decide), fun _ q => absurd rfl q⟩)
    · subst z
      exact model _ (fun h2 i2 => ⟨fun q => absurd q (by decide), fun q => absurd q (by decide), fun _ => ⟨rfl, i2⟩, fun q => absurd q (by decide), fun q => absurd q (by decide), fun q => absurd q (by decide), fun _ _ q => absurd rfl q⟩)
    · subst z
      exact model _ (fun h2 i2 => ⟨fun q => absurd q (by decide), fun q => absurd q (by decide), fun q => absurd q (by decide), fun _ => ⟨rfl, i2⟩, fun q => absurd q (by decide), fun q => absurd q (by decide), fun _ _ _ q => absurd rfl q⟩)
    · subst z
      exact model _ (fun h2 i2 => ⟨fun q => absurd q (by decide), fun q => absurd q (by decide), fun q => absurd q (by decide), fun q => absurd q (by decide), fun _ => ⟨rfl, i2⟩, fun q => absurd q (by decide), fun _ _ _ _ q => absurd rfl q⟩)
    · subst z
      exact model _ (fun h2 i2 => ⟨fun q => absurd q (by decide), fun q => absurd q (by decide), fun q => absurd q (by decide), fun q => absurd q (by decide), fun q => absurd q (by decide), fun _ => ⟨rfl, i2⟩, fun _ _ _ _ _ q => absurd rfl q⟩)
    · exact model _ (fun h2 i2 => ⟨fun q => absurd q z0, fun q => absurd q z1, fun q => absurd q z2, fun q => absurd q z3, fun q => absurd q z4, fun q => absurd q z5, fun _ _ _ _ _ _ => ⟨rfl, i2⟩⟩)
  · refine c_X9_about (s_X9_about_0 ⟨is_1, q_has_n hI.c hT ⟨fun z => absurd rfl z, fun _ => ?_⟩⟩)
    refine c_X12_about (s_X12_about_0 ⟨is_103, ?_⟩)
    intro h2 e2
    obtain ⟨i1, f1, e0⟩ := mIn hI e2
    exact q_isApp_n i1 hT ⟨fun z => absurd rfl z, fun _ => ⟨rfl, e0⟩⟩
theorem ob_button {l : Launch} {g : AG} (h : AH) (a1 a2 a3 : Int32) (hI : Inv h) : C_X9_button l g h 1 a1 a2 a3 (fun r h1 => C_X12_button l g h1 103 a1 a2 a3 (fun r2 h2 => r2 = r ∧ Inv h2)) := by
  obtain ⟨X, Y, D, S, t, hI⟩ := hI
  by_cases hT : Tel t a1
  · obtain ⟨a, ha, rfl, ht⟩ := hT
    have hr := hI.1
    have hA := hI.2.1
    obtain ⟨t1, t2, t3, t4, t5, t6, t7, t8⟩ := (hI.2.2.1 a ha).1 ht
    have hx := hA.isx ha
    have hy := hA.isy ha
    have h24 := t2.1.2.2.1
    refine c_X9_button (s_X9_button_0 ⟨is_1, q_has_y hI.c ha ht ⟨fun z => absurd z (by decide), fun _ => ?_⟩⟩)
    rcases i_split a2 with c | ⟨b, hb, rfl⟩
    · refine ⟨fun _ => ?_, fun q => absurd c q⟩
      refine c_X12_button (s_X12_button_0 ⟨is_103, ?_⟩)
      intro h2 e2
      obtain ⟨i1, f1, e0⟩ := mIn hI e2
      exact q_isApp_y i1 ha ht ⟨fun z => absurd z (by decide), fun _ => ⟨fun _ => ⟨rfl, e0⟩, fun q => absurd c q⟩⟩
    · simp (disch := first | assumption | omega) only [true_and, and_true, forall_eq, true_implies, false_implies, implies_true, not_true_eq_false, not_false_eq_true, false_and, and_false, ne_eq, ite_true, ite_false, Nat.reduceLeDiff, Nat.reduceEqDiff, Nat.reduceLT, Nat.reduceAdd, Nat.reduceMul, Nat.reduceSub, Nat.le_refl, eq_self, li_0, li_1, li_2, li_3, li_4, li_5, li_6, li_7, li_8, li_9, li_10, li_11, li_12, li_13, li_14, li_15, li_16, li_17, li_18, li_19, li_20, li_21, li_22, li_23, li_24, li_25, li_26, li_27, li_28, li_29, li_30, li_31, li_32, li_44, li_48, li_57, li_59, li_60, li_61, li_62, li_63, li_97, li_100, li_122, li_123, li_125, li_127, li_255, li_400, li_401, li_800, li_1023, li_1024, li_10827, i_add, i_mul, i_sub, i_p1, i_m1, i_nm, i_nm2, i_cl, i_cl0, vi_ok, i_lt, i_le, i_eq, lg_e, rf_1_0, rf_1_2, rf_1_4, rf_1_5, rf_1_6, rf_1_7, rf_1_8, rf_1_10, is_1, is_2, sz_2, is_3, sz_3, is_67, sz_67, is_73, sz_73, is_74, sz_74, is_93, sz_93, is_101, sz_101, is_102, sz_102, hA.x ha, isA_x hx, t3.1.2.1, show ¬ b < 0 by omega]
      by_cases c : b < D a 0 1
      · refine ⟨fun _ => ?_, fun z => absurd c z⟩
        have q1 := t3.2.2.2.1 b c
        have q2 := t3.2.2.2.2.1 b c
        have q3 := t3.2.2.2.2.2 b (Or.inl c)
        have model : ∀ Q : Int32 → AH → Prop, (∀ h2, Inv h2 → ((a3 = Int32.ofNat 0 → Q (Int32.ofNat (D a 9 b)) h2) ∧ (a3 = Int32.ofNat 1 → Q (Int32.ofNat (D a 10 b)) h2) ∧ (a3 = Int32.ofNat 2 → Q (Int32.ofNat (D a 14 b)) h2) ∧ (¬ a3 = Int32.ofNat 0 → ¬ a3 = Int32.ofNat 1 → ¬ a3 = Int32.ofNat 2 → Q (-1) h2))) → C_X12_button l g h 103 (Int32.ofNat a) (Int32.ofNat b) a3 Q := by
          intro Q hq
          refine c_X12_button (s_X12_button_0 ⟨is_103, ?_⟩)
          intro h2 e2
          obtain ⟨i1, f1, e0⟩ := mIn hI e2
          clear e2
          obtain ⟨u1, u2, u3, u4, u5, u6, u7, u8⟩ := (i1.2.2.1 a ha).1 ht
          have hA1 := i1.2.1
          have hr1 := i1.1
          obtain ⟨q0, q1, q2, q3⟩ := hq h2 e0
          have v1 := u4.2.2.2.1 b c
          have v3 := u4.2.2.2.2 b (Or.inl c)
          refine q_isApp_y i1 ha ht ⟨fun z => absurd z (by decide), fun _ => ?_⟩
          simp (disch := first | assumption | omega) only [true_and, and_true, forall_eq, true_implies, false_implies, implies_true, not_true_eq_false, not_false_eq_true, false_and, and_false, ne_eq, ite_true, ite_false, Nat.reduceLeDiff, Nat.reduceEqDiff, Nat.reduceLT, Nat.reduceAdd, Nat.reduceMul, Nat.reduceSub, Nat.le_refl, eq_self, li_0, li_1, li_2, li_3, li_4, li_5, li_6, li_7, li_8, li_9, li_10, li_11, li_12, li_13, li_14, li_15, li_16, li_17, li_18, li_19, li_20, li_21, li_22, li_23, li_24, li_25, li_26, li_27, li_28, li_29, li_30, li_31, li_32, li_44, li_48, li_57, li_59, li_60, li_61, li_62, li_63, li_97, li_100, li_122, li_123, li_125, li_127, li_255, li_400, li_401, li_800, li_1023, li_1024, li_10827, i_add, i_mul, i_sub, i_p1, i_m1, i_nm, i_nm2, i_cl, i_cl0, vi_ok, i_lt, i_le, i_eq, lg_e, rf_103_4, rf_103_6, rf_103_7, rf_103_8, rf_103_9, rf_103_10, rf_103_21, rf_103_22, rf_103_23, rf_103_26, rf_103_27, rf_103_28, rf_103_29, rf_103_30, rf_103_31, rf_103_32, rf_103_33, rf_103_34, rf_103_35, rf_103_37, rf_103_38, rf_103_39, rf_103_44, rf_103_45, rf_103_46, rf_103_47, rf_103_48, rf_103_49, rf_103_54, rf_103_55, is_103, is_104, sz_104, is_125, sz_125, is_126, sz_126, is_127, sz_127, is_128, sz_128, is_129, sz_129, is_130, sz_130, is_131, sz_131, is_132, sz_132, is_133, sz_133, is_134, sz_134, is_135, sz_135, is_136, sz_136, is_137, sz_137, is_138, sz_138, is_139, sz_139, is_140, sz_140, is_141, sz_141, is_142, sz_142, is_143, sz_143, is_144, sz_144, is_145, sz_145, is_146, sz_146, is_147, sz_147, is_148, sz_148, is_149, sz_149, is_150, sz_150, is_151, sz_151, is_152, sz_152, is_153, sz_153, hA1.y ha, isB_x, rfB_3, rfB_4, rfB_5, rfB_6, rfB_7, rfB_8, rfB_9, rfB_10, rfB_11, rfB_12, rfB_13, rfB_14, rfB_15, rfB_16, rfB_17, rfB_18, rfB_19, rfB_20, rfB_21, isB_1, szB_1, isB_2, szB_2, isB_3, szB_3, isB_4, szB_4, isB_5, szB_5, isB_6, szB_6, isB_7, szB_7, isB_8, szB_8, isB_9, szB_9, isB_10, szB_10, isB_11, szB_11, isB_12, szB_12, isB_13, szB_13, isB_14, szB_14, isB_15, szB_15, isB_16, szB_16, isB_17, szB_17, isB_18, szB_18, isB_19, szB_19, u4.1.2.1, v1.2.1, v1.2.2.1, v3.1, show ¬ b < 0 by omega, c]
          exact ⟨fun z0 => ⟨fun z1 => ⟨fun z2 => q3 z0 z1 z2, q2⟩, q1⟩, q0⟩
        simp (disch := first | assumption | omega) only [true_and, and_true, forall_eq, true_implies, false_implies, implies_true, not_true_eq_false, not_false_eq_true, false_and, and_false, ne_eq, ite_true, ite_false, Nat.reduceLeDiff, Nat.reduceEqDiff, Nat.reduceLT, Nat.reduceAdd, Nat.reduceMul, Nat.reduceSub, Nat.le_refl, eq_self, li_0, li_1, li_2, li_3, li_4, li_5, li_6, li_7, li_8, li_9, li_10, li_11, li_12, li_13, li_14, li_15, li_16, li_17, li_18, li_19, li_20, li_21, li_22, li_23, li_24, li_25, li_26, li_27, li_28, li_29, li_30, li_31, li_32, li_44, li_48, li_57, li_59, li_60, li_61, li_62, li_63, li_97, li_100, li_122, li_123, li_125, li_127, li_255, li_400, li_401, li_800, li_1023, li_1024, li_10827, i_add, i_mul, i_sub, i_p1, i_m1, i_nm, i_nm2, i_cl, i_cl0, vi_ok, i_lt, i_le, i_eq, lg_e, isA_x, rfA_7, rfA_8, rfA_9, rfA_10, rfA_11, rfA_12, rfA_13, rfA_14, rfA_15, rfA_16, rfA_17, rfA_18, rfC_0, rfD_0, rfC_1, rfD_1, rfC_2, rfD_2, rfC_3, rfD_3, isA_1, szA_1, isA_2, szA_2, isA_3, szA_3, isA_4, szA_4, isA_5, szA_5, isA_6, szA_6, isA_7, szA_7, isA_8, szA_8, isA_9, szA_9, isA_10, szA_10, isA_11, szA_11, isA_12, szA_12, isA_13, szA_13, isA_14, szA_14, isA_15, szA_15, isA_16, szA_16, isA_17, szA_17, isA_18, szA_18, isA_19, szA_19, isA_20, szA_20, q1.2, q2.1, q3.1]
        refine ⟨fun z => ?_, fun z0 => ⟨fun z => ?_, fun z1 => ⟨fun z => ?_, fun z2 => ?_⟩⟩⟩
        · subst z
          exact model _ (fun h2 i2 => ⟨fun _ => ⟨rfl, i2⟩, fun q => absurd q (by decide), fun q => absurd q (by decide), fun q => absurd rfl q⟩)
        · subst z
          exact model _ (fun h2 i2 => ⟨fun q => absurd q (by decide), fun _ => ⟨rfl, i2⟩, fun q => absurd q (by decide), fun _ q => absurd rfl q⟩)
        · subst z
          exact model _ (fun h2 i2 => ⟨fun q => absurd q (by decide), fun q => absurd q (by decide), fun _ => ⟨rfl, i2⟩, fun _ _ q => absurd rfl q⟩)
        · exact model _ (fun h2 i2 => ⟨fun q => absurd q z0, fun q => absurd q z1, fun q => absurd q z2, fun _ _ _ => ⟨rfl, i2⟩⟩)
      · refine ⟨fun z => absurd z c, fun _ => ?_⟩
        refine c_X12_button (s_X12_button_0 ⟨is_103, ?_⟩)
        intro h2 e2
        obtain ⟨i1, f1, e0⟩ := mIn hI e2
        clear e2
        obtain ⟨u1, u2, u3, u4, u5, u6, u7, u8⟩ := (i1.2.2.1 a ha).1 ht
        have hA1 := i1.2.1
        have hr1 := i1.1
        refine q_isApp_y i1 ha ht ⟨fun z => absurd z (by decide), fun _ => ?_⟩
        simp (disch := first | assumption | omega) only [true_and, and_true, forall_eq, true_implies, false_implies, implies_true, not_true_eq_false, not_false_eq_true, false_and, and_false, ne_eq, ite_true, ite_false, Nat.reduceLeDiff, Nat.reduceEqDiff, Nat.reduceLT, Nat.reduceAdd, Nat.reduceMul, Nat.reduceSub, Nat.le_refl, eq_self, li_0, li_1, li_2, li_3, li_4, li_5, li_6, li_7, li_8, li_9, li_10, li_11, li_12, li_13, li_14, li_15, li_16, li_17, li_18, li_19, li_20, li_21, li_22, li_23, li_24, li_25, li_26, li_27, li_28, li_29, li_30, li_31, li_32, li_44, li_48, li_57, li_59, li_60, li_61, li_62, li_63, li_97, li_100, li_122, li_123, li_125, li_127, li_255, li_400, li_401, li_800, li_1023, li_1024, li_10827, i_add, i_mul, i_sub, i_p1, i_m1, i_nm, i_nm2, i_cl, i_cl0, vi_ok, i_lt, i_le, i_eq, lg_e, rf_103_4, rf_103_6, rf_103_7, rf_103_8, rf_103_9, rf_103_10, rf_103_21, rf_103_22, rf_103_23, rf_103_26, rf_103_27, rf_103_28, rf_103_29, rf_103_30, rf_103_31, rf_103_32, rf_103_33, rf_103_34, rf_103_35, rf_103_37, rf_103_38, rf_103_39, rf_103_44, rf_103_45, rf_103_46, rf_103_47, rf_103_48, rf_103_49, rf_103_54, rf_103_55, is_103, is_104, sz_104, is_125, sz_125, is_126, sz_126, is_127, sz_127, is_128, sz_128, is_129, sz_129, is_130, sz_130, is_131, sz_131, is_132, sz_132, is_133, sz_133, is_134, sz_134, is_135, sz_135, is_136, sz_136, is_137, sz_137, is_138, sz_138, is_139, sz_139, is_140, sz_140, is_141, sz_141, is_142, sz_142, is_143, sz_143, is_144, sz_144, is_145, sz_145, is_146, sz_146, is_147, sz_147, is_148, sz_148, is_149, sz_149, is_150, sz_150, is_151, sz_151, is_152, sz_152, is_153, sz_153, hA1.y ha, isB_x, rfB_3, rfB_4, rfB_5, rfB_6, rfB_7, rfB_8, rfB_9, rfB_10, rfB_11, rfB_12, rfB_13, rfB_14, rfB_15, rfB_16, rfB_17, rfB_18, rfB_19, rfB_20, rfB_21, isB_1, szB_1, isB_2, szB_2, isB_3, szB_3, isB_4, szB_4, isB_5, szB_5, isB_6, szB_6, isB_7, szB_7, isB_8, szB_8, isB_9, szB_9, isB_10, szB_10, isB_11, szB_11, isB_12, szB_12, isB_13, szB_13, isB_14, szB_14, isB_15, szB_15, isB_16, szB_16, isB_17, szB_17, isB_18, szB_18, isB_19, szB_19, u4.1.2.1, show ¬ b < 0 by omega, c]
        exact e0
  · refine c_X9_button (s_X9_button_0 ⟨is_1, q_has_n hI.c hT ⟨fun _ => ?_, fun z => absurd rfl z⟩⟩)
    refine c_X12_button (s_X12_button_0 ⟨is_103, ?_⟩)
    intro h2 e2
    obtain ⟨i1, f1, e0⟩ := mIn hI e2
    exact q_isApp_n i1 hT ⟨fun _ => ⟨rfl, e0⟩, fun z => absurd rfl z⟩
