def PX (c p : Nat) : Prop := (133 ≤ c ∧ c ≤ 137) ∨ (c = 103 ∧ p = 25)
def PMM (c p : Nat) : Prop := PS c p ∨ (133 ≤ c ∧ c ≤ 138) ∨ c = 142 ∨ (c = 103 ∧ p = 25)
theorem PMM_no {c p : Nat} (h : PMM c p) : (130 ≤ c ∧ c ≤ 138) ∨ c = 142 ∨ (c = 103 ∧ (p = 19 ∨ p = 20 ∨ p = 25)) := by
  unfold PMM PS at h
  omega
theorem k_stateOf {l : Launch} {g : AG} {h : AH} {D : AD} {n : Nat} {ST : Nat → AS} {T : AS} {Q : Int32 → AH → Prop} (hr : Refs h) (hn : n ≤ 400) (e25 : h.1 103 25 = Int32.ofNat n) (hv : ∀ i, i < n → h.2.1 133 i = Int64.ofNat (ea (ST i) 5) ∧ h.2.1 134 i = Int64.ofNat (eb (ST i).2.2.2.2 6) ∧ WS (D 0 0) (ST i)) (wT : WS (D 0 0) T) (q1 : ∀ i, i < n → en (ST i) = en T → Q (Int32.ofNat i) h) (q2 : (∀ i, i < n → en (ST i) ≠ en T) → Q (-1) h) : C_X12_stateOf l g h 103 (Int64.ofNat (ea T 5)) (Int64.ofNat (eb T.2.2.2.2 6)) Q := by
  have loop : ∀ d i, i + d = n → (∀ j, j < i → en (ST j) ≠ en T) → L_X12_stateOf_3 l g h 103 (Int64.ofNat (ea T 5)) (Int64.ofNat (eb T.2.2.2.2 6)) (Int32.ofNat i) Q := by
    intro d
    induction d with
    | zero =>
      intro i hi hl
      refine s_X12_stateOf_3 ?_
      simp (disch := first | assumption | omega) only [true_and, and_true, forall_eq, true_implies, false_implies, implies_true, not_true_eq_false, not_false_eq_true, false_and, and_false, ne_eq, ite_true, ite_false, Nat.reduceLeDiff, Nat.reduceEqDiff, Nat.reduceLT, Nat.reduceAdd, Nat.reduceMul, Nat.reduceSub, Nat.le_refl, eq_self, li_0, li_1, li_2, li_3, li_4, li_5, li_6, li_7, li_8, li_9, li_10, li_11, li_12, li_13, li_14, li_15, li_16, li_17, li_18, li_19, li_20, li_21, li_22, li_23, li_24, li_25, li_26, li_27, li_28, li_29, li_30, li_31, li_32, li_44, li_48, li_57, li_59, li_60, li_61, li_62, li_63, li_97, li_100, li_122, li_123, li_125, li_127, li_255, li_400, li_401, li_800, li_1023, li_1024, li_10827, i_add, i_mul, i_sub, i_p1, i_m1, i_nm, i_nm2, i_cl, i_cl0, vi_ok, i_lt, i_le, i_eq, lg_e, is_103, e25, show n ≤ i by omega]
      refine s_X12_stateOf_42 ?_
      simp (disch := first | assumption | omega) only [true_and, and_true, forall_eq, true_implies, false_implies, implies_true, not_true_eq_false, not_false_eq_true, false_and, and_false, ne_eq, ite_true, ite_false, Nat.reduceLeDiff, Nat.reduceEqDiff, Nat.reduceLT, Nat.reduceAdd, Nat.reduceMul, Nat.reduceSub, Nat.le_refl, eq_self, li_0, li_1, li_2, li_3, li_4, li_5, li_6, li_7, li_8, li_9, li_10, li_11, li_12, li_13, li_14, li_15, li_16, li_17, li_18, li_19, li_20, li_21, li_22, li_23, li_24, li_25, li_26, li_27, li_28, li_29, li_30, li_31, li_32, li_44, li_48, li_57, li_59, li_60, li_61, li_62, li_63, li_97, li_100, li_122, li_123, li_125, li_127, li_255, li_400, li_401, li_800, li_1023, li_1024, li_10827, i_add, i_mul, i_sub, i_p1, i_m1, i_nm, i_nm2, i_cl, i_cl0, vi_ok, i_lt, i_le, i_eq, lg_e, is_103, e25, show n ≤ i by omega]
      exact q2 (fun j hj => hl j (by omega))
    | succ d ih =>
      intro i hi hl
      obtain ⟨v1, v2, w⟩ := hv i (by omega)
      have b1 := ea_lt w
      have b2 := ea_lt wT
      have b3 := eb_lt w.2.2.2.2.2
      have b4 := eb_lt wT.2.2.2.2.2
      have eq := en_iff w wT
      have nx : en (ST i) ≠ en T → L_X12_stateOf_3 l g h 103 (Int64.ofNat (ea T 5)) (Int64.ofNat (eb T.2.2.2.2 6)) (Int32.ofNat (i + 1)) Q := by
        intro z
        refine ih (i + 1) (by omega) (fun j hj => ?_)
        by_cases c : j = i
        · rw [c]; exact z
        · exact hl j (by omega)
      refine s_X12_stateOf_3 ?_
      simp (disch := first | assumption | omega) only [true_and, and_true, forall_eq, true_implies, false_implies, implies_true, not_true_eq_false, not_false_eq_true, false_and, and_false, ne_eq, ite_true, ite_false, Nat.reduceLeDiff, Nat.reduceEqDiff, Nat.reduceLT, Nat.reduceAdd, Nat.reduceMul, Nat.reduceSub, Nat.le_refl, eq_self, li_0, li_1, li_2, li_3, li_4, li_5, li_6, li_7, li_8, li_9, li_10, li_11, li_12, li_13, li_14, li_15, li_16, li_17, li_18, li_19, li_20, li_21, li_22, li_23, li_24, li_25, li_26, li_27, li_28, li_29, li_30, li_31, li_32, li_44, li_48, li_57, li_59, li_60, li_61, li_62, li_63, li_97, li_100, li_122, li_123, li_125, li_127, li_255, li_400, li_401, li_800, li_1023, li_1024, li_10827, i_add, i_mul, i_sub, i_p1, i_m1, i_nm, i_nm2, i_cl, i_cl0, vi_ok, i_lt, i_le, i_eq, lg_e, rf_103_4, rf_103_6, rf_103_7, rf_103_8, rf_103_9, rf_103_10, rf_103_21, rf_103_22, rf_103_23, rf_103_26, rf_103_27, rf_103_28, rf_103_29, rf_103_30, rf_103_31, rf_103_32, rf_103_33, rf_103_34, rf_103_35, rf_103_37, rf_103_38, rf_103_39, rf_103_44, rf_103_45, rf_103_46, rf_103_47, rf_103_48, rf_103_49, rf_103_54, rf_103_55, is_103, is_104, sz_104, is_125, sz_125, is_126, sz_126, is_127, sz_127, is_128, sz_128, is_129, sz_129, is_130, sz_130, is_131, sz_131, is_132, sz_132, is_133, sz_133, is_134, sz_134, is_135, sz_135, is_136, sz_136, is_137, sz_137, is_138, sz_138, is_139, sz_139, is_140, sz_140, is_141, sz_141, is_142, sz_142, is_143, sz_143, is_144, sz_144, is_145, sz_145, is_146, sz_146, is_147, sz_147, is_148, sz_148, is_149, sz_149, is_150, sz_150, is_151, sz_151, is_152, sz_152, is_153, sz_153, e25, v1, v2, show ¬ n ≤ i by omega]
      refine ⟨fun z => nx (fun e => z (by rw [(eq.1 e).1])), fun z => ⟨fun z2 => ?_, fun z2 => nx (fun e => z2 (by rw [(eq.1 e).2]))⟩⟩
      refine s_X12_stateOf_42 ?_
      simp (disch := first | assumption | omega) only [true_and, and_true, forall_eq, true_implies, false_implies, implies_true, not_true_eq_false, not_false_eq_true, false_and, and_false, ne_eq, ite_true, ite_false, Nat.reduceLeDiff, Nat.reduceEqDiff, Nat.reduceLT, Nat.reduceAdd, Nat.reduceMul, Nat.reduceSub, Nat.le_refl, eq_self, li_0, li_1, li_2, li_3, li_4, li_5, li_6, li_7, li_8, li_9, li_10, li_11, li_12, li_13, li_14, li_15, li_16, li_17, li_18, li_19, li_20, li_21, li_22, li_23, li_24, li_25, li_26, li_27, li_28, li_29, li_30, li_31, li_32, li_44, li_48, li_57, li_59, li_60, li_61, li_62, li_63, li_97, li_100, li_122, li_123, li_125, li_127, li_255, li_400, li_401, li_800, li_1023, li_1024, li_10827, i_add, i_mul, i_sub, i_p1, i_m1, i_nm, i_nm2, i_cl, i_cl0, vi_ok, i_lt, i_le, i_eq, lg_e, is_103, e25, show ¬ n ≤ i by omega]
      exact q1 i (by omega) (eq.2 ⟨(l_eq (by omega) (by omega)).1 z, (l_eq (by omega) (by omega)).1 z2⟩)
  exact c_X12_stateOf (s_X12_stateOf_0 (loop n 0 (Nat.zero_add _) (fun j hj => absurd hj (Nat.not_lt_zero j))))
theorem k_meets {l : Launch} {g : AG} {h : AH} {D : AD} {n : Nat} {T : AS} {x1 x2 : Int32} {Q : AH → Prop} (hr : Refs h) (hn : n < 400) (e25 : h.1 103 25 = Int32.ofNat n) (wT : WS (D 0 0) T) (hS : RepS h T) (hx1 : x1 = -1 ∨ ∃ s, s < 400 ∧ x1 = Int32.ofNat s) (hq : ∀ h', Refs h' → Fr PX h h' → h'.1 103 25 = Int32.ofNat (n + 1) → h'.2.1 133 n = Int64.ofNat (ea T 5) → h'.2.1 134 n = Int64.ofNat (eb T.2.2.2.2 6) → h'.1 135 n = x1 → h'.1 136 n = x2 → h'.1 137 n = (if x1 = -1 then 0 else h.1 137 x1.toNatClampNeg + 1) → (∀ c i, i ≠ n → c ≠ 103 → h'.1 c i = h.1 c i ∧ h'.2.1 c i = h.2.1 c i) → Q h') : C_X12_meets l g h 103 x1 x2 Q := by
  refine c_X12_meets (s_X12_meets_0 ?_)
  rw [e25, rf_103_26 hr, sz_133, i_cl (by omega)]
  refine ⟨is_103, is_133, k_X12_packed hr wT hS ⟨vi_ok (by omega) (by omega), ?_⟩⟩
  intro h7 e7
  have r7 : Refs h7 := by rw [e7]; exact hr.setL
  have s7 : RepS h7 T := by rw [e7]; exact hS
  have n7 : h7.1 103 25 = Int32.ofNat n := by rw [e7]; exact e25
  rw [rf_103_27 r7, n7, sz_134, i_cl (by omega)]
  refine ⟨is_134, k_X12_packedVars r7 wT s7 ⟨vi_ok (by omega) (by omega), ?_⟩⟩
  intro h14 e14
  have r14 : Refs h14 := by rw [e14]; exact r7.setL
  have n14 : h14.1 103 25 = Int32.ofNat n := by rw [e14]; exact n7
  rw [rf_103_28 r14, n14, sz_135, i_cl (by omega)]
  refine ⟨is_135, vi_ok (by omega) (by omega), ?_⟩
  intro h18 e18
  have r18 : Refs h18 := by rw [e18]; exact r14.setI
  have n18 : h18.1 103 25 = Int32.ofNat n := by rw [e18, gI_c (by omega)]; exact n14
  rw [rf_103_29 r18, n18, sz_136, i_cl (by omega)]
  refine ⟨is_136, vi_ok (by omega) (by omega), ?_⟩
  intro h22 e22
  have r22 : Refs h22 := by rw [e22]; exact r18.setI
  have n22 : h22.1 103 25 = Int32.ofNat n := by rw [e22, gI_c (by omega)]; exact n18
  rw [rf_103_30 r22, n22, sz_137, i_cl (by omega)]
  have o137 : ∀ p, h22.1 137 p = h.1 137 p := fun p => by
    rw [e22, gI_c (by omega), e18, gI_c (by omega), e14, e7]
    rfl
  have fin : ∀ v : Int32, v = (if x1 = -1 then 0 else h.1 137 x1.toNatClampNeg + 1) → ∀ h29, h29 = ax_setI h22 137 n v → ∀ h31, h31 = ax_setI h29 103 25 (h29.1 103 25 + 1) → Q h31 := by
    intro v ev h29 e29 h31 e31
    have n29 : h29.1 103 25 = Int32.ofNat n := by rw [e29, gI_c (by omega)]; exact n22
    rw [n29, i_p1] at e31
    subst e31 e29 e22 e18 e14 e7
    refine hq _ hr.setL.setL.setI.setI.setI.setI ?_ (gI_s _ _ _ _) ?_ ?_ ?_ ?_ ?_ (fun c i hi hc => ?_)
    · have f0 := Fr.refl PX h
      exact (((((f0.setL (Or.inl ⟨by omega, by omega⟩)).setL (Or.inl ⟨by omega, by omega⟩)).setI (Or.inl ⟨by omega, by omega⟩)).setI (Or.inl ⟨by omega, by omega⟩)).setI (Or.inl ⟨by omega, by omega⟩)).setI (Or.inr ⟨rfl, rfl⟩)
    · simp (disch := first | assumption | omega) only [true_and, and_true, forall_eq, true_implies, false_implies, implies_true, not_true_eq_false, not_false_eq_true, false_and, and_false, ne_eq, ite_true, ite_false, Nat.reduceLeDiff, Nat.reduceEqDiff, Nat.reduceLT, Nat.reduceAdd, Nat.reduceMul, Nat.reduceSub, Nat.le_refl, eq_self, li_0, li_1, li_2, li_3, li_4, li_5, li_6, li_7, li_8, li_9, li_10, li_11, li_12, li_13, li_14, li_15, li_16, li_17, li_18, li_19, li_20, li_21, li_22, li_23, li_24, li_25, li_26, li_27, li_28, li_29, li_30, li_31, li_32, li_44, li_48, li_57, li_59, li_60, li_61, li_62, li_63, li_97, li_100, li_122, li_123, li_125, li_127, li_255, li_400, li_401, li_800, li_1023, li_1024, li_10827, i_add, i_mul, i_sub, i_p1, i_m1, i_nm, i_nm2, i_cl, i_cl0, vi_ok, i_lt, i_le, i_eq, lg_e, gI_s, gI_c, gI_p, gI_L, gI_R, gL_s, gL_c, gL_p, gL_I, gL_R, gR_s, gR_c, gR_p, gR_I, gR_L]
    · simp (disch := first | assumption | omega) only [true_and, and_true, forall_eq, true_implies, false_implies, implies_true, not_true_eq_false, not_false_eq_true, false_and, and_false, ne_eq, ite_true, ite_false, Nat.reduceLeDiff, Nat.reduceEqDiff, Nat.reduceLT, Nat.reduceAdd, Nat.reduceMul, Nat.reduceSub, Nat.le_refl, eq_self, li_0, li_1, li_2, li_3, li_4, li_5, li_6, li_7, li_8, li_9, li_10, li_11, li_12, li_13, li_14, li_15, li_16, li_17, li_18, li_19, li_20, li_21, li_22, li_23, li_24, li_25, li_26, li_27, li_28, li_29, li_30, li_31, li_32, li_44, li_48, li_57, li_59, li_60, li_61, li_62, li_63, li_97, li_100, li_122, li_123, li_125, li_127, li_255, li_400, li_401, li_800, li_1023, li_1024, li_10827, i_add, i_mul, i_sub, i_p1, i_m1, i_nm, i_nm2, i_cl, i_cl0, vi_ok, i_lt, i_le, i_eq, lg_e, gI_s, gI_c, gI_p, gI_L, gI_R, gL_s, gL_c, gL_p, gL_I, gL_R, gR_s, gR_c, gR_p, gR_I, gR_L]
    · simp (disch := first | assumption | omega) only [true_and, and_true, forall_eq, true_implies, false_implies, implies_true, not_true_eq_false, not_false_eq_true, false_and, and_false, ne_eq, ite_true, ite_false, Nat.reduceLeDiff, Nat.reduceEqDiff, Nat.reduceLT, Nat.reduceAdd, Nat.reduceMul, Nat.reduceSub, Nat.le_refl, eq_self, li_0, li_1, li_2, li_3, li_4, li_5, li_6, li_7, li_8, li_9, li_10, li_11, li_12, li_13, li_14, li_15, li_16, li_17, li_18, li_19, li_20, li_21, li_22, li_23, li_24, li_25, li_26, li_27, li_28, li_29, li_30, li_31, li_32, li_44, li_48, li_57, li_59, li_60, li_61, li_62, li_63, li_97, li_100, li_122, li_123, li_125, li_127, li_255, li_400, li_401, li_800, li_1023, li_1024, li_10827, i_add, i_mul, i_sub, i_p1, i_m1, i_nm, i_nm2, i_cl, i_cl0, vi_ok, i_lt, i_le, i_eq, lg_e, gI_s, gI_c, gI_p, gI_L, gI_R, gL_s, gL_c, gL_p, gL_I, gL_R, gR_s, gR_c, gR_p, gR_I, gR_L]
    · simp (disch := first | assumption | omega) only [true_and, and_true, forall_eq, true_implies, false_implies, implies_true, not_true_eq_false, not_false_eq_true, false_and, and_false, ne_eq, ite_true, ite_false, Nat.reduceLeDiff, Nat.reduceEqDiff, Nat.reduceLT, Nat.reduceAdd, Nat.reduceMul, Nat.reduceSub, Nat.le_refl, eq_self, li_0, li_1, li_2, li_3, li_4, li_5, li_6, li_7, li_8, li_9, li_10, li_11, li_12, li_13, li_14, li_15, li_16, li_17, li_18, li_19, li_20, li_21, li_22, li_23, li_24, li_25, li_26, li_27, li_28, li_29, li_30, li_31, li_32, li_44, li_48, li_57, li_59, li_60, li_61, li_62, li_63, li_97, li_100, li_122, li_123, li_125, li_127, li_255, li_400, li_401, li_800, li_1023, li_1024, li_10827, i_add, i_mul, i_sub, i_p1, i_m1, i_nm, i_nm2, i_cl, i_cl0, vi_ok, i_lt, i_le, i_eq, lg_e, gI_s, gI_c, gI_p, gI_L, gI_R, gL_s, gL_c, gL_p, gL_I, gL_R, gR_s, gR_c, gR_p, gR_I, gR_L]
    · simp (disch := first | assumption | omega) only [true_and, and_true, forall_eq, true_implies, false_implies, implies_true, not_true_eq_false, not_false_eq_true, false_and, and_false, ne_eq, ite_true, ite_false, Nat.reduceLeDiff, Nat.reduceEqDiff, Nat.reduceLT, Nat.reduceAdd, Nat.reduceMul, Nat.reduceSub, Nat.le_refl, eq_self, li_0, li_1, li_2, li_3, li_4, li_5, li_6, li_7, li_8, li_9, li_10, li_11, li_12, li_13, li_14, li_15, li_16, li_17, li_18, li_19, li_20, li_21, li_22, li_23, li_24, li_25, li_26, li_27, li_28, li_29, li_30, li_31, li_32, li_44, li_48, li_57, li_59, li_60, li_61, li_62, li_63, li_97, li_100, li_122, li_123, li_125, li_127, li_255, li_400, li_401, li_800, li_1023, li_1024, li_10827, i_add, i_mul, i_sub, i_p1, i_m1, i_nm, i_nm2, i_cl, i_cl0, vi_ok, i_lt, i_le, i_eq, lg_e, gI_s, gI_c, gI_p, gI_L, gI_R, gL_s, gL_c, gL_p, gL_I, gL_R, gR_s, gR_c, gR_p, gR_I, gR_L]; exact ev
    · simp (disch := first | assumption | omega) only [true_and, and_true, forall_eq, true_implies, false_implies, implies_true, not_true_eq_false, not_false_eq_true, false_and, and_false, ne_eq, ite_true, ite_false, Nat.reduceLeDiff, Nat.reduceEqDiff, Nat.reduceLT, Nat.reduceAdd, Nat.reduceMul, Nat.reduceSub, Nat.le_refl, eq_self, li_0, li_1, li_2, li_3, li_4, li_5, li_6, li_7, li_8, li_9, li_10, li_11, li_12, li_13, li_14, li_15, li_16, li_17, li_18, li_19, li_20, li_21, li_22, li_23, li_24, li_25, li_26, li_27, li_28, li_29, li_30, li_31, li_32, li_44, li_48, li_57, li_59, li_60, li_61, li_62, li_63, li_97, li_100, li_122, li_123, li_125, li_127, li_255, li_400, li_401, li_800, li_1023, li_1024, li_10827, i_add, i_mul, i_sub, i_p1, i_m1, i_nm, i_nm2, i_cl, i_cl0, vi_ok, i_lt, i_le, i_eq, lg_e, gI_s, gI_c, gI_p, gI_L, gI_R, gL_s, gL_c, gL_p, gL_I, gL_R, gR_s, gR_c, gR_p, gR_I, gR_L]
  refine ⟨is_137, fun c => ?_, fun c => ⟨vi_ok (by omega) (by omega), fin 0 (by rw [if_pos c])⟩⟩
  rcases hx1 with z | ⟨s, s1, rfl⟩
  · exact absurd z c
  · rw [i_cl (by omega), o137]
    refine ⟨is_137, vi_ok (by omega) (by omega), vi_ok (by omega) (by omega), fin _ ?_⟩
    rw [if_neg c, i_cl (by omega)]
theorem MapM.upd {h h' : AH} {D : AD} {n s a dp : Nat} {ST : Nat → AS} {FR BY DP : Nat → Nat} {T : AS} (m : MapM h D n ST FR BY DP) (hn : 0 < n) (e25 : h'.1 103 25 = Int32.ofNat (n + 1)) (e1 : h'.2.1 133 n = Int64.ofNat (ea T 5)) (e2 : h'.2.1 134 n = Int64.ofNat (eb T.2.2.2.2 6)) (e3 : h'.1 135 n = Int32.ofNat s) (e4 : h'.1 136 n = Int32.ofNat a) (e5 : h'.1 137 n = Int32.ofNat dp) (o : ∀ c i, i ≠ n → c ≠ 103 → h'.1 c i = h.1 c i ∧ h'.2.1 c i = h.2.1 c i) : MapM h' D (n + 1) (upS ST n T) (nup FR n s) (nup BY n a) (nup DP n dp) := by
  refine ⟨e25, fun i hi => ?_⟩
  by_cases c : i = n
  · rw [c, upS_s, nup_s, nup_s, nup_s, if_neg (by omega), if_neg (by omega)]
    exact ⟨e1, e2, e3, e4, e5⟩
  · rw [upS_n c, nup_n c, nup_n c, nup_n c, (o 133 i c (by decide)).2, (o 134 i c (by decide)).2, (o 135 i c (by decide)).1, (o 136 i c (by decide)).1, (o 137 i c (by decide)).1]
    exact m.2 i (by omega)
def MRep (h : AH) (D : AD) (B : BT) (j : Nat) : Prop := MapM h D B.1 B.2.1 B.2.2.1 B.2.2.2.1 B.2.2.2.2.1 ∧ LdC h 142 D B.2.1 B.2.2.2.2.2 j
def canOK (h : AH) (D : AD) (B : BT) (s : Nat) : Prop := ∀ i, i < s → h.1 138 i = Int32.ofNat (bsum (possD D (B.2.1 i)) 27)
theorem MRep.fr {P : Nat → Nat → Prop} {h h1 : AH} {D : AD} {B : BT} {j : Nat} (m : MRep h D B j) (f : Fr P h h1) (e : ∀ c p, P c p → ¬ (133 ≤ c ∧ c ≤ 137) ∧ c ≠ 142 ∧ ¬ (c = 103 ∧ p = 25)) : MRep h1 D B j := ⟨m.1.fr f (fun c p q => by have := e c p q; omega), m.2.fr f (fun c p q => by have := e c p q; omega)⟩
theorem k_map {l : Launch} {g : AG} {h0 : AH} {y J : Nat} {x1 : Int32} {D : AD} {suc : Prop} {Q : Int32 → AH → Prop} (hy : isB y) (hD : WfD D) (hB0 : RepB h0 y D) (hend : bsEnd D J suc)
    (q1 : suc → ∀ h' se, Refs h' → Fr PMM h0 h' → J = 27 * se → (bsN D J).1 = se → MRep h' D (bsN D J) J → canOK h' D (bsN D J) se → ∀ h27, h27 = ax_setI h' 103 24 x1 → C_X12_parts l g h27 103 (fun h30 => C_X12_done l g h30 103 (h30.1 103 25) Q))
    (q0 : ¬ suc → ∀ h', Refs h' → Fr PMM h0 h' → C_X12_refused l g (ax_setI h' 103 25 0) 103 5 Q) : ∀ e s, 27 * s + e = J ∨ (27 * s ≤ J ∧ J - 27 * s ≤ e) → ∀ h, Refs h → Fr PMM h0 h → 27 * s ≤ J → MRep h D (bsN D (27 * s)) (27 * s) → canOK h D (bsN D (27 * s)) s → L_X12_map_48 l g h 103 x1 y (Int32.ofNat s) Q := by
  have hyu : y = 105 ∨ y = 154 ∨ y = 174 := hy
  obtain ⟨hok, hsuc, hfail⟩ := hend
  have okj : ∀ j, j ≤ J → bsOK D j := fun j hj i hi => hok i (by omega)
  intro e
  induction e using Nat.strongRecOn with
  | ind e ihe =>
  intro s hes h hr hf hsJ mr co
  have w := bsW_all hD _ (okj _ hsJ)
  have hn400 := w.1.2.1
  have hR : ∀ h', Fr PMM h0 h' → RepB h' y D := fun h' f' => hB0.fr f' (fun c p h1 h2 q => by have := PMM_no q; omega)
  refine s_X12_map_48 ?_
  rw [mr.1.1]
  by_cases hx : suc ∧ 27 * s = J
  · obtain ⟨hs, hj⟩ := hx
    obtain ⟨se, s1, s2⟩ := hsuc hs
    have es : se = s := by omega
    subst es
    have h400 : se ≤ 400 := by rw [hj, s2] at hn400; exact hn400
    rw [hj, s2]
    rw [hj] at mr co
    refine ⟨is_103, fun _ => ?_, fun c => absurd ((i_le (by omega) (by omega)).2 (Nat.le_refl se)) c⟩
    intro h27 e27
    exact q1 hs h se hr hf s1 s2 mr co h27 e27
  · have hsB : s < (bsN D (27 * s)).1 := by
      by_cases c : 27 * s < J
      · have := (hok (27 * s) c).2
        omega
      · have hj : 27 * s = J := by omega
        have := (hfail (fun z => hx ⟨z, hj⟩)).1
        rw [← hj] at this
        omega
    have wS := w.1.2.2.1 s hsB
    have v := mr.1.2 s hsB
    simp (disch := first | assumption | omega) only [true_and, and_true, forall_eq, true_implies, false_implies, implies_true, not_true_eq_false, not_false_eq_true, false_and, and_false, ne_eq, ite_true, ite_false, Nat.reduceLeDiff, Nat.reduceEqDiff, Nat.reduceLT, Nat.reduceAdd, Nat.reduceMul, Nat.reduceSub, Nat.le_refl, eq_self, li_0, li_1, li_2, li_3, li_4, li_5, li_6, li_7, li_8, li_9, li_10, li_11, li_12, li_13, li_14, li_15, li_16, li_17, li_18, li_19, li_20, li_21, li_22, li_23, li_24, li_25, li_26, li_27, li_28, li_29, li_30, li_31, li_32, li_44, li_48, li_57, li_59, li_60, li_61, li_62, li_63, li_97, li_100, li_122, li_123, li_125, li_127, li_255, li_400, li_401, li_800, li_1023, li_1024, li_10827, i_add, i_mul, i_sub, i_p1, i_m1, i_nm, i_nm2, i_cl, i_cl0, vi_ok, i_lt, i_le, i_eq, lg_e, rf_103_4, rf_103_6, rf_103_7, rf_103_8, rf_103_9, rf_103_10, rf_103_21, rf_103_22, rf_103_23, rf_103_26, rf_103_27, rf_103_28, rf_103_29, rf_103_30, rf_103_31, rf_103_32, rf_103_33, rf_103_34, rf_103_35, rf_103_37, rf_103_38, rf_103_39, rf_103_44, rf_103_45, rf_103_46, rf_103_47, rf_103_48, rf_103_49, rf_103_54, rf_103_55, is_103, is_104, sz_104, is_125, sz_125, is_126, sz_126, is_127, sz_127, is_128, sz_128, is_129, sz_129, is_130, sz_130, is_131, sz_131, is_132, sz_132, is_133, sz_133, is_134, sz_134, is_135, sz_135, is_136, sz_136, is_137, sz_137, is_138, sz_138, is_139, sz_139, is_140, sz_140, is_141, sz_141, is_142, sz_142, is_143, sz_143, is_144, sz_144, is_145, sz_145, is_146, sz_146, is_147, sz_147, is_148, sz_148, is_149, sz_149, is_150, sz_150, is_151, sz_151, is_152, sz_152, is_153, sz_153, v.1, v.2.1, show ¬ (bsN D (27 * s)).1 ≤ s by omega]
    refine k_X12_unpack hr wS (fun h1 f1 s1 => ?_)
    have r1 := f1.refs hr
    have ff1 : Fr PMM h0 h1 := hf.trans (f1.fr.mono (fun c p q => Or.inl q))
    simp (disch := first | assumption | omega) only [true_and, and_true, forall_eq, true_implies, false_implies, implies_true, not_true_eq_false, not_false_eq_true, false_and, and_false, ne_eq, ite_true, ite_false, Nat.reduceLeDiff, Nat.reduceEqDiff, Nat.reduceLT, Nat.reduceAdd, Nat.reduceMul, Nat.reduceSub, Nat.le_refl, eq_self, li_0, li_1, li_2, li_3, li_4, li_5, li_6, li_7, li_8, li_9, li_10, li_11, li_12, li_13, li_14, li_15, li_16, li_17, li_18, li_19, li_20, li_21, li_22, li_23, li_24, li_25, li_26, li_27, li_28, li_29, li_30, li_31, li_32, li_44, li_48, li_57, li_59, li_60, li_61, li_62, li_63, li_97, li_100, li_122, li_123, li_125, li_127, li_255, li_400, li_401, li_800, li_1023, li_1024, li_10827, i_add, i_mul, i_sub, i_p1, i_m1, i_nm, i_nm2, i_cl, i_cl0, vi_ok, i_lt, i_le, i_eq, lg_e, rf_103_4, rf_103_6, rf_103_7, rf_103_8, rf_103_9, rf_103_10, rf_103_21, rf_103_22, rf_103_23, rf_103_26, rf_103_27, rf_103_28, rf_103_29, rf_103_30, rf_103_31, rf_103_32, rf_103_33, rf_103_34, rf_103_35, rf_103_37, rf_103_38, rf_103_39, rf_103_44, rf_103_45, rf_103_46, rf_103_47, rf_103_48, rf_103_49, rf_103_54, rf_103_55, is_103, is_104, sz_104, is_125, sz_125, is_126, sz_126, is_127, sz_127, is_128, sz_128, is_129, sz_129, is_130, sz_130, is_131, sz_131, is_132, sz_132, is_133, sz_133, is_134, sz_134, is_135, sz_135, is_136, sz_136, is_137, sz_137, is_138, sz_138, is_139, sz_139, is_140, sz_140, is_141, sz_141, is_142, sz_142, is_143, sz_143, is_144, sz_144, is_145, sz_145, is_146, sz_146, is_147, sz_147, is_148, sz_148, is_149, sz_149, is_150, sz_150, is_151, sz_151, is_152, sz_152, is_153, sz_153, isB_x hy]
    refine k_X12_possible r1 hy wS s1 hD (hR h1 ff1) ?_
    (try simp (disch := first | assumption | omega) only [true_and, and_true, forall_eq, true_implies, false_implies, implies_true, not_true_eq_false, not_false_eq_true, false_and, and_false, ne_eq, ite_true, ite_false, Nat.reduceLeDiff, Nat.reduceEqDiff, Nat.reduceLT, Nat.reduceAdd, Nat.reduceMul, Nat.reduceSub, Nat.le_refl, eq_self, li_0, li_1, li_2, li_3, li_4, li_5, li_6, li_7, li_8, li_9, li_10, li_11, li_12, li_13, li_14, li_15, li_16, li_17, li_18, li_19, li_20, li_21, li_22, li_23, li_24, li_25, li_26, li_27, li_28, li_29, li_30, li_31, li_32, li_44, li_48, li_57, li_59, li_60, li_61, li_62, li_63, li_97, li_100, li_122, li_123, li_125, li_127, li_255, li_400, li_401, li_800, li_1023, li_1024, li_10827, i_add, i_mul, i_sub, i_p1, i_m1, i_nm, i_nm2, i_cl, i_cl0, vi_ok, i_lt, i_le, i_eq, lg_e])
    have ff2 : Fr PMM h0 (ax_setI h1 138 s (Int32.ofNat (bsum (possD D ((bsN D (27 * s)).2.1 s)) 27))) := ff1.setI (Or.inr (Or.inl ⟨by omega, by omega⟩))
    have fr2 : Fr (fun c p => PS c p ∨ c = 138) h (ax_setI h1 138 s (Int32.ofNat (bsum (possD D ((bsN D (27 * s)).2.1 s)) 27))) := (f1.fr.mono (fun c p q => Or.inl q)).setI (Or.inr rfl)
    have mr2 := mr.fr fr2 (fun c p q => by unfold PS at q; omega)
    have co2 : canOK (ax_setI h1 138 s (Int32.ofNat (bsum (possD D ((bsN D (27 * s)).2.1 s)) 27))) D (bsN D (27 * s)) (s + 1) := by
      intro i hi
      by_cases c : i = s
      · rw [gI_t rfl c, c]
      · rw [gI_p c, (f1.fr 138 i (fun q => by unfold PS at q; omega)).1]
        exact co i (by omega)
    have r2 : Refs (ax_setI h1 138 s (Int32.ofNat (bsum (possD D ((bsN D (27 * s)).2.1 s)) 27))) := r1.setI
    revert ff2 mr2 co2 r2
    generalize ax_setI h1 138 s (Int32.ofNat (bsum (possD D ((bsN D (27 * s)).2.1 s)) 27)) = h2
    intro ff2 mr2 co2 r2
    have inner : ∀ d a, a + d = 27 → 27 * s + a ≤ J → ∀ h, Refs h → Fr PMM h0 h → MRep h D (bsN D (27 * s + a)) (27 * s + a) → canOK h D (bsN D (27 * s + a)) (s + 1) → L_X12_map_86 l g h 103 x1 y (Int32.ofNat s) (Int32.ofNat a) Q := by
      intro d
      induction d with
      | zero =>
        intro a ha haJ h hr hf mr co
        have : a = 27 := by omega
        subst this
        refine s_X12_map_86 ?_
        simp (disch := first | assumption | omega) only [true_and, and_true, forall_eq, true_implies, false_implies, implies_true, not_true_eq_false, not_false_eq_true, false_and, and_false, ne_eq, ite_true, ite_false, Nat.reduceLeDiff, Nat.reduceEqDiff, Nat.reduceLT, Nat.reduceAdd, Nat.reduceMul, Nat.reduceSub, Nat.le_refl, eq_self, li_0, li_1, li_2, li_3, li_4, li_5, li_6, li_7, li_8, li_9, li_10, li_11, li_12, li_13, li_14, li_15, li_16, li_17, li_18, li_19, li_20, li_21, li_22, li_23, li_24, li_25, li_26, li_27, li_28, li_29, li_30, li_31, li_32, li_44, li_48, li_57, li_59, li_60, li_61, li_62, li_63, li_97, li_100, li_122, li_123, li_125, li_127, li_255, li_400, li_401, li_800, li_1023, li_1024, li_10827, i_add, i_mul, i_sub, i_p1, i_m1, i_nm, i_nm2, i_cl, i_cl0, vi_ok, i_lt, i_le, i_eq, lg_e]
        exact ihe (J - 27 * (s + 1)) (by omega) (s + 1) (Or.inr ⟨by omega, by omega⟩) h hr hf (by omega) mr co
      | succ d ih =>
        intro a ha haJ h hr hf mr co
        have ej1 : (27 * s + a) / 27 = s := by omega
        have ej2 : (27 * s + a) % 27 = a := by omega
        have mono := bsN_mono D (show 27 * s ≤ 27 * s + a by omega)
        have hsB2 : s < (bsN D (27 * s + a)).1 := by omega
        have wB := bsW_all hD _ (okj _ haJ)
        have hB400 := wB.1.2.1
        have eN : bsN D (27 * s + a + 1) = bs1 D (bsN D (27 * s + a)) (27 * s + a) := rfl
        have ih2 : ¬ (27 * s + a = J ∧ ¬ suc) → ∀ h, Refs h → Fr PMM h0 h → MRep h D (bsN D (27 * s + a + 1)) (27 * s + a + 1) → canOK h D (bsN D (27 * s + a)) (s + 1) → L_X12_map_86 l g h 103 x1 y (Int32.ofNat s) (Int32.ofNat (a + 1)) Q := by
          intro hne h hr hf mr co
          have hlt : 27 * s + a < J := by
            rcases Nat.lt_or_ge (27 * s + a) J with z | z
            · exact z
            · have hj : 27 * s + a = J := by omega
              by_cases hs : suc
              · obtain ⟨se, s1, s2⟩ := hsuc hs
                have : a = 0 := by omega
                exact absurd ⟨hs, by omega⟩ hx
              · exact absurd ⟨hj, hs⟩ hne
          refine ih (a + 1) (by omega) (by omega) h hr hf mr (fun i hi => ?_)
          show _ = Int32.ofNat (bsum (possD D ((bs1 D (bsN D (27 * s + a)) (27 * s + a)).2.1 i)) 27)
          rw [bs1_ST (by omega)]
          exact co i hi
        have noO : ¬ (27 * s + a = J ∧ ¬ suc) → ¬ bsO D (bsN D (27 * s + a)) (27 * s + a) := by
          intro hne z
          rcases Nat.lt_or_ge (27 * s + a) J with z2 | z2
          · exact (hok _ z2).1 z
          · have hj : 27 * s + a = J := by omega
            by_cases hs : suc
            · obtain ⟨se, s1, s2⟩ := hsuc hs
              have : a = 0 := by omega
              exact absurd ⟨hs, by omega⟩ hx
            · exact hne ⟨hj, hs⟩
        have isO : 27 * s + a = J ∧ ¬ suc → bsO D (bsN D (27 * s + a)) (27 * s + a) := by
          intro ⟨z1, z2⟩
          rw [z1]
          exact (hfail z2).2
        rw [eN] at ih2
        revert mr co ih2 noO isO wB hsB2 hB400
        generalize hB : bsN D (27 * s + a) = B
        intro mr co hsB2 wB hB400 ih2 noO isO
        have wS := wB.1.2.2.1 s hsB2
        have eP : bsP D B (27 * s + a) ↔ possD D (B.2.1 s) a := by unfold bsP; rw [ej1, ej2]
        have eT : bsT D B (27 * s + a) = stepD D (B.2.1 s) a := by unfold bsT; rw [ej1, ej2]
        have setL : ∀ (h' : AH) (v : Int32), Refs h' → Fr PMM h0 h' → ∀ f' : Fr (fun c p => PS c p ∨ c = 142) h h', (h'.1 142 (27 * s + a) = v) → True := fun _ _ _ _ _ _ => trivial
        refine s_X12_map_86 ?_
        simp (disch := first | assumption | omega) only [true_and, and_true, forall_eq, true_implies, false_implies, implies_true, not_true_eq_false, not_false_eq_true, false_and, and_false, ne_eq, ite_true, ite_false, Nat.reduceLeDiff, Nat.reduceEqDiff, Nat.reduceLT, Nat.reduceAdd, Nat.reduceMul, Nat.reduceSub, Nat.le_refl, eq_self, li_0, li_1, li_2, li_3, li_4, li_5, li_6, li_7, li_8, li_9, li_10, li_11, li_12, li_13, li_14, li_15, li_16, li_17, li_18, li_19, li_20, li_21, li_22, li_23, li_24, li_25, li_26, li_27, li_28, li_29, li_30, li_31, li_32, li_44, li_48, li_57, li_59, li_60, li_61, li_62, li_63, li_97, li_100, li_122, li_123, li_125, li_127, li_255, li_400, li_401, li_800, li_1023, li_1024, li_10827, i_add, i_mul, i_sub, i_p1, i_m1, i_nm, i_nm2, i_cl, i_cl0, vi_ok, i_lt, i_le, i_eq, lg_e, rf_103_4, rf_103_6, rf_103_7, rf_103_8, rf_103_9, rf_103_10, rf_103_21, rf_103_22, rf_103_23, rf_103_26, rf_103_27, rf_103_28, rf_103_29, rf_103_30, rf_103_31, rf_103_32, rf_103_33, rf_103_34, rf_103_35, rf_103_37, rf_103_38, rf_103_39, rf_103_44, rf_103_45, rf_103_46, rf_103_47, rf_103_48, rf_103_49, rf_103_54, rf_103_55, is_103, is_104, sz_104, is_125, sz_125, is_126, sz_126, is_127, sz_127, is_128, sz_128, is_129, sz_129, is_130, sz_130, is_131, sz_131, is_132, sz_132, is_133, sz_133, is_134, sz_134, is_135, sz_135, is_136, sz_136, is_137, sz_137, is_138, sz_138, is_139, sz_139, is_140, sz_140, is_141, sz_141, is_142, sz_142, is_143, sz_143, is_144, sz_144, is_145, sz_145, is_146, sz_146, is_147, sz_147, is_148, sz_148, is_149, sz_149, is_150, sz_150, is_151, sz_151, is_152, sz_152, is_153, sz_153, show ¬ 27 ≤ a by omega, gI_s, gI_c, gI_p, gI_L, gI_R, gL_s, gL_c, gL_p, gL_I, gL_R, gR_s, gR_c, gR_p, gR_I, gR_L, co s (by omega), i_bit (show a < 27 by omega), bI_ez, (mr.1.2 s hsB2).1, (mr.1.2 s hsB2).2.1]
        have fM : Fr PMM h0 (ax_setI h 142 (27 * s + a) (-Int32.ofNat 2)) := hf.setI (Or.inr (Or.inr (Or.inl rfl)))
        have ld : ∀ (h' : AH) (v : Int32), (∀ i, i ≠ 27 * s + a → h'.1 142 i = h.1 142 i) → h'.1 142 (27 * s + a) = v → ∀ (ST2 : Nat → AS) (LD2 : Nat → Nat), (∀ i, i < 27 * s + a + 1 → ST2 (i / 27) = B.2.1 (i / 27)) → (∀ i, i ≠ 27 * s + a → LD2 i = B.2.2.2.2.2 i) → (possD D (B.2.1 s) a → v = Int32.ofNat (LD2 (27 * s + a))) → (¬ possD D (B.2.1 s) a → v = -2) → LdC h' 142 D ST2 LD2 (27 * s + a + 1) := by
          intro h' v o1 o2 ST2 LD2 o3 o4 o5 o6 i hi
          rw [o3 i hi]
          by_cases c : i = 27 * s + a
          · subst c
            rw [ej1, ej2, o2]
            exact ⟨o5, o6⟩
          · rw [o1 i c, o4 i c]
            exact mr.2 i (by omega)
        refine ⟨fun p => ?_, fun p => ?_⟩
        · have p := Classical.not_not.1 p
          have bp := eP.2 p
          refine k_X12_unpack (hr.setI) wS (fun h3 f3 s3 => ?_)
          have r3 := f3.refs hr.setI
          have ff3 : Fr PMM h0 h3 := fM.trans (f3.fr.mono (fun c p q => Or.inl q))
          (try simp (disch := first | assumption | omega) only [true_and, and_true, forall_eq, true_implies, false_implies, implies_true, not_true_eq_false, not_false_eq_true, false_and, and_false, ne_eq, ite_true, ite_false, Nat.reduceLeDiff, Nat.reduceEqDiff, Nat.reduceLT, Nat.reduceAdd, Nat.reduceMul, Nat.reduceSub, Nat.le_refl, eq_self, li_0, li_1, li_2, li_3, li_4, li_5, li_6, li_7, li_8, li_9, li_10, li_11, li_12, li_13, li_14, li_15, li_16, li_17, li_18, li_19, li_20, li_21, li_22, li_23, li_24, li_25, li_26, li_27, li_28, li_29, li_30, li_31, li_32, li_44, li_48, li_57, li_59, li_60, li_61, li_62, li_63, li_97, li_100, li_122, li_123, li_125, li_127, li_255, li_400, li_401, li_800, li_1023, li_1024, li_10827, i_add, i_mul, i_sub, i_p1, i_m1, i_nm, i_nm2, i_cl, i_cl0, vi_ok, i_lt, i_le, i_eq, lg_e, isB_x hy])
          refine k_X12_acts r3 hy hD wS s3 (hR h3 ff3) (by omega) p (fun h4 f4 s4 => ?_)
          have r4 := f4.refs r3
          have ff4 : Fr PMM h0 h4 := ff3.trans (f4.fr.mono (fun c p q => Or.inl q))
          have f14 : Fr PS (ax_setI h 142 (27 * s + a) (-Int32.ofNat 2)) h4 := f3.fr.trans f4.fr
          have fh4 : Fr (fun c p => PS c p ∨ (c = 142 ∧ p = 27 * s + a)) h h4 := ((Fr.refl _ h).setI (Or.inr ⟨rfl, rfl⟩)).trans (f14.mono (fun c p q => Or.inl q))
          have wT : WS (D 0 0) (stepD D (B.2.1 s) a) := ws_stepD hD wS p
          refine k_X12_packed r4 wT s4 (k_X12_packedVars r4 wT s4 ?_)
          have m4 : MapM h4 D B.1 B.2.1 B.2.2.1 B.2.2.2.1 B.2.2.2.2.1 := mr.1.fr fh4 (fun c p q => by unfold PS at q; omega)
          have co4 : canOK h4 D B (s + 1) := fun i hi => by rw [(fh4 138 i (fun q => by unfold PS at q; omega)).1]; exact co i hi
          have o4 : ∀ i, i ≠ 27 * s + a → h4.1 142 i = h.1 142 i := fun i hi => (fh4 142 i (fun q => by unfold PS at q; omega)).1
          refine k_stateOf (D := D) r4 hB400 m4.1 (fun i hi => ⟨(m4.2 i hi).1, (m4.2 i hi).2.1, wB.1.2.2.1 i hi⟩) wT (fun i hi e => ?_) (fun hnew => ?_)
          · rw [← eT] at e
            have hne : ¬ (27 * s + a = J ∧ ¬ suc) := fun z => (isO z).2.1 i hi e
            have old := bs1_old bp hi e (fun k hk e2 => by have := wB.1.2.2.2.1 k i (by omega) hi (e2.trans e.symm); omega)
            refine ⟨fun _ => s_X12_map_188 ⟨fun _ => s_X12_map_207 ?_, fun z => absurd z (i_ne (by omega))⟩, fun z => absurd z (i_ne (by omega))⟩
            simp (disch := first | assumption | omega) only [true_and, and_true, forall_eq, true_implies, false_implies, implies_true, not_true_eq_false, not_false_eq_true, false_and, and_false, ne_eq, ite_true, ite_false, Nat.reduceLeDiff, Nat.reduceEqDiff, Nat.reduceLT, Nat.reduceAdd, Nat.reduceMul, Nat.reduceSub, Nat.le_refl, eq_self, li_0, li_1, li_2, li_3, li_4, li_5, li_6, li_7, li_8, li_9, li_10, li_11, li_12, li_13, li_14, li_15, li_16, li_17, li_18, li_19, li_20, li_21, li_22, li_23, li_24, li_25, li_26, li_27, li_28, li_29, li_30, li_31, li_32, li_44, li_48, li_57, li_59, li_60, li_61, li_62, li_63, li_97, li_100, li_122, li_123, li_125, li_127, li_255, li_400, li_401, li_800, li_1023, li_1024, li_10827, i_add, i_mul, i_sub, i_p1, i_m1, i_nm, i_nm2, i_cl, i_cl0, vi_ok, i_lt, i_le, i_eq, lg_e, rf_103_4, rf_103_6, rf_103_7, rf_103_8, rf_103_9, rf_103_10, rf_103_21, rf_103_22, rf_103_23, rf_103_26, rf_103_27, rf_103_28, rf_103_29, rf_103_30, rf_103_31, rf_103_32, rf_103_33, rf_103_34, rf_103_35, rf_103_37, rf_103_38, rf_103_39, rf_103_44, rf_103_45, rf_103_46, rf_103_47, rf_103_48, rf_103_49, rf_103_54, rf_103_55, is_103, is_104, sz_104, is_125, sz_125, is_126, sz_126, is_127, sz_127, is_128, sz_128, is_129, sz_129, is_130, sz_130, is_131, sz_131, is_132, sz_132, is_133, sz_133, is_134, sz_134, is_135, sz_135, is_136, sz_136, is_137, sz_137, is_138, sz_138, is_139, sz_139, is_140, sz_140, is_141, sz_141, is_142, sz_142, is_143, sz_143, is_144, sz_144, is_145, sz_145, is_146, sz_146, is_147, sz_147, is_148, sz_148, is_149, sz_149, is_150, sz_150, is_151, sz_151, is_152, sz_152, is_153, sz_153]
            rw [old] at ih2
            refine ih2 hne _ r4.setI (ff4.setI (Or.inr (Or.inr (Or.inl rfl)))) ⟨m4.fr ((Fr.refl (fun c _ => c = 142) h4).setI rfl) (fun c p q => by omega), ?_⟩ (fun i hi => by rw [gI_c (by omega)]; exact co4 i hi)
            refine ld _ (Int32.ofNat i) (fun k hk => by rw [gI_p hk]; exact o4 k hk) (gI_s _ _ _ _) _ _ (fun _ _ => rfl) (fun k hk => nup_n hk) (fun _ => ?_) (fun z => absurd p z)
            show _ = Int32.ofNat (nup B.2.2.2.2.2 (27 * s + a) i (27 * s + a))
            rw [nup_s]
          · rw [← eT] at hnew
            refine ⟨fun z => absurd rfl z, fun _ => ?_⟩
            rw [m4.1]
            refine ⟨fun c4 => ?_, fun c4 => ?_⟩
            · have c4 : B.1 ≠ 400 := fun z => c4 (by rw [z])
              have hne : ¬ (27 * s + a = J ∧ ¬ suc) := fun z => c4 (isO z).2.2
              have nw := bs1_new bp hnew
              refine s_X12_map_188 ⟨fun z => absurd rfl z, fun _ => ⟨is_103, ?_⟩⟩
              rw [m4.1]
              intro v90 e90
              rw [e90]
              refine k_meets (D := D) r4 (by omega) m4.1 wT s4 (Or.inr ⟨s, by omega, rfl⟩) (fun h5 r5 f5 v25 v133 v134 v135 v136 v137 o5 => ?_)
              rw [if_neg (i_ne (by omega)), i_cl (by omega), (m4.2 s hsB2).2.2.2.2, i_p1] at v137
              refine s_X12_map_207 ?_
              simp (disch := first | assumption | omega) only [true_and, and_true, forall_eq, true_implies, false_implies, implies_true, not_true_eq_false, not_false_eq_true, false_and, and_false, ne_eq, ite_true, ite_false, Nat.reduceLeDiff, Nat.reduceEqDiff, Nat.reduceLT, Nat.reduceAdd, Nat.reduceMul, Nat.reduceSub, Nat.le_refl, eq_self, li_0, li_1, li_2, li_3, li_4, li_5, li_6, li_7, li_8, li_9, li_10, li_11, li_12, li_13, li_14, li_15, li_16, li_17, li_18, li_19, li_20, li_21, li_22, li_23, li_24, li_25, li_26, li_27, li_28, li_29, li_30, li_31, li_32, li_44, li_48, li_57, li_59, li_60, li_61, li_62, li_63, li_97, li_100, li_122, li_123, li_125, li_127, li_255, li_400, li_401, li_800, li_1023, li_1024, li_10827, i_add, i_mul, i_sub, i_p1, i_m1, i_nm, i_nm2, i_cl, i_cl0, vi_ok, i_lt, i_le, i_eq, lg_e, rf_103_4, rf_103_6, rf_103_7, rf_103_8, rf_103_9, rf_103_10, rf_103_21, rf_103_22, rf_103_23, rf_103_26, rf_103_27, rf_103_28, rf_103_29, rf_103_30, rf_103_31, rf_103_32, rf_103_33, rf_103_34, rf_103_35, rf_103_37, rf_103_38, rf_103_39, rf_103_44, rf_103_45, rf_103_46, rf_103_47, rf_103_48, rf_103_49, rf_103_54, rf_103_55, is_103, is_104, sz_104, is_125, sz_125, is_126, sz_126, is_127, sz_127, is_128, sz_128, is_129, sz_129, is_130, sz_130, is_131, sz_131, is_132, sz_132, is_133, sz_133, is_134, sz_134, is_135, sz_135, is_136, sz_136, is_137, sz_137, is_138, sz_138, is_139, sz_139, is_140, sz_140, is_141, sz_141, is_142, sz_142, is_143, sz_143, is_144, sz_144, is_145, sz_145, is_146, sz_146, is_147, sz_147, is_148, sz_148, is_149, sz_149, is_150, sz_150, is_151, sz_151, is_152, sz_152, is_153, sz_153]
              rw [nw] at ih2
              rw [← eT] at v133 v134
              have hmap := m4.upd wB.1.1 v25 v133 v134 v135 v136 v137 o5
              have fi : Fr (fun c _ => c = 142) h5 (ax_setI h5 142 (27 * s + a) (Int32.ofNat B.1)) := (Fr.refl _ h5).setI rfl
              refine ih2 hne _ r5.setI ((ff4.trans (f5.mono (fun c p q => by unfold PX at q; unfold PMM; omega))).setI (Or.inr (Or.inr (Or.inl rfl)))) ⟨?_, ?_⟩ (fun i hi => ?_)
              · have e1 : (27 * s + a) / 27 = s := ej1
                have e2 : (27 * s + a) % 27 = a := ej2
                rw [e1, e2]
                exact hmap.fr fi (fun c p q => by omega)
              · refine ld _ (Int32.ofNat B.1) (fun k hk => ?_) (gI_s _ _ _ _) _ _ (fun k hk => ?_) (fun k hk => nup_n hk) (fun _ => ?_) (fun z => absurd p z)
                · rw [gI_p hk, (f5 142 k (fun q => by unfold PX at q; omega)).1]; exact o4 k hk
                · show upS B.2.1 B.1 (bsT D B (27 * s + a)) (k / 27) = _
                  rw [upS_n (by omega)]
                · show _ = Int32.ofNat (nup B.2.2.2.2.2 (27 * s + a) B.1 (27 * s + a))
                  rw [nup_s]
              · rw [gI_c (by omega), (f5 138 i (fun q => by unfold PX at q; omega)).1]
                exact co4 i hi
            · have c4 : B.1 = 400 := (i_eq (b := 400) (by omega) (by omega)).1 c4
              have hO : bsO D B (27 * s + a) := ⟨bp, hnew, c4⟩
              have hz : 27 * s + a = J ∧ ¬ suc := Classical.byContradiction (fun z => noO z hO)
              exact q0 hz.2 h4 r4 ff4
        · have hne : ¬ (27 * s + a = J ∧ ¬ suc) := fun z => p (eP.1 (isO z).1)
          have np : ¬ bsP D B (27 * s + a) := fun z => p (eP.1 z)
          rw [bs1_no np] at ih2
          have fi : Fr (fun c _ => c = 142) h (ax_setI h 142 (27 * s + a) (-Int32.ofNat 2)) := (Fr.refl _ h).setI rfl
          refine ih2 hne _ hr.setI fM ⟨mr.1.fr fi (fun c p q => by omega), ?_⟩ (fun i hi => by rw [gI_c (by omega)]; exact co i hi)
          exact ld _ (-2) (fun k hk => by rw [gI_p hk]) (gI_s _ _ _ _) _ _ (fun _ _ => rfl) (fun _ _ => rfl) (fun z => absurd z p) (fun _ => rfl)
    exact inner 27 0 rfl hsJ h2 r2 ff2 mr2 co2
