theorem bI_eo {p : Prop} : (Int32.ofNat (bI p) = Int32.ofNat 1) ↔ p := by
  have := bI_le p
  rw [i_eq (by omega) (by omega), bI_one]
theorem cntF_hit {T : Nat → AS} {r k : Nat} (hk : k ≤ r) (h : 0 < (T k).1) (hl : ∀ j, j < k → ¬ 0 < (T j).1) : cntF T r = k := by
  unfold cntF
  rcases Nat.eq_or_lt_of_le hk with e | e
  · rw [e]; exact findN_none (fun j hj => hl j (by omega))
  · exact findN_eq e h hl
theorem cntF_none {T : Nat → AS} {r : Nat} (hl : ∀ j, j < r → ¬ 0 < (T j).1) : cntF T r = r := findN_none hl
theorem k_actsToFault {l : Launch} {g : AG} {h0 : AH} {x r : Nat} {A : Nat → Nat} {D : AD} {Q : Int32 → AH → Prop} (hr0 : Refs h0) (hx : isA x) (hD : WfD D) (hA0 : RepA h0 x D) (hr : r ≤ 400) (e9 : h0.1 1 9 = Int32.ofNat r) (hv : ∀ k, k < r → A k < 1000 ∧ h0.1 101 k = Int32.ofNat (A k)) (hq : ∀ h', Refs h' → Fr (fun c _ => c = 102) h0 h' → (∀ k, k ≤ cntF (trD D A) r → h'.2.1 102 k = Int64.ofNat (en (trD D A k))) → Q (Int32.ofNat (cntF (trD D A) r)) h') : C_X9_actsToFault l g h0 1 x Q := by
  have hxu : x = 4 ∨ x = 25 ∨ x = 46 := hx
  have loop : ∀ d k, k + d = r → ∀ h, Refs h → Fr (fun c _ => c = 102) h0 h → (∀ j, j ≤ k → h.2.1 102 j = Int64.ofNat (en (trD D A j))) → (∀ j, j ≤ k → ¬ 0 < (trD D A j).1) → L_X9_actsToFault_12 l g h 1 x (Int32.ofNat k) Q := by
    intro d
    induction d with
    | zero =>
      intro k hk h hr hf ht hn
      have e : h.1 1 9 = Int32.ofNat r := by rw [(hf 1 9 (by omega)).1]; exact e9
      refine s_X9_actsToFault_12 ?_
      simp (disch := first | assumption | omega) only [true_and, and_true, forall_eq, true_implies, false_implies, implies_true, not_true_eq_false, not_false_eq_true, false_and, and_false, ne_eq, ite_true, ite_false, Nat.reduceLeDiff, Nat.reduceEqDiff, Nat.reduceLT, Nat.reduceAdd, Nat.reduceMul, Nat.reduceSub, Nat.le_refl, eq_self, li_0, li_1, li_2, li_3, li_4, li_5, li_6, li_7, li_8, li_9, li_10, li_11, li_12, li_13, li_14, li_15, li_16, li_17, li_18, li_19, li_20, li_21, li_22, li_23, li_24, li_25, li_26, li_27, li_28, li_29, li_30, li_31, li_32, li_44, li_48, li_57, li_59, li_60, li_61, li_62, li_63, li_97, li_100, li_122, li_123, li_125, li_127, li_255, li_400, li_401, li_800, li_1023, li_1024, li_10827, i_add, i_mul, i_sub, i_p1, i_m1, i_nm, i_nm2, i_cl, i_cl0, vi_ok, i_lt, i_le, i_eq, lg_e, is_1, e, show r ≤ k by omega]
      have ec : cntF (trD D A) r = r := cntF_none (fun j hj => hn j (by omega))
      have := hq h hr hf (fun j hj => ht j (by rw [ec] at hj; omega))
      rw [ec] at this
      exact this
    | succ d ih =>
      intro k hk h hr hf ht hn
      have e : h.1 1 9 = Int32.ofNat r := by rw [(hf 1 9 (by omega)).1]; exact e9
      have va := hv k (by omega)
      have ea : h.1 101 k = Int32.ofNat (A k) := by rw [(hf 101 k (by omega)).1]; exact va.2
      have hA : RepA h x D := hA0.fr hf (fun c p h1 h2 q => by omega)
      refine s_X9_actsToFault_12 ?_
      simp (disch := first | assumption | omega) only [true_and, and_true, forall_eq, true_implies, false_implies, implies_true, not_true_eq_false, not_false_eq_true, false_and, and_false, ne_eq, ite_true, ite_false, Nat.reduceLeDiff, Nat.reduceEqDiff, Nat.reduceLT, Nat.reduceAdd, Nat.reduceMul, Nat.reduceSub, Nat.le_refl, eq_self, li_0, li_1, li_2, li_3, li_4, li_5, li_6, li_7, li_8, li_9, li_10, li_11, li_12, li_13, li_14, li_15, li_16, li_17, li_18, li_19, li_20, li_21, li_22, li_23, li_24, li_25, li_26, li_27, li_28, li_29, li_30, li_31, li_32, li_44, li_48, li_57, li_59, li_60, li_61, li_62, li_63, li_97, li_100, li_122, li_123, li_125, li_127, li_255, li_400, li_401, li_800, li_1023, li_1024, li_10827, i_add, i_mul, i_sub, i_p1, i_m1, i_nm, i_nm2, i_cl, i_cl0, vi_ok, i_lt, i_le, i_eq, lg_e, rf_1_0, rf_1_2, rf_1_4, rf_1_5, rf_1_6, rf_1_7, rf_1_8, rf_1_10, is_1, is_2, sz_2, is_3, sz_3, is_67, sz_67, is_73, sz_73, is_74, sz_74, is_93, sz_93, is_101, sz_101, is_102, sz_102, e, ea, ht k (Nat.le_refl k), show ¬ r ≤ k by omega, isA_x hx]
      refine k_X0_tryAct hr hx hD hA (ws_trD hD A k) (by omega) ?_
      simp (disch := first | assumption | omega) only [true_and, and_true, forall_eq, true_implies, false_implies, implies_true, not_true_eq_false, not_false_eq_true, false_and, and_false, ne_eq, ite_true, ite_false, Nat.reduceLeDiff, Nat.reduceEqDiff, Nat.reduceLT, Nat.reduceAdd, Nat.reduceMul, Nat.reduceSub, Nat.le_refl, eq_self, li_0, li_1, li_2, li_3, li_4, li_5, li_6, li_7, li_8, li_9, li_10, li_11, li_12, li_13, li_14, li_15, li_16, li_17, li_18, li_19, li_20, li_21, li_22, li_23, li_24, li_25, li_26, li_27, li_28, li_29, li_30, li_31, li_32, li_44, li_48, li_57, li_59, li_60, li_61, li_62, li_63, li_97, li_100, li_122, li_123, li_125, li_127, li_255, li_400, li_401, li_800, li_1023, li_1024, li_10827, i_add, i_mul, i_sub, i_p1, i_m1, i_nm, i_nm2, i_cl, i_cl0, vi_ok, i_lt, i_le, i_eq, lg_e, rf_1_0, rf_1_2, rf_1_4, rf_1_5, rf_1_6, rf_1_7, rf_1_8, rf_1_10, is_1, is_2, sz_2, is_3, sz_3, is_67, sz_67, is_73, sz_73, is_74, sz_74, is_93, sz_93, is_101, sz_101, is_102, sz_102, gI_s, gI_c, gI_p, gI_L, gI_R, gL_s, gL_c, gL_p, gL_I, gL_R, gR_s, gR_c, gR_p, gR_I, gR_L]
      have w1 := ws_trD hD A (k + 1)
      have f1 := fault_le w1
      have en1 : tryD D (trD D A k) (A k) = trD D A (k + 1) := rfl
      rw [en1]
      refine q_X3_faultOf w1 ?_
      have hr2 : Refs (ax_setL h 102 (k + 1) (Int64.ofNat (en (trD D A (k + 1))))) := hr.setL
      have hf2 : Fr (fun c _ => c = 102) h0 (ax_setL h 102 (k + 1) (Int64.ofNat (en (trD D A (k + 1))))) := hf.setL rfl
      have ht2 : ∀ j, j ≤ k + 1 → (ax_setL h 102 (k + 1) (Int64.ofNat (en (trD D A (k + 1))))).2.1 102 j = Int64.ofNat (en (trD D A j)) := by
        intro j hj
        by_cases c : j = k + 1
        · rw [c, gL_s]
        · rw [gL_p c]; exact ht j (by omega)
      simp (disch := first | assumption | omega) only [true_and, and_true, forall_eq, true_implies, false_implies, implies_true, not_true_eq_false, not_false_eq_true, false_and, and_false, ne_eq, ite_true, ite_false, Nat.reduceLeDiff, Nat.reduceEqDiff, Nat.reduceLT, Nat.reduceAdd, Nat.reduceMul, Nat.reduceSub, Nat.le_refl, eq_self, li_0, li_1, li_2, li_3, li_4, li_5, li_6, li_7, li_8, li_9, li_10, li_11, li_12, li_13, li_14, li_15, li_16, li_17, li_18, li_19, li_20, li_21, li_22, li_23, li_24, li_25, li_26, li_27, li_28, li_29, li_30, li_31, li_32, li_44, li_48, li_57, li_59, li_60, li_61, li_62, li_63, li_97, li_100, li_122, li_123, li_125, li_127, li_255, li_400, li_401, li_800, li_1023, li_1024, li_10827, i_add, i_mul, i_sub, i_p1, i_m1, i_nm, i_nm2, i_cl, i_cl0, vi_ok, i_lt, i_le, i_eq, lg_e]
      refine ⟨fun z => ?_, fun z => ?_⟩
      · refine ih (k + 1) (by omega) _ hr2 hf2 ht2 (fun j hj => ?_)
        by_cases c : j = k + 1
        · rw [c]; omega
        · exact hn j (by omega)
      · have ec : cntF (trD D A) r = k + 1 := cntF_hit (by omega) (by omega) (fun j hj => hn j (by omega))
        have := hq _ hr2 hf2 (fun j hj => ht2 j (by rw [ec] at hj; omega))
        rw [ec] at this
        exact this
  refine c_X9_actsToFault (s_X9_actsToFault_0 ?_)
  simp (disch := first | assumption | omega) only [true_and, and_true, forall_eq, true_implies, false_implies, implies_true, not_true_eq_false, not_false_eq_true, false_and, and_false, ne_eq, ite_true, ite_false, Nat.reduceLeDiff, Nat.reduceEqDiff, Nat.reduceLT, Nat.reduceAdd, Nat.reduceMul, Nat.reduceSub, Nat.le_refl, eq_self, li_0, li_1, li_2, li_3, li_4, li_5, li_6, li_7, li_8, li_9, li_10, li_11, li_12, li_13, li_14, li_15, li_16, li_17, li_18, li_19, li_20, li_21, li_22, li_23, li_24, li_25, li_26, li_27, li_28, li_29, li_30, li_31, li_32, li_44, li_48, li_57, li_59, li_60, li_61, li_62, li_63, li_97, li_100, li_122, li_123, li_125, li_127, li_255, li_400, li_401, li_800, li_1023, li_1024, li_10827, i_add, i_mul, i_sub, i_p1, i_m1, i_nm, i_nm2, i_cl, i_cl0, vi_ok, i_lt, i_le, i_eq, lg_e, rf_1_0, rf_1_2, rf_1_4, rf_1_5, rf_1_6, rf_1_7, rf_1_8, rf_1_10, is_1, is_2, sz_2, is_3, sz_3, is_67, sz_67, is_73, sz_73, is_74, sz_74, is_93, sz_93, is_101, sz_101, is_102, sz_102, isA_x hx]
  refine k_X0_beginning ?_
  refine loop r 0 (Nat.zero_add _) _ hr0.setL ((Fr.refl _ h0).setL rfl) (fun j hj => ?_) (fun j hj => ?_)
  · rw [show j = 0 by omega, gL_s]; rfl
  · rw [show j = 0 by omega]
    show ¬ 0 < 0
    omega
def PCm (c p : Nat) : Prop := PS c p ∨ (c = 103 ∧ p = 42)
theorem PCm_no {c p : Nat} (h : PCm c p) : (130 ≤ c ∧ c ≤ 132) ∨ (c = 103 ∧ (p = 19 ∨ p = 20 ∨ p = 42)) := by
  unfold PCm PS at h
  omega
theorem PCm_scr {c p : Nat} (h : PCm c p) : SCR c p := by
  have := PCm_no h
  unfold SCR
  omega
theorem k_comes {l : Launch} {g : AG} {h0 : AH} {y r w : Nat} {x2 : Int32} {A : Nat → Nat} {D : AD} {Q : Int32 → AH → Prop} (hr0 : Refs h0) (hy : isB y) (hD : WfD D) (hB0 : RepB h0 y D) (h400 : r ≤ 400) (e40 : h0.1 103 40 = Int32.ofNat r) (hv : ∀ k, k < r → A k < 1000 ∧ h0.1 145 k = Int32.ofNat (A k)) (hw : (x2 = -1 ∧ w = 401) ∨ (x2 = Int32.ofNat w ∧ w < 400)) (hq : ∀ h', Refs h' → Fr PCm h0 h' → h'.1 103 42 = Int32.ofNat (cntF (trS D A w) r) → Q (Int32.ofNat (trS D A w r).1) h') : C_X12_comes l g h0 103 y x2 Q := by
  have hyu : y = 105 ∨ y = 154 ∨ y = 174 := hy
  have ew : ∀ k, k < 400 → (Int32.ofNat k = x2 ↔ k = w) := by
    intro k hk
    rcases hw with ⟨h1, h2⟩ | ⟨h1, h2⟩
    · rw [h1]
      exact ⟨fun z => absurd z (i_ne (by omega)), fun z => by omega⟩
    · rw [h1, i_eq (by omega) (by omega)]
  have loop : ∀ d k, k + d = r → ∀ h, Refs h → Fr PCm h0 h → h.1 103 42 = Int32.ofNat k → RepS h (trS D A w k) → (∀ j, j < k → ¬ 0 < (trS D A w j).1) → L_X12_comes_11 l g h 103 y x2 (Int32.ofNat k) Q := by
    intro d
    induction d with
    | zero =>
      intro k hk h hr hf e42 hS hn
      have e : h.1 103 40 = Int32.ofNat r := by rw [(hf 103 40 (fun q => by have := PCm_no q; omega)).1]; exact e40
      have hkr : k = r := by omega
      subst hkr
      refine s_X12_comes_11 ?_
      simp (disch := first | assumption | omega) only [true_and, and_true, forall_eq, true_implies, false_implies, implies_true, not_true_eq_false, not_false_eq_true, false_and, and_false, ne_eq, ite_true, ite_false, Nat.reduceLeDiff, Nat.reduceEqDiff, Nat.reduceLT, Nat.reduceAdd, Nat.reduceMul, Nat.reduceSub, Nat.le_refl, eq_self, li_0, li_1, li_2, li_3, li_4, li_5, li_6, li_7, li_8, li_9, li_10, li_11, li_12, li_13, li_14, li_15, li_16, li_17, li_18, li_19, li_20, li_21, li_22, li_23, li_24, li_25, li_26, li_27, li_28, li_29, li_30, li_31, li_32, li_44, li_48, li_57, li_59, li_60, li_61, li_62, li_63, li_97, li_100, li_122, li_123, li_125, li_127, li_255, li_400, li_401, li_800, li_1023, li_1024, li_10827, i_add, i_mul, i_sub, i_p1, i_m1, i_nm, i_nm2, i_cl, i_cl0, vi_ok, i_lt, i_le, i_eq, lg_e, is_103, e]
      rw [hS.1]
      exact hq h hr hf (by rw [e42, cntF_none hn])
    | succ d ih =>
      intro k hk h hr hf e42 hS hn
      have e : h.1 103 40 = Int32.ofNat r := by rw [(hf 103 40 (fun q => by have := PCm_no q; omega)).1]; exact e40
      have va := hv k (by omega)
      have ea : h.1 145 k = Int32.ofNat (A k) := by rw [(hf 145 k (fun q => by have := PCm_no q; omega)).1]; exact va.2
      have wS := ws_trS hD A w k
      have fl := fault_le wS
      have fi := fault_iff wS
      have hB : RepB h y D := hB0.fr hf (fun c p h1 h2 q => by have := PCm_no q; omega)
      refine s_X12_comes_11 ?_
      rw [hS.1]
      simp (disch := first | assumption | omega) only [true_and, and_true, forall_eq, true_implies, false_implies, implies_true, not_true_eq_false, not_false_eq_true, false_and, and_false, ne_eq, ite_true, ite_false, Nat.reduceLeDiff, Nat.reduceEqDiff, Nat.reduceLT, Nat.reduceAdd, Nat.reduceMul, Nat.reduceSub, Nat.le_refl, eq_self, li_0, li_1, li_2, li_3, li_4, li_5, li_6, li_7, li_8, li_9, li_10, li_11, li_12, li_13, li_14, li_15, li_16, li_17, li_18, li_19, li_20, li_21, li_22, li_23, li_24, li_25, li_26, li_27, li_28, li_29, li_30, li_31, li_32, li_44, li_48, li_57, li_59, li_60, li_61, li_62, li_63, li_97, li_100, li_122, li_123, li_125, li_127, li_255, li_400, li_401, li_800, li_1023, li_1024, li_10827, i_add, i_mul, i_sub, i_p1, i_m1, i_nm, i_nm2, i_cl, i_cl0, vi_ok, i_lt, i_le, i_eq, lg_e, is_103, e, show ¬ r ≤ k by omega]
      refine ⟨fun z => ?_, fun z => ?_⟩
      · have ec : cntF (trS D A w) r = k := cntF_hit (by omega) (by omega) hn
        have := hq h hr hf (by rw [e42, ec])
        have es := trS_stay (D := D) (A := A) (w := w) (k := k) (fi.2 (by omega)) (d + 1)
        rw [hk] at es
        rw [es] at this
        exact this
      · have hop : 0 < (trS D A w k).2.1 := by
          rcases Nat.eq_zero_or_pos (trS D A w k).2.1 with q | q
          · have := fi.1 q; omega
          · exact q
        have hn2 : ∀ j, j < k + 1 → ¬ 0 < (trS D A w j).1 := by
          intro j hj
          by_cases c : j = k
          · rw [c]; omega
          · exact hn j (by omega)
        rw [e42]
        simp (disch := first | assumption | omega) only [true_and, and_true, forall_eq, true_implies, false_implies, implies_true, not_true_eq_false, not_false_eq_true, false_and, and_false, ne_eq, ite_true, ite_false, Nat.reduceLeDiff, Nat.reduceEqDiff, Nat.reduceLT, Nat.reduceAdd, Nat.reduceMul, Nat.reduceSub, Nat.le_refl, eq_self, li_0, li_1, li_2, li_3, li_4, li_5, li_6, li_7, li_8, li_9, li_10, li_11, li_12, li_13, li_14, li_15, li_16, li_17, li_18, li_19, li_20, li_21, li_22, li_23, li_24, li_25, li_26, li_27, li_28, li_29, li_30, li_31, li_32, li_44, li_48, li_57, li_59, li_60, li_61, li_62, li_63, li_97, li_100, li_122, li_123, li_125, li_127, li_255, li_400, li_401, li_800, li_1023, li_1024, li_10827, i_add, i_mul, i_sub, i_p1, i_m1, i_nm, i_nm2, i_cl, i_cl0, vi_ok, i_lt, i_le, i_eq, lg_e, gI_s, gI_c, gI_p, gI_L, gI_R, gL_s, gL_c, gL_p, gL_I, gL_R, gR_s, gR_c, gR_p, gR_I, gR_L, rf_103_4, rf_103_6, rf_103_7, rf_103_8, rf_103_9, rf_103_10, rf_103_21, rf_103_22, rf_103_23, rf_103_26, rf_103_27, rf_103_28, rf_103_29, rf_103_30, rf_103_31, rf_103_32, rf_103_33, rf_103_34, rf_103_35, rf_103_37, rf_103_38, rf_103_39, rf_103_44, rf_103_45, rf_103_46, rf_103_47, rf_103_48, rf_103_49, rf_103_54, rf_103_55, is_103, is_104, sz_104, is_125, sz_125, is_126, sz_126, is_127, sz_127, is_128, sz_128, is_129, sz_129, is_130, sz_130, is_131, sz_131, is_132, sz_132, is_133, sz_133, is_134, sz_134, is_135, sz_135, is_136, sz_136, is_137, sz_137, is_138, sz_138, is_139, sz_139, is_140, sz_140, is_141, sz_141, is_142, sz_142, is_143, sz_143, is_144, sz_144, is_145, sz_145, is_146, sz_146, is_147, sz_147, is_148, sz_148, is_149, sz_149, is_150, sz_150, is_151, sz_151, is_152, sz_152, is_153, sz_153, ea]
        rw [ew k (by omega)]
        have hr9 : Refs (ax_setI h 103 42 (Int32.ofNat (k + 1))) := hr.setI
        have hf9 : Fr PCm h0 (ax_setI h 103 42 (Int32.ofNat (k + 1))) := hf.setI (Or.inr ⟨rfl, rfl⟩)
        have h429 : (ax_setI h 103 42 (Int32.ofNat (k + 1))).1 103 42 = Int32.ofNat (k + 1) := gI_s _ _ _ _
        have hS9 : RepS (ax_setI h 103 42 (Int32.ofNat (k + 1))) (trS D A w k) := by
          refine ⟨?_, ?_, fun j hj => ?_, fun v hv => ?_⟩
          · simp (disch := first | assumption | omega) only [true_and, and_true, forall_eq, true_implies, false_implies, implies_true, not_true_eq_false, not_false_eq_true, false_and, and_false, ne_eq, ite_true, ite_false, Nat.reduceLeDiff, Nat.reduceEqDiff, Nat.reduceLT, Nat.reduceAdd, Nat.reduceMul, Nat.reduceSub, Nat.le_refl, eq_self, li_0, li_1, li_2, li_3, li_4, li_5, li_6, li_7, li_8, li_9, li_10, li_11, li_12, li_13, li_14, li_15, li_16, li_17, li_18, li_19, li_20, li_21, li_22, li_23, li_24, li_25, li_26, li_27, li_28, li_29, li_30, li_31, li_32, li_44, li_48, li_57, li_59, li_60, li_61, li_62, li_63, li_97, li_100, li_122, li_123, li_125, li_127, li_255, li_400, li_401, li_800, li_1023, li_1024, li_10827, i_add, i_mul, i_sub, i_p1, i_m1, i_nm, i_nm2, i_cl, i_cl0, vi_ok, i_lt, i_le, i_eq, lg_e, gI_s, gI_c, gI_p, gI_L, gI_R, gL_s, gL_c, gL_p, gL_I, gL_R, gR_s, gR_c, gR_p, gR_I, gR_L]; exact hS.1
          · simp (disch := first | assumption | omega) only [true_and, and_true, forall_eq, true_implies, false_implies, implies_true, not_true_eq_false, not_false_eq_true, false_and, and_false, ne_eq, ite_true, ite_false, Nat.reduceLeDiff, Nat.reduceEqDiff, Nat.reduceLT, Nat.reduceAdd, Nat.reduceMul, Nat.reduceSub, Nat.le_refl, eq_self, li_0, li_1, li_2, li_3, li_4, li_5, li_6, li_7, li_8, li_9, li_10, li_11, li_12, li_13, li_14, li_15, li_16, li_17, li_18, li_19, li_20, li_21, li_22, li_23, li_24, li_25, li_26, li_27, li_28, li_29, li_30, li_31, li_32, li_44, li_48, li_57, li_59, li_60, li_61, li_62, li_63, li_97, li_100, li_122, li_123, li_125, li_127, li_255, li_400, li_401, li_800, li_1023, li_1024, li_10827, i_add, i_mul, i_sub, i_p1, i_m1, i_nm, i_nm2, i_cl, i_cl0, vi_ok, i_lt, i_le, i_eq, lg_e, gI_s, gI_c, gI_p, gI_L, gI_R, gL_s, gL_c, gL_p, gL_I, gL_R, gR_s, gR_c, gR_p, gR_I, gR_L]; exact hS.2.1
          · simp (disch := first | assumption | omega) only [true_and, and_true, forall_eq, true_implies, false_implies, implies_true, not_true_eq_false, not_false_eq_true, false_and, and_false, ne_eq, ite_true, ite_false, Nat.reduceLeDiff, Nat.reduceEqDiff, Nat.reduceLT, Nat.reduceAdd, Nat.reduceMul, Nat.reduceSub, Nat.le_refl, eq_self, li_0, li_1, li_2, li_3, li_4, li_5, li_6, li_7, li_8, li_9, li_10, li_11, li_12, li_13, li_14, li_15, li_16, li_17, li_18, li_19, li_20, li_21, li_22, li_23, li_24, li_25, li_26, li_27, li_28, li_29, li_30, li_31, li_32, li_44, li_48, li_57, li_59, li_60, li_61, li_62, li_63, li_97, li_100, li_122, li_123, li_125, li_127, li_255, li_400, li_401, li_800, li_1023, li_1024, li_10827, i_add, i_mul, i_sub, i_p1, i_m1, i_nm, i_nm2, i_cl, i_cl0, vi_ok, i_lt, i_le, i_eq, lg_e, gI_s, gI_c, gI_p, gI_L, gI_R, gL_s, gL_c, gL_p, gL_I, gL_R, gR_s, gR_c, gR_p, gR_I, gR_L]; exact hS.2.2.1 j hj
          · simp (disch := first | assumption | omega) only [true_and, and_true, forall_eq, true_implies, false_implies, implies_true, not_true_eq_false, not_false_eq_true, false_and, and_false, ne_eq, ite_true, ite_false, Nat.reduceLeDiff, Nat.reduceEqDiff, Nat.reduceLT, Nat.reduceAdd, Nat.reduceMul, Nat.reduceSub, Nat.le_refl, eq_self, li_0, li_1, li_2, li_3, li_4, li_5, li_6, li_7, li_8, li_9, li_10, li_11, li_12, li_13, li_14, li_15, li_16, li_17, li_18, li_19, li_20, li_21, li_22, li_23, li_24, li_25, li_26, li_27, li_28, li_29, li_30, li_31, li_32, li_44, li_48, li_57, li_59, li_60, li_61, li_62, li_63, li_97, li_100, li_122, li_123, li_125, li_127, li_255, li_400, li_401, li_800, li_1023, li_1024, li_10827, i_add, i_mul, i_sub, i_p1, i_m1, i_nm, i_nm2, i_cl, i_cl0, vi_ok, i_lt, i_le, i_eq, lg_e, gI_s, gI_c, gI_p, gI_L, gI_R, gL_s, gL_c, gL_p, gL_I, gL_R, gR_s, gR_c, gR_p, gR_I, gR_L]; exact hS.2.2.2 v hv
        have ea9 : (ax_setI h 103 42 (Int32.ofNat (k + 1))).1 145 k = Int32.ofNat (A k) := by rw [gI_c (by omega)]; exact ea
        have hB9 : RepB (ax_setI h 103 42 (Int32.ofNat (k + 1))) y D := hB.fr ((Fr.refl (fun c _ => c = 103) h).setI rfl) (fun c p h1 h2 q => by omega)
        revert hr9 hf9 h429 hS9 ea9 hB9
        generalize ax_setI h 103 42 (Int32.ofNat (k + 1)) = h9
        intro hr9 hf9 h429 hS9 ea9 hB9
        have nx : trS D A w (k + 1) = if k = w then trS D A w k else tryD D (trS D A w k) (A k) := rfl
        refine ⟨fun c => ?_, fun c => ?_⟩
        · rw [if_pos c] at nx
          exact ih (k + 1) (by omega) h9 hr9 hf9 h429 (by rw [nx]; exact hS9) hn2
        · rw [if_neg c] at nx
          by_cases hact : A k < 27
          · refine k_isAct_y hact ⟨fun q => absurd q (by decide), fun _ => ⟨isB_x hy, k_X12_possible hr9 hy wS hS9 hD hB9 ?_⟩⟩
            simp (disch := first | assumption | omega) only [true_and, and_true, forall_eq, true_implies, false_implies, implies_true, not_true_eq_false, not_false_eq_true, false_and, and_false, ne_eq, ite_true, ite_false, Nat.reduceLeDiff, Nat.reduceEqDiff, Nat.reduceLT, Nat.reduceAdd, Nat.reduceMul, Nat.reduceSub, Nat.le_refl, eq_self, li_0, li_1, li_2, li_3, li_4, li_5, li_6, li_7, li_8, li_9, li_10, li_11, li_12, li_13, li_14, li_15, li_16, li_17, li_18, li_19, li_20, li_21, li_22, li_23, li_24, li_25, li_26, li_27, li_28, li_29, li_30, li_31, li_32, li_44, li_48, li_57, li_59, li_60, li_61, li_62, li_63, li_97, li_100, li_122, li_123, li_125, li_127, li_255, li_400, li_401, li_800, li_1023, li_1024, li_10827, i_add, i_mul, i_sub, i_p1, i_m1, i_nm, i_nm2, i_cl, i_cl0, vi_ok, i_lt, i_le, i_eq, lg_e, rf_103_4, rf_103_6, rf_103_7, rf_103_8, rf_103_9, rf_103_10, rf_103_21, rf_103_22, rf_103_23, rf_103_26, rf_103_27, rf_103_28, rf_103_29, rf_103_30, rf_103_31, rf_103_32, rf_103_33, rf_103_34, rf_103_35, rf_103_37, rf_103_38, rf_103_39, rf_103_44, rf_103_45, rf_103_46, rf_103_47, rf_103_48, rf_103_49, rf_103_54, rf_103_55, is_103, is_104, sz_104, is_125, sz_125, is_126, sz_126, is_127, sz_127, is_128, sz_128, is_129, sz_129, is_130, sz_130, is_131, sz_131, is_132, sz_132, is_133, sz_133, is_134, sz_134, is_135, sz_135, is_136, sz_136, is_137, sz_137, is_138, sz_138, is_139, sz_139, is_140, sz_140, is_141, sz_141, is_142, sz_142, is_143, sz_143, is_144, sz_144, is_145, sz_145, is_146, sz_146, is_147, sz_147, is_148, sz_148, is_149, sz_149, is_150, sz_150, is_151, sz_151, is_152, sz_152, is_153, sz_153, ea9, i_bit hact, bI_eo]
            refine ⟨fun p => ?_, fun p => ?_⟩
            · exact ih (k + 1) (by omega) h9 hr9 hf9 h429 (by rw [nx, tryD_f (fun q => p q.2)]; exact hS9) hn2
            · refine k_X12_acts hr9 hy hD wS hS9 hB9 hact p (fun h10 f10 s10 => ?_)
              (try simp (disch := first | assumption | omega) only [true_and, and_true, forall_eq, true_implies, false_implies, implies_true, not_true_eq_false, not_false_eq_true, false_and, and_false, ne_eq, ite_true, ite_false, Nat.reduceLeDiff, Nat.reduceEqDiff, Nat.reduceLT, Nat.reduceAdd, Nat.reduceMul, Nat.reduceSub, Nat.le_refl, eq_self, li_0, li_1, li_2, li_3, li_4, li_5, li_6, li_7, li_8, li_9, li_10, li_11, li_12, li_13, li_14, li_15, li_16, li_17, li_18, li_19, li_20, li_21, li_22, li_23, li_24, li_25, li_26, li_27, li_28, li_29, li_30, li_31, li_32, li_44, li_48, li_57, li_59, li_60, li_61, li_62, li_63, li_97, li_100, li_122, li_123, li_125, li_127, li_255, li_400, li_401, li_800, li_1023, li_1024, li_10827, i_add, i_mul, i_sub, i_p1, i_m1, i_nm, i_nm2, i_cl, i_cl0, vi_ok, i_lt, i_le, i_eq, lg_e])
              exact ih (k + 1) (by omega) h10 (f10.refs hr9) (hf9.trans (f10.fr.mono (fun c p q => Or.inl q))) (by rw [(f10.fr 103 42 (fun q => by unfold PS at q; omega)).1]; exact h429) (by rw [nx, tryD_t ⟨hop, p⟩]; exact s10) hn2
          · refine k_isAct_n (fun q => hact ((i_lt (b := 27) (by omega) (by omega)).1 q.2)) ⟨fun _ => ?_, fun q => absurd rfl q⟩
            exact ih (k + 1) (by omega) h9 hr9 hf9 h429 (by rw [nx, tryD_f (fun q => hact (poss_lt hD q.2))]; exact hS9) hn2
  refine c_X12_comes (s_X12_comes_0 ⟨is_103, k_X12_begins hr0 (fun h3 f3 s3 => ?_)⟩)
  intro h4 e4
  have r3 := f3.refs hr0
  refine loop r 0 (Nat.zero_add _) h4 (by rw [e4]; exact r3.setI) (by rw [e4]; exact (f3.fr.mono (fun c p q => Or.inl q)).setI (Or.inr ⟨rfl, rfl⟩)) (by rw [e4, gI_s]; rfl) ?_ (fun j hj => absurd hj (Nat.not_lt_zero j))
  rw [e4]
  refine ⟨?_, ?_, fun j hj => ?_, fun v hv => ?_⟩
  · simp (disch := first | assumption | omega) only [true_and, and_true, forall_eq, true_implies, false_implies, implies_true, not_true_eq_false, not_false_eq_true, false_and, and_false, ne_eq, ite_true, ite_false, Nat.reduceLeDiff, Nat.reduceEqDiff, Nat.reduceLT, Nat.reduceAdd, Nat.reduceMul, Nat.reduceSub, Nat.le_refl, eq_self, li_0, li_1, li_2, li_3, li_4, li_5, li_6, li_7, li_8, li_9, li_10, li_11, li_12, li_13, li_14, li_15, li_16, li_17, li_18, li_19, li_20, li_21, li_22, li_23, li_24, li_25, li_26, li_27, li_28, li_29, li_30, li_31, li_32, li_44, li_48, li_57, li_59, li_60, li_61, li_62, li_63, li_97, li_100, li_122, li_123, li_125, li_127, li_255, li_400, li_401, li_800, li_1023, li_1024, li_10827, i_add, i_mul, i_sub, i_p1, i_m1, i_nm, i_nm2, i_cl, i_cl0, vi_ok, i_lt, i_le, i_eq, lg_e, gI_s, gI_c, gI_p, gI_L, gI_R, gL_s, gL_c, gL_p, gL_I, gL_R, gR_s, gR_c, gR_p, gR_I, gR_L]; exact s3.1
  · simp (disch := first | assumption | omega) only [true_and, and_true, forall_eq, true_implies, false_implies, implies_true, not_true_eq_false, not_false_eq_true, false_and, and_false, ne_eq, ite_true, ite_false, Nat.reduceLeDiff, Nat.reduceEqDiff, Nat.reduceLT, Nat.reduceAdd, Nat.reduceMul, Nat.reduceSub, Nat.le_refl, eq_self, li_0, li_1, li_2, li_3, li_4, li_5, li_6, li_7, li_8, li_9, li_10, li_11, li_12, li_13, li_14, li_15, li_16, li_17, li_18, li_19, li_20, li_21, li_22, li_23, li_24, li_25, li_26, li_27, li_28, li_29, li_30, li_31, li_32, li_44, li_48, li_57, li_59, li_60, li_61, li_62, li_63, li_97, li_100, li_122, li_123, li_125, li_127, li_255, li_400, li_401, li_800, li_1023, li_1024, li_10827, i_add, i_mul, i_sub, i_p1, i_m1, i_nm, i_nm2, i_cl, i_cl0, vi_ok, i_lt, i_le, i_eq, lg_e, gI_s, gI_c, gI_p, gI_L, gI_R, gL_s, gL_c, gL_p, gL_I, gL_R, gR_s, gR_c, gR_p, gR_I, gR_L]; exact s3.2.1
  · simp (disch := first | assumption | omega) only [true_and, and_true, forall_eq, true_implies, false_implies, implies_true, not_true_eq_false, not_false_eq_true, false_and, and_false, ne_eq, ite_true, ite_false, Nat.reduceLeDiff, Nat.reduceEqDiff, Nat.reduceLT, Nat.reduceAdd, Nat.reduceMul, Nat.reduceSub, Nat.le_refl, eq_self, li_0, li_1, li_2, li_3, li_4, li_5, li_6, li_7, li_8, li_9, li_10, li_11, li_12, li_13, li_14, li_15, li_16, li_17, li_18, li_19, li_20, li_21, li_22, li_23, li_24, li_25, li_26, li_27, li_28, li_29, li_30, li_31, li_32, li_44, li_48, li_57, li_59, li_60, li_61, li_62, li_63, li_97, li_100, li_122, li_123, li_125, li_127, li_255, li_400, li_401, li_800, li_1023, li_1024, li_10827, i_add, i_mul, i_sub, i_p1, i_m1, i_nm, i_nm2, i_cl, i_cl0, vi_ok, i_lt, i_le, i_eq, lg_e, gI_s, gI_c, gI_p, gI_L, gI_R, gL_s, gL_c, gL_p, gL_I, gL_R, gR_s, gR_c, gR_p, gR_I, gR_L]; exact s3.2.2.1 j hj
  · simp (disch := first | assumption | omega) only [true_and, and_true, forall_eq, true_implies, false_implies, implies_true, not_true_eq_false, not_false_eq_true, false_and, and_false, ne_eq, ite_true, ite_false, Nat.reduceLeDiff, Nat.reduceEqDiff, Nat.reduceLT, Nat.reduceAdd, Nat.reduceMul, Nat.reduceSub, Nat.le_refl, eq_self, li_0, li_1, li_2, li_3, li_4, li_5, li_6, li_7, li_8, li_9, li_10, li_11, li_12, li_13, li_14, li_15, li_16, li_17, li_18, li_19, li_20, li_21, li_22, li_23, li_24, li_25, li_26, li_27, li_28, li_29, li_30, li_31, li_32, li_44, li_48, li_57, li_59, li_60, li_61, li_62, li_63, li_97, li_100, li_122, li_123, li_125, li_127, li_255, li_400, li_401, li_800, li_1023, li_1024, li_10827, i_add, i_mul, i_sub, i_p1, i_m1, i_nm, i_nm2, i_cl, i_cl0, vi_ok, i_lt, i_le, i_eq, lg_e, gI_s, gI_c, gI_p, gI_L, gI_R, gL_s, gL_c, gL_p, gL_I, gL_R, gR_s, gR_c, gR_p, gR_I, gR_L]; exact s3.2.2.2 v hv
theorem trS_401 {D : AD} {A : Nat → Nat} : ∀ k, k ≤ 401 → trS D A 401 k = trD D A k := fun k hk => trS_lt k hk
theorem cntF_congr {T U : Nat → AS} {r : Nat} (h : ∀ k, k < r → T k = U k) : cntF T r = cntF U r := findN_congr (fun i hi => by rw [h i hi])
theorem cnt_end {D : AD} {A : Nat → Nat} {r : Nat} (hD : WfD D) : trD D A (cntF (trD D A) r) = trD D A r := by
  have a := findN_spec (fun k => 0 < (trD D A k).1) r
  have b := cntF_le (trD D A) r
  rcases Nat.lt_or_ge (cntF (trD D A) r) r with q | q
  · have z : 0 < (trD D A (cntF (trD D A) r)).1 := a.1 q
    have := trD_stay (D := D) (A := A) ((fault_iff (ws_trD hD A _)).2 z) (r - cntF (trD D A) r)
    rw [show cntF (trD D A) r + (r - cntF (trD D A) r) = r by omega] at this
    exact this.symm
  · rw [show cntF (trD D A) r = r by omega]
theorem PW_111 : PW 1 11 := Or.inr (Or.inr (Or.inr (Or.inr (Or.inr (Or.inr (Or.inl ⟨rfl, Or.inr (Or.inr rfl)⟩))))))
theorem PW_10341 : PW 103 41 := Or.inr (Or.inr (Or.inr (Or.inr (Or.inr (Or.inr (Or.inr ⟨rfl, Or.inr (Or.inr (Or.inl rfl))⟩))))))
theorem SCR_102 (p : Nat) : SCR 102 p := by unfold SCR; omega
theorem ob_tryRow {l : Launch} {g : AG} (h : AH) (a1 : Int32) (hI : Inv h) : C_X9_tryRow l g h 1 a1 (fun r h1 => C_X12_tryRow l g h1 103 a1 (fun r2 h2 => r2 = r ∧ Inv h2)) := by
  obtain ⟨X, Y, D, S, t, hI⟩ := hI
  have hr := hI.1
  by_cases hT : Tel t a1
  · obtain ⟨a, ha, rfl, ht⟩ := hT
    have hA := hI.2.1
    obtain ⟨t1, t2, t3, t4, t5, t6, t7, t8⟩ := (hI.2.2.1 a ha).1 ht
    have hx := hA.isx ha
    have hy := hA.isy ha
    obtain ⟨r, A, n1, n2, n3, n4⟩ := hI.2.2.2.2.2.1
    refine c_X9_tryRow (s_X9_tryRow_0 ⟨is_1, q_has_y hI.c ha ht ⟨fun _ => ?_, fun z => absurd z (by decide)⟩⟩)
    simp (disch := first | assumption | omega) only [true_and, and_true, forall_eq, true_implies, false_implies, implies_true, not_true_eq_false, not_false_eq_true, false_and, and_false, ne_eq, ite_true, ite_false, Nat.reduceLeDiff, Nat.reduceEqDiff, Nat.reduceLT, Nat.reduceAdd, Nat.reduceMul, Nat.reduceSub, Nat.le_refl, eq_self, li_0, li_1, li_2, li_3, li_4, li_5, li_6, li_7, li_8, li_9, li_10, li_11, li_12, li_13, li_14, li_15, li_16, li_17, li_18, li_19, li_20, li_21, li_22, li_23, li_24, li_25, li_26, li_27, li_28, li_29, li_30, li_31, li_32, li_44, li_48, li_57, li_59, li_60, li_61, li_62, li_63, li_97, li_100, li_122, li_123, li_125, li_127, li_255, li_400, li_401, li_800, li_1023, li_1024, li_10827, i_add, i_mul, i_sub, i_p1, i_m1, i_nm, i_nm2, i_cl, i_cl0, vi_ok, i_lt, i_le, i_eq, lg_e, rf_1_0, rf_1_2, rf_1_4, rf_1_5, rf_1_6, rf_1_7, rf_1_8, rf_1_10, is_1, is_2, sz_2, is_3, sz_3, is_67, sz_67, is_73, sz_73, is_74, sz_74, is_93, sz_93, is_101, sz_101, is_102, sz_102, hA.x ha, isA_x hx]
    refine k_actsToFault hr hx t2 t3 n1 n2 (fun k hk => ⟨(n4 k hk).1, (n4 k hk).2.1⟩) (fun h1 r1 f1 v1 => ?_)
    have hc := cntF_le (trD (D a) A) r
    simp (disch := first | assumption | omega) only [true_and, and_true, forall_eq, true_implies, false_implies, implies_true, not_true_eq_false, not_false_eq_true, false_and, and_false, ne_eq, ite_true, ite_false, Nat.reduceLeDiff, Nat.reduceEqDiff, Nat.reduceLT, Nat.reduceAdd, Nat.reduceMul, Nat.reduceSub, Nat.le_refl, eq_self, li_0, li_1, li_2, li_3, li_4, li_5, li_6, li_7, li_8, li_9, li_10, li_11, li_12, li_13, li_14, li_15, li_16, li_17, li_18, li_19, li_20, li_21, li_22, li_23, li_24, li_25, li_26, li_27, li_28, li_29, li_30, li_31, li_32, li_44, li_48, li_57, li_59, li_60, li_61, li_62, li_63, li_97, li_100, li_122, li_123, li_125, li_127, li_255, li_400, li_401, li_800, li_1023, li_1024, li_10827, i_add, i_mul, i_sub, i_p1, i_m1, i_nm, i_nm2, i_cl, i_cl0, vi_ok, i_lt, i_le, i_eq, lg_e, rf_1_0, rf_1_2, rf_1_4, rf_1_5, rf_1_6, rf_1_7, rf_1_8, rf_1_10, is_1, is_2, sz_2, is_3, sz_3, is_67, sz_67, is_73, sz_73, is_74, sz_74, is_93, sz_93, is_101, sz_101, is_102, sz_102, gI_s, gI_c, gI_p, gI_L, gI_R, gL_s, gL_c, gL_p, gL_I, gL_R, gR_s, gR_c, gR_p, gR_I, gR_L, v1 _ (Nat.le_refl _)]
    have w1 := ws_trD t2 A (cntF (trD (D a) A) r)
    refine q_X3_faultOf w1 (k_X9_granted ?_)
    rw [cnt_end t2]
    have f1s : Fr SCR h h1 := f1.mono (fun c p q => by rw [q]; exact SCR_102 p)
    refine c_X12_tryRow (s_X12_tryRow_0 ⟨is_103, ?_⟩)
    intro h2 e2
    have fp : Fr (fun c p => PQ c p ∨ (c = 1 ∧ p = 11)) h h2 := by
      rw [e2]
      exact (((f1s.pq.mono (fun c p q => Or.inl q)).setI (Or.inr ⟨rfl, rfl⟩)).setI (Or.inl PQ_112)).setI (Or.inl PQ_1030)
    have r2 : Refs h2 := by rw [e2]; exact r1.setI.setI.setI
    have w11 : h2.1 1 11 = Int32.ofNat (cntF (trD (D a) A) r) := by rw [e2]; simp (disch := first | assumption | omega) only [true_and, and_true, forall_eq, true_implies, false_implies, implies_true, not_true_eq_false, not_false_eq_true, false_and, and_false, ne_eq, ite_true, ite_false, Nat.reduceLeDiff, Nat.reduceEqDiff, Nat.reduceLT, Nat.reduceAdd, Nat.reduceMul, Nat.reduceSub, Nat.le_refl, eq_self, li_0, li_1, li_2, li_3, li_4, li_5, li_6, li_7, li_8, li_9, li_10, li_11, li_12, li_13, li_14, li_15, li_16, li_17, li_18, li_19, li_20, li_21, li_22, li_23, li_24, li_25, li_26, li_27, li_28, li_29, li_30, li_31, li_32, li_44, li_48, li_57, li_59, li_60, li_61, li_62, li_63, li_97, li_100, li_122, li_123, li_125, li_127, li_255, li_400, li_401, li_800, li_1023, li_1024, li_10827, i_add, i_mul, i_sub, i_p1, i_m1, i_nm, i_nm2, i_cl, i_cl0, vi_ok, i_lt, i_le, i_eq, lg_e, gI_s, gI_c, gI_p, gI_L, gI_R, gL_s, gL_c, gL_p, gL_I, gL_R, gR_s, gR_c, gR_p, gR_I, gR_L]
    have w12 : h2.1 1 12 = 0 := by rw [e2]; simp (disch := first | assumption | omega) only [true_and, and_true, forall_eq, true_implies, false_implies, implies_true, not_true_eq_false, not_false_eq_true, false_and, and_false, ne_eq, ite_true, ite_false, Nat.reduceLeDiff, Nat.reduceEqDiff, Nat.reduceLT, Nat.reduceAdd, Nat.reduceMul, Nat.reduceSub, Nat.le_refl, eq_self, li_0, li_1, li_2, li_3, li_4, li_5, li_6, li_7, li_8, li_9, li_10, li_11, li_12, li_13, li_14, li_15, li_16, li_17, li_18, li_19, li_20, li_21, li_22, li_23, li_24, li_25, li_26, li_27, li_28, li_29, li_30, li_31, li_32, li_44, li_48, li_57, li_59, li_60, li_61, li_62, li_63, li_97, li_100, li_122, li_123, li_125, li_127, li_255, li_400, li_401, li_800, li_1023, li_1024, li_10827, i_add, i_mul, i_sub, i_p1, i_m1, i_nm, i_nm2, i_cl, i_cl0, vi_ok, i_lt, i_le, i_eq, lg_e, gI_s, gI_c, gI_p, gI_L, gI_R, gL_s, gL_c, gL_p, gL_I, gL_R, gR_s, gR_c, gR_p, gR_I, gR_L]
    clear e2
    have no : ∀ c p, (PQ c p ∨ (c = 1 ∧ p = 11)) → ¬ (105 ≤ c ∧ c ≤ 127) ∧ ¬ (154 ≤ c ∧ c ≤ 193) ∧ c ≠ 104 ∧ c ≠ 145 ∧ ¬ (c = 103 ∧ (p = 40 ∨ p = 3 ∨ p = 41)) ∧ ¬ (c = 67 ∧ p = 3) := by
      intro c p q
      unfold PQ SCR at q
      omega
    have u4 : RepB h2 (Y a) (D a) := t4.fr fp (fun c p h1 h2 q => by
      have := no c p q
      unfold isB at hy
      omega)
    have hA2 : IA h2 X Y := hA.fr fp (fun c p q => by
      rcases q with q | q
      · unfold PQ SCR at q; omega
      · omega)
    refine k_isApp1 r2 ha (by rw [(fp 125 a (fun q => by have := no _ _ q; omega)).1]; exact t1) ⟨fun _ => ?_, fun z => absurd z (by decide)⟩
    simp (disch := first | assumption | omega) only [true_and, and_true, forall_eq, true_implies, false_implies, implies_true, not_true_eq_false, not_false_eq_true, false_and, and_false, ne_eq, ite_true, ite_false, Nat.reduceLeDiff, Nat.reduceEqDiff, Nat.reduceLT, Nat.reduceAdd, Nat.reduceMul, Nat.reduceSub, Nat.le_refl, eq_self, li_0, li_1, li_2, li_3, li_4, li_5, li_6, li_7, li_8, li_9, li_10, li_11, li_12, li_13, li_14, li_15, li_16, li_17, li_18, li_19, li_20, li_21, li_22, li_23, li_24, li_25, li_26, li_27, li_28, li_29, li_30, li_31, li_32, li_44, li_48, li_57, li_59, li_60, li_61, li_62, li_63, li_97, li_100, li_122, li_123, li_125, li_127, li_255, li_400, li_401, li_800, li_1023, li_1024, li_10827, i_add, i_mul, i_sub, i_p1, i_m1, i_nm, i_nm2, i_cl, i_cl0, vi_ok, i_lt, i_le, i_eq, lg_e, rf_103_4, rf_103_6, rf_103_7, rf_103_8, rf_103_9, rf_103_10, rf_103_21, rf_103_22, rf_103_23, rf_103_26, rf_103_27, rf_103_28, rf_103_29, rf_103_30, rf_103_31, rf_103_32, rf_103_33, rf_103_34, rf_103_35, rf_103_37, rf_103_38, rf_103_39, rf_103_44, rf_103_45, rf_103_46, rf_103_47, rf_103_48, rf_103_49, rf_103_54, rf_103_55, is_103, is_104, sz_104, is_125, sz_125, is_126, sz_126, is_127, sz_127, is_128, sz_128, is_129, sz_129, is_130, sz_130, is_131, sz_131, is_132, sz_132, is_133, sz_133, is_134, sz_134, is_135, sz_135, is_136, sz_136, is_137, sz_137, is_138, sz_138, is_139, sz_139, is_140, sz_140, is_141, sz_141, is_142, sz_142, is_143, sz_143, is_144, sz_144, is_145, sz_145, is_146, sz_146, is_147, sz_147, is_148, sz_148, is_149, sz_149, is_150, sz_150, is_151, sz_151, is_152, sz_152, is_153, sz_153, hA2.y ha, isB_x hy]
    refine k_comes (w := 401) r2 hy t2 u4 n1 (by rw [(fp 103 40 (fun q => by have := no _ _ q; omega)).1]; exact n3) (fun k hk => ⟨(n4 k hk).1, by rw [(fp 145 k (fun q => by have := no _ _ q; omega)).1]; exact (n4 k hk).2.2⟩) (Or.inl ⟨rfl, rfl⟩) (fun h3 r3 f3 v42 => ?_)
    rw [trS_401 r (by omega)]
    rw [cntF_congr (U := trD (D a) A) (fun k hk => trS_401 k (by omega))] at v42
    rw [v42]
    (try simp (disch := first | assumption | omega) only [true_and, and_true, forall_eq, true_implies, false_implies, implies_true, not_true_eq_false, not_false_eq_true, false_and, and_false, ne_eq, ite_true, ite_false, Nat.reduceLeDiff, Nat.reduceEqDiff, Nat.reduceLT, Nat.reduceAdd, Nat.reduceMul, Nat.reduceSub, Nat.le_refl, eq_self, li_0, li_1, li_2, li_3, li_4, li_5, li_6, li_7, li_8, li_9, li_10, li_11, li_12, li_13, li_14, li_15, li_16, li_17, li_18, li_19, li_20, li_21, li_22, li_23, li_24, li_25, li_26, li_27, li_28, li_29, li_30, li_31, li_32, li_44, li_48, li_57, li_59, li_60, li_61, li_62, li_63, li_97, li_100, li_122, li_123, li_125, li_127, li_255, li_400, li_401, li_800, li_1023, li_1024, li_10827, i_add, i_mul, i_sub, i_p1, i_m1, i_nm, i_nm2, i_cl, i_cl0, vi_ok, i_lt, i_le, i_eq, lg_e])
    refine k_X12_done ⟨rfl, ?_⟩
    have fe : Fr PW h (ax_setI (ax_setI (ax_setI h3 103 41 (Int32.ofNat (cntF (trD (D a) A) r))) 103 1 0) 103 2 (-1)) := ((((fp.mono (R := PW) (fun c p q => by
      rcases q with q | q
      · exact PW_Q q
      · rw [q.1, q.2]; exact PW_111)).trans (f3.mono (fun c p q => PW_Q (PQ_scr (PCm_scr q))))).setI PW_10341).setI (PW_Q PQ_1031)).setI (PW_Q PQ_1032)
    have fe2 : Fr (fun c p => PQ c p ∨ (c = 1 ∧ p = 11) ∨ (c = 103 ∧ p = 41)) h (ax_setI (ax_setI (ax_setI h3 103 41 (Int32.ofNat (cntF (trD (D a) A) r))) 103 1 0) 103 2 (-1)) := ((((fp.mono (R := fun c p => PQ c p ∨ (c = 1 ∧ p = 11) ∨ (c = 103 ∧ p = 41)) (fun c p q => by
      rcases q with q | q
      · exact Or.inl q
      · exact Or.inr (Or.inl q))).trans (f3.mono (fun c p q => Or.inl (PQ_scr (PCm_scr q))))).setI (Or.inr (Or.inr ⟨rfl, rfl⟩))).setI (Or.inl PQ_1031)).setI (Or.inl PQ_1032)
    have no2 : ∀ c p, (PQ c p ∨ (c = 1 ∧ p = 11) ∨ (c = 103 ∧ p = 41)) → c ≠ 2 ∧ c ≠ 129 ∧ c ≠ 101 ∧ c ≠ 145 ∧ c ≠ 94 ∧ ¬ (c = 1 ∧ (p = 1 ∨ p = 9)) ∧ ¬ (c = 103 ∧ (p = 11 ∨ p = 40 ∨ p = 43 ∨ p = 3)) ∧ ¬ (c = 67 ∧ p = 3) := by
      intro c p q
      unfold PQ SCR at q
      omega
    refine inv_end2 (hI.c.w fe r3.setI.setI.setI (hI.2.2.2.1.fr fe2 (fun c p q => by have := no2 c p q; omega)) (hI.2.2.2.2.2.1.fr fe2 (fun c p q => by have := no2 c p q; omega)) (hI.2.2.2.2.2.2.2.fr fe2 (fun c p q => by have := no2 c p q; omega))) ?_ ?_ 0 (by decide) ?_ (by simp (disch := first | assumption | omega) only [true_and, and_true, forall_eq, true_implies, false_implies, implies_true, not_true_eq_false, not_false_eq_true, false_and, and_false, ne_eq, ite_true, ite_false, Nat.reduceLeDiff, Nat.reduceEqDiff, Nat.reduceLT, Nat.reduceAdd, Nat.reduceMul, Nat.reduceSub, Nat.le_refl, eq_self, li_0, li_1, li_2, li_3, li_4, li_5, li_6, li_7, li_8, li_9, li_10, li_11, li_12, li_13, li_14, li_15, li_16, li_17, li_18, li_19, li_20, li_21, li_22, li_23, li_24, li_25, li_26, li_27, li_28, li_29, li_30, li_31, li_32, li_44, li_48, li_57, li_59, li_60, li_61, li_62, li_63, li_97, li_100, li_122, li_123, li_125, li_127, li_255, li_400, li_401, li_800, li_1023, li_1024, li_10827, i_add, i_mul, i_sub, i_p1, i_m1, i_nm, i_nm2, i_cl, i_cl0, vi_ok, i_lt, i_le, i_eq, lg_e, gI_s, gI_c, gI_p, gI_L, gI_R, gL_s, gL_c, gL_p, gL_I, gL_R, gR_s, gR_c, gR_p, gR_I, gR_L]) (by simp (disch := first | assumption | omega) only [true_and, and_true, forall_eq, true_implies, false_implies, implies_true, not_true_eq_false, not_false_eq_true, false_and, and_false, ne_eq, ite_true, ite_false, Nat.reduceLeDiff, Nat.reduceEqDiff, Nat.reduceLT, Nat.reduceAdd, Nat.reduceMul, Nat.reduceSub, Nat.le_refl, eq_self, li_0, li_1, li_2, li_3, li_4, li_5, li_6, li_7, li_8, li_9, li_10, li_11, li_12, li_13, li_14, li_15, li_16, li_17, li_18, li_19, li_20, li_21, li_22, li_23, li_24, li_25, li_26, li_27, li_28, li_29, li_30, li_31, li_32, li_44, li_48, li_57, li_59, li_60, li_61, li_62, li_63, li_97, li_100, li_122, li_123, li_125, li_127, li_255, li_400, li_401, li_800, li_1023, li_1024, li_10827, i_add, i_mul, i_sub, i_p1, i_m1, i_nm, i_nm2, i_cl, i_cl0, vi_ok, i_lt, i_le, i_eq, lg_e, gI_s, gI_c, gI_p, gI_L, gI_R, gL_s, gL_c, gL_p, gL_I, gL_R, gR_s, gR_c, gR_p, gR_I, gR_L])
    · rw [(fe2 67 3 (fun q => by have := no2 _ _ q; omega)).1, (fe2 103 3 (fun q => by have := no2 _ _ q; omega)).1]
      exact hI.2.2.2.2.1.1
    · simp (disch := first | assumption | omega) only [true_and, and_true, forall_eq, true_implies, false_implies, implies_true, not_true_eq_false, not_false_eq_true, false_and, and_false, ne_eq, ite_true, ite_false, Nat.reduceLeDiff, Nat.reduceEqDiff, Nat.reduceLT, Nat.reduceAdd, Nat.reduceMul, Nat.reduceSub, Nat.le_refl, eq_self, li_0, li_1, li_2, li_3, li_4, li_5, li_6, li_7, li_8, li_9, li_10, li_11, li_12, li_13, li_14, li_15, li_16, li_17, li_18, li_19, li_20, li_21, li_22, li_23, li_24, li_25, li_26, li_27, li_28, li_29, li_30, li_31, li_32, li_44, li_48, li_57, li_59, li_60, li_61, li_62, li_63, li_97, li_100, li_122, li_123, li_125, li_127, li_255, li_400, li_401, li_800, li_1023, li_1024, li_10827, i_add, i_mul, i_sub, i_p1, i_m1, i_nm, i_nm2, i_cl, i_cl0, vi_ok, i_lt, i_le, i_eq, lg_e, gI_s, gI_c, gI_p, gI_L, gI_R, gL_s, gL_c, gL_p, gL_I, gL_R, gR_s, gR_c, gR_p, gR_I, gR_L]
      rw [(f3 1 11 (fun q => by have := PCm_no q; omega)).1]
      exact w11
    · simp (disch := first | assumption | omega) only [true_and, and_true, forall_eq, true_implies, false_implies, implies_true, not_true_eq_false, not_false_eq_true, false_and, and_false, ne_eq, ite_true, ite_false, Nat.reduceLeDiff, Nat.reduceEqDiff, Nat.reduceLT, Nat.reduceAdd, Nat.reduceMul, Nat.reduceSub, Nat.le_refl, eq_self, li_0, li_1, li_2, li_3, li_4, li_5, li_6, li_7, li_8, li_9, li_10, li_11, li_12, li_13, li_14, li_15, li_16, li_17, li_18, li_19, li_20, li_21, li_22, li_23, li_24, li_25, li_26, li_27, li_28, li_29, li_30, li_31, li_32, li_44, li_48, li_57, li_59, li_60, li_61, li_62, li_63, li_97, li_100, li_122, li_123, li_125, li_127, li_255, li_400, li_401, li_800, li_1023, li_1024, li_10827, i_add, i_mul, i_sub, i_p1, i_m1, i_nm, i_nm2, i_cl, i_cl0, vi_ok, i_lt, i_le, i_eq, lg_e, gI_s, gI_c, gI_p, gI_L, gI_R, gL_s, gL_c, gL_p, gL_I, gL_R, gR_s, gR_c, gR_p, gR_I, gR_L]
      rw [(f3 1 12 (fun q => by have := PCm_no q; omega)).1]
      exact w12
  · refine c_X9_tryRow (s_X9_tryRow_0 ⟨is_1, q_has_n hI.c hT ⟨fun z => absurd rfl z, fun _ => k_X9_refused ?_⟩⟩)
    refine c_X12_tryRow (s_X12_tryRow_0 ⟨is_103, ?_⟩)
    intro h2 e2
    obtain ⟨i1, f1, g1⟩ := mIn2 hI.c ((Fr.refl PQ h).setI PQ_112) hI.1.setI e2
    subst e2
    exact q_isApp_n i1 hT ⟨fun z => absurd rfl z, fun _ => ob_ref hI 1 (by decide)⟩
