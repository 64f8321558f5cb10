/-- one turn over THE ROW: the ACTS below k are still to be looked at -/
noncomputable def psD (D : AD) (f : Nat) : Nat → (Nat → Nat) → Nat → Nat → (Nat → Nat) × Nat × Nat
  | 0, A, r, c => (A, r, c)
  | k + 1, A, r, c => if (trS D A k r).1 = f then psD D f k (rem A k) (r - 1) 1 else psD D f k A r c
noncomputable def shN (D : AD) (f : Nat) : Nat → (Nat → Nat) → Nat → (Nat → Nat) × Nat
  | 0, A, r => (A, r)
  | e + 1, A, r => if (psD D f r A r 0).2.2 = 0 then ((psD D f r A r 0).1, (psD D f r A r 0).2.1) else shN D f e (psD D f r A r 0).1 (psD D f r A r 0).2.1
theorem psD_le {D : AD} {f : Nat} : ∀ k A r c, k ≤ r → c ≤ 1 → (psD D f k A r c).2.1 ≤ r ∧ (psD D f k A r c).2.2 ≤ 1 ∧ ((psD D f k A r c).2.2 ≠ 0 → c = 1 ∨ (psD D f k A r c).2.1 < r) := by
  intro k
  induction k with
  | zero => intro A r c hk hc; exact ⟨Nat.le_refl r, hc, fun z => Or.inl (by have : c ≠ 0 := z; omega)⟩
  | succ k ih =>
    intro A r c hk hc
    by_cases z : (trS D A k r).1 = f
    · have e : psD D f (k + 1) A r c = psD D f k (rem A k) (r - 1) 1 := if_pos z
      rw [e]
      have q := ih (rem A k) (r - 1) 1 (by omega) (by omega)
      exact ⟨by omega, q.2.1, fun _ => Or.inr (by omega)⟩
    · have e : psD D f (k + 1) A r c = psD D f k A r c := if_neg z
      rw [e]
      exact ih A r c (by omega) hc
theorem psD_ok {D : AD} {f : Nat} : ∀ k A r c, k ≤ r → (trD D A r).1 = f → (∀ i, i < r → A i < 1000) → (trD D (psD D f k A r c).1 (psD D f k A r c).2.1).1 = f ∧ ∀ i, i < (psD D f k A r c).2.1 → (psD D f k A r c).1 i < 1000 := by
  intro k
  induction k with
  | zero => intro A r c _ h1 h2; exact ⟨h1, h2⟩
  | succ k ih =>
    intro A r c hk h1 h2
    by_cases z : (trS D A k r).1 = f
    · have e : psD D f (k + 1) A r c = psD D f k (rem A k) (r - 1) 1 := if_pos z
      rw [e]
      refine ih (rem A k) (r - 1) 1 (by omega) ?_ (fun i hi => ?_)
      · rw [trD_rem2 (r - 1) (by omega), show r - 1 + 1 = r by omega]; exact z
      · unfold rem
        split
        · exact h2 i (by omega)
        · exact h2 (i + 1) (by omega)
    · have e : psD D f (k + 1) A r c = psD D f k A r c := if_neg z
      rw [e]
      exact ih A r c (by omega) h1 h2
def RowC (h : AH) (D : AD) (A : Nat → Nat) (r : Nat) : Prop := h.1 1 9 = Int32.ofNat r ∧ (∀ i, i < r → A i < 1000 ∧ h.1 101 i = Int32.ofNat (A i)) ∧ ∀ k, k ≤ r → h.2.1 102 k = Int64.ofNat (en (trD D A k))
def PSh (c p : Nat) : Prop := c = 101 ∨ c = 102 ∨ (c = 1 ∧ p = 9)
theorem k_comesWithout {l : Launch} {g : AG} {h : AH} {x r k f : Nat} {A : Nat → Nat} {D : AD} {Q : Int32 → AH → Prop} (hr : Refs h) (hx : isA x) (hD : WfD D) (hA : RepA h x D) (h400 : r ≤ 400) (hk : k < r) (hC : RowC h D A r) (hf : (trD D A r).1 = f) (hf2 : f ≤ 20) (q1 : (trS D A k r).1 = f → Q 1 h) (q0 : ¬ (trS D A k r).1 = f → Q 0 h) : C_X9_comesWithout l g h 1 x (Int32.ofNat k) (Int32.ofNat f) Q := by
  obtain ⟨c1, c2, c3⟩ := hC
  have fin : ∀ j, j ≤ r → ((trS D A k j).2.1 = 0 ∨ j = r) → L_X9_comesWithout_69 l g h (Int32.ofNat f) (Int64.ofNat (en (trS D A k j))) Q := by
    intro j hj hz
    have e : (trS D A k j).1 = (trS D A k r).1 := by
      rcases hz with z | z
      · have := trS_stay z (r - j)
        rw [show j + (r - j) = r by omega] at this
        rw [this]
      · rw [z]
    have w := ws_trS hD A k j
    have fl := fault_le w
    refine s_X9_comesWithout_69 (q_X3_faultOf w ?_)
    simp (disch := first | assumption | omega) only [true_and, and_true, forall_eq, true_implies, false_implies, implies_true, not_true_eq_false, not_false_eq_true, false_and, and_false, ne_eq, ite_true, ite_false, Nat.reduceLeDiff, Nat.reduceEqDiff, Nat.reduceLT, Nat.reduceAdd, Nat.reduceMul, Nat.reduceSub, Nat.le_refl, eq_self, li_0, li_1, li_2, li_3, li_4, li_5, li_6, li_7, li_8, li_9, li_10, li_11, li_12, li_13, li_14, li_15, li_16, li_17, li_18, li_19, li_20, li_21, li_22, li_23, li_24, li_25, li_26, li_27, li_28, li_29, li_30, li_31, li_32, li_44, li_48, li_57, li_59, li_60, li_61, li_62, li_63, li_97, li_100, li_122, li_123, li_125, li_127, li_255, li_400, li_401, li_800, li_1023, li_1024, li_10827, i_add, i_mul, i_sub, i_p1, i_m1, i_nm, i_nm2, i_cl, i_cl0, vi_ok, i_lt, i_le, i_eq, lg_e]
    rw [e]
    exact ⟨q0, q1⟩
  have loop : ∀ d j, j + d = r → k < j → L_X9_comesWithout_13 l g h 1 x (Int32.ofNat f) (Int64.ofNat (en (trS D A k j))) (Int32.ofNat j) Q := by
    intro d
    induction d with
    | zero =>
      intro j hj hkj
      refine s_X9_comesWithout_13 ?_
      simp (disch := first | assumption | omega) only [true_and, and_true, forall_eq, true_implies, false_implies, implies_true, not_true_eq_false, not_false_eq_true, false_and, and_false, ne_eq, ite_true, ite_false, Nat.reduceLeDiff, Nat.reduceEqDiff, Nat.reduceLT, Nat.reduceAdd, Nat.reduceMul, Nat.reduceSub, Nat.le_refl, eq_self, li_0, li_1, li_2, li_3, li_4, li_5, li_6, li_7, li_8, li_9, li_10, li_11, li_12, li_13, li_14, li_15, li_16, li_17, li_18, li_19, li_20, li_21, li_22, li_23, li_24, li_25, li_26, li_27, li_28, li_29, li_30, li_31, li_32, li_44, li_48, li_57, li_59, li_60, li_61, li_62, li_63, li_97, li_100, li_122, li_123, li_125, li_127, li_255, li_400, li_401, li_800, li_1023, li_1024, li_10827, i_add, i_mul, i_sub, i_p1, i_m1, i_nm, i_nm2, i_cl, i_cl0, vi_ok, i_lt, i_le, i_eq, lg_e, is_1, c1, show r ≤ j by omega]
      exact fin j (by omega) (Or.inr (by omega))
    | succ d ih =>
      intro j hj hkj
      have wS := ws_trS hD A k j
      have wD := ws_trD hD A j
      have b1 := en_lt wS
      have b2 := en_lt wD
      have va := c2 j (by omega)
      refine s_X9_comesWithout_13 ?_
      simp (disch := first | assumption | omega) only [true_and, and_true, forall_eq, true_implies, false_implies, implies_true, not_true_eq_false, not_false_eq_true, false_and, and_false, ne_eq, ite_true, ite_false, Nat.reduceLeDiff, Nat.reduceEqDiff, Nat.reduceLT, Nat.reduceAdd, Nat.reduceMul, Nat.reduceSub, Nat.le_refl, eq_self, li_0, li_1, li_2, li_3, li_4, li_5, li_6, li_7, li_8, li_9, li_10, li_11, li_12, li_13, li_14, li_15, li_16, li_17, li_18, li_19, li_20, li_21, li_22, li_23, li_24, li_25, li_26, li_27, li_28, li_29, li_30, li_31, li_32, li_44, li_48, li_57, li_59, li_60, li_61, li_62, li_63, li_97, li_100, li_122, li_123, li_125, li_127, li_255, li_400, li_401, li_800, li_1023, li_1024, li_10827, i_add, i_mul, i_sub, i_p1, i_m1, i_nm, i_nm2, i_cl, i_cl0, vi_ok, i_lt, i_le, i_eq, lg_e, rf_1_0, rf_1_2, rf_1_4, rf_1_5, rf_1_6, rf_1_7, rf_1_8, rf_1_10, is_1, is_2, sz_2, is_3, sz_3, is_67, sz_67, is_73, sz_73, is_74, sz_74, is_93, sz_93, is_101, sz_101, is_102, sz_102, c1, c3 j (by omega), va.2, isA_x hx, show ¬ r ≤ j by omega]
      refine ⟨fun z => ?_, fun z => ?_⟩
      · refine k_X0_tryAct hr hx hD hA wS (by omega) ?_
        have nx : tryD D (trS D A k j) (A j) = trS D A k (j + 1) := by
          show _ = (if j = k then trS D A k j else tryD D (trS D A k j) (A j))
          rw [if_neg (by omega)]
        rw [nx]
        have w1 := ws_trS hD A k (j + 1)
        have f1 := fault_le w1
        have fi := fault_iff w1
        refine q_X3_faultOf w1 ?_
        simp (disch := first | assumption | omega) only [true_and, and_true, forall_eq, true_implies, false_implies, implies_true, not_true_eq_false, not_false_eq_true, false_and, and_false, ne_eq, ite_true, ite_false, Nat.reduceLeDiff, Nat.reduceEqDiff, Nat.reduceLT, Nat.reduceAdd, Nat.reduceMul, Nat.reduceSub, Nat.le_refl, eq_self, li_0, li_1, li_2, li_3, li_4, li_5, li_6, li_7, li_8, li_9, li_10, li_11, li_12, li_13, li_14, li_15, li_16, li_17, li_18, li_19, li_20, li_21, li_22, li_23, li_24, li_25, li_26, li_27, li_28, li_29, li_30, li_31, li_32, li_44, li_48, li_57, li_59, li_60, li_61, li_62, li_63, li_97, li_100, li_122, li_123, li_125, li_127, li_255, li_400, li_401, li_800, li_1023, li_1024, li_10827, i_add, i_mul, i_sub, i_p1, i_m1, i_nm, i_nm2, i_cl, i_cl0, vi_ok, i_lt, i_le, i_eq, lg_e]
        refine ⟨fun _ => ih (j + 1) (by omega) (by omega), fun y => fin (j + 1) (by omega) (Or.inl (fi.2 (by omega)))⟩
      · have e2 : en (trS D A k j) = en (trD D A j) := (l_eq (by omega) (by omega)).1 z
        have se := trS_SE hD hkj (SE_of_en wS wD e2) (r - j)
        rw [show j + (r - j) = r by omega] at se
        exact q1 (by rw [se.1]; exact hf)
  refine c_X9_comesWithout (s_X9_comesWithout_0 ?_)
  simp (disch := first | assumption | omega) only [true_and, and_true, forall_eq, true_implies, false_implies, implies_true, not_true_eq_false, not_false_eq_true, false_and, and_false, ne_eq, ite_true, ite_false, Nat.reduceLeDiff, Nat.reduceEqDiff, Nat.reduceLT, Nat.reduceAdd, Nat.reduceMul, Nat.reduceSub, Nat.le_refl, eq_self, li_0, li_1, li_2, li_3, li_4, li_5, li_6, li_7, li_8, li_9, li_10, li_11, li_12, li_13, li_14, li_15, li_16, li_17, li_18, li_19, li_20, li_21, li_22, li_23, li_24, li_25, li_26, li_27, li_28, li_29, li_30, li_31, li_32, li_44, li_48, li_57, li_59, li_60, li_61, li_62, li_63, li_97, li_100, li_122, li_123, li_125, li_127, li_255, li_400, li_401, li_800, li_1023, li_1024, li_10827, i_add, i_mul, i_sub, i_p1, i_m1, i_nm, i_nm2, i_cl, i_cl0, vi_ok, i_lt, i_le, i_eq, lg_e, rf_1_0, rf_1_2, rf_1_4, rf_1_5, rf_1_6, rf_1_7, rf_1_8, rf_1_10, is_1, is_2, sz_2, is_3, sz_3, is_67, sz_67, is_73, sz_73, is_74, sz_74, is_93, sz_93, is_101, sz_101, is_102, sz_102, c3 k (by omega)]
  have e : trD D A k = trS D A k (k + 1) := by
    show _ = (if k = k then trS D A k k else tryD D (trS D A k k) (A k))
    rw [if_pos rfl, trS_lt k (Nat.le_refl k)]
  rw [e]
  exact loop (r - (k + 1)) (k + 1) (by omega) (by omega)
theorem k_leaveOut {l : Launch} {g : AG} {h0 : AH} {x r k : Nat} {A : Nat → Nat} {D : AD} {Q : AH → Prop} (hr0 : Refs h0) (hx : isA x) (hD : WfD D) (hA0 : RepA h0 x D) (h400 : r ≤ 400) (hk : k < r) (hC : RowC h0 D A r) (hq : ∀ h', Refs h' → Fr PSh h0 h' → RowC h' D (rem A k) (r - 1) → Q h') : C_X9_leaveOut l g h0 1 x (Int32.ofNat k) Q := by
  have hxu : x = 4 ∨ x = 25 ∨ x = 46 := hx
  obtain ⟨c1, c2, c3⟩ := hC
  have loop : ∀ d n, n + d = r - 1 → k ≤ n → ∀ h, Refs h → Fr PSh h0 h → h.1 1 9 = Int32.ofNat r → (∀ i, i < r → h.1 101 i = Int32.ofNat (if i < n then rem A k i else A i)) → (∀ j, j ≤ n → h.2.1 102 j = Int64.ofNat (en (trD D (rem A k) j))) → L_X9_leaveOut_2 l g h 1 x (Int32.ofNat n) Q := by
    intro d
    induction d with
    | zero =>
      intro n hn hkn h hr hf e9 va vt
      have hnr : n = r - 1 := by omega
      refine s_X9_leaveOut_2 ?_
      rw [e9]
      simp (disch := first | assumption | omega) only [true_and, and_true, forall_eq, true_implies, false_implies, implies_true, not_true_eq_false, not_false_eq_true, false_and, and_false, ne_eq, ite_true, ite_false, Nat.reduceLeDiff, Nat.reduceEqDiff, Nat.reduceLT, Nat.reduceAdd, Nat.reduceMul, Nat.reduceSub, Nat.le_refl, eq_self, li_0, li_1, li_2, li_3, li_4, li_5, li_6, li_7, li_8, li_9, li_10, li_11, li_12, li_13, li_14, li_15, li_16, li_17, li_18, li_19, li_20, li_21, li_22, li_23, li_24, li_25, li_26, li_27, li_28, li_29, li_30, li_31, li_32, li_44, li_48, li_57, li_59, li_60, li_61, li_62, li_63, li_97, li_100, li_122, li_123, li_125, li_127, li_255, li_400, li_401, li_800, li_1023, li_1024, li_10827, i_add, i_mul, i_sub, i_p1, i_m1, i_nm, i_nm2, i_cl, i_cl0, vi_ok, i_lt, i_le, i_eq, lg_e, is_1, show r - 1 ≤ n by omega]
      refine hq _ hr.setI (hf.setI (Or.inr (Or.inr ⟨rfl, rfl⟩))) ⟨gI_s _ _ _ _, fun i hi => ⟨?_, ?_⟩, fun j hj => ?_⟩
      · unfold rem
        split
        · exact (c2 i (by omega)).1
        · exact (c2 (i + 1) (by omega)).1
      · rw [gI_c (by omega), va i (by omega), if_pos (by omega)]
      · exact vt j (by omega)
    | succ d ih =>
      intro n hn hkn h hr hf e9 va vt
      have hA : RepA h x D := hA0.fr hf (fun c p h1 h2 q => by unfold PSh at q; omega)
      have v1 := va (n + 1) (by omega)
      rw [if_neg (by omega)] at v1
      have er : rem A k n = A (n + 1) := by unfold rem; rw [if_neg (by omega)]
      refine s_X9_leaveOut_2 ?_
      rw [e9]
      simp (disch := first | assumption | omega) only [true_and, and_true, forall_eq, true_implies, false_implies, implies_true, not_true_eq_false, not_false_eq_true, false_and, and_false, ne_eq, ite_true, ite_false, Nat.reduceLeDiff, Nat.reduceEqDiff, Nat.reduceLT, Nat.reduceAdd, Nat.reduceMul, Nat.reduceSub, Nat.le_refl, eq_self, li_0, li_1, li_2, li_3, li_4, li_5, li_6, li_7, li_8, li_9, li_10, li_11, li_12, li_13, li_14, li_15, li_16, li_17, li_18, li_19, li_20, li_21, li_22, li_23, li_24, li_25, li_26, li_27, li_28, li_29, li_30, li_31, li_32, li_44, li_48, li_57, li_59, li_60, li_61, li_62, li_63, li_97, li_100, li_122, li_123, li_125, li_127, li_255, li_400, li_401, li_800, li_1023, li_1024, li_10827, i_add, i_mul, i_sub, i_p1, i_m1, i_nm, i_nm2, i_cl, i_cl0, vi_ok, i_lt, i_le, i_eq, lg_e, rf_1_0, rf_1_2, rf_1_4, rf_1_5, rf_1_6, rf_1_7, rf_1_8, rf_1_10, is_1, is_2, sz_2, is_3, sz_3, is_67, sz_67, is_73, sz_73, is_74, sz_74, is_93, sz_93, is_101, sz_101, is_102, sz_102, show ¬ r - 1 ≤ n by omega, v1, gI_s, gI_c, gI_p, gI_L, gI_R, gL_s, gL_c, gL_p, gL_I, gL_R, gR_s, gR_c, gR_p, gR_I, gR_L, vt n (Nat.le_refl n), isA_x hx]
      have hA9 : RepA (ax_setI h 101 n (Int32.ofNat (A (n + 1)))) x D := hA.fr ((Fr.refl (fun c _ => c = 101) h).setI rfl) (fun c p h1 h2 q => by omega)
      have b := (c2 (n + 1) (by omega)).1
      refine k_X0_tryAct hr.setI hx hD hA9 (ws_trD hD (rem A k) n) (by omega) ?_
      rw [← er]
      have nx : tryD D (trD D (rem A k) n) (rem A k n) = trD D (rem A k) (n + 1) := rfl
      rw [nx]
      (try simp (disch := first | assumption | omega) only [true_and, and_true, forall_eq, true_implies, false_implies, implies_true, not_true_eq_false, not_false_eq_true, false_and, and_false, ne_eq, ite_true, ite_false, Nat.reduceLeDiff, Nat.reduceEqDiff, Nat.reduceLT, Nat.reduceAdd, Nat.reduceMul, Nat.reduceSub, Nat.le_refl, eq_self, li_0, li_1, li_2, li_3, li_4, li_5, li_6, li_7, li_8, li_9, li_10, li_11, li_12, li_13, li_14, li_15, li_16, li_17, li_18, li_19, li_20, li_21, li_22, li_23, li_24, li_25, li_26, li_27, li_28, li_29, li_30, li_31, li_32, li_44, li_48, li_57, li_59, li_60, li_61, li_62, li_63, li_97, li_100, li_122, li_123, li_125, li_127, li_255, li_400, li_401, li_800, li_1023, li_1024, li_10827, i_add, i_mul, i_sub, i_p1, i_m1, i_nm, i_nm2, i_cl, i_cl0, vi_ok, i_lt, i_le, i_eq, lg_e, rf_1_0, rf_1_2, rf_1_4, rf_1_5, rf_1_6, rf_1_7, rf_1_8, rf_1_10, is_1, is_2, sz_2, is_3, sz_3, is_67, sz_67, is_73, sz_73, is_74, sz_74, is_93, sz_93, is_101, sz_101, is_102, sz_102])
      refine ih (n + 1) (by omega) (by omega) _ hr.setI.setL ((hf.setI (Or.inl rfl)).setL (Or.inr (Or.inl rfl))) (by simp (disch := first | assumption | omega) only [true_and, and_true, forall_eq, true_implies, false_implies, implies_true, not_true_eq_false, not_false_eq_true, false_and, and_false, ne_eq, ite_true, ite_false, Nat.reduceLeDiff, Nat.reduceEqDiff, Nat.reduceLT, Nat.reduceAdd, Nat.reduceMul, Nat.reduceSub, Nat.le_refl, eq_self, li_0, li_1, li_2, li_3, li_4, li_5, li_6, li_7, li_8, li_9, li_10, li_11, li_12, li_13, li_14, li_15, li_16, li_17, li_18, li_19, li_20, li_21, li_22, li_23, li_24, li_25, li_26, li_27, li_28, li_29, li_30, li_31, li_32, li_44, li_48, li_57, li_59, li_60, li_61, li_62, li_63, li_97, li_100, li_122, li_123, li_125, li_127, li_255, li_400, li_401, li_800, li_1023, li_1024, li_10827, i_add, i_mul, i_sub, i_p1, i_m1, i_nm, i_nm2, i_cl, i_cl0, vi_ok, i_lt, i_le, i_eq, lg_e, gI_s, gI_c, gI_p, gI_L, gI_R, gL_s, gL_c, gL_p, gL_I, gL_R, gR_s, gR_c, gR_p, gR_I, gR_L]; exact e9) (fun i hi => ?_) (fun j hj => ?_)
      · by_cases c : i = n
        · subst c
          rw [if_pos (by omega)]
          simp (disch := first | assumption | omega) only [true_and, and_true, forall_eq, true_implies, false_implies, implies_true, not_true_eq_false, not_false_eq_true, false_and, and_false, ne_eq, ite_true, ite_false, Nat.reduceLeDiff, Nat.reduceEqDiff, Nat.reduceLT, Nat.reduceAdd, Nat.reduceMul, Nat.reduceSub, Nat.le_refl, eq_self, li_0, li_1, li_2, li_3, li_4, li_5, li_6, li_7, li_8, li_9, li_10, li_11, li_12, li_13, li_14, li_15, li_16, li_17, li_18, li_19, li_20, li_21, li_22, li_23, li_24, li_25, li_26, li_27, li_28, li_29, li_30, li_31, li_32, li_44, li_48, li_57, li_59, li_60, li_61, li_62, li_63, li_97, li_100, li_122, li_123, li_125, li_127, li_255, li_400, li_401, li_800, li_1023, li_1024, li_10827, i_add, i_mul, i_sub, i_p1, i_m1, i_nm, i_nm2, i_cl, i_cl0, vi_ok, i_lt, i_le, i_eq, lg_e, gI_s, gI_c, gI_p, gI_L, gI_R, gL_s, gL_c, gL_p, gL_I, gL_R, gR_s, gR_c, gR_p, gR_I, gR_L]
        · simp (disch := first | assumption | omega) only [true_and, and_true, forall_eq, true_implies, false_implies, implies_true, not_true_eq_false, not_false_eq_true, false_and, and_false, ne_eq, ite_true, ite_false, Nat.reduceLeDiff, Nat.reduceEqDiff, Nat.reduceLT, Nat.reduceAdd, Nat.reduceMul, Nat.reduceSub, Nat.le_refl, eq_self, li_0, li_1, li_2, li_3, li_4, li_5, li_6, li_7, li_8, li_9, li_10, li_11, li_12, li_13, li_14, li_15, li_16, li_17, li_18, li_19, li_20, li_21, li_22, li_23, li_24, li_25, li_26, li_27, li_28, li_29, li_30, li_31, li_32, li_44, li_48, li_57, li_59, li_60, li_61, li_62, li_63, li_97, li_100, li_122, li_123, li_125, li_127, li_255, li_400, li_401, li_800, li_1023, li_1024, li_10827, i_add, i_mul, i_sub, i_p1, i_m1, i_nm, i_nm2, i_cl, i_cl0, vi_ok, i_lt, i_le, i_eq, lg_e, gI_s, gI_c, gI_p, gI_L, gI_R, gL_s, gL_c, gL_p, gL_I, gL_R, gR_s, gR_c, gR_p, gR_I, gR_L]
          rw [va i hi]
          by_cases c2 : i < n
          · rw [if_pos c2, if_pos (by omega)]
          · rw [if_neg c2, if_neg (by omega)]
      · by_cases c : j = n + 1
        · rw [c, gL_s]
        · rw [gL_p c]; exact vt j (by omega)
  refine c_X9_leaveOut (s_X9_leaveOut_0 ?_)
  refine loop (r - 1 - k) k (by omega) (Nat.le_refl k) h0 hr0 (Fr.refl _ _) c1 (fun i hi => ?_) (fun j hj => ?_)
  · rw [(c2 i hi).2]
    split
    · next c => unfold rem; rw [if_pos c]
    · rfl
  · rw [c3 j (by omega), trD_rem1 j hj]
theorem k_shorterC {l : Launch} {g : AG} {h0 : AH} {x f : Nat} {D : AD} {Q : Int32 → AH → Prop} (hx : isA x) (hD : WfD D) (hA0 : RepA h0 x D) (hf0 : 0 < f) (hf2 : f ≤ 20) (Af : Nat → Nat) (rf : Nat) (hq : ∀ h', Refs h' → Fr PSh h0 h' → RowC h' D Af rf → Q (Int32.ofNat rf) (ax_setI h' 1 12 0)) : ∀ e A r h, r < e → e ≤ 401 → shN D f e A r = (Af, rf) → Refs h → Fr PSh h0 h → RowC h D A r → (trD D A r).1 = f → L_X9_shorter_60 l g h 1 x (Int32.ofNat f) (Int32.ofNat 1) (Int32.ofNat (401 - e)) Q := by
  have hxu : x = 4 ∨ x = 25 ∨ x = 46 := hx
  intro e
  induction e with
  | zero => intro A r h hre; exact absurd hre (Nat.not_lt_zero r)
  | succ e ih =>
    intro A r h hre he hsh hr hF hC ht
    have fin : ∀ (c j : Nat) (h' : AH), c = 0 → Refs h' → Fr PSh h0 h' → RowC h' D Af rf → L_X9_shorter_60 l g h' 1 x (Int32.ofNat f) (Int32.ofNat c) (Int32.ofNat j) Q := by
      intro c j h' hc r' f' cr
      subst hc
      refine s_X9_shorter_60 ⟨fun _ => ⟨is_1, ?_⟩, fun z => absurd rfl z⟩
      rw [cr.1]
      exact k_X9_granted (hq h' r' f' cr)
    have pass : ∀ k A2 r2 c2 h', k ≤ r2 → r2 ≤ r → c2 ≤ 1 → psD D f k A2 r2 c2 = psD D f r A r 0 → Refs h' → Fr PSh h0 h' → RowC h' D A2 r2 → (trD D A2 r2).1 = f → L_X9_shorter_84 l g h' 1 x (Int32.ofNat f) (Int32.ofNat c2) (Int32.ofNat (401 - (e + 1))) (if k = 0 then -1 else Int32.ofNat (k - 1)) Q := by
      intro k
      induction k with
      | zero =>
        intro A2 r2 c2 h' hk hr2 hc2 hp r' f' cr ht2
        have hp2 : (A2, r2, c2) = psD D f r A r 0 := hp
        refine s_X9_shorter_84 ⟨fun _ => ?_, fun z => absurd (by decide) z⟩
        simp (disch := first | assumption | omega) only [true_and, and_true, forall_eq, true_implies, false_implies, implies_true, not_true_eq_false, not_false_eq_true, false_and, and_false, ne_eq, ite_true, ite_false, Nat.reduceLeDiff, Nat.reduceEqDiff, Nat.reduceLT, Nat.reduceAdd, Nat.reduceMul, Nat.reduceSub, Nat.le_refl, eq_self, li_0, li_1, li_2, li_3, li_4, li_5, li_6, li_7, li_8, li_9, li_10, li_11, li_12, li_13, li_14, li_15, li_16, li_17, li_18, li_19, li_20, li_21, li_22, li_23, li_24, li_25, li_26, li_27, li_28, li_29, li_30, li_31, li_32, li_44, li_48, li_57, li_59, li_60, li_61, li_62, li_63, li_97, li_100, li_122, li_123, li_125, li_127, li_255, li_400, li_401, li_800, li_1023, li_1024, li_10827, i_add, i_mul, i_sub, i_p1, i_m1, i_nm, i_nm2, i_cl, i_cl0, vi_ok, i_lt, i_le, i_eq, lg_e]
        have hs : shN D f (e + 1) A r = if (psD D f r A r 0).2.2 = 0 then ((psD D f r A r 0).1, (psD D f r A r 0).2.1) else shN D f e (psD D f r A r 0).1 (psD D f r A r 0).2.1 := rfl
        rw [hs, ← hp2] at hsh
        by_cases c0 : c2 = 0
        · have hsh2 : (if c2 = 0 then (A2, r2) else shN D f e A2 r2) = (Af, rf) := hsh
          rw [if_pos c0] at hsh2
          have e1 : A2 = Af := congrArg Prod.fst hsh2
          have e2 : r2 = rf := congrArg Prod.snd hsh2
          subst e1 e2
          exact fin c2 _ h' c0 r' f' cr
        · have hsh2 : (if c2 = 0 then (A2, r2) else shN D f e A2 r2) = (Af, rf) := hsh
          rw [if_neg c0] at hsh2
          have c1 : c2 = 1 := by omega
          have lt := (psD_le (D := D) (f := f) r A r 0 (Nat.le_refl r) (by omega)).2.2
          rw [← hp2] at lt
          have lt2 := lt c0
          have lt3 : r2 < r := by
            rcases lt2 with z | z
            · omega
            · exact z
          subst c1
          rw [show 401 - (e + 1) + 1 = 401 - e by omega]
          exact ih A2 r2 h' (by omega) (by omega) hsh2 r' f' cr ht2
      | succ k ih2 =>
        intro A2 r2 c2 h' hk hr2 hc2 hp r' f' cr ht2
        rw [if_neg (by omega), Nat.add_sub_cancel]
        have hA : RepA h' x D := hA0.fr f' (fun c p h1 h2 q => by unfold PSh at q; omega)
        have ps : psD D f (k + 1) A2 r2 c2 = if (trS D A2 k r2).1 = f then psD D f k (rem A2 k) (r2 - 1) 1 else psD D f k A2 r2 c2 := rfl
        refine s_X9_shorter_84 ⟨fun z => absurd z (i_nn (by omega)), fun _ => ⟨is_1, isA_x hx, ?_⟩⟩
        rw [i_dec]
        refine k_comesWithout r' hx hD hA (by omega) (by omega) cr ht2 hf2 (fun z => ?_) (fun z => ?_)
        · rw [if_pos z] at ps
          refine ⟨fun y => absurd y (by decide), fun _ => k_leaveOut r' hx hD hA (by omega) (by omega) cr (fun h2 r2' f2' cr2 => ?_)⟩
          (try simp (disch := first | assumption | omega) only [true_and, and_true, forall_eq, true_implies, false_implies, implies_true, not_true_eq_false, not_false_eq_true, false_and, and_false, ne_eq, ite_true, ite_false, Nat.reduceLeDiff, Nat.reduceEqDiff, Nat.reduceLT, Nat.reduceAdd, Nat.reduceMul, Nat.reduceSub, Nat.le_refl, eq_self, li_0, li_1, li_2, li_3, li_4, li_5, li_6, li_7, li_8, li_9, li_10, li_11, li_12, li_13, li_14, li_15, li_16, li_17, li_18, li_19, li_20, li_21, li_22, li_23, li_24, li_25, li_26, li_27, li_28, li_29, li_30, li_31, li_32, li_44, li_48, li_57, li_59, li_60, li_61, li_62, li_63, li_97, li_100, li_122, li_123, li_125, li_127, li_255, li_400, li_401, li_800, li_1023, li_1024, li_10827, i_add, i_mul, i_sub, i_p1, i_m1, i_nm, i_nm2, i_cl, i_cl0, vi_ok, i_lt, i_le, i_eq, lg_e])
          refine ih2 (rem A2 k) (r2 - 1) 1 h2 (by omega) (by omega) (by omega) (by rw [← ps]; exact hp) r2' (f'.trans f2') cr2 ?_
          rw [trD_rem2 (r2 - 1) (by omega), show r2 - 1 + 1 = r2 by omega]; exact z
        · rw [if_neg z] at ps
          refine ⟨fun _ => ?_, fun y => absurd rfl y⟩
          (try simp (disch := first | assumption | omega) only [true_and, and_true, forall_eq, true_implies, false_implies, implies_true, not_true_eq_false, not_false_eq_true, false_and, and_false, ne_eq, ite_true, ite_false, Nat.reduceLeDiff, Nat.reduceEqDiff, Nat.reduceLT, Nat.reduceAdd, Nat.reduceMul, Nat.reduceSub, Nat.le_refl, eq_self, li_0, li_1, li_2, li_3, li_4, li_5, li_6, li_7, li_8, li_9, li_10, li_11, li_12, li_13, li_14, li_15, li_16, li_17, li_18, li_19, li_20, li_21, li_22, li_23, li_24, li_25, li_26, li_27, li_28, li_29, li_30, li_31, li_32, li_44, li_48, li_57, li_59, li_60, li_61, li_62, li_63, li_97, li_100, li_122, li_123, li_125, li_127, li_255, li_400, li_401, li_800, li_1023, li_1024, li_10827, i_add, i_mul, i_sub, i_p1, i_m1, i_nm, i_nm2, i_cl, i_cl0, vi_ok, i_lt, i_le, i_eq, lg_e])
          exact ih2 A2 r2 c2 h' (by omega) hr2 hc2 (by rw [← ps]; exact hp) r' f' cr ht2
    refine s_X9_shorter_60 ⟨fun z => absurd z (by decide), fun _ => ⟨fun z => absurd ((i_lt (a := 400) (by omega) (by omega)).1 z) (by omega), fun _ => ⟨is_1, ?_⟩⟩⟩
    rw [hC.1, i_dm1]
    simp (disch := first | assumption | omega) only [true_and, and_true, forall_eq, true_implies, false_implies, implies_true, not_true_eq_false, not_false_eq_true, false_and, and_false, ne_eq, ite_true, ite_false, Nat.reduceLeDiff, Nat.reduceEqDiff, Nat.reduceLT, Nat.reduceAdd, Nat.reduceMul, Nat.reduceSub, Nat.le_refl, eq_self, li_0, li_1, li_2, li_3, li_4, li_5, li_6, li_7, li_8, li_9, li_10, li_11, li_12, li_13, li_14, li_15, li_16, li_17, li_18, li_19, li_20, li_21, li_22, li_23, li_24, li_25, li_26, li_27, li_28, li_29, li_30, li_31, li_32, li_44, li_48, li_57, li_59, li_60, li_61, li_62, li_63, li_97, li_100, li_122, li_123, li_125, li_127, li_255, li_400, li_401, li_800, li_1023, li_1024, li_10827, i_add, i_mul, i_sub, i_p1, i_m1, i_nm, i_nm2, i_cl, i_cl0, vi_ok, i_lt, i_le, i_eq, lg_e]
    exact pass r A r 0 h (Nat.le_refl r) (Nat.le_refl r) (by omega) rfl hr hF hC ht
def RowM (h : AH) (A : Nat → Nat) (r : Nat) : Prop := h.1 103 40 = Int32.ofNat r ∧ ∀ i, i < r → A i < 1000 ∧ h.1 145 i = Int32.ofNat (A i)
def PShM (c p : Nat) : Prop := PCm c p ∨ c = 145 ∨ (c = 103 ∧ p = 40)
theorem PShM_no {c p : Nat} (h : PShM c p) : (130 ≤ c ∧ c ≤ 132) ∨ c = 145 ∨ (c = 103 ∧ (p = 19 ∨ p = 20 ∨ p = 40 ∨ p = 42)) := by
  rcases h with h | h
  · have := PCm_no h; omega
  · omega
theorem k_shorterM {l : Launch} {g : AG} {h0 : AH} {y a f : Nat} {X Y : Nat → Nat} {D : AD} {Q : Int32 → AH → Prop} (ha : a < 2) (hA0 : IA h0 X Y) (ey : Y a = y) (hy : isB y) (hD : WfD D) (hB0 : RepB h0 y D) (hf0 : 0 < f) (hf2 : f ≤ 20) (Af : Nat → Nat) (rf : Nat) (hq : ∀ h', Refs h' → Fr PShM h0 h' → RowM h' Af rf → Q (Int32.ofNat rf) (ax_setI (ax_setI h' 103 1 0) 103 2 (-1))) : ∀ e A r h, r < e → e ≤ 401 → shN D f e A r = (Af, rf) → Refs h → Fr PShM h0 h → RowM h A r → L_X12_shorter_51 l g h 103 (Int32.ofNat a) (Int32.ofNat f) (Int32.ofNat 1) Q := by
  have hyu : y = 105 ∨ y = 154 ∨ y = 174 := hy
  intro e
  induction e with
  | zero => intro A r h hre; exact absurd hre (Nat.not_lt_zero r)
  | succ e ih =>
    intro A r h hre he hsh hr hF hC
    have fin : ∀ (c : Nat) (h' : AH), c = 0 → Refs h' → Fr PShM h0 h' → RowM h' Af rf → L_X12_shorter_51 l g h' 103 (Int32.ofNat a) (Int32.ofNat f) (Int32.ofNat c) Q := by
      intro c h' hc r' f' cr
      subst hc
      refine s_X12_shorter_51 ⟨fun _ => ⟨is_103, ?_⟩, fun z => absurd rfl z⟩
      rw [cr.1]
      exact k_X12_done (hq h' r' f' cr)
    have shift : ∀ k A2 r2, k < r2 → r2 ≤ 400 → ∀ h1, Refs h1 → Fr PShM h0 h1 → RowM h1 A2 r2 → (∀ h', Refs h' → Fr PShM h0 h' → RowM h' (rem A2 k) (r2 - 1) → L_X12_shorter_65 l g h' 103 (Int32.ofNat a) (Int32.ofNat f) (Int32.ofNat 1) (if k = 0 then -1 else Int32.ofNat (k - 1)) Q) → L_X12_shorter_95 l g h1 103 (Int32.ofNat a) (Int32.ofNat f) (Int32.ofNat k) (Int32.ofNat (k + 1)) Q := by
      intro k A2 r2 hk h400 h1 hr1 hF1 hC1 hnext
      have loop : ∀ d n, n + d = r2 → k < n → ∀ h, Refs h → Fr PShM h0 h → h.1 103 40 = Int32.ofNat r2 → (∀ i, i < r2 → h.1 145 i = Int32.ofNat (if i + 1 < n then rem A2 k i else A2 i)) → L_X12_shorter_95 l g h 103 (Int32.ofNat a) (Int32.ofNat f) (Int32.ofNat k) (Int32.ofNat n) Q := by
        intro d
        induction d with
        | zero =>
          intro n hn hkn h hr hf e40 va
          have : n = r2 := by omega
          subst this
          refine s_X12_shorter_95 ?_
          rw [e40, i_dec]
          simp (disch := first | assumption | omega) only [true_and, and_true, forall_eq, true_implies, false_implies, implies_true, not_true_eq_false, not_false_eq_true, false_and, and_false, ne_eq, ite_true, ite_false, Nat.reduceLeDiff, Nat.reduceEqDiff, Nat.reduceLT, Nat.reduceAdd, Nat.reduceMul, Nat.reduceSub, Nat.le_refl, eq_self, li_0, li_1, li_2, li_3, li_4, li_5, li_6, li_7, li_8, li_9, li_10, li_11, li_12, li_13, li_14, li_15, li_16, li_17, li_18, li_19, li_20, li_21, li_22, li_23, li_24, li_25, li_26, li_27, li_28, li_29, li_30, li_31, li_32, li_44, li_48, li_57, li_59, li_60, li_61, li_62, li_63, li_97, li_100, li_122, li_123, li_125, li_127, li_255, li_400, li_401, li_800, li_1023, li_1024, li_10827, i_add, i_mul, i_sub, i_p1, i_m1, i_nm, i_nm2, i_cl, i_cl0, vi_ok, i_lt, i_le, i_eq, lg_e, is_103]
          refine hnext _ hr.setI (hf.setI (Or.inr (Or.inr ⟨rfl, rfl⟩))) ⟨gI_s _ _ _ _, fun i hi => ⟨?_, ?_⟩⟩
          · unfold rem
            split
            · exact (hC1.2 i (by omega)).1
            · exact (hC1.2 (i + 1) (by omega)).1
          · rw [gI_c (by omega), va i (by omega), if_pos (by omega)]
        | succ d ih3 =>
          intro n hn hkn h hr hf e40 va
          have v1 := va n (by omega)
          rw [if_neg (by omega)] at v1
          refine s_X12_shorter_95 ?_
          rw [e40]
          simp (disch := first | assumption | omega) only [true_and, and_true, forall_eq, true_implies, false_implies, implies_true, not_true_eq_false, not_false_eq_true, false_and, and_false, ne_eq, ite_true, ite_false, Nat.reduceLeDiff, Nat.reduceEqDiff, Nat.reduceLT, Nat.reduceAdd, Nat.reduceMul, Nat.reduceSub, Nat.le_refl, eq_self, li_0, li_1, li_2, li_3, li_4, li_5, li_6, li_7, li_8, li_9, li_10, li_11, li_12, li_13, li_14, li_15, li_16, li_17, li_18, li_19, li_20, li_21, li_22, li_23, li_24, li_25, li_26, li_27, li_28, li_29, li_30, li_31, li_32, li_44, li_48, li_57, li_59, li_60, li_61, li_62, li_63, li_97, li_100, li_122, li_123, li_125, li_127, li_255, li_400, li_401, li_800, li_1023, li_1024, li_10827, i_add, i_mul, i_sub, i_p1, i_m1, i_nm, i_nm2, i_cl, i_cl0, vi_ok, i_lt, i_le, i_eq, lg_e, rf_103_4, rf_103_6, rf_103_7, rf_103_8, rf_103_9, rf_103_10, rf_103_21, rf_103_22, rf_103_23, rf_103_26, rf_103_27, rf_103_28, rf_103_29, rf_103_30, rf_103_31, rf_103_32, rf_103_33, rf_103_34, rf_103_35, rf_103_37, rf_103_38, rf_103_39, rf_103_44, rf_103_45, rf_103_46, rf_103_47, rf_103_48, rf_103_49, rf_103_54, rf_103_55, is_103, is_104, sz_104, is_125, sz_125, is_126, sz_126, is_127, sz_127, is_128, sz_128, is_129, sz_129, is_130, sz_130, is_131, sz_131, is_132, sz_132, is_133, sz_133, is_134, sz_134, is_135, sz_135, is_136, sz_136, is_137, sz_137, is_138, sz_138, is_139, sz_139, is_140, sz_140, is_141, sz_141, is_142, sz_142, is_143, sz_143, is_144, sz_144, is_145, sz_145, is_146, sz_146, is_147, sz_147, is_148, sz_148, is_149, sz_149, is_150, sz_150, is_151, sz_151, is_152, sz_152, is_153, sz_153, show ¬ r2 ≤ n by omega, v1]
          refine ih3 (n + 1) (by omega) (by omega) _ hr.setI (hf.setI (Or.inr (Or.inl rfl))) (by rw [gI_c (by omega)]; exact e40) (fun i hi => ?_)
          by_cases c : i = n - 1
          · rw [gI_t rfl c, c, if_pos (by omega)]
            have : rem A2 k (n - 1) = A2 n := by unfold rem; rw [if_neg (by omega), show n - 1 + 1 = n by omega]
            rw [this]
          · rw [gI_p c, va i hi]
            by_cases c2 : i + 1 < n
            · rw [if_pos c2, if_pos (by omega)]
            · rw [if_neg c2, if_neg (by omega)]
      refine loop (r2 - (k + 1)) (k + 1) (by omega) (by omega) h1 hr1 hF1 hC1.1 (fun i hi => ?_)
      rw [(hC1.2 i hi).2]
      split
      · next c => unfold rem; rw [if_pos (by omega)]
      · rfl
    have pass : ∀ k A2 r2 c2 h', k ≤ r2 → r2 ≤ r → c2 ≤ 1 → psD D f k A2 r2 c2 = psD D f r A r 0 → Refs h' → Fr PShM h0 h' → RowM h' A2 r2 → L_X12_shorter_65 l g h' 103 (Int32.ofNat a) (Int32.ofNat f) (Int32.ofNat c2) (if k = 0 then -1 else Int32.ofNat (k - 1)) Q := by
      intro k
      induction k with
      | zero =>
        intro A2 r2 c2 h' hk hr2 hc2 hp r' f' cr
        have hp2 : (A2, r2, c2) = psD D f r A r 0 := hp
        refine s_X12_shorter_65 ⟨fun _ => ?_, fun z => absurd (by decide) z⟩
        have hs : shN D f (e + 1) A r = if (psD D f r A r 0).2.2 = 0 then ((psD D f r A r 0).1, (psD D f r A r 0).2.1) else shN D f e (psD D f r A r 0).1 (psD D f r A r 0).2.1 := rfl
        rw [hs, ← hp2] at hsh
        by_cases c0 : c2 = 0
        · have hsh2 : (if c2 = 0 then (A2, r2) else shN D f e A2 r2) = (Af, rf) := hsh
          rw [if_pos c0] at hsh2
          have e1 : A2 = Af := congrArg Prod.fst hsh2
          have e2 : r2 = rf := congrArg Prod.snd hsh2
          subst e1 e2
          exact fin c2 h' c0 r' f' cr
        · have hsh2 : (if c2 = 0 then (A2, r2) else shN D f e A2 r2) = (Af, rf) := hsh
          rw [if_neg c0] at hsh2
          have c1 : c2 = 1 := by omega
          have lt := (psD_le (D := D) (f := f) r A r 0 (Nat.le_refl r) (by omega)).2.2
          rw [← hp2] at lt
          have lt2 := lt c0
          have lt3 : r2 < r := by
            rcases lt2 with z | z
            · omega
            · exact z
          subst c1
          exact ih A2 r2 h' (by omega) (by omega) hsh2 r' f' cr
      | succ k ih2 =>
        intro A2 r2 c2 h' hk hr2 hc2 hp r' f' cr
        rw [if_neg (by omega), Nat.add_sub_cancel]
        have hB : RepB h' y D := hB0.fr f' (fun c p h1 h2 q => by have := PShM_no q; omega)
        have hA : IA h' X Y := hA0.fr f' (fun c p q => by have := PShM_no q; omega)
        have ps : psD D f (k + 1) A2 r2 c2 = if (trS D A2 k r2).1 = f then psD D f k (rem A2 k) (r2 - 1) 1 else psD D f k A2 r2 c2 := rfl
        refine s_X12_shorter_65 ⟨fun z => absurd z (i_nn (by omega)), fun _ => ?_⟩
        rw [i_dec, rf_103_4 r', sz_104, i_cl (by omega), hA.y ha, ey]
        refine ⟨is_103, is_104, vi_ok (by omega) (by omega), isB_x hy, ?_⟩
        have fl := fault_le (ws_trS hD A2 k r2)
        refine k_comes (w := k) r' hy hD hB (by omega) cr.1 cr.2 (Or.inr ⟨rfl, by omega⟩) (fun h2 r2' f2' v42 => ?_)
        have cr2 : RowM h2 A2 r2 := ⟨by rw [(f2' 103 40 (fun q => by have := PCm_no q; omega)).1]; exact cr.1, fun i hi => ⟨(cr.2 i hi).1, by rw [(f2' 145 i (fun q => by have := PCm_no q; omega)).1]; exact (cr.2 i hi).2⟩⟩
        have ff2 : Fr PShM h0 h2 := f'.trans (f2'.mono (fun c p q => Or.inl q))
        simp (disch := first | assumption | omega) only [true_and, and_true, forall_eq, true_implies, false_implies, implies_true, not_true_eq_false, not_false_eq_true, false_and, and_false, ne_eq, ite_true, ite_false, Nat.reduceLeDiff, Nat.reduceEqDiff, Nat.reduceLT, Nat.reduceAdd, Nat.reduceMul, Nat.reduceSub, Nat.le_refl, eq_self, li_0, li_1, li_2, li_3, li_4, li_5, li_6, li_7, li_8, li_9, li_10, li_11, li_12, li_13, li_14, li_15, li_16, li_17, li_18, li_19, li_20, li_21, li_22, li_23, li_24, li_25, li_26, li_27, li_28, li_29, li_30, li_31, li_32, li_44, li_48, li_57, li_59, li_60, li_61, li_62, li_63, li_97, li_100, li_122, li_123, li_125, li_127, li_255, li_400, li_401, li_800, li_1023, li_1024, li_10827, i_add, i_mul, i_sub, i_p1, i_m1, i_nm, i_nm2, i_cl, i_cl0, vi_ok, i_lt, i_le, i_eq, lg_e]
        refine ⟨fun z => ?_, fun z => ?_⟩
        · rw [if_pos z] at ps
          exact shift k A2 r2 (by omega) (by omega) h2 r2' ff2 cr2 (fun h3 r3 f3 cr3 => ih2 (rem A2 k) (r2 - 1) 1 h3 (by omega) (by omega) (by omega) (by rw [← ps]; exact hp) r3 f3 cr3)
        · rw [if_neg z] at ps
          exact ih2 A2 r2 c2 h2 (by omega) hr2 hc2 (by rw [← ps]; exact hp) r2' ff2 cr2
    refine s_X12_shorter_51 ⟨fun z => absurd z (by decide), fun _ => ⟨is_103, ?_⟩⟩
    rw [hC.1, i_dm1]
    simp (disch := first | assumption | omega) only [true_and, and_true, forall_eq, true_implies, false_implies, implies_true, not_true_eq_false, not_false_eq_true, false_and, and_false, ne_eq, ite_true, ite_false, Nat.reduceLeDiff, Nat.reduceEqDiff, Nat.reduceLT, Nat.reduceAdd, Nat.reduceMul, Nat.reduceSub, Nat.le_refl, eq_self, li_0, li_1, li_2, li_3, li_4, li_5, li_6, li_7, li_8, li_9, li_10, li_11, li_12, li_13, li_14, li_15, li_16, li_17, li_18, li_19, li_20, li_21, li_22, li_23, li_24, li_25, li_26, li_27, li_28, li_29, li_30, li_31, li_32, li_44, li_48, li_57, li_59, li_60, li_61, li_62, li_63, li_97, li_100, li_122, li_123, li_125, li_127, li_255, li_400, li_401, li_800, li_1023, li_1024, li_10827, i_add, i_mul, i_sub, i_p1, i_m1, i_nm, i_nm2, i_cl, i_cl0, vi_ok, i_lt, i_le, i_eq, lg_e]
    exact pass r A r 0 h (Nat.le_refl r) (Nat.le_refl r) (by omega) rfl hr hF hC
