theorem shN_le {D : AD} {f : Nat} : ∀ e A r, (shN D f e A r).2 ≤ r := by
  intro e
  induction e with
  | zero => intro A r; exact Nat.le_refl r
  | succ e ih =>
    intro A r
    have hs : shN D f (e + 1) A r = if (psD D f r A r 0).2.2 = 0 then ((psD D f r A r 0).1, (psD D f r A r 0).2.1) else shN D f e (psD D f r A r 0).1 (psD D f r A r 0).2.1 := rfl
    have q := (psD_le (D := D) (f := f) r A r 0 (Nat.le_refl r) (by omega)).1
    rw [hs]
    split
    · exact q
    · exact Nat.le_trans (ih _ _) q
theorem PSh_R {c p : Nat} (h : PSh c p) : PR c p := by
  rcases h with h | h | h
  · exact Or.inr (Or.inl h)
  · rw [h]; exact Or.inl (PQ_scr (SCR_102 p))
  · exact Or.inr (Or.inr (Or.inr (Or.inl h)))
theorem PShM_R {c p : Nat} (h : PShM c p) : PR c p := by
  rcases h with h | h | h
  · exact Or.inl (PQ_scr (PCm_scr h))
  · exact Or.inr (Or.inr (Or.inl h))
  · exact Or.inr (Or.inr (Or.inr (Or.inr h)))
theorem PR_far {c p : Nat} (h : PR c p) : ¬ (4 ≤ c ∧ c ≤ 66) ∧ ¬ (104 ≤ c ∧ c ≤ 127) ∧ ¬ (154 ≤ c ∧ c ≤ 193) ∧ c ≠ 3 ∧ ¬ (c = 1 ∧ p = 3) ∧ ¬ (c = 103 ∧ p = 5) := by
  unfold PR PQ SCR at h
  omega
theorem ob_shorter {l : Launch} {g : AG} (h : AH) (a1 : Int32) (hI : Inv h) : C_X9_shorter l g h 1 a1 (fun r h1 => C_X12_shorter l g h1 103 a1 (fun r2 h2 => r2 = r ∧ Inv h2)) := by
  obtain ⟨X, Y, D, S, t, hI⟩ := hI
  have hr := hI.1
  by_cases hT : Tel t a1
  · obtain ⟨a, ha, rfl, ht⟩ := hT
    have hA := hI.2.1
    obtain ⟨t1, t2, t3, t4, t5, t6, t7, t8⟩ := (hI.2.2.1 a ha).1 ht
    have hx := hA.isx ha
    have hy := hA.isy ha
    have hxu : X a = 4 ∨ X a = 25 ∨ X a = 46 := hx
    have hyu : Y a = 105 ∨ Y a = 154 ∨ Y a = 174 := hy
    obtain ⟨r, A, n1, n2, n3, n4⟩ := hI.2.2.2.2.2.1
    have hc := cntF_le (trD (D a) A) r
    have fl := fault_le (ws_trD t2 A r)
    have ce := cnt_end (A := A) (r := r) t2
    -- the model's first run
    have model : ∀ (h2 : AH) (Q : Int32 → AH → Prop), Refs h2 → Fr PR h h2 → h2.1 103 40 = Int32.ofNat r → (∀ k, k < r → h2.1 145 k = Int32.ofNat (A k)) → (∀ h3, Refs h3 → Fr PCm h2 h3 → h3.1 103 42 = Int32.ofNat (cntF (trD (D a) A) r) → (¬ (trD (D a) A r).1 = 0 → L_X12_shorter_51 l g (ax_setI h3 103 40 (Int32.ofNat (cntF (trD (D a) A) r))) 103 (Int32.ofNat a) (Int32.ofNat (trD (D a) A r).1) (Int32.ofNat 1) Q) ∧ ((trD (D a) A r).1 = 0 → C_X12_refused l g h3 103 4 Q)) → (C_X12_isApp l g h2 103 (Int32.ofNat a) (fun r6 h5 => (¬ r6 = 0 → Is 194 (h5.2.2 103 4) 25 ∧ vp_in (Int32.ofNat a) (ax_s (h5.2.2 103 4)).2 ∧ Is 194 (h5.2.2 (h5.2.2 103 4) (Int32.ofNat a).toNatClampNeg) 9 ∧ C_X12_comes l g h5 103 (h5.2.2 (h5.2.2 103 4) (Int32.ofNat a).toNatClampNeg) (-1) (fun r13 h12 => (¬ r13 = 0 → ∀ h15 : AH, h15 = ax_setI h12 103 40 (h12.1 103 42) → L_X12_shorter_51 l g h15 103 (Int32.ofNat a) r13 1 Q) ∧ (r13 = 0 → C_X12_refused l g h12 103 4 (fun r19 h18 => Q r19 h18)))) ∧ (r6 = 0 → C_X12_refused l g h5 103 1 (fun r22 h21 => Q r22 h21)))) := by
      intro h2 Q r2 f2 v40 v145 hq
      have u4 : RepB h2 (Y a) (D a) := t4.fr f2 (fun c p h1 h2 q => by have := PR_far q; omega)
      have hA2 : IA h2 X Y := hA.fr f2 (fun c p q => by have := PR_far q; omega)
      refine k_isApp1 r2 ha (by rw [(f2 125 a (fun q => by have := PR_far q; omega)).1]; exact t1) ⟨fun _ => ?_, fun z => absurd z (by decide)⟩
      rw [rf_103_4 r2, sz_104, i_cl (by omega), hA2.y ha]
      refine ⟨is_104, vi_ok (by omega) (by omega), isB_x hy, ?_⟩
      refine k_comes (w := 401) r2 hy t2 u4 n1 v40 (fun k hk => ⟨(n4 k hk).1, v145 k hk⟩) (Or.inl ⟨rfl, rfl⟩) (fun h3 r3 f3 v42 => ?_)
      rw [trS_401 r (by omega)]
      rw [cntF_congr (U := trD (D a) A) (fun k hk => trS_401 k (by omega))] at v42
      rw [v42]
      have q := hq h3 r3 f3 v42
      refine ⟨fun z => ?_, fun z => q.2 ((i_eq (b := 0) (by omega) (by omega)).1 z)⟩
      intro h15 e15
      rw [e15]
      exact q.1 (fun y => z (by rw [y]; rfl))
    refine c_X9_shorter (s_X9_shorter_0 ⟨is_1, q_has_y hI.c ha ht ⟨fun _ => ?_, fun z => absurd z (by decide)⟩⟩)
    simp (disch := first | assumption | omega) only [true_and, and_true, forall_eq, true_implies, false_implies, implies_true, not_true_eq_false, not_false_eq_true, false_and, and_false, ne_eq, ite_true, ite_false, Nat.reduceLeDiff, Nat.reduceEqDiff, Nat.reduceLT, Nat.reduceAdd, Nat.reduceMul, Nat.reduceSub, Nat.le_refl, eq_self, li_0, li_1, li_2, li_3, li_4, li_5, li_6, li_7, li_8, li_9, li_10, li_11, li_12, li_13, li_14, li_15, li_16, li_17, li_18, li_19, li_20, li_21, li_22, li_23, li_24, li_25, li_26, li_27, li_28, li_29, li_30, li_31, li_32, li_44, li_48, li_57, li_59, li_60, li_61, li_62, li_63, li_97, li_100, li_122, li_123, li_125, li_127, li_255, li_400, li_401, li_800, li_1023, li_1024, li_10827, i_add, i_mul, i_sub, i_p1, i_m1, i_nm, i_nm2, i_cl, i_cl0, vi_ok, i_lt, i_le, i_eq, lg_e, rf_1_0, rf_1_2, rf_1_4, rf_1_5, rf_1_6, rf_1_7, rf_1_8, rf_1_10, is_1, is_2, sz_2, is_3, sz_3, is_67, sz_67, is_73, sz_73, is_74, sz_74, is_93, sz_93, is_101, sz_101, is_102, sz_102, hA.x ha, isA_x hx]
    refine k_actsToFault hr hx t2 t3 n1 n2 (fun k hk => ⟨(n4 k hk).1, (n4 k hk).2.1⟩) (fun h1 r1 f1 v1 => ?_)
    simp (disch := first | assumption | omega) only [true_and, and_true, forall_eq, true_implies, false_implies, implies_true, not_true_eq_false, not_false_eq_true, false_and, and_false, ne_eq, ite_true, ite_false, Nat.reduceLeDiff, Nat.reduceEqDiff, Nat.reduceLT, Nat.reduceAdd, Nat.reduceMul, Nat.reduceSub, Nat.le_refl, eq_self, li_0, li_1, li_2, li_3, li_4, li_5, li_6, li_7, li_8, li_9, li_10, li_11, li_12, li_13, li_14, li_15, li_16, li_17, li_18, li_19, li_20, li_21, li_22, li_23, li_24, li_25, li_26, li_27, li_28, li_29, li_30, li_31, li_32, li_44, li_48, li_57, li_59, li_60, li_61, li_62, li_63, li_97, li_100, li_122, li_123, li_125, li_127, li_255, li_400, li_401, li_800, li_1023, li_1024, li_10827, i_add, i_mul, i_sub, i_p1, i_m1, i_nm, i_nm2, i_cl, i_cl0, vi_ok, i_lt, i_le, i_eq, lg_e, rf_1_0, rf_1_2, rf_1_4, rf_1_5, rf_1_6, rf_1_7, rf_1_8, rf_1_10, is_1, is_2, sz_2, is_3, sz_3, is_67, sz_67, is_73, sz_73, is_74, sz_74, is_93, sz_93, is_101, sz_101, is_102, sz_102, gI_s, gI_c, gI_p, gI_L, gI_R, gL_s, gL_c, gL_p, gL_I, gL_R, gR_s, gR_c, gR_p, gR_I, gR_L, v1 _ (Nat.le_refl _)]
    refine q_X3_faultOf (ws_trD t2 A (cntF (trD (D a) A) r)) ?_
    rw [ce]
    have f1s : Fr PR h h1 := f1.mono (fun c p q => by rw [q]; exact Or.inl (PQ_scr (SCR_102 p)))
    simp (disch := first | assumption | omega) only [true_and, and_true, forall_eq, true_implies, false_implies, implies_true, not_true_eq_false, not_false_eq_true, false_and, and_false, ne_eq, ite_true, ite_false, Nat.reduceLeDiff, Nat.reduceEqDiff, Nat.reduceLT, Nat.reduceAdd, Nat.reduceMul, Nat.reduceSub, Nat.le_refl, eq_self, li_0, li_1, li_2, li_3, li_4, li_5, li_6, li_7, li_8, li_9, li_10, li_11, li_12, li_13, li_14, li_15, li_16, li_17, li_18, li_19, li_20, li_21, li_22, li_23, li_24, li_25, li_26, li_27, li_28, li_29, li_30, li_31, li_32, li_44, li_48, li_57, li_59, li_60, li_61, li_62, li_63, li_97, li_100, li_122, li_123, li_125, li_127, li_255, li_400, li_401, li_800, li_1023, li_1024, li_10827, i_add, i_mul, i_sub, i_p1, i_m1, i_nm, i_nm2, i_cl, i_cl0, vi_ok, i_lt, i_le, i_eq, lg_e]
    refine ⟨fun z => ?_, fun z => ?_⟩
    · -- a FAULT comes
      have hA1 : RepA h1 (X a) (D a) := t3.fr f1s (fun c p h1 h2 q => by have := PR_far q; omega)
      have hA1' : RepA (ax_setI h1 1 9 (Int32.ofNat (cntF (trD (D a) A) r))) (X a) (D a) := hA1.fr ((Fr.refl (fun c _ => c = 1) h1).setI rfl) (fun c p h1 h2 q => by omega)
      have hC : RowC (ax_setI h1 1 9 (Int32.ofNat (cntF (trD (D a) A) r))) (D a) A (cntF (trD (D a) A) r) := by
        refine ⟨gI_s _ _ _ _, fun i hi => ⟨(n4 i (by omega)).1, ?_⟩, fun k hk => v1 k hk⟩
        rw [gI_c (by omega), (f1 101 i (by omega)).1]
        exact (n4 i (by omega)).2.1
      obtain ⟨Af, rf, esh⟩ : ∃ Af rf, shN (D a) (trD (D a) A r).1 401 A (cntF (trD (D a) A) r) = (Af, rf) := ⟨_, _, rfl⟩
      have hrf : rf ≤ 400 := by
        have := shN_le (D := D a) (f := (trD (D a) A r).1) 401 A (cntF (trD (D a) A) r)
        rw [esh] at this
        have : rf ≤ cntF (trD (D a) A) r := this
        omega
      refine k_shorterC (h0 := ax_setI h1 1 9 (Int32.ofNat (cntF (trD (D a) A) r))) hx t2 hA1' (by omega) fl Af rf (fun h2 r2 f2 cr => ?_) 401 A (cntF (trD (D a) A) r) _ (by omega) (Nat.le_refl 401) esh r1.setI (Fr.refl _ _) hC (by rw [ce])
      have f2R : Fr PR h h2 := (f1s.setI (Or.inr (Or.inr (Or.inr (Or.inl ⟨rfl, rfl⟩))))).trans (f2.mono (fun _ _ => PSh_R))
      refine c_X12_shorter (s_X12_shorter_0 ⟨is_103, ?_⟩)
      intro h3 e3
      have r3 : Refs h3 := by rw [e3]; exact r2.setI.setI
      have f3R : Fr PR h h3 := by rw [e3]; exact (f2R.setI (Or.inl PQ_112)).setI (Or.inl PQ_1030)
      have w19 : h3.1 1 9 = Int32.ofNat rf := by rw [e3]; simp (disch := first | assumption | omega) only [true_and, and_true, forall_eq, true_implies, false_implies, implies_true, not_true_eq_false, not_false_eq_true, false_and, and_false, ne_eq, ite_true, ite_false, Nat.reduceLeDiff, Nat.reduceEqDiff, Nat.reduceLT, Nat.reduceAdd, Nat.reduceMul, Nat.reduceSub, Nat.le_refl, eq_self, li_0, li_1, li_2, li_3, li_4, li_5, li_6, li_7, li_8, li_9, li_10, li_11, li_12, li_13, li_14, li_15, li_16, li_17, li_18, li_19, li_20, li_21, li_22, li_23, li_24, li_25, li_26, li_27, li_28, li_29, li_30, li_31, li_32, li_44, li_48, li_57, li_59, li_60, li_61, li_62, li_63, li_97, li_100, li_122, li_123, li_125, li_127, li_255, li_400, li_401, li_800, li_1023, li_1024, li_10827, i_add, i_mul, i_sub, i_p1, i_m1, i_nm, i_nm2, i_cl, i_cl0, vi_ok, i_lt, i_le, i_eq, lg_e, gI_s, gI_c, gI_p, gI_L, gI_R, gL_s, gL_c, gL_p, gL_I, gL_R, gR_s, gR_c, gR_p, gR_I, gR_L]; exact cr.1
      have w112 : h3.1 1 12 = 0 := by rw [e3]; simp (disch := first | assumption | omega) only [true_and, and_true, forall_eq, true_implies, false_implies, implies_true, not_true_eq_false, not_false_eq_true, false_and, and_false, ne_eq, ite_true, ite_false, Nat.reduceLeDiff, Nat.reduceEqDiff, Nat.reduceLT, Nat.reduceAdd, Nat.reduceMul, Nat.reduceSub, Nat.le_refl, eq_self, li_0, li_1, li_2, li_3, li_4, li_5, li_6, li_7, li_8, li_9, li_10, li_11, li_12, li_13, li_14, li_15, li_16, li_17, li_18, li_19, li_20, li_21, li_22, li_23, li_24, li_25, li_26, li_27, li_28, li_29, li_30, li_31, li_32, li_44, li_48, li_57, li_59, li_60, li_61, li_62, li_63, li_97, li_100, li_122, li_123, li_125, li_127, li_255, li_400, li_401, li_800, li_1023, li_1024, li_10827, i_add, i_mul, i_sub, i_p1, i_m1, i_nm, i_nm2, i_cl, i_cl0, vi_ok, i_lt, i_le, i_eq, lg_e, gI_s, gI_c, gI_p, gI_L, gI_R, gL_s, gL_c, gL_p, gL_I, gL_R, gR_s, gR_c, gR_p, gR_I, gR_L]
      have w101 : ∀ i, i < rf → h3.1 101 i = Int32.ofNat (Af i) := fun i hi => by rw [e3]; simp (disch := first | assumption | omega) only [true_and, and_true, forall_eq, true_implies, false_implies, implies_true, not_true_eq_false, not_false_eq_true, false_and, and_false, ne_eq, ite_true, ite_false, Nat.reduceLeDiff, Nat.reduceEqDiff, Nat.reduceLT, Nat.reduceAdd, Nat.reduceMul, Nat.reduceSub, Nat.le_refl, eq_self, li_0, li_1, li_2, li_3, li_4, li_5, li_6, li_7, li_8, li_9, li_10, li_11, li_12, li_13, li_14, li_15, li_16, li_17, li_18, li_19, li_20, li_21, li_22, li_23, li_24, li_25, li_26, li_27, li_28, li_29, li_30, li_31, li_32, li_44, li_48, li_57, li_59, li_60, li_61, li_62, li_63, li_97, li_100, li_122, li_123, li_125, li_127, li_255, li_400, li_401, li_800, li_1023, li_1024, li_10827, i_add, i_mul, i_sub, i_p1, i_m1, i_nm, i_nm2, i_cl, i_cl0, vi_ok, i_lt, i_le, i_eq, lg_e, gI_s, gI_c, gI_p, gI_L, gI_R, gL_s, gL_c, gL_p, gL_I, gL_R, gR_s, gR_c, gR_p, gR_I, gR_L]; exact (cr.2.1 i hi).2
      have w40 : h3.1 103 40 = Int32.ofNat r := by
        rw [e3]; simp (disch := first | assumption | omega) only [true_and, and_true, forall_eq, true_implies, false_implies, implies_true, not_true_eq_false, not_false_eq_true, false_and, and_false, ne_eq, ite_true, ite_false, Nat.reduceLeDiff, Nat.reduceEqDiff, Nat.reduceLT, Nat.reduceAdd, Nat.reduceMul, Nat.reduceSub, Nat.le_refl, eq_self, li_0, li_1, li_2, li_3, li_4, li_5, li_6, li_7, li_8, li_9, li_10, li_11, li_12, li_13, li_14, li_15, li_16, li_17, li_18, li_19, li_20, li_21, li_22, li_23, li_24, li_25, li_26, li_27, li_28, li_29, li_30, li_31, li_32, li_44, li_48, li_57, li_59, li_60, li_61, li_62, li_63, li_97, li_100, li_122, li_123, li_125, li_127, li_255, li_400, li_401, li_800, li_1023, li_1024, li_10827, i_add, i_mul, i_sub, i_p1, i_m1, i_nm, i_nm2, i_cl, i_cl0, vi_ok, i_lt, i_le, i_eq, lg_e, gI_s, gI_c, gI_p, gI_L, gI_R, gL_s, gL_c, gL_p, gL_I, gL_R, gR_s, gR_c, gR_p, gR_I, gR_L]
        rw [(f2 103 40 (fun q => by unfold PSh at q; omega)).1, gI_c (by omega), (f1 103 40 (by omega)).1]
        exact n3
      have w145 : ∀ k, k < r → h3.1 145 k = Int32.ofNat (A k) := fun k hk => by
        rw [e3]; simp (disch := first | assumption | omega) only [true_and, and_true, forall_eq, true_implies, false_implies, implies_true, not_true_eq_false, not_false_eq_true, false_and, and_false, ne_eq, ite_true, ite_false, Nat.reduceLeDiff, Nat.reduceEqDiff, Nat.reduceLT, Nat.reduceAdd, Nat.reduceMul, Nat.reduceSub, Nat.le_refl, eq_self, li_0, li_1, li_2, li_3, li_4, li_5, li_6, li_7, li_8, li_9, li_10, li_11, li_12, li_13, li_14, li_15, li_16, li_17, li_18, li_19, li_20, li_21, li_22, li_23, li_24, li_25, li_26, li_27, li_28, li_29, li_30, li_31, li_32, li_44, li_48, li_57, li_59, li_60, li_61, li_62, li_63, li_97, li_100, li_122, li_123, li_125, li_127, li_255, li_400, li_401, li_800, li_1023, li_1024, li_10827, i_add, i_mul, i_sub, i_p1, i_m1, i_nm, i_nm2, i_cl, i_cl0, vi_ok, i_lt, i_le, i_eq, lg_e, gI_s, gI_c, gI_p, gI_L, gI_R, gL_s, gL_c, gL_p, gL_I, gL_R, gR_s, gR_c, gR_p, gR_I, gR_L]
        rw [(f2 145 k (fun q => by unfold PSh at q; omega)).1, gI_c (by omega), (f1 145 k (by omega)).1]
        exact (n4 k hk).2.2
      clear e3
      refine model h3 _ r3 f3R w40 w145 (fun h4 r4 f4 v42 => ⟨fun _ => ?_, fun y => absurd y z⟩)
      have f4R : Fr PR h h4 := f3R.trans (f4.mono (fun c p q => Or.inl (PQ_scr (PCm_scr q))))
      have f5R : Fr PR h (ax_setI h4 103 40 (Int32.ofNat (cntF (trD (D a) A) r))) := f4R.setI (Or.inr (Or.inr (Or.inr (Or.inr ⟨rfl, rfl⟩))))
      refine k_shorterM (h0 := ax_setI h4 103 40 (Int32.ofNat (cntF (trD (D a) A) r))) ha (hA.fr f5R (fun c p q => by have := PR_far q; omega)) rfl hy t2 (t4.fr f5R (fun c p h1 h2 q => by have := PR_far q; omega)) (by omega) fl Af rf (fun h5 r5 f5 rm => ⟨rfl, ?_⟩) 401 A (cntF (trD (D a) A) r) _ (by omega) (Nat.le_refl 401) esh r4.setI (Fr.refl _ _) ⟨gI_s _ _ _ _, fun i hi => ⟨(n4 i (by omega)).1, by rw [gI_c (by omega), (f4 145 i (fun q => by have := PCm_no q; omega)).1]; exact w145 i (by omega)⟩⟩
      · have f6R : Fr PR h (ax_setI (ax_setI h5 103 1 0) 103 2 (-1)) := ((f5R.trans (f5.mono (fun _ _ => PShM_R))).setI (Or.inl PQ_1031)).setI (Or.inl PQ_1032)
        have f35 : Fr PShM h3 h5 := ((f4.mono (R := PShM) (fun c p q => Or.inl q)).setI (Or.inr (Or.inr ⟨rfl, rfl⟩))).trans f5
        refine inv_row hI f6R r5.setI.setI ⟨rf, Af, hrf, ?_, ?_, fun k hk => ⟨(rm.2 k hk).1, ?_, ?_⟩⟩ 0 (by decide) ?_ (by simp (disch := first | assumption | omega) only [true_and, and_true, forall_eq, true_implies, false_implies, implies_true, not_true_eq_false, not_false_eq_true, false_and, and_false, ne_eq, ite_true, ite_false, Nat.reduceLeDiff, Nat.reduceEqDiff, Nat.reduceLT, Nat.reduceAdd, Nat.reduceMul, Nat.reduceSub, Nat.le_refl, eq_self, li_0, li_1, li_2, li_3, li_4, li_5, li_6, li_7, li_8, li_9, li_10, li_11, li_12, li_13, li_14, li_15, li_16, li_17, li_18, li_19, li_20, li_21, li_22, li_23, li_24, li_25, li_26, li_27, li_28, li_29, li_30, li_31, li_32, li_44, li_48, li_57, li_59, li_60, li_61, li_62, li_63, li_97, li_100, li_122, li_123, li_125, li_127, li_255, li_400, li_401, li_800, li_1023, li_1024, li_10827, i_add, i_mul, i_sub, i_p1, i_m1, i_nm, i_nm2, i_cl, i_cl0, vi_ok, i_lt, i_le, i_eq, lg_e, gI_s, gI_c, gI_p, gI_L, gI_R, gL_s, gL_c, gL_p, gL_I, gL_R, gR_s, gR_c, gR_p, gR_I, gR_L]) (by simp (disch := first | assumption | omega) only [true_and, and_true, forall_eq, true_implies, false_implies, implies_true, not_true_eq_false, not_false_eq_true, false_and, and_false, ne_eq, ite_true, ite_false, Nat.reduceLeDiff, Nat.reduceEqDiff, Nat.reduceLT, Nat.reduceAdd, Nat.reduceMul, Nat.reduceSub, Nat.le_refl, eq_self, li_0, li_1, li_2, li_3, li_4, li_5, li_6, li_7, li_8, li_9, li_10, li_11, li_12, li_13, li_14, li_15, li_16, li_17, li_18, li_19, li_20, li_21, li_22, li_23, li_24, li_25, li_26, li_27, li_28, li_29, li_30, li_31, li_32, li_44, li_48, li_57, li_59, li_60, li_61, li_62, li_63, li_97, li_100, li_122, li_123, li_125, li_127, li_255, li_400, li_401, li_800, li_1023, li_1024, li_10827, i_add, i_mul, i_sub, i_p1, i_m1, i_nm, i_nm2, i_cl, i_cl0, vi_ok, i_lt, i_le, i_eq, lg_e, gI_s, gI_c, gI_p, gI_L, gI_R, gL_s, gL_c, gL_p, gL_I, gL_R, gR_s, gR_c, gR_p, gR_I, gR_L])
        · simp (disch := first | assumption | omega) only [true_and, and_true, forall_eq, true_implies, false_implies, implies_true, not_true_eq_false, not_false_eq_true, false_and, and_false, ne_eq, ite_true, ite_false, Nat.reduceLeDiff, Nat.reduceEqDiff, Nat.reduceLT, Nat.reduceAdd, Nat.reduceMul, Nat.reduceSub, Nat.le_refl, eq_self, li_0, li_1, li_2, li_3, li_4, li_5, li_6, li_7, li_8, li_9, li_10, li_11, li_12, li_13, li_14, li_15, li_16, li_17, li_18, li_19, li_20, li_21, li_22, li_23, li_24, li_25, li_26, li_27, li_28, li_29, li_30, li_31, li_32, li_44, li_48, li_57, li_59, li_60, li_61, li_62, li_63, li_97, li_100, li_122, li_123, li_125, li_127, li_255, li_400, li_401, li_800, li_1023, li_1024, li_10827, i_add, i_mul, i_sub, i_p1, i_m1, i_nm, i_nm2, i_cl, i_cl0, vi_ok, i_lt, i_le, i_eq, lg_e, gI_s, gI_c, gI_p, gI_L, gI_R, gL_s, gL_c, gL_p, gL_I, gL_R, gR_s, gR_c, gR_p, gR_I, gR_L]
          rw [(f35 1 9 (fun q => by have := PShM_no q; omega)).1]
          exact w19
        · simp (disch := first | assumption | omega) only [true_and, and_true, forall_eq, true_implies, false_implies, implies_true, not_true_eq_false, not_false_eq_true, false_and, and_false, ne_eq, ite_true, ite_false, Nat.reduceLeDiff, Nat.reduceEqDiff, Nat.reduceLT, Nat.reduceAdd, Nat.reduceMul, Nat.reduceSub, Nat.le_refl, eq_self, li_0, li_1, li_2, li_3, li_4, li_5, li_6, li_7, li_8, li_9, li_10, li_11, li_12, li_13, li_14, li_15, li_16, li_17, li_18, li_19, li_20, li_21, li_22, li_23, li_24, li_25, li_26, li_27, li_28, li_29, li_30, li_31, li_32, li_44, li_48, li_57, li_59, li_60, li_61, li_62, li_63, li_97, li_100, li_122, li_123, li_125, li_127, li_255, li_400, li_401, li_800, li_1023, li_1024, li_10827, i_add, i_mul, i_sub, i_p1, i_m1, i_nm, i_nm2, i_cl, i_cl0, vi_ok, i_lt, i_le, i_eq, lg_e, gI_s, gI_c, gI_p, gI_L, gI_R, gL_s, gL_c, gL_p, gL_I, gL_R, gR_s, gR_c, gR_p, gR_I, gR_L]; exact rm.1
        · simp (disch := first | assumption | omega) only [true_and, and_true, forall_eq, true_implies, false_implies, implies_true, not_true_eq_false, not_false_eq_true, false_and, and_false, ne_eq, ite_true, ite_false, Nat.reduceLeDiff, Nat.reduceEqDiff, Nat.reduceLT, Nat.reduceAdd, Nat.reduceMul, Nat.reduceSub, Nat.le_refl, eq_self, li_0, li_1, li_2, li_3, li_4, li_5, li_6, li_7, li_8, li_9, li_10, li_11, li_12, li_13, li_14, li_15, li_16, li_17, li_18, li_19, li_20, li_21, li_22, li_23, li_24, li_25, li_26, li_27, li_28, li_29, li_30, li_31, li_32, li_44, li_48, li_57, li_59, li_60, li_61, li_62, li_63, li_97, li_100, li_122, li_123, li_125, li_127, li_255, li_400, li_401, li_800, li_1023, li_1024, li_10827, i_add, i_mul, i_sub, i_p1, i_m1, i_nm, i_nm2, i_cl, i_cl0, vi_ok, i_lt, i_le, i_eq, lg_e, gI_s, gI_c, gI_p, gI_L, gI_R, gL_s, gL_c, gL_p, gL_I, gL_R, gR_s, gR_c, gR_p, gR_I, gR_L]
          rw [(f35 101 k (fun q => by have := PShM_no q; omega)).1]
          exact w101 k hk
        · simp (disch := first | assumption | omega) only [true_and, and_true, forall_eq, true_implies, false_implies, implies_true, not_true_eq_false, not_false_eq_true, false_and, and_false, ne_eq, ite_true, ite_false, Nat.reduceLeDiff, Nat.reduceEqDiff, Nat.reduceLT, Nat.reduceAdd, Nat.reduceMul, Nat.reduceSub, Nat.le_refl, eq_self, li_0, li_1, li_2, li_3, li_4, li_5, li_6, li_7, li_8, li_9, li_10, li_11, li_12, li_13, li_14, li_15, li_16, li_17, li_18, li_19, li_20, li_21, li_22, li_23, li_24, li_25, li_26, li_27, li_28, li_29, li_30, li_31, li_32, li_44, li_48, li_57, li_59, li_60, li_61, li_62, li_63, li_97, li_100, li_122, li_123, li_125, li_127, li_255, li_400, li_401, li_800, li_1023, li_1024, li_10827, i_add, i_mul, i_sub, i_p1, i_m1, i_nm, i_nm2, i_cl, i_cl0, vi_ok, i_lt, i_le, i_eq, lg_e, gI_s, gI_c, gI_p, gI_L, gI_R, gL_s, gL_c, gL_p, gL_I, gL_R, gR_s, gR_c, gR_p, gR_I, gR_L]; exact (rm.2 k hk).2
        · simp (disch := first | assumption | omega) only [true_and, and_true, forall_eq, true_implies, false_implies, implies_true, not_true_eq_false, not_false_eq_true, false_and, and_false, ne_eq, ite_true, ite_false, Nat.reduceLeDiff, Nat.reduceEqDiff, Nat.reduceLT, Nat.reduceAdd, Nat.reduceMul, Nat.reduceSub, Nat.le_refl, eq_self, li_0, li_1, li_2, li_3, li_4, li_5, li_6, li_7, li_8, li_9, li_10, li_11, li_12, li_13, li_14, li_15, li_16, li_17, li_18, li_19, li_20, li_21, li_22, li_23, li_24, li_25, li_26, li_27, li_28, li_29, li_30, li_31, li_32, li_44, li_48, li_57, li_59, li_60, li_61, li_62, li_63, li_97, li_100, li_122, li_123, li_125, li_127, li_255, li_400, li_401, li_800, li_1023, li_1024, li_10827, i_add, i_mul, i_sub, i_p1, i_m1, i_nm, i_nm2, i_cl, i_cl0, vi_ok, i_lt, i_le, i_eq, lg_e, gI_s, gI_c, gI_p, gI_L, gI_R, gL_s, gL_c, gL_p, gL_I, gL_R, gR_s, gR_c, gR_p, gR_I, gR_L]
          rw [(f35 1 12 (fun q => by have := PShM_no q; omega)).1]
          exact w112
    · refine k_X9_refused ?_
      refine c_X12_shorter (s_X12_shorter_0 ⟨is_103, ?_⟩)
      intro h3 e3
      have r3 : Refs h3 := by rw [e3]; exact r1.setI.setI
      have f3Q : Fr PQ h h3 := by rw [e3]; exact ((f1.mono (fun c p q => by rw [q]; exact PQ_scr (SCR_102 p))).setI PQ_112).setI PQ_1030
      have w112 : h3.1 1 12 = 4 := by rw [e3]; simp (disch := first | assumption | omega) only [true_and, and_true, forall_eq, true_implies, false_implies, implies_true, not_true_eq_false, not_false_eq_true, false_and, and_false, ne_eq, ite_true, ite_false, Nat.reduceLeDiff, Nat.reduceEqDiff, Nat.reduceLT, Nat.reduceAdd, Nat.reduceMul, Nat.reduceSub, Nat.le_refl, eq_self, li_0, li_1, li_2, li_3, li_4, li_5, li_6, li_7, li_8, li_9, li_10, li_11, li_12, li_13, li_14, li_15, li_16, li_17, li_18, li_19, li_20, li_21, li_22, li_23, li_24, li_25, li_26, li_27, li_28, li_29, li_30, li_31, li_32, li_44, li_48, li_57, li_59, li_60, li_61, li_62, li_63, li_97, li_100, li_122, li_123, li_125, li_127, li_255, li_400, li_401, li_800, li_1023, li_1024, li_10827, i_add, i_mul, i_sub, i_p1, i_m1, i_nm, i_nm2, i_cl, i_cl0, vi_ok, i_lt, i_le, i_eq, lg_e, gI_s, gI_c, gI_p, gI_L, gI_R, gL_s, gL_c, gL_p, gL_I, gL_R, gR_s, gR_c, gR_p, gR_I, gR_L]
      have w40 : h3.1 103 40 = Int32.ofNat r := by rw [(f3Q 103 40 (fun q => by have := PQ_no q; omega)).1]; exact n3
      have w145 : ∀ k, k < r → h3.1 145 k = Int32.ofNat (A k) := fun k hk => by rw [(f3Q 145 k (fun q => by have := PQ_no q; omega)).1]; exact (n4 k hk).2.2
      clear e3
      refine model h3 _ r3 (f3Q.mono (fun c p q => Or.inl q)) w40 w145 (fun h4 r4 f4 v42 => ⟨fun y => absurd z y, fun _ => ?_⟩)
      refine k_X12_refused ⟨rfl, inv_say hI 4 (by decide) (f3Q.trans (f4.mono (fun c p q => PQ_scr (PCm_scr q)))) r4 ?_⟩
      rw [(f4 1 12 (fun q => by have := PCm_no q; omega)).1]
      exact w112
  · refine c_X9_shorter (s_X9_shorter_0 ⟨is_1, q_has_n hI.c hT ⟨fun z => absurd rfl z, fun _ => k_X9_refused ?_⟩⟩)
    refine c_X12_shorter (s_X12_shorter_0 ⟨is_103, ?_⟩)
    intro h2 e2
    obtain ⟨i1, f1, g1⟩ := mIn2 hI.c ((Fr.refl PQ h).setI PQ_112) hI.1.setI e2
    subst e2
    exact q_isApp_n i1 hT ⟨fun z => absurd rfl z, fun _ => ob_ref hI 1 (by decide)⟩
