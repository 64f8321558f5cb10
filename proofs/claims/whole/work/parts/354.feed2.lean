theorem ob_feed {l : Launch} {g : AG} (h : AH) (a1 a2 a3 a4 a5 : Int32) (hI : Inv h) : C_X9_feed l g h 1 a1 a2 a3 a4 a5 (fun r h1 => C_X12_feed l g h1 103 a1 a2 a3 a4 a5 (fun r2 h2 => r2 = r ∧ Inv h2)) := by
  obtain ⟨X, Y, D, S, t, hI⟩ := hI
  have hr := hI.1
  obtain ⟨n, T, n1, n2, n3, n4⟩ := hI.2.2.2.1
  refine c_X9_feed (s_X9_feed_0 ?_)
  rw [n2]
  simp (disch := first | assumption | omega) only [true_and, and_true, forall_eq, true_implies, false_implies, implies_true, not_true_eq_false, not_false_eq_true, false_and, and_false, ne_eq, ite_true, ite_false, Nat.reduceLeDiff, Nat.reduceEqDiff, Nat.reduceLT, Nat.reduceAdd, Nat.reduceMul, Nat.reduceSub, Nat.le_refl, eq_self, li_0, li_1, li_2, li_3, li_4, li_5, li_6, li_7, li_8, li_9, li_10, li_11, li_12, li_13, li_14, li_15, li_16, li_17, li_18, li_19, li_20, li_21, li_22, li_23, li_24, li_25, li_26, li_27, li_28, li_29, li_30, li_31, li_32, li_44, li_48, li_57, li_59, li_60, li_61, li_62, li_63, li_97, li_100, li_122, li_123, li_125, li_127, li_255, li_400, li_401, li_800, li_1023, li_1024, li_10827, i_add, i_mul, i_sub, i_p1, i_m1, i_nm, i_nm2, i_cl, i_cl0, vi_ok, i_lt, i_le, i_eq, lg_e, is_1]
  refine ⟨fun c => ?_, fun c => ?_⟩
  · refine k_X9_wind (n := n) (by omega) hr n2 (fun h1 r1 f1 e1 k1 v1 => ?_)
    refine k_X9_wind (n := n + 4) (by omega) r1 e1 (fun h2 r2 f2 e2 k2 v2 => ?_)
    refine k_X9_wind (n := n + 8) (by omega) r2 e2 (fun h3 r3 f3 e3 k3 v3 => ?_)
    refine k_X9_wind (n := n + 12) (by omega) r3 e3 (fun h4 r4 f4 e4 k4 v4 => ?_)
    refine k_X9_wind (n := n + 16) (by omega) r4 e4 (fun h5 r5 f5 e5 k5 v5 => ?_)
    have f15 : Fr PT h h5 := (((f1.trans f2).trans f3).trans f4).trans f5
    have vals : ∀ j, j < 20 → h5.1 2 (n + j) = fed a1 a2 a3 a4 a5 j := by
      intro j hj
      unfold fed
      by_cases c4 : j < 4
      · rw [if_pos c4, k5 _ (by omega), k4 _ (by omega), k3 _ (by omega), k2 _ (by omega), v1 j c4, Nat.mod_eq_of_lt c4]
      rw [if_neg c4]
      by_cases c8 : j < 8
      · have := v2 (j - 4) (by omega)
        rw [show n + 4 + (j - 4) = n + j by omega] at this
        rw [if_pos c8, k5 _ (by omega), k4 _ (by omega), k3 _ (by omega), show j % 4 = j - 4 by omega, ← this]
      rw [if_neg c8]
      by_cases c12 : j < 12
      · have := v3 (j - 8) (by omega)
        rw [show n + 8 + (j - 8) = n + j by omega] at this
        rw [if_pos c12, k5 _ (by omega), k4 _ (by omega), show j % 4 = j - 8 by omega, ← this]
      rw [if_neg c12]
      by_cases c16 : j < 16
      · have := v4 (j - 12) (by omega)
        rw [show n + 12 + (j - 12) = n + j by omega] at this
        rw [if_pos c16, k5 _ (by omega), show j % 4 = j - 12 by omega, ← this]
      rw [if_neg c16]
      have := v5 (j - 16) (by omega)
      rw [show n + 16 + (j - 16) = n + j by omega] at this
      rw [show j % 4 = j - 16 by omega, ← this]
    have olds : ∀ k, k < n → h5.1 2 k = h.1 2 k := fun k hk => by rw [k5 _ (by omega), k4 _ (by omega), k3 _ (by omega), k2 _ (by omega), k1 _ hk]
    have e5' : h5.1 1 1 = Int32.ofNat (n + 20) := e5
    rw [e5']
    refine c_X12_feed (s_X12_feed_0 ⟨is_103, ?_⟩)
    intro h6 e6
    have r6 : Refs h6 := by rw [e6]; exact r5.setI
    have g6 : h6.1 103 11 = Int32.ofNat n := by
      rw [e6, gI_p (by omega), (f15 103 11 (fun q => by unfold PT at q; omega)).1]
      exact n3
    rw [g6]
    simp (disch := first | assumption | omega) only [true_and, and_true, forall_eq, true_implies, false_implies, implies_true, not_true_eq_false, not_false_eq_true, false_and, and_false, ne_eq, ite_true, ite_false, Nat.reduceLeDiff, Nat.reduceEqDiff, Nat.reduceLT, Nat.reduceAdd, Nat.reduceMul, Nat.reduceSub, Nat.le_refl, eq_self, li_0, li_1, li_2, li_3, li_4, li_5, li_6, li_7, li_8, li_9, li_10, li_11, li_12, li_13, li_14, li_15, li_16, li_17, li_18, li_19, li_20, li_21, li_22, li_23, li_24, li_25, li_26, li_27, li_28, li_29, li_30, li_31, li_32, li_44, li_48, li_57, li_59, li_60, li_61, li_62, li_63, li_97, li_100, li_122, li_123, li_125, li_127, li_255, li_400, li_401, li_800, li_1023, li_1024, li_10827, i_add, i_mul, i_sub, i_p1, i_m1, i_nm, i_nm2, i_cl, i_cl0, vi_ok, i_lt, i_le, i_eq, lg_e, c]
    refine k_feed2 (n := n) (h0 := h6) (by omega) (fun h7 r7 f7 e7 o7 v7 => ?_) 20 0 rfl h6 r6 (Fr.refl _ _) g6 (fun _ _ => rfl) (fun i hi => absurd hi (Nat.not_lt_zero i))
    have f57 : Fr PT2 h5 h7 := (((Fr.refl PT2 h5).setI (i := 103) (k := 0) (v := 0) (Or.inr ⟨rfl, Or.inl rfl⟩))).trans (by rw [← e6]; exact f7)
    have fa : Fr PW h h7 := (f15.mono (fun c p q => by unfold PT at q; unfold PW; omega)).trans (f57.mono (fun c p q => by unfold PT2 at q; unfold PW PQ SCR; omega))
    have iC : InvC h7 X Y D S t := by
      refine hI.c.w fa r7 ?_ (hI.2.2.2.2.2.1.fr (f15.mono (R := fun c p => PT c p ∨ PT2 c p) (fun c p => Or.inl) |>.trans (f57.mono (fun c p => Or.inr))) (fun c p q => by unfold PT PT2 at q; omega)) (hI.2.2.2.2.2.2.2.fr (f15.mono (R := fun c p => PT c p ∨ PT2 c p) (fun c p => Or.inl) |>.trans (f57.mono (fun c p => Or.inr))) (fun c p q => by unfold PT PT2 at q; omega))
      refine ⟨n + 20, fun k => (h7.1 2 k).toNatClampNeg, by omega, ?_, e7, fun k hk => ?_⟩
      · rw [(f57 1 1 (fun q => by unfold PT2 at q; omega)).1]; exact e5'
      · have e2 : h7.1 2 k = h5.1 2 k := (f57 2 k (fun q => by unfold PT2 at q; omega)).1
        show (h7.1 2 k).toNatClampNeg < 256 ∧ h7.1 2 k = Int32.ofNat (h7.1 2 k).toNatClampNeg ∧ h7.1 129 k &&& 255 = Int32.ofNat (h7.1 2 k).toNatClampNeg
        rw [e2]
        by_cases c : k < n
        · rw [olds k c, o7 k c, e6, gI_c (by omega), (f15 129 k (fun q => by unfold PT at q; omega)).1]
          obtain ⟨z1, z2, z3⟩ := n4 k c
          rw [z2, i_cl (by omega), z3]
          exact ⟨z1, rfl, rfl⟩
        · obtain ⟨j, rfl⟩ : ∃ j, k = n + j := ⟨k - n, by omega⟩
          rw [vals j (by omega), v7 j (by omega)]
          obtain ⟨T2, z1, z2⟩ := i_255 (jiushr (if j < 4 then a1 else if j < 8 then a2 else if j < 12 then a3 else if j < 16 then a4 else a5) (Int32.ofNat (24 - 8 * (j % 4))))
          have z3 : fed a1 a2 a3 a4 a5 j = Int32.ofNat T2 := z2
          rw [z3, i_cl (by omega)]
          exact ⟨z1, rfl, rfl⟩
    have fm := f15.mono (R := fun c p => PT c p ∨ PT2 c p) (fun c p => Or.inl) |>.trans (f57.mono (fun c p => Or.inr))
    exact ⟨rfl, X, Y, D, S, t, iC.1, iC.2.1, iC.2.2.1, iC.2.2.2.1, hI.2.2.2.2.1.fr fm (fun c p q => by unfold PT PT2 at q; omega), iC.2.2.2.2.1, iC.2.2.2.2.2.1, iC.2.2.2.2.2.2⟩
  · refine c_X12_feed (s_X12_feed_0 ⟨is_103, ?_⟩)
    intro h6 e6
    obtain ⟨i1, f1, e0⟩ := mIn hI e6
    have g6 : h6.1 103 11 = Int32.ofNat n := by rw [e6, gI_p (by omega)]; exact n3
    clear e6
    rw [g6]
    simp (disch := first | assumption | omega) only [true_and, and_true, forall_eq, true_implies, false_implies, implies_true, not_true_eq_false, not_false_eq_true, false_and, and_false, ne_eq, ite_true, ite_false, Nat.reduceLeDiff, Nat.reduceEqDiff, Nat.reduceLT, Nat.reduceAdd, Nat.reduceMul, Nat.reduceSub, Nat.le_refl, eq_self, li_0, li_1, li_2, li_3, li_4, li_5, li_6, li_7, li_8, li_9, li_10, li_11, li_12, li_13, li_14, li_15, li_16, li_17, li_18, li_19, li_20, li_21, li_22, li_23, li_24, li_25, li_26, li_27, li_28, li_29, li_30, li_31, li_32, li_44, li_48, li_57, li_59, li_60, li_61, li_62, li_63, li_97, li_100, li_122, li_123, li_125, li_127, li_255, li_400, li_401, li_800, li_1023, li_1024, li_10827, i_add, i_mul, i_sub, i_p1, i_m1, i_nm, i_nm2, i_cl, i_cl0, vi_ok, i_lt, i_le, i_eq, lg_e, c]
    exact e0
