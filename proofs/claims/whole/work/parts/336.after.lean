theorem k_X0_sumIn {l : Launch} {g : AG} {h : AH} {x v s : Nat} {D : AD} {Q : Int32 → AH → Prop} (hr : Refs h) (hx : isA x) (hD : WfD D) (hA : RepA h x D) (hv : v < D 0 2) (hs : s < 100) (hq : Q (Int32.ofNat (s % (D 4 v + 1))) h) : C_X0_sumIn l g h x (Int32.ofNat v) (Int32.ofNat s) Q := by
  have h6 := hD.1.2.2.2
  have hV := hD.2.2.1 v hv
  refine c_X0_sumIn (s_X0_sumIn_0 ?_)
  (try simp (disch := first | assumption | omega) only [true_and, and_true, forall_eq, true_implies, false_implies, implies_true, not_true_eq_false, not_false_eq_true, false_and, and_false, ne_eq, ite_true, ite_false, Nat.reduceLeDiff, Nat.reduceEqDiff, Nat.reduceLT, Nat.reduceAdd, Nat.reduceMul, Nat.reduceSub, Nat.le_refl, eq_self, li_0, li_1, li_2, li_3, li_4, li_5, li_6, li_7, li_8, li_9, li_10, li_11, li_12, li_13, li_14, li_15, li_16, li_17, li_18, li_19, li_20, li_21, li_22, li_23, li_24, li_25, li_26, li_27, li_28, li_29, li_30, li_31, li_32, li_44, li_48, li_57, li_59, li_60, li_61, li_62, li_63, li_97, li_100, li_122, li_123, li_125, li_127, li_255, li_400, li_401, li_800, li_1023, li_1024, li_10827, i_add, i_mul, i_sub, i_p1, i_m1, i_nm, i_nm2, i_cl, i_cl0, vi_ok, i_lt, i_le, i_eq, lg_e, isA_x, rfA_7, rfA_8, rfA_9, rfA_10, rfA_11, rfA_12, rfA_13, rfA_14, rfA_15, rfA_16, rfA_17, rfA_18, rfC_0, rfD_0, rfC_1, rfD_1, rfC_2, rfD_2, rfC_3, rfD_3, isA_1, szA_1, isA_2, szA_2, isA_3, szA_3, isA_4, szA_4, isA_5, szA_5, isA_6, szA_6, isA_7, szA_7, isA_8, szA_8, isA_9, szA_9, isA_10, szA_10, isA_11, szA_11, isA_12, szA_12, isA_13, szA_13, isA_14, szA_14, isA_15, szA_15, isA_16, szA_16, isA_17, szA_17, isA_18, szA_18, isA_19, szA_19, isA_20, szA_20, (hA.2.2.1 v hv).2, show ¬ D 4 v + 1 ≤ 0 by omega, show ¬ D 4 v + 1 = 0 by omega, i_rem])
  exact hq
theorem k_X0_afterDeeds_loop {l : Launch} {g : AG} {h : AH} {x k : Nat} {D : AD} {Q : Int64 → AH → Prop} (hr : Refs h) (hx : isA x) (hD : WfD D) (hk : isL D k) (hA : RepA h x D) : ∀ n d S, d + n = D 14 k → WS (D 0 0) S → 0 < S.2.1 → Q (Int64.ofNat (en (doD D S (4 * k + d) n))) h → L_X0_afterDeeds_24 l g h x (Int32.ofNat k) (Int64.ofNat (en S)) (Int32.ofNat (4 * k)) (Int32.ofNat (4 * k + d)) Q := by
  have h6 := hD.1.2.2.2
  have h8 := hD.1.2.1
  have hk32 : k < 32 := by
    have := hD.1.2.2.1
    rcases hk with q | ⟨w, q1, q2, q3⟩ <;> omega
  have hL := hD.2.2.2.2 k hk
  have hAd := hA.2.2.2.2.2 k hk
  have h4 := hL.1
  intro n
  induction n with
  | zero =>
    intro d S hd hs h0 hq
    refine s_X0_afterDeeds_24 ?_
    (try simp (disch := first | assumption | omega) only [true_and, and_true, forall_eq, true_implies, false_implies, implies_true, not_true_eq_false, not_false_eq_true, false_and, and_false, ne_eq, ite_true, ite_false, Nat.reduceLeDiff, Nat.reduceEqDiff, Nat.reduceLT, Nat.reduceAdd, Nat.reduceMul, Nat.reduceSub, Nat.le_refl, eq_self, li_0, li_1, li_2, li_3, li_4, li_5, li_6, li_7, li_8, li_9, li_10, li_11, li_12, li_13, li_14, li_15, li_16, li_17, li_18, li_19, li_20, li_21, li_22, li_23, li_24, li_25, li_26, li_27, li_28, li_29, li_30, li_31, li_32, li_44, li_48, li_57, li_59, li_60, li_61, li_62, li_63, li_97, li_100, li_122, li_123, li_125, li_127, li_255, li_400, li_401, li_800, li_1023, li_1024, li_10827, i_add, i_mul, i_sub, i_p1, i_m1, i_nm, i_nm2, i_cl, i_cl0, vi_ok, i_lt, i_le, i_eq, lg_e, isA_x, rfA_7, rfA_8, rfA_9, rfA_10, rfA_11, rfA_12, rfA_13, rfA_14, rfA_15, rfA_16, rfA_17, rfA_18, rfC_0, rfD_0, rfC_1, rfD_1, rfC_2, rfD_2, rfC_3, rfD_3, isA_1, szA_1, isA_2, szA_2, isA_3, szA_3, isA_4, szA_4, isA_5, szA_5, isA_6, szA_6, isA_7, szA_7, isA_8, szA_8, isA_9, szA_9, isA_10, szA_10, isA_11, szA_11, isA_12, szA_12, isA_13, szA_13, isA_14, szA_14, isA_15, szA_15, isA_16, szA_16, isA_17, szA_17, isA_18, szA_18, isA_19, szA_19, isA_20, szA_20, hAd.1, show 4 * k + D 14 k ≤ 4 * k + d by omega])
    exact hq
  | succ n ih =>
    intro d S hd hs h0 hq
    have he := en_lt hs
    obtain ⟨o1, o2, o3, o4⟩ := hAd.2 d (by omega)
    obtain ⟨w1, w2, w3, w4, w5⟩ := hL.2 d (by omega)
    have hqS : Q (Int64.ofNat (en (if S.2.1 = 0 then S else doD D (deed1 D S (4 * k + d)) (4 * k + d + 1) n))) h := hq
    rw [if_neg (by omega)] at hqS
    refine s_X0_afterDeeds_24 ?_
    (try simp (disch := first | assumption | omega) only [true_and, and_true, forall_eq, true_implies, false_implies, implies_true, not_true_eq_false, not_false_eq_true, false_and, and_false, ne_eq, ite_true, ite_false, Nat.reduceLeDiff, Nat.reduceEqDiff, Nat.reduceLT, Nat.reduceAdd, Nat.reduceMul, Nat.reduceSub, Nat.le_refl, eq_self, li_0, li_1, li_2, li_3, li_4, li_5, li_6, li_7, li_8, li_9, li_10, li_11, li_12, li_13, li_14, li_15, li_16, li_17, li_18, li_19, li_20, li_21, li_22, li_23, li_24, li_25, li_26, li_27, li_28, li_29, li_30, li_31, li_32, li_44, li_48, li_57, li_59, li_60, li_61, li_62, li_63, li_97, li_100, li_122, li_123, li_125, li_127, li_255, li_400, li_401, li_800, li_1023, li_1024, li_10827, i_add, i_mul, i_sub, i_p1, i_m1, i_nm, i_nm2, i_cl, i_cl0, vi_ok, i_lt, i_le, i_eq, lg_e, isA_x, rfA_7, rfA_8, rfA_9, rfA_10, rfA_11, rfA_12, rfA_13, rfA_14, rfA_15, rfA_16, rfA_17, rfA_18, rfC_0, rfD_0, rfC_1, rfD_1, rfC_2, rfD_2, rfC_3, rfD_3, isA_1, szA_1, isA_2, szA_2, isA_3, szA_3, isA_4, szA_4, isA_5, szA_5, isA_6, szA_6, isA_7, szA_7, isA_8, szA_8, isA_9, szA_9, isA_10, szA_10, isA_11, szA_11, isA_12, szA_12, isA_13, szA_13, isA_14, szA_14, isA_15, szA_15, isA_16, szA_16, isA_17, szA_17, isA_18, szA_18, isA_19, szA_19, isA_20, szA_20, hAd.1, o1, show ¬ 4 * k + D 14 k ≤ 4 * k + d by omega])
    have hws := ws_deed1 hs h0 hD hk (show d < D 14 k by omega)
    have hi : 0 < (deed1 D S (4 * k + d)).2.1 → L_X0_afterDeeds_24 l g h x (Int32.ofNat k) (Int64.ofNat (en (deed1 D S (4 * k + d)))) (Int32.ofNat (4 * k)) (Int32.ofNat (4 * k + d + 1)) Q := fun z => ih (d + 1) _ (by omega) hws z hqS
    have hde : deed1 D S (4 * k + d) = if D 15 (4 * k + d) = 0 then stOpen S (D 16 (4 * k + d)) else if D 15 (4 * k + d) = 1 then stClose S else if D 15 (4 * k + d) = 2 then stSet S (D 16 (4 * k + d)) (D 17 (4 * k + d)) else if D 15 (4 * k + d) = 3 then stSet S (D 16 (4 * k + d)) ((S.2.2.2.2 (D 16 (4 * k + d)) + D 17 (4 * k + d)) % (D 4 (D 16 (4 * k + d)) + 1)) else stFault S (D 16 (4 * k + d)) (kept D) := rfl
    refine ⟨fun z0 => ?_, fun z0 => ?_⟩
    · rw [if_pos z0] at hde
      rw [o2 (by omega) (by omega)]
      refine k_X3_opened he (by have := w2 z0; omega) ?_
      rw [en_opened hs h0, ← hde]
      (try simp (disch := first | assumption | omega) only [true_and, and_true, forall_eq, true_implies, false_implies, implies_true, not_true_eq_false, not_false_eq_true, false_and, and_false, ne_eq, ite_true, ite_false, Nat.reduceLeDiff, Nat.reduceEqDiff, Nat.reduceLT, Nat.reduceAdd, Nat.reduceMul, Nat.reduceSub, Nat.le_refl, eq_self, li_0, li_1, li_2, li_3, li_4, li_5, li_6, li_7, li_8, li_9, li_10, li_11, li_12, li_13, li_14, li_15, li_16, li_17, li_18, li_19, li_20, li_21, li_22, li_23, li_24, li_25, li_26, li_27, li_28, li_29, li_30, li_31, li_32, li_44, li_48, li_57, li_59, li_60, li_61, li_62, li_63, li_97, li_100, li_122, li_123, li_125, li_127, li_255, li_400, li_401, li_800, li_1023, li_1024, li_10827, i_add, i_mul, i_sub, i_p1, i_m1, i_nm, i_nm2, i_cl, i_cl0, vi_ok, i_lt, i_le, i_eq, lg_e])
      refine hi ?_
      rw [hde]
      unfold stOpen
      split
      · show 0 < S.2.1 + 1
        omega
      · exact h0
    rw [if_neg z0] at hde
    refine ⟨fun z1 => ?_, fun z1 => ?_⟩
    · rw [if_pos z1] at hde
      refine k_X3_closed he ?_
      rw [en_close hs, ← hde]
      (try simp (disch := first | assumption | omega) only [true_and, and_true, forall_eq, true_implies, false_implies, implies_true, not_true_eq_false, not_false_eq_true, false_and, and_false, ne_eq, ite_true, ite_false, Nat.reduceLeDiff, Nat.reduceEqDiff, Nat.reduceLT, Nat.reduceAdd, Nat.reduceMul, Nat.reduceSub, Nat.le_refl, eq_self, li_0, li_1, li_2, li_3, li_4, li_5, li_6, li_7, li_8, li_9, li_10, li_11, li_12, li_13, li_14, li_15, li_16, li_17, li_18, li_19, li_20, li_21, li_22, li_23, li_24, li_25, li_26, li_27, li_28, li_29, li_30, li_31, li_32, li_44, li_48, li_57, li_59, li_60, li_61, li_62, li_63, li_97, li_100, li_122, li_123, li_125, li_127, li_255, li_400, li_401, li_800, li_1023, li_1024, li_10827, i_add, i_mul, i_sub, i_p1, i_m1, i_nm, i_nm2, i_cl, i_cl0, vi_ok, i_lt, i_le, i_eq, lg_e])
      refine hi ?_
      rw [hde]
      unfold stClose
      split
      · show 0 < S.2.1 - 1
        omega
      · exact h0
    rw [if_neg z1] at hde
    refine ⟨fun z2 => ?_, fun z2 => ?_⟩
    · rw [if_pos z2] at hde
      rw [o2 (by omega) (by omega), o3 (Or.inl z2)]
      have w3 := w3 z2
      refine k_X3_withValue he (by omega) (by omega) ?_
      rw [en_set hs (by omega), ← hde]
      (try simp (disch := first | assumption | omega) only [true_and, and_true, forall_eq, true_implies, false_implies, implies_true, not_true_eq_false, not_false_eq_true, false_and, and_false, ne_eq, ite_true, ite_false, Nat.reduceLeDiff, Nat.reduceEqDiff, Nat.reduceLT, Nat.reduceAdd, Nat.reduceMul, Nat.reduceSub, Nat.le_refl, eq_self, li_0, li_1, li_2, li_3, li_4, li_5, li_6, li_7, li_8, li_9, li_10, li_11, li_12, li_13, li_14, li_15, li_16, li_17, li_18, li_19, li_20, li_21, li_22, li_23, li_24, li_25, li_26, li_27, li_28, li_29, li_30, li_31, li_32, li_44, li_48, li_57, li_59, li_60, li_61, li_62, li_63, li_97, li_100, li_122, li_123, li_125, li_127, li_255, li_400, li_401, li_800, li_1023, li_1024, li_10827, i_add, i_mul, i_sub, i_p1, i_m1, i_nm, i_nm2, i_cl, i_cl0, vi_ok, i_lt, i_le, i_eq, lg_e])
      refine hi ?_
      rw [hde]
      exact h0
    rw [if_neg z2] at hde
    refine ⟨fun z3 => ?_, fun z3 => ?_⟩
    · rw [if_pos z3] at hde
      have w4 := w4 z3
      have hv := hs.2.2.2.2.2 (D 16 (4 * k + d)) (by omega)
      have hV := hD.2.2.1 _ w4.1
      rw [o2 (by omega) (by omega), o3 (Or.inr z3)]
      refine k_X3_valueOf (by omega) (by omega) ?_
      rw [en_val hs (by omega), i_add]
      refine k_X0_sumIn hr hx hD hA w4.1 (by omega) ?_
      have hm := Nat.mod_lt (S.2.2.2.2 (D 16 (4 * k + d)) + D 17 (4 * k + d)) (show D 4 (D 16 (4 * k + d)) + 1 > 0 by omega)
      refine k_X3_withValue he (by omega) (by omega) ?_
      rw [en_set hs (by omega), ← hde]
      (try simp (disch := first | assumption | omega) only [true_and, and_true, forall_eq, true_implies, false_implies, implies_true, not_true_eq_false, not_false_eq_true, false_and, and_false, ne_eq, ite_true, ite_false, Nat.reduceLeDiff, Nat.reduceEqDiff, Nat.reduceLT, Nat.reduceAdd, Nat.reduceMul, Nat.reduceSub, Nat.le_refl, eq_self, li_0, li_1, li_2, li_3, li_4, li_5, li_6, li_7, li_8, li_9, li_10, li_11, li_12, li_13, li_14, li_15, li_16, li_17, li_18, li_19, li_20, li_21, li_22, li_23, li_24, li_25, li_26, li_27, li_28, li_29, li_30, li_31, li_32, li_44, li_48, li_57, li_59, li_60, li_61, li_62, li_63, li_97, li_100, li_122, li_123, li_125, li_127, li_255, li_400, li_401, li_800, li_1023, li_1024, li_10827, i_add, i_mul, i_sub, i_p1, i_m1, i_nm, i_nm2, i_cl, i_cl0, vi_ok, i_lt, i_le, i_eq, lg_e])
      refine hi ?_
      rw [hde]
      exact h0
    rw [if_neg z3] at hde
    have w5 := w5 (by omega)
    rw [o4 (by omega), hA.1.2.2.2.2.2.2, l_and]
    refine k_X3_faulted (by omega) ?_
    rw [en_fault hs, ← hde]
    have e : ∀ m, doD D (deed1 D S (4 * k + d)) (4 * k + d + 1) m = deed1 D S (4 * k + d) := by
      intro m
      cases m with
      | zero => rfl
      | succ m =>
        show (if (deed1 D S (4 * k + d)).2.1 = 0 then deed1 D S (4 * k + d) else _) = _
        rw [if_pos (by rw [hde]; rfl)]
    rw [e] at hqS
    exact hqS
theorem k_X0_afterDeeds {l : Launch} {g : AG} {h : AH} {x k : Nat} {S : AS} {D : AD} {Q : Int64 → AH → Prop} (hr : Refs h) (hx : isA x) (hD : WfD D) (hk : isL D k) (hA : RepA h x D) (hs : WS (D 0 0) S) (h0 : 0 < S.2.1) (hq : Q (Int64.ofNat (en (doD D S (4 * k) (D 14 k)))) h) : C_X0_afterDeeds l g h x (Int64.ofNat (en S)) (Int32.ofNat k) Q := by
  have hk32 : k < 32 := by
    have := hD.1.2.2.1
    have := hD.1.2.1
    rcases hk with q | ⟨w, q1, q2, q3⟩ <;> omega
  refine c_X0_afterDeeds (s_X0_afterDeeds_0 ?_)
  (try simp (disch := first | assumption | omega) only [true_and, and_true, forall_eq, true_implies, false_implies, implies_true, not_true_eq_false, not_false_eq_true, false_and, and_false, ne_eq, ite_true, ite_false, Nat.reduceLeDiff, Nat.reduceEqDiff, Nat.reduceLT, Nat.reduceAdd, Nat.reduceMul, Nat.reduceSub, Nat.le_refl, eq_self, li_0, li_1, li_2, li_3, li_4, li_5, li_6, li_7, li_8, li_9, li_10, li_11, li_12, li_13, li_14, li_15, li_16, li_17, li_18, li_19, li_20, li_21, li_22, li_23, li_24, li_25, li_26, li_27, li_28, li_29, li_30, li_31, li_32, li_44, li_48, li_57, li_59, li_60, li_61, li_62, li_63, li_97, li_100, li_122, li_123, li_125, li_127, li_255, li_400, li_401, li_800, li_1023, li_1024, li_10827, i_add, i_mul, i_sub, i_p1, i_m1, i_nm, i_nm2, i_cl, i_cl0, vi_ok, i_lt, i_le, i_eq, lg_e, show ¬ k < 0 by omega, show k < 32 by omega])
  rw [Nat.mul_comm k 4]
  exact k_X0_afterDeeds_loop hr hx hD hk hA (D 14 k) 0 S (by omega) hs h0 hq
theorem k_X0_after {l : Launch} {g : AG} {h : AH} {x a : Nat} {S : AS} {D : AD} {Q : Int64 → AH → Prop} (hr : Refs h) (hx : isA x) (hD : WfD D) (hA : RepA h x D) (hs : WS (D 0 0) S) (ha : a < 27) (hp : possD D S a) (hq : Q (Int64.ofNat (en (stepD D S a))) h) : C_X0_after l g h x (Int64.ofNat (en S)) (Int32.ofNat a) Q := by
  have hB24 := hD.1.2.2.1
  have h8 := hD.1.2.1
  have h5 := hs.2.1
  have he := en_lt hs
  refine c_X0_after (s_X0_after_0 ?_)
  unfold stepD at hq
  by_cases c0 : a < 24
  · rw [if_pos c0] at hq
    have hab : a < D 0 1 ∧ 0 < S.2.1 := by
      rcases hp with z | ⟨z0, z | z | z⟩
      · omega
      · omega
      · omega
      · exact ⟨z.1, z0⟩
    (try simp (disch := first | assumption | omega) only [true_and, and_true, forall_eq, true_implies, false_implies, implies_true, not_true_eq_false, not_false_eq_true, false_and, and_false, ne_eq, ite_true, ite_false, Nat.reduceLeDiff, Nat.reduceEqDiff, Nat.reduceLT, Nat.reduceAdd, Nat.reduceMul, Nat.reduceSub, Nat.le_refl, eq_self, li_0, li_1, li_2, li_3, li_4, li_5, li_6, li_7, li_8, li_9, li_10, li_11, li_12, li_13, li_14, li_15, li_16, li_17, li_18, li_19, li_20, li_21, li_22, li_23, li_24, li_25, li_26, li_27, li_28, li_29, li_30, li_31, li_32, li_44, li_48, li_57, li_59, li_60, li_61, li_62, li_63, li_97, li_100, li_122, li_123, li_125, li_127, li_255, li_400, li_401, li_800, li_1023, li_1024, li_10827, i_add, i_mul, i_sub, i_p1, i_m1, i_nm, i_nm2, i_cl, i_cl0, vi_ok, i_lt, i_le, i_eq, lg_e, show ¬ a = 26 by omega, show ¬ a = 25 by omega, show ¬ a = 24 by omega, isA_x])
    exact k_X0_afterDeeds hr hx hD (Or.inl hab.1) hA hs hab.2 hq
  rw [if_neg c0] at hq
  by_cases c1 : a = 24
  · rw [if_pos c1] at hq
    subst c1
    have h0 : 0 < S.2.1 := by
      rcases hp with z | z
      · omega
      · exact z.1
    obtain ⟨n, hn⟩ : ∃ n, S.2.1 = n + 1 := ⟨S.2.1 - 1, by omega⟩
    rw [hn, Nat.add_sub_cancel] at hq
    have hw := hs.2.2.2.2.1 n (by omega)
    have hWw := hD.2.1 _ hw.1
    have hAw := hA.2.1 _ hw.1
    have ht := en_top hs hn
    (try simp (disch := first | assumption | omega) only [true_and, and_true, forall_eq, true_implies, false_implies, implies_true, not_true_eq_false, not_false_eq_true, false_and, and_false, ne_eq, ite_true, ite_false, Nat.reduceLeDiff, Nat.reduceEqDiff, Nat.reduceLT, Nat.reduceAdd, Nat.reduceMul, Nat.reduceSub, Nat.le_refl, eq_self, li_0, li_1, li_2, li_3, li_4, li_5, li_6, li_7, li_8, li_9, li_10, li_11, li_12, li_13, li_14, li_15, li_16, li_17, li_18, li_19, li_20, li_21, li_22, li_23, li_24, li_25, li_26, li_27, li_28, li_29, li_30, li_31, li_32, li_44, li_48, li_57, li_59, li_60, li_61, li_62, li_63, li_97, li_100, li_122, li_123, li_125, li_127, li_255, li_400, li_401, li_800, li_1023, li_1024, li_10827, i_add, i_mul, i_sub, i_p1, i_m1, i_nm, i_nm2, i_cl, i_cl0, vi_ok, i_lt, i_le, i_eq, lg_e, show ¬ 24 = 26 by omega, show ¬ 24 = 25 by omega])
    refine k_X3_topOf (by omega) ?_
    rw [en_open hs, if_neg (by omega), ht.1]
    (try simp (disch := first | assumption | omega) only [true_and, and_true, forall_eq, true_implies, false_implies, implies_true, not_true_eq_false, not_false_eq_true, false_and, and_false, ne_eq, ite_true, ite_false, Nat.reduceLeDiff, Nat.reduceEqDiff, Nat.reduceLT, Nat.reduceAdd, Nat.reduceMul, Nat.reduceSub, Nat.le_refl, eq_self, li_0, li_1, li_2, li_3, li_4, li_5, li_6, li_7, li_8, li_9, li_10, li_11, li_12, li_13, li_14, li_15, li_16, li_17, li_18, li_19, li_20, li_21, li_22, li_23, li_24, li_25, li_26, li_27, li_28, li_29, li_30, li_31, li_32, li_44, li_48, li_57, li_59, li_60, li_61, li_62, li_63, li_97, li_100, li_122, li_123, li_125, li_127, li_255, li_400, li_401, li_800, li_1023, li_1024, li_10827, i_add, i_mul, i_sub, i_p1, i_m1, i_nm, i_nm2, i_cl, i_cl0, vi_ok, i_lt, i_le, i_eq, lg_e, isA_x, rfA_7, rfA_8, rfA_9, rfA_10, rfA_11, rfA_12, rfA_13, rfA_14, rfA_15, rfA_16, rfA_17, rfA_18, rfC_0, rfD_0, rfC_1, rfD_1, rfC_2, rfD_2, rfC_3, rfD_3, isA_1, szA_1, isA_2, szA_2, isA_3, szA_3, isA_4, szA_4, isA_5, szA_5, isA_6, szA_6, isA_7, szA_7, isA_8, szA_8, isA_9, szA_9, isA_10, szA_10, isA_11, szA_11, isA_12, szA_12, isA_13, szA_13, isA_14, szA_14, isA_15, szA_15, isA_16, szA_16, isA_17, szA_17, isA_18, szA_18, isA_19, szA_19, isA_20, szA_20, hAw.2.2.2.1])
    refine ⟨fun z => ?_, fun z => ?_⟩
    · rw [if_neg z] at hq
      refine k_X3_ticksOf (by omega) ?_
      rw [en_open hs, if_neg (by omega), ht.2]
      (try simp (disch := first | assumption | omega) only [true_and, and_true, forall_eq, true_implies, false_implies, implies_true, not_true_eq_false, not_false_eq_true, false_and, and_false, ne_eq, ite_true, ite_false, Nat.reduceLeDiff, Nat.reduceEqDiff, Nat.reduceLT, Nat.reduceAdd, Nat.reduceMul, Nat.reduceSub, Nat.le_refl, eq_self, li_0, li_1, li_2, li_3, li_4, li_5, li_6, li_7, li_8, li_9, li_10, li_11, li_12, li_13, li_14, li_15, li_16, li_17, li_18, li_19, li_20, li_21, li_22, li_23, li_24, li_25, li_26, li_27, li_28, li_29, li_30, li_31, li_32, li_44, li_48, li_57, li_59, li_60, li_61, li_62, li_63, li_97, li_100, li_122, li_123, li_125, li_127, li_255, li_400, li_401, li_800, li_1023, li_1024, li_10827, i_add, i_mul, i_sub, i_p1, i_m1, i_nm, i_nm2, i_cl, i_cl0, vi_ok, i_lt, i_le, i_eq, lg_e, isA_x, rfA_7, rfA_8, rfA_9, rfA_10, rfA_11, rfA_12, rfA_13, rfA_14, rfA_15, rfA_16, rfA_17, rfA_18, rfC_0, rfD_0, rfC_1, rfD_1, rfC_2, rfD_2, rfC_3, rfD_3, isA_1, szA_1, isA_2, szA_2, isA_3, szA_3, isA_4, szA_4, isA_5, szA_5, isA_6, szA_6, isA_7, szA_7, isA_8, szA_8, isA_9, szA_9, isA_10, szA_10, isA_11, szA_11, isA_12, szA_12, isA_13, szA_13, isA_14, szA_14, isA_15, szA_15, isA_16, szA_16, isA_17, szA_17, isA_18, szA_18, isA_19, szA_19, isA_20, szA_20, hAw.2.2.2.1])
      refine ⟨fun z1 => ?_, fun z1 => ?_⟩
      · rw [if_neg (by omega)] at hq
        refine k_X3_withTicks (x := 0) he (by omega) ?_
        rw [en_tick hs h0]
        refine c_X5_ofTimer (s_X5_ofTimer_0 ?_)
        (try simp (disch := first | assumption | omega) only [true_and, and_true, forall_eq, true_implies, false_implies, implies_true, not_true_eq_false, not_false_eq_true, false_and, and_false, ne_eq, ite_true, ite_false, Nat.reduceLeDiff, Nat.reduceEqDiff, Nat.reduceLT, Nat.reduceAdd, Nat.reduceMul, Nat.reduceSub, Nat.le_refl, eq_self, li_0, li_1, li_2, li_3, li_4, li_5, li_6, li_7, li_8, li_9, li_10, li_11, li_12, li_13, li_14, li_15, li_16, li_17, li_18, li_19, li_20, li_21, li_22, li_23, li_24, li_25, li_26, li_27, li_28, li_29, li_30, li_31, li_32, li_44, li_48, li_57, li_59, li_60, li_61, li_62, li_63, li_97, li_100, li_122, li_123, li_125, li_127, li_255, li_400, li_401, li_800, li_1023, li_1024, li_10827, i_add, i_mul, i_sub, i_p1, i_m1, i_nm, i_nm2, i_cl, i_cl0, vi_ok, i_lt, i_le, i_eq, lg_e])
        exact k_X0_afterDeeds hr hx hD (Or.inr ⟨_, hw.1, rfl, by omega⟩) hA (hs.tick (by omega)) h0 hq
      · rw [if_pos (by omega)] at hq
        refine k_X3_withTicks he (by omega) ?_
        rw [en_tick hs h0]
        exact hq
    · rw [if_pos z] at hq
      exact hq
  rw [if_neg c1] at hq
  by_cases c2 : a = 25
  · rw [if_pos c2] at hq
    (try simp (disch := first | assumption | omega) only [true_and, and_true, forall_eq, true_implies, false_implies, implies_true, not_true_eq_false, not_false_eq_true, false_and, and_false, ne_eq, ite_true, ite_false, Nat.reduceLeDiff, Nat.reduceEqDiff, Nat.reduceLT, Nat.reduceAdd, Nat.reduceMul, Nat.reduceSub, Nat.le_refl, eq_self, li_0, li_1, li_2, li_3, li_4, li_5, li_6, li_7, li_8, li_9, li_10, li_11, li_12, li_13, li_14, li_15, li_16, li_17, li_18, li_19, li_20, li_21, li_22, li_23, li_24, li_25, li_26, li_27, li_28, li_29, li_30, li_31, li_32, li_44, li_48, li_57, li_59, li_60, li_61, li_62, li_63, li_97, li_100, li_122, li_123, li_125, li_127, li_255, li_400, li_401, li_800, li_1023, li_1024, li_10827, i_add, i_mul, i_sub, i_p1, i_m1, i_nm, i_nm2, i_cl, i_cl0, vi_ok, i_lt, i_le, i_eq, lg_e, show ¬ a = 26 by omega, c2])
    refine k_X3_closed he ?_
    rw [en_close hs]
    exact hq
  · rw [if_neg c2] at hq
    have e26 : a = 26 := by omega
    subst e26
    (try simp (disch := first | assumption | omega) only [true_and, and_true, forall_eq, true_implies, false_implies, implies_true, not_true_eq_false, not_false_eq_true, false_and, and_false, ne_eq, ite_true, ite_false, Nat.reduceLeDiff, Nat.reduceEqDiff, Nat.reduceLT, Nat.reduceAdd, Nat.reduceMul, Nat.reduceSub, Nat.le_refl, eq_self, li_0, li_1, li_2, li_3, li_4, li_5, li_6, li_7, li_8, li_9, li_10, li_11, li_12, li_13, li_14, li_15, li_16, li_17, li_18, li_19, li_20, li_21, li_22, li_23, li_24, li_25, li_26, li_27, li_28, li_29, li_30, li_31, li_32, li_44, li_48, li_57, li_59, li_60, li_61, li_62, li_63, li_97, li_100, li_122, li_123, li_125, li_127, li_255, li_400, li_401, li_800, li_1023, li_1024, li_10827, i_add, i_mul, i_sub, i_p1, i_m1, i_nm, i_nm2, i_cl, i_cl0, vi_ok, i_lt, i_le, i_eq, lg_e, isA_x, hA.1.2.2.2.2.2.2, l_and])
    refine k_X3_alone (w := 0) (by omega) ?_
    rw [en_torn hs]
    exact hq
theorem k_X0_beginning {l : Launch} {g : AG} {h : AH} {x : Nat} {Q : Int64 → AH → Prop} (hq : Q (Int64.ofNat (en st0)) h) : C_X0_beginning l g h x Q := by
  refine c_X0_beginning (s_X0_beginning_0 ?_)
  refine k_X3_alone (w := 0) (v := 0) (by omega) ?_
  rw [en_st0]
  exact hq
theorem fault_le {nw : Nat} {S : AS} (hs : WS nw S) : S.1 ≤ 20 := by
  by_cases c : S.2.1 = 0
  · exact (hs.2.2.1 c).2
  · have := hs.2.2.2.1 (by omega); omega
theorem fault_iff {nw : Nat} {S : AS} (hs : WS nw S) : (S.2.1 = 0 ↔ 0 < S.1) := by
  refine ⟨fun c => by have := (hs.2.2.1 c).1; omega, fun c => ?_⟩
  rcases Nat.eq_zero_or_pos S.2.1 with q | q
  · exact q
  · have := hs.2.2.2.1 q; omega
theorem en_fo {nw : Nat} {S : AS} (hs : WS nw S) : (if en S / 16777216 % 8 = 0 then Int32.ofNat (en S / 134217728) else 0) = Int32.ofNat S.1 := by
  rw [en_open hs, en_code hs]
  by_cases c : S.2.1 = 0
  · rw [if_pos c]
    unfold sk
    rw [if_pos c]
  · rw [if_neg c, hs.2.2.2.1 (by omega)]
    rfl
theorem q_X3_faultOf {l : Launch} {g : AG} {h : AH} {nw : Nat} {S : AS} {Q : Int32 → AH → Prop} (hs : WS nw S) (hq : Q (Int32.ofNat S.1) h) : C_X3_faultOf l g h (Int64.ofNat (en S)) Q := by
  have he := en_lt hs
  refine k_X3_faultOf (by omega) ?_
  rw [en_fo hs]
  exact hq
theorem q_X3_openOf {l : Launch} {g : AG} {h : AH} {nw : Nat} {S : AS} {Q : Int32 → AH → Prop} (hs : WS nw S) (hq : Q (Int32.ofNat S.2.1) h) : C_X3_openOf l g h (Int64.ofNat (en S)) Q := by
  have he := en_lt hs
  refine k_X3_openOf (by omega) ?_
  rw [en_open hs]
  exact hq
/-- the topmost WINDOW, its TICKS as numbers; -1 without one -/
def topI (S : AS) : Int32 := if S.2.1 = 0 then -1 else Int32.ofNat (S.2.2.1 (S.2.1 - 1))
def tickI (S : AS) : Int32 := if S.2.1 = 0 then -1 else Int32.ofNat (S.2.2.2.1 (S.2.1 - 1))
theorem q_X3_topOf {l : Launch} {g : AG} {h : AH} {nw : Nat} {S : AS} {Q : Int32 → AH → Prop} (hs : WS nw S) (hq : Q (topI S) h) : C_X3_topOf l g h (Int64.ofNat (en S)) Q := by
  have he := en_lt hs
  refine k_X3_topOf (by omega) ?_
  rw [en_open hs]
  unfold topI at hq
  by_cases c : S.2.1 = 0
  · rw [if_pos c] at hq ⊢
    exact hq
  · rw [if_neg c] at hq ⊢
    rw [(en_top (n := S.2.1 - 1) hs (by omega)).1]
    exact hq
theorem q_X3_ticksOf {l : Launch} {g : AG} {h : AH} {nw : Nat} {S : AS} {Q : Int32 → AH → Prop} (hs : WS nw S) (hq : Q (tickI S) h) : C_X3_ticksOf l g h (Int64.ofNat (en S)) Q := by
  have he := en_lt hs
  refine k_X3_ticksOf (by omega) ?_
  rw [en_open hs]
  unfold tickI at hq
  by_cases c : S.2.1 = 0
  · rw [if_pos c] at hq ⊢
    exact hq
  · rw [if_neg c] at hq ⊢
    rw [(en_top (n := S.2.1 - 1) hs (by omega)).2]
    exact hq
/-- an ACT of a row: left out where it isn't possible, and behind a FAULT -/
noncomputable def tryD (D : AD) (S : AS) (a : Nat) : AS := @ite AS (0 < S.2.1 ∧ possD D S a) (Classical.propDecidable _) (stepD D S a) S
theorem tryD_t {D : AD} {S : AS} {a : Nat} (h : 0 < S.2.1 ∧ possD D S a) : tryD D S a = stepD D S a := by unfold tryD; exact if_pos h
theorem tryD_f {D : AD} {S : AS} {a : Nat} (h : ¬ (0 < S.2.1 ∧ possD D S a)) : tryD D S a = S := by unfold tryD; exact if_neg h
theorem ws_tryD {D : AD} {S : AS} {a : Nat} (hD : WfD D) (hs : WS (D 0 0) S) : WS (D 0 0) (tryD D S a) := by
  by_cases c : 0 < S.2.1 ∧ possD D S a
  · rw [tryD_t c]; exact ws_stepD hD hs c.2
  · rw [tryD_f c]; exact hs
theorem poss_lt {D : AD} {S : AS} {a : Nat} (hD : WfD D) (hp : possD D S a) : a < 27 := by
  have := hD.1.2.2.1
  rcases hp with z | ⟨z0, z | z | z⟩
  · omega
  · omega
  · omega
  · have := z.1; omega
theorem k_X0_tryAct {l : Launch} {g : AG} {h : AH} {x a : Nat} {S : AS} {D : AD} {Q : Int64 → AH → Prop} (hr : Refs h) (hx : isA x) (hD : WfD D) (hA : RepA h x D) (hs : WS (D 0 0) S) (ha : a < 2147483648) (hq : Q (Int64.ofNat (en (tryD D S a))) h) : C_X0_tryAct l g h x (Int64.ofNat (en S)) (Int32.ofNat a) Q := by
  have hf := fault_le hs
  have hfi := fault_iff hs
  refine c_X0_tryAct (s_X0_tryAct_0 (q_X3_faultOf hs ?_))
  (try simp (disch := first | assumption | omega) only [true_and, and_true, forall_eq, true_implies, false_implies, implies_true, not_true_eq_false, not_false_eq_true, false_and, and_false, ne_eq, ite_true, ite_false, Nat.reduceLeDiff, Nat.reduceEqDiff, Nat.reduceLT, Nat.reduceAdd, Nat.reduceMul, Nat.reduceSub, Nat.le_refl, eq_self, li_0, li_1, li_2, li_3, li_4, li_5, li_6, li_7, li_8, li_9, li_10, li_11, li_12, li_13, li_14, li_15, li_16, li_17, li_18, li_19, li_20, li_21, li_22, li_23, li_24, li_25, li_26, li_27, li_28, li_29, li_30, li_31, li_32, li_44, li_48, li_57, li_59, li_60, li_61, li_62, li_63, li_97, li_100, li_122, li_123, li_125, li_127, li_255, li_400, li_401, li_800, li_1023, li_1024, li_10827, i_add, i_mul, i_sub, i_p1, i_m1, i_nm, i_nm2, i_cl, i_cl0, vi_ok, i_lt, i_le, i_eq, lg_e])
  refine ⟨fun c => ?_, fun c => ⟨isA_x hx, k_X0_possible hr hx hs hD.1 hD.2.1 hA.2.1 hA.2.2.2.2.1 ha (fun p => ?_) (fun p => ?_)⟩⟩
  · rw [tryD_f (fun q => by omega)] at hq
    exact hq
  · refine ⟨fun _ => ?_, fun z => absurd z (by decide)⟩
    rw [tryD_t ⟨by omega, p⟩] at hq
    exact k_X0_after hr hx hD hA hs (poss_lt hD p) p hq
  · refine ⟨fun z => absurd rfl z, fun _ => ?_⟩
    rw [tryD_f (fun q => p q.2)] at hq
    exact hq
theorem k_X0_possibleMany_loop {l : Launch} {g : AG} {h : AH} {x : Nat} {S : AS} {D : AD} {Q : Int32 → AH → Prop} (hr : Refs h) (hx : isA x) (hD : WfD D) (hA : RepA h x D) (hs : WS (D 0 0) S) (hq : Q (Int32.ofNat (pops (possD D S) 27)) h) : ∀ d a : Nat, a + d = 27 → L_X0_possibleMany_5 l g h x (Int64.ofNat (en S)) (Int32.ofNat (pops (possD D S) a)) (Int32.ofNat a) Q := by
  intro d
  induction d with
  | zero =>
    intro a hd
    refine s_X0_possibleMany_5 ?_
    (try simp (disch := first | assumption | omega) only [true_and, and_true, forall_eq, true_implies, false_implies, implies_true, not_true_eq_false, not_false_eq_true, false_and, and_false, ne_eq, ite_true, ite_false, Nat.reduceLeDiff, Nat.reduceEqDiff, Nat.reduceLT, Nat.reduceAdd, Nat.reduceMul, Nat.reduceSub, Nat.le_refl, eq_self, li_0, li_1, li_2, li_3, li_4, li_5, li_6, li_7, li_8, li_9, li_10, li_11, li_12, li_13, li_14, li_15, li_16, li_17, li_18, li_19, li_20, li_21, li_22, li_23, li_24, li_25, li_26, li_27, li_28, li_29, li_30, li_31, li_32, li_44, li_48, li_57, li_59, li_60, li_61, li_62, li_63, li_97, li_100, li_122, li_123, li_125, li_127, li_255, li_400, li_401, li_800, li_1023, li_1024, li_10827, i_add, i_mul, i_sub, i_p1, i_m1, i_nm, i_nm2, i_cl, i_cl0, vi_ok, i_lt, i_le, i_eq, lg_e, show 27 ≤ a by omega])
    rw [show a = 27 by omega]
    exact hq
  | succ d ih =>
    intro a hd
    have hi := ih (a + 1) (by omega)
    have e : pops (possD D S) (a + 1) = pops (possD D S) a + bI (possD D S a) := rfl
    rw [e] at hi
    refine s_X0_possibleMany_5 ?_
    (try simp (disch := first | assumption | omega) only [true_and, and_true, forall_eq, true_implies, false_implies, implies_true, not_true_eq_false, not_false_eq_true, false_and, and_false, ne_eq, ite_true, ite_false, Nat.reduceLeDiff, Nat.reduceEqDiff, Nat.reduceLT, Nat.reduceAdd, Nat.reduceMul, Nat.reduceSub, Nat.le_refl, eq_self, li_0, li_1, li_2, li_3, li_4, li_5, li_6, li_7, li_8, li_9, li_10, li_11, li_12, li_13, li_14, li_15, li_16, li_17, li_18, li_19, li_20, li_21, li_22, li_23, li_24, li_25, li_26, li_27, li_28, li_29, li_30, li_31, li_32, li_44, li_48, li_57, li_59, li_60, li_61, li_62, li_63, li_97, li_100, li_122, li_123, li_125, li_127, li_255, li_400, li_401, li_800, li_1023, li_1024, li_10827, i_add, i_mul, i_sub, i_p1, i_m1, i_nm, i_nm2, i_cl, i_cl0, vi_ok, i_lt, i_le, i_eq, lg_e, show ¬ 27 ≤ a by omega])
    refine ⟨isA_x hx, k_X0_possible hr hx hs hD.1 hD.2.1 hA.2.1 hA.2.2.2.2.1 (by omega) (fun p => ?_) (fun p => ?_)⟩
    · rw [bI_t p] at hi
      exact ⟨fun z => absurd z (by decide), fun _ => hi⟩
    · rw [bI_f p] at hi
      exact ⟨fun _ => hi, fun z => absurd rfl z⟩
theorem k_X0_possibleMany {l : Launch} {g : AG} {h : AH} {x : Nat} {S : AS} {D : AD} {Q : Int32 → AH → Prop} (hr : Refs h) (hx : isA x) (hD : WfD D) (hA : RepA h x D) (hs : WS (D 0 0) S) (hq : Q (Int32.ofNat (pops (possD D S) 27)) h) : C_X0_possibleMany l g h x (Int64.ofNat (en S)) Q :=
  c_X0_possibleMany (s_X0_possibleMany_0 (k_X0_possibleMany_loop hr hx hD hA hs hq 27 0 rfl))
