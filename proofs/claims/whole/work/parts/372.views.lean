theorem l_negof {a : Nat} (ha : a < 100) : (-(Int32.ofNat a)).toInt64 = -(Int64.ofNat a) := by
  rw [← Int64.toInt_inj, Int32.toInt_toInt64, Int32.toInt_neg, Int64.toInt_neg, Int32.toInt_ofNat_of_lt (by omega), Int64.toInt_ofNat_of_lt (by omega), Int.bmod_eq_of_le (by omega) (by omega), Int.bmod_eq_of_le (by omega) (by omega)]
theorem k_X0_shownIn {l : Launch} {g : AG} {h : AH} {x w k : Nat} {S : AS} {D : AD} {Q : Int32 → AH → Prop} (hr : Refs h) (hx : isA x) (hD : WfD D) (hA : RepA h x D) (hs : WS (D 0 0) S) (hw : w < D 0 0) (hk : k < D 6 w) (hq : Q (Int32.ofNat (S.2.2.2.2 (D 7 (6 * w + k)))) h) : C_X0_shownIn l g h x (Int64.ofNat (en S)) (Int32.ofNat w) (Int32.ofNat k) Q := by
  have h8 := hD.1.2.1
  have h6 := hD.1.2.2.2
  have q := hD.2.1 w hw
  have he := en_lt hs
  have v := (hA.2.1 w hw).2.2.1 k hk
  have v7 := q.2.1 k hk
  refine c_X0_shownIn (s_X0_shownIn_0 ?_)
  simp (disch := first | assumption | omega) only [true_and, and_true, forall_eq, true_implies, false_implies, implies_true, not_true_eq_false, not_false_eq_true, false_and, and_false, ne_eq, ite_true, ite_false, Nat.reduceLeDiff, Nat.reduceEqDiff, Nat.reduceLT, Nat.reduceAdd, Nat.reduceMul, Nat.reduceSub, Nat.le_refl, eq_self, li_0, li_1, li_2, li_3, li_4, li_5, li_6, li_7, li_8, li_9, li_10, li_11, li_12, li_13, li_14, li_15, li_16, li_17, li_18, li_19, li_20, li_21, li_22, li_23, li_24, li_25, li_26, li_27, li_28, li_29, li_30, li_31, li_32, li_44, li_48, li_57, li_59, li_60, li_61, li_62, li_63, li_97, li_100, li_122, li_123, li_125, li_127, li_255, li_400, li_401, li_800, li_1023, li_1024, li_10827, i_add, i_mul, i_sub, i_p1, i_m1, i_nm, i_nm2, i_cl, i_cl0, vi_ok, i_lt, i_le, i_eq, lg_e, isA_x, rfA_7, rfA_8, rfA_9, rfA_10, rfA_11, rfA_12, rfA_13, rfA_14, rfA_15, rfA_16, rfA_17, rfA_18, rfC_0, rfD_0, rfC_1, rfD_1, rfC_2, rfD_2, rfC_3, rfD_3, isA_1, szA_1, isA_2, szA_2, isA_3, szA_3, isA_4, szA_4, isA_5, szA_5, isA_6, szA_6, isA_7, szA_7, isA_8, szA_8, isA_9, szA_9, isA_10, szA_10, isA_11, szA_11, isA_12, szA_12, isA_13, szA_13, isA_14, szA_14, isA_15, szA_15, isA_16, szA_16, isA_17, szA_17, isA_18, szA_18, isA_19, szA_19, isA_20, szA_20, Nat.mul_comm w 6, v]
  refine k_X3_valueOf (by omega) (by omega) ?_
  rw [en_val hs (by omega)]
  exact hq
theorem l_or1 (a : Nat) {b : Nat} (hb : b ≤ 1) : jlshl (Int64.ofNat a) (Int32.ofNat 1) ||| (Int32.ofNat b).toInt64 = Int64.ofNat (a * 2 + b) := by
  rw [l_shl _ (by decide), l_of (by omega), l_or, n_or (k := 1) (by omega)]
theorem k_X0_viewOf {l : Launch} {g : AG} {h : AH} {x : Nat} {S : AS} {D : AD} {Q : Int64 → AH → Prop} (hr : Refs h) (hx : isA x) (hD : WfD D) (hA : RepA h x D) (hs : WS (D 0 0) S) (hq : Q (viewC D S) h) : C_X0_viewOf l g h x (Int64.ofNat (en S)) Q := by
  have hf := fault_le hs
  refine c_X0_viewOf (s_X0_viewOf_0 (q_X3_topOf hs ?_))
  unfold viewC at hq
  unfold topI
  by_cases c : S.2.1 = 0
  · rw [if_pos c] at hq ⊢
    refine ⟨fun z => absurd rfl z, fun _ => q_X3_faultOf hs ?_⟩
    rw [l_negof (by omega)]
    exact hq
  · rw [if_neg c] at hq ⊢
    have hw := (hs.2.2.2.2.1 (S.2.1 - 1) (by omega)).1
    have h8 := hD.1.2.1
    have h24 := hD.1.2.2.1
    revert hq hw
    generalize S.2.2.1 (S.2.1 - 1) = w
    intro hq hw
    have q := hD.2.1 w hw
    have v := hA.2.1 w hw
    refine ⟨fun _ => ?_, fun z => absurd z (i_ne (by omega))⟩
    have bits : ∀ d j, j + d = D 19 w - D 18 w → L_X0_viewOf_64 l g h x (Int64.ofNat (en S)) (Int32.ofNat w) (Int64.ofNat (vbt D S.2.2.2.2 w (vsh D S.2.2.2.2 w (D 6 w)) j)) (Int32.ofNat (D 18 w + j)) Q := by
      intro d
      induction d with
      | zero =>
        intro j hj
        refine s_X0_viewOf_64 ?_
        simp (disch := first | assumption | omega) only [true_and, and_true, forall_eq, true_implies, false_implies, implies_true, not_true_eq_false, not_false_eq_true, false_and, and_false, ne_eq, ite_true, ite_false, Nat.reduceLeDiff, Nat.reduceEqDiff, Nat.reduceLT, Nat.reduceAdd, Nat.reduceMul, Nat.reduceSub, Nat.le_refl, eq_self, li_0, li_1, li_2, li_3, li_4, li_5, li_6, li_7, li_8, li_9, li_10, li_11, li_12, li_13, li_14, li_15, li_16, li_17, li_18, li_19, li_20, li_21, li_22, li_23, li_24, li_25, li_26, li_27, li_28, li_29, li_30, li_31, li_32, li_44, li_48, li_57, li_59, li_60, li_61, li_62, li_63, li_97, li_100, li_122, li_123, li_125, li_127, li_255, li_400, li_401, li_800, li_1023, li_1024, li_10827, i_add, i_mul, i_sub, i_p1, i_m1, i_nm, i_nm2, i_cl, i_cl0, vi_ok, i_lt, i_le, i_eq, lg_e, isA_x, rfA_7, rfA_8, rfA_9, rfA_10, rfA_11, rfA_12, rfA_13, rfA_14, rfA_15, rfA_16, rfA_17, rfA_18, rfC_0, rfD_0, rfC_1, rfD_1, rfC_2, rfD_2, rfC_3, rfD_3, isA_1, szA_1, isA_2, szA_2, isA_3, szA_3, isA_4, szA_4, isA_5, szA_5, isA_6, szA_6, isA_7, szA_7, isA_8, szA_8, isA_9, szA_9, isA_10, szA_10, isA_11, szA_11, isA_12, szA_12, isA_13, szA_13, isA_14, szA_14, isA_15, szA_15, isA_16, szA_16, isA_17, szA_17, isA_18, szA_18, isA_19, szA_19, isA_20, szA_20, v.2.2.2.2.2, show D 19 w ≤ D 18 w + j by omega]
        rw [l_shl _ (by decide), l_of (by omega), l_or, n_or (k := 3) (by omega), show j = D 19 w - D 18 w by omega]
        exact hq
      | succ d ih =>
        intro j hj
        have ih := ih (j + 1) (by omega)
        refine s_X0_viewOf_64 ?_
        simp (disch := first | assumption | omega) only [true_and, and_true, forall_eq, true_implies, false_implies, implies_true, not_true_eq_false, not_false_eq_true, false_and, and_false, ne_eq, ite_true, ite_false, Nat.reduceLeDiff, Nat.reduceEqDiff, Nat.reduceLT, Nat.reduceAdd, Nat.reduceMul, Nat.reduceSub, Nat.le_refl, eq_self, li_0, li_1, li_2, li_3, li_4, li_5, li_6, li_7, li_8, li_9, li_10, li_11, li_12, li_13, li_14, li_15, li_16, li_17, li_18, li_19, li_20, li_21, li_22, li_23, li_24, li_25, li_26, li_27, li_28, li_29, li_30, li_31, li_32, li_44, li_48, li_57, li_59, li_60, li_61, li_62, li_63, li_97, li_100, li_122, li_123, li_125, li_127, li_255, li_400, li_401, li_800, li_1023, li_1024, li_10827, i_add, i_mul, i_sub, i_p1, i_m1, i_nm, i_nm2, i_cl, i_cl0, vi_ok, i_lt, i_le, i_eq, lg_e, isA_x, rfA_7, rfA_8, rfA_9, rfA_10, rfA_11, rfA_12, rfA_13, rfA_14, rfA_15, rfA_16, rfA_17, rfA_18, rfC_0, rfD_0, rfC_1, rfD_1, rfC_2, rfD_2, rfC_3, rfD_3, isA_1, szA_1, isA_2, szA_2, isA_3, szA_3, isA_4, szA_4, isA_5, szA_5, isA_6, szA_6, isA_7, szA_7, isA_8, szA_8, isA_9, szA_9, isA_10, szA_10, isA_11, szA_11, isA_12, szA_12, isA_13, szA_13, isA_14, szA_14, isA_15, szA_15, isA_16, szA_16, isA_17, szA_17, isA_18, szA_18, isA_19, szA_19, isA_20, szA_20, v.2.2.2.2.2, show ¬ D 19 w ≤ D 18 w + j by omega]
        have e : vbt D S.2.2.2.2 w (vsh D S.2.2.2.2 w (D 6 w)) (j + 1) = vbt D S.2.2.2.2 w (vsh D S.2.2.2.2 w (D 6 w)) j * 2 + bI (holdsD D S.2.2.2.2 (D 18 w + j)) := rfl
        rw [e] at ih
        refine k_X4_hold hr hx hs hA.2.2.2.2.1 (by omega) h24 (fun p => ?_) (fun p => ?_)
        · rw [bI_t p] at ih
          refine ⟨fun z => absurd z (by decide), fun _ => ?_⟩
          rw [l_or1 _ (by omega)]
          exact ih
        · rw [bI_f p] at ih
          refine ⟨fun _ => ?_, fun z => absurd rfl z⟩
          rw [l_or1 _ (by omega)]
          exact ih
    have shows : ∀ d k, k + d = D 6 w → L_X0_viewOf_23 l g h x (Int64.ofNat (en S)) (Int32.ofNat w) (Int64.ofNat (vsh D S.2.2.2.2 w k)) (Int32.ofNat k) Q := by
      intro d
      induction d with
      | zero =>
        intro k hk
        refine s_X0_viewOf_23 ?_
        simp (disch := first | assumption | omega) only [true_and, and_true, forall_eq, true_implies, false_implies, implies_true, not_true_eq_false, not_false_eq_true, false_and, and_false, ne_eq, ite_true, ite_false, Nat.reduceLeDiff, Nat.reduceEqDiff, Nat.reduceLT, Nat.reduceAdd, Nat.reduceMul, Nat.reduceSub, Nat.le_refl, eq_self, li_0, li_1, li_2, li_3, li_4, li_5, li_6, li_7, li_8, li_9, li_10, li_11, li_12, li_13, li_14, li_15, li_16, li_17, li_18, li_19, li_20, li_21, li_22, li_23, li_24, li_25, li_26, li_27, li_28, li_29, li_30, li_31, li_32, li_44, li_48, li_57, li_59, li_60, li_61, li_62, li_63, li_97, li_100, li_122, li_123, li_125, li_127, li_255, li_400, li_401, li_800, li_1023, li_1024, li_10827, i_add, i_mul, i_sub, i_p1, i_m1, i_nm, i_nm2, i_cl, i_cl0, vi_ok, i_lt, i_le, i_eq, lg_e, isA_x, rfA_7, rfA_8, rfA_9, rfA_10, rfA_11, rfA_12, rfA_13, rfA_14, rfA_15, rfA_16, rfA_17, rfA_18, rfC_0, rfD_0, rfC_1, rfD_1, rfC_2, rfD_2, rfC_3, rfD_3, isA_1, szA_1, isA_2, szA_2, isA_3, szA_3, isA_4, szA_4, isA_5, szA_5, isA_6, szA_6, isA_7, szA_7, isA_8, szA_8, isA_9, szA_9, isA_10, szA_10, isA_11, szA_11, isA_12, szA_12, isA_13, szA_13, isA_14, szA_14, isA_15, szA_15, isA_16, szA_16, isA_17, szA_17, isA_18, szA_18, isA_19, szA_19, isA_20, szA_20, v.2.1, v.2.2.2.2.1, show D 6 w ≤ k by omega]
        rw [show k = D 6 w by omega]
        exact bits _ 0 (Nat.zero_add _)
      | succ d ih =>
        intro k hk
        have ih := ih (k + 1) (by omega)
        refine s_X0_viewOf_23 ?_
        simp (disch := first | assumption | omega) only [true_and, and_true, forall_eq, true_implies, false_implies, implies_true, not_true_eq_false, not_false_eq_true, false_and, and_false, ne_eq, ite_true, ite_false, Nat.reduceLeDiff, Nat.reduceEqDiff, Nat.reduceLT, Nat.reduceAdd, Nat.reduceMul, Nat.reduceSub, Nat.le_refl, eq_self, li_0, li_1, li_2, li_3, li_4, li_5, li_6, li_7, li_8, li_9, li_10, li_11, li_12, li_13, li_14, li_15, li_16, li_17, li_18, li_19, li_20, li_21, li_22, li_23, li_24, li_25, li_26, li_27, li_28, li_29, li_30, li_31, li_32, li_44, li_48, li_57, li_59, li_60, li_61, li_62, li_63, li_97, li_100, li_122, li_123, li_125, li_127, li_255, li_400, li_401, li_800, li_1023, li_1024, li_10827, i_add, i_mul, i_sub, i_p1, i_m1, i_nm, i_nm2, i_cl, i_cl0, vi_ok, i_lt, i_le, i_eq, lg_e, isA_x, rfA_7, rfA_8, rfA_9, rfA_10, rfA_11, rfA_12, rfA_13, rfA_14, rfA_15, rfA_16, rfA_17, rfA_18, rfC_0, rfD_0, rfC_1, rfD_1, rfC_2, rfD_2, rfC_3, rfD_3, isA_1, szA_1, isA_2, szA_2, isA_3, szA_3, isA_4, szA_4, isA_5, szA_5, isA_6, szA_6, isA_7, szA_7, isA_8, szA_8, isA_9, szA_9, isA_10, szA_10, isA_11, szA_11, isA_12, szA_12, isA_13, szA_13, isA_14, szA_14, isA_15, szA_15, isA_16, szA_16, isA_17, szA_17, isA_18, szA_18, isA_19, szA_19, isA_20, szA_20, v.2.1, show ¬ D 6 w ≤ k by omega]
        refine k_X0_shownIn hr hx hD hA hs hw (by omega) ?_
        have := show_lt hD hs hw k (by omega)
        rw [l_shl _ (by decide), l_of (by omega), l_or, n_or (k := 4) (by omega)]
        (try simp (disch := first | assumption | omega) only [true_and, and_true, forall_eq, true_implies, false_implies, implies_true, not_true_eq_false, not_false_eq_true, false_and, and_false, ne_eq, ite_true, ite_false, Nat.reduceLeDiff, Nat.reduceEqDiff, Nat.reduceLT, Nat.reduceAdd, Nat.reduceMul, Nat.reduceSub, Nat.le_refl, eq_self, li_0, li_1, li_2, li_3, li_4, li_5, li_6, li_7, li_8, li_9, li_10, li_11, li_12, li_13, li_14, li_15, li_16, li_17, li_18, li_19, li_20, li_21, li_22, li_23, li_24, li_25, li_26, li_27, li_28, li_29, li_30, li_31, li_32, li_44, li_48, li_57, li_59, li_60, li_61, li_62, li_63, li_97, li_100, li_122, li_123, li_125, li_127, li_255, li_400, li_401, li_800, li_1023, li_1024, li_10827, i_add, i_mul, i_sub, i_p1, i_m1, i_nm, i_nm2, i_cl, i_cl0, vi_ok, i_lt, i_le, i_eq, lg_e])
        exact ih
    exact shows _ 0 (Nat.zero_add _)
def KR (p q : Nat → Int64) (s t : Nat) : Prop := p s = p t ∧ q s = q t
/-- the sorter holds the keys of 0 .. k - 1 -/
def SortI (h : AH) (p q : Nat → Int64) (k m : Nat) (f : Nat → Nat) : Prop := ∃ L R, MT h 83 m L R ∧ Canon k m f (KR p q) ∧ ∀ i, i < k → L (f i) = p i ∧ R (f i) = q i
theorem q_meet_sort {l : Launch} {g : AG} {h : AH} {p q : Nat → Int64} {k m : Nat} {f : Nat → Nat} {a b : Int64} {Q : Int32 → AH → Prop} (hr : Refs h) (hs : SortI h p q k m f) (hk : k < 400) (ea : a = p k) (eb : b = q k) (hq : ∀ h' r m', r < 400 → Refs h' → Fr (PM 83) h h' → SortI h' p q (k + 1) m' (nup f k r) → Q (Int32.ofNat r) h') : C_X6_meet l g h 83 a b (-1) (-1) Q := by
  subst ea eb
  obtain ⟨L, R, hM, hC, hv⟩ := hs
  have hle := canon_le hC
  have hsy : ∀ s t, KR p q s t → KR p q t s := fun s t e => ⟨e.1.symm, e.2.symm⟩
  have htr : ∀ s t u, KR p q s t → KR p q t u → KR p q s u := fun s t u e e2 => ⟨e.1.trans e2.1, e.2.trans e2.2⟩
  refine k_X6_meet hr (Or.inr (Or.inl rfl)) hM (fun z => absurd z (by decide)) (fun i hi e1 e2 => ?_) (fun hnew hlt h' f' r' m' kp => ?_) (fun _ z => absurd z (by omega))
  · obtain ⟨s, s1, s2⟩ := hC.2.2.2 i hi
    have vs := hv s s1
    refine hq h i m (by omega) hr (Fr.refl _ _) ⟨L, R, hM, canon_old hC hsy htr s1 ⟨?_, ?_⟩ s2.symm, fun j hj => ?_⟩
    · rw [← e1, ← vs.1, s2]
    · rw [← e2, ← vs.2, s2]
    · by_cases c : j = k
      · rw [c, nup_s]; exact ⟨e1, e2⟩
      · rw [nup_n c]; exact hv j (by omega)
  · refine hq h' m (m + 1) (by omega) r' f' ⟨_, _, m', canon_new hC hsy ⟨rfl, rfl⟩ (fun u hu e => hnew (f u) (hC.2.1 u hu) ⟨?_, ?_⟩), fun j hj => ?_⟩
    · rw [(hv u hu).1]; exact e.1.symm
    · rw [(hv u hu).2]; exact e.2.symm
    · by_cases c : j = k
      · rw [c, nup_s, nupL_s, nupL_s]; exact ⟨rfl, rfl⟩
      · have := hC.2.1 j (by omega)
        rw [nup_n c, nupL_n (by omega), nupL_n (by omega)]; exact hv j (by omega)
theorem SortI.fr {P : Nat → Nat → Prop} {h h1 : AH} {p q : Nat → Int64} {k m : Nat} {f : Nat → Nat} (hS : SortI h p q k m f) (fr : Fr P h h1) (e : ∀ c z, P c z → ¬ (83 ≤ c ∧ c ≤ 89)) : SortI h1 p q k m f := by
  obtain ⟨L, R, hM, hC, hv⟩ := hS
  exact ⟨L, R, hM.fr fr (fun c z q => by have := e c z q; omega), hC, hv⟩
theorem PM83_scr {c p : Nat} (h : PM 83 c p) : SCR c p := by
  unfold PM at h
  unfold SCR
  omega
theorem PM83_map {c p : Nat} (h : PM 83 c p) : ¬ PMAP c p := SCR_map (PM83_scr h)
theorem k_X12_find {l : Launch} {g : AG} {h : AH} {x a b : Nat} {v : Int64} {Q : Int32 → AH → Prop} (hi : Is 194 x 21) (hb : b ≤ (ax_s x).2) (hb2 : b ≤ 1000) (q1 : ∀ k, a ≤ k → k < b → h.2.1 x k = v → (∀ j, a ≤ j → j < k → h.2.1 x j ≠ v) → Q (Int32.ofNat k) h) (q2 : (∀ j, a ≤ j → j < b → h.2.1 x j ≠ v) → Q (-1) h) (hab : a ≤ 1000) : C_X12_find l g h x (Int32.ofNat a) (Int32.ofNat b) v Q := by
  have loop : ∀ d k, k + d = b ∨ (b ≤ k ∧ d = 0) → a ≤ k → k ≤ 1000 → (∀ j, a ≤ j → j < k → h.2.1 x j ≠ v) → L_X12_find_3 l g h x (Int32.ofNat b) v (Int32.ofNat k) Q := by
    intro d
    induction d with
    | zero =>
      intro k hk ha hk2 hl
      refine s_X12_find_3 ?_
      simp (disch := first | assumption | omega) only [true_and, and_true, forall_eq, true_implies, false_implies, implies_true, not_true_eq_false, not_false_eq_true, false_and, and_false, ne_eq, ite_true, ite_false, Nat.reduceLeDiff, Nat.reduceEqDiff, Nat.reduceLT, Nat.reduceAdd, Nat.reduceMul, Nat.reduceSub, Nat.le_refl, eq_self, li_0, li_1, li_2, li_3, li_4, li_5, li_6, li_7, li_8, li_9, li_10, li_11, li_12, li_13, li_14, li_15, li_16, li_17, li_18, li_19, li_20, li_21, li_22, li_23, li_24, li_25, li_26, li_27, li_28, li_29, li_30, li_31, li_32, li_44, li_48, li_57, li_59, li_60, li_61, li_62, li_63, li_97, li_100, li_122, li_123, li_125, li_127, li_255, li_400, li_401, li_800, li_1023, li_1024, li_10827, i_add, i_mul, i_sub, i_p1, i_m1, i_nm, i_nm2, i_cl, i_cl0, vi_ok, i_lt, i_le, i_eq, lg_e, show b ≤ k by omega]
      refine s_X12_find_24 ?_
      simp (disch := first | assumption | omega) only [true_and, and_true, forall_eq, true_implies, false_implies, implies_true, not_true_eq_false, not_false_eq_true, false_and, and_false, ne_eq, ite_true, ite_false, Nat.reduceLeDiff, Nat.reduceEqDiff, Nat.reduceLT, Nat.reduceAdd, Nat.reduceMul, Nat.reduceSub, Nat.le_refl, eq_self, li_0, li_1, li_2, li_3, li_4, li_5, li_6, li_7, li_8, li_9, li_10, li_11, li_12, li_13, li_14, li_15, li_16, li_17, li_18, li_19, li_20, li_21, li_22, li_23, li_24, li_25, li_26, li_27, li_28, li_29, li_30, li_31, li_32, li_44, li_48, li_57, li_59, li_60, li_61, li_62, li_63, li_97, li_100, li_122, li_123, li_125, li_127, li_255, li_400, li_401, li_800, li_1023, li_1024, li_10827, i_add, i_mul, i_sub, i_p1, i_m1, i_nm, i_nm2, i_cl, i_cl0, vi_ok, i_lt, i_le, i_eq, lg_e, show b ≤ k by omega]
      exact q2 (fun j h1 h2 => hl j h1 (by omega))
    | succ d ih =>
      intro k hk ha hk2 hl
      have hkb : k < b := by omega
      refine s_X12_find_3 ?_
      simp (disch := first | assumption | omega) only [true_and, and_true, forall_eq, true_implies, false_implies, implies_true, not_true_eq_false, not_false_eq_true, false_and, and_false, ne_eq, ite_true, ite_false, Nat.reduceLeDiff, Nat.reduceEqDiff, Nat.reduceLT, Nat.reduceAdd, Nat.reduceMul, Nat.reduceSub, Nat.le_refl, eq_self, li_0, li_1, li_2, li_3, li_4, li_5, li_6, li_7, li_8, li_9, li_10, li_11, li_12, li_13, li_14, li_15, li_16, li_17, li_18, li_19, li_20, li_21, li_22, li_23, li_24, li_25, li_26, li_27, li_28, li_29, li_30, li_31, li_32, li_44, li_48, li_57, li_59, li_60, li_61, li_62, li_63, li_97, li_100, li_122, li_123, li_125, li_127, li_255, li_400, li_401, li_800, li_1023, li_1024, li_10827, i_add, i_mul, i_sub, i_p1, i_m1, i_nm, i_nm2, i_cl, i_cl0, vi_ok, i_lt, i_le, i_eq, lg_e, show ¬ b ≤ k by omega]
      refine ⟨hi, fun c => ?_, fun c => ?_⟩
      · refine s_X12_find_24 ?_
        simp (disch := first | assumption | omega) only [true_and, and_true, forall_eq, true_implies, false_implies, implies_true, not_true_eq_false, not_false_eq_true, false_and, and_false, ne_eq, ite_true, ite_false, Nat.reduceLeDiff, Nat.reduceEqDiff, Nat.reduceLT, Nat.reduceAdd, Nat.reduceMul, Nat.reduceSub, Nat.le_refl, eq_self, li_0, li_1, li_2, li_3, li_4, li_5, li_6, li_7, li_8, li_9, li_10, li_11, li_12, li_13, li_14, li_15, li_16, li_17, li_18, li_19, li_20, li_21, li_22, li_23, li_24, li_25, li_26, li_27, li_28, li_29, li_30, li_31, li_32, li_44, li_48, li_57, li_59, li_60, li_61, li_62, li_63, li_97, li_100, li_122, li_123, li_125, li_127, li_255, li_400, li_401, li_800, li_1023, li_1024, li_10827, i_add, i_mul, i_sub, i_p1, i_m1, i_nm, i_nm2, i_cl, i_cl0, vi_ok, i_lt, i_le, i_eq, lg_e, show ¬ b ≤ k by omega]
        exact q1 k ha hkb c hl
      · refine ih (k + 1) (by omega) (by omega) (by omega) (fun j h1 h2 => ?_)
        by_cases z : j = k
        · rw [z]; exact c
        · exact hl j h1 (by omega)
  refine c_X12_find (s_X12_find_0 ?_)
  exact loop (b - a) a (by omega) (Nat.le_refl a) hab (fun j h1 h2 => absurd h2 (by omega))
theorem ob_views {l : Launch} {g : AG} (h : AH) (hI : Inv h) : C_X9_views l g h 1 (fun r h1 => C_X12_views l g h1 103 (fun r2 h2 => r2 = r ∧ Inv h2)) := by
  obtain ⟨X, Y, D, S, t, hI⟩ := hI
  have hr := hI.1
  refine c_X9_views (s_X9_views_0 ?_)
  rw [rf_1_6 hr]
  rcases hI.2.2.2.2.2.2.1 with ⟨z1, z2, z3⟩ | ⟨a, z1, z2, z3, z4, z5, n, ST, FR, BY, DP, LD, K, KD, m⟩
  · refine ⟨is_1, is_74, map_none hI z1 z2 ⟨fun _ => k_X9_refused ?_, fun z => absurd rfl z⟩⟩
    refine c_X12_views (s_X12_views_0 ⟨is_103, ?_⟩)
    intro h2 e2
    have : h2.1 103 24 = -1 := by rw [e2]; simp (disch := first | assumption | omega) only [true_and, and_true, forall_eq, true_implies, false_implies, implies_true, not_true_eq_false, not_false_eq_true, false_and, and_false, ne_eq, ite_true, ite_false, Nat.reduceLeDiff, Nat.reduceEqDiff, Nat.reduceLT, Nat.reduceAdd, Nat.reduceMul, Nat.reduceSub, Nat.le_refl, eq_self, li_0, li_1, li_2, li_3, li_4, li_5, li_6, li_7, li_8, li_9, li_10, li_11, li_12, li_13, li_14, li_15, li_16, li_17, li_18, li_19, li_20, li_21, li_22, li_23, li_24, li_25, li_26, li_27, li_28, li_29, li_30, li_31, li_32, li_44, li_48, li_57, li_59, li_60, li_61, li_62, li_63, li_97, li_100, li_122, li_123, li_125, li_127, li_255, li_400, li_401, li_800, li_1023, li_1024, li_10827, i_add, i_mul, i_sub, i_p1, i_m1, i_nm, i_nm2, i_cl, i_cl0, vi_ok, i_lt, i_le, i_eq, lg_e, gI_s, gI_c, gI_p, gI_L, gI_R, gL_s, gL_c, gL_p, gL_I, gL_R, gR_s, gR_c, gR_p, gR_I, gR_L]; exact z2
    rw [this]
    subst e2
    exact ⟨fun z => absurd rfl z, fun _ => ob_ref hI 6 (by decide)⟩
  · have hn := m.1.2.1
    obtain ⟨t1, t2, t3, t4, t5, t6, t7, t8⟩ := (hI.2.2.1 a z1).1 z2
    have hA := hI.2.1
    have hx := hA.isx z1
    refine ⟨is_1, is_74, map_some z1 z3 ⟨fun z => absurd z (by decide), fun _ => ?_⟩⟩
    rw [rf_1_6 hr]
    refine ⟨is_74, c_X1_viewsMany (s_X1_viewsMany_0 ?_)⟩
    rw [rf_74_4 hr]
    refine ⟨is_74, is_83, k_X6_clear hr (Or.inr (Or.inl rfl)) (fun _ => 0) (fun _ => 0) (fun h1 f1 r1 m1 => ?_)⟩
    have loopC : ∀ Q : Int32 → AH → Prop, (∀ h' mm f, Refs h' → Fr SCR h h' → Canon n mm f (KR (fun i => viewC (D a) (ST i)) (fun _ => 0)) → Q (Int32.ofNat mm) h') → ∀ d k, k + d = n → ∀ h' mm f, Refs h' → Fr SCR h h' → SortI h' (fun i => viewC (D a) (ST i)) (fun _ => 0) k mm f → L_X1_viewsMany_9 l g h' 74 (Int32.ofNat k) Q := by
      intro Q hq d
      induction d with
      | zero =>
        intro k hk h' mm f r' f' sI
        have m' := m.fr f' (fun _ _ => SCR_map)
        refine s_X1_viewsMany_9 ?_
        simp (disch := first | assumption | omega) only [true_and, and_true, forall_eq, true_implies, false_implies, implies_true, not_true_eq_false, not_false_eq_true, false_and, and_false, ne_eq, ite_true, ite_false, Nat.reduceLeDiff, Nat.reduceEqDiff, Nat.reduceLT, Nat.reduceAdd, Nat.reduceMul, Nat.reduceSub, Nat.le_refl, eq_self, li_0, li_1, li_2, li_3, li_4, li_5, li_6, li_7, li_8, li_9, li_10, li_11, li_12, li_13, li_14, li_15, li_16, li_17, li_18, li_19, li_20, li_21, li_22, li_23, li_24, li_25, li_26, li_27, li_28, li_29, li_30, li_31, li_32, li_44, li_48, li_57, li_59, li_60, li_61, li_62, li_63, li_97, li_100, li_122, li_123, li_125, li_127, li_255, li_400, li_401, li_800, li_1023, li_1024, li_10827, i_add, i_mul, i_sub, i_p1, i_m1, i_nm, i_nm2, i_cl, i_cl0, vi_ok, i_lt, i_le, i_eq, lg_e, rf_74_2, rf_74_3, rf_74_4, rf_74_6, rf_74_7, rf_74_8, is_74, is_75, sz_75, is_82, sz_82, is_83, sz_83, is_90, sz_90, is_91, sz_91, is_92, sz_92, m'.2.2.1.1.1, show n ≤ k by omega]
        obtain ⟨L, R, s1, s2, s3⟩ := sI
        rw [s1.1]
        rw [show k = n by omega] at s2
        exact hq h' mm f r' f' s2
      | succ d ih =>
        intro k hk h' mm f r' f' sI
        have m' := m.fr f' (fun _ _ => SCR_map)
        have e741 : h'.2.2 74 1 = X a := by rw [(f' 74 1 (fun q => by unfold SCR at q; omega)).2.2]; exact z5
        have iC := (hI.c.fr f'.pq r').2.2.1 a z1
        have u := iC.1 z2
        refine s_X1_viewsMany_9 ?_
        rw [e741]
        simp (disch := first | assumption | omega) only [true_and, and_true, forall_eq, true_implies, false_implies, implies_true, not_true_eq_false, not_false_eq_true, false_and, and_false, ne_eq, ite_true, ite_false, Nat.reduceLeDiff, Nat.reduceEqDiff, Nat.reduceLT, Nat.reduceAdd, Nat.reduceMul, Nat.reduceSub, Nat.le_refl, eq_self, li_0, li_1, li_2, li_3, li_4, li_5, li_6, li_7, li_8, li_9, li_10, li_11, li_12, li_13, li_14, li_15, li_16, li_17, li_18, li_19, li_20, li_21, li_22, li_23, li_24, li_25, li_26, li_27, li_28, li_29, li_30, li_31, li_32, li_44, li_48, li_57, li_59, li_60, li_61, li_62, li_63, li_97, li_100, li_122, li_123, li_125, li_127, li_255, li_400, li_401, li_800, li_1023, li_1024, li_10827, i_add, i_mul, i_sub, i_p1, i_m1, i_nm, i_nm2, i_cl, i_cl0, vi_ok, i_lt, i_le, i_eq, lg_e, rf_74_2, rf_74_3, rf_74_4, rf_74_6, rf_74_7, rf_74_8, is_74, is_75, sz_75, is_82, sz_82, is_83, sz_83, is_90, sz_90, is_91, sz_91, is_92, sz_92, rf_75_1, rf_75_2, rf_75_3, rf_75_4, rf_75_5, rf_75_6, is_75, is_76, sz_76, is_77, sz_77, is_78, sz_78, is_79, sz_79, is_80, sz_80, is_81, sz_81, m'.2.2.1.1.1, (m'.2.2.1.1.2.2.1 k (by omega)).1, isA_x hx, show ¬ n ≤ k by omega]
        refine k_X0_viewOf r' hx t2 u.2.2.1 (m.1.2.2.1 k (by omega)) ?_
        refine q_meet_sort (p := fun i => viewC (D a) (ST i)) (q := fun _ => 0) r' sI (by omega) rfl rfl (fun h2 r m2 hr2 r2 f2 s2 => ?_)
        (try simp (disch := first | assumption | omega) only [true_and, and_true, forall_eq, true_implies, false_implies, implies_true, not_true_eq_false, not_false_eq_true, false_and, and_false, ne_eq, ite_true, ite_false, Nat.reduceLeDiff, Nat.reduceEqDiff, Nat.reduceLT, Nat.reduceAdd, Nat.reduceMul, Nat.reduceSub, Nat.le_refl, eq_self, li_0, li_1, li_2, li_3, li_4, li_5, li_6, li_7, li_8, li_9, li_10, li_11, li_12, li_13, li_14, li_15, li_16, li_17, li_18, li_19, li_20, li_21, li_22, li_23, li_24, li_25, li_26, li_27, li_28, li_29, li_30, li_31, li_32, li_44, li_48, li_57, li_59, li_60, li_61, li_62, li_63, li_97, li_100, li_122, li_123, li_125, li_127, li_255, li_400, li_401, li_800, li_1023, li_1024, li_10827, i_add, i_mul, i_sub, i_p1, i_m1, i_nm, i_nm2, i_cl, i_cl0, vi_ok, i_lt, i_le, i_eq, lg_e])
        exact ih (k + 1) (by omega) h2 m2 _ r2 (f'.trans (f2.mono (fun _ _ => PM83_scr))) s2
    refine loopC _ (fun h2 mm f r2 f2 cn => k_X9_granted ?_) n 0 (Nat.zero_add _) h1 0 (fun _ => 0) r1 (f1.mono (fun _ _ => PM83_scr)) ⟨_, _, m1, canon_zero _ _, fun i hi => absurd hi (Nat.not_lt_zero i)⟩
    refine c_X12_views (s_X12_views_0 ⟨is_103, ?_⟩)
    intro h3 e3
    have f3 : Fr PQ h h3 := by rw [e3]; exact (f2.pq.setI PQ_112).setI PQ_1030
    have r3 : Refs h3 := by rw [e3]; exact r2.setI.setI
    have w1 : h3.1 1 12 = 0 := by rw [e3]; simp (disch := first | assumption | omega) only [true_and, and_true, forall_eq, true_implies, false_implies, implies_true, not_true_eq_false, not_false_eq_true, false_and, and_false, ne_eq, ite_true, ite_false, Nat.reduceLeDiff, Nat.reduceEqDiff, Nat.reduceLT, Nat.reduceAdd, Nat.reduceMul, Nat.reduceSub, Nat.le_refl, eq_self, li_0, li_1, li_2, li_3, li_4, li_5, li_6, li_7, li_8, li_9, li_10, li_11, li_12, li_13, li_14, li_15, li_16, li_17, li_18, li_19, li_20, li_21, li_22, li_23, li_24, li_25, li_26, li_27, li_28, li_29, li_30, li_31, li_32, li_44, li_48, li_57, li_59, li_60, li_61, li_62, li_63, li_97, li_100, li_122, li_123, li_125, li_127, li_255, li_400, li_401, li_800, li_1023, li_1024, li_10827, i_add, i_mul, i_sub, i_p1, i_m1, i_nm, i_nm2, i_cl, i_cl0, vi_ok, i_lt, i_le, i_eq, lg_e, gI_s, gI_c, gI_p, gI_L, gI_R, gL_s, gL_c, gL_p, gL_I, gL_R, gR_s, gR_c, gR_p, gR_I, gR_L]
    clear e3
    have m3 := m.fr f3 (fun _ _ => PQ_map)
    have w24 : h3.1 103 24 = Int32.ofNat a := by rw [(f3 103 24 (fun q => PQ_map q (by unfold PMAP; omega))).1]; exact z4
    rw [w24]
    refine ⟨fun _ => ?_, fun q => absurd q (i_ne (by omega))⟩
    have emm : pops (fun s => ∀ t, t < s → viewM (D a) (ST t) ≠ viewM (D a) (ST s)) n = mm := by
      rw [← canon_cnt n mm cn]
      refine pops_congr n (fun s hs => ?_)
      unfold fst1
      have key : ∀ t, t < s → (viewM (D a) (ST t) ≠ viewM (D a) (ST s) ↔ f t ≠ f s) := by
        intro t ht
        have ws := m.1.2.2.1 s hs
        have wt := m.1.2.2.1 t (by omega)
        have e1 := cn.1 t s (by omega) hs
        have e2 := viewM_iff t2 wt ws
        have e3 := viewC_iff t2 wt ws
        refine ⟨fun z y => z (e2.2 (e3.1 (e1.1 y).1)), fun z y => z (e1.2 ⟨e3.2 (e2.1 y), rfl⟩)⟩
      exact ⟨fun z t ht => (key t ht).1 (z t ht), fun z t ht => (key t ht).2 (z t ht)⟩
    have loopM : ∀ d k, k + d = n → L_X12_views_24 l g h3 103 (Int32.ofNat (pops (fun s => ∀ t, t < s → viewM (D a) (ST t) ≠ viewM (D a) (ST s)) k)) (Int32.ofNat k) (fun r2 h2 => r2 = Int32.ofNat mm ∧ Inv h2) := by
      intro d
      induction d with
      | zero =>
        intro k hk
        refine s_X12_views_24 ?_
        simp (disch := first | assumption | omega) only [true_and, and_true, forall_eq, true_implies, false_implies, implies_true, not_true_eq_false, not_false_eq_true, false_and, and_false, ne_eq, ite_true, ite_false, Nat.reduceLeDiff, Nat.reduceEqDiff, Nat.reduceLT, Nat.reduceAdd, Nat.reduceMul, Nat.reduceSub, Nat.le_refl, eq_self, li_0, li_1, li_2, li_3, li_4, li_5, li_6, li_7, li_8, li_9, li_10, li_11, li_12, li_13, li_14, li_15, li_16, li_17, li_18, li_19, li_20, li_21, li_22, li_23, li_24, li_25, li_26, li_27, li_28, li_29, li_30, li_31, li_32, li_44, li_48, li_57, li_59, li_60, li_61, li_62, li_63, li_97, li_100, li_122, li_123, li_125, li_127, li_255, li_400, li_401, li_800, li_1023, li_1024, li_10827, i_add, i_mul, i_sub, i_p1, i_m1, i_nm, i_nm2, i_cl, i_cl0, vi_ok, i_lt, i_le, i_eq, lg_e, is_103, m3.2.2.2.2.1.1, show n ≤ k by omega]
        refine k_X12_done ⟨?_, inv_say hI 0 (by decide) f3 r3 w1⟩
        rw [show k = n by omega, emm]
      | succ d ih =>
        intro k hk
        have ih := ih (k + 1) (by omega)
        have e : pops (fun s => ∀ t, t < s → viewM (D a) (ST t) ≠ viewM (D a) (ST s)) (k + 1) = pops (fun s => ∀ t, t < s → viewM (D a) (ST t) ≠ viewM (D a) (ST s)) k + bI (∀ t, t < k → viewM (D a) (ST t) ≠ viewM (D a) (ST k)) := rfl
        rw [e] at ih
        refine s_X12_views_24 ?_
        simp (disch := first | assumption | omega) only [true_and, and_true, forall_eq, true_implies, false_implies, implies_true, not_true_eq_false, not_false_eq_true, false_and, and_false, ne_eq, ite_true, ite_false, Nat.reduceLeDiff, Nat.reduceEqDiff, Nat.reduceLT, Nat.reduceAdd, Nat.reduceMul, Nat.reduceSub, Nat.le_refl, eq_self, li_0, li_1, li_2, li_3, li_4, li_5, li_6, li_7, li_8, li_9, li_10, li_11, li_12, li_13, li_14, li_15, li_16, li_17, li_18, li_19, li_20, li_21, li_22, li_23, li_24, li_25, li_26, li_27, li_28, li_29, li_30, li_31, li_32, li_44, li_48, li_57, li_59, li_60, li_61, li_62, li_63, li_97, li_100, li_122, li_123, li_125, li_127, li_255, li_400, li_401, li_800, li_1023, li_1024, li_10827, i_add, i_mul, i_sub, i_p1, i_m1, i_nm, i_nm2, i_cl, i_cl0, vi_ok, i_lt, i_le, i_eq, lg_e, rf_103_4, rf_103_6, rf_103_7, rf_103_8, rf_103_9, rf_103_10, rf_103_21, rf_103_22, rf_103_23, rf_103_26, rf_103_27, rf_103_28, rf_103_29, rf_103_30, rf_103_31, rf_103_32, rf_103_33, rf_103_34, rf_103_35, rf_103_37, rf_103_38, rf_103_39, rf_103_44, rf_103_45, rf_103_46, rf_103_47, rf_103_48, rf_103_49, rf_103_54, rf_103_55, is_103, is_104, sz_104, is_125, sz_125, is_126, sz_126, is_127, sz_127, is_128, sz_128, is_129, sz_129, is_130, sz_130, is_131, sz_131, is_132, sz_132, is_133, sz_133, is_134, sz_134, is_135, sz_135, is_136, sz_136, is_137, sz_137, is_138, sz_138, is_139, sz_139, is_140, sz_140, is_141, sz_141, is_142, sz_142, is_143, sz_143, is_144, sz_144, is_145, sz_145, is_146, sz_146, is_147, sz_147, is_148, sz_148, is_149, sz_149, is_150, sz_150, is_151, sz_151, is_152, sz_152, is_153, sz_153, m3.2.2.2.2.1.1, (m3.2.2.2.2.2.2.1 k (by omega)).2.1, show ¬ n ≤ k by omega]
        refine k_X12_find (a := 0) is_143 (by rw [sz_143]; omega) (by omega) (fun j h1 h2 h3 h4 => ?_) (fun h4 => ?_) (by omega)
        · refine ⟨fun _ => ?_, fun z => absurd z (i_ne (by omega))⟩
          rw [(m3.2.2.2.2.2.2.1 j (by omega)).2.1] at h3
          rw [bI_f (fun z => z j h2 h3)] at ih
          (try simp (disch := first | assumption | omega) only [true_and, and_true, forall_eq, true_implies, false_implies, implies_true, not_true_eq_false, not_false_eq_true, false_and, and_false, ne_eq, ite_true, ite_false, Nat.reduceLeDiff, Nat.reduceEqDiff, Nat.reduceLT, Nat.reduceAdd, Nat.reduceMul, Nat.reduceSub, Nat.le_refl, eq_self, li_0, li_1, li_2, li_3, li_4, li_5, li_6, li_7, li_8, li_9, li_10, li_11, li_12, li_13, li_14, li_15, li_16, li_17, li_18, li_19, li_20, li_21, li_22, li_23, li_24, li_25, li_26, li_27, li_28, li_29, li_30, li_31, li_32, li_44, li_48, li_57, li_59, li_60, li_61, li_62, li_63, li_97, li_100, li_122, li_123, li_125, li_127, li_255, li_400, li_401, li_800, li_1023, li_1024, li_10827, i_add, i_mul, i_sub, i_p1, i_m1, i_nm, i_nm2, i_cl, i_cl0, vi_ok, i_lt, i_le, i_eq, lg_e])
          exact ih
        · refine ⟨fun z => absurd rfl z, fun _ => ?_⟩
          rw [bI_t (fun t ht e => h4 t (Nat.zero_le t) ht (by rw [(m3.2.2.2.2.2.2.1 t (by omega)).2.1]; exact e))] at ih
          (try simp (disch := first | assumption | omega) only [true_and, and_true, forall_eq, true_implies, false_implies, implies_true, not_true_eq_false, not_false_eq_true, false_and, and_false, ne_eq, ite_true, ite_false, Nat.reduceLeDiff, Nat.reduceEqDiff, Nat.reduceLT, Nat.reduceAdd, Nat.reduceMul, Nat.reduceSub, Nat.le_refl, eq_self, li_0, li_1, li_2, li_3, li_4, li_5, li_6, li_7, li_8, li_9, li_10, li_11, li_12, li_13, li_14, li_15, li_16, li_17, li_18, li_19, li_20, li_21, li_22, li_23, li_24, li_25, li_26, li_27, li_28, li_29, li_30, li_31, li_32, li_44, li_48, li_57, li_59, li_60, li_61, li_62, li_63, li_97, li_100, li_122, li_123, li_125, li_127, li_255, li_400, li_401, li_800, li_1023, li_1024, li_10827, i_add, i_mul, i_sub, i_p1, i_m1, i_nm, i_nm2, i_cl, i_cl0, vi_ok, i_lt, i_le, i_eq, lg_e])
          exact ih
    exact loopM n 0 (Nat.zero_add _)
