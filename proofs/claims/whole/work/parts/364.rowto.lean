/-- the way back: k steps before s -/
def backN (FR : Nat → Nat) (s : Nat) : Nat → Nat
  | 0 => s
  | k + 1 => FR (backN FR s k)
/-- the ROW to s: entry k -/
def wayTo (FR BY DP : Nat → Nat) (s k : Nat) : Nat := BY (backN FR s (DP s - 1 - k))
theorem back_ok {n : Nat} {FR BY DP : Nat → Nat} (hw : ∀ i, i < n → 0 < i → FR i < i ∧ BY i < 27 ∧ DP i = DP (FR i) + 1) (h0 : DP 0 = 0) {s : Nat} (hs : s < n) : ∀ k, k ≤ DP s → backN FR s k < n ∧ DP (backN FR s k) = DP s - k ∧ (k < DP s → 0 < backN FR s k) := by
  intro k
  induction k with
  | zero =>
    intro _
    refine ⟨hs, by rw [Nat.sub_zero]; rfl, fun q => ?_⟩
    show 0 < s
    rcases Nat.eq_zero_or_pos s with z | z
    · rw [z, h0] at q; omega
    · exact z
  | succ k ih =>
    intro hk
    obtain ⟨a, b, c⟩ := ih (by omega)
    obtain ⟨d, e, f⟩ := hw _ a (c (by omega))
    have g : backN FR s (k + 1) = FR (backN FR s k) := rfl
    rw [g]
    refine ⟨by omega, by omega, fun q => ?_⟩
    rcases Nat.eq_zero_or_pos (FR (backN FR s k)) with z | z
    · rw [z, h0] at f; omega
    · exact z
theorem i_dec (d : Nat) : Int32.ofNat d + (-1) = if d = 0 then -1 else Int32.ofNat (d - 1) := by
  by_cases c : d = 0
  · rw [if_pos c, c]; rfl
  · rw [if_neg c]
    obtain ⟨e, rfl⟩ : ∃ e, d = e + 1 := ⟨d - 1, by omega⟩
    rw [Nat.add_sub_cancel, ← i_add e 1]
    rw [show (-1 : Int32) = -Int32.ofNat 1 from rfl, ← Int32.sub_eq_add_neg, Int32.add_sub_cancel]
theorem i_dm1 (d : Nat) : Int32.ofNat d - 1 = if d = 0 then -1 else Int32.ofNat (d - 1) := by
  rw [← i_dec, Int32.sub_eq_add_neg]
theorem back_0 {n : Nat} {FR BY DP : Nat → Nat} (hw : ∀ i, i < n → 0 < i → FR i < i ∧ BY i < 27 ∧ DP i = DP (FR i) + 1) (h0 : DP 0 = 0) {s : Nat} (hs : s < n) (k : Nat) (hk : k ≤ DP s) : backN FR s k < n := (back_ok hw h0 hs k hk).1
theorem k_traced {l : Launch} {g : AG} {h0 : AH} {x n : Nat} {FR BY DP : Nat → Nat} {s : Nat} {Q : Int32 → AH → Prop} (hr0 : Refs h0) (hx : isM x) (hn : n ≤ 400) (hs : s < n) (hw : ∀ i, i < n → 0 < i → FR i < i ∧ BY i < 27 ∧ DP i = DP (FR i) + 1) (hd0 : DP 0 = 0) (hd : DP s ≤ 400) (hv : ∀ i, i < n → (0 < i → h0.1 (x + 3) i = Int32.ofNat (FR i) ∧ h0.1 (x + 4) i = Int32.ofNat (BY i)) ∧ h0.1 (x + 5) i = Int32.ofNat (DP i)) (hq : ∀ h', Refs h' → Fr (fun c _ => c = 101) h0 h' → (∀ k, k < DP s → h'.1 101 k = Int32.ofNat (wayTo FR BY DP s k)) → Q (Int32.ofNat (DP s)) h') : C_X6_traced l g h0 x (Int32.ofNat s) 101 Q := by
  have hxu : x = 75 ∨ x = 83 ∨ x = 94 := hx
  have loop : ∀ d k, k + d = DP s → ∀ h, Refs h → Fr (fun c _ => c = 101) h0 h → (∀ j, d ≤ j → j < DP s → h.1 101 j = Int32.ofNat (wayTo FR BY DP s j)) → L_X6_traced_12 l g h x (Int32.ofNat s) 101 (Int32.ofNat (backN FR s k)) (if d = 0 then -1 else Int32.ofNat (d - 1)) Q := by
    intro d
    induction d with
    | zero =>
      intro k hk h hr hf hj
      refine s_X6_traced_12 ⟨fun _ => ?_, fun c => absurd (by decide) c⟩
      rw [rfM_5 hr hx, szM_5 hx, i_cl (by omega), (hf (x + 5) s (by omega)).1, (hv s hs).2]
      exact ⟨isM_x hx, isM_5 hx, vi_ok (by omega) (by omega), hq h hr hf (fun j h1 => hj j (by omega) h1)⟩
    | succ d ih =>
      intro k hk h hr hf hj
      obtain ⟨b1, b2, b3⟩ := back_ok hw hd0 hs k (by omega)
      have b3 := b3 (by omega)
      have v := (hv _ b1).1 b3
      have w := hw _ b1 b3
      rw [if_neg (by omega), Nat.add_sub_cancel]
      refine s_X6_traced_12 ⟨fun c => absurd c (i_nn (by omega)), fun _ => ⟨fun c => absurd c (i_nn (by omega)), fun _ => ?_⟩⟩
      rw [sz_101]
      refine ⟨is_101, fun c => absurd ((i_le (by omega) (by omega)).1 c) (by omega), fun _ => ?_⟩
      rw [rfM_4 hr hx, szM_4 hx, i_cl (by omega), i_cl (by omega), (hf (x + 4) _ (by omega)).1, v.2, i_dec]
      refine ⟨isM_x hx, isM_4 hx, vi_ok (by omega) (by omega), vi_ok (by omega) (by omega), ?_⟩
      intro h23 e23
      have r23 : Refs h23 := by rw [e23]; exact hr.setI
      have f23 : Fr (fun c _ => c = 101) h0 h23 := by rw [e23]; exact hf.setI rfl
      rw [rfM_3 r23 hx, szM_3 hx, (f23 (x + 3) _ (by omega)).1, v.1]
      refine ⟨isM_3 hx, vi_ok (by omega) (by omega), ?_⟩
      intro v27 e27 v29 e29
      rw [e27, e29]
      refine ih (k + 1) (by omega) h23 r23 f23 (fun j h1 h2 => ?_)
      rw [e23]
      by_cases c : j = d
      · rw [gI_t rfl c, c]
        unfold wayTo
        rw [show DP s - 1 - d = k by omega]
      · rw [gI_p c]
        exact hj j (by omega) h2
  refine c_X6_traced (s_X6_traced_0 ?_)
  rw [rfM_5 hr0 hx, szM_5 hx, i_cl (by omega), (hv s hs).2, i_dm1]
  refine ⟨isM_x hx, isM_5 hx, vi_ok (by omega) (by omega), ?_⟩
  intro v4 e4
  rw [e4]
  exact loop (DP s) 0 (Nat.zero_add _) h0 hr0 (Fr.refl _ _) (fun j h1 h2 => absurd h1 (by omega))
theorem k_rowTo {l : Launch} {g : AG} {h0 : AH} {n : Nat} {FR BY DP : Nat → Nat} {s : Nat} {Q : Int32 → AH → Prop} (hn : n ≤ 400) (hs : s < n) (hw : ∀ i, i < n → 0 < i → FR i < i ∧ BY i < 27 ∧ DP i = DP (FR i) + 1) (hd0 : DP 0 = 0) (hd : DP s ≤ 400) (e40 : h0.1 103 40 = Int32.ofNat (DP s)) (hv : ∀ i, i < n → 0 < i → h0.1 135 i = Int32.ofNat (FR i) ∧ h0.1 136 i = Int32.ofNat (BY i)) (hq : ∀ h', Refs h' → Fr (fun c _ => c = 145) h0 h' → (∀ k, k < DP s → h'.1 145 k = Int32.ofNat (wayTo FR BY DP s k)) → Q (Int32.ofNat (DP s)) (ax_setI (ax_setI h' 103 1 0) 103 2 (-1))) : ∀ d k, k + d = DP s → ∀ h, Refs h → Fr (fun c _ => c = 145) h0 h → (∀ j, d ≤ j → j < DP s → h.1 145 j = Int32.ofNat (wayTo FR BY DP s j)) → L_X12_rowTo_53 l g h 103 (Int32.ofNat (backN FR s k)) (if d = 0 then -1 else Int32.ofNat (d - 1)) Q := by
  intro d
  induction d with
  | zero =>
    intro k hk h hr hf hj
    refine s_X12_rowTo_53 ⟨fun _ => ⟨is_103, ?_⟩, fun c => absurd (by decide) c⟩
    rw [(hf 103 40 (by omega)).1, e40]
    exact k_X12_done (hq h hr hf (fun j h1 => hj j (by omega) h1))
  | succ d ih =>
    intro k hk h hr hf hj
    obtain ⟨b1, b2, b3⟩ := back_ok hw hd0 hs k (by omega)
    have b3 := b3 (by omega)
    have v := hv _ b1 b3
    have w := hw _ b1 b3
    rw [if_neg (by omega), Nat.add_sub_cancel]
    refine s_X12_rowTo_53 ⟨fun c => absurd c (i_nn (by omega)), fun _ => ?_⟩
    rw [rf_103_39 hr, rf_103_29 hr, sz_136, sz_145, i_cl (by omega), i_cl (by omega), (hf 136 _ (by omega)).1, v.2, i_dec]
    refine ⟨is_103, is_145, is_136, vi_ok (by omega) (by omega), vi_ok (by omega) (by omega), ?_⟩
    intro h23 e23
    have r23 : Refs h23 := by rw [e23]; exact hr.setI
    have f23 : Fr (fun c _ => c = 145) h0 h23 := by rw [e23]; exact hf.setI rfl
    rw [rf_103_28 r23, sz_135, (f23 135 _ (by omega)).1, v.1]
    refine ⟨is_135, vi_ok (by omega) (by omega), ?_⟩
    intro v27 e27 v29 e29
    rw [e27, e29]
    refine ih (k + 1) (by omega) h23 r23 f23 (fun j h1 h2 => ?_)
    rw [e23]
    by_cases c : j = d
    · rw [gI_t rfl c, c]
      unfold wayTo
      rw [show DP s - 1 - d = k by omega]
    · rw [gI_p c]
      exact hj j (by omega) h2
theorem ob_rowTo {l : Launch} {g : AG} (h : AH) (a1 : Int32) (hI : Inv h) : C_X9_rowTo l g h 1 a1 (fun r h1 => C_X12_rowTo l g h1 103 a1 (fun r2 h2 => r2 = r ∧ Inv h2)) := by
  obtain ⟨X, Y, D, S, t, hI⟩ := hI
  have hr := hI.1
  refine c_X9_rowTo (s_X9_rowTo_0 ?_)
  rw [rf_1_6 hr]
  rcases hI.2.2.2.2.2.2.1 with ⟨z1, z2, z3⟩ | ⟨a, z1, z2, z3, z4, z5, n, ST, FR, BY, DP, LD, K, KD, m⟩
  · refine ⟨is_1, is_74, map_none hI z1 z2 ⟨fun z => absurd rfl z, fun _ => k_X9_refused ?_⟩⟩
    refine c_X12_rowTo (s_X12_rowTo_0 ⟨is_103, ?_⟩)
    intro h2 e2
    have : h2.1 103 24 = -1 := by rw [e2]; simp (disch := first | assumption | omega) only [true_and, and_true, forall_eq, true_implies, false_implies, implies_true, not_true_eq_false, not_false_eq_true, false_and, and_false, ne_eq, ite_true, ite_false, Nat.reduceLeDiff, Nat.reduceEqDiff, Nat.reduceLT, Nat.reduceAdd, Nat.reduceMul, Nat.reduceSub, Nat.le_refl, eq_self, li_0, li_1, li_2, li_3, li_4, li_5, li_6, li_7, li_8, li_9, li_10, li_11, li_12, li_13, li_14, li_15, li_16, li_17, li_18, li_19, li_20, li_21, li_22, li_23, li_24, li_25, li_26, li_27, li_28, li_29, li_30, li_31, li_32, li_44, li_48, li_57, li_59, li_60, li_61, li_62, li_63, li_97, li_100, li_122, li_123, li_125, li_127, li_255, li_400, li_401, li_800, li_1023, li_1024, li_10827, i_add, i_mul, i_sub, i_p1, i_m1, i_nm, i_nm2, i_cl, i_cl0, vi_ok, i_lt, i_le, i_eq, lg_e, gI_s, gI_c, gI_p, gI_L, gI_R, gL_s, gL_c, gL_p, gL_I, gL_R, gR_s, gR_c, gR_p, gR_I, gR_L]; exact z2
    rw [this]
    subst e2
    exact ⟨fun z => absurd rfl z, fun _ => ob_ref hI 6 (by decide)⟩
  · have hn := m.1.2.1
    have hdp := map_deep m.1
    have bad : (a1 < 0 ∨ Int32.ofNat n ≤ a1) → C_X12_rowTo l g (ax_setI h 1 12 1) 103 a1 (fun r2 h2 => r2 = -1 ∧ Inv h2) := by
      intro c
      refine c_X12_rowTo (s_X12_rowTo_0 ⟨is_103, ?_⟩)
      intro h2 e2
      obtain ⟨i1, f1, m1, w1, w2⟩ := map_in hI m 1 rfl e2
      have rf : C_X12_refused l g h2 103 1 (fun r2 h2 => r2 = -1 ∧ Inv h2) := by rw [e2]; exact ob_ref hI 1 (by decide)
      have w24 : h2.1 103 24 = Int32.ofNat a := by rw [w2]; exact z4
      refine ⟨fun _ => k_isState_n w24 z1 m1.2.2.2.2.1.1 hn c ⟨fun z => absurd rfl z, fun _ => rf⟩, fun q => absurd q (by rw [w24]; exact i_ne (by omega))⟩
    refine ⟨is_1, is_74, map_some z1 z3 ⟨fun _ => ?_, fun z => absurd z (by decide)⟩⟩
    have e75 : (if h.1 74 0 = -1 then 0 else h.1 75 0) = Int32.ofNat n := by rw [if_neg (by rw [z3]; exact i_ne (by omega)), m.2.2.1.1.1]
    rcases i_state n hn a1 with ⟨i, hi, rfl⟩ | c | ⟨c1, c2⟩
    · refine ⟨fun z => absurd z (i_nn (by omega)), fun _ => ?_⟩
      rw [rf_1_6 hr]
      refine ⟨is_74, k_X1_many hr ?_⟩
      rw [e75]
      have := hdp i hi
      simp (disch := first | assumption | omega) only [true_and, and_true, forall_eq, true_implies, false_implies, implies_true, not_true_eq_false, not_false_eq_true, false_and, and_false, ne_eq, ite_true, ite_false, Nat.reduceLeDiff, Nat.reduceEqDiff, Nat.reduceLT, Nat.reduceAdd, Nat.reduceMul, Nat.reduceSub, Nat.le_refl, eq_self, li_0, li_1, li_2, li_3, li_4, li_5, li_6, li_7, li_8, li_9, li_10, li_11, li_12, li_13, li_14, li_15, li_16, li_17, li_18, li_19, li_20, li_21, li_22, li_23, li_24, li_25, li_26, li_27, li_28, li_29, li_30, li_31, li_32, li_44, li_48, li_57, li_59, li_60, li_61, li_62, li_63, li_97, li_100, li_122, li_123, li_125, li_127, li_255, li_400, li_401, li_800, li_1023, li_1024, li_10827, i_add, i_mul, i_sub, i_p1, i_m1, i_nm, i_nm2, i_cl, i_cl0, vi_ok, i_lt, i_le, i_eq, lg_e, hi, rf_1_0, rf_1_2, rf_1_4, rf_1_5, rf_1_6, rf_1_7, rf_1_8, rf_1_10, is_1, is_2, sz_2, is_3, sz_3, is_67, sz_67, is_73, sz_73, is_74, sz_74, is_93, sz_93, is_101, sz_101, is_102, sz_102, rf_74_2, rf_74_3, rf_74_4, rf_74_6, rf_74_7, rf_74_8, is_74, is_75, sz_75, is_82, sz_82, is_83, sz_83, is_90, sz_90, is_91, sz_91, is_92, sz_92]
      refine k_traced hr (Or.inl rfl) hn hi m.1.2.2.2.2.2 m.1.2.2.2.2.1 (by omega) (fun j hj => ⟨fun j0 => ?_, ?_⟩) (fun h3 r3 f3 v3 => ?_)
      · have q := m.2.2.1.2 j hj
        rw [if_neg (by omega), if_neg (by omega)] at q
        exact ⟨q.1, q.2.1⟩
      · exact (m.2.2.1.2 j hj).2.2
      · simp (disch := first | assumption | omega) only [true_and, and_true, forall_eq, true_implies, false_implies, implies_true, not_true_eq_false, not_false_eq_true, false_and, and_false, ne_eq, ite_true, ite_false, Nat.reduceLeDiff, Nat.reduceEqDiff, Nat.reduceLT, Nat.reduceAdd, Nat.reduceMul, Nat.reduceSub, Nat.le_refl, eq_self, li_0, li_1, li_2, li_3, li_4, li_5, li_6, li_7, li_8, li_9, li_10, li_11, li_12, li_13, li_14, li_15, li_16, li_17, li_18, li_19, li_20, li_21, li_22, li_23, li_24, li_25, li_26, li_27, li_28, li_29, li_30, li_31, li_32, li_44, li_48, li_57, li_59, li_60, li_61, li_62, li_63, li_97, li_100, li_122, li_123, li_125, li_127, li_255, li_400, li_401, li_800, li_1023, li_1024, li_10827, i_add, i_mul, i_sub, i_p1, i_m1, i_nm, i_nm2, i_cl, i_cl0, vi_ok, i_lt, i_le, i_eq, lg_e, gI_s, gI_c, gI_p, gI_L, gI_R, gL_s, gL_c, gL_p, gL_I, gL_R, gR_s, gR_c, gR_p, gR_I, gR_L]
        refine k_X9_granted ?_
        refine c_X12_rowTo (s_X12_rowTo_0 ⟨is_103, ?_⟩)
        intro h2 e2
        have r2 : Refs h2 := by rw [e2]; exact r3.setI.setI.setI
        have f2 : Fr PR h h2 := by
          rw [e2]
          exact (((f3.mono (R := PR) (fun c p q => Or.inr (Or.inl q))).setI (Or.inr (Or.inr (Or.inr (Or.inl ⟨rfl, rfl⟩))))).setI (Or.inl PQ_112)).setI (Or.inl PQ_1030)
        have w112 : h2.1 1 12 = 0 := by rw [e2]; simp (disch := first | assumption | omega) only [true_and, and_true, forall_eq, true_implies, false_implies, implies_true, not_true_eq_false, not_false_eq_true, false_and, and_false, ne_eq, ite_true, ite_false, Nat.reduceLeDiff, Nat.reduceEqDiff, Nat.reduceLT, Nat.reduceAdd, Nat.reduceMul, Nat.reduceSub, Nat.le_refl, eq_self, li_0, li_1, li_2, li_3, li_4, li_5, li_6, li_7, li_8, li_9, li_10, li_11, li_12, li_13, li_14, li_15, li_16, li_17, li_18, li_19, li_20, li_21, li_22, li_23, li_24, li_25, li_26, li_27, li_28, li_29, li_30, li_31, li_32, li_44, li_48, li_57, li_59, li_60, li_61, li_62, li_63, li_97, li_100, li_122, li_123, li_125, li_127, li_255, li_400, li_401, li_800, li_1023, li_1024, li_10827, i_add, i_mul, i_sub, i_p1, i_m1, i_nm, i_nm2, i_cl, i_cl0, vi_ok, i_lt, i_le, i_eq, lg_e, gI_s, gI_c, gI_p, gI_L, gI_R, gL_s, gL_c, gL_p, gL_I, gL_R, gR_s, gR_c, gR_p, gR_I, gR_L]
        have w19 : h2.1 1 9 = Int32.ofNat (DP i) := by rw [e2]; simp (disch := first | assumption | omega) only [true_and, and_true, forall_eq, true_implies, false_implies, implies_true, not_true_eq_false, not_false_eq_true, false_and, and_false, ne_eq, ite_true, ite_false, Nat.reduceLeDiff, Nat.reduceEqDiff, Nat.reduceLT, Nat.reduceAdd, Nat.reduceMul, Nat.reduceSub, Nat.le_refl, eq_self, li_0, li_1, li_2, li_3, li_4, li_5, li_6, li_7, li_8, li_9, li_10, li_11, li_12, li_13, li_14, li_15, li_16, li_17, li_18, li_19, li_20, li_21, li_22, li_23, li_24, li_25, li_26, li_27, li_28, li_29, li_30, li_31, li_32, li_44, li_48, li_57, li_59, li_60, li_61, li_62, li_63, li_97, li_100, li_122, li_123, li_125, li_127, li_255, li_400, li_401, li_800, li_1023, li_1024, li_10827, i_add, i_mul, i_sub, i_p1, i_m1, i_nm, i_nm2, i_cl, i_cl0, vi_ok, i_lt, i_le, i_eq, lg_e, gI_s, gI_c, gI_p, gI_L, gI_R, gL_s, gL_c, gL_p, gL_I, gL_R, gR_s, gR_c, gR_p, gR_I, gR_L]
        have w101 : ∀ k, k < DP i → h2.1 101 k = Int32.ofNat (wayTo FR BY DP i k) := fun k hk => by rw [e2]; simp (disch := first | assumption | omega) only [true_and, and_true, forall_eq, true_implies, false_implies, implies_true, not_true_eq_false, not_false_eq_true, false_and, and_false, ne_eq, ite_true, ite_false, Nat.reduceLeDiff, Nat.reduceEqDiff, Nat.reduceLT, Nat.reduceAdd, Nat.reduceMul, Nat.reduceSub, Nat.le_refl, eq_self, li_0, li_1, li_2, li_3, li_4, li_5, li_6, li_7, li_8, li_9, li_10, li_11, li_12, li_13, li_14, li_15, li_16, li_17, li_18, li_19, li_20, li_21, li_22, li_23, li_24, li_25, li_26, li_27, li_28, li_29, li_30, li_31, li_32, li_44, li_48, li_57, li_59, li_60, li_61, li_62, li_63, li_97, li_100, li_122, li_123, li_125, li_127, li_255, li_400, li_401, li_800, li_1023, li_1024, li_10827, i_add, i_mul, i_sub, i_p1, i_m1, i_nm, i_nm2, i_cl, i_cl0, vi_ok, i_lt, i_le, i_eq, lg_e, gI_s, gI_c, gI_p, gI_L, gI_R, gL_s, gL_c, gL_p, gL_I, gL_R, gR_s, gR_c, gR_p, gR_I, gR_L]; exact v3 k hk
        have m2 : MapI h2 (D a) n ST FR BY DP LD K KD := m.fr f2 (fun c p q => by
          rcases q with q | q | q | q | q
          · exact PQ_map q
          · unfold PMAP; omega
          · unfold PMAP; omega
          · unfold PMAP; omega
          · unfold PMAP; omega)
        have w24 : h2.1 103 24 = Int32.ofNat a := by rw [e2]; simp (disch := first | assumption | omega) only [true_and, and_true, forall_eq, true_implies, false_implies, implies_true, not_true_eq_false, not_false_eq_true, false_and, and_false, ne_eq, ite_true, ite_false, Nat.reduceLeDiff, Nat.reduceEqDiff, Nat.reduceLT, Nat.reduceAdd, Nat.reduceMul, Nat.reduceSub, Nat.le_refl, eq_self, li_0, li_1, li_2, li_3, li_4, li_5, li_6, li_7, li_8, li_9, li_10, li_11, li_12, li_13, li_14, li_15, li_16, li_17, li_18, li_19, li_20, li_21, li_22, li_23, li_24, li_25, li_26, li_27, li_28, li_29, li_30, li_31, li_32, li_44, li_48, li_57, li_59, li_60, li_61, li_62, li_63, li_97, li_100, li_122, li_123, li_125, li_127, li_255, li_400, li_401, li_800, li_1023, li_1024, li_10827, i_add, i_mul, i_sub, i_p1, i_m1, i_nm, i_nm2, i_cl, i_cl0, vi_ok, i_lt, i_le, i_eq, lg_e, gI_s, gI_c, gI_p, gI_L, gI_R, gL_s, gL_c, gL_p, gL_I, gL_R, gR_s, gR_c, gR_p, gR_I, gR_L]; rw [(f3 103 24 (by decide)).1]; exact z4
        clear e2
        refine ⟨fun _ => k_isState_y w24 z1 m2.2.2.2.2.1.1 hn hi ⟨fun _ => ?_, fun z => absurd z (by decide)⟩, fun q => absurd q (by rw [w24]; exact i_ne (by omega))⟩
        rw [rf_103_30 r2, sz_137, i_cl (by omega), (m2.2.2.2.2.1.2 i hi).2.2.2.2]
        refine ⟨is_137, vi_ok (by omega) (by omega), ?_⟩
        intro h11 e11
        have r11 : Refs h11 := by rw [e11]; exact r2.setI
        have e40 : h11.1 103 40 = Int32.ofNat (DP i) := by rw [e11, gI_s]
        have f11 : Fr PR h h11 := by rw [e11]; exact f2.setI (Or.inr (Or.inr (Or.inr (Or.inr ⟨rfl, rfl⟩))))
        rw [e40, i_dm1]
        intro v13 e13
        rw [e13]
        refine k_rowTo (h0 := h11) hn hi m.1.2.2.2.2.2 m.1.2.2.2.2.1 (by omega) e40 (fun j hj j0 => ?_) (fun h4 r4 f4 v4 => ?_) (DP i) 0 (Nat.zero_add _) h11 r11 (Fr.refl _ _) (fun j h1 h2 => absurd h1 (by omega))
        · have q := m2.2.2.2.2.1.2 j hj
          rw [if_neg (by omega), if_neg (by omega)] at q
          rw [e11, gI_c (by omega), gI_c (by omega)]
          exact ⟨q.2.2.1, q.2.2.2.1⟩
        · refine ⟨rfl, ?_⟩
          have fe := ((f11.trans (f4.mono (R := PR) (fun c p q => Or.inr (Or.inr (Or.inl q))))).setI (v := 0) (Or.inl PQ_1031)).setI (v := -1) (Or.inl PQ_1032)
          refine inv_row hI fe r4.setI.setI ?_ 0 (by decide) ?_ ?_ ?_
          · refine ⟨DP i, wayTo FR BY DP i, by omega, ?_, ?_, fun k hk => ⟨?_, ?_, ?_⟩⟩
            · simp (disch := first | assumption | omega) only [true_and, and_true, forall_eq, true_implies, false_implies, implies_true, not_true_eq_false, not_false_eq_true, false_and, and_false, ne_eq, ite_true, ite_false, Nat.reduceLeDiff, Nat.reduceEqDiff, Nat.reduceLT, Nat.reduceAdd, Nat.reduceMul, Nat.reduceSub, Nat.le_refl, eq_self, li_0, li_1, li_2, li_3, li_4, li_5, li_6, li_7, li_8, li_9, li_10, li_11, li_12, li_13, li_14, li_15, li_16, li_17, li_18, li_19, li_20, li_21, li_22, li_23, li_24, li_25, li_26, li_27, li_28, li_29, li_30, li_31, li_32, li_44, li_48, li_57, li_59, li_60, li_61, li_62, li_63, li_97, li_100, li_122, li_123, li_125, li_127, li_255, li_400, li_401, li_800, li_1023, li_1024, li_10827, i_add, i_mul, i_sub, i_p1, i_m1, i_nm, i_nm2, i_cl, i_cl0, vi_ok, i_lt, i_le, i_eq, lg_e, gI_s, gI_c, gI_p, gI_L, gI_R, gL_s, gL_c, gL_p, gL_I, gL_R, gR_s, gR_c, gR_p, gR_I, gR_L]; rw [(f4 1 9 (by decide)).1, e11, gI_c (by omega)]; exact w19
            · simp (disch := first | assumption | omega) only [true_and, and_true, forall_eq, true_implies, false_implies, implies_true, not_true_eq_false, not_false_eq_true, false_and, and_false, ne_eq, ite_true, ite_false, Nat.reduceLeDiff, Nat.reduceEqDiff, Nat.reduceLT, Nat.reduceAdd, Nat.reduceMul, Nat.reduceSub, Nat.le_refl, eq_self, li_0, li_1, li_2, li_3, li_4, li_5, li_6, li_7, li_8, li_9, li_10, li_11, li_12, li_13, li_14, li_15, li_16, li_17, li_18, li_19, li_20, li_21, li_22, li_23, li_24, li_25, li_26, li_27, li_28, li_29, li_30, li_31, li_32, li_44, li_48, li_57, li_59, li_60, li_61, li_62, li_63, li_97, li_100, li_122, li_123, li_125, li_127, li_255, li_400, li_401, li_800, li_1023, li_1024, li_10827, i_add, i_mul, i_sub, i_p1, i_m1, i_nm, i_nm2, i_cl, i_cl0, vi_ok, i_lt, i_le, i_eq, lg_e, gI_s, gI_c, gI_p, gI_L, gI_R, gL_s, gL_c, gL_p, gL_I, gL_R, gR_s, gR_c, gR_p, gR_I, gR_L]; rw [(f4 103 40 (by decide)).1]; exact e40
            · have q := back_ok m.1.2.2.2.2.2 m.1.2.2.2.2.1 hi (DP i - 1 - k) (by omega)
              have := (m.1.2.2.2.2.2 _ q.1 (q.2.2 (by omega))).2.1
              unfold wayTo
              omega
            · simp (disch := first | assumption | omega) only [true_and, and_true, forall_eq, true_implies, false_implies, implies_true, not_true_eq_false, not_false_eq_true, false_and, and_false, ne_eq, ite_true, ite_false, Nat.reduceLeDiff, Nat.reduceEqDiff, Nat.reduceLT, Nat.reduceAdd, Nat.reduceMul, Nat.reduceSub, Nat.le_refl, eq_self, li_0, li_1, li_2, li_3, li_4, li_5, li_6, li_7, li_8, li_9, li_10, li_11, li_12, li_13, li_14, li_15, li_16, li_17, li_18, li_19, li_20, li_21, li_22, li_23, li_24, li_25, li_26, li_27, li_28, li_29, li_30, li_31, li_32, li_44, li_48, li_57, li_59, li_60, li_61, li_62, li_63, li_97, li_100, li_122, li_123, li_125, li_127, li_255, li_400, li_401, li_800, li_1023, li_1024, li_10827, i_add, i_mul, i_sub, i_p1, i_m1, i_nm, i_nm2, i_cl, i_cl0, vi_ok, i_lt, i_le, i_eq, lg_e, gI_s, gI_c, gI_p, gI_L, gI_R, gL_s, gL_c, gL_p, gL_I, gL_R, gR_s, gR_c, gR_p, gR_I, gR_L]; rw [(f4 101 k (by omega)).1, e11, gI_c (by omega)]; exact w101 k hk
            · simp (disch := first | assumption | omega) only [true_and, and_true, forall_eq, true_implies, false_implies, implies_true, not_true_eq_false, not_false_eq_true, false_and, and_false, ne_eq, ite_true, ite_false, Nat.reduceLeDiff, Nat.reduceEqDiff, Nat.reduceLT, Nat.reduceAdd, Nat.reduceMul, Nat.reduceSub, Nat.le_refl, eq_self, li_0, li_1, li_2, li_3, li_4, li_5, li_6, li_7, li_8, li_9, li_10, li_11, li_12, li_13, li_14, li_15, li_16, li_17, li_18, li_19, li_20, li_21, li_22, li_23, li_24, li_25, li_26, li_27, li_28, li_29, li_30, li_31, li_32, li_44, li_48, li_57, li_59, li_60, li_61, li_62, li_63, li_97, li_100, li_122, li_123, li_125, li_127, li_255, li_400, li_401, li_800, li_1023, li_1024, li_10827, i_add, i_mul, i_sub, i_p1, i_m1, i_nm, i_nm2, i_cl, i_cl0, vi_ok, i_lt, i_le, i_eq, lg_e, gI_s, gI_c, gI_p, gI_L, gI_R, gL_s, gL_c, gL_p, gL_I, gL_R, gR_s, gR_c, gR_p, gR_I, gR_L]; exact v4 k hk
          · simp (disch := first | assumption | omega) only [true_and, and_true, forall_eq, true_implies, false_implies, implies_true, not_true_eq_false, not_false_eq_true, false_and, and_false, ne_eq, ite_true, ite_false, Nat.reduceLeDiff, Nat.reduceEqDiff, Nat.reduceLT, Nat.reduceAdd, Nat.reduceMul, Nat.reduceSub, Nat.le_refl, eq_self, li_0, li_1, li_2, li_3, li_4, li_5, li_6, li_7, li_8, li_9, li_10, li_11, li_12, li_13, li_14, li_15, li_16, li_17, li_18, li_19, li_20, li_21, li_22, li_23, li_24, li_25, li_26, li_27, li_28, li_29, li_30, li_31, li_32, li_44, li_48, li_57, li_59, li_60, li_61, li_62, li_63, li_97, li_100, li_122, li_123, li_125, li_127, li_255, li_400, li_401, li_800, li_1023, li_1024, li_10827, i_add, i_mul, i_sub, i_p1, i_m1, i_nm, i_nm2, i_cl, i_cl0, vi_ok, i_lt, i_le, i_eq, lg_e, gI_s, gI_c, gI_p, gI_L, gI_R, gL_s, gL_c, gL_p, gL_I, gL_R, gR_s, gR_c, gR_p, gR_I, gR_L]; rw [(f4 1 12 (by decide)).1, e11, gI_c (by omega)]; exact w112
          · simp (disch := first | assumption | omega) only [true_and, and_true, forall_eq, true_implies, false_implies, implies_true, not_true_eq_false, not_false_eq_true, false_and, and_false, ne_eq, ite_true, ite_false, Nat.reduceLeDiff, Nat.reduceEqDiff, Nat.reduceLT, Nat.reduceAdd, Nat.reduceMul, Nat.reduceSub, Nat.le_refl, eq_self, li_0, li_1, li_2, li_3, li_4, li_5, li_6, li_7, li_8, li_9, li_10, li_11, li_12, li_13, li_14, li_15, li_16, li_17, li_18, li_19, li_20, li_21, li_22, li_23, li_24, li_25, li_26, li_27, li_28, li_29, li_30, li_31, li_32, li_44, li_48, li_57, li_59, li_60, li_61, li_62, li_63, li_97, li_100, li_122, li_123, li_125, li_127, li_255, li_400, li_401, li_800, li_1023, li_1024, li_10827, i_add, i_mul, i_sub, i_p1, i_m1, i_nm, i_nm2, i_cl, i_cl0, vi_ok, i_lt, i_le, i_eq, lg_e, gI_s, gI_c, gI_p, gI_L, gI_R, gL_s, gL_c, gL_p, gL_I, gL_R, gR_s, gR_c, gR_p, gR_I, gR_L]
          · simp (disch := first | assumption | omega) only [true_and, and_true, forall_eq, true_implies, false_implies, implies_true, not_true_eq_false, not_false_eq_true, false_and, and_false, ne_eq, ite_true, ite_false, Nat.reduceLeDiff, Nat.reduceEqDiff, Nat.reduceLT, Nat.reduceAdd, Nat.reduceMul, Nat.reduceSub, Nat.le_refl, eq_self, li_0, li_1, li_2, li_3, li_4, li_5, li_6, li_7, li_8, li_9, li_10, li_11, li_12, li_13, li_14, li_15, li_16, li_17, li_18, li_19, li_20, li_21, li_22, li_23, li_24, li_25, li_26, li_27, li_28, li_29, li_30, li_31, li_32, li_44, li_48, li_57, li_59, li_60, li_61, li_62, li_63, li_97, li_100, li_122, li_123, li_125, li_127, li_255, li_400, li_401, li_800, li_1023, li_1024, li_10827, i_add, i_mul, i_sub, i_p1, i_m1, i_nm, i_nm2, i_cl, i_cl0, vi_ok, i_lt, i_le, i_eq, lg_e, gI_s, gI_c, gI_p, gI_L, gI_R, gL_s, gL_c, gL_p, gL_I, gL_R, gR_s, gR_c, gR_p, gR_I, gR_L]
    · exact ⟨fun _ => k_X9_refused (bad (Or.inl c)), fun q => absurd c q⟩
    · refine ⟨fun q => absurd q c1, fun _ => ?_⟩
      rw [rf_1_6 hr]
      refine ⟨is_74, k_X1_many hr ?_⟩
      rw [e75]
      refine ⟨fun q => ?_, fun _ => k_X9_refused (bad (Or.inr c2))⟩
      rw [Int32.lt_iff_toInt_lt] at q
      rw [Int32.le_iff_toInt_le] at c2
      omega
