/-- the class's text -/
def TapC (h : AH) (T : Nat → Nat) (n : Nat) : Prop := h.2.2 68 0 = 2 ∧ h.1 68 1 = Int32.ofNat n ∧ ∀ k, k < n → T k < 256 ∧ h.1 2 k = Int32.ofNat (T k)
def PSc (c p : Nat) : Prop := c = 68 ∧ 2 ≤ p
theorem TapC.fr {P : Nat → Nat → Prop} {h h1 : AH} {T : Nat → Nat} {n : Nat} (t : TapC h T n) (f : Fr P h h1) (e : ∀ c p, P c p → c ≠ 2 ∧ ¬ (c = 68 ∧ p < 2)) : TapC h1 T n := by
  obtain ⟨t1, t2, t3⟩ := t
  refine ⟨?_, ?_, fun k hk => ?_⟩
  · rw [(f 68 0 (fun q => (e _ _ q).2 ⟨rfl, by omega⟩)).2.2]; exact t1
  · rw [(f 68 1 (fun q => (e _ _ q).2 ⟨rfl, by omega⟩)).1]; exact t2
  · rw [(f 2 k (fun q => (e _ _ q).1 rfl)).1]; exact t3 k hk
theorem k_isLetter {l : Launch} {g : AG} {h : AH} {c : Nat} {Q : Int32 → AH → Prop} (hc : c < 2147483648) (q1 : isLe c = true → Q 1 h) (q0 : isLe c = false → Q 0 h) : C_X8_isLetter l g h (Int32.ofNat c) Q := by
  refine c_X8_isLetter (s_X8_isLetter_0 ?_)
  simp (disch := first | assumption | omega) only [true_and, and_true, forall_eq, true_implies, false_implies, implies_true, not_true_eq_false, not_false_eq_true, false_and, and_false, ne_eq, ite_true, ite_false, Nat.reduceLeDiff, Nat.reduceEqDiff, Nat.reduceLT, Nat.reduceAdd, Nat.reduceMul, Nat.reduceSub, Nat.le_refl, eq_self, li_0, li_1, li_2, li_3, li_4, li_5, li_6, li_7, li_8, li_9, li_10, li_11, li_12, li_13, li_14, li_15, li_16, li_17, li_18, li_19, li_20, li_21, li_22, li_23, li_24, li_25, li_26, li_27, li_28, li_29, li_30, li_31, li_32, li_44, li_48, li_57, li_59, li_60, li_61, li_62, li_63, li_97, li_100, li_122, li_123, li_125, li_127, li_255, li_400, li_401, li_800, li_1023, li_1024, li_10827, i_add, i_mul, i_sub, i_p1, i_m1, i_nm, i_nm2, i_cl, i_cl0, vi_ok, i_lt, i_le, i_eq, lg_e]
  refine ⟨fun z => q0 (decide_eq_false (by omega)), fun z => ⟨fun y => q0 (decide_eq_false (by omega)), fun y => q1 (decide_eq_true (by omega))⟩⟩
theorem k_isDigit {l : Launch} {g : AG} {h : AH} {c : Nat} {Q : Int32 → AH → Prop} (hc : c < 2147483648) (q1 : isDi c = true → Q 1 h) (q0 : isDi c = false → Q 0 h) : C_X8_isDigit l g h (Int32.ofNat c) Q := by
  refine c_X8_isDigit (s_X8_isDigit_0 ?_)
  simp (disch := first | assumption | omega) only [true_and, and_true, forall_eq, true_implies, false_implies, implies_true, not_true_eq_false, not_false_eq_true, false_and, and_false, ne_eq, ite_true, ite_false, Nat.reduceLeDiff, Nat.reduceEqDiff, Nat.reduceLT, Nat.reduceAdd, Nat.reduceMul, Nat.reduceSub, Nat.le_refl, eq_self, li_0, li_1, li_2, li_3, li_4, li_5, li_6, li_7, li_8, li_9, li_10, li_11, li_12, li_13, li_14, li_15, li_16, li_17, li_18, li_19, li_20, li_21, li_22, li_23, li_24, li_25, li_26, li_27, li_28, li_29, li_30, li_31, li_32, li_44, li_48, li_57, li_59, li_60, li_61, li_62, li_63, li_97, li_100, li_122, li_123, li_125, li_127, li_255, li_400, li_401, li_800, li_1023, li_1024, li_10827, i_add, i_mul, i_sub, i_p1, i_m1, i_nm, i_nm2, i_cl, i_cl0, vi_ok, i_lt, i_le, i_eq, lg_e]
  refine ⟨fun z => q0 (decide_eq_false (by omega)), fun z => ⟨fun y => q0 (decide_eq_false (by omega)), fun y => q1 (decide_eq_true (by omega))⟩⟩
theorem k_isComparison {l : Launch} {g : AG} {h : AH} {c : Nat} {Q : Int32 → AH → Prop} (hc : c < 2147483648) (q1 : c = 61 ∨ c = 60 ∨ c = 62 → Q 1 h) (q0 : ¬ (c = 61 ∨ c = 60 ∨ c = 62) → Q 0 h) : C_X8_isComparison l g h (Int32.ofNat c) Q := by
  refine c_X8_isComparison (s_X8_isComparison_0 ?_)
  simp (disch := first | assumption | omega) only [true_and, and_true, forall_eq, true_implies, false_implies, implies_true, not_true_eq_false, not_false_eq_true, false_and, and_false, ne_eq, ite_true, ite_false, Nat.reduceLeDiff, Nat.reduceEqDiff, Nat.reduceLT, Nat.reduceAdd, Nat.reduceMul, Nat.reduceSub, Nat.le_refl, eq_self, li_0, li_1, li_2, li_3, li_4, li_5, li_6, li_7, li_8, li_9, li_10, li_11, li_12, li_13, li_14, li_15, li_16, li_17, li_18, li_19, li_20, li_21, li_22, li_23, li_24, li_25, li_26, li_27, li_28, li_29, li_30, li_31, li_32, li_44, li_48, li_57, li_59, li_60, li_61, li_62, li_63, li_97, li_100, li_122, li_123, li_125, li_127, li_255, li_400, li_401, li_800, li_1023, li_1024, li_10827, i_add, i_mul, i_sub, i_p1, i_m1, i_nm, i_nm2, i_cl, i_cl0, vi_ok, i_lt, i_le, i_eq, lg_e]
  exact ⟨fun z => q1 (by omega), fun z => ⟨fun y => q1 (by omega), fun y => ⟨fun x => q0 (by omega), fun x => q1 (by omega)⟩⟩⟩
theorem k_isSign {l : Launch} {g : AG} {h : AH} {c : Nat} {Q : Int32 → AH → Prop} (hc : c < 2147483648) (q1 : isSi c = true → Q 1 h) (q0 : isSi c = false → Q 0 h) : C_X8_isSign l g h (Int32.ofNat c) Q := by
  refine c_X8_isSign (s_X8_isSign_0 ?_)
  simp (disch := first | assumption | omega) only [true_and, and_true, forall_eq, true_implies, false_implies, implies_true, not_true_eq_false, not_false_eq_true, false_and, and_false, ne_eq, ite_true, ite_false, Nat.reduceLeDiff, Nat.reduceEqDiff, Nat.reduceLT, Nat.reduceAdd, Nat.reduceMul, Nat.reduceSub, Nat.le_refl, eq_self, li_0, li_1, li_2, li_3, li_4, li_5, li_6, li_7, li_8, li_9, li_10, li_11, li_12, li_13, li_14, li_15, li_16, li_17, li_18, li_19, li_20, li_21, li_22, li_23, li_24, li_25, li_26, li_27, li_28, li_29, li_30, li_31, li_32, li_44, li_48, li_57, li_59, li_60, li_61, li_62, li_63, li_97, li_100, li_122, li_123, li_125, li_127, li_255, li_400, li_401, li_800, li_1023, li_1024, li_10827, i_add, i_mul, i_sub, i_p1, i_m1, i_nm, i_nm2, i_cl, i_cl0, vi_ok, i_lt, i_le, i_eq, lg_e]
  refine ⟨fun z => q1 (decide_eq_true (by omega)), fun z => ⟨fun y => q1 (decide_eq_true (by omega)), fun y => ⟨fun x => q1 (decide_eq_true (by omega)), fun x => ⟨fun w => q1 (decide_eq_true (by omega)), fun w => ?_⟩⟩⟩⟩
  refine k_isComparison hc (fun v => ?_) (fun v => ?_)
  · exact ⟨fun u => absurd u (by decide), fun u => q1 (decide_eq_true (by omega))⟩
  · exact ⟨fun u => q0 (decide_eq_false (by omega)), fun u => absurd rfl u⟩
/-- the class's TOKEN -/
def TokC (h : AH) (t : Nat × Nat × Nat × Nat) : Prop := h.1 68 3 = Int32.ofNat t.1 ∧ h.1 68 4 = Int32.ofNat t.2.2.1 ∧ h.1 68 2 = Int32.ofNat t.2.2.2 ∧ (t.1 = 1 → h.2.1 68 5 = Int64.ofNat (cwf 8 t.2.1)) ∧ (t.1 = 2 → h.1 68 6 = Int32.ofNat t.2.1)
theorem k_goOverWord {l : Launch} {g : AG} {h0 : AH} {T : Nat → Nat} {n s : Nat} {Q : AH → Prop} (hn : n ≤ 800) (hs : s ≤ n) (t0 : TapC h0 T n) (a0 : h0.1 68 2 = Int32.ofNat s) (p0 : h0.1 68 4 = Int32.ofNat s)
    (hq : ∀ h', Refs h' → Fr PSc h0 h' → h'.1 68 4 = Int32.ofNat s → h'.1 68 2 = Int32.ofNat (runF isLe (bt T n) 801 s) → h'.1 68 3 = Int32.ofNat (if runF isLe (bt T n) 801 s - s ≤ 8 then 1 else 3) → (runF isLe (bt T n) 801 s - s ≤ 8 → h'.2.1 68 5 = Int64.ofNat (cwf 8 (wM (bt T n) s (runF isLe (bt T n) 801 s - s)))) → Q h') (hr0 : Refs h0) : C_X8_goOverWord l g h0 68 Q := by
  obtain ⟨e1, e2, e3, e4⟩ := run_bt (q := isLe) (T := T) (by decide) hn hs
  revert hq e1 e2 e3 e4
  generalize runF isLe (bt T n) 801 s = e
  intro hq e1 e2 e3 e4
  have lets : ∀ i, i < e - s → 97 ≤ bt T n (s + i) ∧ bt T n (s + i) ≤ 122 := fun i hi => le_iff.1 (e3 (s + i) (by omega) (by omega))
  have fin : ∀ h, Refs h → Fr PSc h0 h → h.1 68 4 = Int32.ofNat s → h.1 68 2 = Int32.ofNat e → (e - s ≤ 8 → h.2.1 68 5 = Int64.ofNat (wC (bt T n) s (e - s))) → L_X8_goOverWord_66 l g h 68 Q := by
    intro h hr f v4 v2 v5
    refine s_X8_goOverWord_66 ?_
    rw [v4, v2]
    simp (disch := first | assumption | omega) only [true_and, and_true, forall_eq, true_implies, false_implies, implies_true, not_true_eq_false, not_false_eq_true, false_and, and_false, ne_eq, ite_true, ite_false, Nat.reduceLeDiff, Nat.reduceEqDiff, Nat.reduceLT, Nat.reduceAdd, Nat.reduceMul, Nat.reduceSub, Nat.le_refl, eq_self, li_0, li_1, li_2, li_3, li_4, li_5, li_6, li_7, li_8, li_9, li_10, li_11, li_12, li_13, li_14, li_15, li_16, li_17, li_18, li_19, li_20, li_21, li_22, li_23, li_24, li_25, li_26, li_27, li_28, li_29, li_30, li_31, li_32, li_44, li_48, li_57, li_59, li_60, li_61, li_62, li_63, li_97, li_100, li_122, li_123, li_125, li_127, li_255, li_400, li_401, li_800, li_1023, li_1024, li_10827, i_add, i_mul, i_sub, i_p1, i_m1, i_nm, i_nm2, i_cl, i_cl0, vi_ok, i_lt, i_le, i_eq, lg_e, is_68]
    have w5 : e - s ≤ 8 → h.2.1 68 5 = Int64.ofNat (cwf 8 (wM (bt T n) s (e - s))) := fun z => by rw [cwf_wM _ 8 z lets]; exact v5 z
    refine ⟨fun z => hq _ hr.setI (f.setI ⟨rfl, by omega⟩) (by simp (disch := first | assumption | omega) only [true_and, and_true, forall_eq, true_implies, false_implies, implies_true, not_true_eq_false, not_false_eq_true, false_and, and_false, ne_eq, ite_true, ite_false, Nat.reduceLeDiff, Nat.reduceEqDiff, Nat.reduceLT, Nat.reduceAdd, Nat.reduceMul, Nat.reduceSub, Nat.le_refl, eq_self, li_0, li_1, li_2, li_3, li_4, li_5, li_6, li_7, li_8, li_9, li_10, li_11, li_12, li_13, li_14, li_15, li_16, li_17, li_18, li_19, li_20, li_21, li_22, li_23, li_24, li_25, li_26, li_27, li_28, li_29, li_30, li_31, li_32, li_44, li_48, li_57, li_59, li_60, li_61, li_62, li_63, li_97, li_100, li_122, li_123, li_125, li_127, li_255, li_400, li_401, li_800, li_1023, li_1024, li_10827, i_add, i_mul, i_sub, i_p1, i_m1, i_nm, i_nm2, i_cl, i_cl0, vi_ok, i_lt, i_le, i_eq, lg_e, gI_s, gI_c, gI_p, gI_L, gI_R, gL_s, gL_c, gL_p, gL_I, gL_R, gR_s, gR_c, gR_p, gR_I, gR_L]; exact v4) (by simp (disch := first | assumption | omega) only [true_and, and_true, forall_eq, true_implies, false_implies, implies_true, not_true_eq_false, not_false_eq_true, false_and, and_false, ne_eq, ite_true, ite_false, Nat.reduceLeDiff, Nat.reduceEqDiff, Nat.reduceLT, Nat.reduceAdd, Nat.reduceMul, Nat.reduceSub, Nat.le_refl, eq_self, li_0, li_1, li_2, li_3, li_4, li_5, li_6, li_7, li_8, li_9, li_10, li_11, li_12, li_13, li_14, li_15, li_16, li_17, li_18, li_19, li_20, li_21, li_22, li_23, li_24, li_25, li_26, li_27, li_28, li_29, li_30, li_31, li_32, li_44, li_48, li_57, li_59, li_60, li_61, li_62, li_63, li_97, li_100, li_122, li_123, li_125, li_127, li_255, li_400, li_401, li_800, li_1023, li_1024, li_10827, i_add, i_mul, i_sub, i_p1, i_m1, i_nm, i_nm2, i_cl, i_cl0, vi_ok, i_lt, i_le, i_eq, lg_e, gI_s, gI_c, gI_p, gI_L, gI_R, gL_s, gL_c, gL_p, gL_I, gL_R, gR_s, gR_c, gR_p, gR_I, gR_L]; exact v2) (by rw [gI_s, if_pos z]) (fun y => w5 y), fun z => hq _ hr.setI (f.setI ⟨rfl, by omega⟩) (by simp (disch := first | assumption | omega) only [true_and, and_true, forall_eq, true_implies, false_implies, implies_true, not_true_eq_false, not_false_eq_true, false_and, and_false, ne_eq, ite_true, ite_false, Nat.reduceLeDiff, Nat.reduceEqDiff, Nat.reduceLT, Nat.reduceAdd, Nat.reduceMul, Nat.reduceSub, Nat.le_refl, eq_self, li_0, li_1, li_2, li_3, li_4, li_5, li_6, li_7, li_8, li_9, li_10, li_11, li_12, li_13, li_14, li_15, li_16, li_17, li_18, li_19, li_20, li_21, li_22, li_23, li_24, li_25, li_26, li_27, li_28, li_29, li_30, li_31, li_32, li_44, li_48, li_57, li_59, li_60, li_61, li_62, li_63, li_97, li_100, li_122, li_123, li_125, li_127, li_255, li_400, li_401, li_800, li_1023, li_1024, li_10827, i_add, i_mul, i_sub, i_p1, i_m1, i_nm, i_nm2, i_cl, i_cl0, vi_ok, i_lt, i_le, i_eq, lg_e, gI_s, gI_c, gI_p, gI_L, gI_R, gL_s, gL_c, gL_p, gL_I, gL_R, gR_s, gR_c, gR_p, gR_I, gR_L]; exact v4) (by simp (disch := first | assumption | omega) only [true_and, and_true, forall_eq, true_implies, false_implies, implies_true, not_true_eq_false, not_false_eq_true, false_and, and_false, ne_eq, ite_true, ite_false, Nat.reduceLeDiff, Nat.reduceEqDiff, Nat.reduceLT, Nat.reduceAdd, Nat.reduceMul, Nat.reduceSub, Nat.le_refl, eq_self, li_0, li_1, li_2, li_3, li_4, li_5, li_6, li_7, li_8, li_9, li_10, li_11, li_12, li_13, li_14, li_15, li_16, li_17, li_18, li_19, li_20, li_21, li_22, li_23, li_24, li_25, li_26, li_27, li_28, li_29, li_30, li_31, li_32, li_44, li_48, li_57, li_59, li_60, li_61, li_62, li_63, li_97, li_100, li_122, li_123, li_125, li_127, li_255, li_400, li_401, li_800, li_1023, li_1024, li_10827, i_add, i_mul, i_sub, i_p1, i_m1, i_nm, i_nm2, i_cl, i_cl0, vi_ok, i_lt, i_le, i_eq, lg_e, gI_s, gI_c, gI_p, gI_L, gI_R, gL_s, gL_c, gL_p, gL_I, gL_R, gR_s, gR_c, gR_p, gR_I, gR_L]; exact v2) (by rw [gI_s, if_neg z]) (fun y => w5 y)⟩
  have loop : ∀ d k, s + k + d = e → ∀ h, Refs h → Fr PSc h0 h → h.1 68 4 = Int32.ofNat s → h.1 68 2 = Int32.ofNat (s + k) → (k ≤ 8 → h.2.1 68 5 = Int64.ofNat (wC (bt T n) s k)) → L_X8_goOverWord_5 l g h 68 Q := by
    intro d
    induction d with
    | zero =>
      intro k hk h hr f v4 v2 v5
      have te : TapC h T n := t0.fr f (fun c p q => by unfold PSc at q; omega)
      have ek : e - s = k := by omega
      have ef := fin h hr f v4 (by rw [v2, show s + k = e by omega]) (by rw [ek]; exact v5)
      refine s_X8_goOverWord_5 ?_
      rw [te.1, te.2.1, v2]
      refine ⟨is_68, fun _ => ef, fun z => ?_⟩
      have hlt : s + k < n := by
        rcases Nat.lt_or_ge (s + k) n with y | y
        · exact y
        · exact absurd ((i_le (by omega) (by omega)).2 y) z
      rw [i_cl (by omega), (te.2.2 (s + k) hlt).2]
      have t256 := (te.2.2 (s + k) hlt).1
      refine ⟨is_2, vi_ok (by omega) (by rw [sz_2]; omega), k_isLetter (by omega) (fun y => ?_) (fun y => ⟨fun _ => ef, fun u => absurd rfl u⟩)⟩
      rw [show e = s + k by omega, bt_in hlt, y] at e4
      exact absurd e4 (by decide)
    | succ d ih =>
      intro k hk h hr f v4 v2 v5
      have te : TapC h T n := t0.fr f (fun c p q => by unfold PSc at q; omega)
      have hlt : s + k < n := by omega
      have lk := e3 (s + k) (by omega) (by omega)
      have bk := bt_in (T := T) hlt
      rw [bk] at lk
      have t256 := (te.2.2 (s + k) hlt).1
      refine s_X8_goOverWord_5 ?_
      rw [te.1, te.2.1, v2]
      refine ⟨is_68, fun z => absurd ((i_le (by omega) (by omega)).1 z) (by omega), fun _ => ?_⟩
      rw [i_cl (by omega), (te.2.2 (s + k) hlt).2]
      refine ⟨is_2, vi_ok (by omega) (by rw [sz_2]; omega), k_isLetter (by omega) (fun y => ⟨fun u => absurd u (by decide), fun _ => ?_⟩) (fun y => absurd (y.symm.trans lk) (by decide))⟩
      rw [te.1, v2, i_cl (by omega), (te.2.2 (s + k) hlt).2]
      refine ⟨is_2, vi_ok (by omega) (by rw [sz_2]; omega), ?_⟩
      intro v14 e14 h16 e16 h18 e18
      have w2 : h16.1 68 2 = Int32.ofNat (s + k) := by rw [e16]; exact v2
      rw [w2, i_p1] at e18
      refine ih (k + 1) (by omega) h18 (by rw [e18, e16]; exact hr.setL.setI) (by rw [e18, e16]; exact (f.setL ⟨rfl, by omega⟩).setI ⟨rfl, by omega⟩) (by rw [e18, e16, gI_p (by omega)]; exact v4) (by rw [e18, gI_s]; rfl) (fun hk8 => ?_)
      have : h18.2.1 68 5 = v14 := by rw [e18, e16]; exact gL_s _ _ _ _
      rw [this, e14, v5 (by omega), l_of (by omega), show (8 : Int32) = Int32.ofNat 8 from rfl, l_shl _ (by omega), l_or, n_or (by omega)]
      show _ = Int64.ofNat (wC (bt T n) s k * 256 + bt T n (s + k))
      rw [bk]
  refine c_X8_goOverWord (s_X8_goOverWord_0 ⟨is_68, ?_⟩)
  intro h2 e2
  refine loop (e - s) 0 (by omega) h2 (by rw [e2]; exact hr0.setL) (by rw [e2]; exact (Fr.refl _ _).setL ⟨rfl, by omega⟩) (by rw [e2]; exact p0) (by rw [e2]; exact a0) (fun _ => by rw [e2]; exact gL_s _ _ _ _)
theorem k_goOverNumber {l : Launch} {g : AG} {h0 : AH} {T : Nat → Nat} {n s : Nat} {Q : AH → Prop} (hn : n ≤ 800) (hs : s ≤ n) (t0 : TapC h0 T n) (a0 : h0.1 68 2 = Int32.ofNat s) (p0 : h0.1 68 4 = Int32.ofNat s)
    (hq : ∀ h', Refs h' → Fr PSc h0 h' → h'.1 68 4 = Int32.ofNat s → h'.1 68 2 = Int32.ofNat (runF isDi (bt T n) 801 s) → h'.1 68 3 = Int32.ofNat (if runF isDi (bt T n) 801 s - s ≤ 2 then 2 else 3) → (runF isDi (bt T n) 801 s - s ≤ 2 → h'.1 68 6 = Int32.ofNat (nM (bt T n) s (runF isDi (bt T n) 801 s - s))) → Q h') (hr0 : Refs h0) : C_X8_goOverNumber l g h0 68 Q := by
  obtain ⟨e1, e2, e3, e4⟩ := run_bt (q := isDi) (T := T) (by decide) hn hs
  revert hq e1 e2 e3 e4
  generalize runF isDi (bt T n) 801 s = e
  intro hq e1 e2 e3 e4
  have fin : ∀ h, Refs h → Fr PSc h0 h → h.1 68 4 = Int32.ofNat s → h.1 68 2 = Int32.ofNat e → (e - s ≤ 2 → h.1 68 6 = Int32.ofNat (nM (bt T n) s (e - s))) → L_X8_goOverNumber_68 l g h 68 Q := by
    intro h hr f v4 v2 v5
    refine s_X8_goOverNumber_68 ?_
    rw [v4, v2]
    simp (disch := first | assumption | omega) only [true_and, and_true, forall_eq, true_implies, false_implies, implies_true, not_true_eq_false, not_false_eq_true, false_and, and_false, ne_eq, ite_true, ite_false, Nat.reduceLeDiff, Nat.reduceEqDiff, Nat.reduceLT, Nat.reduceAdd, Nat.reduceMul, Nat.reduceSub, Nat.le_refl, eq_self, li_0, li_1, li_2, li_3, li_4, li_5, li_6, li_7, li_8, li_9, li_10, li_11, li_12, li_13, li_14, li_15, li_16, li_17, li_18, li_19, li_20, li_21, li_22, li_23, li_24, li_25, li_26, li_27, li_28, li_29, li_30, li_31, li_32, li_44, li_48, li_57, li_59, li_60, li_61, li_62, li_63, li_97, li_100, li_122, li_123, li_125, li_127, li_255, li_400, li_401, li_800, li_1023, li_1024, li_10827, i_add, i_mul, i_sub, i_p1, i_m1, i_nm, i_nm2, i_cl, i_cl0, vi_ok, i_lt, i_le, i_eq, lg_e, is_68]
    refine ⟨fun z => hq _ hr.setI (f.setI ⟨rfl, by omega⟩) (by simp (disch := first | assumption | omega) only [true_and, and_true, forall_eq, true_implies, false_implies, implies_true, not_true_eq_false, not_false_eq_true, false_and, and_false, ne_eq, ite_true, ite_false, Nat.reduceLeDiff, Nat.reduceEqDiff, Nat.reduceLT, Nat.reduceAdd, Nat.reduceMul, Nat.reduceSub, Nat.le_refl, eq_self, li_0, li_1, li_2, li_3, li_4, li_5, li_6, li_7, li_8, li_9, li_10, li_11, li_12, li_13, li_14, li_15, li_16, li_17, li_18, li_19, li_20, li_21, li_22, li_23, li_24, li_25, li_26, li_27, li_28, li_29, li_30, li_31, li_32, li_44, li_48, li_57, li_59, li_60, li_61, li_62, li_63, li_97, li_100, li_122, li_123, li_125, li_127, li_255, li_400, li_401, li_800, li_1023, li_1024, li_10827, i_add, i_mul, i_sub, i_p1, i_m1, i_nm, i_nm2, i_cl, i_cl0, vi_ok, i_lt, i_le, i_eq, lg_e, gI_s, gI_c, gI_p, gI_L, gI_R, gL_s, gL_c, gL_p, gL_I, gL_R, gR_s, gR_c, gR_p, gR_I, gR_L]; exact v4) (by simp (disch := first | assumption | omega) only [true_and, and_true, forall_eq, true_implies, false_implies, implies_true, not_true_eq_false, not_false_eq_true, false_and, and_false, ne_eq, ite_true, ite_false, Nat.reduceLeDiff, Nat.reduceEqDiff, Nat.reduceLT, Nat.reduceAdd, Nat.reduceMul, Nat.reduceSub, Nat.le_refl, eq_self, li_0, li_1, li_2, li_3, li_4, li_5, li_6, li_7, li_8, li_9, li_10, li_11, li_12, li_13, li_14, li_15, li_16, li_17, li_18, li_19, li_20, li_21, li_22, li_23, li_24, li_25, li_26, li_27, li_28, li_29, li_30, li_31, li_32, li_44, li_48, li_57, li_59, li_60, li_61, li_62, li_63, li_97, li_100, li_122, li_123, li_125, li_127, li_255, li_400, li_401, li_800, li_1023, li_1024, li_10827, i_add, i_mul, i_sub, i_p1, i_m1, i_nm, i_nm2, i_cl, i_cl0, vi_ok, i_lt, i_le, i_eq, lg_e, gI_s, gI_c, gI_p, gI_L, gI_R, gL_s, gL_c, gL_p, gL_I, gL_R, gR_s, gR_c, gR_p, gR_I, gR_L]; exact v2) (by rw [gI_s, if_pos z]) (fun y => by simp (disch := first | assumption | omega) only [true_and, and_true, forall_eq, true_implies, false_implies, implies_true, not_true_eq_false, not_false_eq_true, false_and, and_false, ne_eq, ite_true, ite_false, Nat.reduceLeDiff, Nat.reduceEqDiff, Nat.reduceLT, Nat.reduceAdd, Nat.reduceMul, Nat.reduceSub, Nat.le_refl, eq_self, li_0, li_1, li_2, li_3, li_4, li_5, li_6, li_7, li_8, li_9, li_10, li_11, li_12, li_13, li_14, li_15, li_16, li_17, li_18, li_19, li_20, li_21, li_22, li_23, li_24, li_25, li_26, li_27, li_28, li_29, li_30, li_31, li_32, li_44, li_48, li_57, li_59, li_60, li_61, li_62, li_63, li_97, li_100, li_122, li_123, li_125, li_127, li_255, li_400, li_401, li_800, li_1023, li_1024, li_10827, i_add, i_mul, i_sub, i_p1, i_m1, i_nm, i_nm2, i_cl, i_cl0, vi_ok, i_lt, i_le, i_eq, lg_e, gI_s, gI_c, gI_p, gI_L, gI_R, gL_s, gL_c, gL_p, gL_I, gL_R, gR_s, gR_c, gR_p, gR_I, gR_L]; exact v5 y), fun z => hq _ hr.setI (f.setI ⟨rfl, by omega⟩) (by simp (disch := first | assumption | omega) only [true_and, and_true, forall_eq, true_implies, false_implies, implies_true, not_true_eq_false, not_false_eq_true, false_and, and_false, ne_eq, ite_true, ite_false, Nat.reduceLeDiff, Nat.reduceEqDiff, Nat.reduceLT, Nat.reduceAdd, Nat.reduceMul, Nat.reduceSub, Nat.le_refl, eq_self, li_0, li_1, li_2, li_3, li_4, li_5, li_6, li_7, li_8, li_9, li_10, li_11, li_12, li_13, li_14, li_15, li_16, li_17, li_18, li_19, li_20, li_21, li_22, li_23, li_24, li_25, li_26, li_27, li_28, li_29, li_30, li_31, li_32, li_44, li_48, li_57, li_59, li_60, li_61, li_62, li_63, li_97, li_100, li_122, li_123, li_125, li_127, li_255, li_400, li_401, li_800, li_1023, li_1024, li_10827, i_add, i_mul, i_sub, i_p1, i_m1, i_nm, i_nm2, i_cl, i_cl0, vi_ok, i_lt, i_le, i_eq, lg_e, gI_s, gI_c, gI_p, gI_L, gI_R, gL_s, gL_c, gL_p, gL_I, gL_R, gR_s, gR_c, gR_p, gR_I, gR_L]; exact v4) (by simp (disch := first | assumption | omega) only [true_and, and_true, forall_eq, true_implies, false_implies, implies_true, not_true_eq_false, not_false_eq_true, false_and, and_false, ne_eq, ite_true, ite_false, Nat.reduceLeDiff, Nat.reduceEqDiff, Nat.reduceLT, Nat.reduceAdd, Nat.reduceMul, Nat.reduceSub, Nat.le_refl, eq_self, li_0, li_1, li_2, li_3, li_4, li_5, li_6, li_7, li_8, li_9, li_10, li_11, li_12, li_13, li_14, li_15, li_16, li_17, li_18, li_19, li_20, li_21, li_22, li_23, li_24, li_25, li_26, li_27, li_28, li_29, li_30, li_31, li_32, li_44, li_48, li_57, li_59, li_60, li_61, li_62, li_63, li_97, li_100, li_122, li_123, li_125, li_127, li_255, li_400, li_401, li_800, li_1023, li_1024, li_10827, i_add, i_mul, i_sub, i_p1, i_m1, i_nm, i_nm2, i_cl, i_cl0, vi_ok, i_lt, i_le, i_eq, lg_e, gI_s, gI_c, gI_p, gI_L, gI_R, gL_s, gL_c, gL_p, gL_I, gL_R, gR_s, gR_c, gR_p, gR_I, gR_L]; exact v2) (by rw [gI_s, if_neg z]) (fun y => by simp (disch := first | assumption | omega) only [true_and, and_true, forall_eq, true_implies, false_implies, implies_true, not_true_eq_false, not_false_eq_true, false_and, and_false, ne_eq, ite_true, ite_false, Nat.reduceLeDiff, Nat.reduceEqDiff, Nat.reduceLT, Nat.reduceAdd, Nat.reduceMul, Nat.reduceSub, Nat.le_refl, eq_self, li_0, li_1, li_2, li_3, li_4, li_5, li_6, li_7, li_8, li_9, li_10, li_11, li_12, li_13, li_14, li_15, li_16, li_17, li_18, li_19, li_20, li_21, li_22, li_23, li_24, li_25, li_26, li_27, li_28, li_29, li_30, li_31, li_32, li_44, li_48, li_57, li_59, li_60, li_61, li_62, li_63, li_97, li_100, li_122, li_123, li_125, li_127, li_255, li_400, li_401, li_800, li_1023, li_1024, li_10827, i_add, i_mul, i_sub, i_p1, i_m1, i_nm, i_nm2, i_cl, i_cl0, vi_ok, i_lt, i_le, i_eq, lg_e, gI_s, gI_c, gI_p, gI_L, gI_R, gL_s, gL_c, gL_p, gL_I, gL_R, gR_s, gR_c, gR_p, gR_I, gR_L]; exact v5 y)⟩
  have loop : ∀ d k, s + k + d = e → ∀ h, Refs h → Fr PSc h0 h → h.1 68 4 = Int32.ofNat s → h.1 68 2 = Int32.ofNat (s + k) → (k ≤ 2 → h.1 68 6 = Int32.ofNat (nM (bt T n) s k)) → L_X8_goOverNumber_5 l g h 68 Q := by
    intro d
    induction d with
    | zero =>
      intro k hk h hr f v4 v2 v5
      have te : TapC h T n := t0.fr f (fun c p q => by unfold PSc at q; omega)
      have ek : e - s = k := by omega
      have ef := fin h hr f v4 (by rw [v2, show s + k = e by omega]) (by rw [ek]; exact v5)
      refine s_X8_goOverNumber_5 ?_
      rw [te.1, te.2.1, v2]
      refine ⟨is_68, fun _ => ef, fun z => ?_⟩
      have hlt : s + k < n := by
        rcases Nat.lt_or_ge (s + k) n with y | y
        · exact y
        · exact absurd ((i_le (by omega) (by omega)).2 y) z
      rw [i_cl (by omega), (te.2.2 (s + k) hlt).2]
      have t256 := (te.2.2 (s + k) hlt).1
      refine ⟨is_2, vi_ok (by omega) (by rw [sz_2]; omega), k_isDigit (by omega) (fun y => ?_) (fun y => ⟨fun _ => ef, fun u => absurd rfl u⟩)⟩
      rw [show e = s + k by omega, bt_in hlt, y] at e4
      exact absurd e4 (by decide)
    | succ d ih =>
      intro k hk h hr f v4 v2 v5
      have te : TapC h T n := t0.fr f (fun c p q => by unfold PSc at q; omega)
      have hlt : s + k < n := by omega
      have lk := e3 (s + k) (by omega) (by omega)
      have bk := bt_in (T := T) hlt
      rw [bk] at lk
      have t256 := (te.2.2 (s + k) hlt).1
      have ld := di_iff.1 lk
      refine s_X8_goOverNumber_5 ?_
      rw [te.1, te.2.1, v2]
      refine ⟨is_68, fun z => absurd ((i_le (by omega) (by omega)).1 z) (by omega), fun _ => ?_⟩
      rw [i_cl (by omega), (te.2.2 (s + k) hlt).2]
      refine ⟨is_2, vi_ok (by omega) (by rw [sz_2]; omega), k_isDigit (by omega) (fun y => ⟨fun u => absurd u (by decide), fun _ => ?_⟩) (fun y => absurd (y.symm.trans lk) (by decide))⟩
      rw [te.1, v2, i_cl (by omega), (te.2.2 (s + k) hlt).2]
      refine ⟨is_2, vi_ok (by omega) (by rw [sz_2]; omega), ?_⟩
      intro v14 e14 h16 e16 h18 e18
      have w2 : h16.1 68 2 = Int32.ofNat (s + k) := by rw [e16, gI_p (by omega)]; exact v2
      rw [w2, i_p1] at e18
      refine ih (k + 1) (by omega) h18 (by rw [e18, e16]; exact hr.setI.setI) (by rw [e18, e16]; exact (f.setI ⟨rfl, by omega⟩).setI ⟨rfl, by omega⟩) (by rw [e18, e16, gI_p (by omega), gI_p (by omega)]; exact v4) (by rw [e18, gI_s]; rfl) (fun hk8 => ?_)
      have : h18.1 68 6 = v14 - 48 := by rw [e18, gI_p (by omega), e16, gI_s]
      rw [this, e14, v5 (by omega), show (10 : Int32) = Int32.ofNat 10 from rfl, show (48 : Int32) = Int32.ofNat 48 from rfl, i_mul, i_add, i_sub (by omega)]
      show _ = Int32.ofNat (10 * nM (bt T n) s k + (bt T n (s + k) - 48))
      rw [bk]
      congr 1
      omega
  refine c_X8_goOverNumber (s_X8_goOverNumber_0 ⟨is_68, ?_⟩)
  intro h2 e2
  refine loop (e - s) 0 (by omega) h2 (by rw [e2]; exact hr0.setI) (by rw [e2]; exact (Fr.refl _ _).setI ⟨rfl, by omega⟩) (by rw [e2, gI_p (by omega)]; exact p0) (by rw [e2, gI_p (by omega)]; exact a0) (fun _ => by rw [e2]; exact gI_s _ _ _ _)
theorem k_goOn {l : Launch} {g : AG} {h0 : AH} {T : Nat → Nat} {n p : Nat} {Q : AH → Prop} (hr0 : Refs h0) (hn : n ≤ 800) (hp : p ≤ n) (t0 : TapC h0 T n) (a0 : h0.1 68 2 = Int32.ofNat p)
    (hq : ∀ h', Refs h' → Fr PSc h0 h' → TokC h' (tk (bt T n) p) → Q h') : C_X8_goOn l g h0 68 Q := by
  obtain ⟨s1, s2, s3, s4⟩ := run_bt (q := isBl) (T := T) (by decide) hn hp
  unfold tk at hq
  revert hq s1 s2 s3 s4
  generalize runF isBl (bt T n) 801 p = s
  intro hq s1 s2 s3 s4
  have fin : ∀ h, Refs h → Fr PSc h0 h → h.1 68 2 = Int32.ofNat s → L_X8_goOn_52 l g h 68 Q := by
    intro h hr f v2
    have te : TapC h T n := t0.fr f (fun c p q => by unfold PSc at q; omega)
    refine s_X8_goOn_52 ⟨is_68, ?_⟩
    intro h14 e14
    rw [v2] at e14
    have r14 : Refs h14 := by rw [e14]; exact hr.setI
    have f14 : Fr PSc h0 h14 := by rw [e14]; exact f.setI ⟨rfl, by omega⟩
    have te : TapC h14 T n := t0.fr f14 (fun c p q => by unfold PSc at q; omega)
    have v4 : h14.1 68 4 = Int32.ofNat s := by rw [e14, gI_s]
    have v2 : h14.1 68 2 = Int32.ofNat s := by rw [e14, gI_p (by omega)]; exact v2
    clear e14
    rw [te.1, te.2.1, v2]
    refine ⟨fun z => ?_, fun z => ?_⟩
    · have sn : s < n := (i_lt (by omega) (by omega)).1 z
      have ts := te.2.2 s sn
      have t256 := ts.1
      rw [bt_in sn] at hq
      rw [if_neg (by omega)] at hq
      rw [i_cl (by omega), ts.2]
      refine ⟨is_2, vi_ok (by omega) (by rw [sz_2]; omega), k_isLetter (by omega) (fun y => ⟨fun u => absurd u (by decide), fun _ => ?_⟩) (fun y => ⟨fun _ => ?_, fun u => absurd rfl u⟩)⟩
      · rw [if_pos y] at hq
        refine k_goOverWord hn s2 te v2 v4 (fun h' r' f' w4 w2 w3 w5 => hq h' r' (f14.trans f') ⟨w3, w4, w2, fun u => ?_, fun u => ?_⟩) r14
        · have u2 : (if runF isLe (bt T n) 801 s - s ≤ 8 then 1 else 3) = 1 := u
          by_cases x : runF isLe (bt T n) 801 s - s ≤ 8
          · exact w5 x
          · rw [if_neg x] at u2; exact absurd u2 (by decide)
        · have u2 : (if runF isLe (bt T n) 801 s - s ≤ 8 then 1 else 3) = 2 := u
          by_cases x : runF isLe (bt T n) 801 s - s ≤ 8
          · rw [if_pos x] at u2; exact absurd u2 (by decide)
          · rw [if_neg x] at u2; exact absurd u2 (by decide)
      · rw [if_neg (by rw [y]; decide)] at hq
        rw [te.1, v2, i_cl (by omega), ts.2]
        refine ⟨is_2, vi_ok (by omega) (by rw [sz_2]; omega), k_isDigit (by omega) (fun x => ⟨fun u => absurd u (by decide), fun _ => ?_⟩) (fun x => ⟨fun _ => ?_, fun u => absurd rfl u⟩)⟩
        · rw [if_pos x] at hq
          refine k_goOverNumber hn s2 te v2 v4 (fun h' r' f' w4 w2 w3 w5 => hq h' r' (f14.trans f') ⟨w3, w4, w2, fun u => ?_, fun u => ?_⟩) r14
          · have u2 : (if runF isDi (bt T n) 801 s - s ≤ 2 then 2 else 3) = 1 := u
            by_cases x : runF isDi (bt T n) 801 s - s ≤ 2
            · rw [if_pos x] at u2; exact absurd u2 (by decide)
            · rw [if_neg x] at u2; exact absurd u2 (by decide)
          · have u2 : (if runF isDi (bt T n) 801 s - s ≤ 2 then 2 else 3) = 2 := u
            by_cases x : runF isDi (bt T n) 801 s - s ≤ 2
            · exact w5 x
            · rw [if_neg x] at u2; exact absurd u2 (by decide)
        · rw [if_neg (by rw [x]; decide)] at hq
          rw [te.1, v2, i_cl (by omega), ts.2]
          refine ⟨is_2, vi_ok (by omega) (by rw [sz_2]; omega), k_isSign (by omega) (fun w => ⟨fun u => absurd u (by decide), fun _ => ?_⟩) (fun w => ⟨fun _ => ?_, fun u => absurd rfl u⟩)⟩
          · rw [if_pos w] at hq
            rw [te.1, v2, i_cl (by omega), ts.2]
            refine ⟨is_2, vi_ok (by omega) (by rw [sz_2]; omega), ?_⟩
            intro h41 e41
            have w2 : h41.1 68 2 = Int32.ofNat s := by rw [e41, gI_p (by omega)]; exact v2
            rw [w2, i_p1]
            have sg := si_iff.1 w
            intro h43 e43
            refine hq h43 (by rw [e43, e41]; exact r14.setI.setI) (by rw [e43, e41]; exact (f14.setI ⟨rfl, by omega⟩).setI ⟨rfl, by omega⟩) ⟨by rw [e43, gI_p (by omega), e41, gI_s], by rw [e43, e41, gI_p (by omega), gI_p (by omega)]; exact v4, by rw [e43, gI_s], fun u => ?_, fun u => ?_⟩
            · have u2 : T s = 1 := u
              omega
            · have u2 : T s = 2 := u
              omega
          · rw [if_neg (by rw [w]; decide)] at hq
            intro h35 e35
            have w2 : h35.1 68 2 = Int32.ofNat s := by rw [e35, gI_p (by omega)]; exact v2
            rw [w2, i_p1]
            intro h37 e37
            exact hq h37 (by rw [e37, e35]; exact r14.setI.setI) (by rw [e37, e35]; exact (f14.setI ⟨rfl, by omega⟩).setI ⟨rfl, by omega⟩) ⟨by rw [e37, gI_p (by omega), e35, gI_s]; rfl, by rw [e37, e35, gI_p (by omega), gI_p (by omega)]; exact v4, by rw [e37, gI_s], fun u => absurd u (show ¬ (3 : Nat) = 1 by decide), fun u => absurd u (show ¬ (3 : Nat) = 2 by decide)⟩
    · have sn : n ≤ s := by
        rcases Nat.lt_or_ge s n with y | y
        · exact absurd ((i_lt (by omega) (by omega)).2 y) z
        · exact y
      rw [if_pos (bt_out sn)] at hq
      intro h49 e49
      exact hq h49 (by rw [e49]; exact r14.setI) (by rw [e49]; exact f14.setI ⟨rfl, by omega⟩) ⟨by rw [e49, gI_s]; rfl, by rw [e49, gI_p (by omega)]; exact v4, by rw [e49, gI_p (by omega)]; exact v2, fun u => absurd u (show ¬ (0 : Nat) = 1 by decide), fun u => absurd u (show ¬ (0 : Nat) = 2 by decide)⟩
  have loop : ∀ d k, p + k + d = s → ∀ h, Refs h → Fr PSc h0 h → h.1 68 2 = Int32.ofNat (p + k) → L_X8_goOn_0 l g h 68 Q := by
    intro d
    induction d with
    | zero =>
      intro k hk h hr f v2
      have te : TapC h T n := t0.fr f (fun c p q => by unfold PSc at q; omega)
      have ef := fin h hr f (by rw [v2, show p + k = s by omega])
      refine s_X8_goOn_0 ?_
      rw [te.1, te.2.1, v2]
      refine ⟨is_68, fun _ => ef, fun z => ?_⟩
      have hlt : p + k < n := by
        rcases Nat.lt_or_ge (p + k) n with y | y
        · exact y
        · exact absurd ((i_le (by omega) (by omega)).2 y) z
      have ts := te.2.2 (p + k) hlt
      have t256 := ts.1
      rw [i_cl (by omega), ts.2]
      have nb : ¬ (T (p + k) = 32 ∨ T (p + k) = 10) := fun y => by
        rw [← show p + k = s by omega, bt_in hlt, bl_iff.2 y] at s4
        exact absurd s4 (by decide)
      refine ⟨is_2, vi_ok (by omega) (by rw [sz_2]; omega), fun y => absurd (Or.inl ((i_eq (b := 32) (by omega) (by omega)).1 y)) nb, fun y => ⟨is_2, vi_ok (by omega) (by rw [sz_2]; omega), fun _ => ef, fun x => absurd (Or.inr ((i_eq (b := 10) (by omega) (by omega)).1 x)) nb⟩⟩
    | succ d ih =>
      intro k hk h hr f v2
      have te : TapC h T n := t0.fr f (fun c p q => by unfold PSc at q; omega)
      have hlt : p + k < n := by omega
      have ts := te.2.2 (p + k) hlt
      have t256 := ts.1
      have bl := bl_iff.1 (s3 (p + k) (by omega) (by omega))
      rw [bt_in hlt] at bl
      have nx : L_X8_goOn_0 l g (ax_setI h 68 2 (Int32.ofNat (p + k) + 1)) 68 Q := by
        rw [i_p1]
        exact ih (k + 1) (by omega) _ hr.setI (f.setI ⟨rfl, by omega⟩) (by rw [gI_s]; rfl)
      refine s_X8_goOn_0 ?_
      rw [te.1, te.2.1, v2]
      refine ⟨is_68, fun z => absurd ((i_le (by omega) (by omega)).1 z) (by omega), fun _ => ?_⟩
      rw [i_cl (by omega), ts.2]
      refine ⟨is_2, vi_ok (by omega) (by rw [sz_2]; omega), fun y h6 e6 => ?_, fun y => ⟨is_2, vi_ok (by omega) (by rw [sz_2]; omega), fun x => ?_, fun x h11 e11 => ?_⟩⟩
      · rw [e6]; exact nx
      · rcases bl with w | w
        · rw [w] at y; exact absurd rfl y
        · rw [w] at x; exact absurd rfl x
      · rw [e11]; exact nx
  exact c_X8_goOn (loop (s - p) 0 (by omega) h0 hr0 (Fr.refl _ _) a0)
