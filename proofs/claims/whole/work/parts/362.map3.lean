theorem i_nm22 {a : Nat} (h : a < 2147483648) : Int32.ofNat a ≠ -2 := by
  intro e
  have := i_nn h
  rw [e] at this
  exact this (by decide)
theorem firstI_m2 {P : Nat → Prop} {n : Nat} (hn : n ≤ 400) : firstI P n = -2 ↔ ∀ i, i < n → ¬ P i := by
  refine ⟨fun e i hi hp => ?_, firstI_none⟩
  have a := findN_spec P n
  unfold firstI at e
  by_cases c : findN P n < n
  · rw [if_pos c] at e
    exact i_nm22 (by omega) e
  · exact a.2 i (by omega) hp
theorem bsum_join (f f2 : Nat → Prop) : ∀ n, bsum f n ||| bsum f2 n = bsum (fun a => f a ∨ f2 a) n
  | 0 => by
    have e1 : bsum f 0 = 0 := rfl
    have e2 : bsum f2 0 = 0 := rfl
    have e3 : bsum (fun a => f a ∨ f2 a) 0 = 0 := rfl
    rw [e1, e2, e3]
    rfl
  | n + 1 => by
    have ih := bsum_join f f2 n
    have e := n_splitO (k := n) (hi := bI (f n)) (lo := bsum f n) (mhi := bI (f2 n)) (mlo := bsum f2 n) (bsum_lt f n) (bsum_lt f2 n)
    rw [ih] at e
    have e2 : bI (f n) ||| bI (f2 n) = bI (f n ∨ f2 n) := by
      by_cases c : f n
      · rw [bI_t c, bI_t (Or.inl c)]
        by_cases d : f2 n
        · rw [bI_t d]; rfl
        · rw [bI_f d]; rfl
      · rw [bI_f c]
        by_cases d : f2 n
        · rw [bI_t d, bI_t (Or.inr d)]; rfl
        · rw [bI_f d, bI_f (fun z => by rcases z with z | z; exact c z; exact d z)]; rfl
    rw [e2] at e
    show bsum f n + bI (f n) * 2 ^ n ||| bsum f2 n + bI (f2 n) * 2 ^ n = bsum (fun a => f a ∨ f2 a) n + bI (f n ∨ f2 n) * 2 ^ n
    rw [Nat.add_comm (bsum f n), Nat.add_comm (bsum f2 n), e, Nat.add_comm]
theorem ob_never {l : Launch} {g : AG} (h : AH) (hI : Inv h) : C_X9_never l g h 1 (fun r h1 => C_X12_never l g h1 103 (fun r2 h2 => r2 = r ∧ Inv h2)) := by
  obtain ⟨X, Y, D, S, t, hI⟩ := hI
  have hr := hI.1
  refine c_X9_never (s_X9_never_0 ?_)
  rw [rf_1_6 hr]
  rcases hI.2.2.2.2.2.2.1 with ⟨z1, z2, z3⟩ | ⟨a, z1, z2, z3, z4, z5, n, ST, FR, BY, DP, LD, K, KD, m⟩
  · refine ⟨is_1, is_74, map_none hI z1 z2 ⟨fun _ => k_X9_refused ?_, fun z => absurd rfl z⟩⟩
    refine c_X12_never (s_X12_never_0 ⟨is_103, ?_⟩)
    intro h2 e2
    have : h2.1 103 24 = -1 := by rw [e2]; simp (disch := first | assumption | omega) only [true_and, and_true, forall_eq, true_implies, false_implies, implies_true, not_true_eq_false, not_false_eq_true, false_and, and_false, ne_eq, ite_true, ite_false, Nat.reduceLeDiff, Nat.reduceEqDiff, Nat.reduceLT, Nat.reduceAdd, Nat.reduceMul, Nat.reduceSub, Nat.le_refl, eq_self, li_0, li_1, li_2, li_3, li_4, li_5, li_6, li_7, li_8, li_9, li_10, li_11, li_12, li_13, li_14, li_15, li_16, li_17, li_18, li_19, li_20, li_21, li_22, li_23, li_24, li_25, li_26, li_27, li_28, li_29, li_30, li_31, li_32, li_44, li_48, li_57, li_59, li_60, li_61, li_62, li_63, li_97, li_100, li_122, li_123, li_125, li_127, li_255, li_400, li_401, li_800, li_1023, li_1024, li_10827, i_add, i_mul, i_sub, i_p1, i_m1, i_nm, i_nm2, i_cl, i_cl0, vi_ok, i_lt, i_le, i_eq, lg_e, gI_s, gI_c, gI_p, gI_L, gI_R, gL_s, gL_c, gL_p, gL_I, gL_R, gR_s, gR_c, gR_p, gR_I, gR_L]; exact z2
    rw [this]
    subst e2
    exact ⟨fun z => absurd rfl z, fun _ => ob_ref hI 6 (by decide)⟩
  · have hn := m.1.2.1
    obtain ⟨t1, t2, t3, t4, t5, t6, t7, t8⟩ := (hI.2.2.1 a z1).1 z2
    have hB := t2.1.2.2.1
    have hA := hI.2.1
    have hx := hA.isx z1
    have hy := hA.isy z1
    refine ⟨is_1, is_74, map_some z1 z3 ⟨fun z => absurd z (by decide), fun _ => ?_⟩⟩
    rw [rf_1_6 hr]
    refine ⟨is_74, c_X1_neverMany (s_X1_neverMany_0 ?_)⟩
    have loopC : ∀ Q : Int32 → AH → Prop, Q (Int32.ofNat (pops (fun b => ∀ i, i < n → ¬ possD (D a) (ST i) b) (D a 0 1))) h → ∀ d b, b + d = D a 0 1 → L_X1_neverMany_4 l g h 74 (Int32.ofNat (pops (fun b => ∀ i, i < n → ¬ possD (D a) (ST i) b) b)) (Int32.ofNat b) Q := by
      intro Q hq d
      induction d with
      | zero =>
        intro b hb
        refine s_X1_neverMany_4 ?_
        rw [z5]
        simp (disch := first | assumption | omega) only [true_and, and_true, forall_eq, true_implies, false_implies, implies_true, not_true_eq_false, not_false_eq_true, false_and, and_false, ne_eq, ite_true, ite_false, Nat.reduceLeDiff, Nat.reduceEqDiff, Nat.reduceLT, Nat.reduceAdd, Nat.reduceMul, Nat.reduceSub, Nat.le_refl, eq_self, li_0, li_1, li_2, li_3, li_4, li_5, li_6, li_7, li_8, li_9, li_10, li_11, li_12, li_13, li_14, li_15, li_16, li_17, li_18, li_19, li_20, li_21, li_22, li_23, li_24, li_25, li_26, li_27, li_28, li_29, li_30, li_31, li_32, li_44, li_48, li_57, li_59, li_60, li_61, li_62, li_63, li_97, li_100, li_122, li_123, li_125, li_127, li_255, li_400, li_401, li_800, li_1023, li_1024, li_10827, i_add, i_mul, i_sub, i_p1, i_m1, i_nm, i_nm2, i_cl, i_cl0, vi_ok, i_lt, i_le, i_eq, lg_e, rf_74_2, rf_74_3, rf_74_4, rf_74_6, rf_74_7, rf_74_8, is_74, is_75, sz_75, is_82, sz_82, is_83, sz_83, is_90, sz_90, is_91, sz_91, is_92, sz_92, isA_x hx, t3.1.2.1, show D a 0 1 ≤ b by omega]
        rw [show b = D a 0 1 by omega]
        exact hq
      | succ d ih =>
        intro b hb
        have ih := ih (b + 1) (by omega)
        have e : pops (fun b => ∀ i, i < n → ¬ possD (D a) (ST i) b) (b + 1) = pops (fun b => ∀ i, i < n → ¬ possD (D a) (ST i) b) b + bI (∀ i, i < n → ¬ possD (D a) (ST i) b) := rfl
        rw [e] at ih
        refine s_X1_neverMany_4 ?_
        rw [z5]
        simp (disch := first | assumption | omega) only [true_and, and_true, forall_eq, true_implies, false_implies, implies_true, not_true_eq_false, not_false_eq_true, false_and, and_false, ne_eq, ite_true, ite_false, Nat.reduceLeDiff, Nat.reduceEqDiff, Nat.reduceLT, Nat.reduceAdd, Nat.reduceMul, Nat.reduceSub, Nat.le_refl, eq_self, li_0, li_1, li_2, li_3, li_4, li_5, li_6, li_7, li_8, li_9, li_10, li_11, li_12, li_13, li_14, li_15, li_16, li_17, li_18, li_19, li_20, li_21, li_22, li_23, li_24, li_25, li_26, li_27, li_28, li_29, li_30, li_31, li_32, li_44, li_48, li_57, li_59, li_60, li_61, li_62, li_63, li_97, li_100, li_122, li_123, li_125, li_127, li_255, li_400, li_401, li_800, li_1023, li_1024, li_10827, i_add, i_mul, i_sub, i_p1, i_m1, i_nm, i_nm2, i_cl, i_cl0, vi_ok, i_lt, i_le, i_eq, lg_e, rf_74_2, rf_74_3, rf_74_4, rf_74_6, rf_74_7, rf_74_8, is_74, is_75, sz_75, is_82, sz_82, is_83, sz_83, is_90, sz_90, is_91, sz_91, is_92, sz_92, isA_x hx, t3.1.2.1, show ¬ D a 0 1 ≤ b by omega]
        refine k_firstOfPressed hr m (by omega) ⟨fun c => ?_, fun c => ?_⟩
        · rw [bI_f (fun z => c ((firstI_m2 hn).2 z))] at ih
          exact ih
        · rw [bI_t ((firstI_m2 hn).1 c)] at ih
          exact ih
    refine loopC _ (k_X9_granted ?_) (D a 0 1) 0 (Nat.zero_add _)
    refine c_X12_never (s_X12_never_0 ⟨is_103, ?_⟩)
    intro h2 e2
    obtain ⟨i1, f1, m1, w1, w2⟩ := map_in hI m 0 rfl e2
    clear e2
    have hr1 := i1.1
    have u := (i1.2.2.1 a z1).1 z2
    have u4 := u.2.2.2.1
    have hA1 := i1.2.1
    have w24 : h2.1 103 24 = Int32.ofNat a := by rw [w2]; exact z4
    rw [w24]
    refine ⟨fun _ => ?_, fun q => absurd q (i_ne (by omega))⟩
    have loopM2 : ∀ d b, b + d = D a 0 1 → L_X12_never_51 l g h2 103 (Int32.ofNat (bsum (fun b => ∃ i, i < n ∧ possD (D a) (ST i) b) 27)) (Int32.ofNat (pops (fun b => ∀ i, i < n → ¬ possD (D a) (ST i) b) b)) (Int32.ofNat b) (fun r2 h2 => r2 = Int32.ofNat (pops (fun b => ∀ i, i < n → ¬ possD (D a) (ST i) b) (D a 0 1)) ∧ Inv h2) := by
      intro d
      induction d with
      | zero =>
        intro b hb
        refine s_X12_never_51 ?_
        simp (disch := first | assumption | omega) only [true_and, and_true, forall_eq, true_implies, false_implies, implies_true, not_true_eq_false, not_false_eq_true, false_and, and_false, ne_eq, ite_true, ite_false, Nat.reduceLeDiff, Nat.reduceEqDiff, Nat.reduceLT, Nat.reduceAdd, Nat.reduceMul, Nat.reduceSub, Nat.le_refl, eq_self, li_0, li_1, li_2, li_3, li_4, li_5, li_6, li_7, li_8, li_9, li_10, li_11, li_12, li_13, li_14, li_15, li_16, li_17, li_18, li_19, li_20, li_21, li_22, li_23, li_24, li_25, li_26, li_27, li_28, li_29, li_30, li_31, li_32, li_44, li_48, li_57, li_59, li_60, li_61, li_62, li_63, li_97, li_100, li_122, li_123, li_125, li_127, li_255, li_400, li_401, li_800, li_1023, li_1024, li_10827, i_add, i_mul, i_sub, i_p1, i_m1, i_nm, i_nm2, i_cl, i_cl0, vi_ok, i_lt, i_le, i_eq, lg_e, rf_103_4, rf_103_6, rf_103_7, rf_103_8, rf_103_9, rf_103_10, rf_103_21, rf_103_22, rf_103_23, rf_103_26, rf_103_27, rf_103_28, rf_103_29, rf_103_30, rf_103_31, rf_103_32, rf_103_33, rf_103_34, rf_103_35, rf_103_37, rf_103_38, rf_103_39, rf_103_44, rf_103_45, rf_103_46, rf_103_47, rf_103_48, rf_103_49, rf_103_54, rf_103_55, is_103, is_104, sz_104, is_125, sz_125, is_126, sz_126, is_127, sz_127, is_128, sz_128, is_129, sz_129, is_130, sz_130, is_131, sz_131, is_132, sz_132, is_133, sz_133, is_134, sz_134, is_135, sz_135, is_136, sz_136, is_137, sz_137, is_138, sz_138, is_139, sz_139, is_140, sz_140, is_141, sz_141, is_142, sz_142, is_143, sz_143, is_144, sz_144, is_145, sz_145, is_146, sz_146, is_147, sz_147, is_148, sz_148, is_149, sz_149, is_150, sz_150, is_151, sz_151, is_152, sz_152, is_153, sz_153, w24, hA1.y z1, isB_x hy, u4.1.2.1, show D a 0 1 ≤ b by omega]
        refine k_X12_done ⟨by rw [show b = D a 0 1 by omega], ?_⟩
        exact inv_say hI 0 (by decide) f1 i1.1 w1
      | succ d ih =>
        intro b hb
        have ih := ih (b + 1) (by omega)
        have e : pops (fun b => ∀ i, i < n → ¬ possD (D a) (ST i) b) (b + 1) = pops (fun b => ∀ i, i < n → ¬ possD (D a) (ST i) b) b + bI (∀ i, i < n → ¬ possD (D a) (ST i) b) := rfl
        rw [e] at ih
        refine s_X12_never_51 ?_
        simp (disch := first | assumption | omega) only [true_and, and_true, forall_eq, true_implies, false_implies, implies_true, not_true_eq_false, not_false_eq_true, false_and, and_false, ne_eq, ite_true, ite_false, Nat.reduceLeDiff, Nat.reduceEqDiff, Nat.reduceLT, Nat.reduceAdd, Nat.reduceMul, Nat.reduceSub, Nat.le_refl, eq_self, li_0, li_1, li_2, li_3, li_4, li_5, li_6, li_7, li_8, li_9, li_10, li_11, li_12, li_13, li_14, li_15, li_16, li_17, li_18, li_19, li_20, li_21, li_22, li_23, li_24, li_25, li_26, li_27, li_28, li_29, li_30, li_31, li_32, li_44, li_48, li_57, li_59, li_60, li_61, li_62, li_63, li_97, li_100, li_122, li_123, li_125, li_127, li_255, li_400, li_401, li_800, li_1023, li_1024, li_10827, i_add, i_mul, i_sub, i_p1, i_m1, i_nm, i_nm2, i_cl, i_cl0, vi_ok, i_lt, i_le, i_eq, lg_e, rf_103_4, rf_103_6, rf_103_7, rf_103_8, rf_103_9, rf_103_10, rf_103_21, rf_103_22, rf_103_23, rf_103_26, rf_103_27, rf_103_28, rf_103_29, rf_103_30, rf_103_31, rf_103_32, rf_103_33, rf_103_34, rf_103_35, rf_103_37, rf_103_38, rf_103_39, rf_103_44, rf_103_45, rf_103_46, rf_103_47, rf_103_48, rf_103_49, rf_103_54, rf_103_55, is_103, is_104, sz_104, is_125, sz_125, is_126, sz_126, is_127, sz_127, is_128, sz_128, is_129, sz_129, is_130, sz_130, is_131, sz_131, is_132, sz_132, is_133, sz_133, is_134, sz_134, is_135, sz_135, is_136, sz_136, is_137, sz_137, is_138, sz_138, is_139, sz_139, is_140, sz_140, is_141, sz_141, is_142, sz_142, is_143, sz_143, is_144, sz_144, is_145, sz_145, is_146, sz_146, is_147, sz_147, is_148, sz_148, is_149, sz_149, is_150, sz_150, is_151, sz_151, is_152, sz_152, is_153, sz_153, w24, hA1.y z1, isB_x hy, u4.1.2.1, show ¬ D a 0 1 ≤ b by omega, i_bit (show b < 27 by omega), bI_ez]
        refine ⟨fun c => ?_, fun c => ?_⟩
        · rw [bI_f (fun z => c (fun ⟨i, h1, h2⟩ => z i h1 h2))] at ih
          exact ih
        · rw [bI_t (fun i h1 h2 => c ⟨i, h1, h2⟩)] at ih
          exact ih
    have loopM : ∀ d k, k + d = n → L_X12_never_24 l g h2 103 (Int32.ofNat (bsum (fun b => ∃ i, i < k ∧ possD (D a) (ST i) b) 27)) (Int32.ofNat k) (fun r2 h2 => r2 = Int32.ofNat (pops (fun b => ∀ i, i < n → ¬ possD (D a) (ST i) b) (D a 0 1)) ∧ Inv h2) := by
      intro d
      induction d with
      | zero =>
        intro k hk
        refine s_X12_never_24 ?_
        simp (disch := first | assumption | omega) only [true_and, and_true, forall_eq, true_implies, false_implies, implies_true, not_true_eq_false, not_false_eq_true, false_and, and_false, ne_eq, ite_true, ite_false, Nat.reduceLeDiff, Nat.reduceEqDiff, Nat.reduceLT, Nat.reduceAdd, Nat.reduceMul, Nat.reduceSub, Nat.le_refl, eq_self, li_0, li_1, li_2, li_3, li_4, li_5, li_6, li_7, li_8, li_9, li_10, li_11, li_12, li_13, li_14, li_15, li_16, li_17, li_18, li_19, li_20, li_21, li_22, li_23, li_24, li_25, li_26, li_27, li_28, li_29, li_30, li_31, li_32, li_44, li_48, li_57, li_59, li_60, li_61, li_62, li_63, li_97, li_100, li_122, li_123, li_125, li_127, li_255, li_400, li_401, li_800, li_1023, li_1024, li_10827, i_add, i_mul, i_sub, i_p1, i_m1, i_nm, i_nm2, i_cl, i_cl0, vi_ok, i_lt, i_le, i_eq, lg_e, is_103, m1.2.2.2.2.1.1, show n ≤ k by omega]
        rw [show k = n by omega]
        exact loopM2 (D a 0 1) 0 (Nat.zero_add _)
      | succ d ih =>
        intro k hk
        have ih := ih (k + 1) (by omega)
        refine s_X12_never_24 ?_
        simp (disch := first | assumption | omega) only [true_and, and_true, forall_eq, true_implies, false_implies, implies_true, not_true_eq_false, not_false_eq_true, false_and, and_false, ne_eq, ite_true, ite_false, Nat.reduceLeDiff, Nat.reduceEqDiff, Nat.reduceLT, Nat.reduceAdd, Nat.reduceMul, Nat.reduceSub, Nat.le_refl, eq_self, li_0, li_1, li_2, li_3, li_4, li_5, li_6, li_7, li_8, li_9, li_10, li_11, li_12, li_13, li_14, li_15, li_16, li_17, li_18, li_19, li_20, li_21, li_22, li_23, li_24, li_25, li_26, li_27, li_28, li_29, li_30, li_31, li_32, li_44, li_48, li_57, li_59, li_60, li_61, li_62, li_63, li_97, li_100, li_122, li_123, li_125, li_127, li_255, li_400, li_401, li_800, li_1023, li_1024, li_10827, i_add, i_mul, i_sub, i_p1, i_m1, i_nm, i_nm2, i_cl, i_cl0, vi_ok, i_lt, i_le, i_eq, lg_e, rf_103_4, rf_103_6, rf_103_7, rf_103_8, rf_103_9, rf_103_10, rf_103_21, rf_103_22, rf_103_23, rf_103_26, rf_103_27, rf_103_28, rf_103_29, rf_103_30, rf_103_31, rf_103_32, rf_103_33, rf_103_34, rf_103_35, rf_103_37, rf_103_38, rf_103_39, rf_103_44, rf_103_45, rf_103_46, rf_103_47, rf_103_48, rf_103_49, rf_103_54, rf_103_55, is_103, is_104, sz_104, is_125, sz_125, is_126, sz_126, is_127, sz_127, is_128, sz_128, is_129, sz_129, is_130, sz_130, is_131, sz_131, is_132, sz_132, is_133, sz_133, is_134, sz_134, is_135, sz_135, is_136, sz_136, is_137, sz_137, is_138, sz_138, is_139, sz_139, is_140, sz_140, is_141, sz_141, is_142, sz_142, is_143, sz_143, is_144, sz_144, is_145, sz_145, is_146, sz_146, is_147, sz_147, is_148, sz_148, is_149, sz_149, is_150, sz_150, is_151, sz_151, is_152, sz_152, is_153, sz_153, m1.2.2.2.2.1.1, (m1.2.2.2.2.2.2.1 k (by omega)).1, show ¬ n ≤ k by omega, i_or, bsum_join]
        rw [bsum_congr (f2 := fun b => ∃ i, i < k + 1 ∧ possD (D a) (ST i) b) 27 (fun b hb => ⟨fun z => ?_, fun z => ?_⟩)]
        · exact ih
        · rcases z with ⟨i, h1, h2⟩ | z
          · exact ⟨i, by omega, h2⟩
          · exact ⟨k, by omega, z⟩
        · obtain ⟨i, h1, h2⟩ := z
          by_cases c : i = k
          · rw [c] at h2; exact Or.inr h2
          · exact Or.inl ⟨i, by omega, h2⟩
    have z0 : bsum (fun b => ∃ i, i < 0 ∧ possD (D a) (ST i) b) 27 = 0 := by
      rw [bsum_none (m := 0) 27 (fun b hb ⟨i, h1, h2⟩ => absurd h1 (Nat.not_lt_zero i)) (by omega)]
      rfl
    have := loopM n 0 (Nat.zero_add _)
    rw [z0] at this
    exact this
def mxN (f : Nat → Nat) : Nat → Nat
  | 0 => 0
  | k + 1 => if mxN f k < f k then f k else mxN f k
theorem mxN_le {f : Nat → Nat} {m : Nat} : ∀ n, (∀ k, k < n → f k ≤ m) → mxN f n ≤ m
  | 0, _ => Nat.zero_le m
  | n + 1, h => by
    have a := mxN_le n (fun k hk => h k (by omega))
    show (if mxN f n < f n then f n else mxN f n) ≤ m
    split
    · exact h n (by omega)
    · exact a
theorem map_deep {D : AD} {n : Nat} {ST : Nat → AS} {FR BY DP : Nat → Nat} (w : MapW D n ST FR BY DP) : ∀ i, i < n → DP i ≤ i := by
  have key : ∀ d i, i < d → i < n → DP i ≤ i := by
    intro d
    induction d with
    | zero => intro i hi; exact absurd hi (Nat.not_lt_zero i)
    | succ d ih =>
      intro i hi hn
      rcases Nat.eq_zero_or_pos i with q | q
      · rw [q, w.2.2.2.2.1]; exact Nat.le_refl 0
      · obtain ⟨a, b, c⟩ := w.2.2.2.2.2 i hn q
        have := ih (FR i) (by omega) (by omega)
        omega
  exact fun i hi => key (i + 1) i (by omega) hi
theorem ob_farthest {l : Launch} {g : AG} (h : AH) (hI : Inv h) : C_X9_farthest l g h 1 (fun r h1 => C_X12_farthest l g h1 103 (fun r2 h2 => r2 = r ∧ Inv h2)) := by
  obtain ⟨X, Y, D, S, t, hI⟩ := hI
  have hr := hI.1
  refine c_X9_farthest (s_X9_farthest_0 ?_)
  rw [rf_1_6 hr]
  rcases hI.2.2.2.2.2.2.1 with ⟨z1, z2, z3⟩ | ⟨a, z1, z2, z3, z4, z5, n, ST, FR, BY, DP, LD, K, KD, m⟩
  · refine ⟨is_1, is_74, map_none hI z1 z2 ⟨fun _ => k_X9_refused ?_, fun z => absurd rfl z⟩⟩
    refine c_X12_farthest (s_X12_farthest_0 ⟨is_103, ?_⟩)
    intro h2 e2
    have : h2.1 103 24 = -1 := by rw [e2]; simp (disch := first | assumption | omega) only [true_and, and_true, forall_eq, true_implies, false_implies, implies_true, not_true_eq_false, not_false_eq_true, false_and, and_false, ne_eq, ite_true, ite_false, Nat.reduceLeDiff, Nat.reduceEqDiff, Nat.reduceLT, Nat.reduceAdd, Nat.reduceMul, Nat.reduceSub, Nat.le_refl, eq_self, li_0, li_1, li_2, li_3, li_4, li_5, li_6, li_7, li_8, li_9, li_10, li_11, li_12, li_13, li_14, li_15, li_16, li_17, li_18, li_19, li_20, li_21, li_22, li_23, li_24, li_25, li_26, li_27, li_28, li_29, li_30, li_31, li_32, li_44, li_48, li_57, li_59, li_60, li_61, li_62, li_63, li_97, li_100, li_122, li_123, li_125, li_127, li_255, li_400, li_401, li_800, li_1023, li_1024, li_10827, i_add, i_mul, i_sub, i_p1, i_m1, i_nm, i_nm2, i_cl, i_cl0, vi_ok, i_lt, i_le, i_eq, lg_e, gI_s, gI_c, gI_p, gI_L, gI_R, gL_s, gL_c, gL_p, gL_I, gL_R, gR_s, gR_c, gR_p, gR_I, gR_L]; exact z2
    rw [this]
    subst e2
    exact ⟨fun z => absurd rfl z, fun _ => ob_ref hI 6 (by decide)⟩
  · have hn := m.1.2.1
    have hd := map_deep m.1
    have hm : ∀ k, k ≤ n → mxN DP k ≤ 400 := fun k hk => mxN_le k (fun j hj => by have := hd j (by omega); omega)
    have mx : ∀ k, k < n → (if Int32.ofNat (mxN DP k) < Int32.ofNat (DP k) then Int32.ofNat (DP k) else Int32.ofNat (mxN DP k)) = Int32.ofNat (mxN DP (k + 1)) := by
      intro k hk
      have := hm k (by omega)
      have := hd k hk
      show _ = Int32.ofNat (if mxN DP k < DP k then DP k else mxN DP k)
      by_cases c : mxN DP k < DP k
      · rw [if_pos c, if_pos ((i_lt (by omega) (by omega)).2 c)]
      · rw [if_neg c, if_neg (fun z => c ((i_lt (by omega) (by omega)).1 z))]
    refine ⟨is_1, is_74, map_some z1 z3 ⟨fun z => absurd z (by decide), fun _ => ?_⟩⟩
    rw [rf_1_6 hr]
    refine ⟨is_74, c_X1_deepest (s_X1_deepest_0 ?_)⟩
    have loopC : ∀ Q : Int32 → AH → Prop, Q (Int32.ofNat (mxN DP n)) h → ∀ d k, k + d = n → L_X1_deepest_4 l g h 74 (Int32.ofNat (mxN DP k)) (Int32.ofNat k) Q := by
      intro Q hq d
      induction d with
      | zero =>
        intro k hk
        refine s_X1_deepest_4 ?_
        simp (disch := first | assumption | omega) only [true_and, and_true, forall_eq, true_implies, false_implies, implies_true, not_true_eq_false, not_false_eq_true, false_and, and_false, ne_eq, ite_true, ite_false, Nat.reduceLeDiff, Nat.reduceEqDiff, Nat.reduceLT, Nat.reduceAdd, Nat.reduceMul, Nat.reduceSub, Nat.le_refl, eq_self, li_0, li_1, li_2, li_3, li_4, li_5, li_6, li_7, li_8, li_9, li_10, li_11, li_12, li_13, li_14, li_15, li_16, li_17, li_18, li_19, li_20, li_21, li_22, li_23, li_24, li_25, li_26, li_27, li_28, li_29, li_30, li_31, li_32, li_44, li_48, li_57, li_59, li_60, li_61, li_62, li_63, li_97, li_100, li_122, li_123, li_125, li_127, li_255, li_400, li_401, li_800, li_1023, li_1024, li_10827, i_add, i_mul, i_sub, i_p1, i_m1, i_nm, i_nm2, i_cl, i_cl0, vi_ok, i_lt, i_le, i_eq, lg_e, rf_74_2, rf_74_3, rf_74_4, rf_74_6, rf_74_7, rf_74_8, is_74, is_75, sz_75, is_82, sz_82, is_83, sz_83, is_90, sz_90, is_91, sz_91, is_92, sz_92, m.2.2.1.1.1, show n ≤ k by omega]
        rw [show k = n by omega]
        exact hq
      | succ d ih =>
        intro k hk
        have ih := ih (k + 1) (by omega)
        refine s_X1_deepest_4 ?_
        rw [rf_74_2 hr, rf_75_5 hr, m.2.2.1.1.1, sz_80, i_cl (by omega), (m.2.2.1.2 k (by omega)).2.2]
        refine ⟨is_74, is_75, fun c => absurd ((i_le (by omega) (by omega)).1 c) (by omega), fun _ => ⟨is_75, is_80, vi_ok (by omega) (by omega), ?_⟩⟩
        intro v7 e7 v9 e9
        rw [e7, e9, i_p1, mx k (by omega)]
        exact ih
    refine loopC _ (k_X9_granted ?_) n 0 (Nat.zero_add _)
    refine c_X12_farthest (s_X12_farthest_0 ⟨is_103, ?_⟩)
    intro h2 e2
    obtain ⟨i1, f1, m1, w1, w2⟩ := map_in hI m 0 rfl e2
    clear e2
    have hr1 := i1.1
    rw [w2, z4]
    refine ⟨fun _ => ?_, fun q => absurd q (i_ne (by omega))⟩
    have loopM : ∀ d k, k + d = n → L_X12_farthest_24 l g h2 103 (Int32.ofNat (mxN DP k)) (Int32.ofNat k) (fun r2 h2 => r2 = Int32.ofNat (mxN DP n) ∧ Inv h2) := by
      intro d
      induction d with
      | zero =>
        intro k hk
        refine s_X12_farthest_24 ?_
        simp (disch := first | assumption | omega) only [true_and, and_true, forall_eq, true_implies, false_implies, implies_true, not_true_eq_false, not_false_eq_true, false_and, and_false, ne_eq, ite_true, ite_false, Nat.reduceLeDiff, Nat.reduceEqDiff, Nat.reduceLT, Nat.reduceAdd, Nat.reduceMul, Nat.reduceSub, Nat.le_refl, eq_self, li_0, li_1, li_2, li_3, li_4, li_5, li_6, li_7, li_8, li_9, li_10, li_11, li_12, li_13, li_14, li_15, li_16, li_17, li_18, li_19, li_20, li_21, li_22, li_23, li_24, li_25, li_26, li_27, li_28, li_29, li_30, li_31, li_32, li_44, li_48, li_57, li_59, li_60, li_61, li_62, li_63, li_97, li_100, li_122, li_123, li_125, li_127, li_255, li_400, li_401, li_800, li_1023, li_1024, li_10827, i_add, i_mul, i_sub, i_p1, i_m1, i_nm, i_nm2, i_cl, i_cl0, vi_ok, i_lt, i_le, i_eq, lg_e, is_103, m1.2.2.2.2.1.1, show n ≤ k by omega]
        exact k_X12_done ⟨by rw [show k = n by omega], inv_say hI 0 (by decide) f1 i1.1 w1⟩
      | succ d ih =>
        intro k hk
        have ih := ih (k + 1) (by omega)
        refine s_X12_farthest_24 ?_
        rw [rf_103_30 hr1, m1.2.2.2.2.1.1, sz_137, i_cl (by omega), (m1.2.2.2.2.1.2 k (by omega)).2.2.2.2]
        refine ⟨is_103, fun c => absurd ((i_le (by omega) (by omega)).1 c) (by omega), fun _ => ⟨is_137, vi_ok (by omega) (by omega), ?_⟩⟩
        intro v7 e7 v9 e9
        rw [e7, e9, i_p1, mx k (by omega)]
        exact ih
    exact loopM n 0 (Nat.zero_add _)
theorem k_waysFrom {l : Launch} {g : AG} {h : AH} {D : AD} {n : Nat} {ST : Nat → AS} {FR BY DP LD : Nat → Nat} {K : Nat} {KD : Nat → Nat} {i : Nat} {Q : Int32 → AH → Prop} (hr : Refs h) (m : MapI h D n ST FR BY DP LD K KD) (hi : i < n) (hq : Q (Int32.ofNat (pops (possD D (ST i)) 27)) h) : C_X1_waysFrom l g h 74 (Int32.ofNat i) Q := by
  have hn := m.1.2.1
  have loop : ∀ d b, b + d = 27 → L_X1_waysFrom_4 l g h 74 (Int32.ofNat i) (Int32.ofNat (pops (possD D (ST i)) b)) (Int32.ofNat b) Q := by
    intro d
    induction d with
    | zero =>
      intro b hb
      refine s_X1_waysFrom_4 ?_
      simp (disch := first | assumption | omega) only [true_and, and_true, forall_eq, true_implies, false_implies, implies_true, not_true_eq_false, not_false_eq_true, false_and, and_false, ne_eq, ite_true, ite_false, Nat.reduceLeDiff, Nat.reduceEqDiff, Nat.reduceLT, Nat.reduceAdd, Nat.reduceMul, Nat.reduceSub, Nat.le_refl, eq_self, li_0, li_1, li_2, li_3, li_4, li_5, li_6, li_7, li_8, li_9, li_10, li_11, li_12, li_13, li_14, li_15, li_16, li_17, li_18, li_19, li_20, li_21, li_22, li_23, li_24, li_25, li_26, li_27, li_28, li_29, li_30, li_31, li_32, li_44, li_48, li_57, li_59, li_60, li_61, li_62, li_63, li_97, li_100, li_122, li_123, li_125, li_127, li_255, li_400, li_401, li_800, li_1023, li_1024, li_10827, i_add, i_mul, i_sub, i_p1, i_m1, i_nm, i_nm2, i_cl, i_cl0, vi_ok, i_lt, i_le, i_eq, lg_e, show 27 ≤ b by omega]
      rw [show b = 27 by omega]
      exact hq
    | succ d ih =>
      intro b hb
      have ih := ih (b + 1) (by omega)
      have e : pops (possD D (ST i)) (b + 1) = pops (possD D (ST i)) b + bI (possD D (ST i) b) := rfl
      rw [e] at ih
      refine s_X1_waysFrom_4 ?_
      simp (disch := first | assumption | omega) only [true_and, and_true, forall_eq, true_implies, false_implies, implies_true, not_true_eq_false, not_false_eq_true, false_and, and_false, ne_eq, ite_true, ite_false, Nat.reduceLeDiff, Nat.reduceEqDiff, Nat.reduceLT, Nat.reduceAdd, Nat.reduceMul, Nat.reduceSub, Nat.le_refl, eq_self, li_0, li_1, li_2, li_3, li_4, li_5, li_6, li_7, li_8, li_9, li_10, li_11, li_12, li_13, li_14, li_15, li_16, li_17, li_18, li_19, li_20, li_21, li_22, li_23, li_24, li_25, li_26, li_27, li_28, li_29, li_30, li_31, li_32, li_44, li_48, li_57, li_59, li_60, li_61, li_62, li_63, li_97, li_100, li_122, li_123, li_125, li_127, li_255, li_400, li_401, li_800, li_1023, li_1024, li_10827, i_add, i_mul, i_sub, i_p1, i_m1, i_nm, i_nm2, i_cl, i_cl0, vi_ok, i_lt, i_le, i_eq, lg_e, rf_74_2, rf_74_3, rf_74_4, rf_74_6, rf_74_7, rf_74_8, is_74, is_75, sz_75, is_82, sz_82, is_83, sz_83, is_90, sz_90, is_91, sz_91, is_92, sz_92, show ¬ 27 ≤ b by omega, Nat.mul_comm i 27]
      rw [lead_neg m hi (by omega)]
      refine ⟨fun c => ?_, fun c => ?_⟩
      · rw [bI_f c] at ih; exact ih
      · rw [bI_t (Classical.not_not.1 c)] at ih; exact ih
  exact c_X1_waysFrom (s_X1_waysFrom_0 (loop 27 0 rfl))
theorem ob_ways {l : Launch} {g : AG} (h : AH) (hI : Inv h) : C_X9_ways l g h 1 (fun r h1 => C_X12_ways l g h1 103 (fun r2 h2 => r2 = r ∧ Inv h2)) := by
  obtain ⟨X, Y, D, S, t, hI⟩ := hI
  have hr := hI.1
  refine c_X9_ways (s_X9_ways_0 ?_)
  rw [rf_1_6 hr]
  rcases hI.2.2.2.2.2.2.1 with ⟨z1, z2, z3⟩ | ⟨a, z1, z2, z3, z4, z5, n, ST, FR, BY, DP, LD, K, KD, m⟩
  · refine ⟨is_1, is_74, map_none hI z1 z2 ⟨fun _ => k_X9_refused ?_, fun z => absurd rfl z⟩⟩
    refine c_X12_ways (s_X12_ways_0 ⟨is_103, ?_⟩)
    intro h2 e2
    have : h2.1 103 24 = -1 := by rw [e2]; simp (disch := first | assumption | omega) only [true_and, and_true, forall_eq, true_implies, false_implies, implies_true, not_true_eq_false, not_false_eq_true, false_and, and_false, ne_eq, ite_true, ite_false, Nat.reduceLeDiff, Nat.reduceEqDiff, Nat.reduceLT, Nat.reduceAdd, Nat.reduceMul, Nat.reduceSub, Nat.le_refl, eq_self, li_0, li_1, li_2, li_3, li_4, li_5, li_6, li_7, li_8, li_9, li_10, li_11, li_12, li_13, li_14, li_15, li_16, li_17, li_18, li_19, li_20, li_21, li_22, li_23, li_24, li_25, li_26, li_27, li_28, li_29, li_30, li_31, li_32, li_44, li_48, li_57, li_59, li_60, li_61, li_62, li_63, li_97, li_100, li_122, li_123, li_125, li_127, li_255, li_400, li_401, li_800, li_1023, li_1024, li_10827, i_add, i_mul, i_sub, i_p1, i_m1, i_nm, i_nm2, i_cl, i_cl0, vi_ok, i_lt, i_le, i_eq, lg_e, gI_s, gI_c, gI_p, gI_L, gI_R, gL_s, gL_c, gL_p, gL_I, gL_R, gR_s, gR_c, gR_p, gR_I, gR_L]; exact z2
    rw [this]
    subst e2
    exact ⟨fun z => absurd rfl z, fun _ => ob_ref hI 6 (by decide)⟩
  · have hn := m.1.2.1
    refine ⟨is_1, is_74, map_some z1 z3 ⟨fun z => absurd z (by decide), fun _ => ?_⟩⟩
    rw [rf_1_6 hr]
    refine ⟨is_74, c_X1_waysMany (s_X1_waysMany_0 ?_)⟩
    have loopC : ∀ Q : Int32 → AH → Prop, Q (Int32.ofNat (sumN (fun i => pops (possD (D a) (ST i)) 27) n)) h → ∀ d k, k + d = n → L_X1_waysMany_4 l g h 74 (Int32.ofNat (sumN (fun i => pops (possD (D a) (ST i)) 27) k)) (Int32.ofNat k) Q := by
      intro Q hq d
      induction d with
      | zero =>
        intro k hk
        refine s_X1_waysMany_4 ?_
        simp (disch := first | assumption | omega) only [true_and, and_true, forall_eq, true_implies, false_implies, implies_true, not_true_eq_false, not_false_eq_true, false_and, and_false, ne_eq, ite_true, ite_false, Nat.reduceLeDiff, Nat.reduceEqDiff, Nat.reduceLT, Nat.reduceAdd, Nat.reduceMul, Nat.reduceSub, Nat.le_refl, eq_self, li_0, li_1, li_2, li_3, li_4, li_5, li_6, li_7, li_8, li_9, li_10, li_11, li_12, li_13, li_14, li_15, li_16, li_17, li_18, li_19, li_20, li_21, li_22, li_23, li_24, li_25, li_26, li_27, li_28, li_29, li_30, li_31, li_32, li_44, li_48, li_57, li_59, li_60, li_61, li_62, li_63, li_97, li_100, li_122, li_123, li_125, li_127, li_255, li_400, li_401, li_800, li_1023, li_1024, li_10827, i_add, i_mul, i_sub, i_p1, i_m1, i_nm, i_nm2, i_cl, i_cl0, vi_ok, i_lt, i_le, i_eq, lg_e, rf_74_2, rf_74_3, rf_74_4, rf_74_6, rf_74_7, rf_74_8, is_74, is_75, sz_75, is_82, sz_82, is_83, sz_83, is_90, sz_90, is_91, sz_91, is_92, sz_92, m.2.2.1.1.1, show n ≤ k by omega]
        rw [show k = n by omega]
        exact hq
      | succ d ih =>
        intro k hk
        have ih := ih (k + 1) (by omega)
        refine s_X1_waysMany_4 ?_
        simp (disch := first | assumption | omega) only [true_and, and_true, forall_eq, true_implies, false_implies, implies_true, not_true_eq_false, not_false_eq_true, false_and, and_false, ne_eq, ite_true, ite_false, Nat.reduceLeDiff, Nat.reduceEqDiff, Nat.reduceLT, Nat.reduceAdd, Nat.reduceMul, Nat.reduceSub, Nat.le_refl, eq_self, li_0, li_1, li_2, li_3, li_4, li_5, li_6, li_7, li_8, li_9, li_10, li_11, li_12, li_13, li_14, li_15, li_16, li_17, li_18, li_19, li_20, li_21, li_22, li_23, li_24, li_25, li_26, li_27, li_28, li_29, li_30, li_31, li_32, li_44, li_48, li_57, li_59, li_60, li_61, li_62, li_63, li_97, li_100, li_122, li_123, li_125, li_127, li_255, li_400, li_401, li_800, li_1023, li_1024, li_10827, i_add, i_mul, i_sub, i_p1, i_m1, i_nm, i_nm2, i_cl, i_cl0, vi_ok, i_lt, i_le, i_eq, lg_e, rf_74_2, rf_74_3, rf_74_4, rf_74_6, rf_74_7, rf_74_8, is_74, is_75, sz_75, is_82, sz_82, is_83, sz_83, is_90, sz_90, is_91, sz_91, is_92, sz_92, m.2.2.1.1.1, show ¬ n ≤ k by omega]
        refine k_waysFrom hr m (by omega) ?_
        simp (disch := first | assumption | omega) only [true_and, and_true, forall_eq, true_implies, false_implies, implies_true, not_true_eq_false, not_false_eq_true, false_and, and_false, ne_eq, ite_true, ite_false, Nat.reduceLeDiff, Nat.reduceEqDiff, Nat.reduceLT, Nat.reduceAdd, Nat.reduceMul, Nat.reduceSub, Nat.le_refl, eq_self, li_0, li_1, li_2, li_3, li_4, li_5, li_6, li_7, li_8, li_9, li_10, li_11, li_12, li_13, li_14, li_15, li_16, li_17, li_18, li_19, li_20, li_21, li_22, li_23, li_24, li_25, li_26, li_27, li_28, li_29, li_30, li_31, li_32, li_44, li_48, li_57, li_59, li_60, li_61, li_62, li_63, li_97, li_100, li_122, li_123, li_125, li_127, li_255, li_400, li_401, li_800, li_1023, li_1024, li_10827, i_add, i_mul, i_sub, i_p1, i_m1, i_nm, i_nm2, i_cl, i_cl0, vi_ok, i_lt, i_le, i_eq, lg_e]
        exact ih
    refine loopC _ (k_X9_granted ?_) n 0 (Nat.zero_add _)
    refine c_X12_ways (s_X12_ways_0 ⟨is_103, ?_⟩)
    intro h2 e2
    obtain ⟨i1, f1, m1, w1, w2⟩ := map_in hI m 0 rfl e2
    clear e2
    have hr1 := i1.1
    rw [w2, z4]
    refine ⟨fun _ => ?_, fun q => absurd q (i_ne (by omega))⟩
    have loopM : ∀ d k, k + d = n → L_X12_ways_24 l g h2 103 (Int32.ofNat (sumN (fun i => pops (possD (D a) (ST i)) 27) k)) (Int32.ofNat k) (fun r2 h2 => r2 = Int32.ofNat (sumN (fun i => pops (possD (D a) (ST i)) 27) n) ∧ Inv h2) := by
      intro d
      induction d with
      | zero =>
        intro k hk
        refine s_X12_ways_24 ?_
        simp (disch := first | assumption | omega) only [true_and, and_true, forall_eq, true_implies, false_implies, implies_true, not_true_eq_false, not_false_eq_true, false_and, and_false, ne_eq, ite_true, ite_false, Nat.reduceLeDiff, Nat.reduceEqDiff, Nat.reduceLT, Nat.reduceAdd, Nat.reduceMul, Nat.reduceSub, Nat.le_refl, eq_self, li_0, li_1, li_2, li_3, li_4, li_5, li_6, li_7, li_8, li_9, li_10, li_11, li_12, li_13, li_14, li_15, li_16, li_17, li_18, li_19, li_20, li_21, li_22, li_23, li_24, li_25, li_26, li_27, li_28, li_29, li_30, li_31, li_32, li_44, li_48, li_57, li_59, li_60, li_61, li_62, li_63, li_97, li_100, li_122, li_123, li_125, li_127, li_255, li_400, li_401, li_800, li_1023, li_1024, li_10827, i_add, i_mul, i_sub, i_p1, i_m1, i_nm, i_nm2, i_cl, i_cl0, vi_ok, i_lt, i_le, i_eq, lg_e, is_103, m1.2.2.2.2.1.1, show n ≤ k by omega]
        exact k_X12_done ⟨by rw [show k = n by omega], inv_say hI 0 (by decide) f1 i1.1 w1⟩
      | succ d ih =>
        intro k hk
        have ih := ih (k + 1) (by omega)
        refine s_X12_ways_24 ?_
        simp (disch := first | assumption | omega) only [true_and, and_true, forall_eq, true_implies, false_implies, implies_true, not_true_eq_false, not_false_eq_true, false_and, and_false, ne_eq, ite_true, ite_false, Nat.reduceLeDiff, Nat.reduceEqDiff, Nat.reduceLT, Nat.reduceAdd, Nat.reduceMul, Nat.reduceSub, Nat.le_refl, eq_self, li_0, li_1, li_2, li_3, li_4, li_5, li_6, li_7, li_8, li_9, li_10, li_11, li_12, li_13, li_14, li_15, li_16, li_17, li_18, li_19, li_20, li_21, li_22, li_23, li_24, li_25, li_26, li_27, li_28, li_29, li_30, li_31, li_32, li_44, li_48, li_57, li_59, li_60, li_61, li_62, li_63, li_97, li_100, li_122, li_123, li_125, li_127, li_255, li_400, li_401, li_800, li_1023, li_1024, li_10827, i_add, i_mul, i_sub, i_p1, i_m1, i_nm, i_nm2, i_cl, i_cl0, vi_ok, i_lt, i_le, i_eq, lg_e, rf_103_4, rf_103_6, rf_103_7, rf_103_8, rf_103_9, rf_103_10, rf_103_21, rf_103_22, rf_103_23, rf_103_26, rf_103_27, rf_103_28, rf_103_29, rf_103_30, rf_103_31, rf_103_32, rf_103_33, rf_103_34, rf_103_35, rf_103_37, rf_103_38, rf_103_39, rf_103_44, rf_103_45, rf_103_46, rf_103_47, rf_103_48, rf_103_49, rf_103_54, rf_103_55, is_103, is_104, sz_104, is_125, sz_125, is_126, sz_126, is_127, sz_127, is_128, sz_128, is_129, sz_129, is_130, sz_130, is_131, sz_131, is_132, sz_132, is_133, sz_133, is_134, sz_134, is_135, sz_135, is_136, sz_136, is_137, sz_137, is_138, sz_138, is_139, sz_139, is_140, sz_140, is_141, sz_141, is_142, sz_142, is_143, sz_143, is_144, sz_144, is_145, sz_145, is_146, sz_146, is_147, sz_147, is_148, sz_148, is_149, sz_149, is_150, sz_150, is_151, sz_151, is_152, sz_152, is_153, sz_153, m1.2.2.2.2.1.1, (m1.2.2.2.2.2.2.1 k (by omega)).1, show ¬ n ≤ k by omega]
        refine k_X12_bits ?_
        simp (disch := first | assumption | omega) only [true_and, and_true, forall_eq, true_implies, false_implies, implies_true, not_true_eq_false, not_false_eq_true, false_and, and_false, ne_eq, ite_true, ite_false, Nat.reduceLeDiff, Nat.reduceEqDiff, Nat.reduceLT, Nat.reduceAdd, Nat.reduceMul, Nat.reduceSub, Nat.le_refl, eq_self, li_0, li_1, li_2, li_3, li_4, li_5, li_6, li_7, li_8, li_9, li_10, li_11, li_12, li_13, li_14, li_15, li_16, li_17, li_18, li_19, li_20, li_21, li_22, li_23, li_24, li_25, li_26, li_27, li_28, li_29, li_30, li_31, li_32, li_44, li_48, li_57, li_59, li_60, li_61, li_62, li_63, li_97, li_100, li_122, li_123, li_125, li_127, li_255, li_400, li_401, li_800, li_1023, li_1024, li_10827, i_add, i_mul, i_sub, i_p1, i_m1, i_nm, i_nm2, i_cl, i_cl0, vi_ok, i_lt, i_le, i_eq, lg_e]
        exact ih
    exact loopM n 0 (Nat.zero_add _)
