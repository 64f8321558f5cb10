/-- the invariant but for what the last call said of itself -/
def InvC (h : AH) (X Y : Nat → Nat) (D : Nat → AD) (S : Nat → AS) (t : Nat → Prop) : Prop := Refs h ∧ IA h X Y ∧ (∀ a, a < 2 → IT h (X a) (Y a) a (D a) (S a) (t a)) ∧ ITape h ∧ IRow h ∧ IMap h X D t ∧ IPair h
theorem InvD.c {h : AH} {X Y : Nat → Nat} {D : Nat → AD} {S : Nat → AS} {t : Nat → Prop} (hI : InvD h X Y D S t) : InvC h X Y D S t := ⟨hI.1, hI.2.1, hI.2.2.1, hI.2.2.2.1, hI.2.2.2.2.2.1, hI.2.2.2.2.2.2.1, hI.2.2.2.2.2.2.2⟩
theorem InvC.fr {h h1 : AH} {X Y : Nat → Nat} {D : Nat → AD} {S : Nat → AS} {t : Nat → Prop} (hI : InvC h X Y D S t) (f : Fr PQ h h1) (hr : Refs h1) : InvC h1 X Y D S t := by
  obtain ⟨b1, b2, b3, b4, b6, b7, b8⟩ := hI
  have e1 : ∀ c p, PQ c p → (c = 68 ∨ (70 ≤ c ∧ c ≤ 72) ∨ (83 ≤ c ∧ c ≤ 89) ∨ c = 91 ∨ c = 92 ∨ (c = 93 ∧ p ≠ 2) ∨ (95 ≤ c ∧ c ≤ 100) ∨ c = 102 ∨ (c = 103 ∧ (p = 0 ∨ (12 ≤ p ∧ p ≤ 20) ∨ p = 42 ∨ (50 ≤ p ∧ p ≤ 53))) ∨ c = 128 ∨ (130 ≤ c ∧ c ≤ 132) ∨ c = 140 ∨ c = 141 ∨ c = 144 ∨ (146 ≤ c ∧ c ≤ 153) ∨ c = 194 ∨ (c = 67 ∧ p ≠ 3 ∧ p ≠ 4)) ∨ (c = 1 ∧ p = 12) ∨ (c = 103 ∧ (p = 1 ∨ p = 2)) := fun c p q => q
  refine ⟨hr, b2.fr f (fun c p q => by have := e1 c p q; omega), fun a ha => (b3 a ha).fr f (fun c p q => ?_), b4.fr f (fun c p q => by have := e1 c p q; omega), b6.fr f (fun c p q => by have := e1 c p q; omega), b7.fr f (fun c p q => ?_), b8.fr f (fun c p q => by have := e1 c p q; omega)⟩
  · have z := e1 c p q
    have zx := (b2.1 a (by omega)).1
    have zy := (b2.1 a (by omega)).2
    unfold isA at zx
    unfold isB at zy
    omega
  · have z := e1 c p q
    unfold PMAP
    omega
/-- the end of a call that says k of itself -/
theorem inv_end {h h1 : AH} {X Y : Nat → Nat} {D : Nat → AD} {S : Nat → AS} {t : Nat → Prop} (hI : InvC h1 X Y D S t) (hM : IMsg h) (e : h1.1 67 3 = h.1 67 3 ∧ h1.1 103 3 = h.1 103 3 ∧ h1.1 1 11 = h.1 1 11 ∧ h1.1 103 41 = h.1 103 41) (k : Int32) (k3 : k ≠ 3) (m1 : h1.1 1 12 = k) (m2 : h1.1 103 1 = k) (m3 : h1.1 103 2 = -1) : Inv h1 := by
  obtain ⟨b1, b2, b3, b4, b6, b7, b8⟩ := hI
  obtain ⟨c1, c2, c3, c4⟩ := hM
  exact ⟨X, Y, D, S, t, b1, b2, b3, b4, ⟨by rw [e.1, e.2.1]; exact c1, by rw [m1, m2], by rw [m3, m1, if_neg k3], by rw [e.2.2.1, e.2.2.2]; exact c4⟩, b6, b7, b8⟩
theorem PQ_scr {c p : Nat} (h : SCR c p) : PQ c p := Or.inl h
theorem PQ_S {c p : Nat} (h : PS c p) : PQ c p := by
  unfold PS at h
  unfold PQ SCR
  omega
theorem IA.x {h : AH} {X Y : Nat → Nat} (hA : IA h X Y) {a : Nat} (ha : a < 2) : h.2.2 3 a = X a := by
  have : a = 0 ∨ a = 1 := by omega
  rcases this with rfl | rfl
  · exact hA.2.2.2.1
  · exact hA.2.2.2.2.1
theorem IA.y {h : AH} {X Y : Nat → Nat} (hA : IA h X Y) {a : Nat} (ha : a < 2) : h.2.2 104 a = Y a := by
  have : a = 0 ∨ a = 1 := by omega
  rcases this with rfl | rfl
  · exact hA.2.2.2.2.2.2.1
  · exact hA.2.2.2.2.2.2.2.1
theorem IA.isx {h : AH} {X Y : Nat → Nat} (hA : IA h X Y) {a : Nat} (ha : a < 2) : isA (X a) := (hA.1 a (by omega)).1
theorem IA.isy {h : AH} {X Y : Nat → Nat} (hA : IA h X Y) {a : Nat} (ha : a < 2) : isB (Y a) := (hA.1 a (by omega)).2
/-- the number names an APP that was told -/
def Tel (t : Nat → Prop) (x : Int32) : Prop := ∃ a, a < 2 ∧ x = Int32.ofNat a ∧ t a
theorem i_split (x : Int32) : x < 0 ∨ ∃ n, n < 2147483648 ∧ x = Int32.ofNat n := by
  by_cases c : x < 0
  · exact Or.inl c
  · exact Or.inr (i_of c)
theorem i_neg {x : Int32} (h : x < 0) (n : Nat) (hn : n < 2147483648) : x ≠ Int32.ofNat n := by
  intro e
  rw [e] at h
  exact i_nn hn h
theorem q_has {l : Launch} {g : AG} {h : AH} {X Y : Nat → Nat} {D : Nat → AD} {S : Nat → AS} {t : Nat → Prop} {x : Int32} {Q : Int32 → AH → Prop} (hI : InvC h X Y D S t) (hy : ∀ a, a < 2 → x = Int32.ofNat a → t a → Q 1 h) (hn : ¬ Tel t x → Q 0 h) : C_X9_has l g h 1 x Q := by
  obtain ⟨hr, hA, hT, -⟩ := hI
  refine c_X9_has (s_X9_has_0 ?_)
  rcases i_split x with hx | ⟨n, hn2, rfl⟩
  · exact ⟨fun _ => hn (fun ⟨a, a1, a2, a3⟩ => i_neg hx a (by omega) a2), fun c => absurd hx c⟩
  · refine ⟨fun c => absurd c (i_nn hn2), fun _ => ?_⟩
    by_cases c2 : n < 2
    · simp (disch := first | assumption | omega) only [true_and, and_true, forall_eq, true_implies, false_implies, implies_true, not_true_eq_false, not_false_eq_true, false_and, and_false, ne_eq, ite_true, ite_false, Nat.reduceLeDiff, Nat.reduceEqDiff, Nat.reduceLT, Nat.reduceAdd, Nat.reduceMul, Nat.reduceSub, Nat.le_refl, eq_self, li_0, li_1, li_2, li_3, li_4, li_5, li_6, li_7, li_8, li_9, li_10, li_11, li_12, li_13, li_14, li_15, li_16, li_17, li_18, li_19, li_20, li_21, li_22, li_23, li_24, li_25, li_26, li_27, li_28, li_29, li_30, li_31, li_32, li_44, li_48, li_57, li_59, li_60, li_61, li_62, li_63, li_97, li_100, li_122, li_123, li_125, li_127, li_255, li_400, li_401, li_800, li_1023, li_1024, li_10827, i_add, i_mul, i_sub, i_p1, i_m1, i_nm, i_nm2, i_cl, i_cl0, vi_ok, i_lt, i_le, i_eq, lg_e, rf_1_0, rf_1_2, rf_1_4, rf_1_5, rf_1_6, rf_1_7, rf_1_8, rf_1_10, is_1, is_2, sz_2, is_3, sz_3, is_67, sz_67, is_73, sz_73, is_74, sz_74, is_93, sz_93, is_101, sz_101, is_102, sz_102, hA.x c2, show ¬ 2 ≤ n by omega]
      by_cases c3 : t n
      · have q := (hT n c2).1 c3
        have hw := q.2.1.1.1
        have hw8 := q.2.1.1.2.1
        simp (disch := first | assumption | omega) only [true_and, and_true, forall_eq, true_implies, false_implies, implies_true, not_true_eq_false, not_false_eq_true, false_and, and_false, ne_eq, ite_true, ite_false, Nat.reduceLeDiff, Nat.reduceEqDiff, Nat.reduceLT, Nat.reduceAdd, Nat.reduceMul, Nat.reduceSub, Nat.le_refl, eq_self, li_0, li_1, li_2, li_3, li_4, li_5, li_6, li_7, li_8, li_9, li_10, li_11, li_12, li_13, li_14, li_15, li_16, li_17, li_18, li_19, li_20, li_21, li_22, li_23, li_24, li_25, li_26, li_27, li_28, li_29, li_30, li_31, li_32, li_44, li_48, li_57, li_59, li_60, li_61, li_62, li_63, li_97, li_100, li_122, li_123, li_125, li_127, li_255, li_400, li_401, li_800, li_1023, li_1024, li_10827, i_add, i_mul, i_sub, i_p1, i_m1, i_nm, i_nm2, i_cl, i_cl0, vi_ok, i_lt, i_le, i_eq, lg_e, isA_x (hA.isx c2), q.2.2.1.1.1, show ¬ D n 0 0 ≤ 0 by omega]
        exact hy n c2 rfl c3
      · have q := (hT n c2).2 c3
        simp (disch := first | assumption | omega) only [true_and, and_true, forall_eq, true_implies, false_implies, implies_true, not_true_eq_false, not_false_eq_true, false_and, and_false, ne_eq, ite_true, ite_false, Nat.reduceLeDiff, Nat.reduceEqDiff, Nat.reduceLT, Nat.reduceAdd, Nat.reduceMul, Nat.reduceSub, Nat.le_refl, eq_self, li_0, li_1, li_2, li_3, li_4, li_5, li_6, li_7, li_8, li_9, li_10, li_11, li_12, li_13, li_14, li_15, li_16, li_17, li_18, li_19, li_20, li_21, li_22, li_23, li_24, li_25, li_26, li_27, li_28, li_29, li_30, li_31, li_32, li_44, li_48, li_57, li_59, li_60, li_61, li_62, li_63, li_97, li_100, li_122, li_123, li_125, li_127, li_255, li_400, li_401, li_800, li_1023, li_1024, li_10827, i_add, i_mul, i_sub, i_p1, i_m1, i_nm, i_nm2, i_cl, i_cl0, vi_ok, i_lt, i_le, i_eq, lg_e, isA_x (hA.isx c2), q.2]
        refine hn (fun ⟨a, a1, a2, a3⟩ => ?_)
        have := (i_eq (by omega) (by omega)).1 a2
        subst this
        exact c3 a3
    · simp (disch := first | assumption | omega) only [true_and, and_true, forall_eq, true_implies, false_implies, implies_true, not_true_eq_false, not_false_eq_true, false_and, and_false, ne_eq, ite_true, ite_false, Nat.reduceLeDiff, Nat.reduceEqDiff, Nat.reduceLT, Nat.reduceAdd, Nat.reduceMul, Nat.reduceSub, Nat.le_refl, eq_self, li_0, li_1, li_2, li_3, li_4, li_5, li_6, li_7, li_8, li_9, li_10, li_11, li_12, li_13, li_14, li_15, li_16, li_17, li_18, li_19, li_20, li_21, li_22, li_23, li_24, li_25, li_26, li_27, li_28, li_29, li_30, li_31, li_32, li_44, li_48, li_57, li_59, li_60, li_61, li_62, li_63, li_97, li_100, li_122, li_123, li_125, li_127, li_255, li_400, li_401, li_800, li_1023, li_1024, li_10827, i_add, i_mul, i_sub, i_p1, i_m1, i_nm, i_nm2, i_cl, i_cl0, vi_ok, i_lt, i_le, i_eq, lg_e, show 2 ≤ n by omega]
      refine hn (fun ⟨a, a1, a2, a3⟩ => ?_)
      have := (i_eq (by omega) (by omega)).1 a2
      omega
theorem q_isApp {l : Launch} {g : AG} {h : AH} {X Y : Nat → Nat} {D : Nat → AD} {S : Nat → AS} {t : Nat → Prop} {x : Int32} {Q : Int32 → AH → Prop} (hI : InvC h X Y D S t) (hy : ∀ a, a < 2 → x = Int32.ofNat a → t a → Q 1 h) (hn : ¬ Tel t x → Q 0 h) : C_X12_isApp l g h 103 x Q := by
  obtain ⟨hr, hA, hT, -⟩ := hI
  refine c_X12_isApp (s_X12_isApp_0 ?_)
  rcases i_split x with hx | ⟨n, hn2, rfl⟩
  · exact ⟨fun _ => hn (fun ⟨a, a1, a2, a3⟩ => i_neg hx a (by omega) a2), fun c => absurd hx c⟩
  · refine ⟨fun c => absurd c (i_nn hn2), fun _ => ?_⟩
    by_cases c2 : n < 2
    · simp (disch := first | assumption | omega) only [true_and, and_true, forall_eq, true_implies, false_implies, implies_true, not_true_eq_false, not_false_eq_true, false_and, and_false, ne_eq, ite_true, ite_false, Nat.reduceLeDiff, Nat.reduceEqDiff, Nat.reduceLT, Nat.reduceAdd, Nat.reduceMul, Nat.reduceSub, Nat.le_refl, eq_self, li_0, li_1, li_2, li_3, li_4, li_5, li_6, li_7, li_8, li_9, li_10, li_11, li_12, li_13, li_14, li_15, li_16, li_17, li_18, li_19, li_20, li_21, li_22, li_23, li_24, li_25, li_26, li_27, li_28, li_29, li_30, li_31, li_32, li_44, li_48, li_57, li_59, li_60, li_61, li_62, li_63, li_97, li_100, li_122, li_123, li_125, li_127, li_255, li_400, li_401, li_800, li_1023, li_1024, li_10827, i_add, i_mul, i_sub, i_p1, i_m1, i_nm, i_nm2, i_cl, i_cl0, vi_ok, i_lt, i_le, i_eq, lg_e, rf_103_4, rf_103_6, rf_103_7, rf_103_8, rf_103_9, rf_103_10, rf_103_21, rf_103_22, rf_103_23, rf_103_26, rf_103_27, rf_103_28, rf_103_29, rf_103_30, rf_103_31, rf_103_32, rf_103_33, rf_103_34, rf_103_35, rf_103_37, rf_103_38, rf_103_39, rf_103_44, rf_103_45, rf_103_46, rf_103_47, rf_103_48, rf_103_49, rf_103_54, rf_103_55, is_103, is_104, sz_104, is_125, sz_125, is_126, sz_126, is_127, sz_127, is_128, sz_128, is_129, sz_129, is_130, sz_130, is_131, sz_131, is_132, sz_132, is_133, sz_133, is_134, sz_134, is_135, sz_135, is_136, sz_136, is_137, sz_137, is_138, sz_138, is_139, sz_139, is_140, sz_140, is_141, sz_141, is_142, sz_142, is_143, sz_143, is_144, sz_144, is_145, sz_145, is_146, sz_146, is_147, sz_147, is_148, sz_148, is_149, sz_149, is_150, sz_150, is_151, sz_151, is_152, sz_152, is_153, sz_153, show ¬ 2 ≤ n by omega]
      by_cases c3 : t n
      · have q := (hT n c2).1 c3
        simp (disch := first | assumption | omega) only [true_and, and_true, forall_eq, true_implies, false_implies, implies_true, not_true_eq_false, not_false_eq_true, false_and, and_false, ne_eq, ite_true, ite_false, Nat.reduceLeDiff, Nat.reduceEqDiff, Nat.reduceLT, Nat.reduceAdd, Nat.reduceMul, Nat.reduceSub, Nat.le_refl, eq_self, li_0, li_1, li_2, li_3, li_4, li_5, li_6, li_7, li_8, li_9, li_10, li_11, li_12, li_13, li_14, li_15, li_16, li_17, li_18, li_19, li_20, li_21, li_22, li_23, li_24, li_25, li_26, li_27, li_28, li_29, li_30, li_31, li_32, li_44, li_48, li_57, li_59, li_60, li_61, li_62, li_63, li_97, li_100, li_122, li_123, li_125, li_127, li_255, li_400, li_401, li_800, li_1023, li_1024, li_10827, i_add, i_mul, i_sub, i_p1, i_m1, i_nm, i_nm2, i_cl, i_cl0, vi_ok, i_lt, i_le, i_eq, lg_e, q.1]
        exact hy n c2 rfl c3
      · have q := (hT n c2).2 c3
        simp (disch := first | assumption | omega) only [true_and, and_true, forall_eq, true_implies, false_implies, implies_true, not_true_eq_false, not_false_eq_true, false_and, and_false, ne_eq, ite_true, ite_false, Nat.reduceLeDiff, Nat.reduceEqDiff, Nat.reduceLT, Nat.reduceAdd, Nat.reduceMul, Nat.reduceSub, Nat.le_refl, eq_self, li_0, li_1, li_2, li_3, li_4, li_5, li_6, li_7, li_8, li_9, li_10, li_11, li_12, li_13, li_14, li_15, li_16, li_17, li_18, li_19, li_20, li_21, li_22, li_23, li_24, li_25, li_26, li_27, li_28, li_29, li_30, li_31, li_32, li_44, li_48, li_57, li_59, li_60, li_61, li_62, li_63, li_97, li_100, li_122, li_123, li_125, li_127, li_255, li_400, li_401, li_800, li_1023, li_1024, li_10827, i_add, i_mul, i_sub, i_p1, i_m1, i_nm, i_nm2, i_cl, i_cl0, vi_ok, i_lt, i_le, i_eq, lg_e, q.1]
        refine hn (fun ⟨a, a1, a2, a3⟩ => ?_)
        have := (i_eq (by omega) (by omega)).1 a2
        subst this
        exact c3 a3
    · simp (disch := first | assumption | omega) only [true_and, and_true, forall_eq, true_implies, false_implies, implies_true, not_true_eq_false, not_false_eq_true, false_and, and_false, ne_eq, ite_true, ite_false, Nat.reduceLeDiff, Nat.reduceEqDiff, Nat.reduceLT, Nat.reduceAdd, Nat.reduceMul, Nat.reduceSub, Nat.le_refl, eq_self, li_0, li_1, li_2, li_3, li_4, li_5, li_6, li_7, li_8, li_9, li_10, li_11, li_12, li_13, li_14, li_15, li_16, li_17, li_18, li_19, li_20, li_21, li_22, li_23, li_24, li_25, li_26, li_27, li_28, li_29, li_30, li_31, li_32, li_44, li_48, li_57, li_59, li_60, li_61, li_62, li_63, li_97, li_100, li_122, li_123, li_125, li_127, li_255, li_400, li_401, li_800, li_1023, li_1024, li_10827, i_add, i_mul, i_sub, i_p1, i_m1, i_nm, i_nm2, i_cl, i_cl0, vi_ok, i_lt, i_le, i_eq, lg_e, show 2 ≤ n by omega]
      refine hn (fun ⟨a, a1, a2, a3⟩ => ?_)
      have := (i_eq (by omega) (by omega)).1 a2
      omega
theorem PQ_112 : PQ 1 12 := Or.inr (Or.inl ⟨rfl, rfl⟩)
theorem PQ_1030 : PQ 103 0 := by unfold PQ SCR; omega
theorem PQ_1031 : PQ 103 1 := by unfold PQ SCR; omega
theorem PQ_1032 : PQ 103 2 := by unfold PQ SCR; omega
/-- a call that only says k of itself, over scratch -/
theorem inv_say {h h1 : AH} {X Y : Nat → Nat} {D : Nat → AD} {S : Nat → AS} {t : Nat → Prop} (hI : InvD h X Y D S t) (k : Int32) (k3 : k ≠ 3) (f : Fr PQ h h1) (hr : Refs h1) (m1 : h1.1 1 12 = k) : Inv (ax_setI (ax_setI h1 103 1 k) 103 2 (-1)) := by
  refine ⟨X, Y, D, S, t, inv_msg hI ((f.setI PQ_1031).setI PQ_1032) hr.setI.setI k k3 ?_ ?_ ?_⟩
  · simp (disch := first | assumption | omega) only [true_and, and_true, forall_eq, true_implies, false_implies, implies_true, not_true_eq_false, not_false_eq_true, false_and, and_false, ne_eq, ite_true, ite_false, Nat.reduceLeDiff, Nat.reduceEqDiff, Nat.reduceLT, Nat.reduceAdd, Nat.reduceMul, Nat.reduceSub, Nat.le_refl, eq_self, li_0, li_1, li_2, li_3, li_4, li_5, li_6, li_7, li_8, li_9, li_10, li_11, li_12, li_13, li_14, li_15, li_16, li_17, li_18, li_19, li_20, li_21, li_22, li_23, li_24, li_25, li_26, li_27, li_28, li_29, li_30, li_31, li_32, li_44, li_48, li_57, li_59, li_60, li_61, li_62, li_63, li_97, li_100, li_122, li_123, li_125, li_127, li_255, li_400, li_401, li_800, li_1023, li_1024, li_10827, i_add, i_mul, i_sub, i_p1, i_m1, i_nm, i_nm2, i_cl, i_cl0, vi_ok, i_lt, i_le, i_eq, lg_e, gI_s, gI_c, gI_p, gI_L, gI_R, gL_s, gL_c, gL_p, gL_I, gL_R, gR_s, gR_c, gR_p, gR_I, gR_L]; exact m1
  · simp (disch := first | assumption | omega) only [true_and, and_true, forall_eq, true_implies, false_implies, implies_true, not_true_eq_false, not_false_eq_true, false_and, and_false, ne_eq, ite_true, ite_false, Nat.reduceLeDiff, Nat.reduceEqDiff, Nat.reduceLT, Nat.reduceAdd, Nat.reduceMul, Nat.reduceSub, Nat.le_refl, eq_self, li_0, li_1, li_2, li_3, li_4, li_5, li_6, li_7, li_8, li_9, li_10, li_11, li_12, li_13, li_14, li_15, li_16, li_17, li_18, li_19, li_20, li_21, li_22, li_23, li_24, li_25, li_26, li_27, li_28, li_29, li_30, li_31, li_32, li_44, li_48, li_57, li_59, li_60, li_61, li_62, li_63, li_97, li_100, li_122, li_123, li_125, li_127, li_255, li_400, li_401, li_800, li_1023, li_1024, li_10827, i_add, i_mul, i_sub, i_p1, i_m1, i_nm, i_nm2, i_cl, i_cl0, vi_ok, i_lt, i_le, i_eq, lg_e, gI_s, gI_c, gI_p, gI_L, gI_R, gL_s, gL_c, gL_p, gL_I, gL_R, gR_s, gR_c, gR_p, gR_I, gR_L]
  · simp (disch := first | assumption | omega) only [true_and, and_true, forall_eq, true_implies, false_implies, implies_true, not_true_eq_false, not_false_eq_true, false_and, and_false, ne_eq, ite_true, ite_false, Nat.reduceLeDiff, Nat.reduceEqDiff, Nat.reduceLT, Nat.reduceAdd, Nat.reduceMul, Nat.reduceSub, Nat.le_refl, eq_self, li_0, li_1, li_2, li_3, li_4, li_5, li_6, li_7, li_8, li_9, li_10, li_11, li_12, li_13, li_14, li_15, li_16, li_17, li_18, li_19, li_20, li_21, li_22, li_23, li_24, li_25, li_26, li_27, li_28, li_29, li_30, li_31, li_32, li_44, li_48, li_57, li_59, li_60, li_61, li_62, li_63, li_97, li_100, li_122, li_123, li_125, li_127, li_255, li_400, li_401, li_800, li_1023, li_1024, li_10827, i_add, i_mul, i_sub, i_p1, i_m1, i_nm, i_nm2, i_cl, i_cl0, vi_ok, i_lt, i_le, i_eq, lg_e, gI_s, gI_c, gI_p, gI_L, gI_R, gL_s, gL_c, gL_p, gL_I, gL_R, gR_s, gR_c, gR_p, gR_I, gR_L]
/-- both refuse -/
theorem ob_ref {l : Launch} {g : AG} {h : AH} {X Y : Nat → Nat} {D : Nat → AD} {S : Nat → AS} {t : Nat → Prop} (hI : InvD h X Y D S t) (k : Int32) (k3 : k ≠ 3) : C_X12_refused l g (ax_setI (ax_setI h 1 12 k) 103 0 0) 103 k (fun r2 h2 => r2 = -1 ∧ Inv h2) :=
  k_X12_refused ⟨rfl, inv_say hI k k3 (((Fr.refl PQ h).setI PQ_112).setI PQ_1030) hI.1.setI.setI (by simp (disch := first | assumption | omega) only [true_and, and_true, forall_eq, true_implies, false_implies, implies_true, not_true_eq_false, not_false_eq_true, false_and, and_false, ne_eq, ite_true, ite_false, Nat.reduceLeDiff, Nat.reduceEqDiff, Nat.reduceLT, Nat.reduceAdd, Nat.reduceMul, Nat.reduceSub, Nat.le_refl, eq_self, li_0, li_1, li_2, li_3, li_4, li_5, li_6, li_7, li_8, li_9, li_10, li_11, li_12, li_13, li_14, li_15, li_16, li_17, li_18, li_19, li_20, li_21, li_22, li_23, li_24, li_25, li_26, li_27, li_28, li_29, li_30, li_31, li_32, li_44, li_48, li_57, li_59, li_60, li_61, li_62, li_63, li_97, li_100, li_122, li_123, li_125, li_127, li_255, li_400, li_401, li_800, li_1023, li_1024, li_10827, i_add, i_mul, i_sub, i_p1, i_m1, i_nm, i_nm2, i_cl, i_cl0, vi_ok, i_lt, i_le, i_eq, lg_e, gI_s, gI_c, gI_p, gI_L, gI_R, gL_s, gL_c, gL_p, gL_I, gL_R, gR_s, gR_c, gR_p, gR_I, gR_L])⟩
theorem i_bit {f : Nat → Prop} {a : Nat} (ha : a < 27) : jishr (Int32.ofNat (bsum f 27)) (Int32.ofNat a) &&& Int32.ofNat 1 = Int32.ofNat (bI (f a)) := by
  have := bsum_lt f 27
  rw [i_shr (by omega) (by omega), i_and, show (1 : Nat) = 2 ^ 1 - 1 from rfl, n_and, show (2 ^ 1 : Nat) = 2 from rfl, bsum_bit f 27 ha]
theorem bI_ez {p : Prop} : (Int32.ofNat (bI p) = Int32.ofNat 0) ↔ ¬ p := by
  have := bI_le p
  rw [i_eq (by omega) (by omega), bI_zero]
theorem q_has_y {l : Launch} {g : AG} {h : AH} {X Y : Nat → Nat} {D : Nat → AD} {S : Nat → AS} {t : Nat → Prop} {a : Nat} {Q : Int32 → AH → Prop} (hI : InvC h X Y D S t) (ha : a < 2) (ht : t a) (hq : Q 1 h) : C_X9_has l g h 1 (Int32.ofNat a) Q := q_has hI (fun _ _ _ _ => hq) (fun n => absurd ⟨a, ha, rfl, ht⟩ n)
theorem q_has_n {l : Launch} {g : AG} {h : AH} {X Y : Nat → Nat} {D : Nat → AD} {S : Nat → AS} {t : Nat → Prop} {x : Int32} {Q : Int32 → AH → Prop} (hI : InvC h X Y D S t) (hn : ¬ Tel t x) (hq : Q 0 h) : C_X9_has l g h 1 x Q := q_has hI (fun a h1 h2 h3 => absurd ⟨a, h1, h2, h3⟩ hn) (fun _ => hq)
theorem q_isApp_y {l : Launch} {g : AG} {h : AH} {X Y : Nat → Nat} {D : Nat → AD} {S : Nat → AS} {t : Nat → Prop} {a : Nat} {Q : Int32 → AH → Prop} (hI : InvC h X Y D S t) (ha : a < 2) (ht : t a) (hq : Q 1 h) : C_X12_isApp l g h 103 (Int32.ofNat a) Q := q_isApp hI (fun _ _ _ _ => hq) (fun n => absurd ⟨a, ha, rfl, ht⟩ n)
theorem q_isApp_n {l : Launch} {g : AG} {h : AH} {X Y : Nat → Nat} {D : Nat → AD} {S : Nat → AS} {t : Nat → Prop} {x : Int32} {Q : Int32 → AH → Prop} (hI : InvC h X Y D S t) (hn : ¬ Tel t x) (hq : Q 0 h) : C_X12_isApp l g h 103 x Q := q_isApp hI (fun a h1 h2 h3 => absurd ⟨a, h1, h2, h3⟩ hn) (fun _ => hq)
/-- the number names an ACT -/
theorem i_act (x : Int32) : (∃ b, b < 27 ∧ x = Int32.ofNat b) ∨ ((x < 0 ∨ ¬ x < 27) ∧ ¬ (0 ≤ x ∧ x < 27)) := by
  rcases i_split x with hx | ⟨n, hn, rfl⟩
  · refine Or.inr ⟨Or.inl hx, fun q => ?_⟩
    have q := q.1
    rw [Int32.lt_iff_toInt_lt] at hx
    rw [Int32.le_iff_toInt_le] at q
    omega
  · by_cases c : n < 27
    · exact Or.inl ⟨n, c, rfl⟩
    · refine Or.inr ⟨Or.inr (fun q => c ((i_lt (b := 27) hn (by omega)).1 q)), fun q => c ((i_lt (b := 27) hn (by omega)).1 q.2)⟩
theorem k_isAct_y {l : Launch} {g : AG} {h : AH} {b : Nat} {Q : Int32 → AH → Prop} (hb : b < 27) (hq : Q 1 h) : C_X12_isAct l g h (Int32.ofNat b) Q := by
  refine k_X12_isAct ?_
  rw [if_pos ⟨i_ge (by omega), (i_lt (b := 27) (by omega) (by omega)).2 hb⟩]
  exact hq
theorem k_isAct_n {l : Launch} {g : AG} {h : AH} {x : Int32} {Q : Int32 → AH → Prop} (hb : ¬ (0 ≤ x ∧ x < 27)) (hq : Q 0 h) : C_X12_isAct l g h x Q := by
  refine k_X12_isAct ?_
  rw [if_neg hb]
  exact hq
theorem SCR_1030 : SCR 103 0 := by unfold SCR; omega
theorem SCR_S {c p : Nat} (h : PS c p) : SCR c p := by
  unfold PS at h
  unfold SCR
  omega
theorem FrS.scr {h h1 : AH} (f : FrS h h1) : Fr SCR h h1 := f.fr.mono (fun _ _ => SCR_S)
theorem FrS.pq {h h1 : AH} (f : FrS h h1) : Fr PQ h h1 := f.fr.mono (fun _ _ => PQ_S)
theorem Fr.pq {h h1 : AH} (f : Fr SCR h h1) : Fr PQ h h1 := f.mono (fun _ _ => PQ_scr)
theorem mIn {h h2 : AH} {X Y : Nat → Nat} {D : Nat → AD} {S : Nat → AS} {t : Nat → Prop} (hI : InvD h X Y D S t) (e : h2 = ax_setI h 103 0 0) : InvC h2 X Y D S t ∧ Fr SCR h h2 ∧ Inv h2 := by
  subst e
  have f1 : Fr SCR h (ax_setI h 103 0 0) := (Fr.refl SCR h).setI SCR_1030
  exact ⟨hI.c.fr f1.pq hI.1.setI, f1, X, Y, D, S, t, inv_fr hI f1 hI.1.setI⟩
theorem mIn2 {h h1 h2 : AH} {X Y : Nat → Nat} {D : Nat → AD} {S : Nat → AS} {t : Nat → Prop} (hI : InvC h X Y D S t) (f : Fr PQ h h1) (hr : Refs h1) (e : h2 = ax_setI h1 103 0 0) : InvC h2 X Y D S t ∧ Fr PQ h h2 ∧ ∀ c p, ¬ (c = 103 ∧ p = 0) → h2.1 c p = h1.1 c p := by
  subst e
  have f1 := f.setI (v := 0) PQ_1030
  exact ⟨hI.fr f1 hr.setI, f1, fun c p q => by rw [gI_I, if_neg q]⟩
