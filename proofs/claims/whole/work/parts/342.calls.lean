/-- the invariant but for what the last call said of itself -/
def InvC (h : AH) (X Y : Nat → Nat) (D : Nat → AD) (S : Nat → AS) (t : Nat → Prop) : Prop := Refs h ∧ IA h X Y ∧ (∀ a, a < 2 → IT h (X a) (Y a) a (D a) (S a) (t a)) ∧ ITape h ∧ IRow h ∧ IMap h X D t ∧ IPair h
theorem InvD.c {h : AH} {X Y : Nat → Nat} {D : Nat → AD} {S : Nat → AS} {t : Nat → Prop} (hI : InvD h X Y D S t) : InvC h X Y D S t := ⟨hI.1, hI.2.1, hI.2.2.1, hI.2.2.2.1, hI.2.2.2.2.2.1, hI.2.2.2.2.2.2.1, hI.2.2.2.2.2.2.2⟩
theorem InvC.fr {h h1 : AH} {X Y : Nat → Nat} {D : Nat → AD} {S : Nat → AS} {t : Nat → Prop} (hI : InvC h X Y D S t) (f : Fr PQ h h1) (hr : Refs h1) : InvC h1 X Y D S t := by
  obtain ⟨b1, b2, b3, b4, b6, b7, b8⟩ := hI
  have e1 : ∀ c p, PQ c p → (c = 68 ∨ (70 ≤ c ∧ c ≤ 72) ∨ (83 ≤ c ∧ c ≤ 89) ∨ c = 91 ∨ c = 92 ∨ (c = 93 ∧ p ≠ 2) ∨ (95 ≤ c ∧ c ≤ 100) ∨ c = 102 ∨ (c = 103 ∧ (p = 0 ∨ (12 ≤ p ∧ p ≤ 20) ∨ p = 42 ∨ (50 ≤ p ∧ p ≤ 53))) ∨ c = 128 ∨ (130 ≤ c ∧ c ≤ 132) ∨ c = 140 ∨ c = 141 ∨ c = 144 ∨ (146 ≤ c ∧ c ≤ 153) ∨ c = 194 ∨ (c = 67 ∧ p ≠ 3 ∧ p ≠ 4)) ∨ (c = 1 ∧ p = 12) ∨ (c = 103 ∧ (p = 1 ∨ p = 2)) := fun c p q => q
  refine ⟨hr, b2.fr f (fun c p q => by have := e1 c p q; omega), fun a ha => (b3 a ha).fr f (fun c p q => ?_), b4.fr f (fun c p q => by have := e1 c p q; omega), b6.fr f (fun c p q => by have := e1 c p q; omega), b7.fr f (fun c p q => ?_), b8.fr f (fun c p q => by have := e1 c p q; omega)⟩
  · have z := e1 c p q
    have zx := (b2.1 a (by omega)).1
    have zy := (b2.1 a (by omega)).2
    unfold isA at zx
    unfold isB at zy
    omega
  · have z := e1 c p q
    unfold PMAP
    omega
/-- the end of a call that says k of itself -/
theorem inv_end {h h1 : AH} {X Y : Nat → Nat} {D : Nat → AD} {S : Nat → AS} {t : Nat → Prop} (hI : InvC h1 X Y D S t) (hM : IMsg h) (e : h1.1 67 3 = h.1 67 3 ∧ h1.1 103 3 = h.1 103 3 ∧ h1.1 1 11 = h.1 1 11 ∧ h1.1 103 41 = h.1 103 41) (k : Int32) (k3 : k ≠ 3) (m1 : h1.1 1 12 = k) (m2 : h1.1 103 1 = k) (m3 : h1.1 103 2 = -1) : Inv h1 := by
  obtain ⟨b1, b2, b3, b4, b6, b7, b8⟩ := hI
  obtain ⟨c1, c2, c3, c4⟩ := hM
  exact ⟨X, Y, D, S, t, b1, b2, b3, b4, ⟨by rw [e.1, e.2.1]; exact c1, by rw [m1, m2], by rw [m3, m1, if_neg k3], by rw [e.2.2.1, e.2.2.2]; exact c4⟩, b6, b7, b8⟩
theorem PQ_scr {c p : Nat} (h : SCR c p) : PQ c p := Or.inl h
theorem PQ_S {c p : Nat} (h : PS c p) : PQ c p := by
  unfold PS at h
  unfold PQ SCR
  omega
theorem IA.x {h : AH} {X Y : Nat → Nat} (hA : IA h X Y) {a : Nat} (ha : a < 2) : h.2.2 3 a = X a := by
  have : a = 0 ∨ a = 1 := by omega
  rcases this with rfl | rfl
  · exact hA.2.2.2.1
  · exact hA.2.2.2.2.1
theorem IA.y {h : AH} {X Y : Nat → Nat} (hA : IA h X Y) {a : Nat} (ha : a < 2) : h.2.2 104 a = Y a := by
  have : a = 0 ∨ a = 1 := by omega
  rcases this with rfl | rfl
  · exact hA.2.2.2.2.2.2.1
  · exact hA.2.2.2.2.2.2.2.1
theorem IA.isx {h : AH} {X Y : Nat → Nat} (hA : IA h X Y) {a : Nat} (ha : a < 2) : isA (X a) := (hA.1 a (by omega)).1
theorem IA.isy {h : AH} {X Y : Nat → Nat} (hA : IA h X Y) {a : Nat} (ha : a < 2) : isB (Y a) := (hA.1 a (by omega)).2
/-- the number names an APP that was told -/
def Tel (t : Nat → Prop) (x : Int32) : Prop := ∃ a, a < 2 ∧ x = Int32.ofNat a ∧ t a
theorem i_split (x : Int32) : x < 0 ∨ ∃ n, n < 2147483648 ∧ x = Int32.ofNat n := by
  by_cases c : x < 0
  · exact Or.inl c
  · exact Or.inr (i_of c)
theorem i_neg {x : Int32} (h : x < 0) (n : Nat) (hn : n < 2147483648) : x ≠ Int32.ofNat n := by
  intro e
  rw [e] at h
  exact i_nn hn h
theorem q_has {l : Launch} {g : AG} {h : AH} {X Y : Nat → Nat} {D : Nat → AD} {S : Nat → AS} {t : Nat → Prop} {x : Int32} {Q : Int32 → AH → Prop} (hI : InvC h X Y D S t) (hy : ∀ a, a < 2 → x = Int32.ofNat a → t a → Q 1 h) (hn : ¬ Tel t x → Q 0 h) : C_X9_has l g h 1 x Q := by
  obtain ⟨hr, hA, hT, -⟩ := hI
  refine c_X9_has (s_X9_has_0 ?_)
  rcases i_split x with hx | ⟨n, hn2, rfl⟩
  · exact ⟨fun _ => hn (fun ⟨a, a1, a2, a3⟩ => i_neg hx a (by omega) a2), fun c => absurd hx c⟩
  · refine ⟨fun c => absurd c (i_nn hn2), fun _ => ?_⟩
    by_cases c2 : n < 2
    · (try simp (disch := first | assumption | omega) only [true_and, and_true, forall_eq, true_implies, false_implies, implies_true, not_true_eq_false, not_false_eq_true, false_and, and_false, ne_eq, ite_true, ite_false, Nat.reduceLeDiff, Nat.reduceEqDiff, Nat.reduceLT, Nat.reduceAdd, Nat.reduceMul, Nat.reduceSub, Nat.le_refl, eq_self, li_0, li_1, li_2, li_3, li_4, li_5, li_6, li_7, li_8, li_9, li_10, li_11, li_12, li_13, li_14, li_15, li_16, li_17, li_18, li_19, li_20, li_21, li_22, li_23, li_24, li_25, li_26, li_27, li_28, li_29, li_30, li_31, li_32, li_44, li_48, li_57, li_59, li_60, li_61, li_62, li_63, li_97, li_100, li_122, li_123, li_125, li_127, li_255, li_400, li_401, li_800, li_1023, li_1024, li_10827, i_add, i_mul, i_sub, i_p1, i_m1, i_nm, i_nm2, i_cl, i_cl0, vi_ok, i_lt, i_le, i_eq, lg_e, rf_1_0, rf_1_2, rf_1_4, rf_1_5, rf_1_6, rf_1_7, rf_1_8, rf_1_10, is_1, is_2, sz_2, is_3, sz_3, is_67, sz_67, is_73, sz_73, is_74, sz_74, is_93, sz_93, is_101, sz_101, is_102, sz_102, hA.x c2, show ¬ 2 ≤ n by omega])
      by_cases c3 : t n
      · have q := (hT n c2).1 c3
        have hw := q.2.1.1
        (try simp (disch := first | assumption | omega) only [true_and, and_true, forall_eq, true_implies, false_implies, implies_true, not_true_eq_false, not_false_eq_true, false_and, and_false, ne_eq, ite_true, ite_false, Nat.reduceLeDiff, Nat.reduceEqDiff, Nat.reduceLT, Nat.reduceAdd, Nat.reduceMul, Nat.reduceSub, Nat.le_refl, eq_self, li_0, li_1, li_2, li_3, li_4, li_5, li_6, li_7, li_8, li_9, li_10, li_11, li_12, li_13, li_14, li_15, li_16, li_17, li_18, li_19, li_20, li_21, li_22, li_23, li_24, li_25, li_26, li_27, li_28, li_29, li_30, li_31, li_32, li_44, li_48, li_57, li_59, li_60, li_61, li_62, li_63, li_97, li_100, li_122, li_123, li_125, li_127, li_255, li_400, li_401, li_800, li_1023, li_1024, li_10827, i_add, i_mul, i_sub, i_p1, i_m1, i_nm, i_nm2, i_cl, i_cl0, vi_ok, i_lt, i_le, i_eq, lg_e, isA_x (hA.isx c2), q.2.2.1.1.1, show ¬ D n 0 0 ≤ 0 by omega])
        exact hy n c2 rfl c3
      · have q := (hT n c2).2 c3
        (try simp (disch := first | assumption | omega) only [true_and, and_true, forall_eq, true_implies, false_implies, implies_true, not_true_eq_false, not_false_eq_true, false_and, and_false, ne_eq, ite_true, ite_false, Nat.reduceLeDiff, Nat.reduceEqDiff, Nat.reduceLT, Nat.reduceAdd, Nat.reduceMul, Nat.reduceSub, Nat.le_refl, eq_self, li_0, li_1, li_2, li_3, li_4, li_5, li_6, li_7, li_8, li_9, li_10, li_11, li_12, li_13, li_14, li_15, li_16, li_17, li_18, li_19, li_20, li_21, li_22, li_23, li_24, li_25, li_26, li_27, li_28, li_29, li_30, li_31, li_32, li_44, li_48, li_57, li_59, li_60, li_61, li_62, li_63, li_97, li_100, li_122, li_123, li_125, li_127, li_255, li_400, li_401, li_800, li_1023, li_1024, li_10827, i_add, i_mul, i_sub, i_p1, i_m1, i_nm, i_nm2, i_cl, i_cl0, vi_ok, i_lt, i_le, i_eq, lg_e, isA_x (hA.isx c2), q.2])
        refine hn (fun ⟨a, a1, a2, a3⟩ => ?_)
        have := (i_eq (by omega) (by omega)).1 a2
        subst this
        exact c3 a3
    · (try simp (disch := first | assumption | omega) only [true_and, and_true, forall_eq, true_implies, false_implies, implies_true, not_true_eq_false, not_false_eq_true, false_and, and_false, ne_eq, ite_true, ite_false, Nat.reduceLeDiff, Nat.reduceEqDiff, Nat.reduceLT, Nat.reduceAdd, Nat.reduceMul, Nat.reduceSub, Nat.le_refl, eq_self, li_0, li_1, li_2, li_3, li_4, li_5, li_6, li_7, li_8, li_9, li_10, li_11, li_12, li_13, li_14, li_15, li_16, li_17, li_18, li_19, li_20, li_21, li_22, li_23, li_24, li_25, li_26, li_27, li_28, li_29, li_30, li_31, li_32, li_44, li_48, li_57, li_59, li_60, li_61, li_62, li_63, li_97, li_100, li_122, li_123, li_125, li_127, li_255, li_400, li_401, li_800, li_1023, li_1024, li_10827, i_add, i_mul, i_sub, i_p1, i_m1, i_nm, i_nm2, i_cl, i_cl0, vi_ok, i_lt, i_le, i_eq, lg_e, show 2 ≤ n by omega])
      refine hn (fun ⟨a, a1, a2, a3⟩ => ?_)
      have := (i_eq (by omega) (by omega)).1 a2
      omega
theorem q_isApp {l : Launch} {g : AG} {h : AH} {X Y : Nat → Nat} {D : Nat → AD} {S : Nat → AS} {t : Nat → Prop} {x : Int32} {Q : Int32 → AH → Prop} (hI : InvC h X Y D S t) (hy : ∀ a, a < 2 → x = Int32.ofNat a → t a → Q 1 h) (hn : ¬ Tel t x → Q 0 h) : C_X12_isApp l g h 103 x Q := by
  obtain ⟨hr, hA, hT, -⟩ := hI
  refine c_X12_isApp (s_X12_isApp_0 ?_)
  rcases i_split x with hx | ⟨n, hn2, rfl⟩
  · exact ⟨fun _ => hn (fun ⟨a, a1, a2, a3⟩ => i_neg hx a (by omega) a2), fun c => absurd hx c⟩
  · refine ⟨fun c => absurd c (i_nn hn2), fun _ => ?_⟩
    by_cases c2 : n < 2
    · (try simp (disch := first | assumption | omega) only [true_and, and_true, forall_eq, true_implies, false_implies, implies_true, not_true_eq_false, not_false_eq_true, false_and, and_false, ne_eq, ite_true, ite_false, Nat.reduceLeDiff, Nat.reduceEqDiff, Nat.reduceLT, Nat.reduceAdd, Nat.reduceMul, Nat.reduceSub, Nat.le_refl, eq_self, li_0, li_1, li_2, li_3, li_4, li_5, li_6, li_7, li_8, li_9, li_10, li_11, li_12, li_13, li_14, li_15, li_16, li_17, li_18, li_19, li_20, li_21, li_22, li_23, li_24, li_25, li_26, li_27, li_28, li_29, li_30, li_31, li_32, li_44, li_48, li_57, li_59, li_60, li_61, li_62, li_63, li_97, li_100, li_122, li_123, li_125, li_127, li_255, li_400, li_401, li_800, li_1023, li_1024, li_10827, i_add, i_mul, i_sub, i_p1, i_m1, i_nm, i_nm2, i_cl, i_cl0, vi_ok, i_lt, i_le, i_eq, lg_e, rf_103_4, rf_103_6, rf_103_7, rf_103_8, rf_103_9, rf_103_10, rf_103_21, rf_103_22, rf_103_23, rf_103_26, rf_103_27, rf_103_28, rf_103_29, rf_103_30, rf_103_31, rf_103_32, rf_103_33, rf_103_34, rf_103_35, rf_103_37, rf_103_38, rf_103_39, rf_103_44, rf_103_45, rf_103_46, rf_103_47, rf_103_48, rf_103_49, rf_103_54, rf_103_55, is_103, is_104, sz_104, is_125, sz_125, is_126, sz_126, is_127, sz_127, is_128, sz_128, is_129, sz_129, is_130, sz_130, is_131, sz_131, is_132, sz_132, is_133, sz_133, is_134, sz_134, is_135, sz_135, is_136, sz_136, is_137, sz_137, is_138, sz_138, is_139, sz_139, is_140, sz_140, is_141, sz_141, is_142, sz_142, is_143, sz_143, is_144, sz_144, is_145, sz_145, is_146, sz_146, is_147, sz_147, is_148, sz_148, is_149, sz_149, is_150, sz_150, is_151, sz_151, is_152, sz_152, is_153, sz_153, show ¬ 2 ≤ n by omega])
      by_cases c3 : t n
      · have q := (hT n c2).1 c3
        (try simp (disch := first | assumption | omega) only [true_and, and_true, forall_eq, true_implies, false_implies, implies_true, not_true_eq_false, not_false_eq_true, false_and, and_false, ne_eq, ite_true, ite_false, Nat.reduceLeDiff, Nat.reduceEqDiff, Nat.reduceLT, Nat.reduceAdd, Nat.reduceMul, Nat.reduceSub, Nat.le_refl, eq_self, li_0, li_1, li_2, li_3, li_4, li_5, li_6, li_7, li_8, li_9, li_10, li_11, li_12, li_13, li_14, li_15, li_16, li_17, li_18, li_19, li_20, li_21, li_22, li_23, li_24, li_25, li_26, li_27, li_28, li_29, li_30, li_31, li_32, li_44, li_48, li_57, li_59, li_60, li_61, li_62, li_63, li_97, li_100, li_122, li_123, li_125, li_127, li_255, li_400, li_401, li_800, li_1023, li_1024, li_10827, i_add, i_mul, i_sub, i_p1, i_m1, i_nm, i_nm2, i_cl, i_cl0, vi_ok, i_lt, i_le, i_eq, lg_e, q.1])
        exact hy n c2 rfl c3
      · have q := (hT n c2).2 c3
        (try simp (disch := first | assumption | omega) only [true_and, and_true, forall_eq, true_implies, false_implies, implies_true, not_true_eq_false, not_false_eq_true, false_and, and_false, ne_eq, ite_true, ite_false, Nat.reduceLeDiff, Nat.reduceEqDiff, Nat.reduceLT, Nat.reduceAdd, Nat.reduceMul, Nat.reduceSub, Nat.le_refl, eq_self, li_0, li_1, li_2, li_3, li_4, li_5, li_6, li_7, li_8, li_9, li_10, li_11, li_12, li_13, li_14, li_15, li_16, li_17, li_18, li_19, li_20, li_21, li_22, li_23, li_24, li_25, li_26, li_27, li_28, li_29, li_30, li_31, li_32, li_44, li_48, li_57, li_59, li_60, li_61, li_62, li_63, li_97, li_100, li_122, li_123, li_125, li_127, li_255, li_400, li_401, li_800, li_1023, li_1024, li_10827, i_add, i_mul, i_sub, i_p1, i_m1, i_nm, i_nm2, i_cl, i_cl0, vi_ok, i_lt, i_le, i_eq, lg_e, q.1])
        refine hn (fun ⟨a, a1, a2, a3⟩ => ?_)
        have := (i_eq (by omega) (by omega)).1 a2
        subst this
        exact c3 a3
    · (try simp (disch := first | assumption | omega) only [true_and, and_true, forall_eq, true_implies, false_implies, implies_true, not_true_eq_false, not_false_eq_true, false_and, and_false, ne_eq, ite_true, ite_false, Nat.reduceLeDiff, Nat.reduceEqDiff, Nat.reduceLT, Nat.reduceAdd, Nat.reduceMul, Nat.reduceSub, Nat.le_refl, eq_self, li_0, li_1, li_2, li_3, li_4, li_5, li_6, li_7, li_8, li_9, li_10, li_11, li_12, li_13, li_14, li_15, li_16, li_17, li_18, li_19, li_20, li_21, li_22, li_23, li_24, li_25, li_26, li_27, li_28, li_29, li_30, li_31, li_32, li_44, li_48, li_57, li_59, li_60, li_61, li_62, li_63, li_97, li_100, li_122, li_123, li_125, li_127, li_255, li_400, li_401, li_800, li_1023, li_1024, li_10827, i_add, i_mul, i_sub, i_p1, i_m1, i_nm, i_nm2, i_cl, i_cl0, vi_ok, i_lt, i_le, i_eq, lg_e, show 2 ≤ n by omega])
      refine hn (fun ⟨a, a1, a2, a3⟩ => ?_)
      have := (i_eq (by omega) (by omega)).1 a2
      omega
theorem PQ_112 : PQ 1 12 := Or.inr (Or.inl ⟨rfl, rfl⟩)
theorem PQ_1030 : PQ 103 0 := by unfold PQ SCR; omega
theorem PQ_1031 : PQ 103 1 := by unfold PQ SCR; omega
theorem PQ_1032 : PQ 103 2 := by unfold PQ SCR; omega
/-- a call that only says k of itself, over scratch -/
theorem inv_say {h h1 : AH} {X Y : Nat → Nat} {D : Nat → AD} {S : Nat → AS} {t : Nat → Prop} (hI : InvD h X Y D S t) (k : Int32) (k3 : k ≠ 3) (f : Fr PQ h h1) (hr : Refs h1) (m1 : h1.1 1 12 = k) : Inv (ax_setI (ax_setI h1 103 1 k) 103 2 (-1)) := by
  refine ⟨X, Y, D, S, t, inv_msg hI ((f.setI PQ_1031).setI PQ_1032) hr.setI.setI k k3 ?_ ?_ ?_⟩
  · (try simp (disch := first | assumption | omega) only [true_and, and_true, forall_eq, true_implies, false_implies, implies_true, not_true_eq_false, not_false_eq_true, false_and, and_false, ne_eq, ite_true, ite_false, Nat.reduceLeDiff, Nat.reduceEqDiff, Nat.reduceLT, Nat.reduceAdd, Nat.reduceMul, Nat.reduceSub, Nat.le_refl, eq_self, li_0, li_1, li_2, li_3, li_4, li_5, li_6, li_7, li_8, li_9, li_10, li_11, li_12, li_13, li_14, li_15, li_16, li_17, li_18, li_19, li_20, li_21, li_22, li_23, li_24, li_25, li_26, li_27, li_28, li_29, li_30, li_31, li_32, li_44, li_48, li_57, li_59, li_60, li_61, li_62, li_63, li_97, li_100, li_122, li_123, li_125, li_127, li_255, li_400, li_401, li_800, li_1023, li_1024, li_10827, i_add, i_mul, i_sub, i_p1, i_m1, i_nm, i_nm2, i_cl, i_cl0, vi_ok, i_lt, i_le, i_eq, lg_e, gI_s, gI_c, gI_p, gI_L, gI_R, gL_s, gL_c, gL_p, gL_I, gL_R, gR_s, gR_c, gR_p, gR_I, gR_L]); exact m1
  · (try simp (disch := first | assumption | omega) only [true_and, and_true, forall_eq, true_implies, false_implies, implies_true, not_true_eq_false, not_false_eq_true, false_and, and_false, ne_eq, ite_true, ite_false, Nat.reduceLeDiff, Nat.reduceEqDiff, Nat.reduceLT, Nat.reduceAdd, Nat.reduceMul, Nat.reduceSub, Nat.le_refl, eq_self, li_0, li_1, li_2, li_3, li_4, li_5, li_6, li_7, li_8, li_9, li_10, li_11, li_12, li_13, li_14, li_15, li_16, li_17, li_18, li_19, li_20, li_21, li_22, li_23, li_24, li_25, li_26, li_27, li_28, li_29, li_30, li_31, li_32, li_44, li_48, li_57, li_59, li_60, li_61, li_62, li_63, li_97, li_100, li_122, li_123, li_125, li_127, li_255, li_400, li_401, li_800, li_1023, li_1024, li_10827, i_add, i_mul, i_sub, i_p1, i_m1, i_nm, i_nm2, i_cl, i_cl0, vi_ok, i_lt, i_le, i_eq, lg_e, gI_s, gI_c, gI_p, gI_L, gI_R, gL_s, gL_c, gL_p, gL_I, gL_R, gR_s, gR_c, gR_p, gR_I, gR_L])
  · (try simp (disch := first | assumption | omega) only [true_and, and_true, forall_eq, true_implies, false_implies, implies_true, not_true_eq_false, not_false_eq_true, false_and, and_false, ne_eq, ite_true, ite_false, Nat.reduceLeDiff, Nat.reduceEqDiff, Nat.reduceLT, Nat.reduceAdd, Nat.reduceMul, Nat.reduceSub, Nat.le_refl, eq_self, li_0, li_1, li_2, li_3, li_4, li_5, li_6, li_7, li_8, li_9, li_10, li_11, li_12, li_13, li_14, li_15, li_16, li_17, li_18, li_19, li_20, li_21, li_22, li_23, li_24, li_25, li_26, li_27, li_28, li_29, li_30, li_31, li_32, li_44, li_48, li_57, li_59, li_60, li_61, li_62, li_63, li_97, li_100, li_122, li_123, li_125, li_127, li_255, li_400, li_401, li_800, li_1023, li_1024, li_10827, i_add, i_mul, i_sub, i_p1, i_m1, i_nm, i_nm2, i_cl, i_cl0, vi_ok, i_lt, i_le, i_eq, lg_e, gI_s, gI_c, gI_p, gI_L, gI_R, gL_s, gL_c, gL_p, gL_I, gL_R, gR_s, gR_c, gR_p, gR_I, gR_L])
/-- both refuse -/
theorem ob_ref {l : Launch} {g : AG} {h : AH} {X Y : Nat → Nat} {D : Nat → AD} {S : Nat → AS} {t : Nat → Prop} (hI : InvD h X Y D S t) (k : Int32) (k3 : k ≠ 3) : C_X12_refused l g (ax_setI (ax_setI h 1 12 k) 103 0 0) 103 k (fun r2 h2 => r2 = -1 ∧ Inv h2) :=
  k_X12_refused ⟨rfl, inv_say hI k k3 (((Fr.refl PQ h).setI PQ_112).setI PQ_1030) hI.1.setI.setI (by (try simp (disch := first | assumption | omega) only [true_and, and_true, forall_eq, true_implies, false_implies, implies_true, not_true_eq_false, not_false_eq_true, false_and, and_false, ne_eq, ite_true, ite_false, Nat.reduceLeDiff, Nat.reduceEqDiff, Nat.reduceLT, Nat.reduceAdd, Nat.reduceMul, Nat.reduceSub, Nat.le_refl, eq_self, li_0, li_1, li_2, li_3, li_4, li_5, li_6, li_7, li_8, li_9, li_10, li_11, li_12, li_13, li_14, li_15, li_16, li_17, li_18, li_19, li_20, li_21, li_22, li_23, li_24, li_25, li_26, li_27, li_28, li_29, li_30, li_31, li_32, li_44, li_48, li_57, li_59, li_60, li_61, li_62, li_63, li_97, li_100, li_122, li_123, li_125, li_127, li_255, li_400, li_401, li_800, li_1023, li_1024, li_10827, i_add, i_mul, i_sub, i_p1, i_m1, i_nm, i_nm2, i_cl, i_cl0, vi_ok, i_lt, i_le, i_eq, lg_e, gI_s, gI_c, gI_p, gI_L, gI_R, gL_s, gL_c, gL_p, gL_I, gL_R, gR_s, gR_c, gR_p, gR_I, gR_L]))⟩
theorem i_bit {f : Nat → Prop} {a : Nat} (ha : a < 27) : jishr (Int32.ofNat (bsum f 27)) (Int32.ofNat a) &&& Int32.ofNat 1 = Int32.ofNat (bI (f a)) := by
  have := bsum_lt f 27
  rw [i_shr (by omega) (by omega), i_and, show (1 : Nat) = 2 ^ 1 - 1 from rfl, n_and, show (2 ^ 1 : Nat) = 2 from rfl, bsum_bit f 27 ha]
theorem bI_ez {p : Prop} : (Int32.ofNat (bI p) = Int32.ofNat 0) ↔ ¬ p := by
  have := bI_le p
  rw [i_eq (by omega) (by omega), bI_zero]
theorem ob_act {l : Launch} {g : AG} (h : AH) (a1 a2 : Int32) (hI : Inv h) : C_X9_act l g h 1 a1 a2 (fun r h1 => C_X12_act l g h1 103 a1 a2 (fun r2 h2 => r2 = r ∧ Inv h2)) := by
  obtain ⟨X, Y, D, S, t, hI⟩ := hI
  have f1 : ∀ k, Fr PQ h (ax_setI (ax_setI h 1 12 k) 103 0 0) := fun k => ((Fr.refl PQ h).setI PQ_112).setI PQ_1030
  have i1 : ∀ k, InvC (ax_setI (ax_setI h 1 12 k) 103 0 0) X Y D S t := fun k => hI.c.fr (f1 k) hI.1.setI.setI
  refine c_X9_act (s_X9_act_0 ⟨is_1, q_has hI.c (fun a ha e ht => ?_) (fun hn => ?_)⟩)
  · subst e
    have hr := hI.1
    have hA := hI.2.1
    obtain ⟨t1, t2, t3, t4, t5, t6, t7, t8⟩ := (hI.2.2.1 a ha).1 ht
    have hx := hA.isx ha
    have hy := hA.isy ha
    have bad : ∀ k : Int32, k ≠ 3 → (a2 < 0 ∨ ¬ a2 < 27) → k = 2 → C_X12_act l g (ax_setI h 1 12 k) 103 (Int32.ofNat a) a2 (fun r2 h2 => r2 = -1 ∧ Inv h2) := by
      intro k k3 hb hk2
      refine c_X12_act (s_X12_act_0 ⟨is_103, ?_⟩)
      intro h2 e2
      subst e2
      refine q_isApp (i1 k) (fun b hb1 hb2 hb3 => ?_) (fun hn => absurd ⟨a, ha, rfl, ht⟩ hn)
      refine ⟨fun _ => k_X12_isAct ?_, fun z => absurd z (by decide)⟩
      rw [if_neg (fun q => by
        rw [Int32.lt_iff_toInt_lt, Int32.lt_iff_toInt_lt] at hb
        rw [Int32.le_iff_toInt_le, Int32.lt_iff_toInt_lt] at q
        omega)]
      refine ⟨fun z => absurd rfl z, fun _ => ?_⟩
      subst hk2
      exact ob_ref hI 2 k3
    refine ⟨fun _ => ⟨fun z => k_X9_refused (bad 2 (by decide) (Or.inl z) rfl), fun z => ⟨fun z2 => ?_, fun z2 => k_X9_refused (bad 2 (by decide) (Or.inr z2) rfl)⟩⟩, fun z => absurd z (by decide)⟩
    obtain ⟨b, hb, rfl⟩ := i_of z
    have hb27 : b < 27 := (i_lt (b := 27) hb (by omega)).1 z2
    (try simp (disch := first | assumption | omega) only [true_and, and_true, forall_eq, true_implies, false_implies, implies_true, not_true_eq_false, not_false_eq_true, false_and, and_false, ne_eq, ite_true, ite_false, Nat.reduceLeDiff, Nat.reduceEqDiff, Nat.reduceLT, Nat.reduceAdd, Nat.reduceMul, Nat.reduceSub, Nat.le_refl, eq_self, li_0, li_1, li_2, li_3, li_4, li_5, li_6, li_7, li_8, li_9, li_10, li_11, li_12, li_13, li_14, li_15, li_16, li_17, li_18, li_19, li_20, li_21, li_22, li_23, li_24, li_25, li_26, li_27, li_28, li_29, li_30, li_31, li_32, li_44, li_48, li_57, li_59, li_60, li_61, li_62, li_63, li_97, li_100, li_122, li_123, li_125, li_127, li_255, li_400, li_401, li_800, li_1023, li_1024, li_10827, i_add, i_mul, i_sub, i_p1, i_m1, i_nm, i_nm2, i_cl, i_cl0, vi_ok, i_lt, i_le, i_eq, lg_e, rf_1_0, rf_1_2, rf_1_4, rf_1_5, rf_1_6, rf_1_7, rf_1_8, rf_1_10, is_1, is_2, sz_2, is_3, sz_3, is_67, sz_67, is_73, sz_73, is_74, sz_74, is_93, sz_93, is_101, sz_101, is_102, sz_102, hA.x ha, isA_x hx, t6])
    have go : ∀ (k : Nat) (Q : Int32 → AH → Prop) (h0 : AH), InvC h0 X Y D S t → (∀ h', Fr PQ h0 h' → RepS h' (S a) → Refs h' → ((possD (D a) (S a) b → C_X12_acts l g h' 103 (Y a) (Int32.ofNat b) (fun h29 => Is 194 (h29.2.2 103 7) 21 ∧ C_X12_packed l g h29 103 (fun r33 h32 => vp_in (Int32.ofNat a) (ax_s (h29.2.2 103 7)).2 ∧ ∀ h35 : AH, h35 = ax_setL h32 (h29.2.2 103 7) (Int32.ofNat a).toNatClampNeg r33 → Is 194 (h35.2.2 103 8) 21 ∧ C_X12_packedVars l g h35 103 (fun r40 h39 => vp_in (Int32.ofNat a) (ax_s (h35.2.2 103 8)).2 ∧ ∀ h42 : AH, h42 = ax_setL h39 (h35.2.2 103 8) (Int32.ofNat a).toNatClampNeg r40 → C_X12_done l g h42 103 1 Q)))) ∧ (¬ possD (D a) (S a) b → C_X12_refused l g h' 103 4 Q))) → True := fun _ _ _ _ _ => trivial
    refine k_X0_possible hr hx t5 t2.1 t2.2.1 t3.2.1 t3.2.2.2.2.1 hb (fun p => ?_) (fun p => ?_)
    · (try simp (disch := first | assumption | omega) only [true_and, and_true, forall_eq, true_implies, false_implies, implies_true, not_true_eq_false, not_false_eq_true, false_and, and_false, ne_eq, ite_true, ite_false, Nat.reduceLeDiff, Nat.reduceEqDiff, Nat.reduceLT, Nat.reduceAdd, Nat.reduceMul, Nat.reduceSub, Nat.le_refl, eq_self, li_0, li_1, li_2, li_3, li_4, li_5, li_6, li_7, li_8, li_9, li_10, li_11, li_12, li_13, li_14, li_15, li_16, li_17, li_18, li_19, li_20, li_21, li_22, li_23, li_24, li_25, li_26, li_27, li_28, li_29, li_30, li_31, li_32, li_44, li_48, li_57, li_59, li_60, li_61, li_62, li_63, li_97, li_100, li_122, li_123, li_125, li_127, li_255, li_400, li_401, li_800, li_1023, li_1024, li_10827, i_add, i_mul, i_sub, i_p1, i_m1, i_nm, i_nm2, i_cl, i_cl0, vi_ok, i_lt, i_le, i_eq, lg_e, rf_1_0, rf_1_2, rf_1_4, rf_1_5, rf_1_6, rf_1_7, rf_1_8, rf_1_10, is_1, is_2, sz_2, is_3, sz_3, is_67, sz_67, is_73, sz_73, is_74, sz_74, is_93, sz_93, is_101, sz_101, is_102, sz_102, hA.x ha, isA_x hx, t6])
      refine k_X0_after hr hx t2 t3 t5 hb27 p ?_
      sorry
    · (try simp (disch := first | assumption | omega) only [true_and, and_true, forall_eq, true_implies, false_implies, implies_true, not_true_eq_false, not_false_eq_true, false_and, and_false, ne_eq, ite_true, ite_false, Nat.reduceLeDiff, Nat.reduceEqDiff, Nat.reduceLT, Nat.reduceAdd, Nat.reduceMul, Nat.reduceSub, Nat.le_refl, eq_self, li_0, li_1, li_2, li_3, li_4, li_5, li_6, li_7, li_8, li_9, li_10, li_11, li_12, li_13, li_14, li_15, li_16, li_17, li_18, li_19, li_20, li_21, li_22, li_23, li_24, li_25, li_26, li_27, li_28, li_29, li_30, li_31, li_32, li_44, li_48, li_57, li_59, li_60, li_61, li_62, li_63, li_97, li_100, li_122, li_123, li_125, li_127, li_255, li_400, li_401, li_800, li_1023, li_1024, li_10827, i_add, i_mul, i_sub, i_p1, i_m1, i_nm, i_nm2, i_cl, i_cl0, vi_ok, i_lt, i_le, i_eq, lg_e])
      refine k_X9_refused ?_
      refine c_X12_act (s_X12_act_0 ⟨is_103, ?_⟩)
      intro h2 e2
      subst e2
      refine q_isApp (i1 4) (fun b2 _ _ _ => ?_) (fun hn => absurd ⟨a, ha, rfl, ht⟩ hn)
      sorry
  · refine ⟨fun z => absurd rfl z, fun _ => k_X9_refused ?_⟩
    refine c_X12_act (s_X12_act_0 ⟨is_103, ?_⟩)
    intro h2 e2
    subst e2
    refine q_isApp (i1 1) (fun b hb1 hb2 hb3 => absurd ⟨b, hb1, hb2, hb3⟩ hn) (fun _ => ?_)
    exact ⟨fun z => absurd rfl z, fun _ => ob_ref hI 1 (by decide)⟩
