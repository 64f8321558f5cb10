theorem inv_end2 {h1 : AH} {X Y : Nat → Nat} {D : Nat → AD} {S : Nat → AS} {t : Nat → Prop} (hI : InvC h1 X Y D S t) (e1 : h1.1 67 3 = h1.1 103 3) (e2 : h1.1 1 11 = h1.1 103 41) (k : Int32) (k3 : k ≠ 3) (m1 : h1.1 1 12 = k) (m2 : h1.1 103 1 = k) (m3 : h1.1 103 2 = -1) : Inv h1 := by
  obtain ⟨b1, b2, b3, b4, b6, b7, b8⟩ := hI
  exact ⟨X, Y, D, S, t, b1, b2, b3, b4, ⟨e1, by rw [m1, m2], by rw [m3, m1, if_neg k3], e2⟩, b6, b7, b8⟩
/-- scratch, messages, tape, row, pairs -/
def PW (c p : Nat) : Prop := PQ c p ∨ c = 2 ∨ c = 129 ∨ c = 101 ∨ c = 145 ∨ c = 94 ∨ (c = 1 ∧ (p = 1 ∨ p = 9 ∨ p = 11)) ∨ (c = 103 ∧ (p = 11 ∨ p = 40 ∨ p = 41 ∨ p = 43))
theorem PW_Q {c p : Nat} (h : PQ c p) : PW c p := Or.inl h
theorem Fr.pw {h h1 : AH} (f : Fr PQ h h1) : Fr PW h h1 := f.mono (fun _ _ => PW_Q)
theorem InvC.w {h h1 : AH} {X Y : Nat → Nat} {D : Nat → AD} {S : Nat → AS} {t : Nat → Prop} (hI : InvC h X Y D S t) (f : Fr PW h h1) (hr : Refs h1) (hT : ITape h1) (hR : IRow h1) (hP : IPair h1) : InvC h1 X Y D S t := by
  obtain ⟨b1, b2, b3, b4, b6, b7, b8⟩ := hI
  have e1 : ∀ c p, PW c p → ((c = 68 ∨ (70 ≤ c ∧ c ≤ 72) ∨ (83 ≤ c ∧ c ≤ 89) ∨ c = 91 ∨ c = 92 ∨ (c = 93 ∧ p ≠ 2) ∨ (95 ≤ c ∧ c ≤ 100) ∨ c = 102 ∨ (c = 103 ∧ (p = 0 ∨ (12 ≤ p ∧ p ≤ 20) ∨ p = 42 ∨ (50 ≤ p ∧ p ≤ 53))) ∨ c = 128 ∨ (130 ≤ c ∧ c ≤ 132) ∨ c = 140 ∨ c = 141 ∨ c = 144 ∨ (146 ≤ c ∧ c ≤ 153) ∨ c = 194 ∨ (c = 67 ∧ p ≠ 3 ∧ p ≠ 4)) ∨ (c = 1 ∧ p = 12) ∨ (c = 103 ∧ (p = 1 ∨ p = 2))) ∨ c = 2 ∨ c = 129 ∨ c = 101 ∨ c = 145 ∨ c = 94 ∨ (c = 1 ∧ (p = 1 ∨ p = 9 ∨ p = 11)) ∨ (c = 103 ∧ (p = 11 ∨ p = 40 ∨ p = 41 ∨ p = 43)) := fun c p q => q
  refine ⟨hr, b2.fr f (fun c p q => by have := e1 c p q; omega), fun a ha => (b3 a ha).fr f (fun c p q => ?_), hT, hR, b7.fr f (fun c p q => ?_), hP⟩
  · have z := e1 c p q
    have zx := (b2.1 a (by omega)).1
    have zy := (b2.1 a (by omega)).2
    unfold isA at zx
    unfold isB at zy
    omega
  · have z := e1 c p q
    unfold PMAP
    omega
/-- the hand of APP a has moved -/
def PH (a c p : Nat) : Prop := PQ c p ∨ (p = a ∧ (c = 73 ∨ c = 126 ∨ c = 127))
def upS (S : Nat → AS) (a : Nat) (U : AS) : Nat → AS := fun b => if b = a then U else S b
theorem InvC.hand {h h1 : AH} {X Y : Nat → Nat} {D : Nat → AD} {S : Nat → AS} {t : Nat → Prop} {a : Nat} {U : AS} (hI : InvC h X Y D S t) (ha : a < 2) (ht : t a) (f : Fr (PH a) h h1) (hr : Refs h1) (hw : WS (D a 0 0) U) (e1 : h1.2.1 73 a = Int64.ofNat (en U)) (e2 : h1.2.1 126 a = Int64.ofNat (ea U 5)) (e3 : h1.2.1 127 a = Int64.ofNat (eb U.2.2.2.2 6)) : InvC h1 X Y D (upS S a U) t := by
  obtain ⟨b1, b2, b3, b4, b6, b7, b8⟩ := hI
  have g1 : ∀ c p, PH a c p → ((c = 68 ∨ (70 ≤ c ∧ c ≤ 72) ∨ (83 ≤ c ∧ c ≤ 89) ∨ c = 91 ∨ c = 92 ∨ (c = 93 ∧ p ≠ 2) ∨ (95 ≤ c ∧ c ≤ 100) ∨ c = 102 ∨ (c = 103 ∧ (p = 0 ∨ (12 ≤ p ∧ p ≤ 20) ∨ p = 42 ∨ (50 ≤ p ∧ p ≤ 53))) ∨ c = 128 ∨ (130 ≤ c ∧ c ≤ 132) ∨ c = 140 ∨ c = 141 ∨ c = 144 ∨ (146 ≤ c ∧ c ≤ 153) ∨ c = 194 ∨ (c = 67 ∧ p ≠ 3 ∧ p ≠ 4)) ∨ (c = 1 ∧ p = 12) ∨ (c = 103 ∧ (p = 1 ∨ p = 2))) ∨ (p = a ∧ (c = 73 ∨ c = 126 ∨ c = 127)) := fun c p q => q
  have far : ∀ b, b < 2 → ∀ c p, PH a c p → ¬ (X b ≤ c ∧ c ≤ X b + 20) ∧ ¬ (Y b ≤ c ∧ c ≤ Y b + 19) := by
    intro b hb c p q
    have z := g1 c p q
    have zx := (b2.1 b (by omega)).1
    have zy := (b2.1 b (by omega)).2
    unfold isA at zx
    unfold isB at zy
    omega
  refine ⟨hr, b2.fr f (fun c p q => by have := g1 c p q; omega), fun b hb => ?_, b4.fr f (fun c p q => by have := g1 c p q; omega), b6.fr f (fun c p q => by have := g1 c p q; omega), b7.fr f (fun c p q => ?_), b8.fr f (fun c p q => by have := g1 c p q; omega)⟩
  · by_cases c : b = a
    · subst c
      have q := (b3 b hb).1 ht
      have ff := far b hb
      refine ⟨fun _ => ⟨?_, q.2.1, q.2.2.1.fr f (fun c p h1 h2 z => (ff c p z).1 ⟨h1, h2⟩), q.2.2.2.1.fr f (fun c p h1 h2 z => (ff c p z).2 ⟨h1, h2⟩), ?_⟩, fun z => absurd ht z⟩
      · rw [(f 125 b (fun z => by have := g1 _ _ z; omega)).1]; exact q.1
      · have e : upS S b U b = U := by unfold upS; rw [if_pos rfl]
        rw [e]
        exact ⟨hw, e1, e2, e3⟩
    · have e : upS S a U b = S b := by unfold upS; rw [if_neg c]
      rw [e]
      refine (b3 b hb).fr f (fun c p q => ?_)
      have z := g1 c p q
      have ff := far b hb c p q
      exact ⟨ff.1, ff.2, by omega⟩
  · have z := g1 c p q
    unfold PMAP
    omega
def PC (a c p : Nat) : Prop := PQ c p ∨ (p = a ∧ c = 73)
theorem PC_H {a c p : Nat} (h : PC a c p) : PH a c p := by
  rcases h with h | h
  · exact Or.inl h
  · exact Or.inr ⟨h.1, Or.inl h.2⟩
theorem k_isApp1 {l : Launch} {g : AG} {h : AH} {a : Nat} {Q : Int32 → AH → Prop} (hr : Refs h) (ha : a < 2) (e : h.1 125 a = 1) (hq : Q 1 h) : C_X12_isApp l g h 103 (Int32.ofNat a) Q := by
  refine c_X12_isApp (s_X12_isApp_0 ?_)
  simp (disch := first | assumption | omega) only [true_and, and_true, forall_eq, true_implies, false_implies, implies_true, not_true_eq_false, not_false_eq_true, false_and, and_false, ne_eq, ite_true, ite_false, Nat.reduceLeDiff, Nat.reduceEqDiff, Nat.reduceLT, Nat.reduceAdd, Nat.reduceMul, Nat.reduceSub, Nat.le_refl, eq_self, li_0, li_1, li_2, li_3, li_4, li_5, li_6, li_7, li_8, li_9, li_10, li_11, li_12, li_13, li_14, li_15, li_16, li_17, li_18, li_19, li_20, li_21, li_22, li_23, li_24, li_25, li_26, li_27, li_28, li_29, li_30, li_31, li_32, li_44, li_48, li_57, li_59, li_60, li_61, li_62, li_63, li_97, li_100, li_122, li_123, li_125, li_127, li_255, li_400, li_401, li_800, li_1023, li_1024, li_10827, i_add, i_mul, i_sub, i_p1, i_m1, i_nm, i_nm2, i_cl, i_cl0, vi_ok, i_lt, i_le, i_eq, lg_e, rf_103_4, rf_103_6, rf_103_7, rf_103_8, rf_103_9, rf_103_10, rf_103_21, rf_103_22, rf_103_23, rf_103_26, rf_103_27, rf_103_28, rf_103_29, rf_103_30, rf_103_31, rf_103_32, rf_103_33, rf_103_34, rf_103_35, rf_103_37, rf_103_38, rf_103_39, rf_103_44, rf_103_45, rf_103_46, rf_103_47, rf_103_48, rf_103_49, rf_103_54, rf_103_55, is_103, is_104, sz_104, is_125, sz_125, is_126, sz_126, is_127, sz_127, is_128, sz_128, is_129, sz_129, is_130, sz_130, is_131, sz_131, is_132, sz_132, is_133, sz_133, is_134, sz_134, is_135, sz_135, is_136, sz_136, is_137, sz_137, is_138, sz_138, is_139, sz_139, is_140, sz_140, is_141, sz_141, is_142, sz_142, is_143, sz_143, is_144, sz_144, is_145, sz_145, is_146, sz_146, is_147, sz_147, is_148, sz_148, is_149, sz_149, is_150, sz_150, is_151, sz_151, is_152, sz_152, is_153, sz_153, e, show ¬ a < 0 by omega, show ¬ 2 ≤ a by omega]
  exact hq
theorem far_PH {X Y : Nat → Nat} {h : AH} {a : Nat} (hA : IA h X Y) (b : Nat) (hb : b < 2) : (∀ c p, X b ≤ c → c ≤ X b + 20 → ¬ PH a c p) ∧ (∀ c p, Y b ≤ c → c ≤ Y b + 19 → ¬ PH a c p) := by
  have zx := (hA.1 b (by omega)).1
  have zy := (hA.1 b (by omega)).2
  unfold isA at zx
  unfold isB at zy
  refine ⟨fun c p h1 h2 q => ?_, fun c p h1 h2 q => ?_⟩
  · unfold PH PQ SCR at q
    omega
  · unfold PH PQ SCR at q
    omega
theorem ob_act {l : Launch} {g : AG} (h : AH) (a1 a2 : Int32) (hI : Inv h) : C_X9_act l g h 1 a1 a2 (fun r h1 => C_X12_act l g h1 103 a1 a2 (fun r2 h2 => r2 = r ∧ Inv h2)) := by
  obtain ⟨X, Y, D, S, t, hI⟩ := hI
  have fk : ∀ k, Fr PQ h (ax_setI h 1 12 k) := fun k => (Fr.refl PQ h).setI PQ_112
  by_cases hT : Tel t a1
  · obtain ⟨a, ha, rfl, ht⟩ := hT
    have hr := hI.1
    have hA := hI.2.1
    obtain ⟨t1, t2, t3, t4, t5, t6, t7, t8⟩ := (hI.2.2.1 a ha).1 ht
    have hx := hA.isx ha
    have hy := hA.isy ha
    have he := en_lt t5
    refine c_X9_act (s_X9_act_0 ⟨is_1, q_has_y hI.c ha ht ⟨fun _ => ?_, fun z => absurd z (by decide)⟩⟩)
    rcases i_act a2 with ⟨b, hb, rfl⟩ | ⟨c1, c2⟩
    · simp (disch := first | assumption | omega) only [true_and, and_true, forall_eq, true_implies, false_implies, implies_true, not_true_eq_false, not_false_eq_true, false_and, and_false, ne_eq, ite_true, ite_false, Nat.reduceLeDiff, Nat.reduceEqDiff, Nat.reduceLT, Nat.reduceAdd, Nat.reduceMul, Nat.reduceSub, Nat.le_refl, eq_self, li_0, li_1, li_2, li_3, li_4, li_5, li_6, li_7, li_8, li_9, li_10, li_11, li_12, li_13, li_14, li_15, li_16, li_17, li_18, li_19, li_20, li_21, li_22, li_23, li_24, li_25, li_26, li_27, li_28, li_29, li_30, li_31, li_32, li_44, li_48, li_57, li_59, li_60, li_61, li_62, li_63, li_97, li_100, li_122, li_123, li_125, li_127, li_255, li_400, li_401, li_800, li_1023, li_1024, li_10827, i_add, i_mul, i_sub, i_p1, i_m1, i_nm, i_nm2, i_cl, i_cl0, vi_ok, i_lt, i_le, i_eq, lg_e, rf_1_0, rf_1_2, rf_1_4, rf_1_5, rf_1_6, rf_1_7, rf_1_8, rf_1_10, is_1, is_2, sz_2, is_3, sz_3, is_67, sz_67, is_73, sz_73, is_74, sz_74, is_93, sz_93, is_101, sz_101, is_102, sz_102, hA.x ha, isA_x hx, t6, show ¬ b < 0 by omega, hb]
      refine k_X0_possible hr hx t5 t2.1 t2.2.1 t3.2.1 t3.2.2.2.2.1 (by omega) (fun p => ?_) (fun p => ?_)
      · simp (disch := first | assumption | omega) only [true_and, and_true, forall_eq, true_implies, false_implies, implies_true, not_true_eq_false, not_false_eq_true, false_and, and_false, ne_eq, ite_true, ite_false, Nat.reduceLeDiff, Nat.reduceEqDiff, Nat.reduceLT, Nat.reduceAdd, Nat.reduceMul, Nat.reduceSub, Nat.le_refl, eq_self, li_0, li_1, li_2, li_3, li_4, li_5, li_6, li_7, li_8, li_9, li_10, li_11, li_12, li_13, li_14, li_15, li_16, li_17, li_18, li_19, li_20, li_21, li_22, li_23, li_24, li_25, li_26, li_27, li_28, li_29, li_30, li_31, li_32, li_44, li_48, li_57, li_59, li_60, li_61, li_62, li_63, li_97, li_100, li_122, li_123, li_125, li_127, li_255, li_400, li_401, li_800, li_1023, li_1024, li_10827, i_add, i_mul, i_sub, i_p1, i_m1, i_nm, i_nm2, i_cl, i_cl0, vi_ok, i_lt, i_le, i_eq, lg_e, rf_1_0, rf_1_2, rf_1_4, rf_1_5, rf_1_6, rf_1_7, rf_1_8, rf_1_10, is_1, is_2, sz_2, is_3, sz_3, is_67, sz_67, is_73, sz_73, is_74, sz_74, is_93, sz_93, is_101, sz_101, is_102, sz_102, hA.x ha, isA_x hx, t6]
        refine k_X0_after hr hx t2 t3 t5 hb p ?_
        have wS := ws_stepD t2 t5 p
        refine k_X9_granted ?_
        have fa : Fr (PC a) h (ax_setI (ax_setL h 73 a (Int64.ofNat (en (stepD (D a) (S a) b)))) 1 12 0) := ((Fr.refl (PC a) h).setL (Or.inr ⟨rfl, rfl⟩)).setI (Or.inl PQ_112)
        have v73 : (ax_setI (ax_setL h 73 a (Int64.ofNat (en (stepD (D a) (S a) b)))) 1 12 0).2.1 73 a = Int64.ofNat (en (stepD (D a) (S a) b)) := by simp (disch := first | assumption | omega) only [true_and, and_true, forall_eq, true_implies, false_implies, implies_true, not_true_eq_false, not_false_eq_true, false_and, and_false, ne_eq, ite_true, ite_false, Nat.reduceLeDiff, Nat.reduceEqDiff, Nat.reduceLT, Nat.reduceAdd, Nat.reduceMul, Nat.reduceSub, Nat.le_refl, eq_self, li_0, li_1, li_2, li_3, li_4, li_5, li_6, li_7, li_8, li_9, li_10, li_11, li_12, li_13, li_14, li_15, li_16, li_17, li_18, li_19, li_20, li_21, li_22, li_23, li_24, li_25, li_26, li_27, li_28, li_29, li_30, li_31, li_32, li_44, li_48, li_57, li_59, li_60, li_61, li_62, li_63, li_97, li_100, li_122, li_123, li_125, li_127, li_255, li_400, li_401, li_800, li_1023, li_1024, li_10827, i_add, i_mul, i_sub, i_p1, i_m1, i_nm, i_nm2, i_cl, i_cl0, vi_ok, i_lt, i_le, i_eq, lg_e, gI_s, gI_c, gI_p, gI_L, gI_R, gL_s, gL_c, gL_p, gL_I, gL_R, gR_s, gR_c, gR_p, gR_I, gR_L]
        have v112 : (ax_setI (ax_setL h 73 a (Int64.ofNat (en (stepD (D a) (S a) b)))) 1 12 0).1 1 12 = 0 := by simp (disch := first | assumption | omega) only [true_and, and_true, forall_eq, true_implies, false_implies, implies_true, not_true_eq_false, not_false_eq_true, false_and, and_false, ne_eq, ite_true, ite_false, Nat.reduceLeDiff, Nat.reduceEqDiff, Nat.reduceLT, Nat.reduceAdd, Nat.reduceMul, Nat.reduceSub, Nat.le_refl, eq_self, li_0, li_1, li_2, li_3, li_4, li_5, li_6, li_7, li_8, li_9, li_10, li_11, li_12, li_13, li_14, li_15, li_16, li_17, li_18, li_19, li_20, li_21, li_22, li_23, li_24, li_25, li_26, li_27, li_28, li_29, li_30, li_31, li_32, li_44, li_48, li_57, li_59, li_60, li_61, li_62, li_63, li_97, li_100, li_122, li_123, li_125, li_127, li_255, li_400, li_401, li_800, li_1023, li_1024, li_10827, i_add, i_mul, i_sub, i_p1, i_m1, i_nm, i_nm2, i_cl, i_cl0, vi_ok, i_lt, i_le, i_eq, lg_e, gI_s, gI_c, gI_p, gI_L, gI_R, gL_s, gL_c, gL_p, gL_I, gL_R, gR_s, gR_c, gR_p, gR_I, gR_L]
        have ra : Refs (ax_setI (ax_setL h 73 a (Int64.ofNat (en (stepD (D a) (S a) b)))) 1 12 0) := hr.setL.setI
        revert fa v73 v112 ra
        generalize ax_setI (ax_setL h 73 a (Int64.ofNat (en (stepD (D a) (S a) b)))) 1 12 0 = h1
        intro fa v73 v112 ra
        refine c_X12_act (s_X12_act_0 ⟨is_103, ?_⟩)
        intro h2 e2
        have f2 : Fr (PC a) h h2 := by rw [e2]; exact fa.setI (Or.inl PQ_1030)
        have r2 : Refs h2 := by rw [e2]; exact ra.setI
        have w73 : h2.2.1 73 a = Int64.ofNat (en (stepD (D a) (S a) b)) := by rw [e2]; exact v73
        have w112 : h2.1 1 12 = 0 := by rw [e2, gI_c (by omega)]; exact v112
        clear e2
        have f2h : Fr (PH a) h h2 := f2.mono (fun _ _ => PC_H)
        have hA2 : IA h2 X Y := hA.fr f2h (fun c p q => by unfold PH PQ SCR at q; omega)
        have u4 : RepB h2 (Y a) (D a) := t4.fr f2h (far_PH hA a ha).2
        refine k_isApp1 r2 ha (by rw [(f2 125 a (fun q => by unfold PC PQ SCR at q; omega)).1]; exact t1) ⟨fun _ => k_isAct_y hb ⟨fun _ => ?_, fun z => absurd z (by decide)⟩, fun z => absurd z (by decide)⟩
        simp (disch := first | assumption | omega) only [true_and, and_true, forall_eq, true_implies, false_implies, implies_true, not_true_eq_false, not_false_eq_true, false_and, and_false, ne_eq, ite_true, ite_false, Nat.reduceLeDiff, Nat.reduceEqDiff, Nat.reduceLT, Nat.reduceAdd, Nat.reduceMul, Nat.reduceSub, Nat.le_refl, eq_self, li_0, li_1, li_2, li_3, li_4, li_5, li_6, li_7, li_8, li_9, li_10, li_11, li_12, li_13, li_14, li_15, li_16, li_17, li_18, li_19, li_20, li_21, li_22, li_23, li_24, li_25, li_26, li_27, li_28, li_29, li_30, li_31, li_32, li_44, li_48, li_57, li_59, li_60, li_61, li_62, li_63, li_97, li_100, li_122, li_123, li_125, li_127, li_255, li_400, li_401, li_800, li_1023, li_1024, li_10827, i_add, i_mul, i_sub, i_p1, i_m1, i_nm, i_nm2, i_cl, i_cl0, vi_ok, i_lt, i_le, i_eq, lg_e, rf_103_4, rf_103_6, rf_103_7, rf_103_8, rf_103_9, rf_103_10, rf_103_21, rf_103_22, rf_103_23, rf_103_26, rf_103_27, rf_103_28, rf_103_29, rf_103_30, rf_103_31, rf_103_32, rf_103_33, rf_103_34, rf_103_35, rf_103_37, rf_103_38, rf_103_39, rf_103_44, rf_103_45, rf_103_46, rf_103_47, rf_103_48, rf_103_49, rf_103_54, rf_103_55, is_103, is_104, sz_104, is_125, sz_125, is_126, sz_126, is_127, sz_127, is_128, sz_128, is_129, sz_129, is_130, sz_130, is_131, sz_131, is_132, sz_132, is_133, sz_133, is_134, sz_134, is_135, sz_135, is_136, sz_136, is_137, sz_137, is_138, sz_138, is_139, sz_139, is_140, sz_140, is_141, sz_141, is_142, sz_142, is_143, sz_143, is_144, sz_144, is_145, sz_145, is_146, sz_146, is_147, sz_147, is_148, sz_148, is_149, sz_149, is_150, sz_150, is_151, sz_151, is_152, sz_152, is_153, sz_153, (f2 126 a (fun q => by unfold PC PQ SCR at q; omega)).2.1, (f2 127 a (fun q => by unfold PC PQ SCR at q; omega)).2.1, t7, t8]
        refine k_X12_unpack r2 t5 (fun h3 f3 s3 => ?_)
        have r3 := f3.refs r2
        have hA3 : IA h3 X Y := hA2.fr f3.fr (fun c p q => by unfold PS at q; omega)
        simp (disch := first | assumption | omega) only [true_and, and_true, forall_eq, true_implies, false_implies, implies_true, not_true_eq_false, not_false_eq_true, false_and, and_false, ne_eq, ite_true, ite_false, Nat.reduceLeDiff, Nat.reduceEqDiff, Nat.reduceLT, Nat.reduceAdd, Nat.reduceMul, Nat.reduceSub, Nat.le_refl, eq_self, li_0, li_1, li_2, li_3, li_4, li_5, li_6, li_7, li_8, li_9, li_10, li_11, li_12, li_13, li_14, li_15, li_16, li_17, li_18, li_19, li_20, li_21, li_22, li_23, li_24, li_25, li_26, li_27, li_28, li_29, li_30, li_31, li_32, li_44, li_48, li_57, li_59, li_60, li_61, li_62, li_63, li_97, li_100, li_122, li_123, li_125, li_127, li_255, li_400, li_401, li_800, li_1023, li_1024, li_10827, i_add, i_mul, i_sub, i_p1, i_m1, i_nm, i_nm2, i_cl, i_cl0, vi_ok, i_lt, i_le, i_eq, lg_e, rf_103_4, rf_103_6, rf_103_7, rf_103_8, rf_103_9, rf_103_10, rf_103_21, rf_103_22, rf_103_23, rf_103_26, rf_103_27, rf_103_28, rf_103_29, rf_103_30, rf_103_31, rf_103_32, rf_103_33, rf_103_34, rf_103_35, rf_103_37, rf_103_38, rf_103_39, rf_103_44, rf_103_45, rf_103_46, rf_103_47, rf_103_48, rf_103_49, rf_103_54, rf_103_55, is_103, is_104, sz_104, is_125, sz_125, is_126, sz_126, is_127, sz_127, is_128, sz_128, is_129, sz_129, is_130, sz_130, is_131, sz_131, is_132, sz_132, is_133, sz_133, is_134, sz_134, is_135, sz_135, is_136, sz_136, is_137, sz_137, is_138, sz_138, is_139, sz_139, is_140, sz_140, is_141, sz_141, is_142, sz_142, is_143, sz_143, is_144, sz_144, is_145, sz_145, is_146, sz_146, is_147, sz_147, is_148, sz_148, is_149, sz_149, is_150, sz_150, is_151, sz_151, is_152, sz_152, is_153, sz_153, hA3.y ha, isB_x hy]
        refine k_X12_possible r3 hy t5 s3 t2 (f3.repB hy u4) ?_
        rw [i_bit hb, bI_ez]
        refine ⟨fun _ => ?_, fun z => absurd p z⟩
        simp (disch := first | assumption | omega) only [true_and, and_true, forall_eq, true_implies, false_implies, implies_true, not_true_eq_false, not_false_eq_true, false_and, and_false, ne_eq, ite_true, ite_false, Nat.reduceLeDiff, Nat.reduceEqDiff, Nat.reduceLT, Nat.reduceAdd, Nat.reduceMul, Nat.reduceSub, Nat.le_refl, eq_self, li_0, li_1, li_2, li_3, li_4, li_5, li_6, li_7, li_8, li_9, li_10, li_11, li_12, li_13, li_14, li_15, li_16, li_17, li_18, li_19, li_20, li_21, li_22, li_23, li_24, li_25, li_26, li_27, li_28, li_29, li_30, li_31, li_32, li_44, li_48, li_57, li_59, li_60, li_61, li_62, li_63, li_97, li_100, li_122, li_123, li_125, li_127, li_255, li_400, li_401, li_800, li_1023, li_1024, li_10827, i_add, i_mul, i_sub, i_p1, i_m1, i_nm, i_nm2, i_cl, i_cl0, vi_ok, i_lt, i_le, i_eq, lg_e, rf_103_4, rf_103_6, rf_103_7, rf_103_8, rf_103_9, rf_103_10, rf_103_21, rf_103_22, rf_103_23, rf_103_26, rf_103_27, rf_103_28, rf_103_29, rf_103_30, rf_103_31, rf_103_32, rf_103_33, rf_103_34, rf_103_35, rf_103_37, rf_103_38, rf_103_39, rf_103_44, rf_103_45, rf_103_46, rf_103_47, rf_103_48, rf_103_49, rf_103_54, rf_103_55, is_103, is_104, sz_104, is_125, sz_125, is_126, sz_126, is_127, sz_127, is_128, sz_128, is_129, sz_129, is_130, sz_130, is_131, sz_131, is_132, sz_132, is_133, sz_133, is_134, sz_134, is_135, sz_135, is_136, sz_136, is_137, sz_137, is_138, sz_138, is_139, sz_139, is_140, sz_140, is_141, sz_141, is_142, sz_142, is_143, sz_143, is_144, sz_144, is_145, sz_145, is_146, sz_146, is_147, sz_147, is_148, sz_148, is_149, sz_149, is_150, sz_150, is_151, sz_151, is_152, sz_152, is_153, sz_153, hA3.y ha, isB_x hy]
        refine k_X12_acts r3 hy t2 t5 s3 (f3.repB hy u4) hb p (fun h4 f4 s4 => ?_)
        have r4 := f4.refs r3
        have f24 := f3.trans f4
        simp (disch := first | assumption | omega) only [true_and, and_true, forall_eq, true_implies, false_implies, implies_true, not_true_eq_false, not_false_eq_true, false_and, and_false, ne_eq, ite_true, ite_false, Nat.reduceLeDiff, Nat.reduceEqDiff, Nat.reduceLT, Nat.reduceAdd, Nat.reduceMul, Nat.reduceSub, Nat.le_refl, eq_self, li_0, li_1, li_2, li_3, li_4, li_5, li_6, li_7, li_8, li_9, li_10, li_11, li_12, li_13, li_14, li_15, li_16, li_17, li_18, li_19, li_20, li_21, li_22, li_23, li_24, li_25, li_26, li_27, li_28, li_29, li_30, li_31, li_32, li_44, li_48, li_57, li_59, li_60, li_61, li_62, li_63, li_97, li_100, li_122, li_123, li_125, li_127, li_255, li_400, li_401, li_800, li_1023, li_1024, li_10827, i_add, i_mul, i_sub, i_p1, i_m1, i_nm, i_nm2, i_cl, i_cl0, vi_ok, i_lt, i_le, i_eq, lg_e, rf_103_4, rf_103_6, rf_103_7, rf_103_8, rf_103_9, rf_103_10, rf_103_21, rf_103_22, rf_103_23, rf_103_26, rf_103_27, rf_103_28, rf_103_29, rf_103_30, rf_103_31, rf_103_32, rf_103_33, rf_103_34, rf_103_35, rf_103_37, rf_103_38, rf_103_39, rf_103_44, rf_103_45, rf_103_46, rf_103_47, rf_103_48, rf_103_49, rf_103_54, rf_103_55, is_103, is_104, sz_104, is_125, sz_125, is_126, sz_126, is_127, sz_127, is_128, sz_128, is_129, sz_129, is_130, sz_130, is_131, sz_131, is_132, sz_132, is_133, sz_133, is_134, sz_134, is_135, sz_135, is_136, sz_136, is_137, sz_137, is_138, sz_138, is_139, sz_139, is_140, sz_140, is_141, sz_141, is_142, sz_142, is_143, sz_143, is_144, sz_144, is_145, sz_145, is_146, sz_146, is_147, sz_147, is_148, sz_148, is_149, sz_149, is_150, sz_150, is_151, sz_151, is_152, sz_152, is_153, sz_153]
        refine k_X12_packed r4 wS s4 ?_
        simp (disch := first | assumption | omega) only [true_and, and_true, forall_eq, true_implies, false_implies, implies_true, not_true_eq_false, not_false_eq_true, false_and, and_false, ne_eq, ite_true, ite_false, Nat.reduceLeDiff, Nat.reduceEqDiff, Nat.reduceLT, Nat.reduceAdd, Nat.reduceMul, Nat.reduceSub, Nat.le_refl, eq_self, li_0, li_1, li_2, li_3, li_4, li_5, li_6, li_7, li_8, li_9, li_10, li_11, li_12, li_13, li_14, li_15, li_16, li_17, li_18, li_19, li_20, li_21, li_22, li_23, li_24, li_25, li_26, li_27, li_28, li_29, li_30, li_31, li_32, li_44, li_48, li_57, li_59, li_60, li_61, li_62, li_63, li_97, li_100, li_122, li_123, li_125, li_127, li_255, li_400, li_401, li_800, li_1023, li_1024, li_10827, i_add, i_mul, i_sub, i_p1, i_m1, i_nm, i_nm2, i_cl, i_cl0, vi_ok, i_lt, i_le, i_eq, lg_e, rf_103_4, rf_103_6, rf_103_7, rf_103_8, rf_103_9, rf_103_10, rf_103_21, rf_103_22, rf_103_23, rf_103_26, rf_103_27, rf_103_28, rf_103_29, rf_103_30, rf_103_31, rf_103_32, rf_103_33, rf_103_34, rf_103_35, rf_103_37, rf_103_38, rf_103_39, rf_103_44, rf_103_45, rf_103_46, rf_103_47, rf_103_48, rf_103_49, rf_103_54, rf_103_55, is_103, is_104, sz_104, is_125, sz_125, is_126, sz_126, is_127, sz_127, is_128, sz_128, is_129, sz_129, is_130, sz_130, is_131, sz_131, is_132, sz_132, is_133, sz_133, is_134, sz_134, is_135, sz_135, is_136, sz_136, is_137, sz_137, is_138, sz_138, is_139, sz_139, is_140, sz_140, is_141, sz_141, is_142, sz_142, is_143, sz_143, is_144, sz_144, is_145, sz_145, is_146, sz_146, is_147, sz_147, is_148, sz_148, is_149, sz_149, is_150, sz_150, is_151, sz_151, is_152, sz_152, is_153, sz_153, gI_s, gI_c, gI_p, gI_L, gI_R, gL_s, gL_c, gL_p, gL_I, gL_R, gR_s, gR_c, gR_p, gR_I, gR_L]
        have s5 : RepS (ax_setL h4 126 a (Int64.ofNat (ea (stepD (D a) (S a) b) 5))) (stepD (D a) (S a) b) := s4
        refine k_X12_packedVars r4.setL wS s5 ?_
        (try simp (disch := first | assumption | omega) only [true_and, and_true, forall_eq, true_implies, false_implies, implies_true, not_true_eq_false, not_false_eq_true, false_and, and_false, ne_eq, ite_true, ite_false, Nat.reduceLeDiff, Nat.reduceEqDiff, Nat.reduceLT, Nat.reduceAdd, Nat.reduceMul, Nat.reduceSub, Nat.le_refl, eq_self, li_0, li_1, li_2, li_3, li_4, li_5, li_6, li_7, li_8, li_9, li_10, li_11, li_12, li_13, li_14, li_15, li_16, li_17, li_18, li_19, li_20, li_21, li_22, li_23, li_24, li_25, li_26, li_27, li_28, li_29, li_30, li_31, li_32, li_44, li_48, li_57, li_59, li_60, li_61, li_62, li_63, li_97, li_100, li_122, li_123, li_125, li_127, li_255, li_400, li_401, li_800, li_1023, li_1024, li_10827, i_add, i_mul, i_sub, i_p1, i_m1, i_nm, i_nm2, i_cl, i_cl0, vi_ok, i_lt, i_le, i_eq, lg_e])
        refine k_X12_done ⟨rfl, ?_⟩
        have fe : Fr (PH a) h (ax_setI (ax_setI (ax_setL (ax_setL h4 126 a (Int64.ofNat (ea (stepD (D a) (S a) b) 5))) 127 a (Int64.ofNat (eb (stepD (D a) (S a) b).2.2.2.2 6))) 103 1 0) 103 2 (-1)) := ((((f2h.trans (f24.pq.mono (fun _ _ z => Or.inl z))).setL (Or.inr ⟨rfl, Or.inr (Or.inl rfl)⟩)).setL (Or.inr ⟨rfl, Or.inr (Or.inr rfl)⟩)).setI (Or.inl PQ_1031)).setI (Or.inl PQ_1032)
        refine inv_end2 (hI.c.hand ha ht fe r4.setL.setL.setI.setI wS ?_ ?_ ?_) ?_ ?_ 0 (by decide) ?_ ?_ ?_
        · simp (disch := first | assumption | omega) only [true_and, and_true, forall_eq, true_implies, false_implies, implies_true, not_true_eq_false, not_false_eq_true, false_and, and_false, ne_eq, ite_true, ite_false, Nat.reduceLeDiff, Nat.reduceEqDiff, Nat.reduceLT, Nat.reduceAdd, Nat.reduceMul, Nat.reduceSub, Nat.le_refl, eq_self, li_0, li_1, li_2, li_3, li_4, li_5, li_6, li_7, li_8, li_9, li_10, li_11, li_12, li_13, li_14, li_15, li_16, li_17, li_18, li_19, li_20, li_21, li_22, li_23, li_24, li_25, li_26, li_27, li_28, li_29, li_30, li_31, li_32, li_44, li_48, li_57, li_59, li_60, li_61, li_62, li_63, li_97, li_100, li_122, li_123, li_125, li_127, li_255, li_400, li_401, li_800, li_1023, li_1024, li_10827, i_add, i_mul, i_sub, i_p1, i_m1, i_nm, i_nm2, i_cl, i_cl0, vi_ok, i_lt, i_le, i_eq, lg_e, gI_s, gI_c, gI_p, gI_L, gI_R, gL_s, gL_c, gL_p, gL_I, gL_R, gR_s, gR_c, gR_p, gR_I, gR_L]
          rw [f24.1]
          exact w73
        · simp (disch := first | assumption | omega) only [true_and, and_true, forall_eq, true_implies, false_implies, implies_true, not_true_eq_false, not_false_eq_true, false_and, and_false, ne_eq, ite_true, ite_false, Nat.reduceLeDiff, Nat.reduceEqDiff, Nat.reduceLT, Nat.reduceAdd, Nat.reduceMul, Nat.reduceSub, Nat.le_refl, eq_self, li_0, li_1, li_2, li_3, li_4, li_5, li_6, li_7, li_8, li_9, li_10, li_11, li_12, li_13, li_14, li_15, li_16, li_17, li_18, li_19, li_20, li_21, li_22, li_23, li_24, li_25, li_26, li_27, li_28, li_29, li_30, li_31, li_32, li_44, li_48, li_57, li_59, li_60, li_61, li_62, li_63, li_97, li_100, li_122, li_123, li_125, li_127, li_255, li_400, li_401, li_800, li_1023, li_1024, li_10827, i_add, i_mul, i_sub, i_p1, i_m1, i_nm, i_nm2, i_cl, i_cl0, vi_ok, i_lt, i_le, i_eq, lg_e, gI_s, gI_c, gI_p, gI_L, gI_R, gL_s, gL_c, gL_p, gL_I, gL_R, gR_s, gR_c, gR_p, gR_I, gR_L]
        · simp (disch := first | assumption | omega) only [true_and, and_true, forall_eq, true_implies, false_implies, implies_true, not_true_eq_false, not_false_eq_true, false_and, and_false, ne_eq, ite_true, ite_false, Nat.reduceLeDiff, Nat.reduceEqDiff, Nat.reduceLT, Nat.reduceAdd, Nat.reduceMul, Nat.reduceSub, Nat.le_refl, eq_self, li_0, li_1, li_2, li_3, li_4, li_5, li_6, li_7, li_8, li_9, li_10, li_11, li_12, li_13, li_14, li_15, li_16, li_17, li_18, li_19, li_20, li_21, li_22, li_23, li_24, li_25, li_26, li_27, li_28, li_29, li_30, li_31, li_32, li_44, li_48, li_57, li_59, li_60, li_61, li_62, li_63, li_97, li_100, li_122, li_123, li_125, li_127, li_255, li_400, li_401, li_800, li_1023, li_1024, li_10827, i_add, i_mul, i_sub, i_p1, i_m1, i_nm, i_nm2, i_cl, i_cl0, vi_ok, i_lt, i_le, i_eq, lg_e, gI_s, gI_c, gI_p, gI_L, gI_R, gL_s, gL_c, gL_p, gL_I, gL_R, gR_s, gR_c, gR_p, gR_I, gR_L]
        · rw [(fe 67 3 (fun q => by unfold PH PQ SCR at q; omega)).1, (fe 103 3 (fun q => by unfold PH PQ SCR at q; omega)).1]
          exact hI.2.2.2.2.1.1
        · rw [(fe 1 11 (fun q => by unfold PH PQ SCR at q; omega)).1, (fe 103 41 (fun q => by unfold PH PQ SCR at q; omega)).1]
          exact hI.2.2.2.2.1.2.2.2
        · simp (disch := first | assumption | omega) only [true_and, and_true, forall_eq, true_implies, false_implies, implies_true, not_true_eq_false, not_false_eq_true, false_and, and_false, ne_eq, ite_true, ite_false, Nat.reduceLeDiff, Nat.reduceEqDiff, Nat.reduceLT, Nat.reduceAdd, Nat.reduceMul, Nat.reduceSub, Nat.le_refl, eq_self, li_0, li_1, li_2, li_3, li_4, li_5, li_6, li_7, li_8, li_9, li_10, li_11, li_12, li_13, li_14, li_15, li_16, li_17, li_18, li_19, li_20, li_21, li_22, li_23, li_24, li_25, li_26, li_27, li_28, li_29, li_30, li_31, li_32, li_44, li_48, li_57, li_59, li_60, li_61, li_62, li_63, li_97, li_100, li_122, li_123, li_125, li_127, li_255, li_400, li_401, li_800, li_1023, li_1024, li_10827, i_add, i_mul, i_sub, i_p1, i_m1, i_nm, i_nm2, i_cl, i_cl0, vi_ok, i_lt, i_le, i_eq, lg_e, gI_s, gI_c, gI_p, gI_L, gI_R, gL_s, gL_c, gL_p, gL_I, gL_R, gR_s, gR_c, gR_p, gR_I, gR_L]
          rw [(f24.fr 1 12 (fun q => by unfold PS at q; omega)).1]
          exact w112
        · simp (disch := first | assumption | omega) only [true_and, and_true, forall_eq, true_implies, false_implies, implies_true, not_true_eq_false, not_false_eq_true, false_and, and_false, ne_eq, ite_true, ite_false, Nat.reduceLeDiff, Nat.reduceEqDiff, Nat.reduceLT, Nat.reduceAdd, Nat.reduceMul, Nat.reduceSub, Nat.le_refl, eq_self, li_0, li_1, li_2, li_3, li_4, li_5, li_6, li_7, li_8, li_9, li_10, li_11, li_12, li_13, li_14, li_15, li_16, li_17, li_18, li_19, li_20, li_21, li_22, li_23, li_24, li_25, li_26, li_27, li_28, li_29, li_30, li_31, li_32, li_44, li_48, li_57, li_59, li_60, li_61, li_62, li_63, li_97, li_100, li_122, li_123, li_125, li_127, li_255, li_400, li_401, li_800, li_1023, li_1024, li_10827, i_add, i_mul, i_sub, i_p1, i_m1, i_nm, i_nm2, i_cl, i_cl0, vi_ok, i_lt, i_le, i_eq, lg_e, gI_s, gI_c, gI_p, gI_L, gI_R, gL_s, gL_c, gL_p, gL_I, gL_R, gR_s, gR_c, gR_p, gR_I, gR_L]
        · simp (disch := first | assumption | omega) only [true_and, and_true, forall_eq, true_implies, false_implies, implies_true, not_true_eq_false, not_false_eq_true, false_and, and_false, ne_eq, ite_true, ite_false, Nat.reduceLeDiff, Nat.reduceEqDiff, Nat.reduceLT, Nat.reduceAdd, Nat.reduceMul, Nat.reduceSub, Nat.le_refl, eq_self, li_0, li_1, li_2, li_3, li_4, li_5, li_6, li_7, li_8, li_9, li_10, li_11, li_12, li_13, li_14, li_15, li_16, li_17, li_18, li_19, li_20, li_21, li_22, li_23, li_24, li_25, li_26, li_27, li_28, li_29, li_30, li_31, li_32, li_44, li_48, li_57, li_59, li_60, li_61, li_62, li_63, li_97, li_100, li_122, li_123, li_125, li_127, li_255, li_400, li_401, li_800, li_1023, li_1024, li_10827, i_add, i_mul, i_sub, i_p1, i_m1, i_nm, i_nm2, i_cl, i_cl0, vi_ok, i_lt, i_le, i_eq, lg_e, gI_s, gI_c, gI_p, gI_L, gI_R, gL_s, gL_c, gL_p, gL_I, gL_R, gR_s, gR_c, gR_p, gR_I, gR_L]
      · simp (disch := first | assumption | omega) only [true_and, and_true, forall_eq, true_implies, false_implies, implies_true, not_true_eq_false, not_false_eq_true, false_and, and_false, ne_eq, ite_true, ite_false, Nat.reduceLeDiff, Nat.reduceEqDiff, Nat.reduceLT, Nat.reduceAdd, Nat.reduceMul, Nat.reduceSub, Nat.le_refl, eq_self, li_0, li_1, li_2, li_3, li_4, li_5, li_6, li_7, li_8, li_9, li_10, li_11, li_12, li_13, li_14, li_15, li_16, li_17, li_18, li_19, li_20, li_21, li_22, li_23, li_24, li_25, li_26, li_27, li_28, li_29, li_30, li_31, li_32, li_44, li_48, li_57, li_59, li_60, li_61, li_62, li_63, li_97, li_100, li_122, li_123, li_125, li_127, li_255, li_400, li_401, li_800, li_1023, li_1024, li_10827, i_add, i_mul, i_sub, i_p1, i_m1, i_nm, i_nm2, i_cl, i_cl0, vi_ok, i_lt, i_le, i_eq, lg_e]
        refine k_X9_refused ?_
        refine c_X12_act (s_X12_act_0 ⟨is_103, ?_⟩)
        intro h2 e2
        have e3 := e2
        obtain ⟨i1, f1, g1⟩ := mIn2 hI.c (fk _) hr.setI e2
        clear e2
        have hr1 := i1.1
        have hA1 := i1.2.1
        obtain ⟨u1, u2, u3, u4, u5, u6, u7, u8⟩ := (i1.2.2.1 a ha).1 ht
        refine q_isApp_y i1 ha ht ⟨fun _ => k_isAct_y hb ⟨fun _ => ?_, fun z => absurd z (by decide)⟩, fun z => absurd z (by decide)⟩
        simp (disch := first | assumption | omega) only [true_and, and_true, forall_eq, true_implies, false_implies, implies_true, not_true_eq_false, not_false_eq_true, false_and, and_false, ne_eq, ite_true, ite_false, Nat.reduceLeDiff, Nat.reduceEqDiff, Nat.reduceLT, Nat.reduceAdd, Nat.reduceMul, Nat.reduceSub, Nat.le_refl, eq_self, li_0, li_1, li_2, li_3, li_4, li_5, li_6, li_7, li_8, li_9, li_10, li_11, li_12, li_13, li_14, li_15, li_16, li_17, li_18, li_19, li_20, li_21, li_22, li_23, li_24, li_25, li_26, li_27, li_28, li_29, li_30, li_31, li_32, li_44, li_48, li_57, li_59, li_60, li_61, li_62, li_63, li_97, li_100, li_122, li_123, li_125, li_127, li_255, li_400, li_401, li_800, li_1023, li_1024, li_10827, i_add, i_mul, i_sub, i_p1, i_m1, i_nm, i_nm2, i_cl, i_cl0, vi_ok, i_lt, i_le, i_eq, lg_e, rf_103_4, rf_103_6, rf_103_7, rf_103_8, rf_103_9, rf_103_10, rf_103_21, rf_103_22, rf_103_23, rf_103_26, rf_103_27, rf_103_28, rf_103_29, rf_103_30, rf_103_31, rf_103_32, rf_103_33, rf_103_34, rf_103_35, rf_103_37, rf_103_38, rf_103_39, rf_103_44, rf_103_45, rf_103_46, rf_103_47, rf_103_48, rf_103_49, rf_103_54, rf_103_55, is_103, is_104, sz_104, is_125, sz_125, is_126, sz_126, is_127, sz_127, is_128, sz_128, is_129, sz_129, is_130, sz_130, is_131, sz_131, is_132, sz_132, is_133, sz_133, is_134, sz_134, is_135, sz_135, is_136, sz_136, is_137, sz_137, is_138, sz_138, is_139, sz_139, is_140, sz_140, is_141, sz_141, is_142, sz_142, is_143, sz_143, is_144, sz_144, is_145, sz_145, is_146, sz_146, is_147, sz_147, is_148, sz_148, is_149, sz_149, is_150, sz_150, is_151, sz_151, is_152, sz_152, is_153, sz_153, u7, u8]
        refine k_X12_unpack hr1 u5 (fun h' f' s' => ?_)
        have r' := f'.refs hr1
        have hA' : IA h' X Y := hA1.fr f'.fr (fun c p q => by unfold PS at q; omega)
        simp (disch := first | assumption | omega) only [true_and, and_true, forall_eq, true_implies, false_implies, implies_true, not_true_eq_false, not_false_eq_true, false_and, and_false, ne_eq, ite_true, ite_false, Nat.reduceLeDiff, Nat.reduceEqDiff, Nat.reduceLT, Nat.reduceAdd, Nat.reduceMul, Nat.reduceSub, Nat.le_refl, eq_self, li_0, li_1, li_2, li_3, li_4, li_5, li_6, li_7, li_8, li_9, li_10, li_11, li_12, li_13, li_14, li_15, li_16, li_17, li_18, li_19, li_20, li_21, li_22, li_23, li_24, li_25, li_26, li_27, li_28, li_29, li_30, li_31, li_32, li_44, li_48, li_57, li_59, li_60, li_61, li_62, li_63, li_97, li_100, li_122, li_123, li_125, li_127, li_255, li_400, li_401, li_800, li_1023, li_1024, li_10827, i_add, i_mul, i_sub, i_p1, i_m1, i_nm, i_nm2, i_cl, i_cl0, vi_ok, i_lt, i_le, i_eq, lg_e, rf_103_4, rf_103_6, rf_103_7, rf_103_8, rf_103_9, rf_103_10, rf_103_21, rf_103_22, rf_103_23, rf_103_26, rf_103_27, rf_103_28, rf_103_29, rf_103_30, rf_103_31, rf_103_32, rf_103_33, rf_103_34, rf_103_35, rf_103_37, rf_103_38, rf_103_39, rf_103_44, rf_103_45, rf_103_46, rf_103_47, rf_103_48, rf_103_49, rf_103_54, rf_103_55, is_103, is_104, sz_104, is_125, sz_125, is_126, sz_126, is_127, sz_127, is_128, sz_128, is_129, sz_129, is_130, sz_130, is_131, sz_131, is_132, sz_132, is_133, sz_133, is_134, sz_134, is_135, sz_135, is_136, sz_136, is_137, sz_137, is_138, sz_138, is_139, sz_139, is_140, sz_140, is_141, sz_141, is_142, sz_142, is_143, sz_143, is_144, sz_144, is_145, sz_145, is_146, sz_146, is_147, sz_147, is_148, sz_148, is_149, sz_149, is_150, sz_150, is_151, sz_151, is_152, sz_152, is_153, sz_153, hA'.y ha, isB_x hy]
        refine k_X12_possible r' hy t5 s' t2 (f'.repB hy u4) ?_
        rw [i_bit hb, bI_ez]
        refine ⟨fun z => absurd p z, fun _ => k_X12_refused ⟨rfl, ?_⟩⟩
        refine inv_say hI 4 (by decide) (f1.trans f'.pq) r' ?_
        rw [(f'.fr 1 12 (fun q => by unfold PS at q; omega)).1, e3]
        simp (disch := first | assumption | omega) only [true_and, and_true, forall_eq, true_implies, false_implies, implies_true, not_true_eq_false, not_false_eq_true, false_and, and_false, ne_eq, ite_true, ite_false, Nat.reduceLeDiff, Nat.reduceEqDiff, Nat.reduceLT, Nat.reduceAdd, Nat.reduceMul, Nat.reduceSub, Nat.le_refl, eq_self, li_0, li_1, li_2, li_3, li_4, li_5, li_6, li_7, li_8, li_9, li_10, li_11, li_12, li_13, li_14, li_15, li_16, li_17, li_18, li_19, li_20, li_21, li_22, li_23, li_24, li_25, li_26, li_27, li_28, li_29, li_30, li_31, li_32, li_44, li_48, li_57, li_59, li_60, li_61, li_62, li_63, li_97, li_100, li_122, li_123, li_125, li_127, li_255, li_400, li_401, li_800, li_1023, li_1024, li_10827, i_add, i_mul, i_sub, i_p1, i_m1, i_nm, i_nm2, i_cl, i_cl0, vi_ok, i_lt, i_le, i_eq, lg_e, gI_s, gI_c, gI_p, gI_L, gI_R, gL_s, gL_c, gL_p, gL_I, gL_R, gR_s, gR_c, gR_p, gR_I, gR_L]
    · have model : C_X12_act l g (ax_setI h 1 12 2) 103 (Int32.ofNat a) a2 (fun r2 h2 => r2 = -1 ∧ Inv h2) := by
        refine c_X12_act (s_X12_act_0 ⟨is_103, ?_⟩)
        intro h2 e2
        obtain ⟨i1, f1, g1⟩ := mIn2 hI.c (fk _) hr.setI e2
        subst e2
        exact q_isApp_y i1 ha ht ⟨fun _ => k_isAct_n c2 ⟨fun z => absurd rfl z, fun _ => ob_ref hI 2 (by decide)⟩, fun z => absurd z (by decide)⟩
      refine ⟨fun _ => k_X9_refused model, fun z => ⟨fun z2 => ?_, fun _ => k_X9_refused model⟩⟩
      rcases c1 with c1 | c1
      · exact absurd c1 z
      · exact absurd z2 c1
  · refine c_X9_act (s_X9_act_0 ⟨is_1, q_has_n hI.c hT ⟨fun z => absurd rfl z, fun _ => k_X9_refused ?_⟩⟩)
    refine c_X12_act (s_X12_act_0 ⟨is_103, ?_⟩)
    intro h2 e2
    obtain ⟨i1, f1, g1⟩ := mIn2 hI.c (fk _) hI.1.setI e2
    subst e2
    exact q_isApp_n i1 hT ⟨fun z => absurd rfl z, fun _ => ob_ref hI 1 (by decide)⟩
