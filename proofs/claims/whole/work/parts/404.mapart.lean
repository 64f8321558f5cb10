/-- the model's pairs -/
def MP (h : AH) (B : PT3) : Prop := h.1 103 43 = Int32.ofNat B.1 ∧ ∀ i, i < B.1 → h.2.1 146 i = Int64.ofNat (ea (B.2.1 i) 5) ∧ h.2.1 147 i = Int64.ofNat (eb (B.2.1 i).2.2.2.2 6) ∧ h.2.1 148 i = Int64.ofNat (ea (B.2.2.1 i) 5) ∧ h.2.1 149 i = Int64.ofNat (eb (B.2.2.1 i).2.2.2.2 6) ∧ h.1 150 i = (if i = 0 then -1 else Int32.ofNat (B.2.2.2.1 i)) ∧ (0 < i → h.1 151 i = Int32.ofNat (B.2.2.2.2.1 i))
theorem MP.fr {P : Nat → Nat → Prop} {h h1 : AH} {B : PT3} (m : MP h B) (f : Fr P h h1) (e : ∀ c p, P c p → ¬ (146 ≤ c ∧ c ≤ 151) ∧ ¬ (c = 103 ∧ p = 43)) : MP h1 B := by
  obtain ⟨b1, b2⟩ := m
  refine ⟨?_, fun i hi => ?_⟩
  · rw [(f 103 43 (fun q => (e _ _ q).2 ⟨rfl, rfl⟩)).1]; exact b1
  · rw [(f 146 i (fun q => (e _ _ q).1 ⟨by omega, by omega⟩)).2.1, (f 147 i (fun q => (e _ _ q).1 ⟨by omega, by omega⟩)).2.1, (f 148 i (fun q => (e _ _ q).1 ⟨by omega, by omega⟩)).2.1, (f 149 i (fun q => (e _ _ q).1 ⟨by omega, by omega⟩)).2.1, (f 150 i (fun q => (e _ _ q).1 ⟨by omega, by omega⟩)).1, (f 151 i (fun q => (e _ _ q).1 ⟨by omega, by omega⟩)).1]
    exact b2 i hi
def PAl (c p : Nat) : Prop := PS c p ∨ PSe c p
theorem PAl_no {c p : Nat} (h : PAl c p) : (130 ≤ c ∧ c ≤ 132) ∨ c = 152 ∨ c = 153 ∨ (c = 103 ∧ (p = 19 ∨ p = 20 ∨ (50 ≤ p ∧ p ≤ 53))) := by
  unfold PAl PS PSe at h
  omega
theorem k_isAlike {l : Launch} {g : AG} {h : AH} {X Y : Nat → Nat} {k : Nat} {D E : AD} {B : PT3} {Q : Int32 → AH → Prop} (hr : Refs h) (hA : IA h X Y) (hD : WfD D) (hE : WfD E) (hB : RepB h (Y 0) D) (hC : RepB h (Y 1) E) (mp : MP h B) (h400 : B.1 ≤ 400) (hk : k < B.1) (ws : WS (D 0 0) (B.2.1 k)) (wu : WS (E 0 0) (B.2.2.1 k)) (q1 : ∀ h', Refs h' → Fr PAl h h' → AL D E (B.2.1 k) (B.2.2.1 k) → Q 1 h') (q0 : ∀ h', Refs h' → Fr PAl h h' → ¬ AL D E (B.2.1 k) (B.2.2.1 k) → Q 0 h') : C_X12_isAlike l g h 103 (Int32.ofNat k) Q := by
  have hy := hA.isy (show 0 < 2 by omega)
  have hz := hA.isy (show 1 < 2 by omega)
  have hyu : Y 0 = 105 ∨ Y 0 = 154 ∨ Y 0 = 174 := hy
  have hzu : Y 1 = 105 ∨ Y 1 = 154 ∨ Y 1 = 174 := hz
  have v := mp.2 k hk
  refine c_X12_isAlike (s_X12_isAlike_0 ?_)
  simp (disch := first | assumption | omega) only [true_and, and_true, forall_eq, true_implies, false_implies, implies_true, not_true_eq_false, not_false_eq_true, false_and, and_false, ne_eq, ite_true, ite_false, Nat.reduceLeDiff, Nat.reduceEqDiff, Nat.reduceLT, Nat.reduceAdd, Nat.reduceMul, Nat.reduceSub, Nat.le_refl, eq_self, li_0, li_1, li_2, li_3, li_4, li_5, li_6, li_7, li_8, li_9, li_10, li_11, li_12, li_13, li_14, li_15, li_16, li_17, li_18, li_19, li_20, li_21, li_22, li_23, li_24, li_25, li_26, li_27, li_28, li_29, li_30, li_31, li_32, li_44, li_48, li_57, li_59, li_60, li_61, li_62, li_63, li_97, li_100, li_122, li_123, li_125, li_127, li_255, li_400, li_401, li_800, li_1023, li_1024, li_10827, i_add, i_mul, i_sub, i_p1, i_m1, i_nm, i_nm2, i_cl, i_cl0, vi_ok, i_lt, i_le, i_eq, lg_e, rf_103_4, rf_103_6, rf_103_7, rf_103_8, rf_103_9, rf_103_10, rf_103_21, rf_103_22, rf_103_23, rf_103_26, rf_103_27, rf_103_28, rf_103_29, rf_103_30, rf_103_31, rf_103_32, rf_103_33, rf_103_34, rf_103_35, rf_103_37, rf_103_38, rf_103_39, rf_103_44, rf_103_45, rf_103_46, rf_103_47, rf_103_48, rf_103_49, rf_103_54, rf_103_55, is_103, is_104, sz_104, is_125, sz_125, is_126, sz_126, is_127, sz_127, is_128, sz_128, is_129, sz_129, is_130, sz_130, is_131, sz_131, is_132, sz_132, is_133, sz_133, is_134, sz_134, is_135, sz_135, is_136, sz_136, is_137, sz_137, is_138, sz_138, is_139, sz_139, is_140, sz_140, is_141, sz_141, is_142, sz_142, is_143, sz_143, is_144, sz_144, is_145, sz_145, is_146, sz_146, is_147, sz_147, is_148, sz_148, is_149, sz_149, is_150, sz_150, is_151, sz_151, is_152, sz_152, is_153, sz_153, v.1, v.2.1]
  refine k_X12_unpack hr ws (fun h1 f1 s1 => ?_)
  have r1 := f1.refs hr
  have A1 : IA h1 X Y := hA.fr f1.fr (fun c p q => by unfold PS at q; omega)
  simp (disch := first | assumption | omega) only [true_and, and_true, forall_eq, true_implies, false_implies, implies_true, not_true_eq_false, not_false_eq_true, false_and, and_false, ne_eq, ite_true, ite_false, Nat.reduceLeDiff, Nat.reduceEqDiff, Nat.reduceLT, Nat.reduceAdd, Nat.reduceMul, Nat.reduceSub, Nat.le_refl, eq_self, li_0, li_1, li_2, li_3, li_4, li_5, li_6, li_7, li_8, li_9, li_10, li_11, li_12, li_13, li_14, li_15, li_16, li_17, li_18, li_19, li_20, li_21, li_22, li_23, li_24, li_25, li_26, li_27, li_28, li_29, li_30, li_31, li_32, li_44, li_48, li_57, li_59, li_60, li_61, li_62, li_63, li_97, li_100, li_122, li_123, li_125, li_127, li_255, li_400, li_401, li_800, li_1023, li_1024, li_10827, i_add, i_mul, i_sub, i_p1, i_m1, i_nm, i_nm2, i_cl, i_cl0, vi_ok, i_lt, i_le, i_eq, lg_e, rf_103_4, rf_103_6, rf_103_7, rf_103_8, rf_103_9, rf_103_10, rf_103_21, rf_103_22, rf_103_23, rf_103_26, rf_103_27, rf_103_28, rf_103_29, rf_103_30, rf_103_31, rf_103_32, rf_103_33, rf_103_34, rf_103_35, rf_103_37, rf_103_38, rf_103_39, rf_103_44, rf_103_45, rf_103_46, rf_103_47, rf_103_48, rf_103_49, rf_103_54, rf_103_55, is_103, is_104, sz_104, is_125, sz_125, is_126, sz_126, is_127, sz_127, is_128, sz_128, is_129, sz_129, is_130, sz_130, is_131, sz_131, is_132, sz_132, is_133, sz_133, is_134, sz_134, is_135, sz_135, is_136, sz_136, is_137, sz_137, is_138, sz_138, is_139, sz_139, is_140, sz_140, is_141, sz_141, is_142, sz_142, is_143, sz_143, is_144, sz_144, is_145, sz_145, is_146, sz_146, is_147, sz_147, is_148, sz_148, is_149, sz_149, is_150, sz_150, is_151, sz_151, is_152, sz_152, is_153, sz_153, A1.y (show 0 < 2 by omega), isB_x hy]
  refine k_sees r1 hy hD (f1.repB hy hB) ws s1 (fun h2 r2 f2 se => ?_)
  have A2 : IA h2 X Y := A1.fr f2 (fun c p q => by unfold PSe at q; omega)
  have v3 : h2.2.1 148 k = Int64.ofNat (ea (B.2.2.1 k) 5) := by rw [(f2 148 k (fun q => by unfold PSe at q; omega)).2.1, f1.1]; exact v.2.2.1
  have v4 : h2.2.1 149 k = Int64.ofNat (eb (B.2.2.1 k).2.2.2.2 6) := by rw [(f2 149 k (fun q => by unfold PSe at q; omega)).2.1, f1.1]; exact v.2.2.2.1
  simp (disch := first | assumption | omega) only [true_and, and_true, forall_eq, true_implies, false_implies, implies_true, not_true_eq_false, not_false_eq_true, false_and, and_false, ne_eq, ite_true, ite_false, Nat.reduceLeDiff, Nat.reduceEqDiff, Nat.reduceLT, Nat.reduceAdd, Nat.reduceMul, Nat.reduceSub, Nat.le_refl, eq_self, li_0, li_1, li_2, li_3, li_4, li_5, li_6, li_7, li_8, li_9, li_10, li_11, li_12, li_13, li_14, li_15, li_16, li_17, li_18, li_19, li_20, li_21, li_22, li_23, li_24, li_25, li_26, li_27, li_28, li_29, li_30, li_31, li_32, li_44, li_48, li_57, li_59, li_60, li_61, li_62, li_63, li_97, li_100, li_122, li_123, li_125, li_127, li_255, li_400, li_401, li_800, li_1023, li_1024, li_10827, i_add, i_mul, i_sub, i_p1, i_m1, i_nm, i_nm2, i_cl, i_cl0, vi_ok, i_lt, i_le, i_eq, lg_e, rf_103_4, rf_103_6, rf_103_7, rf_103_8, rf_103_9, rf_103_10, rf_103_21, rf_103_22, rf_103_23, rf_103_26, rf_103_27, rf_103_28, rf_103_29, rf_103_30, rf_103_31, rf_103_32, rf_103_33, rf_103_34, rf_103_35, rf_103_37, rf_103_38, rf_103_39, rf_103_44, rf_103_45, rf_103_46, rf_103_47, rf_103_48, rf_103_49, rf_103_54, rf_103_55, is_103, is_104, sz_104, is_125, sz_125, is_126, sz_126, is_127, sz_127, is_128, sz_128, is_129, sz_129, is_130, sz_130, is_131, sz_131, is_132, sz_132, is_133, sz_133, is_134, sz_134, is_135, sz_135, is_136, sz_136, is_137, sz_137, is_138, sz_138, is_139, sz_139, is_140, sz_140, is_141, sz_141, is_142, sz_142, is_143, sz_143, is_144, sz_144, is_145, sz_145, is_146, sz_146, is_147, sz_147, is_148, sz_148, is_149, sz_149, is_150, sz_150, is_151, sz_151, is_152, sz_152, is_153, sz_153, v3, v4]
  refine k_X12_unpack r2 wu (fun h3 f3 s3 => ?_)
  have r3 := f3.refs r2
  have A3 : IA h3 X Y := A2.fr f3.fr (fun c p q => by unfold PS at q; omega)
  have C3 : RepB h3 (Y 1) E := ((f1.repB hz hC).fr f2 (fun c p h1 h2 q => by unfold PSe at q; omega)).fr f3.fr (isB_PS hz)
  have ff : Fr PAl h h3 := ((f1.fr.mono (fun c p q => Or.inl q)).trans (f2.mono (fun c p q => Or.inr q))).trans (f3.fr.mono (fun c p q => Or.inl q))
  have se3 : Seen h3 D (B.2.1 k) := by
    have o : ∀ c p, c = 152 ∨ c = 153 ∨ (c = 103 ∧ 50 ≤ p) → h3.1 c p = h2.1 c p ∧ h3.2.1 c p = h2.2.1 c p := fun c p q => ⟨(f3.fr c p (fun z => by unfold PS at z; omega)).1, (f3.fr c p (fun z => by unfold PS at z; omega)).2.1⟩
    refine ⟨by rw [(o 103 50 (by omega)).1]; exact se.1, fun z => ?_⟩
    obtain ⟨a, b, c, d, e, f⟩ := se.2 z
    refine ⟨by rw [(o 103 53 (by omega)).2]; exact a, by rw [(o 103 51 (by omega)).1]; exact b, fun j hj => by rw [(o 152 j (by omega)).1]; exact c j hj, by rw [(o 103 52 (by omega)).1]; exact d, fun j hj => ?_, fun b hb => ?_⟩
    · obtain ⟨b, b1, b2⟩ := e j hj
      exact ⟨b, b1, by rw [(o 153 j (by omega)).2]; exact b2⟩
    · obtain ⟨j, j1, j2⟩ := f b hb
      exact ⟨j, j1, by rw [(o 153 j (by omega)).2]; exact j2⟩
  simp (disch := first | assumption | omega) only [true_and, and_true, forall_eq, true_implies, false_implies, implies_true, not_true_eq_false, not_false_eq_true, false_and, and_false, ne_eq, ite_true, ite_false, Nat.reduceLeDiff, Nat.reduceEqDiff, Nat.reduceLT, Nat.reduceAdd, Nat.reduceMul, Nat.reduceSub, Nat.le_refl, eq_self, li_0, li_1, li_2, li_3, li_4, li_5, li_6, li_7, li_8, li_9, li_10, li_11, li_12, li_13, li_14, li_15, li_16, li_17, li_18, li_19, li_20, li_21, li_22, li_23, li_24, li_25, li_26, li_27, li_28, li_29, li_30, li_31, li_32, li_44, li_48, li_57, li_59, li_60, li_61, li_62, li_63, li_97, li_100, li_122, li_123, li_125, li_127, li_255, li_400, li_401, li_800, li_1023, li_1024, li_10827, i_add, i_mul, i_sub, i_p1, i_m1, i_nm, i_nm2, i_cl, i_cl0, vi_ok, i_lt, i_le, i_eq, lg_e, rf_103_4, rf_103_6, rf_103_7, rf_103_8, rf_103_9, rf_103_10, rf_103_21, rf_103_22, rf_103_23, rf_103_26, rf_103_27, rf_103_28, rf_103_29, rf_103_30, rf_103_31, rf_103_32, rf_103_33, rf_103_34, rf_103_35, rf_103_37, rf_103_38, rf_103_39, rf_103_44, rf_103_45, rf_103_46, rf_103_47, rf_103_48, rf_103_49, rf_103_54, rf_103_55, is_103, is_104, sz_104, is_125, sz_125, is_126, sz_126, is_127, sz_127, is_128, sz_128, is_129, sz_129, is_130, sz_130, is_131, sz_131, is_132, sz_132, is_133, sz_133, is_134, sz_134, is_135, sz_135, is_136, sz_136, is_137, sz_137, is_138, sz_138, is_139, sz_139, is_140, sz_140, is_141, sz_141, is_142, sz_142, is_143, sz_143, is_144, sz_144, is_145, sz_145, is_146, sz_146, is_147, sz_147, is_148, sz_148, is_149, sz_149, is_150, sz_150, is_151, sz_151, is_152, sz_152, is_153, sz_153, A3.y (show 1 < 2 by omega), isB_x hz]
  refine k_isSeen r3 hz hD hE C3 ws wu s3 se3 (fun al => ⟨Or.inr rfl, q1 h3 r3 ff al⟩) (fun al => ⟨Or.inl rfl, q0 h3 r3 ff al⟩)
/-- THE ROW as the model writes it from the pairs -/
theorem k_rowOf {l : Launch} {g : AG} {h0 : AH} {k : Nat} {x2 : Int32} {D E : AD} {B : PT3} {Q : Int32 → AH → Prop} (hr0 : Refs h0) (mp0 : MP h0 B) (w : 0 < B.1 ∧ B.1 ≤ 400 ∧ B.2.2.2.2.2 0 = 0 ∧ ∀ i, i < B.1 → 0 < i → B.2.2.2.1 i < i ∧ B.2.2.2.2.1 i < 27 ∧ B.2.2.2.2.2 i = B.2.2.2.2.2 (B.2.2.2.1 i) + 1) (hk : k < B.1) (hd : B.2.2.2.2.2 k ≤ 399) (hq : ∀ h', Refs h' → Fr (fun c p => c = 145 ∨ (c = 103 ∧ p = 40)) h0 h' → (∀ j, j < B.2.2.2.2.2 k → h'.1 145 j = Int32.ofNat (wayTo B.2.2.2.1 B.2.2.2.2.1 B.2.2.2.2.2 k j)) → (x2 = -1 → h'.1 103 40 = Int32.ofNat (B.2.2.2.2.2 k) → Q (Int32.ofNat (B.2.2.2.2.2 k)) (ax_setI (ax_setI h' 103 1 0) 103 2 (-1))) ∧ (¬ x2 = -1 → h'.1 103 40 = Int32.ofNat (B.2.2.2.2.2 k + 1) → h'.1 145 (B.2.2.2.2.2 k) = x2 → Q (Int32.ofNat (B.2.2.2.2.2 k + 1)) (ax_setI (ax_setI h' 103 1 0) 103 2 (-1)))) : C_X12_rowOf l g h0 103 (Int32.ofNat k) x2 Q := by
  obtain ⟨w1, w2, w3, w4⟩ := w
  have bk := fun j hj => back_ok w4 w3 hk j hj
  have zero : ∀ j, j ≤ B.2.2.2.2.2 k → (backN B.2.2.2.1 k j = 0 ↔ j = B.2.2.2.2.2 k) := by
    intro j hj
    have q := bk j hj
    refine ⟨fun z => ?_, fun z => ?_⟩
    · rw [z, w3] at q; omega
    · rcases Nat.eq_zero_or_pos (backN B.2.2.2.1 k j) with y | y
      · exact y
      · have := (w4 _ q.1 y).2.2
        omega
  have fill : ∀ d j, j + d = B.2.2.2.2.2 k → ∀ h, Refs h → Fr (fun c p => c = 145 ∨ (c = 103 ∧ p = 40)) h0 h → h.1 103 40 = Int32.ofNat (B.2.2.2.2.2 k) → (∀ i, d ≤ i → i < B.2.2.2.2.2 k → h.1 145 i = Int32.ofNat (wayTo B.2.2.2.1 B.2.2.2.2.1 B.2.2.2.2.2 k i)) → L_X12_rowOf_39 l g h 103 x2 (Int32.ofNat d) (Int32.ofNat (backN B.2.2.2.1 k j)) Q := by
    intro d
    induction d with
    | zero =>
      intro j hj h hr hf e40 va
      have mp := mp0.fr hf (fun c p q => by omega)
      have q := bk j (by omega)
      have z := (zero j (by omega)).2 (by omega)
      rw [z]
      have v := (mp.2 0 w1).2.2.2.2.1
      rw [if_pos rfl] at v
      refine s_X12_rowOf_39 ?_
      rw [rf_103_48 hr, sz_150, show (Int32.ofNat 0).toNatClampNeg = 0 from rfl, v]
      refine ⟨is_103, is_150, vi_ok (by omega) (by omega), fun _ => ⟨fun c => ?_, fun c => ?_⟩, fun z => absurd rfl z⟩
      · rw [rf_103_39 hr, e40, sz_145, i_cl (by omega)]
        refine ⟨is_145, vi_ok (by omega) (by omega), ?_⟩
        intro h20 e20 h22 e22
        have e40' : h20.1 103 40 = Int32.ofNat (B.2.2.2.2.2 k) := by rw [e20, gI_c (by omega)]; exact e40
        rw [e40', i_p1] at e22
        have r22 : Refs h22 := by rw [e22, e20]; exact hr.setI.setI
        have f22 : Fr (fun c p => c = 145 ∨ (c = 103 ∧ p = 40)) h0 h22 := by rw [e22, e20]; exact (hf.setI (Or.inl rfl)).setI (Or.inr ⟨rfl, rfl⟩)
        have g40 : h22.1 103 40 = Int32.ofNat (B.2.2.2.2.2 k + 1) := by rw [e22, gI_s]
        rw [g40]
        refine k_X12_done ((hq h22 r22 f22 (fun i hi => ?_)).2 c g40 ?_)
        · rw [e22, gI_c (by omega), e20, gI_p (by omega)]; exact va i (Nat.zero_le i) hi
        · rw [e22, gI_c (by omega), e20, gI_s]
      · rw [e40]
        exact k_X12_done ((hq h hr hf (fun i hi => va i (Nat.zero_le i) hi)).1 c e40)
    | succ d ih =>
      intro j hj h hr hf e40 va
      have mp := mp0.fr hf (fun c p q => by omega)
      have q := bk j (by omega)
      have b0 := q.2.2 (by omega)
      have v := mp.2 _ q.1
      have v5 := v.2.2.2.2.1
      rw [if_neg (by omega)] at v5
      have v6 := v.2.2.2.2.2 b0
      have w5 := w4 _ q.1 b0
      have ed : Int32.ofNat (d + 1) + (-1) = Int32.ofNat d := by rw [i_dec, if_neg (by omega), Nat.add_sub_cancel]
      refine s_X12_rowOf_39 ?_
      rw [rf_103_48 hr, rf_103_39 hr, rf_103_49 hr, sz_150, sz_151, sz_145, i_cl (by omega), v5, v6, ed]
      refine ⟨is_103, is_150, vi_ok (by omega) (by omega), fun z => absurd z (i_ne (by omega)), fun _ => ?_⟩
      intro v30 e30
      rw [e30]
      refine ⟨is_145, is_151, vi_ok (by omega) (by omega), vi_ok (by omega) (by omega), ?_⟩
      rw [i_cl (by omega)]
      intro h36 e36
      have r36 : Refs h36 := by rw [e36]; exact hr.setI
      have f36 : Fr (fun c p => c = 145 ∨ (c = 103 ∧ p = 40)) h0 h36 := by rw [e36]; exact hf.setI (Or.inl rfl)
      rw [rf_103_48 r36, sz_150, show h36.1 150 (backN B.2.2.2.1 k j) = Int32.ofNat (B.2.2.2.1 (backN B.2.2.2.1 k j)) from by rw [e36, gI_c (by omega)]; exact v5]
      refine ⟨is_150, vi_ok (by omega) (by omega), ?_⟩
      intro v40 e40'
      rw [e40']
      refine ih (j + 1) (by omega) h36 r36 f36 (by rw [e36, gI_c (by omega)]; exact e40) (fun i h1 h2 => ?_)
      rw [e36]
      by_cases c : i = d
      · rw [gI_t rfl c, c]
        unfold wayTo
        rw [show B.2.2.2.2.2 k - 1 - d = j by omega]
      · rw [gI_p c]
        exact va i (by omega) h2
  have count : ∀ d j, j + d = B.2.2.2.2.2 k → L_X12_rowOf_5 l g h0 103 (Int32.ofNat k) x2 (Int32.ofNat j) (Int32.ofNat (backN B.2.2.2.1 k j)) Q := by
    intro d
    induction d with
    | zero =>
      intro j hj
      have z := (zero j (by omega)).2 (by omega)
      rw [z]
      have v := (mp0.2 0 w1).2.2.2.2.1
      rw [if_pos rfl] at v
      refine s_X12_rowOf_5 ?_
      rw [rf_103_48 hr0, sz_150, show (Int32.ofNat 0).toNatClampNeg = 0 from rfl, v]
      refine ⟨is_103, is_150, vi_ok (by omega) (by omega), fun _ => ?_, fun z => absurd rfl z⟩
      intro h5 e5
      rw [show j = B.2.2.2.2.2 k by omega] at e5 ⊢
      exact fill (B.2.2.2.2.2 k) 0 (Nat.zero_add _) h5 (by rw [e5]; exact hr0.setI) (by rw [e5]; exact (Fr.refl _ h0).setI (Or.inr ⟨rfl, rfl⟩)) (by rw [e5, gI_s]) (fun i h1 h2 => absurd h1 (by omega))
    | succ d ih =>
      intro j hj
      have q := bk j (by omega)
      have b0 := q.2.2 (by omega)
      have v := (mp0.2 _ q.1).2.2.2.2.1
      rw [if_neg (by omega)] at v
      have w5 := w4 _ q.1 b0
      refine s_X12_rowOf_5 ?_
      rw [rf_103_48 hr0, sz_150, i_cl (by omega), v]
      refine ⟨is_103, is_150, vi_ok (by omega) (by omega), fun z => absurd z (i_ne (by omega)), fun _ => ?_⟩
      intro v7 e7
      rw [e7, i_p1]
      refine ⟨is_150, vi_ok (by omega) (by omega), ?_⟩
      intro v11 e11
      rw [e11]
      exact ih (j + 1) (by omega)
  exact c_X12_rowOf (s_X12_rowOf_0 (count (B.2.2.2.2.2 k) 0 (Nat.zero_add _)))
theorem bsum_tb (f : Nat → Prop) (n i : Nat) : (bsum f n).testBit i = decide (bI (i < n ∧ f i) = 1) := by
  rw [Nat.testBit_eq_decide_div_mod_eq]
  by_cases c : i < n
  · rw [bsum_bit f n c, bI_congr (p := f i) (q := i < n ∧ f i) ⟨fun z => ⟨c, z⟩, fun z => z.2⟩]
  · have h1 := bsum_lt f n
    have h2 : 2 ^ n ≤ 2 ^ i := Nat.pow_le_pow_right (by omega) (by omega)
    rw [Nat.div_eq_of_lt (by omega), bI_f (fun z => c z.1)]
theorem bsum_one {c : Nat} : ∀ n, c < n → bsum (fun x => x = c) n = 2 ^ c := by
  intro n
  induction n with
  | zero => intro h; exact absurd h (Nat.not_lt_zero c)
  | succ n ih =>
    intro h
    show bsum (fun x => x = c) n + bI (n = c) * 2 ^ n = 2 ^ c
    by_cases e : n = c
    · have z : bsum (fun x => x = c) n = 0 := by
        rw [bsum_congr (f2 := fun _ => False) n (fun a ha => ⟨fun y => by omega, False.elim⟩), bsum_none (m := 0) n (fun _ _ y => y) (Nat.zero_le n)]
        rfl
      rw [bI_t e, z, e]; omega
    · rw [ih (by omega), bI_f e]; omega
theorem i_xor (a b : Nat) : Int32.ofNat a ^^^ Int32.ofNat b = Int32.ofNat (a ^^^ b) := Int32.toBitVec_inj.1 (by simp)
theorem n_andnot {f g : Nat → Prop} : bsum f 27 &&& (bsum g 27 ^^^ 4294967295) = bsum (fun x => f x ∧ ¬ g x) 27 := by
  apply Nat.eq_of_testBit_eq
  intro i
  rw [Nat.testBit_and, Nat.testBit_xor, bsum_tb, bsum_tb, bsum_tb, show (4294967295 : Nat) = 2 ^ 32 - 1 from rfl, Nat.testBit_two_pow_sub_one]
  by_cases c : i < 27
  · by_cases p : f i
    · by_cases q : g i
      · rw [bI_t ⟨c, p⟩, bI_t ⟨c, q⟩, bI_f (fun z => z.2.2 q)]; simp; omega
      · rw [bI_t ⟨c, p⟩, bI_f (fun z => q z.2), bI_t ⟨c, p, q⟩]; simp; omega
    · rw [bI_f (fun z => p z.2), bI_f (p := i < 27 ∧ f i ∧ ¬ g i) (fun z => p z.2.1)]; simp
  · rw [bI_f (fun z => c z.1), bI_f (p := i < 27 ∧ f i ∧ ¬ g i) (fun z => c z.1)]; simp
/-- the ACTS of the second APP that were named so far -/
def NS (D E : AD) (S U : AS) (a c : Nat) : Prop := ∃ b, b < a ∧ possD D S b ∧ itsR D E U b c
theorem alone_iff {D E : AD} {S U : AS} (hD : WfD D) (hE : WfD E) (hs : WS (D 0 0) S) (hu : WS (E 0 0) U) (al : AL D E S U) (c : Nat) (hc : c < 27) : (possD E U c ∧ ¬ NS D E S U 27 c) ↔ (c = 25 ∧ possD E U 25 ∧ ¬ possD D S 25) := by
  have isf := fault_iff hs
  have iuf := fault_iff hu
  have e1 := al.1
  refine ⟨fun ⟨p, n⟩ => ?_, fun ⟨e, p, n⟩ => ?_⟩
  · by_cases c24 : c < 24
    · have pc := poss_press c24 p
      have sz : S.1 = 0 := by
        have := hu.2.2.2.1 pc.1
        omega
      obtain ⟨b, b1, b2⟩ := (al.2 sz).2.2.2 c pc
      exact absurd ⟨b, by have := press_lt hD b1; omega, press_poss b1, Or.inr ⟨press_lt hD b1, pc, b2.symm⟩⟩ n
    · have : c = 24 ∨ c = 25 ∨ c = 26 := by omega
      rcases this with e | e | e
      · subst e
        have u0 : 0 < U.2.1 := by
          rcases p with z | z
          · omega
          · exact z.1
        have s0 : 0 < S.2.1 := by
          rcases Nat.eq_zero_or_pos S.2.1 with y | y
          · have := isf.1 y
            have := hu.2.2.2.1 u0
            omega
          · exact y
        exact absurd ⟨24, by omega, Or.inr ⟨s0, Or.inl rfl⟩, Or.inl ⟨by omega, rfl, p⟩⟩ n
      · subst e
        exact ⟨rfl, p, fun q => n ⟨25, by omega, q, Or.inl ⟨by omega, rfl, p⟩⟩⟩
      · subst e
        exact absurd ⟨26, by omega, Or.inl rfl, Or.inl ⟨by omega, rfl, p⟩⟩ n
  · subst e
    refine ⟨p, fun ⟨b, b1, b2, b3⟩ => ?_⟩
    rcases b3 with b3 | b3
    · rw [← b3.2.1] at b2; exact n b2
    · have := press_lt hE b3.2.1; omega
