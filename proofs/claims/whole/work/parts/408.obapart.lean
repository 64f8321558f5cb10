/-- how the pairs were met -/
def LW (B : PT3) : Prop := 0 < B.1 ∧ B.1 ≤ 400 ∧ B.2.2.2.2.2 0 = 0 ∧ ∀ i, i < B.1 → 0 < i → B.2.2.2.1 i < i ∧ B.2.2.2.2.1 i < 27 ∧ B.2.2.2.2.2 i = B.2.2.2.2.2 (B.2.2.2.1 i) + 1
theorem pbW.lw {D E : AD} {B : PT3} (w : pbW D E B) : LW B := ⟨w.1, w.2.1, w.2.2.2.2.1, w.2.2.2.2.2⟩
theorem LW.deep {B : PT3} (w : LW B) : ∀ i, i < B.1 → B.2.2.2.2.2 i ≤ i := by
  intro i
  induction i using Nat.strongRecOn with
  | ind i ih =>
    intro hi
    rcases Nat.eq_zero_or_pos i with z | z
    · rw [z, w.2.2.1]; exact Nat.le_refl 0
    · have q := w.2.2.2 i hi z
      have := ih _ q.1 (by omega)
      omega
theorem LW.add {B : PT3} {j : Nat} {T V : AS} (w : LW B) (hj : j / 27 < B.1) (h4 : B.1 < 400) : LW (pbAdd B j T V) := by
  obtain ⟨w1, w2, w3, w4⟩ := w
  refine ⟨Nat.succ_pos _, by show B.1 + 1 ≤ 400; omega, ?_, fun i hi h0 => ?_⟩
  · show nup B.2.2.2.2.2 B.1 _ 0 = 0
    rw [nup_n (by omega)]; exact w3
  · have hi2 : i < B.1 + 1 := hi
    show nup B.2.2.2.1 B.1 (j / 27) i < i ∧ nup B.2.2.2.2.1 B.1 (j % 27) i < 27 ∧ nup B.2.2.2.2.2 B.1 (B.2.2.2.2.2 (j / 27) + 1) i = nup B.2.2.2.2.2 B.1 (B.2.2.2.2.2 (j / 27) + 1) (nup B.2.2.2.1 B.1 (j / 27) i) + 1
    by_cases c : i = B.1
    · rw [c, nup_s, nup_s, nup_s, nup_n (by omega)]
      exact ⟨hj, by omega, rfl⟩
    · have q := w4 i (by omega) h0
      rw [nup_n c, nup_n c, nup_n c, nup_n (by omega)]
      exact q
/-- an end that was found -/
def FEnd (D E : AD) (e J u : Nat) (x2 : Int32) (B : PT3) : Prop := (e = 1 ∧ u = J / 27 ∧ x2 = Int32.ofNat (J % 27) ∧ B = pbN D E J) ∨ (e = 3 ∧ u = (pbN D E J).1 ∧ x2 = -1 ∧ B = pbN D E (J + 1)) ∨ (e = 4 ∧ u = J / 27 - 1 ∧ x2 = Int32.ofNat 125 ∧ B = pbN D E J) ∨ (e = 5 ∧ u = 0 ∧ x2 = -1 ∧ B = pb0)
theorem fend {D E : AD} {e J : Nat} (hD : WfD D) (hE : WfD E) (hend : pbEnd D E e J) (n0 : e ≠ 0) (n2 : e ≠ 2) : ∃ u x2 B, FEnd D E e J u x2 B ∧ LW B ∧ u < B.1 ∧ (x2 = -1 ∨ ∃ a, a < 1000 ∧ x2 = Int32.ofNat a) := by
  rcases hend with z | z | z | z | z | z
  · exact absurd z.1 n0
  · exact ⟨_, _, _, Or.inl ⟨z.1, rfl, rfl, rfl⟩, (pbW_all hD hE _ z.2.1).lw, z.2.2.2.1, Or.inr ⟨J % 27, by omega, rfl⟩⟩
  · exact absurd z.1 n2
  · obtain ⟨z1, z2, z3, z4, T, V, G, nn, h4, al⟩ := z
    have eN : pbN D E (J + 1) = pbAdd (pbN D E J) J T V := pb1_add hE G nn
    refine ⟨_, _, _, Or.inr (Or.inl ⟨z1, rfl, rfl, rfl⟩), ?_, ?_, Or.inl rfl⟩
    · rw [eN]; exact (pbW_all hD hE _ z2).lw.add z4 h4
    · rw [eN]; exact Nat.lt_succ_self _
  · obtain ⟨z1, z2, k, z3, z4⟩ := z
    refine ⟨_, _, _, Or.inr (Or.inr (Or.inl ⟨z1, rfl, rfl, rfl⟩)), (pbW_all hD hE _ z2).lw, ?_, Or.inr ⟨125, by omega, rfl⟩⟩
    have q := (z2.2.1 (J - 1) (by omega)).1
    have := pbN_mono D E (show J - 1 ≤ J by omega)
    omega
  · refine ⟨_, _, _, Or.inr (Or.inr (Or.inr ⟨z.1, rfl, rfl, rfl⟩)), ⟨Nat.one_pos, by show 1 ≤ 400; omega, rfl, fun i hi h0 => ?_⟩, Nat.one_pos, Or.inl rfl⟩
    have : i < 1 := hi
    omega
theorem fend_C {h : AH} {D E : AD} {e J u : Nat} {x2 : Int32} {B : PT3} (pe : PEnd h D E e J) (f : FEnd D E e J u x2 B) : h.1 93 3 = 0 ∧ h.1 93 4 = Int32.ofNat u ∧ h.1 93 5 = x2 ∧ CP h B := by
  obtain ⟨_, p0, p1, p2, p3, p4, p5⟩ := pe
  rcases f with ⟨z, rfl, rfl, rfl⟩ | ⟨z, rfl, rfl, rfl⟩ | ⟨z, rfl, rfl, rfl⟩ | ⟨z, rfl, rfl, rfl⟩
  · exact p1 z
  · exact p3 z
  · exact p4 z
  · exact p5 z
theorem k_apart0 {l : Launch} {g : AG} {h : AH} {X Y : Nat → Nat} {D E : AD} {e J : Nat} {Q : Int32 → AH → Prop} (r : Refs h) (hA : IA h X Y) (hD : WfD D) (hE : WfD E) (hB : RepB h (Y 0) D) (hC : RepB h (Y 1) E) (t0 : h.1 125 0 = 1) (t1 : h.1 125 1 = 1) (hend : pbEnd D E e J)
    (q0 : e = 0 → ∀ h', Refs h' → Fr PAp (ax_setI h 103 0 0) h' → h'.1 103 43 = Int32.ofNat (pbN D E J).1 → C_X12_done l g h' 103 (-2) Q)
    (q2 : e = 2 → ∀ h', Refs h' → Fr PAp (ax_setI h 103 0 0) h' → h'.1 103 43 = Int32.ofNat 400 → C_X12_refused l g h' 103 5 Q)
    (q1 : ∀ u x2 B, FEnd D E e J u x2 B → ∀ h', Refs h' → Fr PAp (ax_setI h 103 0 0) h' → MP h' B → C_X12_rowOf l g h' 103 (Int32.ofNat u) x2 Q) : C_X12_apart l g h 103 Q := by
  have hy := hA.isy (show 0 < 2 by omega)
  have hz := hA.isy (show 1 < 2 by omega)
  have hyu : Y 0 = 105 ∨ Y 0 = 154 ∨ Y 0 = 174 := hy
  have hzu : Y 1 = 105 ∨ Y 1 = 154 ∨ Y 1 = 174 := hz
  have f2 : Fr (fun c p => c = 103 ∧ p = 0) h (ax_setI h 103 0 0) := (Fr.refl _ h).setI ⟨rfl, rfl⟩
  refine c_X12_apart (s_X12_apart_0 ⟨is_103, ?_⟩)
  intro h2 e2
  rw [← e2] at q0 q2 q1 f2
  have r2 : Refs h2 := by rw [e2]; exact r.setI
  have A2 : IA h2 X Y := hA.fr f2 (fun c p q => by omega)
  have B2 : RepB h2 (Y 0) D := hB.fr f2 (fun c p h1 h2 q => by omega)
  have C2 : RepB h2 (Y 1) E := hC.fr f2 (fun c p h1 h2 q => by omega)
  have t02 : h2.1 125 0 = 1 := by rw [(f2 125 0 (by decide)).1]; exact t0
  have t12 : h2.1 125 1 = 1 := by rw [(f2 125 1 (by decide)).1]; exact t1
  clear e2 f2
  simp (disch := first | assumption | omega) only [true_and, and_true, forall_eq, true_implies, false_implies, implies_true, not_true_eq_false, not_false_eq_true, false_and, and_false, ne_eq, ite_true, ite_false, Nat.reduceLeDiff, Nat.reduceEqDiff, Nat.reduceLT, Nat.reduceAdd, Nat.reduceMul, Nat.reduceSub, Nat.le_refl, eq_self, li_0, li_1, li_2, li_3, li_4, li_5, li_6, li_7, li_8, li_9, li_10, li_11, li_12, li_13, li_14, li_15, li_16, li_17, li_18, li_19, li_20, li_21, li_22, li_23, li_24, li_25, li_26, li_27, li_28, li_29, li_30, li_31, li_32, li_44, li_48, li_57, li_59, li_60, li_61, li_62, li_63, li_97, li_100, li_122, li_123, li_125, li_127, li_255, li_400, li_401, li_800, li_1023, li_1024, li_10827, i_add, i_mul, i_sub, i_p1, i_m1, i_nm, i_nm2, i_cl, i_cl0, vi_ok, i_lt, i_le, i_eq, lg_e, rf_103_4, rf_103_6, rf_103_7, rf_103_8, rf_103_9, rf_103_10, rf_103_21, rf_103_22, rf_103_23, rf_103_26, rf_103_27, rf_103_28, rf_103_29, rf_103_30, rf_103_31, rf_103_32, rf_103_33, rf_103_34, rf_103_35, rf_103_37, rf_103_38, rf_103_39, rf_103_44, rf_103_45, rf_103_46, rf_103_47, rf_103_48, rf_103_49, rf_103_54, rf_103_55, is_103, is_104, sz_104, is_125, sz_125, is_126, sz_126, is_127, sz_127, is_128, sz_128, is_129, sz_129, is_130, sz_130, is_131, sz_131, is_132, sz_132, is_133, sz_133, is_134, sz_134, is_135, sz_135, is_136, sz_136, is_137, sz_137, is_138, sz_138, is_139, sz_139, is_140, sz_140, is_141, sz_141, is_142, sz_142, is_143, sz_143, is_144, sz_144, is_145, sz_145, is_146, sz_146, is_147, sz_147, is_148, sz_148, is_149, sz_149, is_150, sz_150, is_151, sz_151, is_152, sz_152, is_153, sz_153, A2.y (show 0 < 2 by omega), A2.y (show 1 < 2 by omega), isB_x hy, isB_x hz, t02, t12]
  refine k_X12_begins r2 (fun h3 f3 s3 => ?_)
  have r3 := f3.refs r2
  have wS : WS (D 0 0) st0 := WS.zero hD.1.1 hD.1.2.1
  have wU : WS (E 0 0) st0 := WS.zero hE.1.1 hE.1.2.1
  have ff3 : Fr PAp h2 h3 := f3.fr.mono (fun c p q => Or.inl (Or.inl q))
  (try simp (disch := first | assumption | omega) only [true_and, and_true, forall_eq, true_implies, false_implies, implies_true, not_true_eq_false, not_false_eq_true, false_and, and_false, ne_eq, ite_true, ite_false, Nat.reduceLeDiff, Nat.reduceEqDiff, Nat.reduceLT, Nat.reduceAdd, Nat.reduceMul, Nat.reduceSub, Nat.le_refl, eq_self, li_0, li_1, li_2, li_3, li_4, li_5, li_6, li_7, li_8, li_9, li_10, li_11, li_12, li_13, li_14, li_15, li_16, li_17, li_18, li_19, li_20, li_21, li_22, li_23, li_24, li_25, li_26, li_27, li_28, li_29, li_30, li_31, li_32, li_44, li_48, li_57, li_59, li_60, li_61, li_62, li_63, li_97, li_100, li_122, li_123, li_125, li_127, li_255, li_400, li_401, li_800, li_1023, li_1024, li_10827, i_add, i_mul, i_sub, i_p1, i_m1, i_nm, i_nm2, i_cl, i_cl0, vi_ok, i_lt, i_le, i_eq, lg_e, rf_103_4, rf_103_6, rf_103_7, rf_103_8, rf_103_9, rf_103_10, rf_103_21, rf_103_22, rf_103_23, rf_103_26, rf_103_27, rf_103_28, rf_103_29, rf_103_30, rf_103_31, rf_103_32, rf_103_33, rf_103_34, rf_103_35, rf_103_37, rf_103_38, rf_103_39, rf_103_44, rf_103_45, rf_103_46, rf_103_47, rf_103_48, rf_103_49, rf_103_54, rf_103_55, is_103, is_104, sz_104, is_125, sz_125, is_126, sz_126, is_127, sz_127, is_128, sz_128, is_129, sz_129, is_130, sz_130, is_131, sz_131, is_132, sz_132, is_133, sz_133, is_134, sz_134, is_135, sz_135, is_136, sz_136, is_137, sz_137, is_138, sz_138, is_139, sz_139, is_140, sz_140, is_141, sz_141, is_142, sz_142, is_143, sz_143, is_144, sz_144, is_145, sz_145, is_146, sz_146, is_147, sz_147, is_148, sz_148, is_149, sz_149, is_150, sz_150, is_151, sz_151, is_152, sz_152, is_153, sz_153])
  refine k_X12_packed r3 wS s3 ?_
  simp (disch := first | assumption | omega) only [true_and, and_true, forall_eq, true_implies, false_implies, implies_true, not_true_eq_false, not_false_eq_true, false_and, and_false, ne_eq, ite_true, ite_false, Nat.reduceLeDiff, Nat.reduceEqDiff, Nat.reduceLT, Nat.reduceAdd, Nat.reduceMul, Nat.reduceSub, Nat.le_refl, eq_self, li_0, li_1, li_2, li_3, li_4, li_5, li_6, li_7, li_8, li_9, li_10, li_11, li_12, li_13, li_14, li_15, li_16, li_17, li_18, li_19, li_20, li_21, li_22, li_23, li_24, li_25, li_26, li_27, li_28, li_29, li_30, li_31, li_32, li_44, li_48, li_57, li_59, li_60, li_61, li_62, li_63, li_97, li_100, li_122, li_123, li_125, li_127, li_255, li_400, li_401, li_800, li_1023, li_1024, li_10827, i_add, i_mul, i_sub, i_p1, i_m1, i_nm, i_nm2, i_cl, i_cl0, vi_ok, i_lt, i_le, i_eq, lg_e, rf_103_4, rf_103_6, rf_103_7, rf_103_8, rf_103_9, rf_103_10, rf_103_21, rf_103_22, rf_103_23, rf_103_26, rf_103_27, rf_103_28, rf_103_29, rf_103_30, rf_103_31, rf_103_32, rf_103_33, rf_103_34, rf_103_35, rf_103_37, rf_103_38, rf_103_39, rf_103_44, rf_103_45, rf_103_46, rf_103_47, rf_103_48, rf_103_49, rf_103_54, rf_103_55, is_103, is_104, sz_104, is_125, sz_125, is_126, sz_126, is_127, sz_127, is_128, sz_128, is_129, sz_129, is_130, sz_130, is_131, sz_131, is_132, sz_132, is_133, sz_133, is_134, sz_134, is_135, sz_135, is_136, sz_136, is_137, sz_137, is_138, sz_138, is_139, sz_139, is_140, sz_140, is_141, sz_141, is_142, sz_142, is_143, sz_143, is_144, sz_144, is_145, sz_145, is_146, sz_146, is_147, sz_147, is_148, sz_148, is_149, sz_149, is_150, sz_150, is_151, sz_151, is_152, sz_152, is_153, sz_153, gI_s, gI_c, gI_p, gI_L, gI_R, gL_s, gL_c, gL_p, gL_I, gL_R, gR_s, gR_c, gR_p, gR_I, gR_L]
  have s4 : RepS (ax_setL h3 146 0 (Int64.ofNat (ea st0 5))) st0 := s3
  refine k_X12_packedVars r3.setL wS s4 ?_
  simp (disch := first | assumption | omega) only [true_and, and_true, forall_eq, true_implies, false_implies, implies_true, not_true_eq_false, not_false_eq_true, false_and, and_false, ne_eq, ite_true, ite_false, Nat.reduceLeDiff, Nat.reduceEqDiff, Nat.reduceLT, Nat.reduceAdd, Nat.reduceMul, Nat.reduceSub, Nat.le_refl, eq_self, li_0, li_1, li_2, li_3, li_4, li_5, li_6, li_7, li_8, li_9, li_10, li_11, li_12, li_13, li_14, li_15, li_16, li_17, li_18, li_19, li_20, li_21, li_22, li_23, li_24, li_25, li_26, li_27, li_28, li_29, li_30, li_31, li_32, li_44, li_48, li_57, li_59, li_60, li_61, li_62, li_63, li_97, li_100, li_122, li_123, li_125, li_127, li_255, li_400, li_401, li_800, li_1023, li_1024, li_10827, i_add, i_mul, i_sub, i_p1, i_m1, i_nm, i_nm2, i_cl, i_cl0, vi_ok, i_lt, i_le, i_eq, lg_e, rf_103_4, rf_103_6, rf_103_7, rf_103_8, rf_103_9, rf_103_10, rf_103_21, rf_103_22, rf_103_23, rf_103_26, rf_103_27, rf_103_28, rf_103_29, rf_103_30, rf_103_31, rf_103_32, rf_103_33, rf_103_34, rf_103_35, rf_103_37, rf_103_38, rf_103_39, rf_103_44, rf_103_45, rf_103_46, rf_103_47, rf_103_48, rf_103_49, rf_103_54, rf_103_55, is_103, is_104, sz_104, is_125, sz_125, is_126, sz_126, is_127, sz_127, is_128, sz_128, is_129, sz_129, is_130, sz_130, is_131, sz_131, is_132, sz_132, is_133, sz_133, is_134, sz_134, is_135, sz_135, is_136, sz_136, is_137, sz_137, is_138, sz_138, is_139, sz_139, is_140, sz_140, is_141, sz_141, is_142, sz_142, is_143, sz_143, is_144, sz_144, is_145, sz_145, is_146, sz_146, is_147, sz_147, is_148, sz_148, is_149, sz_149, is_150, sz_150, is_151, sz_151, is_152, sz_152, is_153, sz_153, gI_s, gI_c, gI_p, gI_L, gI_R, gL_s, gL_c, gL_p, gL_I, gL_R, gR_s, gR_c, gR_p, gR_I, gR_L]
  have s5 : RepS (ax_setL (ax_setL h3 146 0 (Int64.ofNat (ea st0 5))) 147 0 (Int64.ofNat (eb st0.2.2.2.2 6))) st0 := s3
  refine k_X12_packed r3.setL.setL wS s5 ?_
  simp (disch := first | assumption | omega) only [true_and, and_true, forall_eq, true_implies, false_implies, implies_true, not_true_eq_false, not_false_eq_true, false_and, and_false, ne_eq, ite_true, ite_false, Nat.reduceLeDiff, Nat.reduceEqDiff, Nat.reduceLT, Nat.reduceAdd, Nat.reduceMul, Nat.reduceSub, Nat.le_refl, eq_self, li_0, li_1, li_2, li_3, li_4, li_5, li_6, li_7, li_8, li_9, li_10, li_11, li_12, li_13, li_14, li_15, li_16, li_17, li_18, li_19, li_20, li_21, li_22, li_23, li_24, li_25, li_26, li_27, li_28, li_29, li_30, li_31, li_32, li_44, li_48, li_57, li_59, li_60, li_61, li_62, li_63, li_97, li_100, li_122, li_123, li_125, li_127, li_255, li_400, li_401, li_800, li_1023, li_1024, li_10827, i_add, i_mul, i_sub, i_p1, i_m1, i_nm, i_nm2, i_cl, i_cl0, vi_ok, i_lt, i_le, i_eq, lg_e, rf_103_4, rf_103_6, rf_103_7, rf_103_8, rf_103_9, rf_103_10, rf_103_21, rf_103_22, rf_103_23, rf_103_26, rf_103_27, rf_103_28, rf_103_29, rf_103_30, rf_103_31, rf_103_32, rf_103_33, rf_103_34, rf_103_35, rf_103_37, rf_103_38, rf_103_39, rf_103_44, rf_103_45, rf_103_46, rf_103_47, rf_103_48, rf_103_49, rf_103_54, rf_103_55, is_103, is_104, sz_104, is_125, sz_125, is_126, sz_126, is_127, sz_127, is_128, sz_128, is_129, sz_129, is_130, sz_130, is_131, sz_131, is_132, sz_132, is_133, sz_133, is_134, sz_134, is_135, sz_135, is_136, sz_136, is_137, sz_137, is_138, sz_138, is_139, sz_139, is_140, sz_140, is_141, sz_141, is_142, sz_142, is_143, sz_143, is_144, sz_144, is_145, sz_145, is_146, sz_146, is_147, sz_147, is_148, sz_148, is_149, sz_149, is_150, sz_150, is_151, sz_151, is_152, sz_152, is_153, sz_153, gI_s, gI_c, gI_p, gI_L, gI_R, gL_s, gL_c, gL_p, gL_I, gL_R, gR_s, gR_c, gR_p, gR_I, gR_L]
  have s6 : RepS (ax_setL (ax_setL (ax_setL h3 146 0 (Int64.ofNat (ea st0 5))) 147 0 (Int64.ofNat (eb st0.2.2.2.2 6))) 148 0 (Int64.ofNat (ea st0 5))) st0 := s3
  refine k_X12_packedVars r3.setL.setL.setL wS s6 ?_
  simp (disch := first | assumption | omega) only [true_and, and_true, forall_eq, true_implies, false_implies, implies_true, not_true_eq_false, not_false_eq_true, false_and, and_false, ne_eq, ite_true, ite_false, Nat.reduceLeDiff, Nat.reduceEqDiff, Nat.reduceLT, Nat.reduceAdd, Nat.reduceMul, Nat.reduceSub, Nat.le_refl, eq_self, li_0, li_1, li_2, li_3, li_4, li_5, li_6, li_7, li_8, li_9, li_10, li_11, li_12, li_13, li_14, li_15, li_16, li_17, li_18, li_19, li_20, li_21, li_22, li_23, li_24, li_25, li_26, li_27, li_28, li_29, li_30, li_31, li_32, li_44, li_48, li_57, li_59, li_60, li_61, li_62, li_63, li_97, li_100, li_122, li_123, li_125, li_127, li_255, li_400, li_401, li_800, li_1023, li_1024, li_10827, i_add, i_mul, i_sub, i_p1, i_m1, i_nm, i_nm2, i_cl, i_cl0, vi_ok, i_lt, i_le, i_eq, lg_e, rf_103_4, rf_103_6, rf_103_7, rf_103_8, rf_103_9, rf_103_10, rf_103_21, rf_103_22, rf_103_23, rf_103_26, rf_103_27, rf_103_28, rf_103_29, rf_103_30, rf_103_31, rf_103_32, rf_103_33, rf_103_34, rf_103_35, rf_103_37, rf_103_38, rf_103_39, rf_103_44, rf_103_45, rf_103_46, rf_103_47, rf_103_48, rf_103_49, rf_103_54, rf_103_55, is_103, is_104, sz_104, is_125, sz_125, is_126, sz_126, is_127, sz_127, is_128, sz_128, is_129, sz_129, is_130, sz_130, is_131, sz_131, is_132, sz_132, is_133, sz_133, is_134, sz_134, is_135, sz_135, is_136, sz_136, is_137, sz_137, is_138, sz_138, is_139, sz_139, is_140, sz_140, is_141, sz_141, is_142, sz_142, is_143, sz_143, is_144, sz_144, is_145, sz_145, is_146, sz_146, is_147, sz_147, is_148, sz_148, is_149, sz_149, is_150, sz_150, is_151, sz_151, is_152, sz_152, is_153, sz_153, gI_s, gI_c, gI_p, gI_L, gI_R, gL_s, gL_c, gL_p, gL_I, gL_R, gR_s, gR_c, gR_p, gR_I, gR_L]
  have r9 : Refs (ax_setI (ax_setI (ax_setL (ax_setL (ax_setL (ax_setL h3 146 0 (Int64.ofNat (ea st0 5))) 147 0 (Int64.ofNat (eb st0.2.2.2.2 6))) 148 0 (Int64.ofNat (ea st0 5))) 149 0 (Int64.ofNat (eb st0.2.2.2.2 6))) 150 0 (-1)) 103 43 (Int32.ofNat 1)) := r3.setL.setL.setL.setL.setI.setI
  have f9 : Fr PAp h2 (ax_setI (ax_setI (ax_setL (ax_setL (ax_setL (ax_setL h3 146 0 (Int64.ofNat (ea st0 5))) 147 0 (Int64.ofNat (eb st0.2.2.2.2 6))) 148 0 (Int64.ofNat (ea st0 5))) 149 0 (Int64.ofNat (eb st0.2.2.2.2 6))) 150 0 (-1)) 103 43 (Int32.ofNat 1)) := (((((ff3.setL (Or.inr (Or.inl ⟨by omega, by omega⟩))).setL (Or.inr (Or.inl ⟨by omega, by omega⟩))).setL (Or.inr (Or.inl ⟨by omega, by omega⟩))).setL (Or.inr (Or.inl ⟨by omega, by omega⟩))).setI (Or.inr (Or.inl ⟨by omega, by omega⟩))).setI (Or.inr (Or.inr ⟨rfl, rfl⟩))
  have mp9 : MP (ax_setI (ax_setI (ax_setL (ax_setL (ax_setL (ax_setL h3 146 0 (Int64.ofNat (ea st0 5))) 147 0 (Int64.ofNat (eb st0.2.2.2.2 6))) 148 0 (Int64.ofNat (ea st0 5))) 149 0 (Int64.ofNat (eb st0.2.2.2.2 6))) 150 0 (-1)) 103 43 (Int32.ofNat 1)) pb0 := by
    refine ⟨gI_s _ _ _ _, fun i hi => ?_⟩
    have i0 : i = 0 := by have : i < 1 := hi; omega
    subst i0
    refine ⟨?_, ?_, ?_, ?_, ?_, fun z => absurd z (Nat.lt_irrefl 0)⟩
    · simp (disch := first | assumption | omega) only [true_and, and_true, forall_eq, true_implies, false_implies, implies_true, not_true_eq_false, not_false_eq_true, false_and, and_false, ne_eq, ite_true, ite_false, Nat.reduceLeDiff, Nat.reduceEqDiff, Nat.reduceLT, Nat.reduceAdd, Nat.reduceMul, Nat.reduceSub, Nat.le_refl, eq_self, li_0, li_1, li_2, li_3, li_4, li_5, li_6, li_7, li_8, li_9, li_10, li_11, li_12, li_13, li_14, li_15, li_16, li_17, li_18, li_19, li_20, li_21, li_22, li_23, li_24, li_25, li_26, li_27, li_28, li_29, li_30, li_31, li_32, li_44, li_48, li_57, li_59, li_60, li_61, li_62, li_63, li_97, li_100, li_122, li_123, li_125, li_127, li_255, li_400, li_401, li_800, li_1023, li_1024, li_10827, i_add, i_mul, i_sub, i_p1, i_m1, i_nm, i_nm2, i_cl, i_cl0, vi_ok, i_lt, i_le, i_eq, lg_e, gI_s, gI_c, gI_p, gI_L, gI_R, gL_s, gL_c, gL_p, gL_I, gL_R, gR_s, gR_c, gR_p, gR_I, gR_L]; rfl
    · simp (disch := first | assumption | omega) only [true_and, and_true, forall_eq, true_implies, false_implies, implies_true, not_true_eq_false, not_false_eq_true, false_and, and_false, ne_eq, ite_true, ite_false, Nat.reduceLeDiff, Nat.reduceEqDiff, Nat.reduceLT, Nat.reduceAdd, Nat.reduceMul, Nat.reduceSub, Nat.le_refl, eq_self, li_0, li_1, li_2, li_3, li_4, li_5, li_6, li_7, li_8, li_9, li_10, li_11, li_12, li_13, li_14, li_15, li_16, li_17, li_18, li_19, li_20, li_21, li_22, li_23, li_24, li_25, li_26, li_27, li_28, li_29, li_30, li_31, li_32, li_44, li_48, li_57, li_59, li_60, li_61, li_62, li_63, li_97, li_100, li_122, li_123, li_125, li_127, li_255, li_400, li_401, li_800, li_1023, li_1024, li_10827, i_add, i_mul, i_sub, i_p1, i_m1, i_nm, i_nm2, i_cl, i_cl0, vi_ok, i_lt, i_le, i_eq, lg_e, gI_s, gI_c, gI_p, gI_L, gI_R, gL_s, gL_c, gL_p, gL_I, gL_R, gR_s, gR_c, gR_p, gR_I, gR_L]; rfl
    · simp (disch := first | assumption | omega) only [true_and, and_true, forall_eq, true_implies, false_implies, implies_true, not_true_eq_false, not_false_eq_true, false_and, and_false, ne_eq, ite_true, ite_false, Nat.reduceLeDiff, Nat.reduceEqDiff, Nat.reduceLT, Nat.reduceAdd, Nat.reduceMul, Nat.reduceSub, Nat.le_refl, eq_self, li_0, li_1, li_2, li_3, li_4, li_5, li_6, li_7, li_8, li_9, li_10, li_11, li_12, li_13, li_14, li_15, li_16, li_17, li_18, li_19, li_20, li_21, li_22, li_23, li_24, li_25, li_26, li_27, li_28, li_29, li_30, li_31, li_32, li_44, li_48, li_57, li_59, li_60, li_61, li_62, li_63, li_97, li_100, li_122, li_123, li_125, li_127, li_255, li_400, li_401, li_800, li_1023, li_1024, li_10827, i_add, i_mul, i_sub, i_p1, i_m1, i_nm, i_nm2, i_cl, i_cl0, vi_ok, i_lt, i_le, i_eq, lg_e, gI_s, gI_c, gI_p, gI_L, gI_R, gL_s, gL_c, gL_p, gL_I, gL_R, gR_s, gR_c, gR_p, gR_I, gR_L]; rfl
    · simp (disch := first | assumption | omega) only [true_and, and_true, forall_eq, true_implies, false_implies, implies_true, not_true_eq_false, not_false_eq_true, false_and, and_false, ne_eq, ite_true, ite_false, Nat.reduceLeDiff, Nat.reduceEqDiff, Nat.reduceLT, Nat.reduceAdd, Nat.reduceMul, Nat.reduceSub, Nat.le_refl, eq_self, li_0, li_1, li_2, li_3, li_4, li_5, li_6, li_7, li_8, li_9, li_10, li_11, li_12, li_13, li_14, li_15, li_16, li_17, li_18, li_19, li_20, li_21, li_22, li_23, li_24, li_25, li_26, li_27, li_28, li_29, li_30, li_31, li_32, li_44, li_48, li_57, li_59, li_60, li_61, li_62, li_63, li_97, li_100, li_122, li_123, li_125, li_127, li_255, li_400, li_401, li_800, li_1023, li_1024, li_10827, i_add, i_mul, i_sub, i_p1, i_m1, i_nm, i_nm2, i_cl, i_cl0, vi_ok, i_lt, i_le, i_eq, lg_e, gI_s, gI_c, gI_p, gI_L, gI_R, gL_s, gL_c, gL_p, gL_I, gL_R, gR_s, gR_c, gR_p, gR_I, gR_L]; rfl
    · simp (disch := first | assumption | omega) only [true_and, and_true, forall_eq, true_implies, false_implies, implies_true, not_true_eq_false, not_false_eq_true, false_and, and_false, ne_eq, ite_true, ite_false, Nat.reduceLeDiff, Nat.reduceEqDiff, Nat.reduceLT, Nat.reduceAdd, Nat.reduceMul, Nat.reduceSub, Nat.le_refl, eq_self, li_0, li_1, li_2, li_3, li_4, li_5, li_6, li_7, li_8, li_9, li_10, li_11, li_12, li_13, li_14, li_15, li_16, li_17, li_18, li_19, li_20, li_21, li_22, li_23, li_24, li_25, li_26, li_27, li_28, li_29, li_30, li_31, li_32, li_44, li_48, li_57, li_59, li_60, li_61, li_62, li_63, li_97, li_100, li_122, li_123, li_125, li_127, li_255, li_400, li_401, li_800, li_1023, li_1024, li_10827, i_add, i_mul, i_sub, i_p1, i_m1, i_nm, i_nm2, i_cl, i_cl0, vi_ok, i_lt, i_le, i_eq, lg_e, gI_s, gI_c, gI_p, gI_L, gI_R, gL_s, gL_c, gL_p, gL_I, gL_R, gR_s, gR_c, gR_p, gR_I, gR_L]
  revert r9 f9 mp9
  generalize ax_setI (ax_setI (ax_setL (ax_setL (ax_setL (ax_setL h3 146 0 (Int64.ofNat (ea st0 5))) 147 0 (Int64.ofNat (eb st0.2.2.2.2 6))) 148 0 (Int64.ofNat (ea st0 5))) 149 0 (Int64.ofNat (eb st0.2.2.2.2 6))) 150 0 (-1)) 103 43 (Int32.ofNat 1) = h9
  intro r9 f9 mp9
  have A9 : IA h9 X Y := A2.fr f9 (fun c p q => by have := PAp_no q; omega)
  refine k_isAlike (k := 0) r9 A9 hD hE (B2.fr f9 (fun c p h1 h2 q => by have := PAp_no q; omega)) (C2.fr f9 (fun c p h1 h2 q => by have := PAp_no q; omega)) mp9 (by show 1 ≤ 400; omega) (by show 0 < 1; omega) wS wU (fun h8 r8 f8 al => ?_) (fun h8 r8 f8 al => ?_)
  · have ff8 : Fr PAp h2 h8 := f9.trans (f8.mono (fun c p q => Or.inl q))
    refine ⟨fun _ => ?_, fun z => absurd z (by decide)⟩
    refine k_apart (h0 := h2) A2 hD hE B2 C2 hend ⟨q0, fun z h' a b c => ?_, q2, fun z h' a b c => ?_, fun z h' a b c => ?_⟩ J 0 (Or.inl (by omega)) h8 r8 ff8 (by omega) (fun z => ?_) (fun z => ?_) (mp9.fr f8 (fun c p q => by have := PAl_no q; omega))
    · exact q1 _ _ _ (Or.inl ⟨z, rfl, rfl, rfl⟩) h' a b c
    · exact q1 _ _ _ (Or.inr (Or.inl ⟨z, rfl, rfl, rfl⟩)) h' a b c
    · exact q1 _ _ _ (Or.inr (Or.inr (Or.inl ⟨z, rfl, rfl, rfl⟩))) h' a b c
    · rcases hend with y | y | y | y | y | y
      · omega
      · omega
      · omega
      · omega
      · obtain ⟨_, _, k, y3, _⟩ := y
        omega
      · omega
    · rcases hend with y | y | y | y | y | y
      · omega
      · omega
      · omega
      · omega
      · omega
      · exact y.2.2 al
  · have ff8 : Fr PAp h2 h8 := f9.trans (f8.mono (fun c p q => Or.inl q))
    refine ⟨fun z => absurd rfl z, fun _ => ?_⟩
    have e5 : e = 5 := by
      rcases hend with y | y | y | y | y | y
      · exact absurd y.2.1.1 al
      · exact absurd y.2.1.1 al
      · exact absurd y.2.1.1 al
      · exact absurd y.2.1.1 al
      · exact absurd y.2.1.1 al
      · exact y.1
    exact q1 0 (-1) pb0 (Or.inr (Or.inr (Or.inr ⟨e5, rfl, rfl, rfl⟩))) h8 r8 ff8 (mp9.fr f8 (fun c p q => by have := PAl_no q; omega))
/-- what apart writes -/
def PApx (c p : Nat) : Prop := PE c p ∨ PAp c p ∨ c = 101 ∨ c = 145 ∨ (c = 1 ∧ (p = 9 ∨ p = 12)) ∨ (c = 103 ∧ (p = 0 ∨ p = 1 ∨ p = 2 ∨ p = 40))
theorem PApx_no {c p : Nat} (h : PApx c p) : (94 ≤ c ∧ c ≤ 101) ∨ (c = 93 ∧ p ≠ 2) ∨ (130 ≤ c ∧ c ≤ 132) ∨ (145 ≤ c ∧ c ≤ 153) ∨ (c = 1 ∧ (p = 9 ∨ p = 12)) ∨ (c = 103 ∧ (p = 19 ∨ p = 20 ∨ p = 43 ∨ (50 ≤ p ∧ p ≤ 53) ∨ p = 0 ∨ p = 1 ∨ p = 2 ∨ p = 40)) := by
  rcases h with h | h | h | h | h | h
  · unfold PE at h; omega
  · have := PAp_no h; omega
  · omega
  · omega
  · omega
  · omega
theorem PApx_W {c p : Nat} (h : PApx c p) : PW c p := by
  have := PApx_no h
  unfold PW PQ SCR
  omega
def PAq (c p : Nat) : Prop := PE c p ∨ (c = 1 ∧ p = 12) ∨ (c = 103 ∧ (p = 0 ∨ p = 1 ∨ p = 2)) ∨ PAp c p
theorem ap_end {h h9 : AH} {X Y : Nat → Nat} {D : Nat → AD} {S : Nat → AS} {t : Nat → Prop} (hI : InvD h X Y D S t) (f : Fr PApx h h9) (r9 : Refs h9) (hR : IRow h9) (hP : IPair h9) (k : Int32) (k3 : k ≠ 3) (m1 : h9.1 1 12 = k) (m2 : h9.1 103 1 = k) (m3 : h9.1 103 2 = -1) : Inv h9 := by
  refine inv_end2 (hI.c.w (f.mono (fun _ _ => PApx_W)) r9 (hI.2.2.2.1.fr f (fun c p q => by have := PApx_no q; omega)) hR hP) ?_ ?_ k k3 m1 m2 m3
  · rw [(f 67 3 (fun q => by have := PApx_no q; omega)).1, (f 103 3 (fun q => by have := PApx_no q; omega)).1]; exact hI.2.2.2.2.1.1
  · rw [(f 1 11 (fun q => by have := PApx_no q; omega)).1, (f 103 41 (fun q => by have := PApx_no q; omega)).1]; exact hI.2.2.2.2.1.2.2.2
theorem ob_apart {l : Launch} {g : AG} (h : AH) (hI : Inv h) : C_X9_apart l g h 1 (fun r h1 => C_X12_apart l g h1 103 (fun r2 h2 => r2 = r ∧ Inv h2)) := by
  obtain ⟨X, Y, D, S, t, hI⟩ := hI
  have hr := hI.1
  have hA := hI.2.1
  by_cases c0 : t 0
  case neg =>
    refine c_X9_apart (s_X9_apart_0 ⟨is_1, q_has_n hI.c ?_ ⟨fun _ => k_X9_refused ?_, fun z => absurd rfl z⟩⟩)
    · rintro ⟨a, a1, a2, a3⟩
      have : 0 = a := (i_eq (a := 0) (by omega) (by omega)).1 a2
      subst this
      exact c0 a3
    · have q : h.1 125 0 = 0 := ((hI.2.2.1 0 (by omega)).2 c0).1
      refine c_X12_apart (s_X12_apart_0 ⟨is_103, ?_⟩)
      intro h2 e2
      have r2 : Refs h2 := by rw [e2]; exact hr.setI.setI
      have q2 : h2.1 125 0 = 0 := by rw [e2, gI_c (by omega), gI_c (by omega)]; exact q
      simp (disch := first | assumption | omega) only [true_and, and_true, forall_eq, true_implies, false_implies, implies_true, not_true_eq_false, not_false_eq_true, false_and, and_false, ne_eq, ite_true, ite_false, Nat.reduceLeDiff, Nat.reduceEqDiff, Nat.reduceLT, Nat.reduceAdd, Nat.reduceMul, Nat.reduceSub, Nat.le_refl, eq_self, li_0, li_1, li_2, li_3, li_4, li_5, li_6, li_7, li_8, li_9, li_10, li_11, li_12, li_13, li_14, li_15, li_16, li_17, li_18, li_19, li_20, li_21, li_22, li_23, li_24, li_25, li_26, li_27, li_28, li_29, li_30, li_31, li_32, li_44, li_48, li_57, li_59, li_60, li_61, li_62, li_63, li_97, li_100, li_122, li_123, li_125, li_127, li_255, li_400, li_401, li_800, li_1023, li_1024, li_10827, i_add, i_mul, i_sub, i_p1, i_m1, i_nm, i_nm2, i_cl, i_cl0, vi_ok, i_lt, i_le, i_eq, lg_e, rf_103_4, rf_103_6, rf_103_7, rf_103_8, rf_103_9, rf_103_10, rf_103_21, rf_103_22, rf_103_23, rf_103_26, rf_103_27, rf_103_28, rf_103_29, rf_103_30, rf_103_31, rf_103_32, rf_103_33, rf_103_34, rf_103_35, rf_103_37, rf_103_38, rf_103_39, rf_103_44, rf_103_45, rf_103_46, rf_103_47, rf_103_48, rf_103_49, rf_103_54, rf_103_55, is_103, is_104, sz_104, is_125, sz_125, is_126, sz_126, is_127, sz_127, is_128, sz_128, is_129, sz_129, is_130, sz_130, is_131, sz_131, is_132, sz_132, is_133, sz_133, is_134, sz_134, is_135, sz_135, is_136, sz_136, is_137, sz_137, is_138, sz_138, is_139, sz_139, is_140, sz_140, is_141, sz_141, is_142, sz_142, is_143, sz_143, is_144, sz_144, is_145, sz_145, is_146, sz_146, is_147, sz_147, is_148, sz_148, is_149, sz_149, is_150, sz_150, is_151, sz_151, is_152, sz_152, is_153, sz_153, q2]
      rw [e2]
      exact ob_ref hI 1 (by decide)
  by_cases c1 : t 1
  case neg =>
    refine c_X9_apart (s_X9_apart_0 ⟨is_1, q_has_y (a := 0) hI.c (by omega) c0 ⟨fun z => absurd z (by decide), fun _ => q_has_n hI.c ?_ ⟨fun z => absurd rfl z, fun _ => k_X9_refused ?_⟩⟩⟩)
    · rintro ⟨a, a1, a2, a3⟩
      have : 1 = a := (i_eq (a := 1) (by omega) (by omega)).1 a2
      subst this
      exact c1 a3
    · have q : h.1 125 0 = 1 := ((hI.2.2.1 0 (by omega)).1 c0).1
      have p : h.1 125 1 = 0 := ((hI.2.2.1 1 (by omega)).2 c1).1
      refine c_X12_apart (s_X12_apart_0 ⟨is_103, ?_⟩)
      intro h2 e2
      have r2 : Refs h2 := by rw [e2]; exact hr.setI.setI
      have q2 : h2.1 125 0 = 1 := by rw [e2, gI_c (by omega), gI_c (by omega)]; exact q
      have p2 : h2.1 125 1 = 0 := by rw [e2, gI_c (by omega), gI_c (by omega)]; exact p
      simp (disch := first | assumption | omega) only [true_and, and_true, forall_eq, true_implies, false_implies, implies_true, not_true_eq_false, not_false_eq_true, false_and, and_false, ne_eq, ite_true, ite_false, Nat.reduceLeDiff, Nat.reduceEqDiff, Nat.reduceLT, Nat.reduceAdd, Nat.reduceMul, Nat.reduceSub, Nat.le_refl, eq_self, li_0, li_1, li_2, li_3, li_4, li_5, li_6, li_7, li_8, li_9, li_10, li_11, li_12, li_13, li_14, li_15, li_16, li_17, li_18, li_19, li_20, li_21, li_22, li_23, li_24, li_25, li_26, li_27, li_28, li_29, li_30, li_31, li_32, li_44, li_48, li_57, li_59, li_60, li_61, li_62, li_63, li_97, li_100, li_122, li_123, li_125, li_127, li_255, li_400, li_401, li_800, li_1023, li_1024, li_10827, i_add, i_mul, i_sub, i_p1, i_m1, i_nm, i_nm2, i_cl, i_cl0, vi_ok, i_lt, i_le, i_eq, lg_e, rf_103_4, rf_103_6, rf_103_7, rf_103_8, rf_103_9, rf_103_10, rf_103_21, rf_103_22, rf_103_23, rf_103_26, rf_103_27, rf_103_28, rf_103_29, rf_103_30, rf_103_31, rf_103_32, rf_103_33, rf_103_34, rf_103_35, rf_103_37, rf_103_38, rf_103_39, rf_103_44, rf_103_45, rf_103_46, rf_103_47, rf_103_48, rf_103_49, rf_103_54, rf_103_55, is_103, is_104, sz_104, is_125, sz_125, is_126, sz_126, is_127, sz_127, is_128, sz_128, is_129, sz_129, is_130, sz_130, is_131, sz_131, is_132, sz_132, is_133, sz_133, is_134, sz_134, is_135, sz_135, is_136, sz_136, is_137, sz_137, is_138, sz_138, is_139, sz_139, is_140, sz_140, is_141, sz_141, is_142, sz_142, is_143, sz_143, is_144, sz_144, is_145, sz_145, is_146, sz_146, is_147, sz_147, is_148, sz_148, is_149, sz_149, is_150, sz_150, is_151, sz_151, is_152, sz_152, is_153, sz_153, q2, p2]
      rw [e2]
      exact ob_ref hI 1 (by decide)
  obtain ⟨b1, hD, hA0, hB0, _⟩ := (hI.2.2.1 0 (by omega)).1 c0
  obtain ⟨b2, hE, hA1, hB1, _⟩ := (hI.2.2.1 1 (by omega)).1 c1
  have hx := hA.isx (show 0 < 2 by omega)
  have hx1 := hA.isx (show 1 < 2 by omega)
  have hyu : Y 0 = 105 ∨ Y 0 = 154 ∨ Y 0 = 174 := hA.isy (show 0 < 2 by omega)
  have hzu : Y 1 = 105 ∨ Y 1 = 154 ∨ Y 1 = 174 := hA.isy (show 1 < 2 by omega)
  -- the model after the class
  have model : ∀ (h1 : AH) (e J : Nat) (Q : Int32 → AH → Prop), Refs h1 → Fr PApx h h1 → pbEnd (D 0) (D 1) e J → (e = 0 → ∀ h', Refs h' → Fr PAp (ax_setI h1 103 0 0) h' → h'.1 103 43 = Int32.ofNat (pbN (D 0) (D 1) J).1 → C_X12_done l g h' 103 (-2) Q) → (e = 2 → ∀ h', Refs h' → Fr PAp (ax_setI h1 103 0 0) h' → h'.1 103 43 = Int32.ofNat 400 → C_X12_refused l g h' 103 5 Q) → (∀ u x2 B, FEnd (D 0) (D 1) e J u x2 B → ∀ h', Refs h' → Fr PAp (ax_setI h1 103 0 0) h' → MP h' B → C_X12_rowOf l g h' 103 (Int32.ofNat u) x2 Q) → C_X12_apart l g h1 103 Q := fun h1 e J Q r1 f1 pe q0 q2 q1 => k_apart0 r1 (hA.fr f1 (fun c p q => by have := PApx_no q; omega)) hD hE (hB0.fr f1 (fun c p h1 h2 q => by have := PApx_no q; omega)) (hB1.fr f1 (fun c p h1 h2 q => by have := PApx_no q; omega)) (by rw [(f1 125 0 (fun q => by have := PApx_no q; omega)).1]; exact b1) (by rw [(f1 125 1 (fun q => by have := PApx_no q; omega)).1]; exact b2) pe q0 q2 q1
  refine c_X9_apart (s_X9_apart_0 ⟨is_1, q_has_y (a := 0) hI.c (by omega) c0 ⟨fun z => absurd z (by decide), fun _ => q_has_y (a := 1) hI.c (by omega) c1 ⟨fun _ => ?_, fun z => absurd z (by decide)⟩⟩⟩)
  simp (disch := first | assumption | omega) only [true_and, and_true, forall_eq, true_implies, false_implies, implies_true, not_true_eq_false, not_false_eq_true, false_and, and_false, ne_eq, ite_true, ite_false, Nat.reduceLeDiff, Nat.reduceEqDiff, Nat.reduceLT, Nat.reduceAdd, Nat.reduceMul, Nat.reduceSub, Nat.le_refl, eq_self, li_0, li_1, li_2, li_3, li_4, li_5, li_6, li_7, li_8, li_9, li_10, li_11, li_12, li_13, li_14, li_15, li_16, li_17, li_18, li_19, li_20, li_21, li_22, li_23, li_24, li_25, li_26, li_27, li_28, li_29, li_30, li_31, li_32, li_44, li_48, li_57, li_59, li_60, li_61, li_62, li_63, li_97, li_100, li_122, li_123, li_125, li_127, li_255, li_400, li_401, li_800, li_1023, li_1024, li_10827, i_add, i_mul, i_sub, i_p1, i_m1, i_nm, i_nm2, i_cl, i_cl0, vi_ok, i_lt, i_le, i_eq, lg_e, rf_1_0, rf_1_2, rf_1_4, rf_1_5, rf_1_6, rf_1_7, rf_1_8, rf_1_10, is_1, is_2, sz_2, is_3, sz_3, is_67, sz_67, is_73, sz_73, is_74, sz_74, is_93, sz_93, is_101, sz_101, is_102, sz_102, hA.x (show 0 < 2 by omega), hA.x (show 1 < 2 by omega), isA_x hx, isA_x hx1]
  refine k_goThrough hr hx hx1 hD hE hA0 hA1 (fun h1 e J b pe => ?_)
  have r1 := b.1
  have f1 : Fr PApx h h1 := b.2.1.mono (fun c p q => Or.inl q)
  rw [rf_1_7 r1]
  refine ⟨is_93, ?_⟩
  by_cases e0 : e = 0
  · obtain ⟨p1, p2, p3⟩ := pe.2.1 e0
    rw [p1, p2]
    refine ⟨fun _ => ⟨is_93, fun z => absurd rfl z, fun _ => k_X9_granted ?_⟩, fun z => absurd rfl z⟩
    refine model _ e J _ r1.setI (f1.setI (Or.inr (Or.inr (Or.inr (Or.inr (Or.inl ⟨rfl, Or.inr rfl⟩)))))) pe.1 (fun _ h5 r5 f5 v5 => ?_) (fun z => absurd (e0.symm.trans z) (by decide)) (fun u x2 B z => ?_)
    · have g5 : Fr PApx h h5 := ((f1.setI (Or.inr (Or.inr (Or.inr (Or.inr (Or.inl ⟨rfl, Or.inr rfl⟩)))))).setI (Or.inr (Or.inr (Or.inr (Or.inr (Or.inr ⟨rfl, Or.inl rfl⟩)))))).trans (f5.mono (fun c p q => Or.inr (Or.inl q)))
      refine k_X12_done ⟨rfl, ap_end hI ((g5.setI (Or.inr (Or.inr (Or.inr (Or.inr (Or.inr ⟨rfl, Or.inr (Or.inl rfl)⟩)))))).setI (Or.inr (Or.inr (Or.inr (Or.inr (Or.inr ⟨rfl, Or.inr (Or.inr (Or.inl rfl))⟩)))))) r5.setI.setI ?_ ?_ 0 (by decide) ?_ (by simp (disch := first | assumption | omega) only [true_and, and_true, forall_eq, true_implies, false_implies, implies_true, not_true_eq_false, not_false_eq_true, false_and, and_false, ne_eq, ite_true, ite_false, Nat.reduceLeDiff, Nat.reduceEqDiff, Nat.reduceLT, Nat.reduceAdd, Nat.reduceMul, Nat.reduceSub, Nat.le_refl, eq_self, li_0, li_1, li_2, li_3, li_4, li_5, li_6, li_7, li_8, li_9, li_10, li_11, li_12, li_13, li_14, li_15, li_16, li_17, li_18, li_19, li_20, li_21, li_22, li_23, li_24, li_25, li_26, li_27, li_28, li_29, li_30, li_31, li_32, li_44, li_48, li_57, li_59, li_60, li_61, li_62, li_63, li_97, li_100, li_122, li_123, li_125, li_127, li_255, li_400, li_401, li_800, li_1023, li_1024, li_10827, i_add, i_mul, i_sub, i_p1, i_m1, i_nm, i_nm2, i_cl, i_cl0, vi_ok, i_lt, i_le, i_eq, lg_e, gI_s, gI_c, gI_p, gI_L, gI_R, gL_s, gL_c, gL_p, gL_I, gL_R, gR_s, gR_c, gR_p, gR_I, gR_L]) (by simp (disch := first | assumption | omega) only [true_and, and_true, forall_eq, true_implies, false_implies, implies_true, not_true_eq_false, not_false_eq_true, false_and, and_false, ne_eq, ite_true, ite_false, Nat.reduceLeDiff, Nat.reduceEqDiff, Nat.reduceLT, Nat.reduceAdd, Nat.reduceMul, Nat.reduceSub, Nat.le_refl, eq_self, li_0, li_1, li_2, li_3, li_4, li_5, li_6, li_7, li_8, li_9, li_10, li_11, li_12, li_13, li_14, li_15, li_16, li_17, li_18, li_19, li_20, li_21, li_22, li_23, li_24, li_25, li_26, li_27, li_28, li_29, li_30, li_31, li_32, li_44, li_48, li_57, li_59, li_60, li_61, li_62, li_63, li_97, li_100, li_122, li_123, li_125, li_127, li_255, li_400, li_401, li_800, li_1023, li_1024, li_10827, i_add, i_mul, i_sub, i_p1, i_m1, i_nm, i_nm2, i_cl, i_cl0, vi_ok, i_lt, i_le, i_eq, lg_e, gI_s, gI_c, gI_p, gI_L, gI_R, gL_s, gL_c, gL_p, gL_I, gL_R, gR_s, gR_c, gR_p, gR_I, gR_L])⟩
      · have k1 : Fr PAq h (ax_setI (ax_setI h5 103 1 0) 103 2 (-1)) := (((((b.2.1.mono (R := PAq) (fun c p q => Or.inl q)).setI (Or.inr (Or.inl ⟨rfl, rfl⟩))).setI (Or.inr (Or.inr (Or.inl ⟨rfl, Or.inl rfl⟩)))).trans (f5.mono (R := PAq) (fun c p q => Or.inr (Or.inr (Or.inr q))))).setI (Or.inr (Or.inr (Or.inl ⟨rfl, Or.inr (Or.inl rfl)⟩)))).setI (Or.inr (Or.inr (Or.inl ⟨rfl, Or.inr (Or.inr rfl)⟩)))
        refine hI.2.2.2.2.2.1.fr k1 (fun c p q => ?_)
        rcases q with q | q | q | q
        · unfold PE at q; omega
        · omega
        · omega
        · have := PAp_no q; omega
      · show _ = _
        simp (disch := first | assumption | omega) only [true_and, and_true, forall_eq, true_implies, false_implies, implies_true, not_true_eq_false, not_false_eq_true, false_and, and_false, ne_eq, ite_true, ite_false, Nat.reduceLeDiff, Nat.reduceEqDiff, Nat.reduceLT, Nat.reduceAdd, Nat.reduceMul, Nat.reduceSub, Nat.le_refl, eq_self, li_0, li_1, li_2, li_3, li_4, li_5, li_6, li_7, li_8, li_9, li_10, li_11, li_12, li_13, li_14, li_15, li_16, li_17, li_18, li_19, li_20, li_21, li_22, li_23, li_24, li_25, li_26, li_27, li_28, li_29, li_30, li_31, li_32, li_44, li_48, li_57, li_59, li_60, li_61, li_62, li_63, li_97, li_100, li_122, li_123, li_125, li_127, li_255, li_400, li_401, li_800, li_1023, li_1024, li_10827, i_add, i_mul, i_sub, i_p1, i_m1, i_nm, i_nm2, i_cl, i_cl0, vi_ok, i_lt, i_le, i_eq, lg_e, gI_s, gI_c, gI_p, gI_L, gI_R, gL_s, gL_c, gL_p, gL_I, gL_R, gR_s, gR_c, gR_p, gR_I, gR_L]
        rw [v5, (f5 94 0 (fun q => by have := PAp_no q; omega)).1, gI_c (by omega), gI_c (by omega)]
        exact p3
      · rw [gI_c (by omega), gI_c (by omega), (f5 1 12 (fun q => by have := PAp_no q; omega)).1, gI_c (by omega), gI_s]
    · rcases z with z | z | z | z
      · omega
      · omega
      · omega
      · omega
  by_cases e2 : e = 2
  · obtain ⟨p1, p3⟩ := pe.2.2.2.1 e2
    refine ⟨fun z => absurd z p1, fun _ => k_X9_refused ?_⟩
    refine model _ e J _ r1.setI (f1.setI (Or.inr (Or.inr (Or.inr (Or.inr (Or.inl ⟨rfl, Or.inr rfl⟩)))))) pe.1 (fun z => absurd z e0) (fun _ h5 r5 f5 v5 => ?_) (fun u x2 B z => ?_)
    · have g5 : Fr PApx h h5 := ((f1.setI (Or.inr (Or.inr (Or.inr (Or.inr (Or.inl ⟨rfl, Or.inr rfl⟩)))))).setI (Or.inr (Or.inr (Or.inr (Or.inr (Or.inr ⟨rfl, Or.inl rfl⟩)))))).trans (f5.mono (fun c p q => Or.inr (Or.inl q)))
      refine k_X12_refused ⟨rfl, ap_end hI ((g5.setI (Or.inr (Or.inr (Or.inr (Or.inr (Or.inr ⟨rfl, Or.inr (Or.inl rfl)⟩)))))).setI (Or.inr (Or.inr (Or.inr (Or.inr (Or.inr ⟨rfl, Or.inr (Or.inr (Or.inl rfl))⟩)))))) r5.setI.setI ?_ ?_ 5 (by decide) ?_ (by simp (disch := first | assumption | omega) only [true_and, and_true, forall_eq, true_implies, false_implies, implies_true, not_true_eq_false, not_false_eq_true, false_and, and_false, ne_eq, ite_true, ite_false, Nat.reduceLeDiff, Nat.reduceEqDiff, Nat.reduceLT, Nat.reduceAdd, Nat.reduceMul, Nat.reduceSub, Nat.le_refl, eq_self, li_0, li_1, li_2, li_3, li_4, li_5, li_6, li_7, li_8, li_9, li_10, li_11, li_12, li_13, li_14, li_15, li_16, li_17, li_18, li_19, li_20, li_21, li_22, li_23, li_24, li_25, li_26, li_27, li_28, li_29, li_30, li_31, li_32, li_44, li_48, li_57, li_59, li_60, li_61, li_62, li_63, li_97, li_100, li_122, li_123, li_125, li_127, li_255, li_400, li_401, li_800, li_1023, li_1024, li_10827, i_add, i_mul, i_sub, i_p1, i_m1, i_nm, i_nm2, i_cl, i_cl0, vi_ok, i_lt, i_le, i_eq, lg_e, gI_s, gI_c, gI_p, gI_L, gI_R, gL_s, gL_c, gL_p, gL_I, gL_R, gR_s, gR_c, gR_p, gR_I, gR_L]) (by simp (disch := first | assumption | omega) only [true_and, and_true, forall_eq, true_implies, false_implies, implies_true, not_true_eq_false, not_false_eq_true, false_and, and_false, ne_eq, ite_true, ite_false, Nat.reduceLeDiff, Nat.reduceEqDiff, Nat.reduceLT, Nat.reduceAdd, Nat.reduceMul, Nat.reduceSub, Nat.le_refl, eq_self, li_0, li_1, li_2, li_3, li_4, li_5, li_6, li_7, li_8, li_9, li_10, li_11, li_12, li_13, li_14, li_15, li_16, li_17, li_18, li_19, li_20, li_21, li_22, li_23, li_24, li_25, li_26, li_27, li_28, li_29, li_30, li_31, li_32, li_44, li_48, li_57, li_59, li_60, li_61, li_62, li_63, li_97, li_100, li_122, li_123, li_125, li_127, li_255, li_400, li_401, li_800, li_1023, li_1024, li_10827, i_add, i_mul, i_sub, i_p1, i_m1, i_nm, i_nm2, i_cl, i_cl0, vi_ok, i_lt, i_le, i_eq, lg_e, gI_s, gI_c, gI_p, gI_L, gI_R, gL_s, gL_c, gL_p, gL_I, gL_R, gR_s, gR_c, gR_p, gR_I, gR_L])⟩
      · have k1 : Fr PAq h (ax_setI (ax_setI h5 103 1 5) 103 2 (-1)) := (((((b.2.1.mono (R := PAq) (fun c p q => Or.inl q)).setI (Or.inr (Or.inl ⟨rfl, rfl⟩))).setI (Or.inr (Or.inr (Or.inl ⟨rfl, Or.inl rfl⟩)))).trans (f5.mono (R := PAq) (fun c p q => Or.inr (Or.inr (Or.inr q))))).setI (Or.inr (Or.inr (Or.inl ⟨rfl, Or.inr (Or.inl rfl)⟩)))).setI (Or.inr (Or.inr (Or.inl ⟨rfl, Or.inr (Or.inr rfl)⟩)))
        refine hI.2.2.2.2.2.1.fr k1 (fun c p q => ?_)
        rcases q with q | q | q | q
        · unfold PE at q; omega
        · omega
        · omega
        · have := PAp_no q; omega
      · show _ = _
        simp (disch := first | assumption | omega) only [true_and, and_true, forall_eq, true_implies, false_implies, implies_true, not_true_eq_false, not_false_eq_true, false_and, and_false, ne_eq, ite_true, ite_false, Nat.reduceLeDiff, Nat.reduceEqDiff, Nat.reduceLT, Nat.reduceAdd, Nat.reduceMul, Nat.reduceSub, Nat.le_refl, eq_self, li_0, li_1, li_2, li_3, li_4, li_5, li_6, li_7, li_8, li_9, li_10, li_11, li_12, li_13, li_14, li_15, li_16, li_17, li_18, li_19, li_20, li_21, li_22, li_23, li_24, li_25, li_26, li_27, li_28, li_29, li_30, li_31, li_32, li_44, li_48, li_57, li_59, li_60, li_61, li_62, li_63, li_97, li_100, li_122, li_123, li_125, li_127, li_255, li_400, li_401, li_800, li_1023, li_1024, li_10827, i_add, i_mul, i_sub, i_p1, i_m1, i_nm, i_nm2, i_cl, i_cl0, vi_ok, i_lt, i_le, i_eq, lg_e, gI_s, gI_c, gI_p, gI_L, gI_R, gL_s, gL_c, gL_p, gL_I, gL_R, gR_s, gR_c, gR_p, gR_I, gR_L]
        rw [v5, (f5 94 0 (fun q => by have := PAp_no q; omega)).1, gI_c (by omega), gI_c (by omega)]
        exact p3
      · rw [gI_c (by omega), gI_c (by omega), (f5 1 12 (fun q => by have := PAp_no q; omega)).1, gI_c (by omega), gI_s]
        rfl
    · rcases z with z | z | z | z
      · omega
      · omega
      · omega
      · omega
  obtain ⟨u, x2, B, fe, lw, hu, hx2⟩ := fend hD hE pe.1 e0 e2
  obtain ⟨v3, v4, v5, cp⟩ := fend_C pe fe
  have un : ∀ u2 y2 B2, FEnd (D 0) (D 1) e J u2 y2 B2 → u2 = u ∧ y2 = x2 ∧ B2 = B := by
    intro u2 y2 B2 z
    rcases fe with ⟨a0, a1, a2, a3⟩ | ⟨a0, a1, a2, a3⟩ | ⟨a0, a1, a2, a3⟩ | ⟨a0, a1, a2, a3⟩ <;> rcases z with ⟨d0, d1, d2, d3⟩ | ⟨d0, d1, d2, d3⟩ | ⟨d0, d1, d2, d3⟩ | ⟨d0, d1, d2, d3⟩
    all_goals first | exact ⟨d1.trans a1.symm, d2.trans a2.symm, d3.trans a3.symm⟩ | exact absurd (a0.symm.trans d0) (by decide)
  have dp := lw.deep u hu
  have h400 := lw.2.1
  rw [v3, v4]
  refine ⟨fun _ => ⟨is_93, fun _ => ?_, fun z => absurd z (i_ne (by omega))⟩, fun z => absurd rfl z⟩
  rw [rf_1_8 r1]
  refine ⟨is_93, is_101, ?_⟩
  refine c_X2_rowInto (s_X2_rowInto_0 ?_)
  rw [v4, rf_93_2 r1]
  refine ⟨is_93, fun _ => ⟨is_94, is_101, ?_⟩, fun z => absurd z (i_ne (by omega))⟩
  refine k_traced r1 (Or.inr (Or.inr rfl)) h400 hu lw.2.2.2 lw.2.2.1 (by omega) (fun j hj => ⟨fun j0 => ?_, ?_⟩) (fun h2 r2 f2 w2 => ?_)
  · have q := cp.2 j hj
    rw [if_neg (by omega), if_neg (by omega)] at q
    exact ⟨q.1, q.2.1⟩
  · exact (cp.2 j hj).2.2
  have v52 : h2.1 93 5 = x2 := by rw [(f2 93 5 (by omega)).1]; exact v5
  rw [v52]
  have f2X : Fr PApx h h2 := f1.trans (f2.mono (fun c p q => Or.inr (Or.inr (Or.inl q))))
  have e94 : h2.1 94 0 = Int32.ofNat B.1 := by rw [(f2 94 0 (by omega)).1]; exact cp.1.1
  have wlt : ∀ k, k < B.2.2.2.2.2 u → wayTo B.2.2.2.1 B.2.2.2.2.1 B.2.2.2.2.2 u k < 27 := by
    intro k hk
    have q := back_ok lw.2.2.2 lw.2.2.1 hu (B.2.2.2.2.2 u - 1 - k) (by omega)
    exact (lw.2.2.2 _ q.1 (q.2.2 (by omega))).2.1
  -- the two rows are one
  have fin : ∀ (h3 : AH) (n : Nat) (A : Nat → Nat), n ≤ 400 → Refs h3 → Fr PApx h h3 → h3.1 94 0 = Int32.ofNat B.1 → (∀ k, k < n → A k < 1000 ∧ h3.1 101 k = Int32.ofNat (A k)) → (x2 = -1 → n = B.2.2.2.2.2 u) → (¬ x2 = -1 → n = B.2.2.2.2.2 u + 1 ∧ x2 = Int32.ofNat (A (B.2.2.2.2.2 u))) → (∀ k, k < B.2.2.2.2.2 u → A k = wayTo B.2.2.2.1 B.2.2.2.2.1 B.2.2.2.2.2 u k) → C_X9_granted l g (ax_setI h3 1 9 (Int32.ofNat n)) 1 (Int32.ofNat n) (fun r h1 => C_X12_apart l g h1 103 (fun r2 h2 => r2 = r ∧ Inv h2)) := by
    intro h3 n A hn r3 f3 p94 vA m1 m2 wA
    refine k_X9_granted ?_
    have g4 : Fr PApx h (ax_setI (ax_setI h3 1 9 (Int32.ofNat n)) 1 12 0) := (f3.setI (Or.inr (Or.inr (Or.inr (Or.inr (Or.inl ⟨rfl, Or.inl rfl⟩)))))).setI (Or.inr (Or.inr (Or.inr (Or.inr (Or.inl ⟨rfl, Or.inr rfl⟩)))))
    refine model _ e J _ r3.setI.setI g4 pe.1 (fun z => absurd z e0) (fun z => absurd z e2) (fun u2 y2 B2 z h5 r5 f5 mp => ?_)
    obtain ⟨rfl, rfl, rfl⟩ := un u2 y2 B2 z
    have g5 : Fr PApx h h5 := (g4.setI (Or.inr (Or.inr (Or.inr (Or.inr (Or.inr ⟨rfl, Or.inl rfl⟩)))))).trans (f5.mono (fun c p q => Or.inr (Or.inl q)))
    have s19 : h5.1 1 9 = Int32.ofNat n := by rw [(f5 1 9 (fun q => by have := PAp_no q; omega)).1, gI_c (by omega)]; simp (disch := first | assumption | omega) only [true_and, and_true, forall_eq, true_implies, false_implies, implies_true, not_true_eq_false, not_false_eq_true, false_and, and_false, ne_eq, ite_true, ite_false, Nat.reduceLeDiff, Nat.reduceEqDiff, Nat.reduceLT, Nat.reduceAdd, Nat.reduceMul, Nat.reduceSub, Nat.le_refl, eq_self, li_0, li_1, li_2, li_3, li_4, li_5, li_6, li_7, li_8, li_9, li_10, li_11, li_12, li_13, li_14, li_15, li_16, li_17, li_18, li_19, li_20, li_21, li_22, li_23, li_24, li_25, li_26, li_27, li_28, li_29, li_30, li_31, li_32, li_44, li_48, li_57, li_59, li_60, li_61, li_62, li_63, li_97, li_100, li_122, li_123, li_125, li_127, li_255, li_400, li_401, li_800, li_1023, li_1024, li_10827, i_add, i_mul, i_sub, i_p1, i_m1, i_nm, i_nm2, i_cl, i_cl0, vi_ok, i_lt, i_le, i_eq, lg_e, gI_s, gI_c, gI_p, gI_L, gI_R, gL_s, gL_c, gL_p, gL_I, gL_R, gR_s, gR_c, gR_p, gR_I, gR_L]
    have s112 : h5.1 1 12 = 0 := by rw [(f5 1 12 (fun q => by have := PAp_no q; omega)).1, gI_c (by omega), gI_s]
    have s101 : ∀ k, k < n → h5.1 101 k = Int32.ofNat (A k) := fun k hk => by rw [(f5 101 k (fun q => by have := PAp_no q; omega)).1, gI_c (by omega), gI_c (by omega), gI_c (by omega)]; exact (vA k hk).2
    have s94 : h5.1 94 0 = Int32.ofNat B2.1 := by rw [(f5 94 0 (fun q => by have := PAp_no q; omega)).1, gI_c (by omega), gI_c (by omega), gI_c (by omega)]; exact p94
    refine k_rowOf (D := D 0) (E := D 1) r5 mp lw hu (by omega) (fun h6 r6 f6 w6 => ?_)
    have g6 : Fr PApx h (ax_setI (ax_setI h6 103 1 0) 103 2 (-1)) := ((g5.trans (f6.mono (fun c p q => by
      rcases q with q | q
      · exact Or.inr (Or.inr (Or.inr (Or.inl q)))
      · exact Or.inr (Or.inr (Or.inr (Or.inr (Or.inr ⟨q.1, Or.inr (Or.inr (Or.inr q.2))⟩))))))).setI (Or.inr (Or.inr (Or.inr (Or.inr (Or.inr ⟨rfl, Or.inr (Or.inl rfl)⟩)))))).setI (Or.inr (Or.inr (Or.inr (Or.inr (Or.inr ⟨rfl, Or.inr (Or.inr (Or.inl rfl))⟩)))))
    have out : h6.1 103 40 = Int32.ofNat n → (∀ k, k < n → h6.1 145 k = Int32.ofNat (A k)) → Inv (ax_setI (ax_setI h6 103 1 0) 103 2 (-1)) := by
      intro y1 y2
      refine ap_end hI g6 r6.setI.setI ⟨n, A, hn, ?_, ?_, fun k hk => ⟨(vA k hk).1, ?_, ?_⟩⟩ ?_ 0 (by decide) ?_ (by simp (disch := first | assumption | omega) only [true_and, and_true, forall_eq, true_implies, false_implies, implies_true, not_true_eq_false, not_false_eq_true, false_and, and_false, ne_eq, ite_true, ite_false, Nat.reduceLeDiff, Nat.reduceEqDiff, Nat.reduceLT, Nat.reduceAdd, Nat.reduceMul, Nat.reduceSub, Nat.le_refl, eq_self, li_0, li_1, li_2, li_3, li_4, li_5, li_6, li_7, li_8, li_9, li_10, li_11, li_12, li_13, li_14, li_15, li_16, li_17, li_18, li_19, li_20, li_21, li_22, li_23, li_24, li_25, li_26, li_27, li_28, li_29, li_30, li_31, li_32, li_44, li_48, li_57, li_59, li_60, li_61, li_62, li_63, li_97, li_100, li_122, li_123, li_125, li_127, li_255, li_400, li_401, li_800, li_1023, li_1024, li_10827, i_add, i_mul, i_sub, i_p1, i_m1, i_nm, i_nm2, i_cl, i_cl0, vi_ok, i_lt, i_le, i_eq, lg_e, gI_s, gI_c, gI_p, gI_L, gI_R, gL_s, gL_c, gL_p, gL_I, gL_R, gR_s, gR_c, gR_p, gR_I, gR_L]) (by simp (disch := first | assumption | omega) only [true_and, and_true, forall_eq, true_implies, false_implies, implies_true, not_true_eq_false, not_false_eq_true, false_and, and_false, ne_eq, ite_true, ite_false, Nat.reduceLeDiff, Nat.reduceEqDiff, Nat.reduceLT, Nat.reduceAdd, Nat.reduceMul, Nat.reduceSub, Nat.le_refl, eq_self, li_0, li_1, li_2, li_3, li_4, li_5, li_6, li_7, li_8, li_9, li_10, li_11, li_12, li_13, li_14, li_15, li_16, li_17, li_18, li_19, li_20, li_21, li_22, li_23, li_24, li_25, li_26, li_27, li_28, li_29, li_30, li_31, li_32, li_44, li_48, li_57, li_59, li_60, li_61, li_62, li_63, li_97, li_100, li_122, li_123, li_125, li_127, li_255, li_400, li_401, li_800, li_1023, li_1024, li_10827, i_add, i_mul, i_sub, i_p1, i_m1, i_nm, i_nm2, i_cl, i_cl0, vi_ok, i_lt, i_le, i_eq, lg_e, gI_s, gI_c, gI_p, gI_L, gI_R, gL_s, gL_c, gL_p, gL_I, gL_R, gR_s, gR_c, gR_p, gR_I, gR_L])
      · simp (disch := first | assumption | omega) only [true_and, and_true, forall_eq, true_implies, false_implies, implies_true, not_true_eq_false, not_false_eq_true, false_and, and_false, ne_eq, ite_true, ite_false, Nat.reduceLeDiff, Nat.reduceEqDiff, Nat.reduceLT, Nat.reduceAdd, Nat.reduceMul, Nat.reduceSub, Nat.le_refl, eq_self, li_0, li_1, li_2, li_3, li_4, li_5, li_6, li_7, li_8, li_9, li_10, li_11, li_12, li_13, li_14, li_15, li_16, li_17, li_18, li_19, li_20, li_21, li_22, li_23, li_24, li_25, li_26, li_27, li_28, li_29, li_30, li_31, li_32, li_44, li_48, li_57, li_59, li_60, li_61, li_62, li_63, li_97, li_100, li_122, li_123, li_125, li_127, li_255, li_400, li_401, li_800, li_1023, li_1024, li_10827, i_add, i_mul, i_sub, i_p1, i_m1, i_nm, i_nm2, i_cl, i_cl0, vi_ok, i_lt, i_le, i_eq, lg_e, gI_s, gI_c, gI_p, gI_L, gI_R, gL_s, gL_c, gL_p, gL_I, gL_R, gR_s, gR_c, gR_p, gR_I, gR_L]; rw [(f6 1 9 (by omega)).1]; exact s19
      · simp (disch := first | assumption | omega) only [true_and, and_true, forall_eq, true_implies, false_implies, implies_true, not_true_eq_false, not_false_eq_true, false_and, and_false, ne_eq, ite_true, ite_false, Nat.reduceLeDiff, Nat.reduceEqDiff, Nat.reduceLT, Nat.reduceAdd, Nat.reduceMul, Nat.reduceSub, Nat.le_refl, eq_self, li_0, li_1, li_2, li_3, li_4, li_5, li_6, li_7, li_8, li_9, li_10, li_11, li_12, li_13, li_14, li_15, li_16, li_17, li_18, li_19, li_20, li_21, li_22, li_23, li_24, li_25, li_26, li_27, li_28, li_29, li_30, li_31, li_32, li_44, li_48, li_57, li_59, li_60, li_61, li_62, li_63, li_97, li_100, li_122, li_123, li_125, li_127, li_255, li_400, li_401, li_800, li_1023, li_1024, li_10827, i_add, i_mul, i_sub, i_p1, i_m1, i_nm, i_nm2, i_cl, i_cl0, vi_ok, i_lt, i_le, i_eq, lg_e, gI_s, gI_c, gI_p, gI_L, gI_R, gL_s, gL_c, gL_p, gL_I, gL_R, gR_s, gR_c, gR_p, gR_I, gR_L]; exact y1
      · simp (disch := first | assumption | omega) only [true_and, and_true, forall_eq, true_implies, false_implies, implies_true, not_true_eq_false, not_false_eq_true, false_and, and_false, ne_eq, ite_true, ite_false, Nat.reduceLeDiff, Nat.reduceEqDiff, Nat.reduceLT, Nat.reduceAdd, Nat.reduceMul, Nat.reduceSub, Nat.le_refl, eq_self, li_0, li_1, li_2, li_3, li_4, li_5, li_6, li_7, li_8, li_9, li_10, li_11, li_12, li_13, li_14, li_15, li_16, li_17, li_18, li_19, li_20, li_21, li_22, li_23, li_24, li_25, li_26, li_27, li_28, li_29, li_30, li_31, li_32, li_44, li_48, li_57, li_59, li_60, li_61, li_62, li_63, li_97, li_100, li_122, li_123, li_125, li_127, li_255, li_400, li_401, li_800, li_1023, li_1024, li_10827, i_add, i_mul, i_sub, i_p1, i_m1, i_nm, i_nm2, i_cl, i_cl0, vi_ok, i_lt, i_le, i_eq, lg_e, gI_s, gI_c, gI_p, gI_L, gI_R, gL_s, gL_c, gL_p, gL_I, gL_R, gR_s, gR_c, gR_p, gR_I, gR_L]; rw [(f6 101 k (by omega)).1]; exact s101 k hk
      · simp (disch := first | assumption | omega) only [true_and, and_true, forall_eq, true_implies, false_implies, implies_true, not_true_eq_false, not_false_eq_true, false_and, and_false, ne_eq, ite_true, ite_false, Nat.reduceLeDiff, Nat.reduceEqDiff, Nat.reduceLT, Nat.reduceAdd, Nat.reduceMul, Nat.reduceSub, Nat.le_refl, eq_self, li_0, li_1, li_2, li_3, li_4, li_5, li_6, li_7, li_8, li_9, li_10, li_11, li_12, li_13, li_14, li_15, li_16, li_17, li_18, li_19, li_20, li_21, li_22, li_23, li_24, li_25, li_26, li_27, li_28, li_29, li_30, li_31, li_32, li_44, li_48, li_57, li_59, li_60, li_61, li_62, li_63, li_97, li_100, li_122, li_123, li_125, li_127, li_255, li_400, li_401, li_800, li_1023, li_1024, li_10827, i_add, i_mul, i_sub, i_p1, i_m1, i_nm, i_nm2, i_cl, i_cl0, vi_ok, i_lt, i_le, i_eq, lg_e, gI_s, gI_c, gI_p, gI_L, gI_R, gL_s, gL_c, gL_p, gL_I, gL_R, gR_s, gR_c, gR_p, gR_I, gR_L]; exact y2 k hk
      · show _ = _
        simp (disch := first | assumption | omega) only [true_and, and_true, forall_eq, true_implies, false_implies, implies_true, not_true_eq_false, not_false_eq_true, false_and, and_false, ne_eq, ite_true, ite_false, Nat.reduceLeDiff, Nat.reduceEqDiff, Nat.reduceLT, Nat.reduceAdd, Nat.reduceMul, Nat.reduceSub, Nat.le_refl, eq_self, li_0, li_1, li_2, li_3, li_4, li_5, li_6, li_7, li_8, li_9, li_10, li_11, li_12, li_13, li_14, li_15, li_16, li_17, li_18, li_19, li_20, li_21, li_22, li_23, li_24, li_25, li_26, li_27, li_28, li_29, li_30, li_31, li_32, li_44, li_48, li_57, li_59, li_60, li_61, li_62, li_63, li_97, li_100, li_122, li_123, li_125, li_127, li_255, li_400, li_401, li_800, li_1023, li_1024, li_10827, i_add, i_mul, i_sub, i_p1, i_m1, i_nm, i_nm2, i_cl, i_cl0, vi_ok, i_lt, i_le, i_eq, lg_e, gI_s, gI_c, gI_p, gI_L, gI_R, gL_s, gL_c, gL_p, gL_I, gL_R, gR_s, gR_c, gR_p, gR_I, gR_L]
        rw [(f6 94 0 (by omega)).1, (f6 103 43 (by omega)).1, s94, mp.1]
      · simp (disch := first | assumption | omega) only [true_and, and_true, forall_eq, true_implies, false_implies, implies_true, not_true_eq_false, not_false_eq_true, false_and, and_false, ne_eq, ite_true, ite_false, Nat.reduceLeDiff, Nat.reduceEqDiff, Nat.reduceLT, Nat.reduceAdd, Nat.reduceMul, Nat.reduceSub, Nat.le_refl, eq_self, li_0, li_1, li_2, li_3, li_4, li_5, li_6, li_7, li_8, li_9, li_10, li_11, li_12, li_13, li_14, li_15, li_16, li_17, li_18, li_19, li_20, li_21, li_22, li_23, li_24, li_25, li_26, li_27, li_28, li_29, li_30, li_31, li_32, li_44, li_48, li_57, li_59, li_60, li_61, li_62, li_63, li_97, li_100, li_122, li_123, li_125, li_127, li_255, li_400, li_401, li_800, li_1023, li_1024, li_10827, i_add, i_mul, i_sub, i_p1, i_m1, i_nm, i_nm2, i_cl, i_cl0, vi_ok, i_lt, i_le, i_eq, lg_e, gI_s, gI_c, gI_p, gI_L, gI_R, gL_s, gL_c, gL_p, gL_I, gL_R, gR_s, gR_c, gR_p, gR_I, gR_L]; rw [(f6 1 12 (by omega)).1]; exact s112
    refine ⟨fun z1 z2 => ?_, fun z1 z2 z3 => ?_⟩
    · have en := m1 z1
      refine ⟨by rw [en], out (by rw [en]; exact z2) (fun k hk => ?_)⟩
      rw [wA k (by omega)]; exact w6 k (by omega)
    · obtain ⟨en, ea⟩ := m2 z1
      refine ⟨by rw [en], out (by rw [en]; exact z2) (fun k hk => ?_)⟩
      by_cases c : k < B2.2.2.2.2.2 u2
      · rw [wA k c]; exact w6 k c
      · have : k = B2.2.2.2.2.2 u2 := by omega
        rw [this, z3, ea]
  refine ⟨fun z => ?_, fun z => ?_⟩
  · rw [gI_s]
    exact fin h2 _ (wayTo B.2.2.2.1 B.2.2.2.2.1 B.2.2.2.2.2 u) (by omega) r2 f2X e94 (fun k hk => ⟨by have := wlt k hk; omega, w2 k hk⟩) (fun _ => rfl) (fun y => absurd z y) (fun k hk => rfl)
  · obtain ⟨a, ha, ea⟩ : ∃ a, a < 1000 ∧ x2 = Int32.ofNat a := by
      rcases hx2 with y | y
      · exact absurd y z
      · exact y
    rw [sz_101]
    refine ⟨fun _ => ⟨vi_ok (by omega) (by omega), ?_⟩, fun y => absurd ((i_lt (by omega) (by omega)).2 (by omega)) y⟩
    intro h11 e11
    rw [i_cl (by omega)] at e11
    rw [gI_s, i_p1]
    refine fin h11 _ (fun k => if k < B.2.2.2.2.2 u then wayTo B.2.2.2.1 B.2.2.2.2.1 B.2.2.2.2.2 u k else a) (by omega) (by rw [e11]; exact r2.setI) (by rw [e11]; exact f2X.setI (Or.inr (Or.inr (Or.inl rfl)))) (by rw [e11, gI_c (by omega)]; exact e94) (fun k hk => ?_) (fun y => absurd y z) (fun _ => ⟨rfl, by rw [if_neg (Nat.lt_irrefl _)]; exact ea⟩) (fun k hk => if_pos hk)
    by_cases c : k < B.2.2.2.2.2 u
    · rw [if_pos c, e11, gI_I, if_neg (by omega)]
      exact ⟨by have := wlt k c; omega, w2 k c⟩
    · have : k = B.2.2.2.2.2 u := by omega
      rw [if_neg c, e11, this, gI_s]
      exact ⟨ha, ea⟩
