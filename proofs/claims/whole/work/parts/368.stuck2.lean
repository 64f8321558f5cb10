theorem SCR_144 (p : Nat) : SCR 144 p := by unfold SCR; omega
theorem SCR_map {c p : Nat} (h : SCR c p) : ¬ PMAP c p := PQ_map (Or.inl h)
theorem SCR_92 (p : Nat) : SCR 92 p := by unfold SCR; omega
theorem k_stuckM {l : Launch} {g : AG} {h0 : AH} {D : AD} {n w : Nat} {ST : Nat → AS} {FR BY DP LD : Nat → Nat} {K : Nat} {KD : Nat → Nat} {Q : Int32 → AH → Prop} (hr0 : Refs h0) (hw8 : w < 8) (m0 : MapI h0 D n ST FR BY DP LD K KD) (hq : ∀ h', Refs h' → Fr SCR h0 h' → Q (firstI (fun s => ¬ reach D n ST LD (topIs ST w) s) n) (ax_setI (ax_setI h' 103 1 0) 103 2 (-1))) : L_X12_stuck_48 l g h0 103 (Int32.ofNat w) (Int32.ofNat 0) Q := by
  have hn := m0.1.2.1
  have hL : ∀ s a, s < n → a < 27 → possD D (ST s) a → LD (27 * s + a) < n := fun s a hs ha p => ((mapC_lead m0 hs ha).1 p).1
  have fin : ∀ h, Refs h → Fr SCR h0 h → (∀ s, s < n → h.1 144 s = Int32.ofNat (bI (reach D n ST LD (topIs ST w) s))) → ∀ d i, i + d = n → (∀ j, j < i → ¬ ¬ reach D n ST LD (topIs ST w) j) → L_X12_stuck_213 l g h 103 (Int32.ofNat i) Q := by
    intro h hr hf hG d
    have m : MapI h D n ST FR BY DP LD K KD := m0.fr hf (fun _ _ => SCR_map)
    have e25 := m.2.2.2.2.1.1
    induction d with
    | zero =>
      intro i hi hl
      refine s_X12_stuck_213 ?_
      simp (disch := first | assumption | omega) only [true_and, and_true, forall_eq, true_implies, false_implies, implies_true, not_true_eq_false, not_false_eq_true, false_and, and_false, ne_eq, ite_true, ite_false, Nat.reduceLeDiff, Nat.reduceEqDiff, Nat.reduceLT, Nat.reduceAdd, Nat.reduceMul, Nat.reduceSub, Nat.le_refl, eq_self, li_0, li_1, li_2, li_3, li_4, li_5, li_6, li_7, li_8, li_9, li_10, li_11, li_12, li_13, li_14, li_15, li_16, li_17, li_18, li_19, li_20, li_21, li_22, li_23, li_24, li_25, li_26, li_27, li_28, li_29, li_30, li_31, li_32, li_44, li_48, li_57, li_59, li_60, li_61, li_62, li_63, li_97, li_100, li_122, li_123, li_125, li_127, li_255, li_400, li_401, li_800, li_1023, li_1024, li_10827, i_add, i_mul, i_sub, i_p1, i_m1, i_nm, i_nm2, i_cl, i_cl0, vi_ok, i_lt, i_le, i_eq, lg_e, is_103, e25, show n ≤ i by omega]
      refine s_X12_stuck_236 ?_
      simp (disch := first | assumption | omega) only [true_and, and_true, forall_eq, true_implies, false_implies, implies_true, not_true_eq_false, not_false_eq_true, false_and, and_false, ne_eq, ite_true, ite_false, Nat.reduceLeDiff, Nat.reduceEqDiff, Nat.reduceLT, Nat.reduceAdd, Nat.reduceMul, Nat.reduceSub, Nat.le_refl, eq_self, li_0, li_1, li_2, li_3, li_4, li_5, li_6, li_7, li_8, li_9, li_10, li_11, li_12, li_13, li_14, li_15, li_16, li_17, li_18, li_19, li_20, li_21, li_22, li_23, li_24, li_25, li_26, li_27, li_28, li_29, li_30, li_31, li_32, li_44, li_48, li_57, li_59, li_60, li_61, li_62, li_63, li_97, li_100, li_122, li_123, li_125, li_127, li_255, li_400, li_401, li_800, li_1023, li_1024, li_10827, i_add, i_mul, i_sub, i_p1, i_m1, i_nm, i_nm2, i_cl, i_cl0, vi_ok, i_lt, i_le, i_eq, lg_e, is_103, e25, show n ≤ i by omega]
      have := hq h hr hf
      rw [firstI_none (fun j hj => hl j (by omega))] at this
      exact k_X12_done this
    | succ d ih =>
      intro i hi hl
      refine s_X12_stuck_213 ?_
      simp (disch := first | assumption | omega) only [true_and, and_true, forall_eq, true_implies, false_implies, implies_true, not_true_eq_false, not_false_eq_true, false_and, and_false, ne_eq, ite_true, ite_false, Nat.reduceLeDiff, Nat.reduceEqDiff, Nat.reduceLT, Nat.reduceAdd, Nat.reduceMul, Nat.reduceSub, Nat.le_refl, eq_self, li_0, li_1, li_2, li_3, li_4, li_5, li_6, li_7, li_8, li_9, li_10, li_11, li_12, li_13, li_14, li_15, li_16, li_17, li_18, li_19, li_20, li_21, li_22, li_23, li_24, li_25, li_26, li_27, li_28, li_29, li_30, li_31, li_32, li_44, li_48, li_57, li_59, li_60, li_61, li_62, li_63, li_97, li_100, li_122, li_123, li_125, li_127, li_255, li_400, li_401, li_800, li_1023, li_1024, li_10827, i_add, i_mul, i_sub, i_p1, i_m1, i_nm, i_nm2, i_cl, i_cl0, vi_ok, i_lt, i_le, i_eq, lg_e, rf_103_4, rf_103_6, rf_103_7, rf_103_8, rf_103_9, rf_103_10, rf_103_21, rf_103_22, rf_103_23, rf_103_26, rf_103_27, rf_103_28, rf_103_29, rf_103_30, rf_103_31, rf_103_32, rf_103_33, rf_103_34, rf_103_35, rf_103_37, rf_103_38, rf_103_39, rf_103_44, rf_103_45, rf_103_46, rf_103_47, rf_103_48, rf_103_49, rf_103_54, rf_103_55, is_103, is_104, sz_104, is_125, sz_125, is_126, sz_126, is_127, sz_127, is_128, sz_128, is_129, sz_129, is_130, sz_130, is_131, sz_131, is_132, sz_132, is_133, sz_133, is_134, sz_134, is_135, sz_135, is_136, sz_136, is_137, sz_137, is_138, sz_138, is_139, sz_139, is_140, sz_140, is_141, sz_141, is_142, sz_142, is_143, sz_143, is_144, sz_144, is_145, sz_145, is_146, sz_146, is_147, sz_147, is_148, sz_148, is_149, sz_149, is_150, sz_150, is_151, sz_151, is_152, sz_152, is_153, sz_153, e25, show ¬ n ≤ i by omega, hG i (by omega), bI_ez]
      refine ⟨fun z => ?_, fun z => ih (i + 1) (by omega) (fun j hj => ?_)⟩
      · refine s_X12_stuck_236 ?_
        simp (disch := first | assumption | omega) only [true_and, and_true, forall_eq, true_implies, false_implies, implies_true, not_true_eq_false, not_false_eq_true, false_and, and_false, ne_eq, ite_true, ite_false, Nat.reduceLeDiff, Nat.reduceEqDiff, Nat.reduceLT, Nat.reduceAdd, Nat.reduceMul, Nat.reduceSub, Nat.le_refl, eq_self, li_0, li_1, li_2, li_3, li_4, li_5, li_6, li_7, li_8, li_9, li_10, li_11, li_12, li_13, li_14, li_15, li_16, li_17, li_18, li_19, li_20, li_21, li_22, li_23, li_24, li_25, li_26, li_27, li_28, li_29, li_30, li_31, li_32, li_44, li_48, li_57, li_59, li_60, li_61, li_62, li_63, li_97, li_100, li_122, li_123, li_125, li_127, li_255, li_400, li_401, li_800, li_1023, li_1024, li_10827, i_add, i_mul, i_sub, i_p1, i_m1, i_nm, i_nm2, i_cl, i_cl0, vi_ok, i_lt, i_le, i_eq, lg_e, is_103, e25, show ¬ n ≤ i by omega]
        have := hq h hr hf
        rw [firstI_hit (show i < n by omega) z hl] at this
        exact k_X12_done this
      · by_cases c : j = i
        · rw [c]; exact z
        · exact hl j (by omega)
  have pass : ∀ (G : Nat → Prop), (∀ h' G2 r, Refs h' → Fr SCR h0 h' → (∀ s, s < n → h'.1 144 s = Int32.ofNat (bI (G2 s))) → PassR D n ST LD G G2 r 0 → L_X12_stuck_113 l g h' 103 (Int32.ofNat r) Q) → ∀ d, d ≤ n → ∀ h G2 r, Refs h → Fr SCR h0 h → (∀ s, s < n → h.1 144 s = Int32.ofNat (bI (G2 s))) → PassR D n ST LD G G2 r d → L_X12_stuck_126 l g h 103 (Int32.ofNat r) (if d = 0 then -1 else Int32.ofNat (d - 1)) Q := by
    intro G hend d
    induction d with
    | zero =>
      intro hd h G2 r hr hf hG p
      exact s_X12_stuck_126 ⟨fun _ => hend h G2 r hr hf hG p, fun c => absurd (by decide) c⟩
    | succ d ih =>
      intro hd h G2 r hr hf hG p
      rw [if_neg (by omega), Nat.add_sub_cancel]
      refine s_X12_stuck_126 ⟨fun c => absurd c (i_nn (by omega)), fun _ => ?_⟩
      have m : MapI h D n ST FR BY DP LD K KD := m0.fr hf (fun _ _ => SCR_map)
      have leave : ∀ h G3 r3, Refs h → Fr SCR h0 h → (∀ s, s < n → h.1 144 s = Int32.ofNat (bI (G3 s))) → PassR D n ST LD G G3 r3 d → G3 d → ∀ a, a ≤ 26 → L_X12_stuck_133 l g h 103 (Int32.ofNat r3) (Int32.ofNat d) (Int32.ofNat a) Q := by
        intro h G3 r3 hr hf hG p hg a ha
        refine s_X12_stuck_133 ?_
        rw [i_dec]
        by_cases c : a = 26
        · simp (disch := first | assumption | omega) only [true_and, and_true, forall_eq, true_implies, false_implies, implies_true, not_true_eq_false, not_false_eq_true, false_and, and_false, ne_eq, ite_true, ite_false, Nat.reduceLeDiff, Nat.reduceEqDiff, Nat.reduceLT, Nat.reduceAdd, Nat.reduceMul, Nat.reduceSub, Nat.le_refl, eq_self, li_0, li_1, li_2, li_3, li_4, li_5, li_6, li_7, li_8, li_9, li_10, li_11, li_12, li_13, li_14, li_15, li_16, li_17, li_18, li_19, li_20, li_21, li_22, li_23, li_24, li_25, li_26, li_27, li_28, li_29, li_30, li_31, li_32, li_44, li_48, li_57, li_59, li_60, li_61, li_62, li_63, li_97, li_100, li_122, li_123, li_125, li_127, li_255, li_400, li_401, li_800, li_1023, li_1024, li_10827, i_add, i_mul, i_sub, i_p1, i_m1, i_nm, i_nm2, i_cl, i_cl0, vi_ok, i_lt, i_le, i_eq, lg_e, show 26 ≤ a by omega]
          exact ih (by omega) h G3 r3 hr hf hG p
        · simp (disch := first | assumption | omega) only [true_and, and_true, forall_eq, true_implies, false_implies, implies_true, not_true_eq_false, not_false_eq_true, false_and, and_false, ne_eq, ite_true, ite_false, Nat.reduceLeDiff, Nat.reduceEqDiff, Nat.reduceLT, Nat.reduceAdd, Nat.reduceMul, Nat.reduceSub, Nat.le_refl, eq_self, li_0, li_1, li_2, li_3, li_4, li_5, li_6, li_7, li_8, li_9, li_10, li_11, li_12, li_13, li_14, li_15, li_16, li_17, li_18, li_19, li_20, li_21, li_22, li_23, li_24, li_25, li_26, li_27, li_28, li_29, li_30, li_31, li_32, li_44, li_48, li_57, li_59, li_60, li_61, li_62, li_63, li_97, li_100, li_122, li_123, li_125, li_127, li_255, li_400, li_401, li_800, li_1023, li_1024, li_10827, i_add, i_mul, i_sub, i_p1, i_m1, i_nm, i_nm2, i_cl, i_cl0, vi_ok, i_lt, i_le, i_eq, lg_e, rf_103_4, rf_103_6, rf_103_7, rf_103_8, rf_103_9, rf_103_10, rf_103_21, rf_103_22, rf_103_23, rf_103_26, rf_103_27, rf_103_28, rf_103_29, rf_103_30, rf_103_31, rf_103_32, rf_103_33, rf_103_34, rf_103_35, rf_103_37, rf_103_38, rf_103_39, rf_103_44, rf_103_45, rf_103_46, rf_103_47, rf_103_48, rf_103_49, rf_103_54, rf_103_55, is_103, is_104, sz_104, is_125, sz_125, is_126, sz_126, is_127, sz_127, is_128, sz_128, is_129, sz_129, is_130, sz_130, is_131, sz_131, is_132, sz_132, is_133, sz_133, is_134, sz_134, is_135, sz_135, is_136, sz_136, is_137, sz_137, is_138, sz_138, is_139, sz_139, is_140, sz_140, is_141, sz_141, is_142, sz_142, is_143, sz_143, is_144, sz_144, is_145, sz_145, is_146, sz_146, is_147, sz_147, is_148, sz_148, is_149, sz_149, is_150, sz_150, is_151, sz_151, is_152, sz_152, is_153, sz_153, show ¬ 26 ≤ a by omega, hG d (by omega), bI_t hg]
          exact ih (by omega) h G3 r3 hr hf hG p
      by_cases hg : G2 d
      · exact leave h G2 r hr hf hG (pass_no hL (by omega) p (fun _ => hg)) hg 0 (by omega)
      · have acts : ∀ e a, a + e = 26 → (∀ b, b < a → ¬ (possD D (ST d) b ∧ G2 (LD (27 * d + b)))) → L_X12_stuck_133 l g h 103 (Int32.ofNat r) (Int32.ofNat d) (Int32.ofNat a) Q := by
          intro e
          induction e with
          | zero =>
            intro a ha hl
            refine s_X12_stuck_133 ?_
            rw [i_dec]
            simp (disch := first | assumption | omega) only [true_and, and_true, forall_eq, true_implies, false_implies, implies_true, not_true_eq_false, not_false_eq_true, false_and, and_false, ne_eq, ite_true, ite_false, Nat.reduceLeDiff, Nat.reduceEqDiff, Nat.reduceLT, Nat.reduceAdd, Nat.reduceMul, Nat.reduceSub, Nat.le_refl, eq_self, li_0, li_1, li_2, li_3, li_4, li_5, li_6, li_7, li_8, li_9, li_10, li_11, li_12, li_13, li_14, li_15, li_16, li_17, li_18, li_19, li_20, li_21, li_22, li_23, li_24, li_25, li_26, li_27, li_28, li_29, li_30, li_31, li_32, li_44, li_48, li_57, li_59, li_60, li_61, li_62, li_63, li_97, li_100, li_122, li_123, li_125, li_127, li_255, li_400, li_401, li_800, li_1023, li_1024, li_10827, i_add, i_mul, i_sub, i_p1, i_m1, i_nm, i_nm2, i_cl, i_cl0, vi_ok, i_lt, i_le, i_eq, lg_e, show 26 ≤ a by omega]
            exact ih (by omega) h G2 r hr hf hG (pass_no hL (by omega) p (fun ⟨b, b1, b2, b3⟩ => absurd ⟨b2, b3⟩ (hl b (by omega))))
          | succ e ih2 =>
            intro a ha hl
            have nx : ¬ (possD D (ST d) a ∧ G2 (LD (27 * d + a))) → L_X12_stuck_133 l g h 103 (Int32.ofNat r) (Int32.ofNat d) (Int32.ofNat (a + 1)) Q := by
              intro z
              refine ih2 (a + 1) (by omega) (fun b hb => ?_)
              by_cases c : b = a
              · rw [c]; exact z
              · exact hl b (by omega)
            have q := mapC_lead m (show d < n by omega) (show a < 27 by omega)
            refine s_X12_stuck_133 ?_
            by_cases pp : possD D (ST d) a
            · have q := q.1 pp
              simp (disch := first | assumption | omega) only [true_and, and_true, forall_eq, true_implies, false_implies, implies_true, not_true_eq_false, not_false_eq_true, false_and, and_false, ne_eq, ite_true, ite_false, Nat.reduceLeDiff, Nat.reduceEqDiff, Nat.reduceLT, Nat.reduceAdd, Nat.reduceMul, Nat.reduceSub, Nat.le_refl, eq_self, li_0, li_1, li_2, li_3, li_4, li_5, li_6, li_7, li_8, li_9, li_10, li_11, li_12, li_13, li_14, li_15, li_16, li_17, li_18, li_19, li_20, li_21, li_22, li_23, li_24, li_25, li_26, li_27, li_28, li_29, li_30, li_31, li_32, li_44, li_48, li_57, li_59, li_60, li_61, li_62, li_63, li_97, li_100, li_122, li_123, li_125, li_127, li_255, li_400, li_401, li_800, li_1023, li_1024, li_10827, i_add, i_mul, i_sub, i_p1, i_m1, i_nm, i_nm2, i_cl, i_cl0, vi_ok, i_lt, i_le, i_eq, lg_e, rf_103_4, rf_103_6, rf_103_7, rf_103_8, rf_103_9, rf_103_10, rf_103_21, rf_103_22, rf_103_23, rf_103_26, rf_103_27, rf_103_28, rf_103_29, rf_103_30, rf_103_31, rf_103_32, rf_103_33, rf_103_34, rf_103_35, rf_103_37, rf_103_38, rf_103_39, rf_103_44, rf_103_45, rf_103_46, rf_103_47, rf_103_48, rf_103_49, rf_103_54, rf_103_55, is_103, is_104, sz_104, is_125, sz_125, is_126, sz_126, is_127, sz_127, is_128, sz_128, is_129, sz_129, is_130, sz_130, is_131, sz_131, is_132, sz_132, is_133, sz_133, is_134, sz_134, is_135, sz_135, is_136, sz_136, is_137, sz_137, is_138, sz_138, is_139, sz_139, is_140, sz_140, is_141, sz_141, is_142, sz_142, is_143, sz_143, is_144, sz_144, is_145, sz_145, is_146, sz_146, is_147, sz_147, is_148, sz_148, is_149, sz_149, is_150, sz_150, is_151, sz_151, is_152, sz_152, is_153, sz_153, show ¬ 26 ≤ a by omega, hG d (by omega), bI_f hg, q.2.2, show ¬ LD (27 * d + a) < 0 by omega, hG _ q.1, bI_ez, nar_b1]
              refine ⟨fun z => ?_, fun z => nx (fun y => z y.2)⟩
              have z := Classical.not_not.1 z
              exact leave _ _ 1 hr.setI (hf.setI (SCR_144 _)) (mk_set hG) (pass_set hL (by omega) p hg ⟨a, by omega, pp, z⟩) (Or.inr rfl) (a + 1) (by omega)
            · have q := q.2 pp
              have e : (h.1 142 (27 * d + a) < Int32.ofNat 0) = True := eq_true (by rw [q.2]; exact i_negm2)
              simp (disch := first | assumption | omega) only [true_and, and_true, forall_eq, true_implies, false_implies, implies_true, not_true_eq_false, not_false_eq_true, false_and, and_false, ne_eq, ite_true, ite_false, Nat.reduceLeDiff, Nat.reduceEqDiff, Nat.reduceLT, Nat.reduceAdd, Nat.reduceMul, Nat.reduceSub, Nat.le_refl, eq_self, li_0, li_1, li_2, li_3, li_4, li_5, li_6, li_7, li_8, li_9, li_10, li_11, li_12, li_13, li_14, li_15, li_16, li_17, li_18, li_19, li_20, li_21, li_22, li_23, li_24, li_25, li_26, li_27, li_28, li_29, li_30, li_31, li_32, li_44, li_48, li_57, li_59, li_60, li_61, li_62, li_63, li_97, li_100, li_122, li_123, li_125, li_127, li_255, li_400, li_401, li_800, li_1023, li_1024, li_10827, i_add, i_mul, i_sub, i_p1, i_m1, i_nm, i_nm2, i_cl, i_cl0, vi_ok, i_lt, i_le, i_eq, lg_e, rf_103_4, rf_103_6, rf_103_7, rf_103_8, rf_103_9, rf_103_10, rf_103_21, rf_103_22, rf_103_23, rf_103_26, rf_103_27, rf_103_28, rf_103_29, rf_103_30, rf_103_31, rf_103_32, rf_103_33, rf_103_34, rf_103_35, rf_103_37, rf_103_38, rf_103_39, rf_103_44, rf_103_45, rf_103_46, rf_103_47, rf_103_48, rf_103_49, rf_103_54, rf_103_55, is_103, is_104, sz_104, is_125, sz_125, is_126, sz_126, is_127, sz_127, is_128, sz_128, is_129, sz_129, is_130, sz_130, is_131, sz_131, is_132, sz_132, is_133, sz_133, is_134, sz_134, is_135, sz_135, is_136, sz_136, is_137, sz_137, is_138, sz_138, is_139, sz_139, is_140, sz_140, is_141, sz_141, is_142, sz_142, is_143, sz_143, is_144, sz_144, is_145, sz_145, is_146, sz_146, is_147, sz_147, is_148, sz_148, is_149, sz_149, is_150, sz_150, is_151, sz_151, is_152, sz_152, is_153, sz_153, show ¬ 26 ≤ a by omega, hG d (by omega), bI_f hg, e]
              exact nx (fun y => pp y.1)
        exact acts 26 0 rfl (fun b hb => absurd hb (Nat.not_lt_zero b))
  have outer : ∀ e h G r, n - pops G n + r ≤ e → Refs h → Fr SCR h0 h → (∀ s, s < n → h.1 144 s = Int32.ofNat (bI (G s))) → (∀ s, s < n → topIs ST w s → G s) → (∀ s, s < n → G s → reach D n ST LD (topIs ST w) s) → (r = 0 → ∀ s, s < n → succM D ST LD G s → G s) → r ≤ 1 → L_X12_stuck_113 l g h 103 (Int32.ofNat r) Q := by
    intro e
    induction e with
    | zero =>
      intro h G r he hr hf hG hb hs hz hr1
      have r0 : r = 0 := by omega
      subst r0
      refine s_X12_stuck_113 ⟨fun _ => ?_, fun c => absurd rfl c⟩
      have eqv := reach_end hb hs (hz rfl)
      exact fin h hr hf (fun s hs => by rw [hG s hs, bI_congr (eqv s hs)]) n 0 (Nat.zero_add _) (fun j hj => absurd hj (Nat.not_lt_zero j))
    | succ e ih =>
      intro h G r he hr hf hG hb hs hz hr1
      by_cases c : r = 0
      · subst c
        refine s_X12_stuck_113 ⟨fun _ => ?_, fun c => absurd rfl c⟩
        have eqv := reach_end hb hs (hz rfl)
        exact fin h hr hf (fun s hs => by rw [hG s hs, bI_congr (eqv s hs)]) n 0 (Nat.zero_add _) (fun j hj => absurd hj (Nat.not_lt_zero j))
      · have m : MapI h D n ST FR BY DP LD K KD := m0.fr hf (fun _ _ => SCR_map)
        refine s_X12_stuck_113 ?_
        rw [m.2.2.2.2.1.1, i_dm1]
        simp (disch := first | assumption | omega) only [true_and, and_true, forall_eq, true_implies, false_implies, implies_true, not_true_eq_false, not_false_eq_true, false_and, and_false, ne_eq, ite_true, ite_false, Nat.reduceLeDiff, Nat.reduceEqDiff, Nat.reduceLT, Nat.reduceAdd, Nat.reduceMul, Nat.reduceSub, Nat.le_refl, eq_self, li_0, li_1, li_2, li_3, li_4, li_5, li_6, li_7, li_8, li_9, li_10, li_11, li_12, li_13, li_14, li_15, li_16, li_17, li_18, li_19, li_20, li_21, li_22, li_23, li_24, li_25, li_26, li_27, li_28, li_29, li_30, li_31, li_32, li_44, li_48, li_57, li_59, li_60, li_61, li_62, li_63, li_97, li_100, li_122, li_123, li_125, li_127, li_255, li_400, li_401, li_800, li_1023, li_1024, li_10827, i_add, i_mul, i_sub, i_p1, i_m1, i_nm, i_nm2, i_cl, i_cl0, vi_ok, i_lt, i_le, i_eq, lg_e, c, is_103]
        refine pass G (fun h' G2 r2 r' f' g' p => ?_) n (Nat.le_refl n) h G 0 hr hf hG (pass_0 G)
        have l1 := pops_le G n
        have l2 := pops_le G2 n
        refine ih h' G2 r2 ?_ r' f' g' (fun s hs2 hw => p.2.1 s hs2 (hb s hs2 hw)) (reach_pass p hs) (fun z => ?_) (by have := p.1; omega)
        · rcases p.1 with z | z
          · have q := pops_congr n ((p.2.2.2.1 z).1)
            omega
          · have := p.2.2.2.2 z
            omega
        · intro s hs2 h3
          refine ((p.2.2.2.1 z).1 s hs2).2 ((p.2.2.2.1 z).2 s (Nat.zero_le s) hs2 ?_)
          obtain ⟨a, a1, a2, a3⟩ := h3
          exact ⟨a, a1, a2, ((p.2.2.2.1 z).1 _ ((mapC_lead m hs2 (show a < 27 by omega)).1 a2).1).1 a3⟩
  have init : ∀ d i, i + d = n → ∀ h, Refs h → Fr SCR h0 h → (∀ s, s < i → h.1 144 s = Int32.ofNat (bI (topIs ST w s))) → L_X12_stuck_48 l g h 103 (Int32.ofNat w) (Int32.ofNat i) Q := by
    intro d
    induction d with
    | zero =>
      intro i hi h hr hf hG
      have m : MapI h D n ST FR BY DP LD K KD := m0.fr hf (fun _ _ => SCR_map)
      refine s_X12_stuck_48 ?_
      simp (disch := first | assumption | omega) only [true_and, and_true, forall_eq, true_implies, false_implies, implies_true, not_true_eq_false, not_false_eq_true, false_and, and_false, ne_eq, ite_true, ite_false, Nat.reduceLeDiff, Nat.reduceEqDiff, Nat.reduceLT, Nat.reduceAdd, Nat.reduceMul, Nat.reduceSub, Nat.le_refl, eq_self, li_0, li_1, li_2, li_3, li_4, li_5, li_6, li_7, li_8, li_9, li_10, li_11, li_12, li_13, li_14, li_15, li_16, li_17, li_18, li_19, li_20, li_21, li_22, li_23, li_24, li_25, li_26, li_27, li_28, li_29, li_30, li_31, li_32, li_44, li_48, li_57, li_59, li_60, li_61, li_62, li_63, li_97, li_100, li_122, li_123, li_125, li_127, li_255, li_400, li_401, li_800, li_1023, li_1024, li_10827, i_add, i_mul, i_sub, i_p1, i_m1, i_nm, i_nm2, i_cl, i_cl0, vi_ok, i_lt, i_le, i_eq, lg_e, is_103, m.2.2.2.2.1.1, show n ≤ i by omega]
      exact outer _ h (topIs ST w) 1 (Nat.le_refl _) hr hf (fun s hs => hG s (by omega)) (fun _ _ z => z) (fun s hs z P p1 p2 => p2 s hs z) (fun z => absurd z (by decide)) (Nat.le_refl 1)
    | succ d ih =>
      intro i hi h hr hf hG
      have m : MapI h D n ST FR BY DP LD K KD := m0.fr hf (fun _ _ => SCR_map)
      have wS := m0.1.2.2.1 i (by omega)
      have q := m.2.2.2.2.1.2 i (by omega)
      refine s_X12_stuck_48 ?_
      simp (disch := first | assumption | omega) only [true_and, and_true, forall_eq, true_implies, false_implies, implies_true, not_true_eq_false, not_false_eq_true, false_and, and_false, ne_eq, ite_true, ite_false, Nat.reduceLeDiff, Nat.reduceEqDiff, Nat.reduceLT, Nat.reduceAdd, Nat.reduceMul, Nat.reduceSub, Nat.le_refl, eq_self, li_0, li_1, li_2, li_3, li_4, li_5, li_6, li_7, li_8, li_9, li_10, li_11, li_12, li_13, li_14, li_15, li_16, li_17, li_18, li_19, li_20, li_21, li_22, li_23, li_24, li_25, li_26, li_27, li_28, li_29, li_30, li_31, li_32, li_44, li_48, li_57, li_59, li_60, li_61, li_62, li_63, li_97, li_100, li_122, li_123, li_125, li_127, li_255, li_400, li_401, li_800, li_1023, li_1024, li_10827, i_add, i_mul, i_sub, i_p1, i_m1, i_nm, i_nm2, i_cl, i_cl0, vi_ok, i_lt, i_le, i_eq, lg_e, rf_103_4, rf_103_6, rf_103_7, rf_103_8, rf_103_9, rf_103_10, rf_103_21, rf_103_22, rf_103_23, rf_103_26, rf_103_27, rf_103_28, rf_103_29, rf_103_30, rf_103_31, rf_103_32, rf_103_33, rf_103_34, rf_103_35, rf_103_37, rf_103_38, rf_103_39, rf_103_44, rf_103_45, rf_103_46, rf_103_47, rf_103_48, rf_103_49, rf_103_54, rf_103_55, is_103, is_104, sz_104, is_125, sz_125, is_126, sz_126, is_127, sz_127, is_128, sz_128, is_129, sz_129, is_130, sz_130, is_131, sz_131, is_132, sz_132, is_133, sz_133, is_134, sz_134, is_135, sz_135, is_136, sz_136, is_137, sz_137, is_138, sz_138, is_139, sz_139, is_140, sz_140, is_141, sz_141, is_142, sz_142, is_143, sz_143, is_144, sz_144, is_145, sz_145, is_146, sz_146, is_147, sz_147, is_148, sz_148, is_149, sz_149, is_150, sz_150, is_151, sz_151, is_152, sz_152, is_153, sz_153, m.2.2.2.2.1.1, q.1, q.2.1, show ¬ n ≤ i by omega]
      refine k_X12_unpack hr wS (fun h' f' s' => ?_)
      have r' := f'.refs hr
      have f2 : Fr SCR h0 h' := hf.trans f'.scr
      have g2 : ∀ s, h'.1 144 s = h.1 144 s := fun s => (f'.fr 144 s (fun q => by unfold PS at q; omega)).1
      have nx : ∀ v : Nat, v = bI (topIs ST w i) → L_X12_stuck_48 l g (ax_setI h' 144 i (Int32.ofNat v)) 103 (Int32.ofNat w) (Int32.ofNat (i + 1)) Q := by
        intro v ev
        refine ih (i + 1) (by omega) _ r'.setI (f2.setI (SCR_144 _)) (fun s hs => ?_)
        by_cases c : s = i
        · rw [gI_t rfl c, c, ev]
        · rw [gI_p c, g2]; exact hG s (by omega)
      have h5 := wS.2.1
      have h8 := wS.1
      by_cases c : (ST i).2.1 = 0
      · simp (disch := first | assumption | omega) only [true_and, and_true, forall_eq, true_implies, false_implies, implies_true, not_true_eq_false, not_false_eq_true, false_and, and_false, ne_eq, ite_true, ite_false, Nat.reduceLeDiff, Nat.reduceEqDiff, Nat.reduceLT, Nat.reduceAdd, Nat.reduceMul, Nat.reduceSub, Nat.le_refl, eq_self, li_0, li_1, li_2, li_3, li_4, li_5, li_6, li_7, li_8, li_9, li_10, li_11, li_12, li_13, li_14, li_15, li_16, li_17, li_18, li_19, li_20, li_21, li_22, li_23, li_24, li_25, li_26, li_27, li_28, li_29, li_30, li_31, li_32, li_44, li_48, li_57, li_59, li_60, li_61, li_62, li_63, li_97, li_100, li_122, li_123, li_125, li_127, li_255, li_400, li_401, li_800, li_1023, li_1024, li_10827, i_add, i_mul, i_sub, i_p1, i_m1, i_nm, i_nm2, i_cl, i_cl0, vi_ok, i_lt, i_le, i_eq, lg_e, rf_103_4, rf_103_6, rf_103_7, rf_103_8, rf_103_9, rf_103_10, rf_103_21, rf_103_22, rf_103_23, rf_103_26, rf_103_27, rf_103_28, rf_103_29, rf_103_30, rf_103_31, rf_103_32, rf_103_33, rf_103_34, rf_103_35, rf_103_37, rf_103_38, rf_103_39, rf_103_44, rf_103_45, rf_103_46, rf_103_47, rf_103_48, rf_103_49, rf_103_54, rf_103_55, is_103, is_104, sz_104, is_125, sz_125, is_126, sz_126, is_127, sz_127, is_128, sz_128, is_129, sz_129, is_130, sz_130, is_131, sz_131, is_132, sz_132, is_133, sz_133, is_134, sz_134, is_135, sz_135, is_136, sz_136, is_137, sz_137, is_138, sz_138, is_139, sz_139, is_140, sz_140, is_141, sz_141, is_142, sz_142, is_143, sz_143, is_144, sz_144, is_145, sz_145, is_146, sz_146, is_147, sz_147, is_148, sz_148, is_149, sz_149, is_150, sz_150, is_151, sz_151, is_152, sz_152, is_153, sz_153, s'.2.1, c, nar_b0]
        refine nx 0 (bI_f (p := topIs ST w i) (fun z => ?_)).symm
        unfold topIs topI at z
        rw [if_pos c] at z
        exact i_ne (by omega) z.symm
      · have hw := (wS.2.2.2.2.1 ((ST i).2.1 - 1) (by omega)).1
        simp (disch := first | assumption | omega) only [true_and, and_true, forall_eq, true_implies, false_implies, implies_true, not_true_eq_false, not_false_eq_true, false_and, and_false, ne_eq, ite_true, ite_false, Nat.reduceLeDiff, Nat.reduceEqDiff, Nat.reduceLT, Nat.reduceAdd, Nat.reduceMul, Nat.reduceSub, Nat.le_refl, eq_self, li_0, li_1, li_2, li_3, li_4, li_5, li_6, li_7, li_8, li_9, li_10, li_11, li_12, li_13, li_14, li_15, li_16, li_17, li_18, li_19, li_20, li_21, li_22, li_23, li_24, li_25, li_26, li_27, li_28, li_29, li_30, li_31, li_32, li_44, li_48, li_57, li_59, li_60, li_61, li_62, li_63, li_97, li_100, li_122, li_123, li_125, li_127, li_255, li_400, li_401, li_800, li_1023, li_1024, li_10827, i_add, i_mul, i_sub, i_p1, i_m1, i_nm, i_nm2, i_cl, i_cl0, vi_ok, i_lt, i_le, i_eq, lg_e, rf_103_4, rf_103_6, rf_103_7, rf_103_8, rf_103_9, rf_103_10, rf_103_21, rf_103_22, rf_103_23, rf_103_26, rf_103_27, rf_103_28, rf_103_29, rf_103_30, rf_103_31, rf_103_32, rf_103_33, rf_103_34, rf_103_35, rf_103_37, rf_103_38, rf_103_39, rf_103_44, rf_103_45, rf_103_46, rf_103_47, rf_103_48, rf_103_49, rf_103_54, rf_103_55, is_103, is_104, sz_104, is_125, sz_125, is_126, sz_126, is_127, sz_127, is_128, sz_128, is_129, sz_129, is_130, sz_130, is_131, sz_131, is_132, sz_132, is_133, sz_133, is_134, sz_134, is_135, sz_135, is_136, sz_136, is_137, sz_137, is_138, sz_138, is_139, sz_139, is_140, sz_140, is_141, sz_141, is_142, sz_142, is_143, sz_143, is_144, sz_144, is_145, sz_145, is_146, sz_146, is_147, sz_147, is_148, sz_148, is_149, sz_149, is_150, sz_150, is_151, sz_151, is_152, sz_152, is_153, sz_153, s'.2.1, show ¬ (ST i).2.1 ≤ 0 by omega, (s'.2.2.1 ((ST i).2.1 - 1) (by omega)).1, nar_b0, nar_b1]
        refine ⟨fun z => nx 0 (bI_f (p := topIs ST w i) (fun y => z ?_)).symm, fun z => nx 1 (bI_t (p := topIs ST w i) ?_).symm⟩
        · unfold topIs topI at y
          rw [if_neg c] at y
          exact (i_eq (by omega) (by omega)).1 y
        · unfold topIs topI
          rw [if_neg c, z]
  exact init n 0 (Nat.zero_add _) h0 hr0 (Fr.refl _ _) (fun s hs => absurd hs (Nat.not_lt_zero s))
theorem ob_stuck {l : Launch} {g : AG} (h : AH) (a1 : Int32) (hI : Inv h) : C_X9_stuck l g h 1 a1 (fun r h1 => C_X12_stuck l g h1 103 a1 (fun r2 h2 => r2 = r ∧ Inv h2)) := by
  obtain ⟨X, Y, D, S, t, hI⟩ := hI
  have hr := hI.1
  refine c_X9_stuck (s_X9_stuck_0 ?_)
  rw [rf_1_6 hr]
  rcases hI.2.2.2.2.2.2.1 with ⟨z1, z2, z3⟩ | ⟨a, z1, z2, z3, z4, z5, n, ST, FR, BY, DP, LD, K, KD, m⟩
  · refine ⟨is_1, is_74, map_none hI z1 z2 ⟨fun z => absurd rfl z, fun _ => k_X9_refused ?_⟩⟩
    refine c_X12_stuck (s_X12_stuck_0 ⟨is_103, ?_⟩)
    intro h2 e2
    have : h2.1 103 24 = -1 := by rw [e2]; simp (disch := first | assumption | omega) only [true_and, and_true, forall_eq, true_implies, false_implies, implies_true, not_true_eq_false, not_false_eq_true, false_and, and_false, ne_eq, ite_true, ite_false, Nat.reduceLeDiff, Nat.reduceEqDiff, Nat.reduceLT, Nat.reduceAdd, Nat.reduceMul, Nat.reduceSub, Nat.le_refl, eq_self, li_0, li_1, li_2, li_3, li_4, li_5, li_6, li_7, li_8, li_9, li_10, li_11, li_12, li_13, li_14, li_15, li_16, li_17, li_18, li_19, li_20, li_21, li_22, li_23, li_24, li_25, li_26, li_27, li_28, li_29, li_30, li_31, li_32, li_44, li_48, li_57, li_59, li_60, li_61, li_62, li_63, li_97, li_100, li_122, li_123, li_125, li_127, li_255, li_400, li_401, li_800, li_1023, li_1024, li_10827, i_add, i_mul, i_sub, i_p1, i_m1, i_nm, i_nm2, i_cl, i_cl0, vi_ok, i_lt, i_le, i_eq, lg_e, gI_s, gI_c, gI_p, gI_L, gI_R, gL_s, gL_c, gL_p, gL_I, gL_R, gR_s, gR_c, gR_p, gR_I, gR_L]; exact z2
    rw [this]
    subst e2
    exact ⟨fun z => absurd rfl z, fun _ => ob_ref hI 6 (by decide)⟩
  · have hn := m.1.2.1
    obtain ⟨t1, t2, t3, t4, t5, t6, t7, t8⟩ := (hI.2.2.1 a z1).1 z2
    have h8 := t2.1.2.1
    have hA := hI.2.1
    have hx := hA.isx z1
    have hy := hA.isy z1
    have bad : (a1 < 0 ∨ (¬ a1 < 0 ∧ ¬ a1 < Int32.ofNat (D a 0 0))) → C_X12_stuck l g (ax_setI h 1 12 1) 103 a1 (fun r2 h2 => r2 = -1 ∧ Inv h2) := by
      intro c
      refine c_X12_stuck (s_X12_stuck_0 ⟨is_103, ?_⟩)
      intro h2 e2
      obtain ⟨i1, f1, m1, w1, w2⟩ := map_in hI m 1 rfl e2
      have hr1 := i1.1
      have u := (i1.2.2.1 a z1).1 z2
      have u4 := u.2.2.2.1
      have hA1 := i1.2.1
      rw [w2, z4]
      have rf : C_X12_refused l g h2 103 1 (fun r2 h2 => r2 = -1 ∧ Inv h2) := by rw [e2]; exact ob_ref hI 1 (by decide)
      refine ⟨fun _ => ⟨fun _ => rf, fun z => ?_⟩, fun q => absurd q (i_ne (by omega))⟩
      simp (disch := first | assumption | omega) only [true_and, and_true, forall_eq, true_implies, false_implies, implies_true, not_true_eq_false, not_false_eq_true, false_and, and_false, ne_eq, ite_true, ite_false, Nat.reduceLeDiff, Nat.reduceEqDiff, Nat.reduceLT, Nat.reduceAdd, Nat.reduceMul, Nat.reduceSub, Nat.le_refl, eq_self, li_0, li_1, li_2, li_3, li_4, li_5, li_6, li_7, li_8, li_9, li_10, li_11, li_12, li_13, li_14, li_15, li_16, li_17, li_18, li_19, li_20, li_21, li_22, li_23, li_24, li_25, li_26, li_27, li_28, li_29, li_30, li_31, li_32, li_44, li_48, li_57, li_59, li_60, li_61, li_62, li_63, li_97, li_100, li_122, li_123, li_125, li_127, li_255, li_400, li_401, li_800, li_1023, li_1024, li_10827, i_add, i_mul, i_sub, i_p1, i_m1, i_nm, i_nm2, i_cl, i_cl0, vi_ok, i_lt, i_le, i_eq, lg_e, rf_103_4, rf_103_6, rf_103_7, rf_103_8, rf_103_9, rf_103_10, rf_103_21, rf_103_22, rf_103_23, rf_103_26, rf_103_27, rf_103_28, rf_103_29, rf_103_30, rf_103_31, rf_103_32, rf_103_33, rf_103_34, rf_103_35, rf_103_37, rf_103_38, rf_103_39, rf_103_44, rf_103_45, rf_103_46, rf_103_47, rf_103_48, rf_103_49, rf_103_54, rf_103_55, is_103, is_104, sz_104, is_125, sz_125, is_126, sz_126, is_127, sz_127, is_128, sz_128, is_129, sz_129, is_130, sz_130, is_131, sz_131, is_132, sz_132, is_133, sz_133, is_134, sz_134, is_135, sz_135, is_136, sz_136, is_137, sz_137, is_138, sz_138, is_139, sz_139, is_140, sz_140, is_141, sz_141, is_142, sz_142, is_143, sz_143, is_144, sz_144, is_145, sz_145, is_146, sz_146, is_147, sz_147, is_148, sz_148, is_149, sz_149, is_150, sz_150, is_151, sz_151, is_152, sz_152, is_153, sz_153, hA1.y z1, isB_x hy, u4.1.1]
      refine ⟨fun z2 => ?_, fun _ => rf⟩
      rcases c with c | c
      · exact absurd c z
      · exact absurd z2 c.2
    refine ⟨is_1, is_74, map_some z1 z3 ⟨fun _ => ⟨fun z => k_X9_refused (bad (Or.inl z)), fun z => ?_⟩, fun z => absurd z (by decide)⟩⟩
    rw [rf_1_6 hr, z5, t3.1.1]
    refine ⟨is_74, isA_x hx, fun c => ?_, fun c => k_X9_refused (bad (Or.inr ⟨z, c⟩))⟩
    obtain ⟨w, hw, rfl⟩ := i_of z
    have c := (i_lt hw (by omega)).1 c
    refine ⟨is_74, k_withoutWay hr m (fun h3 r3 f3 => k_X9_granted ?_)⟩
    have f3s : Fr SCR h h3 := f3.mono (fun c p q => by rw [q]; exact SCR_92 p)
    refine c_X12_stuck (s_X12_stuck_0 ⟨is_103, ?_⟩)
    intro h2 e2
    have f2 : Fr PQ h h2 := by rw [e2]; exact (f3s.pq.setI PQ_112).setI PQ_1030
    have r2 : Refs h2 := by rw [e2]; exact r3.setI.setI
    have w1 : h2.1 1 12 = 0 := by rw [e2]; simp (disch := first | assumption | omega) only [true_and, and_true, forall_eq, true_implies, false_implies, implies_true, not_true_eq_false, not_false_eq_true, false_and, and_false, ne_eq, ite_true, ite_false, Nat.reduceLeDiff, Nat.reduceEqDiff, Nat.reduceLT, Nat.reduceAdd, Nat.reduceMul, Nat.reduceSub, Nat.le_refl, eq_self, li_0, li_1, li_2, li_3, li_4, li_5, li_6, li_7, li_8, li_9, li_10, li_11, li_12, li_13, li_14, li_15, li_16, li_17, li_18, li_19, li_20, li_21, li_22, li_23, li_24, li_25, li_26, li_27, li_28, li_29, li_30, li_31, li_32, li_44, li_48, li_57, li_59, li_60, li_61, li_62, li_63, li_97, li_100, li_122, li_123, li_125, li_127, li_255, li_400, li_401, li_800, li_1023, li_1024, li_10827, i_add, i_mul, i_sub, i_p1, i_m1, i_nm, i_nm2, i_cl, i_cl0, vi_ok, i_lt, i_le, i_eq, lg_e, gI_s, gI_c, gI_p, gI_L, gI_R, gL_s, gL_c, gL_p, gL_I, gL_R, gR_s, gR_c, gR_p, gR_I, gR_L]
    clear e2
    have i1 := hI.c.fr f2 r2
    have m2 := m.fr f2 (fun _ _ => PQ_map)
    have u := (i1.2.2.1 a z1).1 z2
    have u4 := u.2.2.2.1
    have hA1 := i1.2.1
    have w24 : h2.1 103 24 = Int32.ofNat a := by rw [(f2 103 24 (fun q => PQ_map q (by unfold PMAP; omega))).1]; exact z4
    rw [w24]
    refine ⟨fun _ => ⟨fun q => absurd q z, fun _ => ?_⟩, fun q => absurd q (i_ne (by omega))⟩
    simp (disch := first | assumption | omega) only [true_and, and_true, forall_eq, true_implies, false_implies, implies_true, not_true_eq_false, not_false_eq_true, false_and, and_false, ne_eq, ite_true, ite_false, Nat.reduceLeDiff, Nat.reduceEqDiff, Nat.reduceLT, Nat.reduceAdd, Nat.reduceMul, Nat.reduceSub, Nat.le_refl, eq_self, li_0, li_1, li_2, li_3, li_4, li_5, li_6, li_7, li_8, li_9, li_10, li_11, li_12, li_13, li_14, li_15, li_16, li_17, li_18, li_19, li_20, li_21, li_22, li_23, li_24, li_25, li_26, li_27, li_28, li_29, li_30, li_31, li_32, li_44, li_48, li_57, li_59, li_60, li_61, li_62, li_63, li_97, li_100, li_122, li_123, li_125, li_127, li_255, li_400, li_401, li_800, li_1023, li_1024, li_10827, i_add, i_mul, i_sub, i_p1, i_m1, i_nm, i_nm2, i_cl, i_cl0, vi_ok, i_lt, i_le, i_eq, lg_e, rf_103_4, rf_103_6, rf_103_7, rf_103_8, rf_103_9, rf_103_10, rf_103_21, rf_103_22, rf_103_23, rf_103_26, rf_103_27, rf_103_28, rf_103_29, rf_103_30, rf_103_31, rf_103_32, rf_103_33, rf_103_34, rf_103_35, rf_103_37, rf_103_38, rf_103_39, rf_103_44, rf_103_45, rf_103_46, rf_103_47, rf_103_48, rf_103_49, rf_103_54, rf_103_55, is_103, is_104, sz_104, is_125, sz_125, is_126, sz_126, is_127, sz_127, is_128, sz_128, is_129, sz_129, is_130, sz_130, is_131, sz_131, is_132, sz_132, is_133, sz_133, is_134, sz_134, is_135, sz_135, is_136, sz_136, is_137, sz_137, is_138, sz_138, is_139, sz_139, is_140, sz_140, is_141, sz_141, is_142, sz_142, is_143, sz_143, is_144, sz_144, is_145, sz_145, is_146, sz_146, is_147, sz_147, is_148, sz_148, is_149, sz_149, is_150, sz_150, is_151, sz_151, is_152, sz_152, is_153, sz_153, hA1.y z1, isB_x hy, u4.1.1, c]
    refine k_stuckM r2 (by omega) m2 (fun h4 r4 f4 => ⟨rfl, ?_⟩)
    refine inv_say hI 0 (by decide) (f2.trans f4.pq) r4 ?_
    rw [(f4 1 12 (fun q => by unfold SCR at q; omega)).1]
    exact w1
