theorem k_X12_parts {l : Launch} {g : AG} {h0 : AH} {y a : Nat} {D : AD} {n : Nat} {ST : Nat → AS} {FR BY DP LD : Nat → Nat} {Q : AH → Prop} (hr0 : Refs h0) (hy : isB y) (hD : WfD D) (ha : a < 2) (e24 : h0.1 103 24 = Int32.ofNat a) (ey : h0.2.2 104 a = y) (hB0 : RepB h0 y D) (w : MapW D n ST FR BY DP) (wl : LdW D n ST LD (27 * n)) (mM : MapM h0 D n ST FR BY DP) (lC : LdC h0 142 D ST LD (27 * n)) (co : ∀ i, i < n → h0.1 138 i = Int32.ofNat (bsum (possD D (ST i)) 27)) (hq : ∀ h' m f, Refs h' → Fr PP h0 h' → h'.1 103 36 = Int32.ofNat m → (∀ i, i < n → h'.1 139 i = Int32.ofNat (f i) ∧ h'.2.1 143 i = viewM D (ST i)) → Canon n m f (Like D n ST LD) → Q h') : C_X12_parts l g h0 103 Q := by
  have hyu : y = 105 ∨ y = 154 ∨ y = 174 := hy
  have hn := w.2.1
  have loop : ∀ d s, s + d = n → ∀ h, Refs h → Fr PP h0 h → (∀ i, i < s → h.1 139 i = 0 ∧ h.2.1 143 i = viewM D (ST i)) → L_X12_parts_12 l g h 103 y (Int32.ofNat s) Q := by
    intro d
    induction d with
    | zero =>
      intro s hs h hr hf hv
      have e25 : h.1 103 25 = Int32.ofNat n := by rw [(hf 103 25 (fun q => by have := PP_no q; omega)).1]; exact mM.1
      refine s_X12_parts_12 ?_
      simp (disch := first | assumption | omega) only [true_and, and_true, forall_eq, true_implies, false_implies, implies_true, not_true_eq_false, not_false_eq_true, false_and, and_false, ne_eq, ite_true, ite_false, Nat.reduceLeDiff, Nat.reduceEqDiff, Nat.reduceLT, Nat.reduceAdd, Nat.reduceMul, Nat.reduceSub, Nat.le_refl, eq_self, li_0, li_1, li_2, li_3, li_4, li_5, li_6, li_7, li_8, li_9, li_10, li_11, li_12, li_13, li_14, li_15, li_16, li_17, li_18, li_19, li_20, li_21, li_22, li_23, li_24, li_25, li_26, li_27, li_28, li_29, li_30, li_31, li_32, li_44, li_48, li_57, li_59, li_60, li_61, li_62, li_63, li_97, li_100, li_122, li_123, li_125, li_127, li_255, li_400, li_401, li_800, li_1023, li_1024, li_10827, i_add, i_mul, i_sub, i_p1, i_m1, i_nm, i_nm2, i_cl, i_cl0, vi_ok, i_lt, i_le, i_eq, lg_e, is_103, e25, show n ≤ s by omega]
      have mk : MKr (ax_setI h 103 36 (Int32.ofNat 1)) D n ST LD := by
        refine ⟨by rw [gI_p (by decide)]; exact e25, fun i hi => ⟨?_, ?_⟩, fun i b hi hb p => ?_⟩
        · rw [gI_c (by omega), (hf 138 i (fun q => by have := PP_no q; omega)).1]; exact co i hi
        · exact (hv i (by omega)).2
        · have e1 : (27 * i + b) / 27 = i := by omega
          have e2 : (27 * i + b) % 27 = b := by omega
          have q1 := lC (27 * i + b) (by omega)
          have q3 := wl (27 * i + b) (by omega)
          rw [e1, e2] at q1 q3
          rw [gI_c (by omega), (hf 142 _ (fun q => by have := PP_no q; omega)).1]
          exact ⟨(q3 p).1, q1.1 p⟩
      refine k_parts52 (h0 := ax_setI h 103 36 (Int32.ofNat 1)) w.1 hn mk (fun h' m f r' f' v36 v139 cn => ?_) _ 0 1 (fun _ => 0) _ (Nat.le_refl _) (by omega) hr.setI (Fr.refl _ _) (gI_s _ _ _ _) (fun i hi => ?_) ⟨fun _ _ _ _ => Iff.rfl, fun _ _ => Nat.one_pos, fun s hs k hk => absurd hk (Nat.not_lt_zero k), fun k hk => ⟨0, w.1, by show 0 = k; omega⟩⟩ (fun _ _ _ => rfl) (fun z => absurd z (by decide))
      · refine hq h' m f r' ((hf.setI (Or.inr (Or.inr (Or.inr ⟨rfl, rfl⟩)))).trans (f'.mono (fun c p q => by unfold PQ2 at q; unfold PP; omega))) v36 (fun i hi => ⟨v139 i hi, ?_⟩) cn
        rw [(f' 143 i (fun q => by unfold PQ2 at q; omega)).2.1]
        exact (hv i (by omega)).2
      · rw [gI_c (by omega)]
        exact (hv i (by omega)).1
    | succ d ih =>
      intro s hs h hr hf hv
      have e25 : h.1 103 25 = Int32.ofNat n := by rw [(hf 103 25 (fun q => by have := PP_no q; omega)).1]; exact mM.1
      have v := mM.2 s (by omega)
      refine s_X12_parts_12 ?_
      simp (disch := first | assumption | omega) only [true_and, and_true, forall_eq, true_implies, false_implies, implies_true, not_true_eq_false, not_false_eq_true, false_and, and_false, ne_eq, ite_true, ite_false, Nat.reduceLeDiff, Nat.reduceEqDiff, Nat.reduceLT, Nat.reduceAdd, Nat.reduceMul, Nat.reduceSub, Nat.le_refl, eq_self, li_0, li_1, li_2, li_3, li_4, li_5, li_6, li_7, li_8, li_9, li_10, li_11, li_12, li_13, li_14, li_15, li_16, li_17, li_18, li_19, li_20, li_21, li_22, li_23, li_24, li_25, li_26, li_27, li_28, li_29, li_30, li_31, li_32, li_44, li_48, li_57, li_59, li_60, li_61, li_62, li_63, li_97, li_100, li_122, li_123, li_125, li_127, li_255, li_400, li_401, li_800, li_1023, li_1024, li_10827, i_add, i_mul, i_sub, i_p1, i_m1, i_nm, i_nm2, i_cl, i_cl0, vi_ok, i_lt, i_le, i_eq, lg_e, rf_103_4, rf_103_6, rf_103_7, rf_103_8, rf_103_9, rf_103_10, rf_103_21, rf_103_22, rf_103_23, rf_103_26, rf_103_27, rf_103_28, rf_103_29, rf_103_30, rf_103_31, rf_103_32, rf_103_33, rf_103_34, rf_103_35, rf_103_37, rf_103_38, rf_103_39, rf_103_44, rf_103_45, rf_103_46, rf_103_47, rf_103_48, rf_103_49, rf_103_54, rf_103_55, is_103, is_104, sz_104, is_125, sz_125, is_126, sz_126, is_127, sz_127, is_128, sz_128, is_129, sz_129, is_130, sz_130, is_131, sz_131, is_132, sz_132, is_133, sz_133, is_134, sz_134, is_135, sz_135, is_136, sz_136, is_137, sz_137, is_138, sz_138, is_139, sz_139, is_140, sz_140, is_141, sz_141, is_142, sz_142, is_143, sz_143, is_144, sz_144, is_145, sz_145, is_146, sz_146, is_147, sz_147, is_148, sz_148, is_149, sz_149, is_150, sz_150, is_151, sz_151, is_152, sz_152, is_153, sz_153, e25, show ¬ n ≤ s by omega, isB_x hy]
      refine k_X12_view hr hy hD (hB0.fr hf (fun c p h1 h2 q => by have := PP_no q; omega)) (w.2.2.1 s (by omega)) (by omega) (by rw [(hf 133 s (fun q => by have := PP_no q; omega)).2.1]; exact v.1) (by rw [(hf 134 s (fun q => by have := PP_no q; omega)).2.1]; exact v.2.1) (fun h1 r1 f1 => ?_)
      simp (disch := first | assumption | omega) only [true_and, and_true, forall_eq, true_implies, false_implies, implies_true, not_true_eq_false, not_false_eq_true, false_and, and_false, ne_eq, ite_true, ite_false, Nat.reduceLeDiff, Nat.reduceEqDiff, Nat.reduceLT, Nat.reduceAdd, Nat.reduceMul, Nat.reduceSub, Nat.le_refl, eq_self, li_0, li_1, li_2, li_3, li_4, li_5, li_6, li_7, li_8, li_9, li_10, li_11, li_12, li_13, li_14, li_15, li_16, li_17, li_18, li_19, li_20, li_21, li_22, li_23, li_24, li_25, li_26, li_27, li_28, li_29, li_30, li_31, li_32, li_44, li_48, li_57, li_59, li_60, li_61, li_62, li_63, li_97, li_100, li_122, li_123, li_125, li_127, li_255, li_400, li_401, li_800, li_1023, li_1024, li_10827, i_add, i_mul, i_sub, i_p1, i_m1, i_nm, i_nm2, i_cl, i_cl0, vi_ok, i_lt, i_le, i_eq, lg_e, rf_103_4, rf_103_6, rf_103_7, rf_103_8, rf_103_9, rf_103_10, rf_103_21, rf_103_22, rf_103_23, rf_103_26, rf_103_27, rf_103_28, rf_103_29, rf_103_30, rf_103_31, rf_103_32, rf_103_33, rf_103_34, rf_103_35, rf_103_37, rf_103_38, rf_103_39, rf_103_44, rf_103_45, rf_103_46, rf_103_47, rf_103_48, rf_103_49, rf_103_54, rf_103_55, is_103, is_104, sz_104, is_125, sz_125, is_126, sz_126, is_127, sz_127, is_128, sz_128, is_129, sz_129, is_130, sz_130, is_131, sz_131, is_132, sz_132, is_133, sz_133, is_134, sz_134, is_135, sz_135, is_136, sz_136, is_137, sz_137, is_138, sz_138, is_139, sz_139, is_140, sz_140, is_141, sz_141, is_142, sz_142, is_143, sz_143, is_144, sz_144, is_145, sz_145, is_146, sz_146, is_147, sz_147, is_148, sz_148, is_149, sz_149, is_150, sz_150, is_151, sz_151, is_152, sz_152, is_153, sz_153, gI_s, gI_c, gI_p, gI_L, gI_R, gL_s, gL_c, gL_p, gL_I, gL_R, gR_s, gR_c, gR_p, gR_I, gR_L]
      refine ih (s + 1) (by omega) _ r1.setL.setI (((hf.trans (f1.fr.mono (fun c p q => Or.inl q))).setL (Or.inr (Or.inr (Or.inl rfl)))).setI (Or.inr (Or.inl ⟨by omega, by omega⟩))) (fun i hi => ?_)
      by_cases c : i = s
      · subst c
        simp (disch := first | assumption | omega) only [true_and, and_true, forall_eq, true_implies, false_implies, implies_true, not_true_eq_false, not_false_eq_true, false_and, and_false, ne_eq, ite_true, ite_false, Nat.reduceLeDiff, Nat.reduceEqDiff, Nat.reduceLT, Nat.reduceAdd, Nat.reduceMul, Nat.reduceSub, Nat.le_refl, eq_self, li_0, li_1, li_2, li_3, li_4, li_5, li_6, li_7, li_8, li_9, li_10, li_11, li_12, li_13, li_14, li_15, li_16, li_17, li_18, li_19, li_20, li_21, li_22, li_23, li_24, li_25, li_26, li_27, li_28, li_29, li_30, li_31, li_32, li_44, li_48, li_57, li_59, li_60, li_61, li_62, li_63, li_97, li_100, li_122, li_123, li_125, li_127, li_255, li_400, li_401, li_800, li_1023, li_1024, li_10827, i_add, i_mul, i_sub, i_p1, i_m1, i_nm, i_nm2, i_cl, i_cl0, vi_ok, i_lt, i_le, i_eq, lg_e, gI_s, gI_c, gI_p, gI_L, gI_R, gL_s, gL_c, gL_p, gL_I, gL_R, gR_s, gR_c, gR_p, gR_I, gR_L]
      · simp (disch := first | assumption | omega) only [true_and, and_true, forall_eq, true_implies, false_implies, implies_true, not_true_eq_false, not_false_eq_true, false_and, and_false, ne_eq, ite_true, ite_false, Nat.reduceLeDiff, Nat.reduceEqDiff, Nat.reduceLT, Nat.reduceAdd, Nat.reduceMul, Nat.reduceSub, Nat.le_refl, eq_self, li_0, li_1, li_2, li_3, li_4, li_5, li_6, li_7, li_8, li_9, li_10, li_11, li_12, li_13, li_14, li_15, li_16, li_17, li_18, li_19, li_20, li_21, li_22, li_23, li_24, li_25, li_26, li_27, li_28, li_29, li_30, li_31, li_32, li_44, li_48, li_57, li_59, li_60, li_61, li_62, li_63, li_97, li_100, li_122, li_123, li_125, li_127, li_255, li_400, li_401, li_800, li_1023, li_1024, li_10827, i_add, i_mul, i_sub, i_p1, i_m1, i_nm, i_nm2, i_cl, i_cl0, vi_ok, i_lt, i_le, i_eq, lg_e, gI_s, gI_c, gI_p, gI_L, gI_R, gL_s, gL_c, gL_p, gL_I, gL_R, gR_s, gR_c, gR_p, gR_I, gR_L]
        rw [(f1.fr 139 i (fun q => by unfold PS at q; omega)).1, (f1.fr 143 i (fun q => by unfold PS at q; omega)).2.1]
        exact hv i (by omega)
  refine c_X12_parts (s_X12_parts_0 ?_)
  simp (disch := first | assumption | omega) only [true_and, and_true, forall_eq, true_implies, false_implies, implies_true, not_true_eq_false, not_false_eq_true, false_and, and_false, ne_eq, ite_true, ite_false, Nat.reduceLeDiff, Nat.reduceEqDiff, Nat.reduceLT, Nat.reduceAdd, Nat.reduceMul, Nat.reduceSub, Nat.le_refl, eq_self, li_0, li_1, li_2, li_3, li_4, li_5, li_6, li_7, li_8, li_9, li_10, li_11, li_12, li_13, li_14, li_15, li_16, li_17, li_18, li_19, li_20, li_21, li_22, li_23, li_24, li_25, li_26, li_27, li_28, li_29, li_30, li_31, li_32, li_44, li_48, li_57, li_59, li_60, li_61, li_62, li_63, li_97, li_100, li_122, li_123, li_125, li_127, li_255, li_400, li_401, li_800, li_1023, li_1024, li_10827, i_add, i_mul, i_sub, i_p1, i_m1, i_nm, i_nm2, i_cl, i_cl0, vi_ok, i_lt, i_le, i_eq, lg_e, rf_103_4, rf_103_6, rf_103_7, rf_103_8, rf_103_9, rf_103_10, rf_103_21, rf_103_22, rf_103_23, rf_103_26, rf_103_27, rf_103_28, rf_103_29, rf_103_30, rf_103_31, rf_103_32, rf_103_33, rf_103_34, rf_103_35, rf_103_37, rf_103_38, rf_103_39, rf_103_44, rf_103_45, rf_103_46, rf_103_47, rf_103_48, rf_103_49, rf_103_54, rf_103_55, is_103, is_104, sz_104, is_125, sz_125, is_126, sz_126, is_127, sz_127, is_128, sz_128, is_129, sz_129, is_130, sz_130, is_131, sz_131, is_132, sz_132, is_133, sz_133, is_134, sz_134, is_135, sz_135, is_136, sz_136, is_137, sz_137, is_138, sz_138, is_139, sz_139, is_140, sz_140, is_141, sz_141, is_142, sz_142, is_143, sz_143, is_144, sz_144, is_145, sz_145, is_146, sz_146, is_147, sz_147, is_148, sz_148, is_149, sz_149, is_150, sz_150, is_151, sz_151, is_152, sz_152, is_153, sz_153, e24, ey, isB_x hy]
  exact loop n 0 (Nat.zero_add _) h0 hr0 (Fr.refl _ _) (fun i hi => absurd hi (Nat.not_lt_zero i))
def PB (c p : Nat) : Prop := PMAP c p ∨ PQ c p
theorem PB_no {c p : Nat} (h : PB c p) : c ≠ 2 ∧ c ≠ 129 ∧ c ≠ 101 ∧ c ≠ 145 ∧ c ≠ 94 ∧ c ≠ 3 ∧ c ≠ 104 ∧ c ≠ 73 ∧ c ≠ 125 ∧ c ≠ 126 ∧ c ≠ 127 ∧ (c = 1 → p = 12) ∧ (c = 103 → p ≤ 2 ∨ (12 ≤ p ∧ p ≤ 20) ∨ p = 24 ∨ p = 25 ∨ p = 36 ∨ p = 42 ∨ (50 ≤ p ∧ p ≤ 53)) ∧ (c = 67 → p ≠ 3 ∧ p ≠ 4) ∧ 66 < c ∨ c = 1 ∧ p = 12 := by
  unfold PB PMAP PQ SCR at h
  omega
theorem PB_far {c p : Nat} (h : PB c p) : ¬ (4 ≤ c ∧ c ≤ 66) ∧ ¬ (105 ≤ c ∧ c ≤ 124) ∧ ¬ (154 ≤ c ∧ c ≤ 193) := by
  unfold PB PMAP PQ SCR at h
  omega
theorem inv_map {h h1 : AH} {X Y : Nat → Nat} {D : Nat → AD} {S : Nat → AS} {t : Nat → Prop} (hI : InvD h X Y D S t) (f : Fr PB h h1) (hr : Refs h1) (hm : IMap h1 X D t) (k : Int32) (k3 : k ≠ 3) (m1 : h1.1 1 12 = k) (m2 : h1.1 103 1 = k) (m3 : h1.1 103 2 = -1) : Inv h1 := by
  obtain ⟨b1, b2, b3, b4, b5, b6, b7, b8⟩ := hI
  refine inv_end2 (X := X) (Y := Y) (D := D) (S := S) (t := t) ⟨hr, b2.fr f (fun c p q => by have := PB_no q; omega), fun a ha => (b3 a ha).fr f (fun c p q => ?_), b4.fr f (fun c p q => by have := PB_no q; omega), b6.fr f (fun c p q => by have := PB_no q; omega), hm, b8.fr f (fun c p q => by have := PB_no q; omega)⟩ ?_ ?_ k k3 m1 m2 m3
  · have z := PB_no q
    have y := PB_far q
    have zx := (b2.1 a (by omega)).1
    have zy := (b2.1 a (by omega)).2
    unfold isA at zx
    unfold isB at zy
    omega
  · rw [(f 67 3 (fun q => by have := PB_no q; omega)).1, (f 103 3 (fun q => by have := PB_no q; omega)).1]
    exact b5.1
  · rw [(f 1 11 (fun q => by have := PB_no q; omega)).1, (f 103 41 (fun q => by have := PB_no q; omega)).1]
    exact b5.2.2.2
theorem PA_B {c p : Nat} (h : PA c p) : PB c p := by
  unfold PA at h
  unfold PB PMAP
  omega
theorem PMM_B {c p : Nat} (h : PMM c p) : PB c p := by
  rcases h with h | h | h | h
  · exact Or.inr (PQ_S h)
  · exact Or.inl (by unfold PMAP; omega)
  · exact Or.inl (by unfold PMAP; omega)
  · exact Or.inl (by unfold PMAP; omega)
theorem PP_B {c p : Nat} (h : PP c p) : PB c p := by
  rcases h with h | h | h | h
  · exact Or.inr (PQ_S h)
  · have : c = 139 ∨ c = 140 ∨ c = 141 := by omega
    rcases this with e | e | e
    · exact Or.inl (by unfold PMAP; omega)
    · exact Or.inr (Or.inl (by rw [e]; unfold SCR; omega))
    · exact Or.inr (Or.inl (by rw [e]; unfold SCR; omega))
  · exact Or.inl (by unfold PMAP; omega)
  · exact Or.inl (by unfold PMAP; omega)
theorem PB_10324 : PB 103 24 := Or.inl (by unfold PMAP; omega)
theorem PB_10325 : PB 103 25 := Or.inl (by unfold PMAP; omega)
theorem ob_map {l : Launch} {g : AG} (h : AH) (a1 : Int32) (hI : Inv h) : C_X9_map l g h 1 a1 (fun r h1 => C_X12_map l g h1 103 a1 (fun r2 h2 => r2 = r ∧ Inv h2)) := by
  obtain ⟨X, Y, D, S, t, hI⟩ := hI
  have hr := hI.1
  by_cases hT : Tel t a1
  · obtain ⟨a, ha, rfl, ht⟩ := hT
    have hA := hI.2.1
    obtain ⟨t1, t2, t3, t4, t5, t6, t7, t8⟩ := (hI.2.2.1 a ha).1 ht
    have hx := hA.isx ha
    have hy := hA.isy ha
    have hxu : X a = 4 ∨ X a = 25 ∨ X a = 46 := hx
    have hyu : Y a = 105 ∨ Y a = 154 ∨ Y a = 174 := hy
    have wS : WS (D a 0 0) st0 := WS.zero t2.1.1 t2.1.2.1
    -- the model, over what the class's search found
    have model : ∀ (J : Nat) (suc : Prop) (h2 : AH) (r : Int32), bsEnd (D a) J suc → Refs h2 → Fr PB h h2 → (suc → CRep h2 (D a) (bsN (D a) J) J ∧ h2.1 74 0 = Int32.ofNat a ∧ h2.1 74 5 = 0 ∧ h2.2.2 74 1 = X a ∧ h2.1 1 12 = 0 ∧ r = Int32.ofNat (bsN (D a) J).1) → (¬ suc → h2.1 74 0 = -1 ∧ h2.1 1 12 = 5 ∧ r = -1) → C_X12_map l g h2 103 (Int32.ofNat a) (fun r2 h3 => r2 = r ∧ Inv h3) := by
      intro J suc h2 r hend r2 f2 hsuc hfail
      refine c_X12_map (s_X12_map_0 ⟨is_103, ?_⟩)
      intro h3 e3
      have r3 : Refs h3 := by rw [e3]; exact r2.setI
      have f3 : Fr PB h h3 := by rw [e3]; exact f2.setI (Or.inr PQ_1030)
      have g3 : ∀ c p, ¬ (c = 103 ∧ p = 0) → h3.1 c p = h2.1 c p := fun c p q => by rw [e3, gI_I, if_neg q]
      have g3R : h3.2.2 = h2.2.2 := by rw [e3]; rfl
      have cr3 : suc → CRep h3 (D a) (bsN (D a) J) J := fun z => by
        have fz : Fr (fun c _ => c = 103) h2 h3 := by rw [e3]; exact (Fr.refl _ h2).setI rfl
        exact ⟨(hsuc z).1.1.fr fz (fun c p q => by omega), (hsuc z).1.2.fr fz (fun c p q => by omega)⟩
      clear e3
      have u4 : RepB h3 (Y a) (D a) := t4.fr f3 (fun c p h1 h2 q => by have := PB_far q; omega)
      have hA3 : IA h3 X Y := hA.fr f3 (fun c p q => by have := PB_no q; omega)
      refine k_isApp1 r3 ha (by rw [(f3 125 a (fun q => by have := PB_no q; omega)).1]; exact t1) ⟨fun _ => ?_, fun z => absurd z (by decide)⟩
      rw [rf_103_4 r3, sz_104, i_cl (by omega), hA3.y ha]
      refine ⟨is_104, vi_ok (by omega) (by omega), isB_x hy, ?_⟩
      intro v11 e11 h14 e14 h16 e16
      rw [e11]
      have r16 : Refs h16 := by rw [e16, e14]; exact r3.setI.setI
      have f16 : Fr PB h h16 := by rw [e16, e14]; exact (f3.setI PB_10325).setI PB_10324
      have fz16 : Fr (fun c p => c = 103 ∧ (p = 24 ∨ p = 25)) h3 h16 := by rw [e16, e14]; exact ((Fr.refl _ h3).setI ⟨rfl, Or.inr rfl⟩).setI ⟨rfl, Or.inl rfl⟩
      have w25 : h16.1 103 25 = Int32.ofNat 0 := by rw [e16, e14]; simp (disch := first | assumption | omega) only [true_and, and_true, forall_eq, true_implies, false_implies, implies_true, not_true_eq_false, not_false_eq_true, false_and, and_false, ne_eq, ite_true, ite_false, Nat.reduceLeDiff, Nat.reduceEqDiff, Nat.reduceLT, Nat.reduceAdd, Nat.reduceMul, Nat.reduceSub, Nat.le_refl, eq_self, li_0, li_1, li_2, li_3, li_4, li_5, li_6, li_7, li_8, li_9, li_10, li_11, li_12, li_13, li_14, li_15, li_16, li_17, li_18, li_19, li_20, li_21, li_22, li_23, li_24, li_25, li_26, li_27, li_28, li_29, li_30, li_31, li_32, li_44, li_48, li_57, li_59, li_60, li_61, li_62, li_63, li_97, li_100, li_122, li_123, li_125, li_127, li_255, li_400, li_401, li_800, li_1023, li_1024, li_10827, i_add, i_mul, i_sub, i_p1, i_m1, i_nm, i_nm2, i_cl, i_cl0, vi_ok, i_lt, i_le, i_eq, lg_e, gI_s, gI_c, gI_p, gI_L, gI_R, gL_s, gL_c, gL_p, gL_I, gL_R, gR_s, gR_c, gR_p, gR_I, gR_L]
      have w24 : h16.1 103 24 = -1 := by rw [e16, gI_s]
      clear e16 e14
      refine k_X12_begins r16 (fun h19 f19 s19 => ?_)
      have r19 := f19.refs r16
      refine k_meets (D := D a) (n := 0) r19 (by omega) (by rw [(f19.fr 103 25 (fun q => by unfold PS at q; omega)).1]; exact w25) wS s19 (Or.inl rfl) (fun h21 r21 f21 v25 v133 v134 v135 v136 v137 o21 => ?_)
      rw [if_pos rfl] at v137
      have fz21 : Fr (fun c p => PMM c p ∨ (c = 103 ∧ p = 24)) h3 h21 := ((fz16.mono (fun c p q => by omega)).trans (f19.fr.mono (fun c p q => Or.inl (Or.inl q)))).trans (f21.mono (fun c p q => Or.inl (by unfold PX at q; omega)))
      have u21 : RepB h21 (Y a) (D a) := u4.fr fz21 (fun c p h1 h2 q => by
        rcases q with q | q
        · have := PMM_no q; omega
        · omega)
      have f21B : Fr PB h h21 := f3.trans (fz21.mono (fun c p q => by
        rcases q with q | q
        · exact PMM_B q
        · rw [q.1, q.2]; exact PB_10324))
      have w24' : h21.1 103 24 = -1 := by rw [(f21 103 24 (fun q => by unfold PX at q; omega)).1, (f19.fr 103 24 (fun q => by unfold PS at q; omega)).1]; exact w24
      have mr0 : MRep h21 (D a) (bsN (D a) (27 * 0)) (27 * 0) := by
        refine ⟨⟨v25, fun i hi => ?_⟩, fun i hi => absurd hi (Nat.not_lt_zero i)⟩
        have i0 : i = 0 := by have : i < 1 := hi; omega
        rw [i0, if_pos rfl, if_pos rfl]
        exact ⟨v133, v134, v135, v136, v137⟩
      refine k_map (h0 := h21) (x1 := Int32.ofNat a) hy t2 u21 hend (fun hs h' se r' f' eJ eN mr co h27 e27 => ?_) (fun hs h' r' f' => ?_) J 0 (Or.inl (by omega)) h21 r21 (Fr.refl _ _) (by omega) mr0 (fun i hi => absurd hi (Nat.not_lt_zero i))
      · obtain ⟨c1, c2, c3, c4, c5, c6⟩ := hsuc hs
        have w := bsW_all t2 J hend.1
        have r27 : Refs h27 := by rw [e27]; exact r'.setI
        have f27B : Fr PB h h27 := by rw [e27]; exact (f21B.trans (f'.mono (fun _ _ => PMM_B))).setI PB_10324
        have fz27 : Fr (fun c p => PMM c p ∨ (c = 103 ∧ p = 24)) h3 h27 := by rw [e27]; exact (fz21.trans (f'.mono (fun c p q => Or.inl q))).setI (Or.inr ⟨rfl, rfl⟩)
        have fi : Fr (fun c p => c = 103 ∧ p = 24) h' h27 := by rw [e27]; exact (Fr.refl _ h').setI ⟨rfl, rfl⟩
        have e24 : h27.1 103 24 = Int32.ofNat a := by rw [e27, gI_s]
        have hA27 : IA h27 X Y := hA.fr f27B (fun c p q => by have := PB_no q; omega)
        have mr27 : MRep h27 (D a) (bsN (D a) J) J := mr.fr fi (fun c p q => by omega)
        rw [eJ] at w
        have hJ : 27 * (bsN (D a) J).1 = J := by rw [eN]; exact eJ.symm
        have wl : LdW (D a) (bsN (D a) J).1 (bsN (D a) J).2.1 (bsN (D a) J).2.2.2.2.2 (27 * (bsN (D a) J).1) := by rw [hJ]; rw [← eJ] at w; exact w.2
        have lC : LdC h27 142 (D a) (bsN (D a) J).2.1 (bsN (D a) J).2.2.2.2.2 (27 * (bsN (D a) J).1) := by rw [hJ]; exact mr27.2
        rw [← eJ] at w
        refine k_X12_parts r27 hy t2 ha e24 (hA27.y ha) (t4.fr f27B (fun c p h1 h2 q => by have := PB_far q; omega)) w.1 wl mr27.1 lC (fun i hi => ?_) (fun h30 m f r30 f30 v36 v30 cn => ?_)
        · rw [(fi 138 i (fun q => by omega)).1]
          exact co i (by omega)
        · have e25 : h30.1 103 25 = Int32.ofNat (bsN (D a) J).1 := by rw [(f30 103 25 (fun q => by have := PP_no q; omega)).1]; exact mr27.1.1
          rw [e25]
          refine k_X12_done ⟨c6.symm, ?_⟩
          have f31 : Fr PB h (ax_setI (ax_setI h30 103 1 0) 103 2 (-1)) := ((f27B.trans (f30.mono (fun _ _ => PP_B))).setI (Or.inr PQ_1031)).setI (Or.inr PQ_1032)
          have fl : Fr (fun c p => PP c p ∨ (c = 103 ∧ (p = 1 ∨ p = 2))) h27 (ax_setI (ax_setI h30 103 1 0) 103 2 (-1)) := ((f30.mono (fun c p q => Or.inl q)).setI (Or.inr ⟨rfl, Or.inl rfl⟩)).setI (Or.inr ⟨rfl, Or.inr rfl⟩)
          have fl3 : Fr (fun c p => (130 ≤ c ∧ c ≤ 143) ∨ c = 103) h3 (ax_setI (ax_setI h30 103 1 0) 103 2 (-1)) := (fz27.mono (fun c p q => by
            rcases q with q | q
            · have := PMM_no q; omega
            · omega)).trans (fl.mono (fun c p q => by
            rcases q with q | q
            · have := PP_no q; omega
            · omega))
          have fl4 : ∀ c p, ((fun c p => PP c p ∨ (c = 103 ∧ (p = 1 ∨ p = 2))) c p : Prop) → (130 ≤ c ∧ c ≤ 132) ∨ (139 ≤ c ∧ c ≤ 141) ∨ c = 143 ∨ (c = 103 ∧ (p = 19 ∨ p = 20 ∨ p = 36 ∨ p = 1 ∨ p = 2)) := fun c p q => by
            rcases q with q | q
            · have := PP_no q; omega
            · omega
          have cr3' := cr3 hs
          refine inv_map hI f31 r30.setI.setI (Or.inr ⟨a, ha, ht, ?_, ?_, ?_, (bsN (D a) J).1, (bsN (D a) J).2.1, (bsN (D a) J).2.2.1, (bsN (D a) J).2.2.2.1, (bsN (D a) J).2.2.2.2.1, (bsN (D a) J).2.2.2.2.2, m, f, w.1, wl, cr3'.1.fr fl3 (fun c p q => by omega), ?_, mr27.1.fr fl (fun c p q => by have := fl4 c p q; omega), lC.fr fl (fun c p q => by have := fl4 c p q; omega), fun i hi => ⟨?_, ?_, ?_⟩, ?_, cn, Or.inl ?_⟩) 0 (by decide) ?_ (by simp (disch := first | assumption | omega) only [true_and, and_true, forall_eq, true_implies, false_implies, implies_true, not_true_eq_false, not_false_eq_true, false_and, and_false, ne_eq, ite_true, ite_false, Nat.reduceLeDiff, Nat.reduceEqDiff, Nat.reduceLT, Nat.reduceAdd, Nat.reduceMul, Nat.reduceSub, Nat.le_refl, eq_self, li_0, li_1, li_2, li_3, li_4, li_5, li_6, li_7, li_8, li_9, li_10, li_11, li_12, li_13, li_14, li_15, li_16, li_17, li_18, li_19, li_20, li_21, li_22, li_23, li_24, li_25, li_26, li_27, li_28, li_29, li_30, li_31, li_32, li_44, li_48, li_57, li_59, li_60, li_61, li_62, li_63, li_97, li_100, li_122, li_123, li_125, li_127, li_255, li_400, li_401, li_800, li_1023, li_1024, li_10827, i_add, i_mul, i_sub, i_p1, i_m1, i_nm, i_nm2, i_cl, i_cl0, vi_ok, i_lt, i_le, i_eq, lg_e, gI_s, gI_c, gI_p, gI_L, gI_R, gL_s, gL_c, gL_p, gL_I, gL_R, gR_s, gR_c, gR_p, gR_I, gR_L]) (by simp (disch := first | assumption | omega) only [true_and, and_true, forall_eq, true_implies, false_implies, implies_true, not_true_eq_false, not_false_eq_true, false_and, and_false, ne_eq, ite_true, ite_false, Nat.reduceLeDiff, Nat.reduceEqDiff, Nat.reduceLT, Nat.reduceAdd, Nat.reduceMul, Nat.reduceSub, Nat.le_refl, eq_self, li_0, li_1, li_2, li_3, li_4, li_5, li_6, li_7, li_8, li_9, li_10, li_11, li_12, li_13, li_14, li_15, li_16, li_17, li_18, li_19, li_20, li_21, li_22, li_23, li_24, li_25, li_26, li_27, li_28, li_29, li_30, li_31, li_32, li_44, li_48, li_57, li_59, li_60, li_61, li_62, li_63, li_97, li_100, li_122, li_123, li_125, li_127, li_255, li_400, li_401, li_800, li_1023, li_1024, li_10827, i_add, i_mul, i_sub, i_p1, i_m1, i_nm, i_nm2, i_cl, i_cl0, vi_ok, i_lt, i_le, i_eq, lg_e, gI_s, gI_c, gI_p, gI_L, gI_R, gL_s, gL_c, gL_p, gL_I, gL_R, gR_s, gR_c, gR_p, gR_I, gR_L])
          · rw [(fl3 74 0 (by omega)).1, g3 _ _ (by omega)]; exact c2
          · rw [(fl 103 24 (fun q => by have := fl4 _ _ q; omega)).1]; exact e24
          · rw [(fl3 74 1 (by omega)).2.2, g3R]; exact c4
          · rw [hJ]; exact cr3'.2.fr fl3 (fun c p q => by omega)
          · rw [(fl 138 i (fun q => by have := fl4 _ _ q; omega)).1, (fi 138 i (fun q => by omega)).1]; exact co i (by omega)
          · simp (disch := first | assumption | omega) only [true_and, and_true, forall_eq, true_implies, false_implies, implies_true, not_true_eq_false, not_false_eq_true, false_and, and_false, ne_eq, ite_true, ite_false, Nat.reduceLeDiff, Nat.reduceEqDiff, Nat.reduceLT, Nat.reduceAdd, Nat.reduceMul, Nat.reduceSub, Nat.le_refl, eq_self, li_0, li_1, li_2, li_3, li_4, li_5, li_6, li_7, li_8, li_9, li_10, li_11, li_12, li_13, li_14, li_15, li_16, li_17, li_18, li_19, li_20, li_21, li_22, li_23, li_24, li_25, li_26, li_27, li_28, li_29, li_30, li_31, li_32, li_44, li_48, li_57, li_59, li_60, li_61, li_62, li_63, li_97, li_100, li_122, li_123, li_125, li_127, li_255, li_400, li_401, li_800, li_1023, li_1024, li_10827, i_add, i_mul, i_sub, i_p1, i_m1, i_nm, i_nm2, i_cl, i_cl0, vi_ok, i_lt, i_le, i_eq, lg_e, gI_s, gI_c, gI_p, gI_L, gI_R, gL_s, gL_c, gL_p, gL_I, gL_R, gR_s, gR_c, gR_p, gR_I, gR_L]; exact (v30 i hi).2
          · simp (disch := first | assumption | omega) only [true_and, and_true, forall_eq, true_implies, false_implies, implies_true, not_true_eq_false, not_false_eq_true, false_and, and_false, ne_eq, ite_true, ite_false, Nat.reduceLeDiff, Nat.reduceEqDiff, Nat.reduceLT, Nat.reduceAdd, Nat.reduceMul, Nat.reduceSub, Nat.le_refl, eq_self, li_0, li_1, li_2, li_3, li_4, li_5, li_6, li_7, li_8, li_9, li_10, li_11, li_12, li_13, li_14, li_15, li_16, li_17, li_18, li_19, li_20, li_21, li_22, li_23, li_24, li_25, li_26, li_27, li_28, li_29, li_30, li_31, li_32, li_44, li_48, li_57, li_59, li_60, li_61, li_62, li_63, li_97, li_100, li_122, li_123, li_125, li_127, li_255, li_400, li_401, li_800, li_1023, li_1024, li_10827, i_add, i_mul, i_sub, i_p1, i_m1, i_nm, i_nm2, i_cl, i_cl0, vi_ok, i_lt, i_le, i_eq, lg_e, gI_s, gI_c, gI_p, gI_L, gI_R, gL_s, gL_c, gL_p, gL_I, gL_R, gR_s, gR_c, gR_p, gR_I, gR_L]; exact (v30 i hi).1
          · simp (disch := first | assumption | omega) only [true_and, and_true, forall_eq, true_implies, false_implies, implies_true, not_true_eq_false, not_false_eq_true, false_and, and_false, ne_eq, ite_true, ite_false, Nat.reduceLeDiff, Nat.reduceEqDiff, Nat.reduceLT, Nat.reduceAdd, Nat.reduceMul, Nat.reduceSub, Nat.le_refl, eq_self, li_0, li_1, li_2, li_3, li_4, li_5, li_6, li_7, li_8, li_9, li_10, li_11, li_12, li_13, li_14, li_15, li_16, li_17, li_18, li_19, li_20, li_21, li_22, li_23, li_24, li_25, li_26, li_27, li_28, li_29, li_30, li_31, li_32, li_44, li_48, li_57, li_59, li_60, li_61, li_62, li_63, li_97, li_100, li_122, li_123, li_125, li_127, li_255, li_400, li_401, li_800, li_1023, li_1024, li_10827, i_add, i_mul, i_sub, i_p1, i_m1, i_nm, i_nm2, i_cl, i_cl0, vi_ok, i_lt, i_le, i_eq, lg_e, gI_s, gI_c, gI_p, gI_L, gI_R, gL_s, gL_c, gL_p, gL_I, gL_R, gR_s, gR_c, gR_p, gR_I, gR_L]; exact v36
          · rw [(fl3 74 5 (by omega)).1, g3 _ _ (by omega)]; exact c3
          · rw [(fl3 1 12 (by omega)).1, g3 _ _ (by omega)]; exact c5
      · obtain ⟨c1, c2, c3⟩ := hfail hs
        refine k_X12_refused ⟨c3.symm, ?_⟩
        have fe : Fr PB h (ax_setI (ax_setI (ax_setI h' 103 25 0) 103 1 5) 103 2 (-1)) := (((f21B.trans (f'.mono (fun _ _ => PMM_B))).setI PB_10325).setI (Or.inr PQ_1031)).setI (Or.inr PQ_1032)
        have fz : Fr (fun c p => PMM c p ∨ (c = 103 ∧ p = 24)) h3 h' := fz21.trans (f'.mono (fun c p q => Or.inl q))
        refine inv_map hI fe r'.setI.setI.setI (Or.inl ⟨?_, ?_, ?_⟩) 5 (by decide) ?_ (by simp (disch := first | assumption | omega) only [true_and, and_true, forall_eq, true_implies, false_implies, implies_true, not_true_eq_false, not_false_eq_true, false_and, and_false, ne_eq, ite_true, ite_false, Nat.reduceLeDiff, Nat.reduceEqDiff, Nat.reduceLT, Nat.reduceAdd, Nat.reduceMul, Nat.reduceSub, Nat.le_refl, eq_self, li_0, li_1, li_2, li_3, li_4, li_5, li_6, li_7, li_8, li_9, li_10, li_11, li_12, li_13, li_14, li_15, li_16, li_17, li_18, li_19, li_20, li_21, li_22, li_23, li_24, li_25, li_26, li_27, li_28, li_29, li_30, li_31, li_32, li_44, li_48, li_57, li_59, li_60, li_61, li_62, li_63, li_97, li_100, li_122, li_123, li_125, li_127, li_255, li_400, li_401, li_800, li_1023, li_1024, li_10827, i_add, i_mul, i_sub, i_p1, i_m1, i_nm, i_nm2, i_cl, i_cl0, vi_ok, i_lt, i_le, i_eq, lg_e, gI_s, gI_c, gI_p, gI_L, gI_R, gL_s, gL_c, gL_p, gL_I, gL_R, gR_s, gR_c, gR_p, gR_I, gR_L]) (by simp (disch := first | assumption | omega) only [true_and, and_true, forall_eq, true_implies, false_implies, implies_true, not_true_eq_false, not_false_eq_true, false_and, and_false, ne_eq, ite_true, ite_false, Nat.reduceLeDiff, Nat.reduceEqDiff, Nat.reduceLT, Nat.reduceAdd, Nat.reduceMul, Nat.reduceSub, Nat.le_refl, eq_self, li_0, li_1, li_2, li_3, li_4, li_5, li_6, li_7, li_8, li_9, li_10, li_11, li_12, li_13, li_14, li_15, li_16, li_17, li_18, li_19, li_20, li_21, li_22, li_23, li_24, li_25, li_26, li_27, li_28, li_29, li_30, li_31, li_32, li_44, li_48, li_57, li_59, li_60, li_61, li_62, li_63, li_97, li_100, li_122, li_123, li_125, li_127, li_255, li_400, li_401, li_800, li_1023, li_1024, li_10827, i_add, i_mul, i_sub, i_p1, i_m1, i_nm, i_nm2, i_cl, i_cl0, vi_ok, i_lt, i_le, i_eq, lg_e, gI_s, gI_c, gI_p, gI_L, gI_R, gL_s, gL_c, gL_p, gL_I, gL_R, gR_s, gR_c, gR_p, gR_I, gR_L])
        · simp (disch := first | assumption | omega) only [true_and, and_true, forall_eq, true_implies, false_implies, implies_true, not_true_eq_false, not_false_eq_true, false_and, and_false, ne_eq, ite_true, ite_false, Nat.reduceLeDiff, Nat.reduceEqDiff, Nat.reduceLT, Nat.reduceAdd, Nat.reduceMul, Nat.reduceSub, Nat.le_refl, eq_self, li_0, li_1, li_2, li_3, li_4, li_5, li_6, li_7, li_8, li_9, li_10, li_11, li_12, li_13, li_14, li_15, li_16, li_17, li_18, li_19, li_20, li_21, li_22, li_23, li_24, li_25, li_26, li_27, li_28, li_29, li_30, li_31, li_32, li_44, li_48, li_57, li_59, li_60, li_61, li_62, li_63, li_97, li_100, li_122, li_123, li_125, li_127, li_255, li_400, li_401, li_800, li_1023, li_1024, li_10827, i_add, i_mul, i_sub, i_p1, i_m1, i_nm, i_nm2, i_cl, i_cl0, vi_ok, i_lt, i_le, i_eq, lg_e, gI_s, gI_c, gI_p, gI_L, gI_R, gL_s, gL_c, gL_p, gL_I, gL_R, gR_s, gR_c, gR_p, gR_I, gR_L]
          rw [(fz 74 0 (fun q => by
            rcases q with q | q
            · have := PMM_no q; omega
            · omega)).1, g3 _ _ (by omega)]
          exact c1
        · simp (disch := first | assumption | omega) only [true_and, and_true, forall_eq, true_implies, false_implies, implies_true, not_true_eq_false, not_false_eq_true, false_and, and_false, ne_eq, ite_true, ite_false, Nat.reduceLeDiff, Nat.reduceEqDiff, Nat.reduceLT, Nat.reduceAdd, Nat.reduceMul, Nat.reduceSub, Nat.le_refl, eq_self, li_0, li_1, li_2, li_3, li_4, li_5, li_6, li_7, li_8, li_9, li_10, li_11, li_12, li_13, li_14, li_15, li_16, li_17, li_18, li_19, li_20, li_21, li_22, li_23, li_24, li_25, li_26, li_27, li_28, li_29, li_30, li_31, li_32, li_44, li_48, li_57, li_59, li_60, li_61, li_62, li_63, li_97, li_100, li_122, li_123, li_125, li_127, li_255, li_400, li_401, li_800, li_1023, li_1024, li_10827, i_add, i_mul, i_sub, i_p1, i_m1, i_nm, i_nm2, i_cl, i_cl0, vi_ok, i_lt, i_le, i_eq, lg_e, gI_s, gI_c, gI_p, gI_L, gI_R, gL_s, gL_c, gL_p, gL_I, gL_R, gR_s, gR_c, gR_p, gR_I, gR_L]
          rw [(f' 103 24 (fun q => by have := PMM_no q; omega)).1]
          exact w24'
        · simp (disch := first | assumption | omega) only [true_and, and_true, forall_eq, true_implies, false_implies, implies_true, not_true_eq_false, not_false_eq_true, false_and, and_false, ne_eq, ite_true, ite_false, Nat.reduceLeDiff, Nat.reduceEqDiff, Nat.reduceLT, Nat.reduceAdd, Nat.reduceMul, Nat.reduceSub, Nat.le_refl, eq_self, li_0, li_1, li_2, li_3, li_4, li_5, li_6, li_7, li_8, li_9, li_10, li_11, li_12, li_13, li_14, li_15, li_16, li_17, li_18, li_19, li_20, li_21, li_22, li_23, li_24, li_25, li_26, li_27, li_28, li_29, li_30, li_31, li_32, li_44, li_48, li_57, li_59, li_60, li_61, li_62, li_63, li_97, li_100, li_122, li_123, li_125, li_127, li_255, li_400, li_401, li_800, li_1023, li_1024, li_10827, i_add, i_mul, i_sub, i_p1, i_m1, i_nm, i_nm2, i_cl, i_cl0, vi_ok, i_lt, i_le, i_eq, lg_e, gI_s, gI_c, gI_p, gI_L, gI_R, gL_s, gL_c, gL_p, gL_I, gL_R, gR_s, gR_c, gR_p, gR_I, gR_L]
        · simp (disch := first | assumption | omega) only [true_and, and_true, forall_eq, true_implies, false_implies, implies_true, not_true_eq_false, not_false_eq_true, false_and, and_false, ne_eq, ite_true, ite_false, Nat.reduceLeDiff, Nat.reduceEqDiff, Nat.reduceLT, Nat.reduceAdd, Nat.reduceMul, Nat.reduceSub, Nat.le_refl, eq_self, li_0, li_1, li_2, li_3, li_4, li_5, li_6, li_7, li_8, li_9, li_10, li_11, li_12, li_13, li_14, li_15, li_16, li_17, li_18, li_19, li_20, li_21, li_22, li_23, li_24, li_25, li_26, li_27, li_28, li_29, li_30, li_31, li_32, li_44, li_48, li_57, li_59, li_60, li_61, li_62, li_63, li_97, li_100, li_122, li_123, li_125, li_127, li_255, li_400, li_401, li_800, li_1023, li_1024, li_10827, i_add, i_mul, i_sub, i_p1, i_m1, i_nm, i_nm2, i_cl, i_cl0, vi_ok, i_lt, i_le, i_eq, lg_e, gI_s, gI_c, gI_p, gI_L, gI_R, gL_s, gL_c, gL_p, gL_I, gL_R, gR_s, gR_c, gR_p, gR_I, gR_L]
          rw [(fz 1 12 (fun q => by
            rcases q with q | q
            · have := PMM_no q; omega
            · omega)).1, g3 _ _ (by omega)]
          exact c2
    refine c_X9_map (s_X9_map_0 ⟨is_1, q_has_y hI.c ha ht ⟨fun _ => ?_, fun z => absurd z (by decide)⟩⟩)
    simp (disch := first | assumption | omega) only [true_and, and_true, forall_eq, true_implies, false_implies, implies_true, not_true_eq_false, not_false_eq_true, false_and, and_false, ne_eq, ite_true, ite_false, Nat.reduceLeDiff, Nat.reduceEqDiff, Nat.reduceLT, Nat.reduceAdd, Nat.reduceMul, Nat.reduceSub, Nat.le_refl, eq_self, li_0, li_1, li_2, li_3, li_4, li_5, li_6, li_7, li_8, li_9, li_10, li_11, li_12, li_13, li_14, li_15, li_16, li_17, li_18, li_19, li_20, li_21, li_22, li_23, li_24, li_25, li_26, li_27, li_28, li_29, li_30, li_31, li_32, li_44, li_48, li_57, li_59, li_60, li_61, li_62, li_63, li_97, li_100, li_122, li_123, li_125, li_127, li_255, li_400, li_401, li_800, li_1023, li_1024, li_10827, i_add, i_mul, i_sub, i_p1, i_m1, i_nm, i_nm2, i_cl, i_cl0, vi_ok, i_lt, i_le, i_eq, lg_e, rf_1_0, rf_1_2, rf_1_4, rf_1_5, rf_1_6, rf_1_7, rf_1_8, rf_1_10, is_1, is_2, sz_2, is_3, sz_3, is_67, sz_67, is_73, sz_73, is_74, sz_74, is_93, sz_93, is_101, sz_101, is_102, sz_102, hA.x ha, isA_x hx]
    refine k_made hr hx t2 t3 (fun h1 J r1 f1 en cr v0 v5 v1 => ?_) (fun h1 J r1 f1 en v0 => ?_)
    · refine ⟨fun _ => ?_, fun z => absurd z (by decide)⟩
      rw [rf_1_6 r1]
      have w := bsW_all t2 J en.1
      refine ⟨is_74, k_X1_many r1 ?_⟩
      rw [if_neg (by rw [v0]; exact i_ne (by omega)), cr.1.1.1]
      refine k_X9_granted ?_
      have fi : Fr (fun c _ => c = 1) h1 (ax_setI h1 1 12 0) := (Fr.refl _ h1).setI rfl
      refine model J True _ _ en r1.setI ((f1.mono (fun _ _ => PA_B)).setI (Or.inr PQ_112)) (fun _ => ⟨⟨cr.1.fr fi (fun c p q => by omega), cr.2.fr fi (fun c p q => by omega)⟩, ?_, ?_, v1, gI_s _ _ _ _, rfl⟩) (fun z => absurd trivial z)
      · rw [gI_c (by omega)]; exact v0
      · rw [gI_c (by omega)]; exact v5
    · refine ⟨fun z => absurd rfl z, fun _ => k_X9_refused ?_⟩
      refine model J False _ _ en r1.setI ((f1.mono (fun _ _ => PA_B)).setI (Or.inr PQ_112)) (fun z => absurd z id) (fun _ => ⟨?_, gI_s _ _ _ _, rfl⟩)
      rw [gI_c (by omega)]; exact v0
  · refine c_X9_map (s_X9_map_0 ⟨is_1, q_has_n hI.c hT ⟨fun z => absurd rfl z, fun _ => k_X9_refused ?_⟩⟩)
    refine c_X12_map (s_X12_map_0 ⟨is_103, ?_⟩)
    intro h2 e2
    obtain ⟨i1, f1, g1⟩ := mIn2 hI.c ((Fr.refl PQ h).setI PQ_112) hI.1.setI e2
    subst e2
    exact q_isApp_n i1 hT ⟨fun z => absurd rfl z, fun _ => ob_ref hI 1 (by decide)⟩
