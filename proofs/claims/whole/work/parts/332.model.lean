def RepBn (h : AH) (y : Nat) (D : AD) : Prop := h.1 y 0 = Int32.ofNat (D 0 0) ∧ h.1 y 1 = Int32.ofNat (D 0 1) ∧ h.1 y 2 = Int32.ofNat (D 0 2)
def RepBw (h : AH) (y : Nat) (D : AD) : Prop := ∀ w, w < D 0 0 → h.2.1 (y + 1) w = Int64.ofNat (D 1 w) ∧ h.1 (y + 5) w = Int32.ofNat (D 6 w) ∧ (∀ k, k < D 6 w → h.1 (y + 6) (6 * w + k) = Int32.ofNat (D 7 (6 * w + k))) ∧ h.1 (y + 7) w = Int32.ofNat (D 8 w)
def RepBv (h : AH) (y : Nat) (D : AD) : Prop := ∀ v, v < D 0 2 → h.2.1 (y + 3) v = Int64.ofNat (D 3 v) ∧ h.1 (y + 4) v = Int32.ofNat (D 4 v) ∧ h.1 (y + 8) v = Int32.ofNat (D 5 v)
def RepBb (h : AH) (y : Nat) (D : AD) : Prop := ∀ b, b < D 0 1 → h.2.1 (y + 2) b = Int64.ofNat (D 2 b) ∧ h.1 (y + 15) b = Int32.ofNat (D 9 b) ∧ h.1 (y + 16) b = Int32.ofNat (D 10 b) ∧ ∀ k, k < D 10 b → h.1 (y + 17) (3 * b + k) = Int32.ofNat (D 11 (3 * b + k)) ∧ h.1 (y + 18) (3 * b + k) = Int32.ofNat (D 12 (3 * b + k)) ∧ h.1 (y + 19) (3 * b + k) = Int32.ofNat (D 13 (3 * b + k))
def RepBd (h : AH) (y : Nat) (D : AD) : Prop := ∀ k, isL D k → h.1 (y + 9) k = Int32.ofNat (D 14 k) ∧ ∀ d, d < D 14 k → h.1 (y + 10) (4 * k + d) = Int32.ofNat (D 15 (4 * k + d)) ∧ (D 15 (4 * k + d) ≠ 1 → h.1 (y + 11) (4 * k + d) = Int32.ofNat (D 16 (4 * k + d))) ∧ (D 15 (4 * k + d) = 2 ∨ D 15 (4 * k + d) = 3 → h.1 (y + 12) (4 * k + d) = Int32.ofNat (D 17 (4 * k + d)))
/-- the model's APP at y is D -/
def RepB (h : AH) (y : Nat) (D : AD) : Prop := RepBn h y D ∧ RepBw h y D ∧ RepBv h y D ∧ RepBb h y D ∧ RepBd h y D
/-- bounds of the CONDS -/
def WfDc (D : AD) : Prop := ∀ b, b < D 0 1 → D 9 b < D 0 0 ∧ D 10 b ≤ 3 ∧ ∀ k, k < D 10 b → D 11 (3 * b + k) < D 0 2 ∧ D 12 (3 * b + k) ≤ 62 ∧ D 13 (3 * b + k) ≤ 9
def WfD (D : AD) : Prop := WfDn D ∧ WfDw D ∧ WfDv D ∧ WfDc D ∧ WfDd D
def pressD (D : AD) (S : AS) (b : Nat) : Prop := 0 < S.2.1 ∧ b < D 0 1 ∧ D 9 b = S.2.2.1 (S.2.1 - 1) ∧ holdsD D S.2.2.2.2 b
theorem RepB.fr {P : Nat → Nat → Prop} {h h1 : AH} {y : Nat} {D : AD} (hB : RepB h y D) (f : Fr P h h1) (e : ∀ c p, y ≤ c → c ≤ y + 19 → ¬ P c p) : RepB h1 y D := by
  have fi : ∀ j p, j ≤ 19 → h1.1 (y + j) p = h.1 (y + j) p := fun j p hj => (f _ p (e _ p (by omega) (by omega))).1
  have fl : ∀ j p, j ≤ 19 → h1.2.1 (y + j) p = h.2.1 (y + j) p := fun j p hj => (f _ p (e _ p (by omega) (by omega))).2.1
  obtain ⟨b1, b2, b3, b4, b5⟩ := hB
  refine ⟨⟨(fi 0 0 (by omega)).trans b1.1, (fi 0 1 (by omega)).trans b1.2.1, (fi 0 2 (by omega)).trans b1.2.2⟩, ?_, ?_, ?_, ?_⟩
  · intro w hw
    rw [fl 1 w (by omega), fi 5 w (by omega), fi 7 w (by omega)]
    refine ⟨(b2 w hw).1, (b2 w hw).2.1, ?_, (b2 w hw).2.2.2⟩
    intro k hk
    rw [fi 6 _ (by omega)]
    exact (b2 w hw).2.2.1 k hk
  · intro v hv
    rw [fl 3 v (by omega), fi 4 v (by omega), fi 8 v (by omega)]
    exact b3 v hv
  · intro b hb
    rw [fl 2 b (by omega), fi 15 b (by omega), fi 16 b (by omega)]
    refine ⟨(b4 b hb).1, (b4 b hb).2.1, (b4 b hb).2.2.1, ?_⟩
    intro k hk
    rw [fi 17 _ (by omega), fi 18 _ (by omega), fi 19 _ (by omega)]
    exact (b4 b hb).2.2.2 k hk
  · intro k hk
    rw [fi 9 k (by omega)]
    refine ⟨(b5 k hk).1, ?_⟩
    intro d hd
    rw [fi 10 _ (by omega), fi 11 _ (by omega), fi 12 _ (by omega)]
    exact (b5 k hk).2 d hd
theorem isB_PS {y : Nat} (hy : isB y) : ∀ c p, y ≤ c → c ≤ y + 19 → ¬ PS c p := by
  intro c p h1 h2 q
  unfold PS at q
  rcases hy with e | e | e <;> omega
theorem k_X12_pressed_cond {l : Launch} {g : AG} {h : AH} {y b m : Nat} {S : AS} {D : AD} {Q : Int32 → AH → Prop} (hr : Refs h) (hy : isB y) (hs : WS (D 0 0) S) (hS : RepS h S) (hD : WfD D) (hB : RepB h y D) (hb : b < D 0 1) (pl : Prop) (hn : ∀ r, r = bI (pl ∧ holdsD D S.2.2.2.2 b) → L_X12_pressed_13 l g h 103 y (Int32.ofNat (m ||| r * 2 ^ b)) (Int32.ofNat (b + 1)) Q) : ∀ d k : Nat, k + d = D 10 b → ∀ r, r = bI (pl ∧ ∀ j, j < k → condOk D S.2.2.2.2 (3 * b + j)) → L_X12_pressed_53 l g h 103 y (Int32.ofNat m) (Int32.ofNat b) (Int32.ofNat r) (Int32.ofNat (3 * b + k)) Q := by
  obtain ⟨hN, hW, hV, hC, hd⟩ := hD
  have hB4 := hB.2.2.2.1 b hb
  have hC4 := hC b hb
  have h24 := hN.2.2.1
  have h6 := hN.2.2.2
  intro d
  induction d with
  | zero =>
    intro k hk r er
    have hr1 : r ≤ 1 := by rw [er]; exact bI_le _
    refine s_X12_pressed_53 ?_
    (try simp (disch := first | assumption | omega) only [true_and, and_true, forall_eq, true_implies, false_implies, implies_true, not_true_eq_false, not_false_eq_true, false_and, and_false, ne_eq, ite_true, ite_false, Nat.reduceLeDiff, Nat.reduceEqDiff, Nat.reduceLT, Nat.reduceAdd, Nat.reduceMul, Nat.reduceSub, Nat.le_refl, eq_self, li_0, li_1, li_2, li_3, li_4, li_5, li_6, li_7, li_8, li_9, li_10, li_11, li_12, li_13, li_14, li_15, li_16, li_17, li_18, li_19, li_20, li_21, li_22, li_23, li_24, li_25, li_26, li_27, li_28, li_29, li_30, li_31, li_32, li_44, li_48, li_57, li_59, li_60, li_61, li_62, li_63, li_97, li_100, li_122, li_123, li_125, li_127, li_255, li_400, li_401, li_800, li_1023, li_1024, li_10827, i_add, i_mul, i_sub, i_p1, i_m1, i_nm, i_nm2, i_cl, i_cl0, vi_ok, i_lt, i_le, i_eq, lg_e, isB_x, rfB_3, rfB_4, rfB_5, rfB_6, rfB_7, rfB_8, rfB_9, rfB_10, rfB_11, rfB_12, rfB_13, rfB_14, rfB_15, rfB_16, rfB_17, rfB_18, rfB_19, rfB_20, rfB_21, isB_1, szB_1, isB_2, szB_2, isB_3, szB_3, isB_4, szB_4, isB_5, szB_5, isB_6, szB_6, isB_7, szB_7, isB_8, szB_8, isB_9, szB_9, isB_10, szB_10, isB_11, szB_11, isB_12, szB_12, isB_13, szB_13, isB_14, szB_14, isB_15, szB_15, isB_16, szB_16, isB_17, szB_17, isB_18, szB_18, isB_19, szB_19, hB4.2.2.1, show 3 * b + D 10 b ≤ 3 * b + k by omega])
    refine ⟨fun c => ?_, fun c => ?_⟩
    · have := hn 0 (by
        rw [bI_f]
        intro q
        rw [c, eq_comm, bI_zero] at er
        exact er ⟨q.1, fun j hj => q.2 j (by omega)⟩)
      rw [Nat.zero_mul] at this
      rw [i_or]
      exact this
    · have e1 : r = 1 := by omega
      have := hn 1 (by
        rw [bI_t]
        rw [e1, eq_comm, bI_one] at er
        exact ⟨er.1, fun j hj => er.2 j (by omega)⟩)
      rw [i_shl _ (by omega), i_or]
      exact this
  | succ d ih =>
    intro k hk r er
    have hr1 : r ≤ 1 := by rw [er]; exact bI_le _
    obtain ⟨o1, o2, o3⟩ := hB4.2.2.2 k (by omega)
    obtain ⟨w1, w2, w3⟩ := hC4.2.2 k (by omega)
    have hv := hs.2.2.2.2.2 (D 11 (3 * b + k)) (by omega)
    refine s_X12_pressed_53 ?_
    (try simp (disch := first | assumption | omega) only [true_and, and_true, forall_eq, true_implies, false_implies, implies_true, not_true_eq_false, not_false_eq_true, false_and, and_false, ne_eq, ite_true, ite_false, Nat.reduceLeDiff, Nat.reduceEqDiff, Nat.reduceLT, Nat.reduceAdd, Nat.reduceMul, Nat.reduceSub, Nat.le_refl, eq_self, li_0, li_1, li_2, li_3, li_4, li_5, li_6, li_7, li_8, li_9, li_10, li_11, li_12, li_13, li_14, li_15, li_16, li_17, li_18, li_19, li_20, li_21, li_22, li_23, li_24, li_25, li_26, li_27, li_28, li_29, li_30, li_31, li_32, li_44, li_48, li_57, li_59, li_60, li_61, li_62, li_63, li_97, li_100, li_122, li_123, li_125, li_127, li_255, li_400, li_401, li_800, li_1023, li_1024, li_10827, i_add, i_mul, i_sub, i_p1, i_m1, i_nm, i_nm2, i_cl, i_cl0, vi_ok, i_lt, i_le, i_eq, lg_e, isB_x, rfB_3, rfB_4, rfB_5, rfB_6, rfB_7, rfB_8, rfB_9, rfB_10, rfB_11, rfB_12, rfB_13, rfB_14, rfB_15, rfB_16, rfB_17, rfB_18, rfB_19, rfB_20, rfB_21, isB_1, szB_1, isB_2, szB_2, isB_3, szB_3, isB_4, szB_4, isB_5, szB_5, isB_6, szB_6, isB_7, szB_7, isB_8, szB_8, isB_9, szB_9, isB_10, szB_10, isB_11, szB_11, isB_12, szB_12, isB_13, szB_13, isB_14, szB_14, isB_15, szB_15, isB_16, szB_16, isB_17, szB_17, isB_18, szB_18, isB_19, szB_19, rf_103_4, rf_103_6, rf_103_7, rf_103_8, rf_103_9, rf_103_10, rf_103_21, rf_103_22, rf_103_23, rf_103_26, rf_103_27, rf_103_28, rf_103_29, rf_103_30, rf_103_31, rf_103_32, rf_103_33, rf_103_34, rf_103_35, rf_103_37, rf_103_38, rf_103_39, rf_103_44, rf_103_45, rf_103_46, rf_103_47, rf_103_48, rf_103_49, rf_103_54, rf_103_55, is_103, is_104, sz_104, is_125, sz_125, is_126, sz_126, is_127, sz_127, is_128, sz_128, is_129, sz_129, is_130, sz_130, is_131, sz_131, is_132, sz_132, is_133, sz_133, is_134, sz_134, is_135, sz_135, is_136, sz_136, is_137, sz_137, is_138, sz_138, is_139, sz_139, is_140, sz_140, is_141, sz_141, is_142, sz_142, is_143, sz_143, is_144, sz_144, is_145, sz_145, is_146, sz_146, is_147, sz_147, is_148, sz_148, is_149, sz_149, is_150, sz_150, is_151, sz_151, is_152, sz_152, is_153, sz_153, hB4.2.2.1, o1, o2, o3, hS.2.2.2 (D 11 (3 * b + k)) (by omega), show ¬ 3 * b + D 10 b ≤ 3 * b + k by omega])
    have key0 : ¬ (pl ∧ ∀ j, j < k + 1 → condOk D S.2.2.2.2 (3 * b + j)) → L_X12_pressed_53 l g h 103 y (Int32.ofNat m) (Int32.ofNat b) (Int32.ofNat 0) (Int32.ofNat (3 * b + k + 1)) Q := fun q => ih (k + 1) (by omega) 0 (by rw [bI_f q])
    have key1 : (pl ∧ ∀ j, j < k + 1 → condOk D S.2.2.2.2 (3 * b + j)) → L_X12_pressed_53 l g h 103 y (Int32.ofNat m) (Int32.ofNat b) (Int32.ofNat 1) (Int32.ofNat (3 * b + k + 1)) Q := fun q => ih (k + 1) (by omega) 1 (by rw [bI_t q])
    refine ⟨fun c => ?_, fun c => ?_⟩
    · rw [c, eq_comm, bI_zero] at er
      exact key0 (fun q => er ⟨q.1, fun j hj => q.2 j (by omega)⟩)
    · have e1 : r = 1 := by omega
      rw [e1, eq_comm, bI_one] at er
      have k1 : condOk D S.2.2.2.2 (3 * b + k) → L_X12_pressed_53 l g h 103 y (Int32.ofNat m) (Int32.ofNat b) (Int32.ofNat 1) (Int32.ofNat (3 * b + k + 1)) Q := by
        intro q
        refine key1 ⟨er.1, fun j hj => ?_⟩
        by_cases e : j = k
        · rw [e]; exact q
        · exact er.2 j (by omega)
      have k0 : ¬ condOk D S.2.2.2.2 (3 * b + k) → L_X12_pressed_53 l g h 103 y (Int32.ofNat m) (Int32.ofNat b) (Int32.ofNat 0) (Int32.ofNat (3 * b + k + 1)) Q := fun q => key0 (fun z => q (z.2 k (by omega)))
      unfold condOk at k0 k1
      refine ⟨fun s1 => ⟨fun s2 => ⟨fun z => ?_, fun z => ?_⟩, fun s2 => ⟨fun z => ?_, fun z => ?_⟩⟩, fun s1 => ⟨fun z => ?_, fun z => ?_⟩⟩
      · rw [if_neg s1, if_neg s2] at k0; exact k0 (by omega)
      · rw [if_neg s1, if_neg s2] at k1; exact k1 (by omega)
      · rw [if_neg s1, if_pos s2] at k0; exact k0 (by omega)
      · rw [if_neg s1, if_pos s2] at k1; exact k1 (by omega)
      · rw [if_pos s1] at k0; exact k0 (by omega)
      · rw [if_pos s1] at k1; exact k1 (by omega)
theorem k_X12_pressed_loop {l : Launch} {g : AG} {h : AH} {y n : Nat} {S : AS} {D : AD} {Q : Int32 → AH → Prop} (hr : Refs h) (hy : isB y) (hs : WS (D 0 0) S) (hS : RepS h S) (hD : WfD D) (hB : RepB h y D) (hn : S.2.1 = n + 1) (hq : Q (Int32.ofNat (bsum (pressD D S) (D 0 1))) h) : ∀ d b : Nat, b + d = D 0 1 → L_X12_pressed_13 l g h 103 y (Int32.ofNat (bsum (pressD D S) b)) (Int32.ofNat b) Q := by
  have hN := hD.1
  have h24 := hN.2.2.1
  have h8 := hN.2.1
  have h5 := hs.2.1
  have hw := hs.2.2.2.2.1 n (by omega)
  have hSn := hS.2.2.1 n (by omega)
  intro d
  induction d with
  | zero =>
    intro b hb
    refine s_X12_pressed_13 ?_
    (try simp (disch := first | assumption | omega) only [true_and, and_true, forall_eq, true_implies, false_implies, implies_true, not_true_eq_false, not_false_eq_true, false_and, and_false, ne_eq, ite_true, ite_false, Nat.reduceLeDiff, Nat.reduceEqDiff, Nat.reduceLT, Nat.reduceAdd, Nat.reduceMul, Nat.reduceSub, Nat.le_refl, eq_self, li_0, li_1, li_2, li_3, li_4, li_5, li_6, li_7, li_8, li_9, li_10, li_11, li_12, li_13, li_14, li_15, li_16, li_17, li_18, li_19, li_20, li_21, li_22, li_23, li_24, li_25, li_26, li_27, li_28, li_29, li_30, li_31, li_32, li_44, li_48, li_57, li_59, li_60, li_61, li_62, li_63, li_97, li_100, li_122, li_123, li_125, li_127, li_255, li_400, li_401, li_800, li_1023, li_1024, li_10827, i_add, i_mul, i_sub, i_p1, i_m1, i_nm, i_nm2, i_cl, i_cl0, vi_ok, i_lt, i_le, i_eq, lg_e, isB_x, rfB_3, rfB_4, rfB_5, rfB_6, rfB_7, rfB_8, rfB_9, rfB_10, rfB_11, rfB_12, rfB_13, rfB_14, rfB_15, rfB_16, rfB_17, rfB_18, rfB_19, rfB_20, rfB_21, isB_1, szB_1, isB_2, szB_2, isB_3, szB_3, isB_4, szB_4, isB_5, szB_5, isB_6, szB_6, isB_7, szB_7, isB_8, szB_8, isB_9, szB_9, isB_10, szB_10, isB_11, szB_11, isB_12, szB_12, isB_13, szB_13, isB_14, szB_14, isB_15, szB_15, isB_16, szB_16, isB_17, szB_17, isB_18, szB_18, isB_19, szB_19, hB.1.2.1, show D 0 1 ≤ b by omega])
    rw [show b = D 0 1 by omega]
    exact hq
  | succ d ih =>
    intro b hb
    have hB4 := hB.2.2.2.1 b (by omega)
    have hC4 := hD.2.2.2.1 b (by omega)
    have go : ∀ (pl : Prop) (r : Nat), r = bI pl → (pl ↔ D 9 b = S.2.2.1 n) → L_X12_pressed_53 l g h 103 y (Int32.ofNat (bsum (pressD D S) b)) (Int32.ofNat b) (Int32.ofNat r) (Int32.ofNat (3 * b)) Q := by
      intro pl r er hp
      refine k_X12_pressed_cond hr hy hs hS hD hB (by omega) pl ?_ (D 10 b) 0 (by omega) r (by rw [er]; exact bI_congr ⟨fun z => ⟨z, fun j hj => absurd hj (Nat.not_lt_zero j)⟩, fun z => z.1⟩)
      intro r2 e2
      have e3 : r2 = bI (pressD D S b) := by
        rw [e2]
        refine bI_congr ⟨fun z => ⟨by omega, by omega, ?_, z.2⟩, fun z => ⟨hp.2 ?_, z.2.2.2⟩⟩
        · rw [hn]; exact hp.1 z.1
        · have := z.2.2.1; rw [hn] at this; exact this
      rw [e3, bsum_or]
      exact ih (b + 1) (by omega)
    refine s_X12_pressed_13 ?_
    (try simp (disch := first | assumption | omega) only [true_and, and_true, forall_eq, true_implies, false_implies, implies_true, not_true_eq_false, not_false_eq_true, false_and, and_false, ne_eq, ite_true, ite_false, Nat.reduceLeDiff, Nat.reduceEqDiff, Nat.reduceLT, Nat.reduceAdd, Nat.reduceMul, Nat.reduceSub, Nat.le_refl, eq_self, li_0, li_1, li_2, li_3, li_4, li_5, li_6, li_7, li_8, li_9, li_10, li_11, li_12, li_13, li_14, li_15, li_16, li_17, li_18, li_19, li_20, li_21, li_22, li_23, li_24, li_25, li_26, li_27, li_28, li_29, li_30, li_31, li_32, li_44, li_48, li_57, li_59, li_60, li_61, li_62, li_63, li_97, li_100, li_122, li_123, li_125, li_127, li_255, li_400, li_401, li_800, li_1023, li_1024, li_10827, i_add, i_mul, i_sub, i_p1, i_m1, i_nm, i_nm2, i_cl, i_cl0, vi_ok, i_lt, i_le, i_eq, lg_e, isB_x, rfB_3, rfB_4, rfB_5, rfB_6, rfB_7, rfB_8, rfB_9, rfB_10, rfB_11, rfB_12, rfB_13, rfB_14, rfB_15, rfB_16, rfB_17, rfB_18, rfB_19, rfB_20, rfB_21, isB_1, szB_1, isB_2, szB_2, isB_3, szB_3, isB_4, szB_4, isB_5, szB_5, isB_6, szB_6, isB_7, szB_7, isB_8, szB_8, isB_9, szB_9, isB_10, szB_10, isB_11, szB_11, isB_12, szB_12, isB_13, szB_13, isB_14, szB_14, isB_15, szB_15, isB_16, szB_16, isB_17, szB_17, isB_18, szB_18, isB_19, szB_19, rf_103_4, rf_103_6, rf_103_7, rf_103_8, rf_103_9, rf_103_10, rf_103_21, rf_103_22, rf_103_23, rf_103_26, rf_103_27, rf_103_28, rf_103_29, rf_103_30, rf_103_31, rf_103_32, rf_103_33, rf_103_34, rf_103_35, rf_103_37, rf_103_38, rf_103_39, rf_103_44, rf_103_45, rf_103_46, rf_103_47, rf_103_48, rf_103_49, rf_103_54, rf_103_55, is_103, is_104, sz_104, is_125, sz_125, is_126, sz_126, is_127, sz_127, is_128, sz_128, is_129, sz_129, is_130, sz_130, is_131, sz_131, is_132, sz_132, is_133, sz_133, is_134, sz_134, is_135, sz_135, is_136, sz_136, is_137, sz_137, is_138, sz_138, is_139, sz_139, is_140, sz_140, is_141, sz_141, is_142, sz_142, is_143, sz_143, is_144, sz_144, is_145, sz_145, is_146, sz_146, is_147, sz_147, is_148, sz_148, is_149, sz_149, is_150, sz_150, is_151, sz_151, is_152, sz_152, is_153, sz_153, hB.1.2.1, hB4.2.1, hS.2.1, hn, Nat.add_sub_cancel, hSn.1, show ¬ D 0 1 ≤ b by omega])
    refine ⟨fun c => ?_, fun c => ?_⟩
    · exact go False 0 (by rw [bI_f id]) ⟨False.elim, c⟩
    · exact go True 1 (by rw [bI_t trivial]) ⟨fun _ => c, fun _ => trivial⟩
theorem k_X12_pressed {l : Launch} {g : AG} {h : AH} {y : Nat} {S : AS} {D : AD} {Q : Int32 → AH → Prop} (hr : Refs h) (hy : isB y) (hs : WS (D 0 0) S) (hS : RepS h S) (hD : WfD D) (hB : RepB h y D) (hq : Q (Int32.ofNat (bsum (pressD D S) 24)) h) : C_X12_pressed l g h 103 y Q := by
  have hf : S.1 ≤ 20 := by
    by_cases c : S.2.1 = 0
    · exact (hs.2.2.1 c).2
    · have := hs.2.2.2.1 (by omega); omega
  refine c_X12_pressed (s_X12_pressed_0 ?_)
  (try simp (disch := first | assumption | omega) only [true_and, and_true, forall_eq, true_implies, false_implies, implies_true, not_true_eq_false, not_false_eq_true, false_and, and_false, ne_eq, ite_true, ite_false, Nat.reduceLeDiff, Nat.reduceEqDiff, Nat.reduceLT, Nat.reduceAdd, Nat.reduceMul, Nat.reduceSub, Nat.le_refl, eq_self, li_0, li_1, li_2, li_3, li_4, li_5, li_6, li_7, li_8, li_9, li_10, li_11, li_12, li_13, li_14, li_15, li_16, li_17, li_18, li_19, li_20, li_21, li_22, li_23, li_24, li_25, li_26, li_27, li_28, li_29, li_30, li_31, li_32, li_44, li_48, li_57, li_59, li_60, li_61, li_62, li_63, li_97, li_100, li_122, li_123, li_125, li_127, li_255, li_400, li_401, li_800, li_1023, li_1024, li_10827, i_add, i_mul, i_sub, i_p1, i_m1, i_nm, i_nm2, i_cl, i_cl0, vi_ok, i_lt, i_le, i_eq, lg_e, rf_103_4, rf_103_6, rf_103_7, rf_103_8, rf_103_9, rf_103_10, rf_103_21, rf_103_22, rf_103_23, rf_103_26, rf_103_27, rf_103_28, rf_103_29, rf_103_30, rf_103_31, rf_103_32, rf_103_33, rf_103_34, rf_103_35, rf_103_37, rf_103_38, rf_103_39, rf_103_44, rf_103_45, rf_103_46, rf_103_47, rf_103_48, rf_103_49, rf_103_54, rf_103_55, is_103, is_104, sz_104, is_125, sz_125, is_126, sz_126, is_127, sz_127, is_128, sz_128, is_129, sz_129, is_130, sz_130, is_131, sz_131, is_132, sz_132, is_133, sz_133, is_134, sz_134, is_135, sz_135, is_136, sz_136, is_137, sz_137, is_138, sz_138, is_139, sz_139, is_140, sz_140, is_141, sz_141, is_142, sz_142, is_143, sz_143, is_144, sz_144, is_145, sz_145, is_146, sz_146, is_147, sz_147, is_148, sz_148, is_149, sz_149, is_150, sz_150, is_151, sz_151, is_152, sz_152, is_153, sz_153, hS.1])
  refine ⟨fun c => ?_, fun c => ?_⟩
  · have h0 : S.2.1 ≠ 0 := fun q => by have := (hs.2.2.1 q).1; omega
    obtain ⟨n, hn⟩ : ∃ n, S.2.1 = n + 1 := ⟨S.2.1 - 1, by omega⟩
    refine k_X12_pressed_loop hr hy hs hS hD hB hn ?_ (D 0 1) 0 (by omega)
    rw [bsum_none 24 (fun a ha z => by have := z.2.1; omega) hD.1.2.2.1] at hq
    exact hq
  · have h0 : S.2.1 = 0 := by
      rcases Nat.eq_zero_or_pos S.2.1 with q | q
      · exact q
      · have := hs.2.2.2.1 q; omega
    rw [bsum_none (m := 0) 24 (fun a ha z => by have := z.1; omega) (by omega)] at hq
    exact hq
theorem bsum_poss (D : AD) (S : AS) (hB : D 0 1 ≤ 24) : bsum (possD D S) 27 = bsum (pressD D S) 24 + bI (0 < S.2.1) * 16777216 + bI (1 < S.2.1) * 33554432 + 67108864 := by
  have e : bsum (possD D S) 24 = bsum (pressD D S) 24 := by
    refine bsum_congr 24 (fun a ha => ⟨fun z => ?_, fun z => Or.inr ⟨z.1, Or.inr (Or.inr ⟨z.2.1, z.2.2.1, z.2.2.2⟩)⟩⟩)
    rcases z with z | ⟨z0, z | z | z⟩
    · omega
    · omega
    · omega
    · exact ⟨z0, z⟩
  show bsum (possD D S) 24 + bI (possD D S 24) * 2 ^ 24 + bI (possD D S 25) * 2 ^ 25 + bI (possD D S 26) * 2 ^ 26 = _
  rw [e, bI_t (p := possD D S 26) (Or.inl rfl)]
  rw [bI_congr (p := possD D S 24) (q := 0 < S.2.1) ⟨fun z => by rcases z with z | z; omega; exact z.1, fun z => Or.inr ⟨z, Or.inl rfl⟩⟩]
  rw [bI_congr (p := possD D S 25) (q := 1 < S.2.1) ⟨fun z => by
    rcases z with z | ⟨z0, z | z | z⟩
    · omega
    · omega
    · exact z.2
    · have := z.1; omega, fun z => Or.inr ⟨by omega, Or.inr (Or.inl ⟨rfl, z⟩)⟩⟩]
theorem n_or3 {p a b : Nat} (hp : p < 16777216) (ha : a ≤ 1) (hb : b ≤ 1) : (p ||| 67108864) ||| (a * 16777216) ||| (b * 33554432) = p + a * 16777216 + b * 33554432 + 67108864 := by
  have e1 : p ||| 67108864 = 4 * 2 ^ 24 + p := by
    rw [Nat.or_comm]
    exact n_or (a := 4) (k := 24) hp
  have e2 : (4 * 2 ^ 24 + p) ||| (a * 16777216) = (4 ||| a) * 2 ^ 24 + p := by
    have := n_splitO (k := 24) (hi := 4) (lo := p) (mhi := a) (mlo := 0) hp (by decide)
    rw [Nat.or_zero, Nat.add_zero] at this
    exact this
  have e3 : ((4 ||| a) * 2 ^ 24 + p) ||| (b * 33554432) = ((4 ||| a) ||| (b * 2)) * 2 ^ 24 + p := by
    have := n_splitO (k := 24) (hi := 4 ||| a) (lo := p) (mhi := b * 2) (mlo := 0) hp (by decide)
    rw [Nat.or_zero, Nat.add_zero, Nat.mul_assoc] at this
    exact this
  rw [e1, e2, e3]
  have ha2 : a = 0 ∨ a = 1 := by omega
  have hb2 : b = 0 ∨ b = 1 := by omega
  rcases ha2 with rfl | rfl <;> rcases hb2 with rfl | rfl
  · rw [show ((4 ||| 0) ||| (0 * 2)) = 4 from rfl]; omega
  · rw [show ((4 ||| 0) ||| (1 * 2)) = 6 from rfl]; omega
  · rw [show ((4 ||| 1) ||| (0 * 2)) = 5 from rfl]; omega
  · rw [show ((4 ||| 1) ||| (1 * 2)) = 7 from rfl]; omega
theorem k_X12_possible {l : Launch} {g : AG} {h : AH} {y : Nat} {S : AS} {D : AD} {Q : Int32 → AH → Prop} (hr : Refs h) (hy : isB y) (hs : WS (D 0 0) S) (hS : RepS h S) (hD : WfD D) (hB : RepB h y D) (hq : Q (Int32.ofNat (bsum (possD D S) 27)) h) : C_X12_possible l g h 103 y Q := by
  have hp := bsum_lt (pressD D S) 24
  have h5 := hs.2.1
  rw [bsum_poss D S hD.1.2.2.1] at hq
  have fin : ∀ a b : Nat, a = bI (0 < S.2.1) → b = bI (1 < S.2.1) → Q (Int32.ofNat (bsum (pressD D S) 24 ||| 67108864 ||| (a * 16777216) ||| (b * 33554432))) h := by
    intro a b ea eb
    rw [n_or3 hp (by rw [ea]; exact bI_le _) (by rw [eb]; exact bI_le _), ea, eb]
    exact hq
  refine c_X12_possible (s_X12_possible_0 ?_)
  refine ⟨is_103, isB_x hy, k_X12_pressed hr hy hs hS hD hB ?_⟩
  by_cases c0 : S.2.1 = 0
  · have h1 := (hs.2.2.1 c0)
    rw [hS.1]
    (try simp (disch := first | assumption | omega) only [true_and, and_true, forall_eq, true_implies, false_implies, implies_true, not_true_eq_false, not_false_eq_true, false_and, and_false, ne_eq, ite_true, ite_false, Nat.reduceLeDiff, Nat.reduceEqDiff, Nat.reduceLT, Nat.reduceAdd, Nat.reduceMul, Nat.reduceSub, Nat.le_refl, eq_self, li_0, li_1, li_2, li_3, li_4, li_5, li_6, li_7, li_8, li_9, li_10, li_11, li_12, li_13, li_14, li_15, li_16, li_17, li_18, li_19, li_20, li_21, li_22, li_23, li_24, li_25, li_26, li_27, li_28, li_29, li_30, li_31, li_32, li_44, li_48, li_57, li_59, li_60, li_61, li_62, li_63, li_97, li_100, li_122, li_123, li_125, li_127, li_255, li_400, li_401, li_800, li_1023, li_1024, li_10827, i_add, i_mul, i_sub, i_p1, i_m1, i_nm, i_nm2, i_cl, i_cl0, vi_ok, i_lt, i_le, i_eq, lg_e, show ¬ S.1 ≤ 0 by omega])
    refine s_X12_possible_23 ?_
    rw [hS.1]
    (try simp (disch := first | assumption | omega) only [true_and, and_true, forall_eq, true_implies, false_implies, implies_true, not_true_eq_false, not_false_eq_true, false_and, and_false, ne_eq, ite_true, ite_false, Nat.reduceLeDiff, Nat.reduceEqDiff, Nat.reduceLT, Nat.reduceAdd, Nat.reduceMul, Nat.reduceSub, Nat.le_refl, eq_self, li_0, li_1, li_2, li_3, li_4, li_5, li_6, li_7, li_8, li_9, li_10, li_11, li_12, li_13, li_14, li_15, li_16, li_17, li_18, li_19, li_20, li_21, li_22, li_23, li_24, li_25, li_26, li_27, li_28, li_29, li_30, li_31, li_32, li_44, li_48, li_57, li_59, li_60, li_61, li_62, li_63, li_97, li_100, li_122, li_123, li_125, li_127, li_255, li_400, li_401, li_800, li_1023, li_1024, li_10827, i_add, i_mul, i_sub, i_p1, i_m1, i_nm, i_nm2, i_cl, i_cl0, vi_ok, i_lt, i_le, i_eq, lg_e, is_103, show 0 < S.1 by omega])
    rw [show (67108864 : Int32) = Int32.ofNat 67108864 from rfl, i_or, i_or, i_or]
    exact fin 0 0 (by rw [bI_f (by omega)]) (by rw [bI_f (by omega)])
  · have h1 := hs.2.2.2.1 (by omega)
    rw [hS.1]
    (try simp (disch := first | assumption | omega) only [true_and, and_true, forall_eq, true_implies, false_implies, implies_true, not_true_eq_false, not_false_eq_true, false_and, and_false, ne_eq, ite_true, ite_false, Nat.reduceLeDiff, Nat.reduceEqDiff, Nat.reduceLT, Nat.reduceAdd, Nat.reduceMul, Nat.reduceSub, Nat.le_refl, eq_self, li_0, li_1, li_2, li_3, li_4, li_5, li_6, li_7, li_8, li_9, li_10, li_11, li_12, li_13, li_14, li_15, li_16, li_17, li_18, li_19, li_20, li_21, li_22, li_23, li_24, li_25, li_26, li_27, li_28, li_29, li_30, li_31, li_32, li_44, li_48, li_57, li_59, li_60, li_61, li_62, li_63, li_97, li_100, li_122, li_123, li_125, li_127, li_255, li_400, li_401, li_800, li_1023, li_1024, li_10827, i_add, i_mul, i_sub, i_p1, i_m1, i_nm, i_nm2, i_cl, i_cl0, vi_ok, i_lt, i_le, i_eq, lg_e, show S.1 ≤ 0 by omega])
    refine s_X12_possible_23 ?_
    rw [hS.1, hS.2.1]
    (try simp (disch := first | assumption | omega) only [true_and, and_true, forall_eq, true_implies, false_implies, implies_true, not_true_eq_false, not_false_eq_true, false_and, and_false, ne_eq, ite_true, ite_false, Nat.reduceLeDiff, Nat.reduceEqDiff, Nat.reduceLT, Nat.reduceAdd, Nat.reduceMul, Nat.reduceSub, Nat.le_refl, eq_self, li_0, li_1, li_2, li_3, li_4, li_5, li_6, li_7, li_8, li_9, li_10, li_11, li_12, li_13, li_14, li_15, li_16, li_17, li_18, li_19, li_20, li_21, li_22, li_23, li_24, li_25, li_26, li_27, li_28, li_29, li_30, li_31, li_32, li_44, li_48, li_57, li_59, li_60, li_61, li_62, li_63, li_97, li_100, li_122, li_123, li_125, li_127, li_255, li_400, li_401, li_800, li_1023, li_1024, li_10827, i_add, i_mul, i_sub, i_p1, i_m1, i_nm, i_nm2, i_cl, i_cl0, vi_ok, i_lt, i_le, i_eq, lg_e, is_103, show ¬ 0 < S.1 by omega])
    rw [show (67108864 : Int32) = Int32.ofNat 67108864 from rfl, show (16777216 : Int32) = Int32.ofNat 16777216 from rfl, show (33554432 : Int32) = Int32.ofNat 33554432 from rfl, i_or, i_or, i_or, i_or]
    refine ⟨fun c => ?_, fun c => ?_⟩
    · exact fin 1 1 (by rw [bI_t (by omega)]) (by rw [bI_t (by omega)])
    · exact fin 1 0 (by rw [bI_t (by omega)]) (by rw [bI_f (by omega)])
