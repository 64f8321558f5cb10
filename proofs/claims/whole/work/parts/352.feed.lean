theorem nar_byte (v : Int32) : vp_nar .byte v = v.toInt8.toInt32 := rfl
theorem nar_b1 : vp_nar .boolean (Int32.ofNat 1) = Int32.ofNat 1 := rfl
theorem nar_b0 : vp_nar .boolean (Int32.ofNat 0) = Int32.ofNat 0 := rfl
theorem b255 : ∀ i : Fin 32, (255#32).getLsbD i.1 = decide (i.1 < 8) := by decide
theorem i_sshr (x : Int32) {s : Nat} (hs : s < 32) : (jishr x (Int32.ofNat s)).toBitVec = x.toBitVec.sshiftRight s := by
  unfold jishr
  rw [i_m31 hs, Int32.toBitVec_shiftRight, Int32.toBitVec_ofNat', i_smod ⟨s, hs⟩, BitVec.sshiftRight', BitVec.toNat_ofNat, Nat.mod_eq_of_lt (by omega)]
theorem i_usshr (x : Int32) {s : Nat} (hs : s < 32) : (jiushr x (Int32.ofNat s)).toBitVec = x.toBitVec >>> s := by
  unfold jiushr
  have e : (Int32.ofNat s).toUInt32 &&& Int32.toUInt32 31 = UInt32.ofNat s := by
    rw [← Int32.toUInt32_and, i_m31 hs]
    rfl
  rw [e]
  apply BitVec.eq_of_toNat_eq
  show (x.toUInt32 >>> UInt32.ofNat s).toNat = _
  rw [UInt32.toNat_shiftRight, UInt32.toNat_ofNat', Nat.mod_eq_of_lt (show s < 2 ^ 32 by omega), Nat.mod_eq_of_lt hs, BitVec.toNat_ushiftRight]
  rfl
theorem feed_eq (x : Int32) {s : Nat} (hs : s ≤ 24) : vp_nar .byte ((jishr x (Int32.ofNat s)).toInt8.toInt32) &&& 255 = jiushr x (Int32.ofNat s) &&& 255 := by
  rw [nar_byte]
  apply Int32.toBitVec_inj.1
  rw [Int32.toBitVec_and, Int32.toBitVec_and, i_usshr x (by omega), Int8.toBitVec_toInt32, Int32.toBitVec_toInt8, Int8.toBitVec_toInt32, Int32.toBitVec_toInt8, i_sshr x (by omega)]
  apply BitVec.eq_of_getLsbD_eq
  intro i hi
  rw [BitVec.getLsbD_and, BitVec.getLsbD_and, show (255 : Int32).toBitVec = 255#32 from rfl, b255 ⟨i, hi⟩]
  by_cases c : i < 8
  · have c1 : i < 32 := by omega
    simp only [BitVec.getLsbD_signExtend, BitVec.getLsbD_sshiftRight, BitVec.getLsbD_ushiftRight, c, c1, if_true, decide_true, Bool.true_and, Bool.and_true, show s + i < 32 by omega, show ¬ 32 ≤ i by omega, decide_false, Bool.not_false]
  · simp only [c, decide_false, Bool.and_false]
theorem i_255 (v : Int32) : ∃ T, T < 256 ∧ v &&& 255 = Int32.ofNat T := by
  refine ⟨v.toBitVec.toNat % 256, Nat.mod_lt _ (by decide), ?_⟩
  have e : v = Int32.ofNat v.toBitVec.toNat := by
    apply Int32.toBitVec_inj.1
    rw [Int32.toBitVec_ofNat', BitVec.ofNat_toNat, BitVec.setWidth_eq]
  conv => lhs; rw [e]
  rw [show (255 : Int32) = Int32.ofNat (2 ^ 8 - 1) from rfl, i_and, n_and]
/-- byte j of the five ints -/
def fed (x1 x2 x3 x4 x5 : Int32) (j : Nat) : Int32 := jiushr (if j < 4 then x1 else if j < 8 then x2 else if j < 12 then x3 else if j < 16 then x4 else x5) (Int32.ofNat (24 - 8 * (j % 4))) &&& 255
def PT (c p : Nat) : Prop := c = 2 ∨ (c = 1 ∧ p = 1)
theorem k_wind {l : Launch} {g : AG} {x : Int32} {n : Nat} {Q : AH → Prop} {h0 : AH} (hn : n + 4 ≤ 800) (hq : ∀ h', Refs h' → Fr PT h0 h' → h'.1 1 1 = Int32.ofNat (n + 4) → (∀ k, k < n → h'.1 2 k = h0.1 2 k) → (∀ j, j < 4 → h'.1 2 (n + j) = jiushr x (Int32.ofNat (24 - 8 * j)) &&& 255) → Q h') : ∀ d j : Nat, j + d = 4 → ∀ h, Refs h → Fr PT h0 h → h.1 1 1 = Int32.ofNat (n + j) → (∀ k, k < n → h.1 2 k = h0.1 2 k) → (∀ i, i < j → h.1 2 (n + i) = jiushr x (Int32.ofNat (24 - 8 * i)) &&& 255) → L_X9_wind_3 l g h 1 x (if j = 4 then -8 else Int32.ofNat (24 - 8 * j)) Q := by
  intro d
  induction d with
  | zero =>
    intro j hj h hr hf h1 h2 h3
    have : j = 4 := by omega
    subst this
    refine s_X9_wind_3 ⟨fun _ => hq h hr hf h1 h2 h3, fun c => absurd (by decide) c⟩
  | succ d ih =>
    intro j hj h hr hf h1 h2 h3
    have nx : (if j + 1 = 4 then (-8 : Int32) else Int32.ofNat (24 - 8 * (j + 1))) = Int32.ofNat (24 - 8 * j) + (-8) := by
      have : j = 0 ∨ j = 1 ∨ j = 2 ∨ j = 3 := by omega
      rcases this with rfl | rfl | rfl | rfl <;> decide
    rw [if_neg (by omega)]
    refine s_X9_wind_3 ⟨fun c => absurd c (i_nn (by omega)), fun _ => ?_⟩
    rw [h1, ← nx]
    refine ⟨is_1, fun c => absurd ((i_le (a := 800) (by omega) (by omega)).1 c) (by omega), fun _ => ?_⟩
    rw [rf_1_0 hr, sz_2, i_cl (by omega)]
    refine ⟨is_2, vi_ok (by omega) (by omega), ?_⟩
    intro h6 e6 h8 e8 v10 e10
    rw [e10]
    refine ih (j + 1) (by omega) h8 ?_ ?_ ?_ ?_ ?_
    · rw [e8, e6]; exact hr.setI.setI
    · rw [e8, e6]; exact (hf.setI (Or.inl rfl)).setI (Or.inr ⟨rfl, rfl⟩)
    · rw [e8, e6]; simp (disch := first | assumption | omega) only [true_and, and_true, forall_eq, true_implies, false_implies, implies_true, not_true_eq_false, not_false_eq_true, false_and, and_false, ne_eq, ite_true, ite_false, Nat.reduceLeDiff, Nat.reduceEqDiff, Nat.reduceLT, Nat.reduceAdd, Nat.reduceMul, Nat.reduceSub, Nat.le_refl, eq_self, li_0, li_1, li_2, li_3, li_4, li_5, li_6, li_7, li_8, li_9, li_10, li_11, li_12, li_13, li_14, li_15, li_16, li_17, li_18, li_19, li_20, li_21, li_22, li_23, li_24, li_25, li_26, li_27, li_28, li_29, li_30, li_31, li_32, li_44, li_48, li_57, li_59, li_60, li_61, li_62, li_63, li_97, li_100, li_122, li_123, li_125, li_127, li_255, li_400, li_401, li_800, li_1023, li_1024, li_10827, i_add, i_mul, i_sub, i_p1, i_m1, i_nm, i_nm2, i_cl, i_cl0, vi_ok, i_lt, i_le, i_eq, lg_e, gI_s, gI_c, gI_p, gI_L, gI_R, gL_s, gL_c, gL_p, gL_I, gL_R, gR_s, gR_c, gR_p, gR_I, gR_L, h1]; rfl
    · intro k hk
      rw [e8, e6]; simp (disch := first | assumption | omega) only [true_and, and_true, forall_eq, true_implies, false_implies, implies_true, not_true_eq_false, not_false_eq_true, false_and, and_false, ne_eq, ite_true, ite_false, Nat.reduceLeDiff, Nat.reduceEqDiff, Nat.reduceLT, Nat.reduceAdd, Nat.reduceMul, Nat.reduceSub, Nat.le_refl, eq_self, li_0, li_1, li_2, li_3, li_4, li_5, li_6, li_7, li_8, li_9, li_10, li_11, li_12, li_13, li_14, li_15, li_16, li_17, li_18, li_19, li_20, li_21, li_22, li_23, li_24, li_25, li_26, li_27, li_28, li_29, li_30, li_31, li_32, li_44, li_48, li_57, li_59, li_60, li_61, li_62, li_63, li_97, li_100, li_122, li_123, li_125, li_127, li_255, li_400, li_401, li_800, li_1023, li_1024, li_10827, i_add, i_mul, i_sub, i_p1, i_m1, i_nm, i_nm2, i_cl, i_cl0, vi_ok, i_lt, i_le, i_eq, lg_e, gI_s, gI_c, gI_p, gI_L, gI_R, gL_s, gL_c, gL_p, gL_I, gL_R, gR_s, gR_c, gR_p, gR_I, gR_L]; exact h2 k hk
    · intro i hi
      rw [e8, e6]
      by_cases c : i = j
      · subst c
        rw [gI_c (by omega), gI_s]
      · rw [gI_c (by omega), gI_p (by omega)]
        exact h3 i (by omega)
theorem k_X9_wind {l : Launch} {g : AG} {x : Int32} {n : Nat} {Q : AH → Prop} {h : AH} (hn : n + 4 ≤ 800) (hr : Refs h) (h1 : h.1 1 1 = Int32.ofNat n) (hq : ∀ h', Refs h' → Fr PT h h' → h'.1 1 1 = Int32.ofNat (n + 4) → (∀ k, k < n → h'.1 2 k = h.1 2 k) → (∀ j, j < 4 → h'.1 2 (n + j) = jiushr x (Int32.ofNat (24 - 8 * j)) &&& 255) → Q h') : C_X9_wind l g h 1 x Q := by
  refine c_X9_wind (s_X9_wind_0 ?_)
  exact k_wind hn hq 4 0 rfl h hr (Fr.refl _ _) h1 (fun _ _ => rfl) (fun i hi => absurd hi (Nat.not_lt_zero i))
def PT2 (c p : Nat) : Prop := c = 129 ∨ (c = 103 ∧ (p = 0 ∨ p = 11))
theorem k_feed2 {l : Launch} {g : AG} {x1 x2 x3 x4 x5 : Int32} {n : Nat} {Q : Int32 → AH → Prop} {h0 : AH} (hn : n + 20 ≤ 800) (hq : ∀ h', Refs h' → Fr PT2 h0 h' → h'.1 103 11 = Int32.ofNat (n + 20) → (∀ k, k < n → h'.1 129 k = h0.1 129 k) → (∀ j, j < 20 → h'.1 129 (n + j) &&& 255 = fed x1 x2 x3 x4 x5 j) → Q (Int32.ofNat (n + 20)) h') : ∀ d j : Nat, j + d = 20 → ∀ h, Refs h → Fr PT2 h0 h → h.1 103 11 = Int32.ofNat (n + j) → (∀ k, k < n → h.1 129 k = h0.1 129 k) → (∀ i, i < j → h.1 129 (n + i) &&& 255 = fed x1 x2 x3 x4 x5 i) → L_X12_feed_23 l g h 103 x1 x2 x3 x4 x5 (Int32.ofNat j) Q := by
  intro d
  induction d with
  | zero =>
    intro j hj h hr hf h1 h2 h3
    have : j = 20 := by omega
    subst this
    refine s_X12_feed_23 ⟨fun _ => ⟨is_103, ?_⟩, fun c => absurd (by decide) c⟩
    rw [h1]
    exact hq h hr hf h1 h2 h3
  | succ d ih =>
    intro j hj h hr hf h1 h2 h3
    have go : ∀ s0 : Int32, s0 = (if j < 4 then x1 else if j < 8 then x2 else if j < 12 then x3 else if j < 16 then x4 else x5) → L_X12_feed_76 l g h 103 x1 x2 x3 x4 x5 (Int32.ofNat j) s0 Q := by
      intro s0 e0
      refine s_X12_feed_76 ?_
      have es : (24 : Int32) - 8 * jirem (Int32.ofNat j) 4 = Int32.ofNat (24 - 8 * (j % 4)) := by
        rw [show (4 : Int32) = Int32.ofNat 4 from rfl, i_rem (by omega) (by omega) (by omega), show (8 : Int32) = Int32.ofNat 8 from rfl, show (24 : Int32) = Int32.ofNat 24 from rfl, i_mul, i_sub (by omega)]
      rw [es, rf_103_10 hr, sz_129, h1, i_cl (by omega)]
      refine ⟨is_103, is_129, vi_ok (by omega) (by omega), ?_⟩
      intro h14 e14 h16 e16 v18 e18
      rw [e18, i_p1]
      refine ih (j + 1) (by omega) h16 ?_ ?_ ?_ ?_ ?_
      · rw [e16, e14]; exact hr.setI.setI
      · rw [e16, e14]; exact (hf.setI (Or.inl rfl)).setI (Or.inr ⟨rfl, Or.inr rfl⟩)
      · rw [e16, e14]; simp (disch := first | assumption | omega) only [true_and, and_true, forall_eq, true_implies, false_implies, implies_true, not_true_eq_false, not_false_eq_true, false_and, and_false, ne_eq, ite_true, ite_false, Nat.reduceLeDiff, Nat.reduceEqDiff, Nat.reduceLT, Nat.reduceAdd, Nat.reduceMul, Nat.reduceSub, Nat.le_refl, eq_self, li_0, li_1, li_2, li_3, li_4, li_5, li_6, li_7, li_8, li_9, li_10, li_11, li_12, li_13, li_14, li_15, li_16, li_17, li_18, li_19, li_20, li_21, li_22, li_23, li_24, li_25, li_26, li_27, li_28, li_29, li_30, li_31, li_32, li_44, li_48, li_57, li_59, li_60, li_61, li_62, li_63, li_97, li_100, li_122, li_123, li_125, li_127, li_255, li_400, li_401, li_800, li_1023, li_1024, li_10827, i_add, i_mul, i_sub, i_p1, i_m1, i_nm, i_nm2, i_cl, i_cl0, vi_ok, i_lt, i_le, i_eq, lg_e, gI_s, gI_c, gI_p, gI_L, gI_R, gL_s, gL_c, gL_p, gL_I, gL_R, gR_s, gR_c, gR_p, gR_I, gR_L, h1]; rfl
      · intro k hk
        rw [e16, e14]; simp (disch := first | assumption | omega) only [true_and, and_true, forall_eq, true_implies, false_implies, implies_true, not_true_eq_false, not_false_eq_true, false_and, and_false, ne_eq, ite_true, ite_false, Nat.reduceLeDiff, Nat.reduceEqDiff, Nat.reduceLT, Nat.reduceAdd, Nat.reduceMul, Nat.reduceSub, Nat.le_refl, eq_self, li_0, li_1, li_2, li_3, li_4, li_5, li_6, li_7, li_8, li_9, li_10, li_11, li_12, li_13, li_14, li_15, li_16, li_17, li_18, li_19, li_20, li_21, li_22, li_23, li_24, li_25, li_26, li_27, li_28, li_29, li_30, li_31, li_32, li_44, li_48, li_57, li_59, li_60, li_61, li_62, li_63, li_97, li_100, li_122, li_123, li_125, li_127, li_255, li_400, li_401, li_800, li_1023, li_1024, li_10827, i_add, i_mul, i_sub, i_p1, i_m1, i_nm, i_nm2, i_cl, i_cl0, vi_ok, i_lt, i_le, i_eq, lg_e, gI_s, gI_c, gI_p, gI_L, gI_R, gL_s, gL_c, gL_p, gL_I, gL_R, gR_s, gR_c, gR_p, gR_I, gR_L]; exact h2 k hk
      · intro i hi
        rw [e16, e14]
        by_cases c : i = j
        · subst c
          rw [gI_c (by omega), gI_s, feed_eq _ (by omega), e0]
          rfl
        · rw [gI_c (by omega), gI_p (by omega)]
          exact h3 i (by omega)
    refine s_X12_feed_23 ?_
    simp (disch := first | assumption | omega) only [true_and, and_true, forall_eq, true_implies, false_implies, implies_true, not_true_eq_false, not_false_eq_true, false_and, and_false, ne_eq, ite_true, ite_false, Nat.reduceLeDiff, Nat.reduceEqDiff, Nat.reduceLT, Nat.reduceAdd, Nat.reduceMul, Nat.reduceSub, Nat.le_refl, eq_self, li_0, li_1, li_2, li_3, li_4, li_5, li_6, li_7, li_8, li_9, li_10, li_11, li_12, li_13, li_14, li_15, li_16, li_17, li_18, li_19, li_20, li_21, li_22, li_23, li_24, li_25, li_26, li_27, li_28, li_29, li_30, li_31, li_32, li_44, li_48, li_57, li_59, li_60, li_61, li_62, li_63, li_97, li_100, li_122, li_123, li_125, li_127, li_255, li_400, li_401, li_800, li_1023, li_1024, li_10827, i_add, i_mul, i_sub, i_p1, i_m1, i_nm, i_nm2, i_cl, i_cl0, vi_ok, i_lt, i_le, i_eq, lg_e, show ¬ 20 ≤ j by omega]
    refine ⟨fun c => ⟨fun c2 => ⟨fun c3 => ⟨fun c4 => go _ ?_, fun c4 => go _ ?_⟩, fun c3 => go _ ?_⟩, fun c2 => go _ ?_⟩, fun c => go _ ?_⟩
    · rw [if_neg (by omega), if_neg (by omega), if_neg (by omega), if_neg (by omega)]
    · rw [if_neg (by omega), if_neg (by omega), if_neg (by omega), if_pos (by omega)]
    · rw [if_neg (by omega), if_neg (by omega), if_pos (by omega)]
    · rw [if_neg (by omega), if_pos (by omega)]
    · rw [if_pos (by omega)]
