def deed1 (D : AD) (S : AS) (i : Nat) : AS := if D 15 i = 0 then stOpen S (D 16 i) else if D 15 i = 1 then stClose S else if D 15 i = 2 then stSet S (D 16 i) (D 17 i) else if D 15 i = 3 then stSet S (D 16 i) ((S.2.2.2.2 (D 16 i) + D 17 i) % (D 4 (D 16 i) + 1)) else stFault S (D 16 i) (kept D)
def doD (D : AD) : AS → Nat → Nat → AS
  | S, _, 0 => S
  | S, i, n + 1 => if S.2.1 = 0 then S else doD D (deed1 D S i) (i + 1) n
def stepD (D : AD) (S : AS) (a : Nat) : AS :=
  if a < 24 then doD D S (4 * a) (D 14 a)
  else if a = 24 then (if D 8 (S.2.2.1 (S.2.1 - 1)) = 0 then S else if S.2.2.2.1 (S.2.1 - 1) + 1 < D 8 (S.2.2.1 (S.2.1 - 1)) then stTick S (S.2.2.2.1 (S.2.1 - 1) + 1) else doD D (stTick S 0) (4 * (24 + S.2.2.1 (S.2.1 - 1))) (D 14 (24 + S.2.2.1 (S.2.1 - 1))))
  else if a = 25 then stClose S else stTorn S (kept D)
theorem ws_deed1 {D : AD} {S : AS} {k d : Nat} (hs : WS (D 0 0) S) (h0 : 0 < S.2.1) (hD : WfD D) (hk : isL D k) (hd : d < D 14 k) : WS (D 0 0) (deed1 D S (4 * k + d)) := by
  obtain ⟨w1, w2, w3, w4, w5⟩ := (hD.2.2.2.2 k hk).2 d hd
  unfold deed1
  by_cases c0 : D 15 (4 * k + d) = 0
  · rw [if_pos c0]; exact hs.openW (w2 c0) h0
  rw [if_neg c0]
  by_cases c1 : D 15 (4 * k + d) = 1
  · rw [if_pos c1]; exact hs.close
  rw [if_neg c1]
  by_cases c2 : D 15 (4 * k + d) = 2
  · rw [if_pos c2]; exact hs.set (by have := (w3 c2).2; omega)
  rw [if_neg c2]
  by_cases c3 : D 15 (4 * k + d) = 3
  · rw [if_pos c3]
    have v := hD.2.2.1 _ (w4 c3).1
    exact hs.set (by have := Nat.mod_lt (S.2.2.2.2 (D 16 (4 * k + d)) + D 17 (4 * k + d)) (show D 4 (D 16 (4 * k + d)) + 1 > 0 by omega); omega)
  rw [if_neg c3]
  have c4 := w5 (by omega)
  exact hs.fault _ c4.1 c4.2
theorem ws_doD {D : AD} {k : Nat} (hD : WfD D) (hk : isL D k) : ∀ n d S, d + n ≤ D 14 k → WS (D 0 0) S → WS (D 0 0) (doD D S (4 * k + d) n) := by
  intro n
  induction n with
  | zero => intro d S _ hs; exact hs
  | succ n ih =>
    intro d S hd hs
    show WS (D 0 0) (if S.2.1 = 0 then S else doD D (deed1 D S (4 * k + d)) (4 * k + d + 1) n)
    by_cases c : S.2.1 = 0
    · rw [if_pos c]; exact hs
    · rw [if_neg c, Nat.add_assoc]
      exact ih (d + 1) _ (by omega) (ws_deed1 hs (by omega) hD hk (by omega))
theorem ws_stepD {D : AD} {S : AS} {a : Nat} (hD : WfD D) (hs : WS (D 0 0) S) (hp : possD D S a) : WS (D 0 0) (stepD D S a) := by
  have hB := hD.1.2.2.1
  unfold stepD
  by_cases c0 : a < 24
  · rw [if_pos c0]
    have : a < D 0 1 := by
      rcases hp with z | ⟨z0, z | z | z⟩
      · omega
      · omega
      · omega
      · exact z.1
    exact ws_doD hD (Or.inl this) _ 0 _ (by omega) hs
  rw [if_neg c0]
  by_cases c1 : a = 24
  · rw [if_pos c1]
    have h0 : 0 < S.2.1 := by
      rcases hp with z | z
      · omega
      · exact z.1
    have hw := hs.2.2.2.2.1 (S.2.1 - 1) (by omega)
    have hWw := hD.2.1 _ hw.1
    by_cases d0 : D 8 (S.2.2.1 (S.2.1 - 1)) = 0
    · rw [if_pos d0]; exact hs
    rw [if_neg d0]
    by_cases d1 : S.2.2.2.1 (S.2.1 - 1) + 1 < D 8 (S.2.2.1 (S.2.1 - 1))
    · rw [if_pos d1]; exact hs.tick (by omega)
    rw [if_neg d1]
    exact ws_doD hD (Or.inr ⟨_, hw.1, rfl, by omega⟩) _ 0 _ (by omega) (hs.tick (by omega))
  rw [if_neg c1]
  by_cases c2 : a = 25
  · rw [if_pos c2]; exact hs.close
  · rw [if_neg c2]; exact hs.torn _ hD.1.1
theorem FrS.repB {h h1 : AH} {y : Nat} {D : AD} (f : FrS h h1) (hy : isB y) (hB : RepB h y D) : RepB h1 y D := hB.fr f.fr (isB_PS hy)
theorem k_X12_forgets_loop {l : Launch} {g : AG} {h0 : AH} {y : Nat} {V : Nat → Nat} {D : AD} {Q : AH → Prop} (hy : isB y) (hD : WfD D) (hB0 : RepB h0 y D) (hq : ∀ h', FrS h0 h' → (∀ c p, c ≠ 132 → h'.1 c p = h0.1 c p) → (∀ v, v < 6 → h'.1 132 v = Int32.ofNat (vk (kept D) V v)) → Q h') : ∀ d k : Nat, k + d = 6 → ∀ h : AH, Refs h → FrS h0 h → (∀ c p, c ≠ 132 → h.1 c p = h0.1 c p) → (∀ v, v < k → h.1 132 v = Int32.ofNat (vk (kept D) V v)) → (∀ v, k ≤ v → v < 6 → h.1 132 v = Int32.ofNat (V v)) → L_X12_forgets_2 l g h 103 y (Int32.ofNat k) Q := by
  have h6 := hD.1.2.2.2
  intro d
  induction d with
  | zero =>
    intro k hk h hr hf hc hv hw
    refine s_X12_forgets_2 ?_
    (try simp (disch := first | assumption | omega) only [true_and, and_true, forall_eq, true_implies, false_implies, implies_true, not_true_eq_false, not_false_eq_true, false_and, and_false, ne_eq, ite_true, ite_false, Nat.reduceLeDiff, Nat.reduceEqDiff, Nat.reduceLT, Nat.reduceAdd, Nat.reduceMul, Nat.reduceSub, Nat.le_refl, eq_self, li_0, li_1, li_2, li_3, li_4, li_5, li_6, li_7, li_8, li_9, li_10, li_11, li_12, li_13, li_14, li_15, li_16, li_17, li_18, li_19, li_20, li_21, li_22, li_23, li_24, li_25, li_26, li_27, li_28, li_29, li_30, li_31, li_32, li_44, li_48, li_57, li_59, li_60, li_61, li_62, li_63, li_97, li_100, li_122, li_123, li_125, li_127, li_255, li_400, li_401, li_800, li_1023, li_1024, li_10827, i_add, i_mul, i_sub, i_p1, i_m1, i_nm, i_nm2, i_cl, i_cl0, vi_ok, i_lt, i_le, i_eq, lg_e, show 6 ≤ k by omega])
    exact hq h hf hc (fun v hv2 => hv v (by omega))
  | succ d ih =>
    intro k hk h hr hf hc hv hw
    have hB := hf.repB hy hB0
    have hset : vk (kept D) V k = 0 → L_X12_forgets_2 l g (ax_setI h 132 k (Int32.ofNat 0)) 103 y (Int32.ofNat (k + 1)) Q := by
      intro e
      refine ih (k + 1) (by omega) _ hr.setI (hf.setI (Or.inr (Or.inr (Or.inl rfl)))) (fun c p q => ?_) (fun v hv2 => ?_) (fun v hv1 hv2 => ?_)
      · rw [gI_c q]; exact hc c p q
      · by_cases ev : v = k
        · rw [gI_t rfl ev, ev, e]
        · rw [gI_p ev]; exact hv v (by omega)
      · rw [gI_p (by omega)]; exact hw v (by omega) hv2
    have hno : vk (kept D) V k = V k → L_X12_forgets_2 l g h 103 y (Int32.ofNat (k + 1)) Q := by
      intro e
      refine ih (k + 1) (by omega) h hr hf hc (fun v hv2 => ?_) (fun v hv1 hv2 => hw v (by omega) hv2)
      by_cases ev : v = k
      · rw [ev, e]; exact hw k (by omega) (by omega)
      · exact hv v (by omega)
    refine s_X12_forgets_2 ?_
    (try simp (disch := first | assumption | omega) only [true_and, and_true, forall_eq, true_implies, false_implies, implies_true, not_true_eq_false, not_false_eq_true, false_and, and_false, ne_eq, ite_true, ite_false, Nat.reduceLeDiff, Nat.reduceEqDiff, Nat.reduceLT, Nat.reduceAdd, Nat.reduceMul, Nat.reduceSub, Nat.le_refl, eq_self, li_0, li_1, li_2, li_3, li_4, li_5, li_6, li_7, li_8, li_9, li_10, li_11, li_12, li_13, li_14, li_15, li_16, li_17, li_18, li_19, li_20, li_21, li_22, li_23, li_24, li_25, li_26, li_27, li_28, li_29, li_30, li_31, li_32, li_44, li_48, li_57, li_59, li_60, li_61, li_62, li_63, li_97, li_100, li_122, li_123, li_125, li_127, li_255, li_400, li_401, li_800, li_1023, li_1024, li_10827, i_add, i_mul, i_sub, i_p1, i_m1, i_nm, i_nm2, i_cl, i_cl0, vi_ok, i_lt, i_le, i_eq, lg_e, isB_x, rfB_3, rfB_4, rfB_5, rfB_6, rfB_7, rfB_8, rfB_9, rfB_10, rfB_11, rfB_12, rfB_13, rfB_14, rfB_15, rfB_16, rfB_17, rfB_18, rfB_19, rfB_20, rfB_21, isB_1, szB_1, isB_2, szB_2, isB_3, szB_3, isB_4, szB_4, isB_5, szB_5, isB_6, szB_6, isB_7, szB_7, isB_8, szB_8, isB_9, szB_9, isB_10, szB_10, isB_11, szB_11, isB_12, szB_12, isB_13, szB_13, isB_14, szB_14, isB_15, szB_15, isB_16, szB_16, isB_17, szB_17, isB_18, szB_18, isB_19, szB_19, rf_103_4, rf_103_6, rf_103_7, rf_103_8, rf_103_9, rf_103_10, rf_103_21, rf_103_22, rf_103_23, rf_103_26, rf_103_27, rf_103_28, rf_103_29, rf_103_30, rf_103_31, rf_103_32, rf_103_33, rf_103_34, rf_103_35, rf_103_37, rf_103_38, rf_103_39, rf_103_44, rf_103_45, rf_103_46, rf_103_47, rf_103_48, rf_103_49, rf_103_54, rf_103_55, is_103, is_104, sz_104, is_125, sz_125, is_126, sz_126, is_127, sz_127, is_128, sz_128, is_129, sz_129, is_130, sz_130, is_131, sz_131, is_132, sz_132, is_133, sz_133, is_134, sz_134, is_135, sz_135, is_136, sz_136, is_137, sz_137, is_138, sz_138, is_139, sz_139, is_140, sz_140, is_141, sz_141, is_142, sz_142, is_143, sz_143, is_144, sz_144, is_145, sz_145, is_146, sz_146, is_147, sz_147, is_148, sz_148, is_149, sz_149, is_150, sz_150, is_151, sz_151, is_152, sz_152, is_153, sz_153, hB.1.2.2, show ¬ 6 ≤ k by omega])
    refine ⟨fun c => hset ?_, fun c => ?_⟩
    · unfold vk kept
      rw [if_neg]
      intro q
      have := of_decide_eq_true q
      omega
    · have hV := hD.2.2.1 k (by omega)
      (try simp (disch := first | assumption | omega) only [true_and, and_true, forall_eq, true_implies, false_implies, implies_true, not_true_eq_false, not_false_eq_true, false_and, and_false, ne_eq, ite_true, ite_false, Nat.reduceLeDiff, Nat.reduceEqDiff, Nat.reduceLT, Nat.reduceAdd, Nat.reduceMul, Nat.reduceSub, Nat.le_refl, eq_self, li_0, li_1, li_2, li_3, li_4, li_5, li_6, li_7, li_8, li_9, li_10, li_11, li_12, li_13, li_14, li_15, li_16, li_17, li_18, li_19, li_20, li_21, li_22, li_23, li_24, li_25, li_26, li_27, li_28, li_29, li_30, li_31, li_32, li_44, li_48, li_57, li_59, li_60, li_61, li_62, li_63, li_97, li_100, li_122, li_123, li_125, li_127, li_255, li_400, li_401, li_800, li_1023, li_1024, li_10827, i_add, i_mul, i_sub, i_p1, i_m1, i_nm, i_nm2, i_cl, i_cl0, vi_ok, i_lt, i_le, i_eq, lg_e, isB_x, rfB_3, rfB_4, rfB_5, rfB_6, rfB_7, rfB_8, rfB_9, rfB_10, rfB_11, rfB_12, rfB_13, rfB_14, rfB_15, rfB_16, rfB_17, rfB_18, rfB_19, rfB_20, rfB_21, isB_1, szB_1, isB_2, szB_2, isB_3, szB_3, isB_4, szB_4, isB_5, szB_5, isB_6, szB_6, isB_7, szB_7, isB_8, szB_8, isB_9, szB_9, isB_10, szB_10, isB_11, szB_11, isB_12, szB_12, isB_13, szB_13, isB_14, szB_14, isB_15, szB_15, isB_16, szB_16, isB_17, szB_17, isB_18, szB_18, isB_19, szB_19, (hB.2.2.1 k (by omega)).2.2])
      refine ⟨fun c2 => hno ?_, fun c2 => hset ?_⟩
      · unfold vk kept
        rw [if_pos (decide_eq_true ⟨by omega, by omega⟩)]
      · unfold vk kept
        rw [if_neg]
        intro q
        have := of_decide_eq_true q
        omega
theorem k_X12_forgets {l : Launch} {g : AG} {h : AH} {y : Nat} {V : Nat → Nat} {D : AD} {Q : AH → Prop} (hr : Refs h) (hy : isB y) (hD : WfD D) (hB : RepB h y D) (hV : ∀ v, v < 6 → h.1 132 v = Int32.ofNat (V v)) (hq : ∀ h', FrS h h' → (∀ c p, c ≠ 132 → h'.1 c p = h.1 c p) → (∀ v, v < 6 → h'.1 132 v = Int32.ofNat (vk (kept D) V v)) → Q h') : C_X12_forgets l g h 103 y Q :=
  c_X12_forgets (s_X12_forgets_0 (k_X12_forgets_loop hy hD hB hq 6 0 rfl h hr (FrS.refl h) (fun _ _ _ => rfl) (fun v hv => absurd hv (Nat.not_lt_zero v)) (fun v _ hv => hV v hv)))
theorem i_rem {a b : Nat} (ha : a < 2147483648) (hb : 0 < b) (hb2 : b < 2147483648) : jirem (Int32.ofNat a) (Int32.ofNat b) = Int32.ofNat (a % b) := by
  have hd : Int32.ofNat a / Int32.ofNat b = Int32.ofNat (a / b) := by
    have e : a / b ≤ a := Nat.div_le_self a b
    rw [← Int32.toInt_inj, Int32.toInt_div_of_ne_left, Int32.toInt_ofNat_of_lt (by omega), Int32.toInt_ofNat_of_lt (by omega), Int32.toInt_ofNat_of_lt (by omega)]
    · rfl
    · intro q
      have := i_nn ha
      rw [q] at this
      exact this (by decide)
  have e := Nat.div_add_mod a b
  have e2 : a / b * b ≤ a := Nat.div_mul_le_self a b
  unfold jirem
  rw [hd, i_mul, i_sub e2]
  exact congrArg Int32.ofNat (by rw [Nat.mul_comm] at e; omega)
theorem k_X12_does_loop {l : Launch} {g : AG} {h0 : AH} {y k : Nat} {D : AD} {Q : AH → Prop} (hy : isB y) (hD : WfD D) (hk : isL D k) (hB0 : RepB h0 y D) : ∀ n d S, d + n = D 14 k → WS (D 0 0) S → ∀ h, Refs h → FrS h0 h → RepS h S → (∀ h', FrS h0 h' → RepS h' (doD D S (4 * k + d) n) → Q h') → L_X12_does_4 l g h 103 y (Int32.ofNat k) (Int32.ofNat (4 * k + d)) Q := by
  have h6 := hD.1.2.2.2
  have hk32 : k < 32 := by
    have := hD.1.2.1
    have := hD.1.2.2.1
    rcases hk with q | ⟨w, q1, q2, q3⟩ <;> omega
  have hL := hD.2.2.2.2 k hk
  intro n
  induction n with
  | zero =>
    intro d S hd hs h hr hf hS hq
    have hB := hf.repB hy hB0
    refine s_X12_does_4 ?_
    (try simp (disch := first | assumption | omega) only [true_and, and_true, forall_eq, true_implies, false_implies, implies_true, not_true_eq_false, not_false_eq_true, false_and, and_false, ne_eq, ite_true, ite_false, Nat.reduceLeDiff, Nat.reduceEqDiff, Nat.reduceLT, Nat.reduceAdd, Nat.reduceMul, Nat.reduceSub, Nat.le_refl, eq_self, li_0, li_1, li_2, li_3, li_4, li_5, li_6, li_7, li_8, li_9, li_10, li_11, li_12, li_13, li_14, li_15, li_16, li_17, li_18, li_19, li_20, li_21, li_22, li_23, li_24, li_25, li_26, li_27, li_28, li_29, li_30, li_31, li_32, li_44, li_48, li_57, li_59, li_60, li_61, li_62, li_63, li_97, li_100, li_122, li_123, li_125, li_127, li_255, li_400, li_401, li_800, li_1023, li_1024, li_10827, i_add, i_mul, i_sub, i_p1, i_m1, i_nm, i_nm2, i_cl, i_cl0, vi_ok, i_lt, i_le, i_eq, lg_e, isB_x, rfB_3, rfB_4, rfB_5, rfB_6, rfB_7, rfB_8, rfB_9, rfB_10, rfB_11, rfB_12, rfB_13, rfB_14, rfB_15, rfB_16, rfB_17, rfB_18, rfB_19, rfB_20, rfB_21, isB_1, szB_1, isB_2, szB_2, isB_3, szB_3, isB_4, szB_4, isB_5, szB_5, isB_6, szB_6, isB_7, szB_7, isB_8, szB_8, isB_9, szB_9, isB_10, szB_10, isB_11, szB_11, isB_12, szB_12, isB_13, szB_13, isB_14, szB_14, isB_15, szB_15, isB_16, szB_16, isB_17, szB_17, isB_18, szB_18, isB_19, szB_19, (hB.2.2.2.2 k hk).1, show 4 * k + D 14 k ≤ 4 * k + d by omega])
    exact hq h hf hS
  | succ n ih =>
    intro d S hd hs h hr hf hS hq
    have hB := hf.repB hy hB0
    have h5 := hs.2.1
    have hf20 : S.1 ≤ 20 := by
      by_cases c : S.2.1 = 0
      · exact (hs.2.2.1 c).2
      · have := hs.2.2.2.1 (by omega); omega
    obtain ⟨o1, o2, o3⟩ := (hB.2.2.2.2 k hk).2 d (by omega)
    obtain ⟨w1, w2, w3, w4, w5⟩ := hL.2 d (by omega)
    have h4 := hL.1
    have hqS : ∀ h', FrS h0 h' → RepS h' (if S.2.1 = 0 then S else doD D (deed1 D S (4 * k + d)) (4 * k + d + 1) n) → Q h' := hq
    refine s_X12_does_4 ?_
    (try simp (disch := first | assumption | omega) only [true_and, and_true, forall_eq, true_implies, false_implies, implies_true, not_true_eq_false, not_false_eq_true, false_and, and_false, ne_eq, ite_true, ite_false, Nat.reduceLeDiff, Nat.reduceEqDiff, Nat.reduceLT, Nat.reduceAdd, Nat.reduceMul, Nat.reduceSub, Nat.le_refl, eq_self, li_0, li_1, li_2, li_3, li_4, li_5, li_6, li_7, li_8, li_9, li_10, li_11, li_12, li_13, li_14, li_15, li_16, li_17, li_18, li_19, li_20, li_21, li_22, li_23, li_24, li_25, li_26, li_27, li_28, li_29, li_30, li_31, li_32, li_44, li_48, li_57, li_59, li_60, li_61, li_62, li_63, li_97, li_100, li_122, li_123, li_125, li_127, li_255, li_400, li_401, li_800, li_1023, li_1024, li_10827, i_add, i_mul, i_sub, i_p1, i_m1, i_nm, i_nm2, i_cl, i_cl0, vi_ok, i_lt, i_le, i_eq, lg_e, isB_x, rfB_3, rfB_4, rfB_5, rfB_6, rfB_7, rfB_8, rfB_9, rfB_10, rfB_11, rfB_12, rfB_13, rfB_14, rfB_15, rfB_16, rfB_17, rfB_18, rfB_19, rfB_20, rfB_21, isB_1, szB_1, isB_2, szB_2, isB_3, szB_3, isB_4, szB_4, isB_5, szB_5, isB_6, szB_6, isB_7, szB_7, isB_8, szB_8, isB_9, szB_9, isB_10, szB_10, isB_11, szB_11, isB_12, szB_12, isB_13, szB_13, isB_14, szB_14, isB_15, szB_15, isB_16, szB_16, isB_17, szB_17, isB_18, szB_18, isB_19, szB_19, rf_103_4, rf_103_6, rf_103_7, rf_103_8, rf_103_9, rf_103_10, rf_103_21, rf_103_22, rf_103_23, rf_103_26, rf_103_27, rf_103_28, rf_103_29, rf_103_30, rf_103_31, rf_103_32, rf_103_33, rf_103_34, rf_103_35, rf_103_37, rf_103_38, rf_103_39, rf_103_44, rf_103_45, rf_103_46, rf_103_47, rf_103_48, rf_103_49, rf_103_54, rf_103_55, is_103, is_104, sz_104, is_125, sz_125, is_126, sz_126, is_127, sz_127, is_128, sz_128, is_129, sz_129, is_130, sz_130, is_131, sz_131, is_132, sz_132, is_133, sz_133, is_134, sz_134, is_135, sz_135, is_136, sz_136, is_137, sz_137, is_138, sz_138, is_139, sz_139, is_140, sz_140, is_141, sz_141, is_142, sz_142, is_143, sz_143, is_144, sz_144, is_145, sz_145, is_146, sz_146, is_147, sz_147, is_148, sz_148, is_149, sz_149, is_150, sz_150, is_151, sz_151, is_152, sz_152, is_153, sz_153, (hB.2.2.2.2 k hk).1, hS.1, show ¬ 4 * k + D 14 k ≤ 4 * k + d by omega])
    by_cases c0 : S.2.1 = 0
    · rw [if_pos c0] at hqS
      have := (hs.2.2.1 c0).1
      exact ⟨fun _ => hqS h hf hS, fun q => absurd q (by omega)⟩
    rw [if_neg c0] at hqS
    have c1 : S.1 = 0 := hs.2.2.2.1 (by omega)
    refine ⟨fun q => absurd c1 q, fun _ => ?_⟩
    have hi : ∀ h', Refs h' → FrS h0 h' → RepS h' (deed1 D S (4 * k + d)) → L_X12_does_4 l g h' 103 y (Int32.ofNat k) (Int32.ofNat (4 * k + d + 1)) Q := by
      intro h' r' f' s'
      exact ih (d + 1) _ (by omega) (ws_deed1 hs (by omega) hD hk (by omega)) h' r' f' s' hqS
    have hde : deed1 D S (4 * k + d) = if D 15 (4 * k + d) = 0 then stOpen S (D 16 (4 * k + d)) else if D 15 (4 * k + d) = 1 then stClose S else if D 15 (4 * k + d) = 2 then stSet S (D 16 (4 * k + d)) (D 17 (4 * k + d)) else if D 15 (4 * k + d) = 3 then stSet S (D 16 (4 * k + d)) ((S.2.2.2.2 (D 16 (4 * k + d)) + D 17 (4 * k + d)) % (D 4 (D 16 (4 * k + d)) + 1)) else stFault S (D 16 (4 * k + d)) (kept D) := rfl
    rw [hde] at hi
    (try simp (disch := first | assumption | omega) only [true_and, and_true, forall_eq, true_implies, false_implies, implies_true, not_true_eq_false, not_false_eq_true, false_and, and_false, ne_eq, ite_true, ite_false, Nat.reduceLeDiff, Nat.reduceEqDiff, Nat.reduceLT, Nat.reduceAdd, Nat.reduceMul, Nat.reduceSub, Nat.le_refl, eq_self, li_0, li_1, li_2, li_3, li_4, li_5, li_6, li_7, li_8, li_9, li_10, li_11, li_12, li_13, li_14, li_15, li_16, li_17, li_18, li_19, li_20, li_21, li_22, li_23, li_24, li_25, li_26, li_27, li_28, li_29, li_30, li_31, li_32, li_44, li_48, li_57, li_59, li_60, li_61, li_62, li_63, li_97, li_100, li_122, li_123, li_125, li_127, li_255, li_400, li_401, li_800, li_1023, li_1024, li_10827, i_add, i_mul, i_sub, i_p1, i_m1, i_nm, i_nm2, i_cl, i_cl0, vi_ok, i_lt, i_le, i_eq, lg_e, o1])
    refine ⟨fun z0 => ?_, fun z0 => ?_⟩
    · have w2 := w2 z0
      have o2 := o2 (by omega)
      have h8 := hD.1.2.1
      rw [if_pos z0] at hi
      rw [hS.2.1]
      unfold stOpen at hi
      refine ⟨fun z5 => ?_, fun z5 => ?_⟩
      · have z5 : S.2.1 < 5 := by
          rcases Nat.lt_or_ge S.2.1 5 with q | q
          · exact q
          · exact absurd (show Int32.ofNat S.2.1 = Int32.ofNat 5 from by rw [show S.2.1 = 5 by omega]) z5
        rw [if_pos z5] at hi
        (try simp (disch := first | assumption | omega) only [true_and, and_true, forall_eq, true_implies, false_implies, implies_true, not_true_eq_false, not_false_eq_true, false_and, and_false, ne_eq, ite_true, ite_false, Nat.reduceLeDiff, Nat.reduceEqDiff, Nat.reduceLT, Nat.reduceAdd, Nat.reduceMul, Nat.reduceSub, Nat.le_refl, eq_self, li_0, li_1, li_2, li_3, li_4, li_5, li_6, li_7, li_8, li_9, li_10, li_11, li_12, li_13, li_14, li_15, li_16, li_17, li_18, li_19, li_20, li_21, li_22, li_23, li_24, li_25, li_26, li_27, li_28, li_29, li_30, li_31, li_32, li_44, li_48, li_57, li_59, li_60, li_61, li_62, li_63, li_97, li_100, li_122, li_123, li_125, li_127, li_255, li_400, li_401, li_800, li_1023, li_1024, li_10827, i_add, i_mul, i_sub, i_p1, i_m1, i_nm, i_nm2, i_cl, i_cl0, vi_ok, i_lt, i_le, i_eq, lg_e, gI_s, gI_c, gI_p, gI_L, gI_R, gL_s, gL_c, gL_p, gL_I, gL_R, gR_s, gR_c, gR_p, gR_I, gR_L, rf_103_4, rf_103_6, rf_103_7, rf_103_8, rf_103_9, rf_103_10, rf_103_21, rf_103_22, rf_103_23, rf_103_26, rf_103_27, rf_103_28, rf_103_29, rf_103_30, rf_103_31, rf_103_32, rf_103_33, rf_103_34, rf_103_35, rf_103_37, rf_103_38, rf_103_39, rf_103_44, rf_103_45, rf_103_46, rf_103_47, rf_103_48, rf_103_49, rf_103_54, rf_103_55, is_103, is_104, sz_104, is_125, sz_125, is_126, sz_126, is_127, sz_127, is_128, sz_128, is_129, sz_129, is_130, sz_130, is_131, sz_131, is_132, sz_132, is_133, sz_133, is_134, sz_134, is_135, sz_135, is_136, sz_136, is_137, sz_137, is_138, sz_138, is_139, sz_139, is_140, sz_140, is_141, sz_141, is_142, sz_142, is_143, sz_143, is_144, sz_144, is_145, sz_145, is_146, sz_146, is_147, sz_147, is_148, sz_148, is_149, sz_149, is_150, sz_150, is_151, sz_151, is_152, sz_152, is_153, sz_153, hS.2.1, o2])
        refine hi _ hr.setI.setI.setI (((hf.setI (Or.inl rfl)).setI (Or.inr (Or.inl rfl))).setI (Or.inr (Or.inr (Or.inr ⟨rfl, Or.inr rfl⟩)))) ⟨?_, ?_, ?_, ?_⟩
        · (try simp (disch := first | assumption | omega) only [true_and, and_true, forall_eq, true_implies, false_implies, implies_true, not_true_eq_false, not_false_eq_true, false_and, and_false, ne_eq, ite_true, ite_false, Nat.reduceLeDiff, Nat.reduceEqDiff, Nat.reduceLT, Nat.reduceAdd, Nat.reduceMul, Nat.reduceSub, Nat.le_refl, eq_self, li_0, li_1, li_2, li_3, li_4, li_5, li_6, li_7, li_8, li_9, li_10, li_11, li_12, li_13, li_14, li_15, li_16, li_17, li_18, li_19, li_20, li_21, li_22, li_23, li_24, li_25, li_26, li_27, li_28, li_29, li_30, li_31, li_32, li_44, li_48, li_57, li_59, li_60, li_61, li_62, li_63, li_97, li_100, li_122, li_123, li_125, li_127, li_255, li_400, li_401, li_800, li_1023, li_1024, li_10827, i_add, i_mul, i_sub, i_p1, i_m1, i_nm, i_nm2, i_cl, i_cl0, vi_ok, i_lt, i_le, i_eq, lg_e, gI_s, gI_c, gI_p, gI_L, gI_R, gL_s, gL_c, gL_p, gL_I, gL_R, gR_s, gR_c, gR_p, gR_I, gR_L]); exact hS.1
        · (try simp (disch := first | assumption | omega) only [true_and, and_true, forall_eq, true_implies, false_implies, implies_true, not_true_eq_false, not_false_eq_true, false_and, and_false, ne_eq, ite_true, ite_false, Nat.reduceLeDiff, Nat.reduceEqDiff, Nat.reduceLT, Nat.reduceAdd, Nat.reduceMul, Nat.reduceSub, Nat.le_refl, eq_self, li_0, li_1, li_2, li_3, li_4, li_5, li_6, li_7, li_8, li_9, li_10, li_11, li_12, li_13, li_14, li_15, li_16, li_17, li_18, li_19, li_20, li_21, li_22, li_23, li_24, li_25, li_26, li_27, li_28, li_29, li_30, li_31, li_32, li_44, li_48, li_57, li_59, li_60, li_61, li_62, li_63, li_97, li_100, li_122, li_123, li_125, li_127, li_255, li_400, li_401, li_800, li_1023, li_1024, li_10827, i_add, i_mul, i_sub, i_p1, i_m1, i_nm, i_nm2, i_cl, i_cl0, vi_ok, i_lt, i_le, i_eq, lg_e, gI_s, gI_c, gI_p, gI_L, gI_R, gL_s, gL_c, gL_p, gL_I, gL_R, gR_s, gR_c, gR_p, gR_I, gR_L])
        · intro j hj
          have hj2 : j < S.2.1 + 1 := hj
          show _ = Int32.ofNat (nup S.2.2.1 S.2.1 (D 16 (4 * k + d)) j) ∧ _ = Int32.ofNat (nup S.2.2.2.1 S.2.1 0 j)
          unfold nup
          by_cases e : j = S.2.1
          · rw [if_pos e, if_pos e, e]
            (try simp (disch := first | assumption | omega) only [true_and, and_true, forall_eq, true_implies, false_implies, implies_true, not_true_eq_false, not_false_eq_true, false_and, and_false, ne_eq, ite_true, ite_false, Nat.reduceLeDiff, Nat.reduceEqDiff, Nat.reduceLT, Nat.reduceAdd, Nat.reduceMul, Nat.reduceSub, Nat.le_refl, eq_self, li_0, li_1, li_2, li_3, li_4, li_5, li_6, li_7, li_8, li_9, li_10, li_11, li_12, li_13, li_14, li_15, li_16, li_17, li_18, li_19, li_20, li_21, li_22, li_23, li_24, li_25, li_26, li_27, li_28, li_29, li_30, li_31, li_32, li_44, li_48, li_57, li_59, li_60, li_61, li_62, li_63, li_97, li_100, li_122, li_123, li_125, li_127, li_255, li_400, li_401, li_800, li_1023, li_1024, li_10827, i_add, i_mul, i_sub, i_p1, i_m1, i_nm, i_nm2, i_cl, i_cl0, vi_ok, i_lt, i_le, i_eq, lg_e, gI_s, gI_c, gI_p, gI_L, gI_R, gL_s, gL_c, gL_p, gL_I, gL_R, gR_s, gR_c, gR_p, gR_I, gR_L])
          · rw [if_neg e, if_neg e]
            (try simp (disch := first | assumption | omega) only [true_and, and_true, forall_eq, true_implies, false_implies, implies_true, not_true_eq_false, not_false_eq_true, false_and, and_false, ne_eq, ite_true, ite_false, Nat.reduceLeDiff, Nat.reduceEqDiff, Nat.reduceLT, Nat.reduceAdd, Nat.reduceMul, Nat.reduceSub, Nat.le_refl, eq_self, li_0, li_1, li_2, li_3, li_4, li_5, li_6, li_7, li_8, li_9, li_10, li_11, li_12, li_13, li_14, li_15, li_16, li_17, li_18, li_19, li_20, li_21, li_22, li_23, li_24, li_25, li_26, li_27, li_28, li_29, li_30, li_31, li_32, li_44, li_48, li_57, li_59, li_60, li_61, li_62, li_63, li_97, li_100, li_122, li_123, li_125, li_127, li_255, li_400, li_401, li_800, li_1023, li_1024, li_10827, i_add, i_mul, i_sub, i_p1, i_m1, i_nm, i_nm2, i_cl, i_cl0, vi_ok, i_lt, i_le, i_eq, lg_e, gI_s, gI_c, gI_p, gI_L, gI_R, gL_s, gL_c, gL_p, gL_I, gL_R, gR_s, gR_c, gR_p, gR_I, gR_L])
            exact hS.2.2.1 j (by omega)
        · intro v hv
          (try simp (disch := first | assumption | omega) only [true_and, and_true, forall_eq, true_implies, false_implies, implies_true, not_true_eq_false, not_false_eq_true, false_and, and_false, ne_eq, ite_true, ite_false, Nat.reduceLeDiff, Nat.reduceEqDiff, Nat.reduceLT, Nat.reduceAdd, Nat.reduceMul, Nat.reduceSub, Nat.le_refl, eq_self, li_0, li_1, li_2, li_3, li_4, li_5, li_6, li_7, li_8, li_9, li_10, li_11, li_12, li_13, li_14, li_15, li_16, li_17, li_18, li_19, li_20, li_21, li_22, li_23, li_24, li_25, li_26, li_27, li_28, li_29, li_30, li_31, li_32, li_44, li_48, li_57, li_59, li_60, li_61, li_62, li_63, li_97, li_100, li_122, li_123, li_125, li_127, li_255, li_400, li_401, li_800, li_1023, li_1024, li_10827, i_add, i_mul, i_sub, i_p1, i_m1, i_nm, i_nm2, i_cl, i_cl0, vi_ok, i_lt, i_le, i_eq, lg_e, gI_s, gI_c, gI_p, gI_L, gI_R, gL_s, gL_c, gL_p, gL_I, gL_R, gR_s, gR_c, gR_p, gR_I, gR_L])
          exact hS.2.2.2 v hv
      · have z5 : ¬ S.2.1 < 5 := by
          have := (i_eq (b := 5) (by omega) (by omega)).1 z5
          omega
        rw [if_neg z5] at hi
        exact hi h hr hf hS
    rw [if_neg z0] at hi
    refine ⟨fun z1 => ?_, fun z1 => ?_⟩
    · rw [if_pos z1] at hi
      rw [hS.2.1]
      unfold stClose at hi
      by_cases q2 : 2 ≤ S.2.1
      · rw [if_pos q2] at hi
        have e : (if Int32.ofNat 1 < Int32.ofNat S.2.1 - Int32.ofNat 1 then Int32.ofNat S.2.1 - Int32.ofNat 1 else Int32.ofNat 1) = Int32.ofNat (S.2.1 - 1) := by
          rw [i_sub (by omega)]
          by_cases q : 1 < S.2.1 - 1
          · rw [if_pos ((i_lt (by omega) (by omega)).2 q)]
          · rw [if_neg (fun z => q ((i_lt (by omega) (by omega)).1 z))]; exact congrArg Int32.ofNat (by omega)
        rw [e]
        refine hi _ hr.setI (hf.setI (Or.inr (Or.inr (Or.inr ⟨rfl, Or.inr rfl⟩)))) ⟨?_, ?_, ?_, ?_⟩
        · (try simp (disch := first | assumption | omega) only [true_and, and_true, forall_eq, true_implies, false_implies, implies_true, not_true_eq_false, not_false_eq_true, false_and, and_false, ne_eq, ite_true, ite_false, Nat.reduceLeDiff, Nat.reduceEqDiff, Nat.reduceLT, Nat.reduceAdd, Nat.reduceMul, Nat.reduceSub, Nat.le_refl, eq_self, li_0, li_1, li_2, li_3, li_4, li_5, li_6, li_7, li_8, li_9, li_10, li_11, li_12, li_13, li_14, li_15, li_16, li_17, li_18, li_19, li_20, li_21, li_22, li_23, li_24, li_25, li_26, li_27, li_28, li_29, li_30, li_31, li_32, li_44, li_48, li_57, li_59, li_60, li_61, li_62, li_63, li_97, li_100, li_122, li_123, li_125, li_127, li_255, li_400, li_401, li_800, li_1023, li_1024, li_10827, i_add, i_mul, i_sub, i_p1, i_m1, i_nm, i_nm2, i_cl, i_cl0, vi_ok, i_lt, i_le, i_eq, lg_e, gI_s, gI_c, gI_p, gI_L, gI_R, gL_s, gL_c, gL_p, gL_I, gL_R, gR_s, gR_c, gR_p, gR_I, gR_L]); exact hS.1
        · (try simp (disch := first | assumption | omega) only [true_and, and_true, forall_eq, true_implies, false_implies, implies_true, not_true_eq_false, not_false_eq_true, false_and, and_false, ne_eq, ite_true, ite_false, Nat.reduceLeDiff, Nat.reduceEqDiff, Nat.reduceLT, Nat.reduceAdd, Nat.reduceMul, Nat.reduceSub, Nat.le_refl, eq_self, li_0, li_1, li_2, li_3, li_4, li_5, li_6, li_7, li_8, li_9, li_10, li_11, li_12, li_13, li_14, li_15, li_16, li_17, li_18, li_19, li_20, li_21, li_22, li_23, li_24, li_25, li_26, li_27, li_28, li_29, li_30, li_31, li_32, li_44, li_48, li_57, li_59, li_60, li_61, li_62, li_63, li_97, li_100, li_122, li_123, li_125, li_127, li_255, li_400, li_401, li_800, li_1023, li_1024, li_10827, i_add, i_mul, i_sub, i_p1, i_m1, i_nm, i_nm2, i_cl, i_cl0, vi_ok, i_lt, i_le, i_eq, lg_e, gI_s, gI_c, gI_p, gI_L, gI_R, gL_s, gL_c, gL_p, gL_I, gL_R, gR_s, gR_c, gR_p, gR_I, gR_L])
        · intro j hj
          have hj2 : j < S.2.1 - 1 := hj
          (try simp (disch := first | assumption | omega) only [true_and, and_true, forall_eq, true_implies, false_implies, implies_true, not_true_eq_false, not_false_eq_true, false_and, and_false, ne_eq, ite_true, ite_false, Nat.reduceLeDiff, Nat.reduceEqDiff, Nat.reduceLT, Nat.reduceAdd, Nat.reduceMul, Nat.reduceSub, Nat.le_refl, eq_self, li_0, li_1, li_2, li_3, li_4, li_5, li_6, li_7, li_8, li_9, li_10, li_11, li_12, li_13, li_14, li_15, li_16, li_17, li_18, li_19, li_20, li_21, li_22, li_23, li_24, li_25, li_26, li_27, li_28, li_29, li_30, li_31, li_32, li_44, li_48, li_57, li_59, li_60, li_61, li_62, li_63, li_97, li_100, li_122, li_123, li_125, li_127, li_255, li_400, li_401, li_800, li_1023, li_1024, li_10827, i_add, i_mul, i_sub, i_p1, i_m1, i_nm, i_nm2, i_cl, i_cl0, vi_ok, i_lt, i_le, i_eq, lg_e, gI_s, gI_c, gI_p, gI_L, gI_R, gL_s, gL_c, gL_p, gL_I, gL_R, gR_s, gR_c, gR_p, gR_I, gR_L])
          exact hS.2.2.1 j (by omega)
        · intro v hv
          (try simp (disch := first | assumption | omega) only [true_and, and_true, forall_eq, true_implies, false_implies, implies_true, not_true_eq_false, not_false_eq_true, false_and, and_false, ne_eq, ite_true, ite_false, Nat.reduceLeDiff, Nat.reduceEqDiff, Nat.reduceLT, Nat.reduceAdd, Nat.reduceMul, Nat.reduceSub, Nat.le_refl, eq_self, li_0, li_1, li_2, li_3, li_4, li_5, li_6, li_7, li_8, li_9, li_10, li_11, li_12, li_13, li_14, li_15, li_16, li_17, li_18, li_19, li_20, li_21, li_22, li_23, li_24, li_25, li_26, li_27, li_28, li_29, li_30, li_31, li_32, li_44, li_48, li_57, li_59, li_60, li_61, li_62, li_63, li_97, li_100, li_122, li_123, li_125, li_127, li_255, li_400, li_401, li_800, li_1023, li_1024, li_10827, i_add, i_mul, i_sub, i_p1, i_m1, i_nm, i_nm2, i_cl, i_cl0, vi_ok, i_lt, i_le, i_eq, lg_e, gI_s, gI_c, gI_p, gI_L, gI_R, gL_s, gL_c, gL_p, gL_I, gL_R, gR_s, gR_c, gR_p, gR_I, gR_L])
          exact hS.2.2.2 v hv
      · rw [if_neg q2] at hi
        have e1 : S.2.1 = 1 := by omega
        rw [e1]
        refine hi _ hr.setI (hf.setI (Or.inr (Or.inr (Or.inr ⟨rfl, Or.inr rfl⟩)))) ⟨?_, ?_, ?_, ?_⟩
        · (try simp (disch := first | assumption | omega) only [true_and, and_true, forall_eq, true_implies, false_implies, implies_true, not_true_eq_false, not_false_eq_true, false_and, and_false, ne_eq, ite_true, ite_false, Nat.reduceLeDiff, Nat.reduceEqDiff, Nat.reduceLT, Nat.reduceAdd, Nat.reduceMul, Nat.reduceSub, Nat.le_refl, eq_self, li_0, li_1, li_2, li_3, li_4, li_5, li_6, li_7, li_8, li_9, li_10, li_11, li_12, li_13, li_14, li_15, li_16, li_17, li_18, li_19, li_20, li_21, li_22, li_23, li_24, li_25, li_26, li_27, li_28, li_29, li_30, li_31, li_32, li_44, li_48, li_57, li_59, li_60, li_61, li_62, li_63, li_97, li_100, li_122, li_123, li_125, li_127, li_255, li_400, li_401, li_800, li_1023, li_1024, li_10827, i_add, i_mul, i_sub, i_p1, i_m1, i_nm, i_nm2, i_cl, i_cl0, vi_ok, i_lt, i_le, i_eq, lg_e, gI_s, gI_c, gI_p, gI_L, gI_R, gL_s, gL_c, gL_p, gL_I, gL_R, gR_s, gR_c, gR_p, gR_I, gR_L]); exact hS.1
        · (try simp (disch := first | assumption | omega) only [true_and, and_true, forall_eq, true_implies, false_implies, implies_true, not_true_eq_false, not_false_eq_true, false_and, and_false, ne_eq, ite_true, ite_false, Nat.reduceLeDiff, Nat.reduceEqDiff, Nat.reduceLT, Nat.reduceAdd, Nat.reduceMul, Nat.reduceSub, Nat.le_refl, eq_self, li_0, li_1, li_2, li_3, li_4, li_5, li_6, li_7, li_8, li_9, li_10, li_11, li_12, li_13, li_14, li_15, li_16, li_17, li_18, li_19, li_20, li_21, li_22, li_23, li_24, li_25, li_26, li_27, li_28, li_29, li_30, li_31, li_32, li_44, li_48, li_57, li_59, li_60, li_61, li_62, li_63, li_97, li_100, li_122, li_123, li_125, li_127, li_255, li_400, li_401, li_800, li_1023, li_1024, li_10827, i_add, i_mul, i_sub, i_p1, i_m1, i_nm, i_nm2, i_cl, i_cl0, vi_ok, i_lt, i_le, i_eq, lg_e, gI_s, gI_c, gI_p, gI_L, gI_R, gL_s, gL_c, gL_p, gL_I, gL_R, gR_s, gR_c, gR_p, gR_I, gR_L])
          rw [e1]
        · intro j hj
          (try simp (disch := first | assumption | omega) only [true_and, and_true, forall_eq, true_implies, false_implies, implies_true, not_true_eq_false, not_false_eq_true, false_and, and_false, ne_eq, ite_true, ite_false, Nat.reduceLeDiff, Nat.reduceEqDiff, Nat.reduceLT, Nat.reduceAdd, Nat.reduceMul, Nat.reduceSub, Nat.le_refl, eq_self, li_0, li_1, li_2, li_3, li_4, li_5, li_6, li_7, li_8, li_9, li_10, li_11, li_12, li_13, li_14, li_15, li_16, li_17, li_18, li_19, li_20, li_21, li_22, li_23, li_24, li_25, li_26, li_27, li_28, li_29, li_30, li_31, li_32, li_44, li_48, li_57, li_59, li_60, li_61, li_62, li_63, li_97, li_100, li_122, li_123, li_125, li_127, li_255, li_400, li_401, li_800, li_1023, li_1024, li_10827, i_add, i_mul, i_sub, i_p1, i_m1, i_nm, i_nm2, i_cl, i_cl0, vi_ok, i_lt, i_le, i_eq, lg_e, gI_s, gI_c, gI_p, gI_L, gI_R, gL_s, gL_c, gL_p, gL_I, gL_R, gR_s, gR_c, gR_p, gR_I, gR_L])
          exact hS.2.2.1 j hj
        · intro v hv
          (try simp (disch := first | assumption | omega) only [true_and, and_true, forall_eq, true_implies, false_implies, implies_true, not_true_eq_false, not_false_eq_true, false_and, and_false, ne_eq, ite_true, ite_false, Nat.reduceLeDiff, Nat.reduceEqDiff, Nat.reduceLT, Nat.reduceAdd, Nat.reduceMul, Nat.reduceSub, Nat.le_refl, eq_self, li_0, li_1, li_2, li_3, li_4, li_5, li_6, li_7, li_8, li_9, li_10, li_11, li_12, li_13, li_14, li_15, li_16, li_17, li_18, li_19, li_20, li_21, li_22, li_23, li_24, li_25, li_26, li_27, li_28, li_29, li_30, li_31, li_32, li_44, li_48, li_57, li_59, li_60, li_61, li_62, li_63, li_97, li_100, li_122, li_123, li_125, li_127, li_255, li_400, li_401, li_800, li_1023, li_1024, li_10827, i_add, i_mul, i_sub, i_p1, i_m1, i_nm, i_nm2, i_cl, i_cl0, vi_ok, i_lt, i_le, i_eq, lg_e, gI_s, gI_c, gI_p, gI_L, gI_R, gL_s, gL_c, gL_p, gL_I, gL_R, gR_s, gR_c, gR_p, gR_I, gR_L])
          exact hS.2.2.2 v hv
    rw [if_neg z1] at hi
    refine ⟨fun z2 => ?_, fun z2 => ?_⟩
    · rw [if_pos z2] at hi
      have o2 := o2 (by omega)
      have o3 := o3 (Or.inl z2)
      have w3 := w3 z2
      (try simp (disch := first | assumption | omega) only [true_and, and_true, forall_eq, true_implies, false_implies, implies_true, not_true_eq_false, not_false_eq_true, false_and, and_false, ne_eq, ite_true, ite_false, Nat.reduceLeDiff, Nat.reduceEqDiff, Nat.reduceLT, Nat.reduceAdd, Nat.reduceMul, Nat.reduceSub, Nat.le_refl, eq_self, li_0, li_1, li_2, li_3, li_4, li_5, li_6, li_7, li_8, li_9, li_10, li_11, li_12, li_13, li_14, li_15, li_16, li_17, li_18, li_19, li_20, li_21, li_22, li_23, li_24, li_25, li_26, li_27, li_28, li_29, li_30, li_31, li_32, li_44, li_48, li_57, li_59, li_60, li_61, li_62, li_63, li_97, li_100, li_122, li_123, li_125, li_127, li_255, li_400, li_401, li_800, li_1023, li_1024, li_10827, i_add, i_mul, i_sub, i_p1, i_m1, i_nm, i_nm2, i_cl, i_cl0, vi_ok, i_lt, i_le, i_eq, lg_e, isB_x, rfB_3, rfB_4, rfB_5, rfB_6, rfB_7, rfB_8, rfB_9, rfB_10, rfB_11, rfB_12, rfB_13, rfB_14, rfB_15, rfB_16, rfB_17, rfB_18, rfB_19, rfB_20, rfB_21, isB_1, szB_1, isB_2, szB_2, isB_3, szB_3, isB_4, szB_4, isB_5, szB_5, isB_6, szB_6, isB_7, szB_7, isB_8, szB_8, isB_9, szB_9, isB_10, szB_10, isB_11, szB_11, isB_12, szB_12, isB_13, szB_13, isB_14, szB_14, isB_15, szB_15, isB_16, szB_16, isB_17, szB_17, isB_18, szB_18, isB_19, szB_19, rf_103_4, rf_103_6, rf_103_7, rf_103_8, rf_103_9, rf_103_10, rf_103_21, rf_103_22, rf_103_23, rf_103_26, rf_103_27, rf_103_28, rf_103_29, rf_103_30, rf_103_31, rf_103_32, rf_103_33, rf_103_34, rf_103_35, rf_103_37, rf_103_38, rf_103_39, rf_103_44, rf_103_45, rf_103_46, rf_103_47, rf_103_48, rf_103_49, rf_103_54, rf_103_55, is_103, is_104, sz_104, is_125, sz_125, is_126, sz_126, is_127, sz_127, is_128, sz_128, is_129, sz_129, is_130, sz_130, is_131, sz_131, is_132, sz_132, is_133, sz_133, is_134, sz_134, is_135, sz_135, is_136, sz_136, is_137, sz_137, is_138, sz_138, is_139, sz_139, is_140, sz_140, is_141, sz_141, is_142, sz_142, is_143, sz_143, is_144, sz_144, is_145, sz_145, is_146, sz_146, is_147, sz_147, is_148, sz_148, is_149, sz_149, is_150, sz_150, is_151, sz_151, is_152, sz_152, is_153, sz_153, o2, o3])
      refine hi _ hr.setI (hf.setI (Or.inr (Or.inr (Or.inl rfl)))) ⟨?_, ?_, ?_, ?_⟩
      · (try simp (disch := first | assumption | omega) only [true_and, and_true, forall_eq, true_implies, false_implies, implies_true, not_true_eq_false, not_false_eq_true, false_and, and_false, ne_eq, ite_true, ite_false, Nat.reduceLeDiff, Nat.reduceEqDiff, Nat.reduceLT, Nat.reduceAdd, Nat.reduceMul, Nat.reduceSub, Nat.le_refl, eq_self, li_0, li_1, li_2, li_3, li_4, li_5, li_6, li_7, li_8, li_9, li_10, li_11, li_12, li_13, li_14, li_15, li_16, li_17, li_18, li_19, li_20, li_21, li_22, li_23, li_24, li_25, li_26, li_27, li_28, li_29, li_30, li_31, li_32, li_44, li_48, li_57, li_59, li_60, li_61, li_62, li_63, li_97, li_100, li_122, li_123, li_125, li_127, li_255, li_400, li_401, li_800, li_1023, li_1024, li_10827, i_add, i_mul, i_sub, i_p1, i_m1, i_nm, i_nm2, i_cl, i_cl0, vi_ok, i_lt, i_le, i_eq, lg_e, gI_s, gI_c, gI_p, gI_L, gI_R, gL_s, gL_c, gL_p, gL_I, gL_R, gR_s, gR_c, gR_p, gR_I, gR_L]); exact hS.1
      · (try simp (disch := first | assumption | omega) only [true_and, and_true, forall_eq, true_implies, false_implies, implies_true, not_true_eq_false, not_false_eq_true, false_and, and_false, ne_eq, ite_true, ite_false, Nat.reduceLeDiff, Nat.reduceEqDiff, Nat.reduceLT, Nat.reduceAdd, Nat.reduceMul, Nat.reduceSub, Nat.le_refl, eq_self, li_0, li_1, li_2, li_3, li_4, li_5, li_6, li_7, li_8, li_9, li_10, li_11, li_12, li_13, li_14, li_15, li_16, li_17, li_18, li_19, li_20, li_21, li_22, li_23, li_24, li_25, li_26, li_27, li_28, li_29, li_30, li_31, li_32, li_44, li_48, li_57, li_59, li_60, li_61, li_62, li_63, li_97, li_100, li_122, li_123, li_125, li_127, li_255, li_400, li_401, li_800, li_1023, li_1024, li_10827, i_add, i_mul, i_sub, i_p1, i_m1, i_nm, i_nm2, i_cl, i_cl0, vi_ok, i_lt, i_le, i_eq, lg_e, gI_s, gI_c, gI_p, gI_L, gI_R, gL_s, gL_c, gL_p, gL_I, gL_R, gR_s, gR_c, gR_p, gR_I, gR_L]); exact hS.2.1
      · intro j hj
        (try simp (disch := first | assumption | omega) only [true_and, and_true, forall_eq, true_implies, false_implies, implies_true, not_true_eq_false, not_false_eq_true, false_and, and_false, ne_eq, ite_true, ite_false, Nat.reduceLeDiff, Nat.reduceEqDiff, Nat.reduceLT, Nat.reduceAdd, Nat.reduceMul, Nat.reduceSub, Nat.le_refl, eq_self, li_0, li_1, li_2, li_3, li_4, li_5, li_6, li_7, li_8, li_9, li_10, li_11, li_12, li_13, li_14, li_15, li_16, li_17, li_18, li_19, li_20, li_21, li_22, li_23, li_24, li_25, li_26, li_27, li_28, li_29, li_30, li_31, li_32, li_44, li_48, li_57, li_59, li_60, li_61, li_62, li_63, li_97, li_100, li_122, li_123, li_125, li_127, li_255, li_400, li_401, li_800, li_1023, li_1024, li_10827, i_add, i_mul, i_sub, i_p1, i_m1, i_nm, i_nm2, i_cl, i_cl0, vi_ok, i_lt, i_le, i_eq, lg_e, gI_s, gI_c, gI_p, gI_L, gI_R, gL_s, gL_c, gL_p, gL_I, gL_R, gR_s, gR_c, gR_p, gR_I, gR_L])
        exact hS.2.2.1 j hj
      · intro v hv
        show _ = Int32.ofNat (nup S.2.2.2.2 (D 16 (4 * k + d)) (D 17 (4 * k + d)) v)
        unfold nup
        by_cases e : v = D 16 (4 * k + d)
        · rw [if_pos e, gI_t rfl e]
        · rw [if_neg e, gI_p e]
          exact hS.2.2.2 v hv
    rw [if_neg z2] at hi
    refine ⟨fun z3 => ?_, fun z3 => ?_⟩
    · rw [if_pos z3] at hi
      have o2 := o2 (by omega)
      have o3 := o3 (Or.inr z3)
      have w4 := w4 z3
      have hv := hD.2.2.1 _ w4.1
      have hs6 := hs.2.2.2.2.2 (D 16 (4 * k + d)) (by omega)
      (try simp (disch := first | assumption | omega) only [true_and, and_true, forall_eq, true_implies, false_implies, implies_true, not_true_eq_false, not_false_eq_true, false_and, and_false, ne_eq, ite_true, ite_false, Nat.reduceLeDiff, Nat.reduceEqDiff, Nat.reduceLT, Nat.reduceAdd, Nat.reduceMul, Nat.reduceSub, Nat.le_refl, eq_self, li_0, li_1, li_2, li_3, li_4, li_5, li_6, li_7, li_8, li_9, li_10, li_11, li_12, li_13, li_14, li_15, li_16, li_17, li_18, li_19, li_20, li_21, li_22, li_23, li_24, li_25, li_26, li_27, li_28, li_29, li_30, li_31, li_32, li_44, li_48, li_57, li_59, li_60, li_61, li_62, li_63, li_97, li_100, li_122, li_123, li_125, li_127, li_255, li_400, li_401, li_800, li_1023, li_1024, li_10827, i_add, i_mul, i_sub, i_p1, i_m1, i_nm, i_nm2, i_cl, i_cl0, vi_ok, i_lt, i_le, i_eq, lg_e, isB_x, rfB_3, rfB_4, rfB_5, rfB_6, rfB_7, rfB_8, rfB_9, rfB_10, rfB_11, rfB_12, rfB_13, rfB_14, rfB_15, rfB_16, rfB_17, rfB_18, rfB_19, rfB_20, rfB_21, isB_1, szB_1, isB_2, szB_2, isB_3, szB_3, isB_4, szB_4, isB_5, szB_5, isB_6, szB_6, isB_7, szB_7, isB_8, szB_8, isB_9, szB_9, isB_10, szB_10, isB_11, szB_11, isB_12, szB_12, isB_13, szB_13, isB_14, szB_14, isB_15, szB_15, isB_16, szB_16, isB_17, szB_17, isB_18, szB_18, isB_19, szB_19, rf_103_4, rf_103_6, rf_103_7, rf_103_8, rf_103_9, rf_103_10, rf_103_21, rf_103_22, rf_103_23, rf_103_26, rf_103_27, rf_103_28, rf_103_29, rf_103_30, rf_103_31, rf_103_32, rf_103_33, rf_103_34, rf_103_35, rf_103_37, rf_103_38, rf_103_39, rf_103_44, rf_103_45, rf_103_46, rf_103_47, rf_103_48, rf_103_49, rf_103_54, rf_103_55, is_103, is_104, sz_104, is_125, sz_125, is_126, sz_126, is_127, sz_127, is_128, sz_128, is_129, sz_129, is_130, sz_130, is_131, sz_131, is_132, sz_132, is_133, sz_133, is_134, sz_134, is_135, sz_135, is_136, sz_136, is_137, sz_137, is_138, sz_138, is_139, sz_139, is_140, sz_140, is_141, sz_141, is_142, sz_142, is_143, sz_143, is_144, sz_144, is_145, sz_145, is_146, sz_146, is_147, sz_147, is_148, sz_148, is_149, sz_149, is_150, sz_150, is_151, sz_151, is_152, sz_152, is_153, sz_153, o2, o3, (hB.2.2.1 _ w4.1).2.1, hS.2.2.2 (D 16 (4 * k + d)) (by omega), i_rem, show ¬ D 4 (D 16 (4 * k + d)) + 1 = 0 by omega])
      refine hi _ hr.setI (hf.setI (Or.inr (Or.inr (Or.inl rfl)))) ⟨?_, ?_, ?_, ?_⟩
      · (try simp (disch := first | assumption | omega) only [true_and, and_true, forall_eq, true_implies, false_implies, implies_true, not_true_eq_false, not_false_eq_true, false_and, and_false, ne_eq, ite_true, ite_false, Nat.reduceLeDiff, Nat.reduceEqDiff, Nat.reduceLT, Nat.reduceAdd, Nat.reduceMul, Nat.reduceSub, Nat.le_refl, eq_self, li_0, li_1, li_2, li_3, li_4, li_5, li_6, li_7, li_8, li_9, li_10, li_11, li_12, li_13, li_14, li_15, li_16, li_17, li_18, li_19, li_20, li_21, li_22, li_23, li_24, li_25, li_26, li_27, li_28, li_29, li_30, li_31, li_32, li_44, li_48, li_57, li_59, li_60, li_61, li_62, li_63, li_97, li_100, li_122, li_123, li_125, li_127, li_255, li_400, li_401, li_800, li_1023, li_1024, li_10827, i_add, i_mul, i_sub, i_p1, i_m1, i_nm, i_nm2, i_cl, i_cl0, vi_ok, i_lt, i_le, i_eq, lg_e, gI_s, gI_c, gI_p, gI_L, gI_R, gL_s, gL_c, gL_p, gL_I, gL_R, gR_s, gR_c, gR_p, gR_I, gR_L]); exact hS.1
      · (try simp (disch := first | assumption | omega) only [true_and, and_true, forall_eq, true_implies, false_implies, implies_true, not_true_eq_false, not_false_eq_true, false_and, and_false, ne_eq, ite_true, ite_false, Nat.reduceLeDiff, Nat.reduceEqDiff, Nat.reduceLT, Nat.reduceAdd, Nat.reduceMul, Nat.reduceSub, Nat.le_refl, eq_self, li_0, li_1, li_2, li_3, li_4, li_5, li_6, li_7, li_8, li_9, li_10, li_11, li_12, li_13, li_14, li_15, li_16, li_17, li_18, li_19, li_20, li_21, li_22, li_23, li_24, li_25, li_26, li_27, li_28, li_29, li_30, li_31, li_32, li_44, li_48, li_57, li_59, li_60, li_61, li_62, li_63, li_97, li_100, li_122, li_123, li_125, li_127, li_255, li_400, li_401, li_800, li_1023, li_1024, li_10827, i_add, i_mul, i_sub, i_p1, i_m1, i_nm, i_nm2, i_cl, i_cl0, vi_ok, i_lt, i_le, i_eq, lg_e, gI_s, gI_c, gI_p, gI_L, gI_R, gL_s, gL_c, gL_p, gL_I, gL_R, gR_s, gR_c, gR_p, gR_I, gR_L]); exact hS.2.1
      · intro j hj
        (try simp (disch := first | assumption | omega) only [true_and, and_true, forall_eq, true_implies, false_implies, implies_true, not_true_eq_false, not_false_eq_true, false_and, and_false, ne_eq, ite_true, ite_false, Nat.reduceLeDiff, Nat.reduceEqDiff, Nat.reduceLT, Nat.reduceAdd, Nat.reduceMul, Nat.reduceSub, Nat.le_refl, eq_self, li_0, li_1, li_2, li_3, li_4, li_5, li_6, li_7, li_8, li_9, li_10, li_11, li_12, li_13, li_14, li_15, li_16, li_17, li_18, li_19, li_20, li_21, li_22, li_23, li_24, li_25, li_26, li_27, li_28, li_29, li_30, li_31, li_32, li_44, li_48, li_57, li_59, li_60, li_61, li_62, li_63, li_97, li_100, li_122, li_123, li_125, li_127, li_255, li_400, li_401, li_800, li_1023, li_1024, li_10827, i_add, i_mul, i_sub, i_p1, i_m1, i_nm, i_nm2, i_cl, i_cl0, vi_ok, i_lt, i_le, i_eq, lg_e, gI_s, gI_c, gI_p, gI_L, gI_R, gL_s, gL_c, gL_p, gL_I, gL_R, gR_s, gR_c, gR_p, gR_I, gR_L])
        exact hS.2.2.1 j hj
      · intro v hv
        show _ = Int32.ofNat (nup S.2.2.2.2 (D 16 (4 * k + d)) _ v)
        unfold nup
        by_cases e : v = D 16 (4 * k + d)
        · rw [if_pos e, gI_t rfl e]
        · rw [if_neg e, gI_p e]
          exact hS.2.2.2 v hv
    rw [if_neg z3] at hi
    have w5 := w5 (by omega)
    have o2 := o2 (by omega)
    rw [o2]
    have f2 : FrS h0 (ax_setI (ax_setI h 103 19 (Int32.ofNat (D 16 (4 * k + d)))) 103 20 (Int32.ofNat 0)) := (hf.setI (Or.inr (Or.inr (Or.inr ⟨rfl, Or.inl rfl⟩)))).setI (Or.inr (Or.inr (Or.inr ⟨rfl, Or.inr rfl⟩)))
    have r2 : Refs (ax_setI (ax_setI h 103 19 (Int32.ofNat (D 16 (4 * k + d)))) 103 20 (Int32.ofNat 0)) := hr.setI.setI
    (try simp (disch := first | assumption | omega) only [true_and, and_true, forall_eq, true_implies, false_implies, implies_true, not_true_eq_false, not_false_eq_true, false_and, and_false, ne_eq, ite_true, ite_false, Nat.reduceLeDiff, Nat.reduceEqDiff, Nat.reduceLT, Nat.reduceAdd, Nat.reduceMul, Nat.reduceSub, Nat.le_refl, eq_self, li_0, li_1, li_2, li_3, li_4, li_5, li_6, li_7, li_8, li_9, li_10, li_11, li_12, li_13, li_14, li_15, li_16, li_17, li_18, li_19, li_20, li_21, li_22, li_23, li_24, li_25, li_26, li_27, li_28, li_29, li_30, li_31, li_32, li_44, li_48, li_57, li_59, li_60, li_61, li_62, li_63, li_97, li_100, li_122, li_123, li_125, li_127, li_255, li_400, li_401, li_800, li_1023, li_1024, li_10827, i_add, i_mul, i_sub, i_p1, i_m1, i_nm, i_nm2, i_cl, i_cl0, vi_ok, i_lt, i_le, i_eq, lg_e])
    refine k_X12_forgets (V := S.2.2.2.2) r2 hy hD (f2.repB hy hB0) ?_ ?_
    · intro v hv
      (try simp (disch := first | assumption | omega) only [true_and, and_true, forall_eq, true_implies, false_implies, implies_true, not_true_eq_false, not_false_eq_true, false_and, and_false, ne_eq, ite_true, ite_false, Nat.reduceLeDiff, Nat.reduceEqDiff, Nat.reduceLT, Nat.reduceAdd, Nat.reduceMul, Nat.reduceSub, Nat.le_refl, eq_self, li_0, li_1, li_2, li_3, li_4, li_5, li_6, li_7, li_8, li_9, li_10, li_11, li_12, li_13, li_14, li_15, li_16, li_17, li_18, li_19, li_20, li_21, li_22, li_23, li_24, li_25, li_26, li_27, li_28, li_29, li_30, li_31, li_32, li_44, li_48, li_57, li_59, li_60, li_61, li_62, li_63, li_97, li_100, li_122, li_123, li_125, li_127, li_255, li_400, li_401, li_800, li_1023, li_1024, li_10827, i_add, i_mul, i_sub, i_p1, i_m1, i_nm, i_nm2, i_cl, i_cl0, vi_ok, i_lt, i_le, i_eq, lg_e, gI_s, gI_c, gI_p, gI_L, gI_R, gL_s, gL_c, gL_p, gL_I, gL_R, gR_s, gR_c, gR_p, gR_I, gR_L])
      exact hS.2.2.2 v hv
    · intro h' f' g1 g2
      (try simp (disch := first | assumption | omega) only [true_and, and_true, forall_eq, true_implies, false_implies, implies_true, not_true_eq_false, not_false_eq_true, false_and, and_false, ne_eq, ite_true, ite_false, Nat.reduceLeDiff, Nat.reduceEqDiff, Nat.reduceLT, Nat.reduceAdd, Nat.reduceMul, Nat.reduceSub, Nat.le_refl, eq_self, li_0, li_1, li_2, li_3, li_4, li_5, li_6, li_7, li_8, li_9, li_10, li_11, li_12, li_13, li_14, li_15, li_16, li_17, li_18, li_19, li_20, li_21, li_22, li_23, li_24, li_25, li_26, li_27, li_28, li_29, li_30, li_31, li_32, li_44, li_48, li_57, li_59, li_60, li_61, li_62, li_63, li_97, li_100, li_122, li_123, li_125, li_127, li_255, li_400, li_401, li_800, li_1023, li_1024, li_10827, i_add, i_mul, i_sub, i_p1, i_m1, i_nm, i_nm2, i_cl, i_cl0, vi_ok, i_lt, i_le, i_eq, lg_e])
      refine hi h' (f'.refs r2) (f2.trans f') ⟨?_, ?_, ?_, ?_⟩
      · rw [g1 _ _ (by decide)]
        (try simp (disch := first | assumption | omega) only [true_and, and_true, forall_eq, true_implies, false_implies, implies_true, not_true_eq_false, not_false_eq_true, false_and, and_false, ne_eq, ite_true, ite_false, Nat.reduceLeDiff, Nat.reduceEqDiff, Nat.reduceLT, Nat.reduceAdd, Nat.reduceMul, Nat.reduceSub, Nat.le_refl, eq_self, li_0, li_1, li_2, li_3, li_4, li_5, li_6, li_7, li_8, li_9, li_10, li_11, li_12, li_13, li_14, li_15, li_16, li_17, li_18, li_19, li_20, li_21, li_22, li_23, li_24, li_25, li_26, li_27, li_28, li_29, li_30, li_31, li_32, li_44, li_48, li_57, li_59, li_60, li_61, li_62, li_63, li_97, li_100, li_122, li_123, li_125, li_127, li_255, li_400, li_401, li_800, li_1023, li_1024, li_10827, i_add, i_mul, i_sub, i_p1, i_m1, i_nm, i_nm2, i_cl, i_cl0, vi_ok, i_lt, i_le, i_eq, lg_e, gI_s, gI_c, gI_p, gI_L, gI_R, gL_s, gL_c, gL_p, gL_I, gL_R, gR_s, gR_c, gR_p, gR_I, gR_L])
        rfl
      · rw [g1 _ _ (by decide)]
        (try simp (disch := first | assumption | omega) only [true_and, and_true, forall_eq, true_implies, false_implies, implies_true, not_true_eq_false, not_false_eq_true, false_and, and_false, ne_eq, ite_true, ite_false, Nat.reduceLeDiff, Nat.reduceEqDiff, Nat.reduceLT, Nat.reduceAdd, Nat.reduceMul, Nat.reduceSub, Nat.le_refl, eq_self, li_0, li_1, li_2, li_3, li_4, li_5, li_6, li_7, li_8, li_9, li_10, li_11, li_12, li_13, li_14, li_15, li_16, li_17, li_18, li_19, li_20, li_21, li_22, li_23, li_24, li_25, li_26, li_27, li_28, li_29, li_30, li_31, li_32, li_44, li_48, li_57, li_59, li_60, li_61, li_62, li_63, li_97, li_100, li_122, li_123, li_125, li_127, li_255, li_400, li_401, li_800, li_1023, li_1024, li_10827, i_add, i_mul, i_sub, i_p1, i_m1, i_nm, i_nm2, i_cl, i_cl0, vi_ok, i_lt, i_le, i_eq, lg_e, gI_s, gI_c, gI_p, gI_L, gI_R, gL_s, gL_c, gL_p, gL_I, gL_R, gR_s, gR_c, gR_p, gR_I, gR_L])
        rfl
      · intro j hj
        exact absurd hj (Nat.not_lt_zero j)
      · intro v hv
        exact g2 v hv
theorem k_X12_does {l : Launch} {g : AG} {h : AH} {y k : Nat} {S : AS} {D : AD} {Q : AH → Prop} (hr : Refs h) (hy : isB y) (hD : WfD D) (hk : isL D k) (hs : WS (D 0 0) S) (hS : RepS h S) (hB : RepB h y D) (hq : ∀ h', FrS h h' → RepS h' (doD D S (4 * k) (D 14 k)) → Q h') : C_X12_does l g h 103 y (Int32.ofNat k) Q := by
  refine c_X12_does (s_X12_does_0 ?_)
  (try simp (disch := first | assumption | omega) only [true_and, and_true, forall_eq, true_implies, false_implies, implies_true, not_true_eq_false, not_false_eq_true, false_and, and_false, ne_eq, ite_true, ite_false, Nat.reduceLeDiff, Nat.reduceEqDiff, Nat.reduceLT, Nat.reduceAdd, Nat.reduceMul, Nat.reduceSub, Nat.le_refl, eq_self, li_0, li_1, li_2, li_3, li_4, li_5, li_6, li_7, li_8, li_9, li_10, li_11, li_12, li_13, li_14, li_15, li_16, li_17, li_18, li_19, li_20, li_21, li_22, li_23, li_24, li_25, li_26, li_27, li_28, li_29, li_30, li_31, li_32, li_44, li_48, li_57, li_59, li_60, li_61, li_62, li_63, li_97, li_100, li_122, li_123, li_125, li_127, li_255, li_400, li_401, li_800, li_1023, li_1024, li_10827, i_add, i_mul, i_sub, i_p1, i_m1, i_nm, i_nm2, i_cl, i_cl0, vi_ok, i_lt, i_le, i_eq, lg_e])
  exact k_X12_does_loop hy hD hk hB (D 14 k) 0 S (by omega) hs h hr (FrS.refl h) hS hq
theorem repS_tick {h h1 : AH} {S : AS} {n x : Nat} (hn : S.2.1 = n + 1) (hS : RepS h S) (e : ∀ c p, ¬ (c = 131 ∧ p = n) → h1.1 c p = h.1 c p) (e2 : h1.1 131 n = Int32.ofNat x) : RepS h1 (stTick S x) := by
  refine ⟨?_, ?_, fun j hj => ?_, fun v hv => ?_⟩
  · rw [e _ _ (by omega)]; exact hS.1
  · rw [e _ _ (by omega)]; exact hS.2.1
  · rw [e 130 j (by omega)]
    refine ⟨(hS.2.2.1 j hj).1, ?_⟩
    show _ = Int32.ofNat (nup S.2.2.2.1 (S.2.1 - 1) x j)
    rw [hn, Nat.add_sub_cancel]
    by_cases c : j = n
    · rw [c, show nup S.2.2.2.1 n x n = x from by unfold nup; rw [if_pos rfl]]; exact e2
    · rw [show nup S.2.2.2.1 n x j = S.2.2.2.1 j from by unfold nup; rw [if_neg c], e 131 j (by omega)]
      exact (hS.2.2.1 j hj).2
  · rw [e _ _ (by omega)]; exact hS.2.2.2 v hv
theorem k_X12_acts {l : Launch} {g : AG} {h : AH} {y a : Nat} {S : AS} {D : AD} {Q : AH → Prop} (hr : Refs h) (hy : isB y) (hD : WfD D) (hs : WS (D 0 0) S) (hS : RepS h S) (hB : RepB h y D) (ha : a < 27) (hp : possD D S a) (hq : ∀ h', FrS h h' → RepS h' (stepD D S a) → Q h') : C_X12_acts l g h 103 y (Int32.ofNat a) Q := by
  have hyu : y = 105 ∨ y = 154 ∨ y = 174 := hy
  have hB24 := hD.1.2.2.1
  have h8 := hD.1.2.1
  have h5 := hs.2.1
  refine c_X12_acts (s_X12_acts_0 ?_)
  unfold stepD at hq
  by_cases c0 : a < 24
  · rw [if_pos c0] at hq
    have hab : a < D 0 1 := by
      rcases hp with z | ⟨z0, z | z | z⟩
      · omega
      · omega
      · omega
      · exact z.1
    (try simp (disch := first | assumption | omega) only [true_and, and_true, forall_eq, true_implies, false_implies, implies_true, not_true_eq_false, not_false_eq_true, false_and, and_false, ne_eq, ite_true, ite_false, Nat.reduceLeDiff, Nat.reduceEqDiff, Nat.reduceLT, Nat.reduceAdd, Nat.reduceMul, Nat.reduceSub, Nat.le_refl, eq_self, li_0, li_1, li_2, li_3, li_4, li_5, li_6, li_7, li_8, li_9, li_10, li_11, li_12, li_13, li_14, li_15, li_16, li_17, li_18, li_19, li_20, li_21, li_22, li_23, li_24, li_25, li_26, li_27, li_28, li_29, li_30, li_31, li_32, li_44, li_48, li_57, li_59, li_60, li_61, li_62, li_63, li_97, li_100, li_122, li_123, li_125, li_127, li_255, li_400, li_401, li_800, li_1023, li_1024, li_10827, i_add, i_mul, i_sub, i_p1, i_m1, i_nm, i_nm2, i_cl, i_cl0, vi_ok, i_lt, i_le, i_eq, lg_e, show ¬ 24 ≤ a by omega, is_103, isB_x])
    exact k_X12_does hr hy hD (Or.inl hab) hs hS hB hq
  rw [if_neg c0] at hq
  by_cases c1 : a = 24
  · rw [if_pos c1] at hq
    subst c1
    have h0 : 0 < S.2.1 := by
      rcases hp with z | z
      · omega
      · exact z.1
    obtain ⟨n, hn⟩ : ∃ n, S.2.1 = n + 1 := ⟨S.2.1 - 1, by omega⟩
    rw [hn, Nat.add_sub_cancel] at hq
    have hw := hs.2.2.2.2.1 n (by omega)
    have hWw := hD.2.1 _ hw.1
    have hSn := hS.2.2.1 n (by omega)
    have hBw := hB.2.1 _ hw.1
    (try simp (disch := first | assumption | omega) only [true_and, and_true, forall_eq, true_implies, false_implies, implies_true, not_true_eq_false, not_false_eq_true, false_and, and_false, ne_eq, ite_true, ite_false, Nat.reduceLeDiff, Nat.reduceEqDiff, Nat.reduceLT, Nat.reduceAdd, Nat.reduceMul, Nat.reduceSub, Nat.le_refl, eq_self, li_0, li_1, li_2, li_3, li_4, li_5, li_6, li_7, li_8, li_9, li_10, li_11, li_12, li_13, li_14, li_15, li_16, li_17, li_18, li_19, li_20, li_21, li_22, li_23, li_24, li_25, li_26, li_27, li_28, li_29, li_30, li_31, li_32, li_44, li_48, li_57, li_59, li_60, li_61, li_62, li_63, li_97, li_100, li_122, li_123, li_125, li_127, li_255, li_400, li_401, li_800, li_1023, li_1024, li_10827, i_add, i_mul, i_sub, i_p1, i_m1, i_nm, i_nm2, i_cl, i_cl0, vi_ok, i_lt, i_le, i_eq, lg_e, isB_x, rfB_3, rfB_4, rfB_5, rfB_6, rfB_7, rfB_8, rfB_9, rfB_10, rfB_11, rfB_12, rfB_13, rfB_14, rfB_15, rfB_16, rfB_17, rfB_18, rfB_19, rfB_20, rfB_21, isB_1, szB_1, isB_2, szB_2, isB_3, szB_3, isB_4, szB_4, isB_5, szB_5, isB_6, szB_6, isB_7, szB_7, isB_8, szB_8, isB_9, szB_9, isB_10, szB_10, isB_11, szB_11, isB_12, szB_12, isB_13, szB_13, isB_14, szB_14, isB_15, szB_15, isB_16, szB_16, isB_17, szB_17, isB_18, szB_18, isB_19, szB_19, rf_103_4, rf_103_6, rf_103_7, rf_103_8, rf_103_9, rf_103_10, rf_103_21, rf_103_22, rf_103_23, rf_103_26, rf_103_27, rf_103_28, rf_103_29, rf_103_30, rf_103_31, rf_103_32, rf_103_33, rf_103_34, rf_103_35, rf_103_37, rf_103_38, rf_103_39, rf_103_44, rf_103_45, rf_103_46, rf_103_47, rf_103_48, rf_103_49, rf_103_54, rf_103_55, is_103, is_104, sz_104, is_125, sz_125, is_126, sz_126, is_127, sz_127, is_128, sz_128, is_129, sz_129, is_130, sz_130, is_131, sz_131, is_132, sz_132, is_133, sz_133, is_134, sz_134, is_135, sz_135, is_136, sz_136, is_137, sz_137, is_138, sz_138, is_139, sz_139, is_140, sz_140, is_141, sz_141, is_142, sz_142, is_143, sz_143, is_144, sz_144, is_145, sz_145, is_146, sz_146, is_147, sz_147, is_148, sz_148, is_149, sz_149, is_150, sz_150, is_151, sz_151, is_152, sz_152, is_153, sz_153, hS.2.1, hn, Nat.add_sub_cancel, hSn.1, hBw.2.2.2])
    refine ⟨fun z => ?_, fun z => ?_⟩
    · rw [if_neg z] at hq
      (try simp (disch := first | assumption | omega) only [true_and, and_true, forall_eq, true_implies, false_implies, implies_true, not_true_eq_false, not_false_eq_true, false_and, and_false, ne_eq, ite_true, ite_false, Nat.reduceLeDiff, Nat.reduceEqDiff, Nat.reduceLT, Nat.reduceAdd, Nat.reduceMul, Nat.reduceSub, Nat.le_refl, eq_self, li_0, li_1, li_2, li_3, li_4, li_5, li_6, li_7, li_8, li_9, li_10, li_11, li_12, li_13, li_14, li_15, li_16, li_17, li_18, li_19, li_20, li_21, li_22, li_23, li_24, li_25, li_26, li_27, li_28, li_29, li_30, li_31, li_32, li_44, li_48, li_57, li_59, li_60, li_61, li_62, li_63, li_97, li_100, li_122, li_123, li_125, li_127, li_255, li_400, li_401, li_800, li_1023, li_1024, li_10827, i_add, i_mul, i_sub, i_p1, i_m1, i_nm, i_nm2, i_cl, i_cl0, vi_ok, i_lt, i_le, i_eq, lg_e, isB_x, rfB_3, rfB_4, rfB_5, rfB_6, rfB_7, rfB_8, rfB_9, rfB_10, rfB_11, rfB_12, rfB_13, rfB_14, rfB_15, rfB_16, rfB_17, rfB_18, rfB_19, rfB_20, rfB_21, isB_1, szB_1, isB_2, szB_2, isB_3, szB_3, isB_4, szB_4, isB_5, szB_5, isB_6, szB_6, isB_7, szB_7, isB_8, szB_8, isB_9, szB_9, isB_10, szB_10, isB_11, szB_11, isB_12, szB_12, isB_13, szB_13, isB_14, szB_14, isB_15, szB_15, isB_16, szB_16, isB_17, szB_17, isB_18, szB_18, isB_19, szB_19, rf_103_4, rf_103_6, rf_103_7, rf_103_8, rf_103_9, rf_103_10, rf_103_21, rf_103_22, rf_103_23, rf_103_26, rf_103_27, rf_103_28, rf_103_29, rf_103_30, rf_103_31, rf_103_32, rf_103_33, rf_103_34, rf_103_35, rf_103_37, rf_103_38, rf_103_39, rf_103_44, rf_103_45, rf_103_46, rf_103_47, rf_103_48, rf_103_49, rf_103_54, rf_103_55, is_103, is_104, sz_104, is_125, sz_125, is_126, sz_126, is_127, sz_127, is_128, sz_128, is_129, sz_129, is_130, sz_130, is_131, sz_131, is_132, sz_132, is_133, sz_133, is_134, sz_134, is_135, sz_135, is_136, sz_136, is_137, sz_137, is_138, sz_138, is_139, sz_139, is_140, sz_140, is_141, sz_141, is_142, sz_142, is_143, sz_143, is_144, sz_144, is_145, sz_145, is_146, sz_146, is_147, sz_147, is_148, sz_148, is_149, sz_149, is_150, sz_150, is_151, sz_151, is_152, sz_152, is_153, sz_153, gI_s, gI_c, gI_p, gI_L, gI_R, gL_s, gL_c, gL_p, gL_I, gL_R, gR_s, gR_c, gR_p, gR_I, gR_L, hS.2.1, hn, Nat.add_sub_cancel, hSn.1, hSn.2, hBw.2.2.2])
      refine ⟨fun z1 => ?_, fun z1 => ?_⟩
      · rw [if_neg (by omega)] at hq
        have f2 : FrS h (ax_setI (ax_setI h 131 n (Int32.ofNat (S.2.2.2.1 n + 1))) 131 n (Int32.ofNat 0)) := ((FrS.refl h).setI (Or.inr (Or.inl rfl))).setI (Or.inr (Or.inl rfl))
        refine k_X12_does (S := stTick S 0) hr.setI.setI hy hD (Or.inr ⟨_, hw.1, rfl, by omega⟩) (hs.tick (by omega)) (repS_tick hn hS (fun c p q => ?_) (gI_s _ _ _ _)) (f2.repB hy hB) (fun h' f' s' => hq h' (f2.trans f') s')
        rw [gI_I, if_neg q, gI_I, if_neg q]
      · rw [if_pos (by omega)] at hq
        refine hq _ ((FrS.refl h).setI (Or.inr (Or.inl rfl))) (repS_tick hn hS (fun c p q => ?_) (gI_s _ _ _ _))
        rw [gI_I, if_neg q]
    · rw [if_pos z] at hq
      exact hq h (FrS.refl h) hS
  rw [if_neg c1] at hq
  by_cases c2 : a = 25
  · rw [if_pos c2] at hq
    subst c2
    have h1 : 1 < S.2.1 := by
      rcases hp with z | ⟨z0, z | z | z⟩
      · omega
      · omega
      · exact z.2
      · have := z.1; omega
    (try simp (disch := first | assumption | omega) only [true_and, and_true, forall_eq, true_implies, false_implies, implies_true, not_true_eq_false, not_false_eq_true, false_and, and_false, ne_eq, ite_true, ite_false, Nat.reduceLeDiff, Nat.reduceEqDiff, Nat.reduceLT, Nat.reduceAdd, Nat.reduceMul, Nat.reduceSub, Nat.le_refl, eq_self, li_0, li_1, li_2, li_3, li_4, li_5, li_6, li_7, li_8, li_9, li_10, li_11, li_12, li_13, li_14, li_15, li_16, li_17, li_18, li_19, li_20, li_21, li_22, li_23, li_24, li_25, li_26, li_27, li_28, li_29, li_30, li_31, li_32, li_44, li_48, li_57, li_59, li_60, li_61, li_62, li_63, li_97, li_100, li_122, li_123, li_125, li_127, li_255, li_400, li_401, li_800, li_1023, li_1024, li_10827, i_add, i_mul, i_sub, i_p1, i_m1, i_nm, i_nm2, i_cl, i_cl0, vi_ok, i_lt, i_le, i_eq, lg_e, rf_103_4, rf_103_6, rf_103_7, rf_103_8, rf_103_9, rf_103_10, rf_103_21, rf_103_22, rf_103_23, rf_103_26, rf_103_27, rf_103_28, rf_103_29, rf_103_30, rf_103_31, rf_103_32, rf_103_33, rf_103_34, rf_103_35, rf_103_37, rf_103_38, rf_103_39, rf_103_44, rf_103_45, rf_103_46, rf_103_47, rf_103_48, rf_103_49, rf_103_54, rf_103_55, is_103, is_104, sz_104, is_125, sz_125, is_126, sz_126, is_127, sz_127, is_128, sz_128, is_129, sz_129, is_130, sz_130, is_131, sz_131, is_132, sz_132, is_133, sz_133, is_134, sz_134, is_135, sz_135, is_136, sz_136, is_137, sz_137, is_138, sz_138, is_139, sz_139, is_140, sz_140, is_141, sz_141, is_142, sz_142, is_143, sz_143, is_144, sz_144, is_145, sz_145, is_146, sz_146, is_147, sz_147, is_148, sz_148, is_149, sz_149, is_150, sz_150, is_151, sz_151, is_152, sz_152, is_153, sz_153, hS.2.1])
    refine hq _ ((FrS.refl h).setI (Or.inr (Or.inr (Or.inr ⟨rfl, Or.inr rfl⟩)))) ?_
    unfold stClose
    rw [if_pos (by omega)]
    refine ⟨?_, ?_, fun j hj => ?_, fun v hv => ?_⟩
    · (try simp (disch := first | assumption | omega) only [true_and, and_true, forall_eq, true_implies, false_implies, implies_true, not_true_eq_false, not_false_eq_true, false_and, and_false, ne_eq, ite_true, ite_false, Nat.reduceLeDiff, Nat.reduceEqDiff, Nat.reduceLT, Nat.reduceAdd, Nat.reduceMul, Nat.reduceSub, Nat.le_refl, eq_self, li_0, li_1, li_2, li_3, li_4, li_5, li_6, li_7, li_8, li_9, li_10, li_11, li_12, li_13, li_14, li_15, li_16, li_17, li_18, li_19, li_20, li_21, li_22, li_23, li_24, li_25, li_26, li_27, li_28, li_29, li_30, li_31, li_32, li_44, li_48, li_57, li_59, li_60, li_61, li_62, li_63, li_97, li_100, li_122, li_123, li_125, li_127, li_255, li_400, li_401, li_800, li_1023, li_1024, li_10827, i_add, i_mul, i_sub, i_p1, i_m1, i_nm, i_nm2, i_cl, i_cl0, vi_ok, i_lt, i_le, i_eq, lg_e, gI_s, gI_c, gI_p, gI_L, gI_R, gL_s, gL_c, gL_p, gL_I, gL_R, gR_s, gR_c, gR_p, gR_I, gR_L]); exact hS.1
    · (try simp (disch := first | assumption | omega) only [true_and, and_true, forall_eq, true_implies, false_implies, implies_true, not_true_eq_false, not_false_eq_true, false_and, and_false, ne_eq, ite_true, ite_false, Nat.reduceLeDiff, Nat.reduceEqDiff, Nat.reduceLT, Nat.reduceAdd, Nat.reduceMul, Nat.reduceSub, Nat.le_refl, eq_self, li_0, li_1, li_2, li_3, li_4, li_5, li_6, li_7, li_8, li_9, li_10, li_11, li_12, li_13, li_14, li_15, li_16, li_17, li_18, li_19, li_20, li_21, li_22, li_23, li_24, li_25, li_26, li_27, li_28, li_29, li_30, li_31, li_32, li_44, li_48, li_57, li_59, li_60, li_61, li_62, li_63, li_97, li_100, li_122, li_123, li_125, li_127, li_255, li_400, li_401, li_800, li_1023, li_1024, li_10827, i_add, i_mul, i_sub, i_p1, i_m1, i_nm, i_nm2, i_cl, i_cl0, vi_ok, i_lt, i_le, i_eq, lg_e, gI_s, gI_c, gI_p, gI_L, gI_R, gL_s, gL_c, gL_p, gL_I, gL_R, gR_s, gR_c, gR_p, gR_I, gR_L])
    · have hj2 : j < S.2.1 - 1 := hj
      (try simp (disch := first | assumption | omega) only [true_and, and_true, forall_eq, true_implies, false_implies, implies_true, not_true_eq_false, not_false_eq_true, false_and, and_false, ne_eq, ite_true, ite_false, Nat.reduceLeDiff, Nat.reduceEqDiff, Nat.reduceLT, Nat.reduceAdd, Nat.reduceMul, Nat.reduceSub, Nat.le_refl, eq_self, li_0, li_1, li_2, li_3, li_4, li_5, li_6, li_7, li_8, li_9, li_10, li_11, li_12, li_13, li_14, li_15, li_16, li_17, li_18, li_19, li_20, li_21, li_22, li_23, li_24, li_25, li_26, li_27, li_28, li_29, li_30, li_31, li_32, li_44, li_48, li_57, li_59, li_60, li_61, li_62, li_63, li_97, li_100, li_122, li_123, li_125, li_127, li_255, li_400, li_401, li_800, li_1023, li_1024, li_10827, i_add, i_mul, i_sub, i_p1, i_m1, i_nm, i_nm2, i_cl, i_cl0, vi_ok, i_lt, i_le, i_eq, lg_e, gI_s, gI_c, gI_p, gI_L, gI_R, gL_s, gL_c, gL_p, gL_I, gL_R, gR_s, gR_c, gR_p, gR_I, gR_L])
      exact hS.2.2.1 j (by omega)
    · (try simp (disch := first | assumption | omega) only [true_and, and_true, forall_eq, true_implies, false_implies, implies_true, not_true_eq_false, not_false_eq_true, false_and, and_false, ne_eq, ite_true, ite_false, Nat.reduceLeDiff, Nat.reduceEqDiff, Nat.reduceLT, Nat.reduceAdd, Nat.reduceMul, Nat.reduceSub, Nat.le_refl, eq_self, li_0, li_1, li_2, li_3, li_4, li_5, li_6, li_7, li_8, li_9, li_10, li_11, li_12, li_13, li_14, li_15, li_16, li_17, li_18, li_19, li_20, li_21, li_22, li_23, li_24, li_25, li_26, li_27, li_28, li_29, li_30, li_31, li_32, li_44, li_48, li_57, li_59, li_60, li_61, li_62, li_63, li_97, li_100, li_122, li_123, li_125, li_127, li_255, li_400, li_401, li_800, li_1023, li_1024, li_10827, i_add, i_mul, i_sub, i_p1, i_m1, i_nm, i_nm2, i_cl, i_cl0, vi_ok, i_lt, i_le, i_eq, lg_e, gI_s, gI_c, gI_p, gI_L, gI_R, gL_s, gL_c, gL_p, gL_I, gL_R, gR_s, gR_c, gR_p, gR_I, gR_L])
      exact hS.2.2.2 v hv
  · rw [if_neg c2] at hq
    have e26 : a = 26 := by omega
    subst e26
    (try simp (disch := first | assumption | omega) only [true_and, and_true, forall_eq, true_implies, false_implies, implies_true, not_true_eq_false, not_false_eq_true, false_and, and_false, ne_eq, ite_true, ite_false, Nat.reduceLeDiff, Nat.reduceEqDiff, Nat.reduceLT, Nat.reduceAdd, Nat.reduceMul, Nat.reduceSub, Nat.le_refl, eq_self, li_0, li_1, li_2, li_3, li_4, li_5, li_6, li_7, li_8, li_9, li_10, li_11, li_12, li_13, li_14, li_15, li_16, li_17, li_18, li_19, li_20, li_21, li_22, li_23, li_24, li_25, li_26, li_27, li_28, li_29, li_30, li_31, li_32, li_44, li_48, li_57, li_59, li_60, li_61, li_62, li_63, li_97, li_100, li_122, li_123, li_125, li_127, li_255, li_400, li_401, li_800, li_1023, li_1024, li_10827, i_add, i_mul, i_sub, i_p1, i_m1, i_nm, i_nm2, i_cl, i_cl0, vi_ok, i_lt, i_le, i_eq, lg_e, rf_103_4, rf_103_6, rf_103_7, rf_103_8, rf_103_9, rf_103_10, rf_103_21, rf_103_22, rf_103_23, rf_103_26, rf_103_27, rf_103_28, rf_103_29, rf_103_30, rf_103_31, rf_103_32, rf_103_33, rf_103_34, rf_103_35, rf_103_37, rf_103_38, rf_103_39, rf_103_44, rf_103_45, rf_103_46, rf_103_47, rf_103_48, rf_103_49, rf_103_54, rf_103_55, is_103, is_104, sz_104, is_125, sz_125, is_126, sz_126, is_127, sz_127, is_128, sz_128, is_129, sz_129, is_130, sz_130, is_131, sz_131, is_132, sz_132, is_133, sz_133, is_134, sz_134, is_135, sz_135, is_136, sz_136, is_137, sz_137, is_138, sz_138, is_139, sz_139, is_140, sz_140, is_141, sz_141, is_142, sz_142, is_143, sz_143, is_144, sz_144, is_145, sz_145, is_146, sz_146, is_147, sz_147, is_148, sz_148, is_149, sz_149, is_150, sz_150, is_151, sz_151, is_152, sz_152, is_153, sz_153, gI_s, gI_c, gI_p, gI_L, gI_R, gL_s, gL_c, gL_p, gL_I, gL_R, gR_s, gR_c, gR_p, gR_I, gR_L, isB_x])
    have f4 : FrS h (ax_setI (ax_setI (ax_setI (ax_setI h 103 19 (Int32.ofNat 0)) 103 20 (Int32.ofNat 1)) 130 0 (Int32.ofNat 0)) 131 0 (Int32.ofNat 0)) := ((((FrS.refl h).setI (Or.inr (Or.inr (Or.inr ⟨rfl, Or.inl rfl⟩)))).setI (Or.inr (Or.inr (Or.inr ⟨rfl, Or.inr rfl⟩)))).setI (Or.inl rfl)).setI (Or.inr (Or.inl rfl))
    refine k_X12_forgets (V := S.2.2.2.2) hr.setI.setI.setI.setI hy hD (f4.repB hy hB) (fun v hv => ?_) (fun h' f' g1 g2 => ?_)
    · (try simp (disch := first | assumption | omega) only [true_and, and_true, forall_eq, true_implies, false_implies, implies_true, not_true_eq_false, not_false_eq_true, false_and, and_false, ne_eq, ite_true, ite_false, Nat.reduceLeDiff, Nat.reduceEqDiff, Nat.reduceLT, Nat.reduceAdd, Nat.reduceMul, Nat.reduceSub, Nat.le_refl, eq_self, li_0, li_1, li_2, li_3, li_4, li_5, li_6, li_7, li_8, li_9, li_10, li_11, li_12, li_13, li_14, li_15, li_16, li_17, li_18, li_19, li_20, li_21, li_22, li_23, li_24, li_25, li_26, li_27, li_28, li_29, li_30, li_31, li_32, li_44, li_48, li_57, li_59, li_60, li_61, li_62, li_63, li_97, li_100, li_122, li_123, li_125, li_127, li_255, li_400, li_401, li_800, li_1023, li_1024, li_10827, i_add, i_mul, i_sub, i_p1, i_m1, i_nm, i_nm2, i_cl, i_cl0, vi_ok, i_lt, i_le, i_eq, lg_e, gI_s, gI_c, gI_p, gI_L, gI_R, gL_s, gL_c, gL_p, gL_I, gL_R, gR_s, gR_c, gR_p, gR_I, gR_L]); exact hS.2.2.2 v hv
    · refine hq h' (f4.trans f') ⟨?_, ?_, fun j hj => ?_, g2⟩
      · rw [g1 _ _ (by decide)]
        (try simp (disch := first | assumption | omega) only [true_and, and_true, forall_eq, true_implies, false_implies, implies_true, not_true_eq_false, not_false_eq_true, false_and, and_false, ne_eq, ite_true, ite_false, Nat.reduceLeDiff, Nat.reduceEqDiff, Nat.reduceLT, Nat.reduceAdd, Nat.reduceMul, Nat.reduceSub, Nat.le_refl, eq_self, li_0, li_1, li_2, li_3, li_4, li_5, li_6, li_7, li_8, li_9, li_10, li_11, li_12, li_13, li_14, li_15, li_16, li_17, li_18, li_19, li_20, li_21, li_22, li_23, li_24, li_25, li_26, li_27, li_28, li_29, li_30, li_31, li_32, li_44, li_48, li_57, li_59, li_60, li_61, li_62, li_63, li_97, li_100, li_122, li_123, li_125, li_127, li_255, li_400, li_401, li_800, li_1023, li_1024, li_10827, i_add, i_mul, i_sub, i_p1, i_m1, i_nm, i_nm2, i_cl, i_cl0, vi_ok, i_lt, i_le, i_eq, lg_e, gI_s, gI_c, gI_p, gI_L, gI_R, gL_s, gL_c, gL_p, gL_I, gL_R, gR_s, gR_c, gR_p, gR_I, gR_L])
        rfl
      · rw [g1 _ _ (by decide)]
        (try simp (disch := first | assumption | omega) only [true_and, and_true, forall_eq, true_implies, false_implies, implies_true, not_true_eq_false, not_false_eq_true, false_and, and_false, ne_eq, ite_true, ite_false, Nat.reduceLeDiff, Nat.reduceEqDiff, Nat.reduceLT, Nat.reduceAdd, Nat.reduceMul, Nat.reduceSub, Nat.le_refl, eq_self, li_0, li_1, li_2, li_3, li_4, li_5, li_6, li_7, li_8, li_9, li_10, li_11, li_12, li_13, li_14, li_15, li_16, li_17, li_18, li_19, li_20, li_21, li_22, li_23, li_24, li_25, li_26, li_27, li_28, li_29, li_30, li_31, li_32, li_44, li_48, li_57, li_59, li_60, li_61, li_62, li_63, li_97, li_100, li_122, li_123, li_125, li_127, li_255, li_400, li_401, li_800, li_1023, li_1024, li_10827, i_add, i_mul, i_sub, i_p1, i_m1, i_nm, i_nm2, i_cl, i_cl0, vi_ok, i_lt, i_le, i_eq, lg_e, gI_s, gI_c, gI_p, gI_L, gI_R, gL_s, gL_c, gL_p, gL_I, gL_R, gR_s, gR_c, gR_p, gR_I, gR_L])
        rfl
      · have : j = 0 := by have : j < 1 := hj; omega
        subst this
        rw [g1 _ _ (by decide), g1 _ _ (by decide)]
        (try simp (disch := first | assumption | omega) only [true_and, and_true, forall_eq, true_implies, false_implies, implies_true, not_true_eq_false, not_false_eq_true, false_and, and_false, ne_eq, ite_true, ite_false, Nat.reduceLeDiff, Nat.reduceEqDiff, Nat.reduceLT, Nat.reduceAdd, Nat.reduceMul, Nat.reduceSub, Nat.le_refl, eq_self, li_0, li_1, li_2, li_3, li_4, li_5, li_6, li_7, li_8, li_9, li_10, li_11, li_12, li_13, li_14, li_15, li_16, li_17, li_18, li_19, li_20, li_21, li_22, li_23, li_24, li_25, li_26, li_27, li_28, li_29, li_30, li_31, li_32, li_44, li_48, li_57, li_59, li_60, li_61, li_62, li_63, li_97, li_100, li_122, li_123, li_125, li_127, li_255, li_400, li_401, li_800, li_1023, li_1024, li_10827, i_add, i_mul, i_sub, i_p1, i_m1, i_nm, i_nm2, i_cl, i_cl0, vi_ok, i_lt, i_le, i_eq, lg_e, gI_s, gI_c, gI_p, gI_L, gI_R, gL_s, gL_c, gL_p, gL_I, gL_R, gR_s, gR_c, gR_p, gR_I, gR_L])
        exact ⟨rfl, rfl⟩
