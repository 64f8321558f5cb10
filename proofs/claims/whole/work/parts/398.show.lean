theorem k_X0_placeOf {l : Launch} {g : AG} {h : AH} {x a b : Nat} {v : Int64} {Q : Int32 → AH → Prop} (hi : Is 194 x 21) (hb : b ≤ (ax_s x).2) (hb2 : b ≤ 1000) (ha2 : a ≤ 1000) (q1 : ∀ k, a ≤ k → k < b → h.2.1 x k = v → (∀ j, a ≤ j → j < k → h.2.1 x j ≠ v) → Q (Int32.ofNat k) h) (q2 : (∀ j, a ≤ j → j < b → h.2.1 x j ≠ v) → Q (-1) h) : C_X0_placeOf l g h v x (Int32.ofNat a) (Int32.ofNat b) Q := by
  have loop : ∀ d k, k + d = b ∨ (b ≤ k ∧ d = 0) → a ≤ k → k ≤ 1000 → (∀ j, a ≤ j → j < k → h.2.1 x j ≠ v) → L_X0_placeOf_3 l g h v x (Int32.ofNat b) (Int32.ofNat k) Q := by
    intro d
    induction d with
    | zero =>
      intro k hk ha hk2 hl
      refine s_X0_placeOf_3 ?_
      simp (disch := first | assumption | omega) only [true_and, and_true, forall_eq, true_implies, false_implies, implies_true, not_true_eq_false, not_false_eq_true, false_and, and_false, ne_eq, ite_true, ite_false, Nat.reduceLeDiff, Nat.reduceEqDiff, Nat.reduceLT, Nat.reduceAdd, Nat.reduceMul, Nat.reduceSub, Nat.le_refl, eq_self, li_0, li_1, li_2, li_3, li_4, li_5, li_6, li_7, li_8, li_9, li_10, li_11, li_12, li_13, li_14, li_15, li_16, li_17, li_18, li_19, li_20, li_21, li_22, li_23, li_24, li_25, li_26, li_27, li_28, li_29, li_30, li_31, li_32, li_44, li_48, li_57, li_59, li_60, li_61, li_62, li_63, li_97, li_100, li_122, li_123, li_125, li_127, li_255, li_400, li_401, li_800, li_1023, li_1024, li_10827, i_add, i_mul, i_sub, i_p1, i_m1, i_nm, i_nm2, i_cl, i_cl0, vi_ok, i_lt, i_le, i_eq, lg_e, show b ≤ k by omega]
      exact q2 (fun j h1 h2 => hl j h1 (by omega))
    | succ d ih =>
      intro k hk ha hk2 hl
      have hkb : k < b := by omega
      refine s_X0_placeOf_3 ?_
      simp (disch := first | assumption | omega) only [true_and, and_true, forall_eq, true_implies, false_implies, implies_true, not_true_eq_false, not_false_eq_true, false_and, and_false, ne_eq, ite_true, ite_false, Nat.reduceLeDiff, Nat.reduceEqDiff, Nat.reduceLT, Nat.reduceAdd, Nat.reduceMul, Nat.reduceSub, Nat.le_refl, eq_self, li_0, li_1, li_2, li_3, li_4, li_5, li_6, li_7, li_8, li_9, li_10, li_11, li_12, li_13, li_14, li_15, li_16, li_17, li_18, li_19, li_20, li_21, li_22, li_23, li_24, li_25, li_26, li_27, li_28, li_29, li_30, li_31, li_32, li_44, li_48, li_57, li_59, li_60, li_61, li_62, li_63, li_97, li_100, li_122, li_123, li_125, li_127, li_255, li_400, li_401, li_800, li_1023, li_1024, li_10827, i_add, i_mul, i_sub, i_p1, i_m1, i_nm, i_nm2, i_cl, i_cl0, vi_ok, i_lt, i_le, i_eq, lg_e, show ¬ b ≤ k by omega]
      refine ⟨hi, fun c => ?_, fun c => q1 k ha hkb c hl⟩
      refine ih (k + 1) (by omega) (by omega) (by omega) (fun j h1 h2 => ?_)
      by_cases z : j = k
      · rw [z]; exact c
      · exact hl j h1 (by omega)
  refine c_X0_placeOf (s_X0_placeOf_0 ?_)
  exact loop (b - a) a (by omega) (Nat.le_refl a) ha2 (fun j h1 h2 => absurd h2 (by omega))
theorem k_X0_buttonNamed {l : Launch} {g : AG} {h : AH} {x w m : Nat} {D : AD} {Q : Int32 → AH → Prop} (hr : Refs h) (hx : isA x) (hD : WfD D) (hA : RepA h x D) (hw : w < D 0 0) (hm : m < 1099511627776) (q1 : ∀ c, D 18 w ≤ c → c < D 19 w → D 2 c = m → Q (Int32.ofNat c) h) (q2 : (∀ c, D 18 w ≤ c → c < D 19 w → D 2 c ≠ m) → Q (-1) h) : C_X0_buttonNamed l g h x (Int32.ofNat w) (Int64.ofNat (cwf 8 m)) Q := by
  have h8 := hD.1.2.1
  have h24 := hD.1.2.2.1
  have q := hD.2.1 w hw
  have v := hA.2.1 w hw
  have nm := hD.1.2.2.2.2.2.1
  have eqv : ∀ c, c < D 0 1 → (h.2.1 (x + 3) c = Int64.ofNat (cwf 8 m) ↔ D 2 c = m) := by
    intro c hc
    rw [(hA.2.2.2.1 c hc).1, cwf8_eq (nm c hc) hm]
  refine c_X0_buttonNamed (s_X0_buttonNamed_0 ?_)
  simp (disch := first | assumption | omega) only [true_and, and_true, forall_eq, true_implies, false_implies, implies_true, not_true_eq_false, not_false_eq_true, false_and, and_false, ne_eq, ite_true, ite_false, Nat.reduceLeDiff, Nat.reduceEqDiff, Nat.reduceLT, Nat.reduceAdd, Nat.reduceMul, Nat.reduceSub, Nat.le_refl, eq_self, li_0, li_1, li_2, li_3, li_4, li_5, li_6, li_7, li_8, li_9, li_10, li_11, li_12, li_13, li_14, li_15, li_16, li_17, li_18, li_19, li_20, li_21, li_22, li_23, li_24, li_25, li_26, li_27, li_28, li_29, li_30, li_31, li_32, li_44, li_48, li_57, li_59, li_60, li_61, li_62, li_63, li_97, li_100, li_122, li_123, li_125, li_127, li_255, li_400, li_401, li_800, li_1023, li_1024, li_10827, i_add, i_mul, i_sub, i_p1, i_m1, i_nm, i_nm2, i_cl, i_cl0, vi_ok, i_lt, i_le, i_eq, lg_e, isA_x, rfA_7, rfA_8, rfA_9, rfA_10, rfA_11, rfA_12, rfA_13, rfA_14, rfA_15, rfA_16, rfA_17, rfA_18, rfC_0, rfD_0, rfC_1, rfD_1, rfC_2, rfD_2, rfC_3, rfD_3, isA_1, szA_1, isA_2, szA_2, isA_3, szA_3, isA_4, szA_4, isA_5, szA_5, isA_6, szA_6, isA_7, szA_7, isA_8, szA_8, isA_9, szA_9, isA_10, szA_10, isA_11, szA_11, isA_12, szA_12, isA_13, szA_13, isA_14, szA_14, isA_15, szA_15, isA_16, szA_16, isA_17, szA_17, isA_18, szA_18, isA_19, szA_19, isA_20, szA_20, v.2.2.2.2.1, v.2.2.2.2.2]
  refine k_X0_placeOf (isA_3 hx) (by rw [szA_3 hx]; omega) (by omega) (by omega) (fun k h1 h2 h3 _ => ?_) (fun hl => ?_)
  · exact q1 k h1 h2 ((eqv k (by omega)).1 h3)
  · exact q2 (fun c h1 h2 e => hl c h1 h2 ((eqv c (by omega)).2 e))
theorem k_poss_neg {l : Launch} {g : AG} {h : AH} {x : Nat} {S : AS} {D : AD} {Q : Int32 → AH → Prop} (hr : Refs h) (hx : isA x) (hs : WS (D 0 0) S) (hD : WfD D) (hA : RepA h x D) (hq : Q 0 h) : C_X0_possible l g h x (Int64.ofNat (en S)) (-1) Q := by
  have h8 := hD.1.2.1
  have h24 := hD.1.2.2.1
  refine c_X0_possible (s_X0_possible_0 ⟨fun _ => q_X3_topOf hs ?_, fun c => absurd c (by decide)⟩)
  unfold topI
  by_cases c : S.2.1 = 0
  · rw [if_pos c]
    exact ⟨fun z => absurd rfl z, fun _ => hq⟩
  · rw [if_neg c]
    have hw := (hs.2.2.2.2.1 (S.2.1 - 1) (by omega)).1
    have q := hD.2.1 _ hw
    have v := hA.2.1 _ hw
    refine ⟨fun _ => ⟨fun _ => ⟨fun _ => ?_, fun c => absurd c (by decide)⟩, fun c => absurd c (by decide)⟩, fun z => absurd z (i_ne (by omega))⟩
    rw [rfA_14 hr hx, szA_8 hx, i_cl (by omega), v.2.2.2.2.1]
    refine ⟨isA_x hx, isA_8 hx, vi_ok (by omega) (by omega), fun _ => hq, fun z => absurd ?_ z⟩
    rw [Int32.lt_iff_toInt_lt, Int32.toInt_ofNat_of_lt (by omega)]
    show (-1 : Int) < _
    omega
theorem k_numbersUnlike {l : Launch} {g : AG} {h : AH} {x y w v : Nat} {S U : AS} {D E : AD} {Q : Int32 → AH → Prop} (hr : Refs h) (hx : isA x) (hy : isA y) (e0 : h.2.2 93 0 = x) (e1 : h.2.2 93 1 = y) (hD : WfD D) (hE : WfD E) (hA : RepA h x D) (hB : RepA h y E) (hs : WS (D 0 0) S) (hu : WS (E 0 0) U) (hw : w < D 0 0) (hv : v < E 0 0) (q0 : (D 6 w = E 6 v ∧ ∀ k, k < D 6 w → S.2.2.2.2 (D 7 (6 * w + k)) = U.2.2.2.2 (E 7 (6 * v + k))) → Q 0 h) (q1 : ¬ (D 6 w = E 6 v ∧ ∀ k, k < D 6 w → S.2.2.2.2 (D 7 (6 * w + k)) = U.2.2.2.2 (E 7 (6 * v + k))) → Q 1 h) : C_X2_numbersUnlike l g h 93 (Int64.ofNat (en S)) (Int32.ofNat w) (Int64.ofNat (en U)) (Int32.ofNat v) Q := by
  have h8 := hD.1.2.1
  have g8 := hE.1.2.1
  have qw := hD.2.1 w hw
  have qv := hE.2.1 v hv
  have aw := hA.2.1 w hw
  have av := hB.2.1 v hv
  have loop : D 6 w = E 6 v → ∀ d k, k + d = D 6 w → (∀ j, j < k → S.2.2.2.2 (D 7 (6 * w + j)) = U.2.2.2.2 (E 7 (6 * v + j))) → L_X2_numbersUnlike_31 l g h 93 (Int64.ofNat (en S)) (Int32.ofNat w) (Int64.ofNat (en U)) (Int32.ofNat v) (Int32.ofNat (D 6 w)) (Int32.ofNat k) Q := by
    intro e6 d
    induction d with
    | zero =>
      intro k hk hl
      refine s_X2_numbersUnlike_31 ?_
      simp (disch := first | assumption | omega) only [true_and, and_true, forall_eq, true_implies, false_implies, implies_true, not_true_eq_false, not_false_eq_true, false_and, and_false, ne_eq, ite_true, ite_false, Nat.reduceLeDiff, Nat.reduceEqDiff, Nat.reduceLT, Nat.reduceAdd, Nat.reduceMul, Nat.reduceSub, Nat.le_refl, eq_self, li_0, li_1, li_2, li_3, li_4, li_5, li_6, li_7, li_8, li_9, li_10, li_11, li_12, li_13, li_14, li_15, li_16, li_17, li_18, li_19, li_20, li_21, li_22, li_23, li_24, li_25, li_26, li_27, li_28, li_29, li_30, li_31, li_32, li_44, li_48, li_57, li_59, li_60, li_61, li_62, li_63, li_97, li_100, li_122, li_123, li_125, li_127, li_255, li_400, li_401, li_800, li_1023, li_1024, li_10827, i_add, i_mul, i_sub, i_p1, i_m1, i_nm, i_nm2, i_cl, i_cl0, vi_ok, i_lt, i_le, i_eq, lg_e, show D 6 w ≤ k by omega]
      exact q0 ⟨e6, fun j hj => hl j (by omega)⟩
    | succ d ih =>
      intro k hk hl
      refine s_X2_numbersUnlike_31 ?_
      rw [e0]
      simp (disch := first | assumption | omega) only [true_and, and_true, forall_eq, true_implies, false_implies, implies_true, not_true_eq_false, not_false_eq_true, false_and, and_false, ne_eq, ite_true, ite_false, Nat.reduceLeDiff, Nat.reduceEqDiff, Nat.reduceLT, Nat.reduceAdd, Nat.reduceMul, Nat.reduceSub, Nat.le_refl, eq_self, li_0, li_1, li_2, li_3, li_4, li_5, li_6, li_7, li_8, li_9, li_10, li_11, li_12, li_13, li_14, li_15, li_16, li_17, li_18, li_19, li_20, li_21, li_22, li_23, li_24, li_25, li_26, li_27, li_28, li_29, li_30, li_31, li_32, li_44, li_48, li_57, li_59, li_60, li_61, li_62, li_63, li_97, li_100, li_122, li_123, li_125, li_127, li_255, li_400, li_401, li_800, li_1023, li_1024, li_10827, i_add, i_mul, i_sub, i_p1, i_m1, i_nm, i_nm2, i_cl, i_cl0, vi_ok, i_lt, i_le, i_eq, lg_e, show ¬ D 6 w ≤ k by omega, is_93, isA_x hx]
      refine k_X0_shownIn hr hx hD hA hs hw (by omega) ?_
      rw [e1]
      refine ⟨isA_x hy, k_X0_shownIn hr hy hE hB hu hv (by omega) ?_⟩
      have b1 := show_lt hD hs hw k (by omega)
      have b2 := show_lt hE hu hv k (by omega)
      simp (disch := first | assumption | omega) only [true_and, and_true, forall_eq, true_implies, false_implies, implies_true, not_true_eq_false, not_false_eq_true, false_and, and_false, ne_eq, ite_true, ite_false, Nat.reduceLeDiff, Nat.reduceEqDiff, Nat.reduceLT, Nat.reduceAdd, Nat.reduceMul, Nat.reduceSub, Nat.le_refl, eq_self, li_0, li_1, li_2, li_3, li_4, li_5, li_6, li_7, li_8, li_9, li_10, li_11, li_12, li_13, li_14, li_15, li_16, li_17, li_18, li_19, li_20, li_21, li_22, li_23, li_24, li_25, li_26, li_27, li_28, li_29, li_30, li_31, li_32, li_44, li_48, li_57, li_59, li_60, li_61, li_62, li_63, li_97, li_100, li_122, li_123, li_125, li_127, li_255, li_400, li_401, li_800, li_1023, li_1024, li_10827, i_add, i_mul, i_sub, i_p1, i_m1, i_nm, i_nm2, i_cl, i_cl0, vi_ok, i_lt, i_le, i_eq, lg_e]
      refine ⟨fun z => ih (k + 1) (by omega) (fun j hj => ?_), fun z => q1 (fun y => z (y.2 k (by omega)))⟩
      by_cases c : j = k
      · rw [c]; exact z
      · exact hl j (by omega)
  refine c_X2_numbersUnlike (s_X2_numbersUnlike_0 ?_)
  rw [e0, e1, rfA_11 hr hx, rfA_11 hr hy]
  simp (disch := first | assumption | omega) only [true_and, and_true, forall_eq, true_implies, false_implies, implies_true, not_true_eq_false, not_false_eq_true, false_and, and_false, ne_eq, ite_true, ite_false, Nat.reduceLeDiff, Nat.reduceEqDiff, Nat.reduceLT, Nat.reduceAdd, Nat.reduceMul, Nat.reduceSub, Nat.le_refl, eq_self, li_0, li_1, li_2, li_3, li_4, li_5, li_6, li_7, li_8, li_9, li_10, li_11, li_12, li_13, li_14, li_15, li_16, li_17, li_18, li_19, li_20, li_21, li_22, li_23, li_24, li_25, li_26, li_27, li_28, li_29, li_30, li_31, li_32, li_44, li_48, li_57, li_59, li_60, li_61, li_62, li_63, li_97, li_100, li_122, li_123, li_125, li_127, li_255, li_400, li_401, li_800, li_1023, li_1024, li_10827, i_add, i_mul, i_sub, i_p1, i_m1, i_nm, i_nm2, i_cl, i_cl0, vi_ok, i_lt, i_le, i_eq, lg_e, is_93, isA_x hx, isA_x hy, isA_5 hx, isA_5 hy, szA_5 hx, szA_5 hy, aw.2.1, av.2.1]
  refine ⟨fun z => loop z (D 6 w) 0 (Nat.zero_add _) (fun j hj => absurd hj (Nat.not_lt_zero j)), fun z => q1 (fun y => z y.1)⟩
theorem k_oneMorePressed {l : Launch} {g : AG} {h : AH} {x y : Nat} {S U : AS} {D E : AD} {Q : Int32 → AH → Prop} (hr : Refs h) (hx : isA x) (hy : isA y) (hD : WfD D) (hE : WfD E) (hA : RepA h x D) (hB : RepA h y E) (hs : WS (D 0 0) S) (hu : WS (E 0 0) U) (h0 : 0 < S.2.1) (g0 : 0 < U.2.1) (q0 : subB D E S U → Q 0 h) (q1 : ¬ subB D E S U → Q 1 h) : C_X2_oneMorePressed l g h x (Int64.ofNat (en S)) y (Int64.ofNat (en U)) Q := by
  have h8 := hD.1.2.1
  have h24 := hD.1.2.2.1
  have g8 := hE.1.2.1
  have g24 := hE.1.2.2.1
  have hw := (hs.2.2.2.2.1 (S.2.1 - 1) (by omega)).1
  have hv := (hu.2.2.2.2.1 (U.2.1 - 1) (by omega)).1
  have pD := press_iff hD hs h0
  have pE := press_iff hE hu g0
  have tS : topI S = Int32.ofNat (S.2.2.1 (S.2.1 - 1)) := by unfold topI; rw [if_neg (by omega)]
  have tU : topI U = Int32.ofNat (U.2.2.1 (U.2.1 - 1)) := by unfold topI; rw [if_neg (by omega)]
  revert hw hv pD pE tS tU
  generalize S.2.2.1 (S.2.1 - 1) = w
  generalize U.2.2.1 (U.2.1 - 1) = v
  intro hw hv pD pE tS tU
  have qw := hD.2.1 w hw
  have qv := hE.2.1 v hv
  have aw := hA.2.1 w hw
  have loop : ∀ d b, b + d = D 19 w → D 18 w ≤ b → (∀ c, D 18 w ≤ c → c < b → pressD D S c → ∃ e, pressD E U e ∧ E 2 e = D 2 c) → L_X2_oneMorePressed_36 l g h x (Int64.ofNat (en S)) y (Int64.ofNat (en U)) (Int32.ofNat w) (Int32.ofNat v) (Int32.ofNat b) Q := by
    intro d
    induction d with
    | zero =>
      intro b hb hb2 hl
      refine s_X2_oneMorePressed_36 ?_
      simp (disch := first | assumption | omega) only [true_and, and_true, forall_eq, true_implies, false_implies, implies_true, not_true_eq_false, not_false_eq_true, false_and, and_false, ne_eq, ite_true, ite_false, Nat.reduceLeDiff, Nat.reduceEqDiff, Nat.reduceLT, Nat.reduceAdd, Nat.reduceMul, Nat.reduceSub, Nat.le_refl, eq_self, li_0, li_1, li_2, li_3, li_4, li_5, li_6, li_7, li_8, li_9, li_10, li_11, li_12, li_13, li_14, li_15, li_16, li_17, li_18, li_19, li_20, li_21, li_22, li_23, li_24, li_25, li_26, li_27, li_28, li_29, li_30, li_31, li_32, li_44, li_48, li_57, li_59, li_60, li_61, li_62, li_63, li_97, li_100, li_122, li_123, li_125, li_127, li_255, li_400, li_401, li_800, li_1023, li_1024, li_10827, i_add, i_mul, i_sub, i_p1, i_m1, i_nm, i_nm2, i_cl, i_cl0, vi_ok, i_lt, i_le, i_eq, lg_e, isA_x, rfA_7, rfA_8, rfA_9, rfA_10, rfA_11, rfA_12, rfA_13, rfA_14, rfA_15, rfA_16, rfA_17, rfA_18, rfC_0, rfD_0, rfC_1, rfD_1, rfC_2, rfD_2, rfC_3, rfD_3, isA_1, szA_1, isA_2, szA_2, isA_3, szA_3, isA_4, szA_4, isA_5, szA_5, isA_6, szA_6, isA_7, szA_7, isA_8, szA_8, isA_9, szA_9, isA_10, szA_10, isA_11, szA_11, isA_12, szA_12, isA_13, szA_13, isA_14, szA_14, isA_15, szA_15, isA_16, szA_16, isA_17, szA_17, isA_18, szA_18, isA_19, szA_19, isA_20, szA_20, aw.2.2.2.2.2, show D 19 w ≤ b by omega]
      refine q0 (fun c hc => ?_)
      have q := (pD c).1 hc
      exact hl c q.1 (by omega) hc
    | succ d ih =>
      intro b hb hb2 hl
      have nx : (pressD D S b → ∃ e, pressD E U e ∧ E 2 e = D 2 b) → L_X2_oneMorePressed_36 l g h x (Int64.ofNat (en S)) y (Int64.ofNat (en U)) (Int32.ofNat w) (Int32.ofNat v) (Int32.ofNat (b + 1)) Q := by
        intro z
        refine ih (b + 1) (by omega) (by omega) (fun c h1 h2 h3 => ?_)
        by_cases y : c = b
        · rw [y] at h3 ⊢; exact z h3
        · exact hl c h1 (by omega) h3
      have nmb := (hA.2.2.2.1 b (by omega)).1
      refine s_X2_oneMorePressed_36 ?_
      simp (disch := first | assumption | omega) only [true_and, and_true, forall_eq, true_implies, false_implies, implies_true, not_true_eq_false, not_false_eq_true, false_and, and_false, ne_eq, ite_true, ite_false, Nat.reduceLeDiff, Nat.reduceEqDiff, Nat.reduceLT, Nat.reduceAdd, Nat.reduceMul, Nat.reduceSub, Nat.le_refl, eq_self, li_0, li_1, li_2, li_3, li_4, li_5, li_6, li_7, li_8, li_9, li_10, li_11, li_12, li_13, li_14, li_15, li_16, li_17, li_18, li_19, li_20, li_21, li_22, li_23, li_24, li_25, li_26, li_27, li_28, li_29, li_30, li_31, li_32, li_44, li_48, li_57, li_59, li_60, li_61, li_62, li_63, li_97, li_100, li_122, li_123, li_125, li_127, li_255, li_400, li_401, li_800, li_1023, li_1024, li_10827, i_add, i_mul, i_sub, i_p1, i_m1, i_nm, i_nm2, i_cl, i_cl0, vi_ok, i_lt, i_le, i_eq, lg_e, isA_x, rfA_7, rfA_8, rfA_9, rfA_10, rfA_11, rfA_12, rfA_13, rfA_14, rfA_15, rfA_16, rfA_17, rfA_18, rfC_0, rfD_0, rfC_1, rfD_1, rfC_2, rfD_2, rfC_3, rfD_3, isA_1, szA_1, isA_2, szA_2, isA_3, szA_3, isA_4, szA_4, isA_5, szA_5, isA_6, szA_6, isA_7, szA_7, isA_8, szA_8, isA_9, szA_9, isA_10, szA_10, isA_11, szA_11, isA_12, szA_12, isA_13, szA_13, isA_14, szA_14, isA_15, szA_15, isA_16, szA_16, isA_17, szA_17, isA_18, szA_18, isA_19, szA_19, isA_20, szA_20, aw.2.2.2.2.2, show ¬ D 19 w ≤ b by omega, nmb]
      refine k_X4_hold hr hx hs hA.2.2.2.2.1 (by omega) h24 (fun p => ?_) (fun p => ?_)
      · refine ⟨fun z => absurd z (by decide), fun _ => ?_⟩
        have pb : pressD D S b := (pD b).2 ⟨hb2, by omega, p⟩
        (try simp (disch := first | assumption | omega) only [true_and, and_true, forall_eq, true_implies, false_implies, implies_true, not_true_eq_false, not_false_eq_true, false_and, and_false, ne_eq, ite_true, ite_false, Nat.reduceLeDiff, Nat.reduceEqDiff, Nat.reduceLT, Nat.reduceAdd, Nat.reduceMul, Nat.reduceSub, Nat.le_refl, eq_self, li_0, li_1, li_2, li_3, li_4, li_5, li_6, li_7, li_8, li_9, li_10, li_11, li_12, li_13, li_14, li_15, li_16, li_17, li_18, li_19, li_20, li_21, li_22, li_23, li_24, li_25, li_26, li_27, li_28, li_29, li_30, li_31, li_32, li_44, li_48, li_57, li_59, li_60, li_61, li_62, li_63, li_97, li_100, li_122, li_123, li_125, li_127, li_255, li_400, li_401, li_800, li_1023, li_1024, li_10827, i_add, i_mul, i_sub, i_p1, i_m1, i_nm, i_nm2, i_cl, i_cl0, vi_ok, i_lt, i_le, i_eq, lg_e, isA_x, rfA_7, rfA_8, rfA_9, rfA_10, rfA_11, rfA_12, rfA_13, rfA_14, rfA_15, rfA_16, rfA_17, rfA_18, rfC_0, rfD_0, rfC_1, rfD_1, rfC_2, rfD_2, rfC_3, rfD_3, isA_1, szA_1, isA_2, szA_2, isA_3, szA_3, isA_4, szA_4, isA_5, szA_5, isA_6, szA_6, isA_7, szA_7, isA_8, szA_8, isA_9, szA_9, isA_10, szA_10, isA_11, szA_11, isA_12, szA_12, isA_13, szA_13, isA_14, szA_14, isA_15, szA_15, isA_16, szA_16, isA_17, szA_17, isA_18, szA_18, isA_19, szA_19, isA_20, szA_20, nmb])
        refine k_X0_buttonNamed hr hy hE hB hv (hD.1.2.2.2.2.2.1 b (by omega)) (fun c h1 h2 h3 => ?_) (fun hn => ?_)
        · refine ⟨fun z => absurd z (i_ne (by omega)), fun _ => ?_⟩
          rw [rfA_17 hr hy]
          refine ⟨isA_11 hy, k_X4_hold hr hy hu hB.2.2.2.2.1 (by omega) g24 (fun p2 => ?_) (fun p2 => ?_)⟩
          · refine ⟨fun _ => ?_, fun z => absurd z (by decide)⟩
            (try simp (disch := first | assumption | omega) only [true_and, and_true, forall_eq, true_implies, false_implies, implies_true, not_true_eq_false, not_false_eq_true, false_and, and_false, ne_eq, ite_true, ite_false, Nat.reduceLeDiff, Nat.reduceEqDiff, Nat.reduceLT, Nat.reduceAdd, Nat.reduceMul, Nat.reduceSub, Nat.le_refl, eq_self, li_0, li_1, li_2, li_3, li_4, li_5, li_6, li_7, li_8, li_9, li_10, li_11, li_12, li_13, li_14, li_15, li_16, li_17, li_18, li_19, li_20, li_21, li_22, li_23, li_24, li_25, li_26, li_27, li_28, li_29, li_30, li_31, li_32, li_44, li_48, li_57, li_59, li_60, li_61, li_62, li_63, li_97, li_100, li_122, li_123, li_125, li_127, li_255, li_400, li_401, li_800, li_1023, li_1024, li_10827, i_add, i_mul, i_sub, i_p1, i_m1, i_nm, i_nm2, i_cl, i_cl0, vi_ok, i_lt, i_le, i_eq, lg_e])
            exact nx (fun _ => ⟨c, (pE c).2 ⟨h1, h2, p2⟩, h3⟩)
          · refine ⟨fun z => absurd rfl z, fun _ => q1 (fun sb => ?_)⟩
            obtain ⟨e, e1, e2⟩ := sb b pb
            have qe := (pE e).1 e1
            have : e = c := hE.1.2.2.2.2.2.2 e c e1.2.1 (by omega) (by rw [((qv.2.2.2.2.2 c (by omega)).2 ⟨h1, h2⟩), ((qv.2.2.2.2.2 e e1.2.1).2 ⟨qe.1, qe.2.1⟩)]) (by rw [e2, h3])
            rw [this] at qe
            exact p2 qe.2.2
        · refine ⟨fun _ => q1 (fun sb => ?_), fun z => absurd rfl z⟩
          obtain ⟨e, e1, e2⟩ := sb b pb
          have qe := (pE e).1 e1
          exact hn e qe.1 qe.2.1 e2
      · refine ⟨fun _ => ?_, fun z => absurd rfl z⟩
        (try simp (disch := first | assumption | omega) only [true_and, and_true, forall_eq, true_implies, false_implies, implies_true, not_true_eq_false, not_false_eq_true, false_and, and_false, ne_eq, ite_true, ite_false, Nat.reduceLeDiff, Nat.reduceEqDiff, Nat.reduceLT, Nat.reduceAdd, Nat.reduceMul, Nat.reduceSub, Nat.le_refl, eq_self, li_0, li_1, li_2, li_3, li_4, li_5, li_6, li_7, li_8, li_9, li_10, li_11, li_12, li_13, li_14, li_15, li_16, li_17, li_18, li_19, li_20, li_21, li_22, li_23, li_24, li_25, li_26, li_27, li_28, li_29, li_30, li_31, li_32, li_44, li_48, li_57, li_59, li_60, li_61, li_62, li_63, li_97, li_100, li_122, li_123, li_125, li_127, li_255, li_400, li_401, li_800, li_1023, li_1024, li_10827, i_add, i_mul, i_sub, i_p1, i_m1, i_nm, i_nm2, i_cl, i_cl0, vi_ok, i_lt, i_le, i_eq, lg_e])
        exact nx (fun z => absurd ((pD b).1 z).2.2 p)
  refine c_X2_oneMorePressed (s_X2_oneMorePressed_0 (q_X3_topOf hs (q_X3_topOf hu ?_)))
  rw [tS, tU]
  simp (disch := first | assumption | omega) only [true_and, and_true, forall_eq, true_implies, false_implies, implies_true, not_true_eq_false, not_false_eq_true, false_and, and_false, ne_eq, ite_true, ite_false, Nat.reduceLeDiff, Nat.reduceEqDiff, Nat.reduceLT, Nat.reduceAdd, Nat.reduceMul, Nat.reduceSub, Nat.le_refl, eq_self, li_0, li_1, li_2, li_3, li_4, li_5, li_6, li_7, li_8, li_9, li_10, li_11, li_12, li_13, li_14, li_15, li_16, li_17, li_18, li_19, li_20, li_21, li_22, li_23, li_24, li_25, li_26, li_27, li_28, li_29, li_30, li_31, li_32, li_44, li_48, li_57, li_59, li_60, li_61, li_62, li_63, li_97, li_100, li_122, li_123, li_125, li_127, li_255, li_400, li_401, li_800, li_1023, li_1024, li_10827, i_add, i_mul, i_sub, i_p1, i_m1, i_nm, i_nm2, i_cl, i_cl0, vi_ok, i_lt, i_le, i_eq, lg_e, isA_x, rfA_7, rfA_8, rfA_9, rfA_10, rfA_11, rfA_12, rfA_13, rfA_14, rfA_15, rfA_16, rfA_17, rfA_18, rfC_0, rfD_0, rfC_1, rfD_1, rfC_2, rfD_2, rfC_3, rfD_3, isA_1, szA_1, isA_2, szA_2, isA_3, szA_3, isA_4, szA_4, isA_5, szA_5, isA_6, szA_6, isA_7, szA_7, isA_8, szA_8, isA_9, szA_9, isA_10, szA_10, isA_11, szA_11, isA_12, szA_12, isA_13, szA_13, isA_14, szA_14, isA_15, szA_15, isA_16, szA_16, isA_17, szA_17, isA_18, szA_18, isA_19, szA_19, isA_20, szA_20, aw.2.2.2.2.1]
  exact loop (D 19 w - D 18 w) (D 18 w) (by omega) (Nat.le_refl _) (fun c h1 h2 => absurd h2 (by omega))
theorem k_showUnlike {l : Launch} {g : AG} {h : AH} {x y : Nat} {S U : AS} {D E : AD} {Q : Int32 → AH → Prop} (hr : Refs h) (hx : isA x) (hy : isA y) (e0 : h.2.2 93 0 = x) (e1 : h.2.2 93 1 = y) (hD : WfD D) (hE : WfD E) (hA : RepA h x D) (hB : RepA h y E) (hs : WS (D 0 0) S) (hu : WS (E 0 0) U) (q0 : AL D E S U → Q 0 h) (q1 : ¬ AL D E S U → Q 1 h) : C_X2_showUnlike l g h 93 (Int64.ofNat (en S)) (Int64.ofNat (en U)) Q := by
  have fs := fault_le hs
  have fu := fault_le hu
  have is' := fault_iff hs
  have iu := fault_iff hu
  have h8 := hD.1.2.1
  have g8 := hE.1.2.1
  have flt : (S.2.1 = 0 ∨ U.2.1 = 0) → L_X2_showUnlike_24 l g h (Int64.ofNat (en S)) (Int64.ofNat (en U)) Q := by
    intro c
    refine s_X2_showUnlike_24 (q_X3_faultOf hs (q_X3_faultOf hu ?_))
    simp (disch := first | assumption | omega) only [true_and, and_true, forall_eq, true_implies, false_implies, implies_true, not_true_eq_false, not_false_eq_true, false_and, and_false, ne_eq, ite_true, ite_false, Nat.reduceLeDiff, Nat.reduceEqDiff, Nat.reduceLT, Nat.reduceAdd, Nat.reduceMul, Nat.reduceSub, Nat.le_refl, eq_self, li_0, li_1, li_2, li_3, li_4, li_5, li_6, li_7, li_8, li_9, li_10, li_11, li_12, li_13, li_14, li_15, li_16, li_17, li_18, li_19, li_20, li_21, li_22, li_23, li_24, li_25, li_26, li_27, li_28, li_29, li_30, li_31, li_32, li_44, li_48, li_57, li_59, li_60, li_61, li_62, li_63, li_97, li_100, li_122, li_123, li_125, li_127, li_255, li_400, li_401, li_800, li_1023, li_1024, li_10827, i_add, i_mul, i_sub, i_p1, i_m1, i_nm, i_nm2, i_cl, i_cl0, vi_ok, i_lt, i_le, i_eq, lg_e]
    refine ⟨fun z => q0 ⟨z, fun z2 => ?_⟩, fun z => q1 (fun y => z y.1)⟩
    rcases c with c | c
    · have := is'.1 c; omega
    · have := iu.1 c; omega
  refine c_X2_showUnlike (s_X2_showUnlike_0 (q_X3_topOf hs (q_X3_topOf hu ?_)))
  by_cases c1 : S.2.1 = 0
  · refine ⟨fun _ => flt (Or.inl c1), fun z => absurd ?_ z⟩
    unfold topI; rw [if_pos c1]
  · have hw := (hs.2.2.2.2.1 (S.2.1 - 1) (by omega)).1
    have tS : topI S = Int32.ofNat (S.2.2.1 (S.2.1 - 1)) := by unfold topI; rw [if_neg c1]
    rw [tS]
    refine ⟨fun z => absurd z (i_ne (by omega)), fun _ => ?_⟩
    by_cases c2 : U.2.1 = 0
    · refine ⟨fun z => absurd ?_ z, fun _ => flt (Or.inr c2)⟩
      unfold topI; rw [if_pos c2]
    · have hv := (hu.2.2.2.2.1 (U.2.1 - 1) (by omega)).1
      have tU : topI U = Int32.ofNat (U.2.2.1 (U.2.1 - 1)) := by unfold topI; rw [if_neg c2]
      have es : S.1 = U.1 := by rw [hs.2.2.2.1 (by omega), hu.2.2.2.1 (by omega)]
      have ez : S.1 = 0 := hs.2.2.2.1 (by omega)
      rw [tU]
      refine ⟨fun _ => ?_, fun z => absurd z (i_ne (by omega))⟩
      rw [e0, e1, rfA_8 hr hx, rfA_8 hr hy]
      simp (disch := first | assumption | omega) only [true_and, and_true, forall_eq, true_implies, false_implies, implies_true, not_true_eq_false, not_false_eq_true, false_and, and_false, ne_eq, ite_true, ite_false, Nat.reduceLeDiff, Nat.reduceEqDiff, Nat.reduceLT, Nat.reduceAdd, Nat.reduceMul, Nat.reduceSub, Nat.le_refl, eq_self, li_0, li_1, li_2, li_3, li_4, li_5, li_6, li_7, li_8, li_9, li_10, li_11, li_12, li_13, li_14, li_15, li_16, li_17, li_18, li_19, li_20, li_21, li_22, li_23, li_24, li_25, li_26, li_27, li_28, li_29, li_30, li_31, li_32, li_44, li_48, li_57, li_59, li_60, li_61, li_62, li_63, li_97, li_100, li_122, li_123, li_125, li_127, li_255, li_400, li_401, li_800, li_1023, li_1024, li_10827, i_add, i_mul, i_sub, i_p1, i_m1, i_nm, i_nm2, i_cl, i_cl0, vi_ok, i_lt, i_le, i_eq, lg_e, is_93, isA_x hx, isA_x hy, isA_2 hx, isA_2 hy, szA_2 hx, szA_2 hy, (hA.2.1 _ hw).1, (hB.2.1 _ hv).1, cwf8_eq (hD.1.2.2.2.2.1 _ hw) (hE.1.2.2.2.2.1 _ hv)]
      refine ⟨fun z => q1 (fun y => z (y.2 ez).1), fun zn => ?_⟩
      refine k_numbersUnlike hr hx hy e0 e1 hD hE hA hB hs hu hw hv (fun na => ?_) (fun na => ?_)
      · refine ⟨fun z => absurd rfl z, fun _ => ?_⟩
        rw [e0, e1]
        refine ⟨isA_x hx, isA_x hy, k_oneMorePressed hr hx hy hD hE hA hB hs hu (by omega) (by omega) (fun s1 => ?_) (fun s1 => ?_)⟩
        · refine ⟨fun z => absurd rfl z, fun _ => ?_⟩
          rw [e0, e1]
          refine ⟨isA_x hy, isA_x hx, k_oneMorePressed hr hy hx hE hD hB hA hu hs (by omega) (by omega) (fun s2 => ?_) (fun s2 => ?_)⟩
          · exact ⟨fun _ => q0 ⟨es, fun _ => ⟨zn, na, s1, s2⟩⟩, fun z => absurd rfl z⟩
          · exact ⟨fun z => absurd z (by decide), fun _ => q1 (fun y => s2 (y.2 ez).2.2.2)⟩
        · exact ⟨fun _ => q1 (fun y => s1 (y.2 ez).2.2.1), fun z => absurd z (by decide)⟩
      · exact ⟨fun _ => q1 (fun y => na (y.2 ez).2.1), fun z => absurd z (by decide)⟩
theorem k_twin {l : Launch} {g : AG} {h : AH} {x y a : Nat} {S U : AS} {D E : AD} {Q : Int32 → AH → Prop} (hr : Refs h) (hx : isA x) (hy : isA y) (hD : WfD D) (hE : WfD E) (hA : RepA h x D) (hB : RepA h y E) (hu : WS (E 0 0) U) (hp : possD D S a) (q1 : ∀ c, itsR D E U a c → Q (Int32.ofNat c) h) (q2 : (¬ ∃ c, itsR D E U a c) → Q (-1) h) (q3 : ∀ c, c < 27 → ¬ possD E U c → (¬ ∃ c, itsR D E U a c) → Q (Int32.ofNat c) h) : C_X2_twin l g h x (Int32.ofNat a) y (Int64.ofNat (en U)) Q := by
  have a27 := poss_lt hD hp
  have h24 := hD.1.2.2.1
  have g24 := hE.1.2.2.1
  have g8 := hE.1.2.1
  refine c_X2_twin (s_X2_twin_0 ?_)
  simp (disch := first | assumption | omega) only [true_and, and_true, forall_eq, true_implies, false_implies, implies_true, not_true_eq_false, not_false_eq_true, false_and, and_false, ne_eq, ite_true, ite_false, Nat.reduceLeDiff, Nat.reduceEqDiff, Nat.reduceLT, Nat.reduceAdd, Nat.reduceMul, Nat.reduceSub, Nat.le_refl, eq_self, li_0, li_1, li_2, li_3, li_4, li_5, li_6, li_7, li_8, li_9, li_10, li_11, li_12, li_13, li_14, li_15, li_16, li_17, li_18, li_19, li_20, li_21, li_22, li_23, li_24, li_25, li_26, li_27, li_28, li_29, li_30, li_31, li_32, li_44, li_48, li_57, li_59, li_60, li_61, li_62, li_63, li_97, li_100, li_122, li_123, li_125, li_127, li_255, li_400, li_401, li_800, li_1023, li_1024, li_10827, i_add, i_mul, i_sub, i_p1, i_m1, i_nm, i_nm2, i_cl, i_cl0, vi_ok, i_lt, i_le, i_eq, lg_e]
  refine ⟨fun c => ?_, fun c => ?_⟩
  · have pa := poss_press c hp
    have nmb := (hA.2.2.2.1 a pa.2.1).1
    refine q_X3_topOf hu ?_
    unfold topI
    by_cases c1 : U.2.1 = 0
    · rw [if_pos c1]
      refine ⟨fun z => absurd rfl z, fun _ => q2 (fun ⟨d, hd⟩ => ?_)⟩
      rcases hd with hd | hd
      · omega
      · have := hd.2.1.1; omega
    · rw [if_neg c1]
      have hv := (hu.2.2.2.2.1 (U.2.1 - 1) (by omega)).1
      have qv := hE.2.1 _ hv
      have pE := press_iff hE hu (by omega)
      have la := pa.2.1
      refine ⟨fun _ => ?_, fun z => absurd z (i_ne (by omega))⟩
      simp (disch := first | assumption | omega) only [true_and, and_true, forall_eq, true_implies, false_implies, implies_true, not_true_eq_false, not_false_eq_true, false_and, and_false, ne_eq, ite_true, ite_false, Nat.reduceLeDiff, Nat.reduceEqDiff, Nat.reduceLT, Nat.reduceAdd, Nat.reduceMul, Nat.reduceSub, Nat.le_refl, eq_self, li_0, li_1, li_2, li_3, li_4, li_5, li_6, li_7, li_8, li_9, li_10, li_11, li_12, li_13, li_14, li_15, li_16, li_17, li_18, li_19, li_20, li_21, li_22, li_23, li_24, li_25, li_26, li_27, li_28, li_29, li_30, li_31, li_32, li_44, li_48, li_57, li_59, li_60, li_61, li_62, li_63, li_97, li_100, li_122, li_123, li_125, li_127, li_255, li_400, li_401, li_800, li_1023, li_1024, li_10827, i_add, i_mul, i_sub, i_p1, i_m1, i_nm, i_nm2, i_cl, i_cl0, vi_ok, i_lt, i_le, i_eq, lg_e, isA_x, rfA_7, rfA_8, rfA_9, rfA_10, rfA_11, rfA_12, rfA_13, rfA_14, rfA_15, rfA_16, rfA_17, rfA_18, rfC_0, rfD_0, rfC_1, rfD_1, rfC_2, rfD_2, rfC_3, rfD_3, isA_1, szA_1, isA_2, szA_2, isA_3, szA_3, isA_4, szA_4, isA_5, szA_5, isA_6, szA_6, isA_7, szA_7, isA_8, szA_8, isA_9, szA_9, isA_10, szA_10, isA_11, szA_11, isA_12, szA_12, isA_13, szA_13, isA_14, szA_14, isA_15, szA_15, isA_16, szA_16, isA_17, szA_17, isA_18, szA_18, isA_19, szA_19, isA_20, szA_20, nmb]
      refine k_X0_buttonNamed hr hy hE hB hv (hD.1.2.2.2.2.2.1 a pa.2.1) (fun d h1 h2 h3 => ?_) (fun hn => ?_)
      · by_cases p : pressD E U d
        · exact q1 d (Or.inr ⟨c, p, h3⟩)
        · refine q3 d (by omega) (fun z => p (poss_press (by omega) z)) (fun ⟨e, he⟩ => ?_)
          rcases he with he | he
          · omega
          · have qe := (pE e).1 he.2.1
            have : e = d := hE.1.2.2.2.2.2.2 e d he.2.1.2.1 (by omega) (by rw [((qv.2.2.2.2.2 d (by omega)).2 ⟨h1, h2⟩), ((qv.2.2.2.2.2 e he.2.1.2.1).2 ⟨qe.1, qe.2.1⟩)]) (by rw [he.2.2, h3])
            rw [this] at he
            exact p he.2.1
      · refine q2 (fun ⟨e, he⟩ => ?_)
        rcases he with he | he
        · omega
        · have qe := (pE e).1 he.2.1
          exact hn e qe.1 qe.2.1 he.2.2
  · by_cases p : possD E U a
    · exact q1 a (Or.inl ⟨by omega, rfl, p⟩)
    · refine q3 a a27 p (fun ⟨e, he⟩ => ?_)
      rcases he with he | he
      · exact p he.2.2
      · omega
