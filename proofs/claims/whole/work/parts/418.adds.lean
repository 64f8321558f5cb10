theorem sumN_cg {f k : Nat → Nat} : ∀ n, (∀ i, i < n → f i = k i) → sumN f n = sumN k n := by
  intro n
  induction n with
  | zero => intro _; rfl
  | succ n ih =>
    intro h
    show sumN f n + f n = sumN k n + k n
    rw [ih (fun i hi => h i (by omega)), h n (Nat.lt_succ_self n)]
theorem sumN_up {f k : Nat → Nat} {i d : Nat} : ∀ n, i < n → (∀ j, j < n → j ≠ i → f j = k j) → f i = k i + d → sumN f n = sumN k n + d := by
  intro n
  induction n with
  | zero => intro h; omega
  | succ n ih =>
    intro h h1 h2
    show sumN f n + f n = sumN k n + k n + d
    by_cases c : i = n
    · rw [sumN_cg n (fun j hj => h1 j (by omega) (by omega)), ← c, h2]; omega
    · rw [ih (by omega) (fun j hj => h1 j (by omega)) h2, h1 n (by omega) (by omega)]; omega
/-- the class's APP, and lists of TIMERS that aren't told yet -/
def RepAt (h : AH) (x : Nat) (D : AD) : Prop := ∀ w, w < D 0 0 → D 8 w = 0 → h.1 (x + 17) (24 + w) = 0 ∧ D 14 (24 + w) = 0
def RepP (h : AH) (x : Nat) (D : AD) : Prop := RepA h x D ∧ RepAt h x D
theorem RepAw.c {h h1 : AH} {x : Nat} {D E : AD} (a : RepAw h x D) (e0 : E 0 0 = D 0 0) (e1 : E 1 = D 1) (e6 : E 6 = D 6) (e7 : E 7 = D 7) (e8 : E 8 = D 8) (e18 : E 18 = D 18) (e19 : E 19 = D 19) (f : ∀ j p, j = 2 ∨ (5 ≤ j ∧ j ≤ 9) → h1.1 (x + j) p = h.1 (x + j) p ∧ h1.2.1 (x + j) p = h.2.1 (x + j) p) : RepAw h1 x E := by
  intro w hw
  rw [e0] at hw
  obtain ⟨a1, a2, a3, a4, a5, a6⟩ := a w hw
  rw [e1, e6, e7, e8, e18, e19, (f 2 w (by omega)).2, (f 5 w (by omega)).1, (f 7 w (by omega)).1, (f 8 w (by omega)).1, (f 9 w (by omega)).1]
  exact ⟨a1, a2, fun k hk => by rw [(f 6 _ (by omega)).1]; exact a3 k hk, a4, a5, a6⟩
theorem RepAv.c {h h1 : AH} {x : Nat} {D E : AD} (a : RepAv h x D) (e0 : E 0 2 = D 0 2) (e3 : E 3 = D 3) (e4 : E 4 = D 4) (f : ∀ j p, j = 1 ∨ j = 4 → h1.1 (x + j) p = h.1 (x + j) p ∧ h1.2.1 (x + j) p = h.2.1 (x + j) p) : RepAv h1 x E := by
  intro v hv
  rw [e0] at hv
  rw [e3, e4, (f 1 v (by omega)).2, (f 4 v (by omega)).1]
  exact a v hv
theorem RepAb.c {h h1 : AH} {x : Nat} {D E : AD} (a : RepAb h x D) (e0 : E 0 1 = D 0 1) (e2 : E 2 = D 2) (e9 : E 9 = D 9) (f : ∀ j p, j = 3 ∨ j = 10 → h1.1 (x + j) p = h.1 (x + j) p ∧ h1.2.1 (x + j) p = h.2.1 (x + j) p) : RepAb h1 x E := by
  intro b hb
  rw [e0] at hb
  rw [e2, e9, (f 3 b (by omega)).2, (f 10 b (by omega)).1]
  exact a b hb
theorem RepAc.c {h h1 : AH} {x : Nat} {D E : AD} (a : RepAc h x D) (e0 : E 0 1 = D 0 1) (e10 : E 10 = D 10) (e11 : E 11 = D 11) (e12 : E 12 = D 12) (e13 : E 13 = D 13) (f : ∀ j p, 12 ≤ j ∧ j ≤ 15 → h1.1 (x + j) p = h.1 (x + j) p) : RepAc h1 x E := by
  intro b hb
  rw [e0] at hb
  rw [e10, e11, e12, e13, f 12 b (by omega)]
  obtain ⟨a1, a2, a3⟩ := a b hb
  exact ⟨a1, a2, fun k hk => by rw [f 13 _ (by omega), f 14 _ (by omega), f 15 _ (by omega)]; exact a3 k hk⟩
theorem RepAd.c {h h1 : AH} {x : Nat} {D E : AD} (a : RepAd h x D) (e : ∀ k, isL E k → isL D k ∧ E 14 k = D 14 k ∧ h1.1 (x + 17) k = h.1 (x + 17) k) (e15 : E 15 = D 15) (e16 : E 16 = D 16) (e17 : E 17 = D 17) (f : ∀ j p, 18 ≤ j ∧ j ≤ 20 → h1.1 (x + j) p = h.1 (x + j) p) : RepAd h1 x E := by
  intro k hk
  obtain ⟨i1, i2, i3⟩ := e k hk
  obtain ⟨a1, a2⟩ := a k i1
  rw [e15, e16, e17, i2, i3]
  exact ⟨a1, fun d hd => by rw [f 18 _ (by omega), f 19 _ (by omega), f 20 _ (by omega)]; exact a2 d hd⟩
def PAx (x : Nat) (c _p : Nat) : Prop := x ≤ c ∧ c ≤ x + 20
/-- heaps alike but at the place x + j, p -/
theorem k_addVar {l : Launch} {g : AG} {h : AH} {x nm mx kp : Nat} {D : AD} {Q : AH → Prop} (hr : Refs h) (hx : isA x) (hA : RepP h x D) (h6 : D 0 2 < 6) (hk : kp ≤ 1) (hq : ∀ h', Refs h' → Fr (PAx x) h h' → RepP h' x (addVar D nm mx kp) → Q h') : C_X0_addVar l g h x (Int64.ofNat (cwf 8 nm)) (Int32.ofNat mx) (Int32.ofNat kp) Q := by
  have hxu : x = 4 ∨ x = 25 ∨ x = 46 := hx
  obtain ⟨⟨⟨n0, n1, n2, n3, n4, n5, n6⟩, aw, av, ab, ac, ad⟩, at_⟩ := hA
  have dz : addVar D nm mx kp 0 2 = D 0 2 + 1 := up_s _ _ _ _
  have d0 : ∀ i, i ≠ 2 → addVar D nm mx kp 0 i = D 0 i := fun i hi => by
    unfold addVar
    rw [up_n hi, up_t (by omega), up_t (by omega), up_t (by omega)]
  have dt : ∀ t, t ≠ 0 → t ≠ 3 → t ≠ 4 → t ≠ 5 → addVar D nm mx kp t = D t := fun t a b c d => by
    unfold addVar
    rw [up_t a, up_t d, up_t c, up_t b]
  have d3 : ∀ i, addVar D nm mx kp 3 i = if i = D 0 2 then nm else D 3 i := fun i => by
    unfold addVar
    rw [up_t (by omega), up_t (by omega), up_t (by omega)]
    by_cases c : i = D 0 2
    · rw [up_e c, if_pos c]
    · rw [up_n c, if_neg c]
  have d4 : ∀ i, addVar D nm mx kp 4 i = if i = D 0 2 then mx else D 4 i := fun i => by
    unfold addVar
    rw [up_t (by omega), up_t (by omega)]
    by_cases c : i = D 0 2
    · rw [up_e c, if_pos c]
    · rw [up_n c, if_neg c, up_t (by omega)]
  have d5 : ∀ i, addVar D nm mx kp 5 i = if i = D 0 2 then kp else D 5 i := fun i => by
    unfold addVar
    rw [up_t (by omega)]
    by_cases c : i = D 0 2
    · rw [up_e c, if_pos c]
    · rw [up_n c, if_neg c, up_t (by omega), up_t (by omega)]
  generalize addVar D nm mx kp = E at hq dz d0 dt d3 d4 d5
  have s5 : sumN (fun v => E 5 v) (E 0 2) = sumN (fun v => D 5 v) (D 0 2) + kp := by
    rw [dz]
    show sumN (fun v => E 5 v) (D 0 2) + E 5 (D 0 2) = _
    rw [d5, if_pos rfl, sumN_cg (k := fun v => D 5 v) (D 0 2) (fun i hi => by rw [d5, if_neg (by omega)])]
  have il : ∀ k, isL E k → isL D k := fun k hk => by
    unfold isL at hk ⊢
    rw [d0 1 (by omega), d0 0 (by omega), dt 8 (by omega) (by omega) (by omega) (by omega)] at hk
    exact hk
  have fin : ∀ h', Refs h' → Fr (PAx x) h h' → (∀ p, p ≠ 2 → p ≠ 3 → h'.1 x p = h.1 x p) → h'.1 x 2 = Int32.ofNat (D 0 2 + 1) → h'.1 x 3 = Int32.ofNat (sumN (fun v => D 5 v) (D 0 2) + kp) → h'.2.1 x 6 = Int64.ofNat (vc (km (kept E))) → (∀ j p, 1 ≤ j → j ≠ 4 → h'.1 (x + j) p = h.1 (x + j) p) → (∀ j p, 2 ≤ j → h'.2.1 (x + j) p = h.2.1 (x + j) p) → (∀ v, v ≠ D 0 2 → h'.2.1 (x + 1) v = h.2.1 (x + 1) v ∧ h'.1 (x + 4) v = h.1 (x + 4) v) → h'.2.1 (x + 1) (D 0 2) = Int64.ofNat (cwf 8 nm) → h'.1 (x + 4) (D 0 2) = Int32.ofNat mx → Q h' := by
    intro h' r' f' c0 c2 c3 c6 cj cl co cn cm
    refine hq h' r' f' ⟨⟨⟨?_, ?_, ?_, ?_, ?_, ?_, c6⟩, ?_, ?_, ?_, ?_, ?_⟩, ?_⟩
    · rw [c0 0 (by omega) (by omega), d0 0 (by omega)]; exact n0
    · rw [c0 1 (by omega) (by omega), d0 1 (by omega)]; exact n1
    · rw [dz]; exact c2
    · rw [s5]; exact c3
    · rw [c0 4 (by omega) (by omega), d0 0 (by omega), dt 6 (by omega) (by omega) (by omega) (by omega)]; exact n4
    · rw [c0 5 (by omega) (by omega), d0 0 (by omega), dt 8 (by omega) (by omega) (by omega) (by omega)]; exact n5
    · exact aw.c (d0 0 (by omega)) (dt 1 (by omega) (by omega) (by omega) (by omega)) (dt 6 (by omega) (by omega) (by omega) (by omega)) (dt 7 (by omega) (by omega) (by omega) (by omega)) (dt 8 (by omega) (by omega) (by omega) (by omega)) (dt 18 (by omega) (by omega) (by omega) (by omega)) (dt 19 (by omega) (by omega) (by omega) (by omega)) (fun j p hj => ⟨cj j p (by omega) (by omega), cl j p (by omega)⟩)
    · intro v hv
      rw [dz] at hv
      rw [d3, d4]
      by_cases c : v = D 0 2
      · rw [if_pos c, if_pos c, c]; exact ⟨cn, cm⟩
      · rw [if_neg c, if_neg c, (co v c).1, (co v c).2]; exact av v (by omega)
    · exact ab.c (d0 1 (by omega)) (dt 2 (by omega) (by omega) (by omega) (by omega)) (dt 9 (by omega) (by omega) (by omega) (by omega)) (fun j p hj => ⟨cj j p (by omega) (by omega), cl j p (by omega)⟩)
    · exact ac.c (d0 1 (by omega)) (dt 10 (by omega) (by omega) (by omega) (by omega)) (dt 11 (by omega) (by omega) (by omega) (by omega)) (dt 12 (by omega) (by omega) (by omega) (by omega)) (dt 13 (by omega) (by omega) (by omega) (by omega)) (fun j p hj => cj j p (by omega) (by omega))
    · exact ad.c (fun k hk => ⟨il k hk, by rw [dt 14 (by omega) (by omega) (by omega) (by omega)], cj 17 k (by omega) (by omega)⟩) (dt 15 (by omega) (by omega) (by omega) (by omega)) (dt 16 (by omega) (by omega) (by omega) (by omega)) (dt 17 (by omega) (by omega) (by omega) (by omega)) (fun j p hj => cj j p (by omega) (by omega))
    · intro w hw h8
      rw [d0 0 (by omega)] at hw
      rw [dt 8 (by omega) (by omega) (by omega) (by omega)] at h8
      rw [cj 17 _ (by omega) (by omega), dt 14 (by omega) (by omega) (by omega) (by omega)]
      exact at_ w hw h8
  have kp0 : ∀ v, v < 6 → v ≠ D 0 2 → kept E v = kept D v := fun v hv hne => by
    unfold kept
    rw [dz, d5, if_neg hne]
    congr 1
    apply propext
    omega
  refine c_X0_addVar (s_X0_addVar_0 ?_)
  simp (disch := first | assumption | omega) only [true_and, and_true, forall_eq, true_implies, false_implies, implies_true, not_true_eq_false, not_false_eq_true, false_and, and_false, ne_eq, ite_true, ite_false, Nat.reduceLeDiff, Nat.reduceEqDiff, Nat.reduceLT, Nat.reduceAdd, Nat.reduceMul, Nat.reduceSub, Nat.le_refl, eq_self, li_0, li_1, li_2, li_3, li_4, li_5, li_6, li_7, li_8, li_9, li_10, li_11, li_12, li_13, li_14, li_15, li_16, li_17, li_18, li_19, li_20, li_21, li_22, li_23, li_24, li_25, li_26, li_27, li_28, li_29, li_30, li_31, li_32, li_44, li_48, li_57, li_59, li_60, li_61, li_62, li_63, li_97, li_100, li_122, li_123, li_125, li_127, li_255, li_400, li_401, li_800, li_1023, li_1024, li_10827, i_add, i_mul, i_sub, i_p1, i_m1, i_nm, i_nm2, i_cl, i_cl0, vi_ok, i_lt, i_le, i_eq, lg_e, isA_x, rfA_7, rfA_8, rfA_9, rfA_10, rfA_11, rfA_12, rfA_13, rfA_14, rfA_15, rfA_16, rfA_17, rfA_18, rfC_0, rfD_0, rfC_1, rfD_1, rfC_2, rfD_2, rfC_3, rfD_3, isA_1, szA_1, isA_2, szA_2, isA_3, szA_3, isA_4, szA_4, isA_5, szA_5, isA_6, szA_6, isA_7, szA_7, isA_8, szA_8, isA_9, szA_9, isA_10, szA_10, isA_11, szA_11, isA_12, szA_12, isA_13, szA_13, isA_14, szA_14, isA_15, szA_15, isA_16, szA_16, isA_17, szA_17, isA_18, szA_18, isA_19, szA_19, isA_20, szA_20, n2, gI_s, gI_c, gI_p, gI_L, gI_R, gL_s, gL_c, gL_p, gL_I, gL_R, gR_s, gR_c, gR_p, gR_I, gR_L, hk]
  have kD : kept D (D 0 2) = false := decide_eq_false (by omega)
  have kE : kept E (D 0 2) = decide (kp = 1) := by
    unfold kept
    rw [dz, d5, if_pos rfl]
    congr 1
    apply propext
    omega
  refine ⟨fun z => ?_, fun z => ?_⟩
  · refine fin _ hr.setL.setI.setI ((((Fr.refl _ h).setL ⟨by omega, by omega⟩).setI ⟨by omega, by omega⟩).setI ⟨by omega, by omega⟩) (fun p p2 p3 => by simp (disch := first | assumption | omega) only [true_and, and_true, forall_eq, true_implies, false_implies, implies_true, not_true_eq_false, not_false_eq_true, false_and, and_false, ne_eq, ite_true, ite_false, Nat.reduceLeDiff, Nat.reduceEqDiff, Nat.reduceLT, Nat.reduceAdd, Nat.reduceMul, Nat.reduceSub, Nat.le_refl, eq_self, li_0, li_1, li_2, li_3, li_4, li_5, li_6, li_7, li_8, li_9, li_10, li_11, li_12, li_13, li_14, li_15, li_16, li_17, li_18, li_19, li_20, li_21, li_22, li_23, li_24, li_25, li_26, li_27, li_28, li_29, li_30, li_31, li_32, li_44, li_48, li_57, li_59, li_60, li_61, li_62, li_63, li_97, li_100, li_122, li_123, li_125, li_127, li_255, li_400, li_401, li_800, li_1023, li_1024, li_10827, i_add, i_mul, i_sub, i_p1, i_m1, i_nm, i_nm2, i_cl, i_cl0, vi_ok, i_lt, i_le, i_eq, lg_e, gI_s, gI_c, gI_p, gI_L, gI_R, gL_s, gL_c, gL_p, gL_I, gL_R, gR_s, gR_c, gR_p, gR_I, gR_L]) (by simp (disch := first | assumption | omega) only [true_and, and_true, forall_eq, true_implies, false_implies, implies_true, not_true_eq_false, not_false_eq_true, false_and, and_false, ne_eq, ite_true, ite_false, Nat.reduceLeDiff, Nat.reduceEqDiff, Nat.reduceLT, Nat.reduceAdd, Nat.reduceMul, Nat.reduceSub, Nat.le_refl, eq_self, li_0, li_1, li_2, li_3, li_4, li_5, li_6, li_7, li_8, li_9, li_10, li_11, li_12, li_13, li_14, li_15, li_16, li_17, li_18, li_19, li_20, li_21, li_22, li_23, li_24, li_25, li_26, li_27, li_28, li_29, li_30, li_31, li_32, li_44, li_48, li_57, li_59, li_60, li_61, li_62, li_63, li_97, li_100, li_122, li_123, li_125, li_127, li_255, li_400, li_401, li_800, li_1023, li_1024, li_10827, i_add, i_mul, i_sub, i_p1, i_m1, i_nm, i_nm2, i_cl, i_cl0, vi_ok, i_lt, i_le, i_eq, lg_e, gI_s, gI_c, gI_p, gI_L, gI_R, gL_s, gL_c, gL_p, gL_I, gL_R, gR_s, gR_c, gR_p, gR_I, gR_L]) (by simp (disch := first | assumption | omega) only [true_and, and_true, forall_eq, true_implies, false_implies, implies_true, not_true_eq_false, not_false_eq_true, false_and, and_false, ne_eq, ite_true, ite_false, Nat.reduceLeDiff, Nat.reduceEqDiff, Nat.reduceLT, Nat.reduceAdd, Nat.reduceMul, Nat.reduceSub, Nat.le_refl, eq_self, li_0, li_1, li_2, li_3, li_4, li_5, li_6, li_7, li_8, li_9, li_10, li_11, li_12, li_13, li_14, li_15, li_16, li_17, li_18, li_19, li_20, li_21, li_22, li_23, li_24, li_25, li_26, li_27, li_28, li_29, li_30, li_31, li_32, li_44, li_48, li_57, li_59, li_60, li_61, li_62, li_63, li_97, li_100, li_122, li_123, li_125, li_127, li_255, li_400, li_401, li_800, li_1023, li_1024, li_10827, i_add, i_mul, i_sub, i_p1, i_m1, i_nm, i_nm2, i_cl, i_cl0, vi_ok, i_lt, i_le, i_eq, lg_e, gI_s, gI_c, gI_p, gI_L, gI_R, gL_s, gL_c, gL_p, gL_I, gL_R, gR_s, gR_c, gR_p, gR_I, gR_L]; rw [z, Nat.add_zero]; exact n3) ?_ (fun j p h1 h4 => by simp (disch := first | assumption | omega) only [true_and, and_true, forall_eq, true_implies, false_implies, implies_true, not_true_eq_false, not_false_eq_true, false_and, and_false, ne_eq, ite_true, ite_false, Nat.reduceLeDiff, Nat.reduceEqDiff, Nat.reduceLT, Nat.reduceAdd, Nat.reduceMul, Nat.reduceSub, Nat.le_refl, eq_self, li_0, li_1, li_2, li_3, li_4, li_5, li_6, li_7, li_8, li_9, li_10, li_11, li_12, li_13, li_14, li_15, li_16, li_17, li_18, li_19, li_20, li_21, li_22, li_23, li_24, li_25, li_26, li_27, li_28, li_29, li_30, li_31, li_32, li_44, li_48, li_57, li_59, li_60, li_61, li_62, li_63, li_97, li_100, li_122, li_123, li_125, li_127, li_255, li_400, li_401, li_800, li_1023, li_1024, li_10827, i_add, i_mul, i_sub, i_p1, i_m1, i_nm, i_nm2, i_cl, i_cl0, vi_ok, i_lt, i_le, i_eq, lg_e, gI_s, gI_c, gI_p, gI_L, gI_R, gL_s, gL_c, gL_p, gL_I, gL_R, gR_s, gR_c, gR_p, gR_I, gR_L]) (fun j p hj => by simp (disch := first | assumption | omega) only [true_and, and_true, forall_eq, true_implies, false_implies, implies_true, not_true_eq_false, not_false_eq_true, false_and, and_false, ne_eq, ite_true, ite_false, Nat.reduceLeDiff, Nat.reduceEqDiff, Nat.reduceLT, Nat.reduceAdd, Nat.reduceMul, Nat.reduceSub, Nat.le_refl, eq_self, li_0, li_1, li_2, li_3, li_4, li_5, li_6, li_7, li_8, li_9, li_10, li_11, li_12, li_13, li_14, li_15, li_16, li_17, li_18, li_19, li_20, li_21, li_22, li_23, li_24, li_25, li_26, li_27, li_28, li_29, li_30, li_31, li_32, li_44, li_48, li_57, li_59, li_60, li_61, li_62, li_63, li_97, li_100, li_122, li_123, li_125, li_127, li_255, li_400, li_401, li_800, li_1023, li_1024, li_10827, i_add, i_mul, i_sub, i_p1, i_m1, i_nm, i_nm2, i_cl, i_cl0, vi_ok, i_lt, i_le, i_eq, lg_e, gI_s, gI_c, gI_p, gI_L, gI_R, gL_s, gL_c, gL_p, gL_I, gL_R, gR_s, gR_c, gR_p, gR_I, gR_L]) (fun v hv => by simp (disch := first | assumption | omega) only [true_and, and_true, forall_eq, true_implies, false_implies, implies_true, not_true_eq_false, not_false_eq_true, false_and, and_false, ne_eq, ite_true, ite_false, Nat.reduceLeDiff, Nat.reduceEqDiff, Nat.reduceLT, Nat.reduceAdd, Nat.reduceMul, Nat.reduceSub, Nat.le_refl, eq_self, li_0, li_1, li_2, li_3, li_4, li_5, li_6, li_7, li_8, li_9, li_10, li_11, li_12, li_13, li_14, li_15, li_16, li_17, li_18, li_19, li_20, li_21, li_22, li_23, li_24, li_25, li_26, li_27, li_28, li_29, li_30, li_31, li_32, li_44, li_48, li_57, li_59, li_60, li_61, li_62, li_63, li_97, li_100, li_122, li_123, li_125, li_127, li_255, li_400, li_401, li_800, li_1023, li_1024, li_10827, i_add, i_mul, i_sub, i_p1, i_m1, i_nm, i_nm2, i_cl, i_cl0, vi_ok, i_lt, i_le, i_eq, lg_e, gI_s, gI_c, gI_p, gI_L, gI_R, gL_s, gL_c, gL_p, gL_I, gL_R, gR_s, gR_c, gR_p, gR_I, gR_L]) (by simp (disch := first | assumption | omega) only [true_and, and_true, forall_eq, true_implies, false_implies, implies_true, not_true_eq_false, not_false_eq_true, false_and, and_false, ne_eq, ite_true, ite_false, Nat.reduceLeDiff, Nat.reduceEqDiff, Nat.reduceLT, Nat.reduceAdd, Nat.reduceMul, Nat.reduceSub, Nat.le_refl, eq_self, li_0, li_1, li_2, li_3, li_4, li_5, li_6, li_7, li_8, li_9, li_10, li_11, li_12, li_13, li_14, li_15, li_16, li_17, li_18, li_19, li_20, li_21, li_22, li_23, li_24, li_25, li_26, li_27, li_28, li_29, li_30, li_31, li_32, li_44, li_48, li_57, li_59, li_60, li_61, li_62, li_63, li_97, li_100, li_122, li_123, li_125, li_127, li_255, li_400, li_401, li_800, li_1023, li_1024, li_10827, i_add, i_mul, i_sub, i_p1, i_m1, i_nm, i_nm2, i_cl, i_cl0, vi_ok, i_lt, i_le, i_eq, lg_e, gI_s, gI_c, gI_p, gI_L, gI_R, gL_s, gL_c, gL_p, gL_I, gL_R, gR_s, gR_c, gR_p, gR_I, gR_L]) (by simp (disch := first | assumption | omega) only [true_and, and_true, forall_eq, true_implies, false_implies, implies_true, not_true_eq_false, not_false_eq_true, false_and, and_false, ne_eq, ite_true, ite_false, Nat.reduceLeDiff, Nat.reduceEqDiff, Nat.reduceLT, Nat.reduceAdd, Nat.reduceMul, Nat.reduceSub, Nat.le_refl, eq_self, li_0, li_1, li_2, li_3, li_4, li_5, li_6, li_7, li_8, li_9, li_10, li_11, li_12, li_13, li_14, li_15, li_16, li_17, li_18, li_19, li_20, li_21, li_22, li_23, li_24, li_25, li_26, li_27, li_28, li_29, li_30, li_31, li_32, li_44, li_48, li_57, li_59, li_60, li_61, li_62, li_63, li_97, li_100, li_122, li_123, li_125, li_127, li_255, li_400, li_401, li_800, li_1023, li_1024, li_10827, i_add, i_mul, i_sub, i_p1, i_m1, i_nm, i_nm2, i_cl, i_cl0, vi_ok, i_lt, i_le, i_eq, lg_e, gI_s, gI_c, gI_p, gI_L, gI_R, gL_s, gL_c, gL_p, gL_I, gL_R, gR_s, gR_c, gR_p, gR_I, gR_L])
    have e : vc (km (kept D)) = vc (km (kept E)) := vc_congr (fun v hv => by
      by_cases c : v = D 0 2
      · unfold km; rw [c, kD, kE, z]; rfl
      · unfold km; rw [kp0 v hv c])
    simp (disch := first | assumption | omega) only [true_and, and_true, forall_eq, true_implies, false_implies, implies_true, not_true_eq_false, not_false_eq_true, false_and, and_false, ne_eq, ite_true, ite_false, Nat.reduceLeDiff, Nat.reduceEqDiff, Nat.reduceLT, Nat.reduceAdd, Nat.reduceMul, Nat.reduceSub, Nat.le_refl, eq_self, li_0, li_1, li_2, li_3, li_4, li_5, li_6, li_7, li_8, li_9, li_10, li_11, li_12, li_13, li_14, li_15, li_16, li_17, li_18, li_19, li_20, li_21, li_22, li_23, li_24, li_25, li_26, li_27, li_28, li_29, li_30, li_31, li_32, li_44, li_48, li_57, li_59, li_60, li_61, li_62, li_63, li_97, li_100, li_122, li_123, li_125, li_127, li_255, li_400, li_401, li_800, li_1023, li_1024, li_10827, i_add, i_mul, i_sub, i_p1, i_m1, i_nm, i_nm2, i_cl, i_cl0, vi_ok, i_lt, i_le, i_eq, lg_e, gI_s, gI_c, gI_p, gI_L, gI_R, gL_s, gL_c, gL_p, gL_I, gL_R, gR_s, gR_c, gR_p, gR_I, gR_L]
    rw [← e]; exact n6
  · have z1 : kp = 1 := by omega
    rw [n6, n3, i_add]
    have vl := vc_lt (V := km (kept D)) (fun v _ => km_lt _ v)
    refine k_X3_withValue (by omega) h6 (by omega) ?_
    have vs := vc_set (V := km (kept D)) (fun v _ => km_lt _ v) 0 (x := 15) h6
    rw [Nat.zero_mul, Nat.zero_add, Nat.zero_add] at vs
    rw [vs]
    simp (disch := first | assumption | omega) only [true_and, and_true, forall_eq, true_implies, false_implies, implies_true, not_true_eq_false, not_false_eq_true, false_and, and_false, ne_eq, ite_true, ite_false, Nat.reduceLeDiff, Nat.reduceEqDiff, Nat.reduceLT, Nat.reduceAdd, Nat.reduceMul, Nat.reduceSub, Nat.le_refl, eq_self, li_0, li_1, li_2, li_3, li_4, li_5, li_6, li_7, li_8, li_9, li_10, li_11, li_12, li_13, li_14, li_15, li_16, li_17, li_18, li_19, li_20, li_21, li_22, li_23, li_24, li_25, li_26, li_27, li_28, li_29, li_30, li_31, li_32, li_44, li_48, li_57, li_59, li_60, li_61, li_62, li_63, li_97, li_100, li_122, li_123, li_125, li_127, li_255, li_400, li_401, li_800, li_1023, li_1024, li_10827, i_add, i_mul, i_sub, i_p1, i_m1, i_nm, i_nm2, i_cl, i_cl0, vi_ok, i_lt, i_le, i_eq, lg_e, gI_s, gI_c, gI_p, gI_L, gI_R, gL_s, gL_c, gL_p, gL_I, gL_R, gR_s, gR_c, gR_p, gR_I, gR_L, n2]
    refine fin _ hr.setL.setI.setI.setL.setI ((((((Fr.refl _ h).setL ⟨by omega, by omega⟩).setI ⟨by omega, by omega⟩).setI ⟨by omega, by omega⟩).setL ⟨by omega, by omega⟩).setI ⟨by omega, by omega⟩) (fun p p2 p3 => by simp (disch := first | assumption | omega) only [true_and, and_true, forall_eq, true_implies, false_implies, implies_true, not_true_eq_false, not_false_eq_true, false_and, and_false, ne_eq, ite_true, ite_false, Nat.reduceLeDiff, Nat.reduceEqDiff, Nat.reduceLT, Nat.reduceAdd, Nat.reduceMul, Nat.reduceSub, Nat.le_refl, eq_self, li_0, li_1, li_2, li_3, li_4, li_5, li_6, li_7, li_8, li_9, li_10, li_11, li_12, li_13, li_14, li_15, li_16, li_17, li_18, li_19, li_20, li_21, li_22, li_23, li_24, li_25, li_26, li_27, li_28, li_29, li_30, li_31, li_32, li_44, li_48, li_57, li_59, li_60, li_61, li_62, li_63, li_97, li_100, li_122, li_123, li_125, li_127, li_255, li_400, li_401, li_800, li_1023, li_1024, li_10827, i_add, i_mul, i_sub, i_p1, i_m1, i_nm, i_nm2, i_cl, i_cl0, vi_ok, i_lt, i_le, i_eq, lg_e, gI_s, gI_c, gI_p, gI_L, gI_R, gL_s, gL_c, gL_p, gL_I, gL_R, gR_s, gR_c, gR_p, gR_I, gR_L]) (by simp (disch := first | assumption | omega) only [true_and, and_true, forall_eq, true_implies, false_implies, implies_true, not_true_eq_false, not_false_eq_true, false_and, and_false, ne_eq, ite_true, ite_false, Nat.reduceLeDiff, Nat.reduceEqDiff, Nat.reduceLT, Nat.reduceAdd, Nat.reduceMul, Nat.reduceSub, Nat.le_refl, eq_self, li_0, li_1, li_2, li_3, li_4, li_5, li_6, li_7, li_8, li_9, li_10, li_11, li_12, li_13, li_14, li_15, li_16, li_17, li_18, li_19, li_20, li_21, li_22, li_23, li_24, li_25, li_26, li_27, li_28, li_29, li_30, li_31, li_32, li_44, li_48, li_57, li_59, li_60, li_61, li_62, li_63, li_97, li_100, li_122, li_123, li_125, li_127, li_255, li_400, li_401, li_800, li_1023, li_1024, li_10827, i_add, i_mul, i_sub, i_p1, i_m1, i_nm, i_nm2, i_cl, i_cl0, vi_ok, i_lt, i_le, i_eq, lg_e, gI_s, gI_c, gI_p, gI_L, gI_R, gL_s, gL_c, gL_p, gL_I, gL_R, gR_s, gR_c, gR_p, gR_I, gR_L]) (by simp (disch := first | assumption | omega) only [true_and, and_true, forall_eq, true_implies, false_implies, implies_true, not_true_eq_false, not_false_eq_true, false_and, and_false, ne_eq, ite_true, ite_false, Nat.reduceLeDiff, Nat.reduceEqDiff, Nat.reduceLT, Nat.reduceAdd, Nat.reduceMul, Nat.reduceSub, Nat.le_refl, eq_self, li_0, li_1, li_2, li_3, li_4, li_5, li_6, li_7, li_8, li_9, li_10, li_11, li_12, li_13, li_14, li_15, li_16, li_17, li_18, li_19, li_20, li_21, li_22, li_23, li_24, li_25, li_26, li_27, li_28, li_29, li_30, li_31, li_32, li_44, li_48, li_57, li_59, li_60, li_61, li_62, li_63, li_97, li_100, li_122, li_123, li_125, li_127, li_255, li_400, li_401, li_800, li_1023, li_1024, li_10827, i_add, i_mul, i_sub, i_p1, i_m1, i_nm, i_nm2, i_cl, i_cl0, vi_ok, i_lt, i_le, i_eq, lg_e, gI_s, gI_c, gI_p, gI_L, gI_R, gL_s, gL_c, gL_p, gL_I, gL_R, gR_s, gR_c, gR_p, gR_I, gR_L, z1]) ?_ (fun j p h1 h4 => by simp (disch := first | assumption | omega) only [true_and, and_true, forall_eq, true_implies, false_implies, implies_true, not_true_eq_false, not_false_eq_true, false_and, and_false, ne_eq, ite_true, ite_false, Nat.reduceLeDiff, Nat.reduceEqDiff, Nat.reduceLT, Nat.reduceAdd, Nat.reduceMul, Nat.reduceSub, Nat.le_refl, eq_self, li_0, li_1, li_2, li_3, li_4, li_5, li_6, li_7, li_8, li_9, li_10, li_11, li_12, li_13, li_14, li_15, li_16, li_17, li_18, li_19, li_20, li_21, li_22, li_23, li_24, li_25, li_26, li_27, li_28, li_29, li_30, li_31, li_32, li_44, li_48, li_57, li_59, li_60, li_61, li_62, li_63, li_97, li_100, li_122, li_123, li_125, li_127, li_255, li_400, li_401, li_800, li_1023, li_1024, li_10827, i_add, i_mul, i_sub, i_p1, i_m1, i_nm, i_nm2, i_cl, i_cl0, vi_ok, i_lt, i_le, i_eq, lg_e, gI_s, gI_c, gI_p, gI_L, gI_R, gL_s, gL_c, gL_p, gL_I, gL_R, gR_s, gR_c, gR_p, gR_I, gR_L]) (fun j p hj => by simp (disch := first | assumption | omega) only [true_and, and_true, forall_eq, true_implies, false_implies, implies_true, not_true_eq_false, not_false_eq_true, false_and, and_false, ne_eq, ite_true, ite_false, Nat.reduceLeDiff, Nat.reduceEqDiff, Nat.reduceLT, Nat.reduceAdd, Nat.reduceMul, Nat.reduceSub, Nat.le_refl, eq_self, li_0, li_1, li_2, li_3, li_4, li_5, li_6, li_7, li_8, li_9, li_10, li_11, li_12, li_13, li_14, li_15, li_16, li_17, li_18, li_19, li_20, li_21, li_22, li_23, li_24, li_25, li_26, li_27, li_28, li_29, li_30, li_31, li_32, li_44, li_48, li_57, li_59, li_60, li_61, li_62, li_63, li_97, li_100, li_122, li_123, li_125, li_127, li_255, li_400, li_401, li_800, li_1023, li_1024, li_10827, i_add, i_mul, i_sub, i_p1, i_m1, i_nm, i_nm2, i_cl, i_cl0, vi_ok, i_lt, i_le, i_eq, lg_e, gI_s, gI_c, gI_p, gI_L, gI_R, gL_s, gL_c, gL_p, gL_I, gL_R, gR_s, gR_c, gR_p, gR_I, gR_L]) (fun v hv => by simp (disch := first | assumption | omega) only [true_and, and_true, forall_eq, true_implies, false_implies, implies_true, not_true_eq_false, not_false_eq_true, false_and, and_false, ne_eq, ite_true, ite_false, Nat.reduceLeDiff, Nat.reduceEqDiff, Nat.reduceLT, Nat.reduceAdd, Nat.reduceMul, Nat.reduceSub, Nat.le_refl, eq_self, li_0, li_1, li_2, li_3, li_4, li_5, li_6, li_7, li_8, li_9, li_10, li_11, li_12, li_13, li_14, li_15, li_16, li_17, li_18, li_19, li_20, li_21, li_22, li_23, li_24, li_25, li_26, li_27, li_28, li_29, li_30, li_31, li_32, li_44, li_48, li_57, li_59, li_60, li_61, li_62, li_63, li_97, li_100, li_122, li_123, li_125, li_127, li_255, li_400, li_401, li_800, li_1023, li_1024, li_10827, i_add, i_mul, i_sub, i_p1, i_m1, i_nm, i_nm2, i_cl, i_cl0, vi_ok, i_lt, i_le, i_eq, lg_e, gI_s, gI_c, gI_p, gI_L, gI_R, gL_s, gL_c, gL_p, gL_I, gL_R, gR_s, gR_c, gR_p, gR_I, gR_L]) (by simp (disch := first | assumption | omega) only [true_and, and_true, forall_eq, true_implies, false_implies, implies_true, not_true_eq_false, not_false_eq_true, false_and, and_false, ne_eq, ite_true, ite_false, Nat.reduceLeDiff, Nat.reduceEqDiff, Nat.reduceLT, Nat.reduceAdd, Nat.reduceMul, Nat.reduceSub, Nat.le_refl, eq_self, li_0, li_1, li_2, li_3, li_4, li_5, li_6, li_7, li_8, li_9, li_10, li_11, li_12, li_13, li_14, li_15, li_16, li_17, li_18, li_19, li_20, li_21, li_22, li_23, li_24, li_25, li_26, li_27, li_28, li_29, li_30, li_31, li_32, li_44, li_48, li_57, li_59, li_60, li_61, li_62, li_63, li_97, li_100, li_122, li_123, li_125, li_127, li_255, li_400, li_401, li_800, li_1023, li_1024, li_10827, i_add, i_mul, i_sub, i_p1, i_m1, i_nm, i_nm2, i_cl, i_cl0, vi_ok, i_lt, i_le, i_eq, lg_e, gI_s, gI_c, gI_p, gI_L, gI_R, gL_s, gL_c, gL_p, gL_I, gL_R, gR_s, gR_c, gR_p, gR_I, gR_L]) (by simp (disch := first | assumption | omega) only [true_and, and_true, forall_eq, true_implies, false_implies, implies_true, not_true_eq_false, not_false_eq_true, false_and, and_false, ne_eq, ite_true, ite_false, Nat.reduceLeDiff, Nat.reduceEqDiff, Nat.reduceLT, Nat.reduceAdd, Nat.reduceMul, Nat.reduceSub, Nat.le_refl, eq_self, li_0, li_1, li_2, li_3, li_4, li_5, li_6, li_7, li_8, li_9, li_10, li_11, li_12, li_13, li_14, li_15, li_16, li_17, li_18, li_19, li_20, li_21, li_22, li_23, li_24, li_25, li_26, li_27, li_28, li_29, li_30, li_31, li_32, li_44, li_48, li_57, li_59, li_60, li_61, li_62, li_63, li_97, li_100, li_122, li_123, li_125, li_127, li_255, li_400, li_401, li_800, li_1023, li_1024, li_10827, i_add, i_mul, i_sub, i_p1, i_m1, i_nm, i_nm2, i_cl, i_cl0, vi_ok, i_lt, i_le, i_eq, lg_e, gI_s, gI_c, gI_p, gI_L, gI_R, gL_s, gL_c, gL_p, gL_I, gL_R, gR_s, gR_c, gR_p, gR_I, gR_L])
    have e : vc (nup (km (kept D)) (D 0 2) 15) = vc (km (kept E)) := vc_congr (fun v hv => by
      by_cases c : v = D 0 2
      · unfold km; rw [c, nup_s, kE, z1]; rfl
      · rw [nup_n c]; unfold km; rw [kp0 v hv c])
    simp (disch := first | assumption | omega) only [true_and, and_true, forall_eq, true_implies, false_implies, implies_true, not_true_eq_false, not_false_eq_true, false_and, and_false, ne_eq, ite_true, ite_false, Nat.reduceLeDiff, Nat.reduceEqDiff, Nat.reduceLT, Nat.reduceAdd, Nat.reduceMul, Nat.reduceSub, Nat.le_refl, eq_self, li_0, li_1, li_2, li_3, li_4, li_5, li_6, li_7, li_8, li_9, li_10, li_11, li_12, li_13, li_14, li_15, li_16, li_17, li_18, li_19, li_20, li_21, li_22, li_23, li_24, li_25, li_26, li_27, li_28, li_29, li_30, li_31, li_32, li_44, li_48, li_57, li_59, li_60, li_61, li_62, li_63, li_97, li_100, li_122, li_123, li_125, li_127, li_255, li_400, li_401, li_800, li_1023, li_1024, li_10827, i_add, i_mul, i_sub, i_p1, i_m1, i_nm, i_nm2, i_cl, i_cl0, vi_ok, i_lt, i_le, i_eq, lg_e, gI_s, gI_c, gI_p, gI_L, gI_R, gL_s, gL_c, gL_p, gL_I, gL_R, gR_s, gR_c, gR_p, gR_I, gR_L]
    rw [e]
