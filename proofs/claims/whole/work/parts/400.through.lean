/-- the class's pairs -/
def CP (h : AH) (B : PT3) : Prop := MT h 94 B.1 (fun i => Int64.ofNat (en (B.2.1 i))) (fun i => Int64.ofNat (en (B.2.2.1 i))) ∧ ∀ i, i < B.1 → h.1 97 i = (if i = 0 then -1 else Int32.ofNat (B.2.2.2.1 i)) ∧ h.1 98 i = (if i = 0 then -1 else Int32.ofNat (B.2.2.2.2.1 i)) ∧ h.1 99 i = Int32.ofNat (B.2.2.2.2.2 i)
def PE (c p : Nat) : Prop := (94 ≤ c ∧ c ≤ 100) ∨ (c = 93 ∧ p ≠ 2)
theorem CP.fr {P : Nat → Nat → Prop} {h h1 : AH} {B : PT3} (m : CP h B) (f : Fr P h h1) (e : ∀ c p, P c p → ¬ (94 ≤ c ∧ c ≤ 100)) : CP h1 B := by
  obtain ⟨b1, b2⟩ := m
  refine ⟨b1.fr f (fun c p q => by have := e c p q; omega), fun i hi => ?_⟩
  rw [(f 97 i (fun q => e _ _ q ⟨by omega, by omega⟩)).1, (f 98 i (fun q => e _ _ q ⟨by omega, by omega⟩)).1, (f 99 i (fun q => e _ _ q ⟨by omega, by omega⟩)).1]
  exact b2 i hi
/-- the class's Beside, going through APPS D (at x) and E (at y) -/
def BS (h0 h : AH) (x y : Nat) : Prop := Refs h ∧ Fr PE h0 h ∧ h.2.2 93 0 = x ∧ h.2.2 93 1 = y
theorem bs_read {h0 h : AH} {x y : Nat} {D E : AD} (hx : isA x) (hy : isA y) (hA : RepA h0 x D) (hB : RepA h0 y E) (b : BS h0 h x y) : RepA h x D ∧ RepA h y E := by
  have hxu : x = 4 ∨ x = 25 ∨ x = 46 := hx
  have hyu : y = 4 ∨ y = 25 ∨ y = 46 := hy
  exact ⟨hA.fr b.2.1 (fun c p h1 h2 q => by unfold PE at q; omega), hB.fr b.2.1 (fun c p h1 h2 q => by unfold PE at q; omega)⟩
theorem BS.setI {h0 h : AH} {x y k : Nat} {v : Int32} (b : BS h0 h x y) (hk : k = 3 ∨ k = 4 ∨ k = 5) : BS h0 (ax_setI h 93 k v) x y := ⟨b.1.setI, b.2.1.setI (Or.inr ⟨rfl, by omega⟩), b.2.2.1, b.2.2.2⟩
theorem k_ended {l : Launch} {g : AG} {h : AH} {Q : Int32 → AH → Prop} (q0 : h.1 93 3 = 0 → h.1 93 4 = -1 → Q 0 h) (q1 : (¬ h.1 93 3 = 0 ∨ ¬ h.1 93 4 = -1) → Q 1 h) : C_X2_ended l g h 93 Q := by
  refine c_X2_ended (s_X2_ended_0 ⟨is_93, fun c => q1 (Or.inl c), fun c => ⟨fun c2 => q0 c c2, fun c2 => q1 (Or.inr c2)⟩⟩)
theorem CP_add {h h1 : AH} {B : PT3} {k a : Nat} {T V : AS} (hk : k < B.1) (ha : a < 27) (cp : CP h B) (hB0 : 0 < B.1) (m : MT h1 94 (B.1 + 1) (nupL (fun i => Int64.ofNat (en (B.2.1 i))) B.1 (Int64.ofNat (en T))) (nupL (fun i => Int64.ofNat (en (B.2.2.1 i))) B.1 (Int64.ofNat (en V)))) (hB4 : B.1 ≤ 400) (kp : Kept h h1 94 B.1 (Int32.ofNat k) (Int32.ofNat a)) : CP h1 (pbAdd B (27 * k + a) T V) := by
  have e1 : (27 * k + a) / 27 = k := by omega
  have e2 : (27 * k + a) % 27 = a := by omega
  refine ⟨m.congr (fun i hi => ?_) (fun i hi => ?_), fun i hi => ?_⟩
  · show nupL (fun i => Int64.ofNat (en (B.2.1 i))) B.1 (Int64.ofNat (en T)) i = Int64.ofNat (en (upS B.2.1 B.1 T i))
    by_cases c : i = B.1
    · rw [c, nupL_s, upS_s]
    · rw [nupL_n c, upS_n c]
  · show nupL (fun i => Int64.ofNat (en (B.2.2.1 i))) B.1 (Int64.ofNat (en V)) i = Int64.ofNat (en (upS B.2.2.1 B.1 V i))
    by_cases c : i = B.1
    · rw [c, nupL_s, upS_s]
    · rw [nupL_n c, upS_n c]
  · have hi2 : i < B.1 + 1 := hi
    show _ = (if i = 0 then -1 else Int32.ofNat (nup B.2.2.2.1 B.1 ((27 * k + a) / 27) i)) ∧ _ = (if i = 0 then -1 else Int32.ofNat (nup B.2.2.2.2.1 B.1 ((27 * k + a) % 27) i)) ∧ _ = Int32.ofNat (nup B.2.2.2.2.2 B.1 (B.2.2.2.2.2 ((27 * k + a) / 27) + 1) i)
    rw [e1, e2]
    by_cases c : i = B.1
    · have k0 : ¬ B.1 = 0 := by omega
      rw [c, if_neg k0, if_neg k0, nup_s, nup_s, nup_s]
      refine ⟨kp.2.1, kp.2.2.1, ?_⟩
      have := kp.2.2.2
      rw [if_pos (i_ge (by omega)), i_cl (by omega)] at this
      have e99 : h.1 (94 + 5) k = Int32.ofNat (B.2.2.2.2.2 k) := (cp.2 k hk).2.2
      rw [e99, i_p1] at this
      exact this
    · have z := cp.2 i (by omega)
      have y := kp.1 i c
      rw [nup_n c, nup_n c, nup_n c]
      exact ⟨y.1.trans z.1, y.2.1.trans z.2.1, y.2.2.trans z.2.2⟩
theorem k_goByFirst {l : Launch} {g : AG} {h0 h : AH} {x y k a : Nat} {D E : AD} {B : PT3} {Q : AH → Prop} (hx : isA x) (hy : isA y) (hD : WfD D) (hE : WfD E) (hA0 : RepA h0 x D) (hB0 : RepA h0 y E) (b : BS h0 h x y) (cp : CP h B) (w : pbW D E B) (hk : k < B.1) (ha : a < 27) (v3 : h.1 93 3 = 0)
    (q0 : ¬ possD D (B.2.1 k) a → Q h)
    (q1 : pbE1 D E B (27 * k + a) → Q (ax_setI (ax_setI h 93 4 (Int32.ofNat k)) 93 5 (Int32.ofNat a)))
    (q2 : ∀ T V, pbG D E B (27 * k + a) T V → ¬ pbNew B T V → Q (ax_setI h 93 3 0))
    (q3 : ∀ T V h1, pbG D E B (27 * k + a) T V → pbNew B T V → B.1 < 400 → BS h0 h1 x y → CP h1 (pbAdd B (27 * k + a) T V) → (∀ p, h1.1 93 p = h.1 93 p) → Q (ax_setI h1 93 3 0))
    (q4 : pbE2 D E B (27 * k + a) → Q (ax_setI h 93 3 1)) : C_X2_goByFirst l g h 93 (Int32.ofNat k) (Int32.ofNat a) Q := by
  obtain ⟨hA, hB⟩ := bs_read hx hy hA0 hB0 b
  obtain ⟨hr, hf, e0, e1⟩ := b
  have ej1 : (27 * k + a) / 27 = k := by omega
  have ej2 : (27 * k + a) % 27 = a := by omega
  have h400 := w.2.1
  obtain ⟨wS, wU, al⟩ := w.2.2.1 k hk
  refine c_X2_goByFirst (s_X2_goByFirst_0 ?_)
  rw [e0]
  simp (disch := first | assumption | omega) only [true_and, and_true, forall_eq, true_implies, false_implies, implies_true, not_true_eq_false, not_false_eq_true, false_and, and_false, ne_eq, ite_true, ite_false, Nat.reduceLeDiff, Nat.reduceEqDiff, Nat.reduceLT, Nat.reduceAdd, Nat.reduceMul, Nat.reduceSub, Nat.le_refl, eq_self, li_0, li_1, li_2, li_3, li_4, li_5, li_6, li_7, li_8, li_9, li_10, li_11, li_12, li_13, li_14, li_15, li_16, li_17, li_18, li_19, li_20, li_21, li_22, li_23, li_24, li_25, li_26, li_27, li_28, li_29, li_30, li_31, li_32, li_44, li_48, li_57, li_59, li_60, li_61, li_62, li_63, li_97, li_100, li_122, li_123, li_125, li_127, li_255, li_400, li_401, li_800, li_1023, li_1024, li_10827, i_add, i_mul, i_sub, i_p1, i_m1, i_nm, i_nm2, i_cl, i_cl0, vi_ok, i_lt, i_le, i_eq, lg_e, rf_93_2, is_93, is_94, sz_94, rf_94_1, rf_94_2, rf_94_3, rf_94_4, rf_94_5, rf_94_6, is_94, is_95, sz_95, is_96, sz_96, is_97, sz_97, is_98, sz_98, is_99, sz_99, is_100, sz_100, (cp.1.2.2.1 k hk).1, (cp.1.2.2.1 k hk).2, isA_x hx]
  refine k_X0_possible hr hx wS hD.1 hD.2.1 hA.2.1 hA.2.2.2.2.1 (by omega) (fun p => ?_) (fun p => ⟨fun z => absurd rfl z, fun _ => q0 p⟩)
  refine ⟨fun _ => ?_, fun z => absurd z (by decide)⟩
  rw [e0, e1]
  have noE : (¬ ∃ c, itsR D E (B.2.2.1 k) a c) → pbE1 D E B (27 * k + a) := fun z => ⟨by rw [ej1, ej2]; exact p, by rw [ej1, ej2]; exact z⟩
  refine ⟨isA_x hx, isA_x hy, k_twin hr hx hy hD hE hA hB wU p (fun c hc => ?_) (fun hn => ?_) (fun c hc hnp hn => ?_)⟩
  · rw [e1]
    have ip := its_poss hE hc
    refine ⟨isA_x hy, k_X0_possible hr hy wU hE.1 hE.2.1 hB.2.1 hB.2.2.2.2.1 (by omega) (fun p2 => ?_) (fun p2 => absurd ip.1 p2)⟩
    refine ⟨fun _ => ?_, fun z => absurd z (by decide)⟩
    rw [e0, rf_93_2 hr]
    refine ⟨is_94, isA_x hx, k_X0_after hr hx hD hA wS ha p ?_⟩
    rw [e1]
    refine ⟨isA_x hy, k_X0_after hr hy hE hB wU ip.2 ip.1 ?_⟩
    have G : pbG D E B (27 * k + a) (stepD D (B.2.1 k) a) (stepD E (B.2.2.1 k) c) := by
      refine ⟨by rw [ej1, ej2]; exact p, by rw [ej1, ej2], c, by rw [ej1, ej2]; exact hc, by rw [ej1]⟩
    have wT := ws_stepD hD wS p
    have wV := ws_stepD hE wU ip.1
    have bT := en_lt wT
    have bV := en_lt wV
    refine k_X6_meet (L := fun i => Int64.ofNat (en (B.2.1 i))) (R := fun i => Int64.ofNat (en (B.2.2.1 i))) hr (Or.inr (Or.inr rfl)) cp.1 (fun _ => vi_ok (by omega) (by omega)) (fun i hi m1 m2 => ?_) (fun hnew hlt h1 f1 r1 m1 kp => ?_) (fun hnew hfull => ?_)
    · have z := w.2.2.1 i hi
      have b1 := en_lt z.1
      have b2 := en_lt z.2.1
      have m1 := (l_eq (by omega) (by omega)).1 m1
      have m2 := (l_eq (by omega) (by omega)).1 m2
      refine ⟨fun _ => ?_, fun z => absurd z (i_ne (by omega))⟩
      (try simp (disch := first | assumption | omega) only [true_and, and_true, forall_eq, true_implies, false_implies, implies_true, not_true_eq_false, not_false_eq_true, false_and, and_false, ne_eq, ite_true, ite_false, Nat.reduceLeDiff, Nat.reduceEqDiff, Nat.reduceLT, Nat.reduceAdd, Nat.reduceMul, Nat.reduceSub, Nat.le_refl, eq_self, li_0, li_1, li_2, li_3, li_4, li_5, li_6, li_7, li_8, li_9, li_10, li_11, li_12, li_13, li_14, li_15, li_16, li_17, li_18, li_19, li_20, li_21, li_22, li_23, li_24, li_25, li_26, li_27, li_28, li_29, li_30, li_31, li_32, li_44, li_48, li_57, li_59, li_60, li_61, li_62, li_63, li_97, li_100, li_122, li_123, li_125, li_127, li_255, li_400, li_401, li_800, li_1023, li_1024, li_10827, i_add, i_mul, i_sub, i_p1, i_m1, i_nm, i_nm2, i_cl, i_cl0, vi_ok, i_lt, i_le, i_eq, lg_e])
      exact q2 _ _ G (fun z => z i hi ⟨m1, m2⟩)
    · refine ⟨fun _ => ?_, fun z => absurd z (i_ne (by omega))⟩
      (try simp (disch := first | assumption | omega) only [true_and, and_true, forall_eq, true_implies, false_implies, implies_true, not_true_eq_false, not_false_eq_true, false_and, and_false, ne_eq, ite_true, ite_false, Nat.reduceLeDiff, Nat.reduceEqDiff, Nat.reduceLT, Nat.reduceAdd, Nat.reduceMul, Nat.reduceSub, Nat.le_refl, eq_self, li_0, li_1, li_2, li_3, li_4, li_5, li_6, li_7, li_8, li_9, li_10, li_11, li_12, li_13, li_14, li_15, li_16, li_17, li_18, li_19, li_20, li_21, li_22, li_23, li_24, li_25, li_26, li_27, li_28, li_29, li_30, li_31, li_32, li_44, li_48, li_57, li_59, li_60, li_61, li_62, li_63, li_97, li_100, li_122, li_123, li_125, li_127, li_255, li_400, li_401, li_800, li_1023, li_1024, li_10827, i_add, i_mul, i_sub, i_p1, i_m1, i_nm, i_nm2, i_cl, i_cl0, vi_ok, i_lt, i_le, i_eq, lg_e])
      refine q3 _ _ h1 G (fun i hi e => hnew i hi ⟨by rw [e.1], by rw [e.2]⟩) hlt ⟨r1, hf.trans (f1.mono (fun c p q => Or.inl (by unfold PM at q; omega))), ?_, ?_⟩ (CP_add hk ha cp w.1 m1 (by omega) kp) (fun p => (f1 93 p (fun q => by unfold PM at q; omega)).1)
      · rw [(f1 93 0 (fun q => by unfold PM at q; omega)).2.2]; exact e0
      · rw [(f1 93 1 (fun q => by unfold PM at q; omega)).2.2]; exact e1
    · refine ⟨fun z => absurd rfl z, fun _ => ?_⟩
      (try simp (disch := first | assumption | omega) only [true_and, and_true, forall_eq, true_implies, false_implies, implies_true, not_true_eq_false, not_false_eq_true, false_and, and_false, ne_eq, ite_true, ite_false, Nat.reduceLeDiff, Nat.reduceEqDiff, Nat.reduceLT, Nat.reduceAdd, Nat.reduceMul, Nat.reduceSub, Nat.le_refl, eq_self, li_0, li_1, li_2, li_3, li_4, li_5, li_6, li_7, li_8, li_9, li_10, li_11, li_12, li_13, li_14, li_15, li_16, li_17, li_18, li_19, li_20, li_21, li_22, li_23, li_24, li_25, li_26, li_27, li_28, li_29, li_30, li_31, li_32, li_44, li_48, li_57, li_59, li_60, li_61, li_62, li_63, li_97, li_100, li_122, li_123, li_125, li_127, li_255, li_400, li_401, li_800, li_1023, li_1024, li_10827, i_add, i_mul, i_sub, i_p1, i_m1, i_nm, i_nm2, i_cl, i_cl0, vi_ok, i_lt, i_le, i_eq, lg_e])
      exact q4 ⟨_, _, G, fun i hi e => hnew i hi ⟨by rw [e.1], by rw [e.2]⟩, hfull⟩
  · rw [e1]
    refine ⟨isA_x hy, k_poss_neg hr hy wU hE hB ⟨fun z => absurd rfl z, fun _ => ?_⟩⟩
    (try simp (disch := first | assumption | omega) only [true_and, and_true, forall_eq, true_implies, false_implies, implies_true, not_true_eq_false, not_false_eq_true, false_and, and_false, ne_eq, ite_true, ite_false, Nat.reduceLeDiff, Nat.reduceEqDiff, Nat.reduceLT, Nat.reduceAdd, Nat.reduceMul, Nat.reduceSub, Nat.le_refl, eq_self, li_0, li_1, li_2, li_3, li_4, li_5, li_6, li_7, li_8, li_9, li_10, li_11, li_12, li_13, li_14, li_15, li_16, li_17, li_18, li_19, li_20, li_21, li_22, li_23, li_24, li_25, li_26, li_27, li_28, li_29, li_30, li_31, li_32, li_44, li_48, li_57, li_59, li_60, li_61, li_62, li_63, li_97, li_100, li_122, li_123, li_125, li_127, li_255, li_400, li_401, li_800, li_1023, li_1024, li_10827, i_add, i_mul, i_sub, i_p1, i_m1, i_nm, i_nm2, i_cl, i_cl0, vi_ok, i_lt, i_le, i_eq, lg_e])
    exact q1 (noE hn)
  · rw [e1]
    refine ⟨isA_x hy, k_X0_possible hr hy wU hE.1 hE.2.1 hB.2.1 hB.2.2.2.2.1 (by omega) (fun p2 => absurd p2 hnp) (fun p2 => ?_)⟩
    refine ⟨fun z => absurd rfl z, fun _ => ?_⟩
    (try simp (disch := first | assumption | omega) only [true_and, and_true, forall_eq, true_implies, false_implies, implies_true, not_true_eq_false, not_false_eq_true, false_and, and_false, ne_eq, ite_true, ite_false, Nat.reduceLeDiff, Nat.reduceEqDiff, Nat.reduceLT, Nat.reduceAdd, Nat.reduceMul, Nat.reduceSub, Nat.le_refl, eq_self, li_0, li_1, li_2, li_3, li_4, li_5, li_6, li_7, li_8, li_9, li_10, li_11, li_12, li_13, li_14, li_15, li_16, li_17, li_18, li_19, li_20, li_21, li_22, li_23, li_24, li_25, li_26, li_27, li_28, li_29, li_30, li_31, li_32, li_44, li_48, li_57, li_59, li_60, li_61, li_62, li_63, li_97, li_100, li_122, li_123, li_125, li_127, li_255, li_400, li_401, li_800, li_1023, li_1024, li_10827, i_add, i_mul, i_sub, i_p1, i_m1, i_nm, i_nm2, i_cl, i_cl0, vi_ok, i_lt, i_le, i_eq, lg_e])
    exact q1 (noE hn)
theorem k_lookAt_no {l : Launch} {g : AG} {h : AH} {n k : Nat} {Q : AH → Prop} (hr : Refs h) (e : h.1 94 0 = Int32.ofNat n) (hn : n ≤ 400) (hk : n ≤ k) (hk2 : k ≤ 400) (hq : Q h) : C_X2_lookAt l g h 93 (Int32.ofNat k) Q := by
  refine c_X2_lookAt (s_X2_lookAt_0 ?_)
  simp (disch := first | assumption | omega) only [true_and, and_true, forall_eq, true_implies, false_implies, implies_true, not_true_eq_false, not_false_eq_true, false_and, and_false, ne_eq, ite_true, ite_false, Nat.reduceLeDiff, Nat.reduceEqDiff, Nat.reduceLT, Nat.reduceAdd, Nat.reduceMul, Nat.reduceSub, Nat.le_refl, eq_self, li_0, li_1, li_2, li_3, li_4, li_5, li_6, li_7, li_8, li_9, li_10, li_11, li_12, li_13, li_14, li_15, li_16, li_17, li_18, li_19, li_20, li_21, li_22, li_23, li_24, li_25, li_26, li_27, li_28, li_29, li_30, li_31, li_32, li_44, li_48, li_57, li_59, li_60, li_61, li_62, li_63, li_97, li_100, li_122, li_123, li_125, li_127, li_255, li_400, li_401, li_800, li_1023, li_1024, li_10827, i_add, i_mul, i_sub, i_p1, i_m1, i_nm, i_nm2, i_cl, i_cl0, vi_ok, i_lt, i_le, i_eq, lg_e, rf_93_2, is_93, is_94, sz_94, e, hk]
  exact hq
theorem k_lookAt {l : Launch} {g : AG} {h0 h : AH} {x y k : Nat} {D E : AD} {B : PT3} {Q : AH → Prop} (hx : isA x) (hy : isA y) (hD : WfD D) (hE : WfD E) (hA0 : RepA h0 x D) (hB0 : RepA h0 y E) (b : BS h0 h x y) (cp : CP h B) (h400 : B.1 ≤ 400) (hk : k < B.1) (ws : WS (D 0 0) (B.2.1 k)) (wu : WS (E 0 0) (B.2.2.1 k)) (q0 : AL D E (B.2.1 k) (B.2.2.1 k) → Q h) (q1 : ¬ AL D E (B.2.1 k) (B.2.2.1 k) → Q (ax_setI h 93 4 (Int32.ofNat k))) : C_X2_lookAt l g h 93 (Int32.ofNat k) Q := by
  obtain ⟨hA, hB⟩ := bs_read hx hy hA0 hB0 b
  obtain ⟨hr, hf, e0, e1⟩ := b
  refine c_X2_lookAt (s_X2_lookAt_0 ?_)
  simp (disch := first | assumption | omega) only [true_and, and_true, forall_eq, true_implies, false_implies, implies_true, not_true_eq_false, not_false_eq_true, false_and, and_false, ne_eq, ite_true, ite_false, Nat.reduceLeDiff, Nat.reduceEqDiff, Nat.reduceLT, Nat.reduceAdd, Nat.reduceMul, Nat.reduceSub, Nat.le_refl, eq_self, li_0, li_1, li_2, li_3, li_4, li_5, li_6, li_7, li_8, li_9, li_10, li_11, li_12, li_13, li_14, li_15, li_16, li_17, li_18, li_19, li_20, li_21, li_22, li_23, li_24, li_25, li_26, li_27, li_28, li_29, li_30, li_31, li_32, li_44, li_48, li_57, li_59, li_60, li_61, li_62, li_63, li_97, li_100, li_122, li_123, li_125, li_127, li_255, li_400, li_401, li_800, li_1023, li_1024, li_10827, i_add, i_mul, i_sub, i_p1, i_m1, i_nm, i_nm2, i_cl, i_cl0, vi_ok, i_lt, i_le, i_eq, lg_e, rf_93_2, is_93, is_94, sz_94, rf_94_1, rf_94_2, rf_94_3, rf_94_4, rf_94_5, rf_94_6, is_94, is_95, sz_95, is_96, sz_96, is_97, sz_97, is_98, sz_98, is_99, sz_99, is_100, sz_100, cp.1.1, (cp.1.2.2.1 k hk).1, (cp.1.2.2.1 k hk).2, show ¬ B.1 ≤ k by omega]
  refine k_showUnlike hr hx hy e0 e1 hD hE hA hB ws wu (fun al => ?_) (fun al => ?_)
  · exact ⟨fun _ => q0 al, fun z => absurd rfl z⟩
  · refine ⟨fun z => absurd z (by decide), fun _ => ?_⟩
    (try simp (disch := first | assumption | omega) only [true_and, and_true, forall_eq, true_implies, false_implies, implies_true, not_true_eq_false, not_false_eq_true, false_and, and_false, ne_eq, ite_true, ite_false, Nat.reduceLeDiff, Nat.reduceEqDiff, Nat.reduceLT, Nat.reduceAdd, Nat.reduceMul, Nat.reduceSub, Nat.le_refl, eq_self, li_0, li_1, li_2, li_3, li_4, li_5, li_6, li_7, li_8, li_9, li_10, li_11, li_12, li_13, li_14, li_15, li_16, li_17, li_18, li_19, li_20, li_21, li_22, li_23, li_24, li_25, li_26, li_27, li_28, li_29, li_30, li_31, li_32, li_44, li_48, li_57, li_59, li_60, li_61, li_62, li_63, li_97, li_100, li_122, li_123, li_125, li_127, li_255, li_400, li_401, li_800, li_1023, li_1024, li_10827, i_add, i_mul, i_sub, i_p1, i_m1, i_nm, i_nm2, i_cl, i_cl0, vi_ok, i_lt, i_le, i_eq, lg_e])
    exact q1 al
theorem k_findAlone {l : Launch} {g : AG} {h0 h : AH} {x y k : Nat} {D E : AD} {S U : AS} {K : AH → Prop} (hx : isA x) (hy : isA y) (hD : WfD D) (hE : WfD E) (hA0 : RepA h0 x D) (hB0 : RepA h0 y E) (b : BS h0 h x y) (hk : k < 400) (eS : h.2.1 95 k = Int64.ofNat (en S)) (eU : h.2.1 96 k = Int64.ofNat (en U)) (wS : WS (D 0 0) S) (wU : WS (E 0 0) U) (q0 : (¬ (possD E U 25 ∧ ¬ possD D S 25) ∨ ¬ h.1 93 3 = 0 ∨ ¬ h.1 93 4 = -1) → K h) (q1 : possD E U 25 → ¬ possD D S 25 → h.1 93 3 = 0 → h.1 93 4 = -1 → K (ax_setI (ax_setI h 93 4 (Int32.ofNat k)) 93 5 (Int32.ofNat 125))) : C_X2_findAloneInSecond l g h 93 (Int32.ofNat k) K := by
  obtain ⟨hA, hB⟩ := bs_read hx hy hA0 hB0 b
  have hr := b.1
  have e0 := b.2.2.1
  have e1 := b.2.2.2
  have f0 : ¬ (possD E U 25 ∧ ¬ possD D S 25) → L_X2_findAloneInSecond_46 l g h 93 (Int32.ofNat k) K := fun z => s_X2_findAloneInSecond_46 (s_X2_findAloneInSecond_47 ⟨fun _ => q0 (Or.inl z), fun y => absurd rfl y⟩)
  refine c_X2_findAloneInSecond (s_X2_findAloneInSecond_0 ?_)
  rw [e1]
  simp (disch := first | assumption | omega) only [true_and, and_true, forall_eq, true_implies, false_implies, implies_true, not_true_eq_false, not_false_eq_true, false_and, and_false, ne_eq, ite_true, ite_false, Nat.reduceLeDiff, Nat.reduceEqDiff, Nat.reduceLT, Nat.reduceAdd, Nat.reduceMul, Nat.reduceSub, Nat.le_refl, eq_self, li_0, li_1, li_2, li_3, li_4, li_5, li_6, li_7, li_8, li_9, li_10, li_11, li_12, li_13, li_14, li_15, li_16, li_17, li_18, li_19, li_20, li_21, li_22, li_23, li_24, li_25, li_26, li_27, li_28, li_29, li_30, li_31, li_32, li_44, li_48, li_57, li_59, li_60, li_61, li_62, li_63, li_97, li_100, li_122, li_123, li_125, li_127, li_255, li_400, li_401, li_800, li_1023, li_1024, li_10827, i_add, i_mul, i_sub, i_p1, i_m1, i_nm, i_nm2, i_cl, i_cl0, vi_ok, i_lt, i_le, i_eq, lg_e, rf_93_2, is_93, is_94, sz_94, rf_94_1, rf_94_2, rf_94_3, rf_94_4, rf_94_5, rf_94_6, is_94, is_95, sz_95, is_96, sz_96, is_97, sz_97, is_98, sz_98, is_99, sz_99, is_100, sz_100, eU, isA_x hy]
  refine k_X0_possible (a := 25) hr hy wU hE.1 hE.2.1 hB.2.1 hB.2.2.2.2.1 (by omega) (fun p => ?_) (fun p => ⟨fun _ => f0 (fun z => p z.1), fun z => absurd rfl z⟩)
  refine ⟨fun z => absurd z (by decide), fun _ => ?_⟩
  rw [e0]
  (try simp (disch := first | assumption | omega) only [true_and, and_true, forall_eq, true_implies, false_implies, implies_true, not_true_eq_false, not_false_eq_true, false_and, and_false, ne_eq, ite_true, ite_false, Nat.reduceLeDiff, Nat.reduceEqDiff, Nat.reduceLT, Nat.reduceAdd, Nat.reduceMul, Nat.reduceSub, Nat.le_refl, eq_self, li_0, li_1, li_2, li_3, li_4, li_5, li_6, li_7, li_8, li_9, li_10, li_11, li_12, li_13, li_14, li_15, li_16, li_17, li_18, li_19, li_20, li_21, li_22, li_23, li_24, li_25, li_26, li_27, li_28, li_29, li_30, li_31, li_32, li_44, li_48, li_57, li_59, li_60, li_61, li_62, li_63, li_97, li_100, li_122, li_123, li_125, li_127, li_255, li_400, li_401, li_800, li_1023, li_1024, li_10827, i_add, i_mul, i_sub, i_p1, i_m1, i_nm, i_nm2, i_cl, i_cl0, vi_ok, i_lt, i_le, i_eq, lg_e, rf_93_2, is_93, is_94, sz_94, rf_94_1, rf_94_2, rf_94_3, rf_94_4, rf_94_5, rf_94_6, is_94, is_95, sz_95, is_96, sz_96, is_97, sz_97, is_98, sz_98, is_99, sz_99, is_100, sz_100, eS, isA_x hx])
  refine k_X0_possible (a := 25) hr hx wS hD.1 hD.2.1 hA.2.1 hA.2.2.2.2.1 (by omega) (fun p2 => ⟨fun _ => f0 (fun z => z.2 p2), fun z => absurd z (by decide)⟩) (fun p2 => ⟨fun z => absurd rfl z, fun _ => ?_⟩)
  refine s_X2_findAloneInSecond_47 ⟨fun z => absurd z (by decide), fun _ => ⟨is_93, k_ended (fun y3 y4 => ⟨fun z => absurd rfl z, fun _ => ?_⟩) (fun z => ⟨fun _ => q0 (Or.inr z), fun y => absurd y (by decide)⟩)⟩⟩
  (try simp (disch := first | assumption | omega) only [true_and, and_true, forall_eq, true_implies, false_implies, implies_true, not_true_eq_false, not_false_eq_true, false_and, and_false, ne_eq, ite_true, ite_false, Nat.reduceLeDiff, Nat.reduceEqDiff, Nat.reduceLT, Nat.reduceAdd, Nat.reduceMul, Nat.reduceSub, Nat.le_refl, eq_self, li_0, li_1, li_2, li_3, li_4, li_5, li_6, li_7, li_8, li_9, li_10, li_11, li_12, li_13, li_14, li_15, li_16, li_17, li_18, li_19, li_20, li_21, li_22, li_23, li_24, li_25, li_26, li_27, li_28, li_29, li_30, li_31, li_32, li_44, li_48, li_57, li_59, li_60, li_61, li_62, li_63, li_97, li_100, li_122, li_123, li_125, li_127, li_255, li_400, li_401, li_800, li_1023, li_1024, li_10827, i_add, i_mul, i_sub, i_p1, i_m1, i_nm, i_nm2, i_cl, i_cl0, vi_ok, i_lt, i_le, i_eq, lg_e])
  exact q1 p p2 y3 y4
/-- what the class knows at the end -/
def PEnd (h : AH) (D E : AD) (e J : Nat) : Prop := pbEnd D E e J ∧ (e = 0 → h.1 93 3 = 0 ∧ h.1 93 4 = -1 ∧ h.1 94 0 = Int32.ofNat (pbN D E J).1) ∧ (e = 1 → h.1 93 3 = 0 ∧ h.1 93 4 = Int32.ofNat (J / 27) ∧ h.1 93 5 = Int32.ofNat (J % 27) ∧ CP h (pbN D E J)) ∧ (e = 2 → ¬ h.1 93 3 = 0 ∧ h.1 94 0 = Int32.ofNat 400) ∧ (e = 3 → h.1 93 3 = 0 ∧ h.1 93 4 = Int32.ofNat (pbN D E J).1 ∧ h.1 93 5 = -1 ∧ CP h (pbN D E (J + 1))) ∧ (e = 4 → h.1 93 3 = 0 ∧ h.1 93 4 = Int32.ofNat (J / 27 - 1) ∧ h.1 93 5 = Int32.ofNat 125 ∧ CP h (pbN D E J)) ∧ (e = 5 → h.1 93 3 = 0 ∧ h.1 93 4 = Int32.ofNat 0 ∧ h.1 93 5 = -1 ∧ CP h pb0)
theorem k_goThrough {l : Launch} {g : AG} {h0 : AH} {x y : Nat} {D E : AD} {Q : AH → Prop} (hr0 : Refs h0) (hx : isA x) (hy : isA y) (hD : WfD D) (hE : WfD E) (hA0 : RepA h0 x D) (hB0 : RepA h0 y E) (hq : ∀ h' e J, BS h0 h' x y → PEnd h' D E e J → Q h') : C_X2_goThrough l g h0 93 x y Q := by
  -- an ended way is left at once
  have out57 : ∀ h e J n k, BS h0 h x y → PEnd h D E e J → h.1 94 0 = Int32.ofNat n → n ≤ 400 → k ≤ 400 → (¬ h.1 93 3 = 0 ∨ ¬ h.1 93 4 = -1) → L_X2_goThrough_57 l g h 93 (Int32.ofNat k) Q := by
    intro h e J n k b pe e94 hn hk hend
    refine s_X2_goThrough_57 ?_
    rw [rf_93_2 b.1, e94]
    refine ⟨is_93, is_94, fun _ => hq h e J b pe, fun _ => ⟨fun _ => hq h e J b pe, fun _ => k_ended (fun z1 z2 => ?_) (fun _ => ⟨fun _ => hq h e J b pe, fun z => absurd z (by decide)⟩)⟩⟩
    rcases hend with z | z
    · exact absurd z1 z
    · exact absurd z2 z
  have outAlone : ∀ h e J n k, BS h0 h x y → PEnd h D E e J → h.1 94 0 = Int32.ofNat n → n ≤ 400 → k < n → (∃ S U, h.2.1 95 k = Int64.ofNat (en S) ∧ h.2.1 96 k = Int64.ofNat (en U) ∧ WS (D 0 0) S ∧ WS (E 0 0) U) → (¬ h.1 93 3 = 0 ∨ ¬ h.1 93 4 = -1) → C_X2_findAloneInSecond l g h 93 (Int32.ofNat k) (fun h40 => ∀ v41 : Int32, v41 = Int32.ofNat k + 1 → L_X2_goThrough_57 l g h40 93 v41 Q) := by
    intro h e J n k b pe e94 hn hk ⟨S, U, eS, eU, wS, wU⟩ hend
    have nx : ∀ v41 : Int32, v41 = Int32.ofNat k + 1 → L_X2_goThrough_57 l g h 93 v41 Q := by
      intro v41 e41
      rw [e41, i_p1]
      exact out57 h e J n (k + 1) b pe e94 hn (by omega) hend
    refine k_findAlone hx hy hD hE hA0 hB0 b (by omega) eS eU wS wU (fun _ => nx) (fun p1 p2 z3 z4 => ?_)
    rcases hend with z | z
    · exact absurd z3 z
    · exact absurd z4 z
  have out85 : ∀ h e J n k a, BS h0 h x y → PEnd h D E e J → h.1 94 0 = Int32.ofNat n → n ≤ 400 → k < n → (∃ S U, h.2.1 95 k = Int64.ofNat (en S) ∧ h.2.1 96 k = Int64.ofNat (en U) ∧ WS (D 0 0) S ∧ WS (E 0 0) U) → (¬ h.1 93 3 = 0 ∨ ¬ h.1 93 4 = -1) → L_X2_goThrough_85 l g h 93 (Int32.ofNat k) (Int32.ofNat a) Q := by
    intro h e J n k a b pe e94 hn hk ex hend
    refine s_X2_goThrough_85 ⟨fun _ => ⟨is_93, outAlone h e J n k b pe e94 hn hk ex hend⟩, fun _ => ⟨is_93, k_ended (fun z1 z2 => ?_) (fun _ => ⟨fun _ => outAlone h e J n k b pe e94 hn hk ex hend, fun z => absurd z (by decide)⟩)⟩⟩
    rcases hend with z | z
    · exact absurd z1 z
    · exact absurd z2 z
  have outer : ∀ d k, k + d = 401 → ∀ h, BS h0 h x y → CP h (pbN D E (27 * k)) → pbOK D E (27 * k) → (∀ u, 27 * (u + 1) = 27 * k → ¬ pbE4 D E (pbN D E (27 * k)) u) → h.1 93 3 = 0 → h.1 93 4 = -1 → h.1 93 5 = -1 → (∀ u, u + 1 = k → u < (pbN D E (27 * u)).1) → L_X2_goThrough_57 l g h 93 (Int32.ofNat k) Q := by
    intro d
    induction d with
    | zero =>
      intro k hk h b cp ok no4 v3 v4 v5 prev
      have w := pbW_all hD hE _ ok
      have z1 := prev 400 (by omega)
      have z2 := pbN_mono D E (show 27 * 400 ≤ 27 * k by omega)
      have := w.2.1
      omega
    | succ d ih =>
      intro k hk h b cp ok no4 v3 v4 v5 prev
      have w := pbW_all hD hE _ ok
      have h400 := w.2.1
      refine s_X2_goThrough_57 ?_
      rw [rf_93_2 b.1, cp.1.1]
      refine ⟨is_93, is_94, fun c => ?_, fun c => ⟨fun c2 => absurd ((i_le (a := 400) (by omega) (by omega)).1 c2) (fun z => c ((i_le (by omega) (by omega)).2 (by omega))), fun _ => k_ended (fun _ _ => ⟨fun z => absurd rfl z, fun _ => ?_⟩) (fun z => ?_)⟩⟩
      · have c := (i_le (by omega) (by omega)).1 c
        have es : (pbN D E (27 * k)).1 = k := by
          rcases Nat.eq_zero_or_pos k with z | z
          · have := w.1; omega
          · have z1 := prev (k - 1) (by omega)
            have z2 := pbN_mono D E (show 27 * (k - 1) ≤ 27 * k by omega)
            omega
        refine hq h 0 (27 * k) b ⟨Or.inl ⟨rfl, ok, by rw [es], no4⟩, fun _ => ⟨v3, v4, cp.1.1⟩, fun z => absurd z (by decide), fun z => absurd z (by decide), fun z => absurd z (by decide), fun z => absurd z (by decide), fun z => absurd z (by decide)⟩
      · have hkn : k < (pbN D E (27 * k)).1 := by
          rcases Nat.lt_or_ge k (pbN D E (27 * k)).1 with z | z
          · exact z
          · exact absurd ((i_le (by omega) (by omega)).2 z) c
        have inner : ∀ d2 a, a + d2 = 27 → ∀ h, BS h0 h x y → CP h (pbN D E (27 * k + a)) → pbOK D E (27 * k + a) → (∀ u, 27 * (u + 1) = 27 * k + a → a ≠ 27 → ¬ pbE4 D E (pbN D E (27 * k + a)) u) → h.1 93 3 = 0 → h.1 93 4 = -1 → h.1 93 5 = -1 → L_X2_goThrough_85 l g h 93 (Int32.ofNat k) (Int32.ofNat a) Q := by
          intro d2
          induction d2 with
          | zero =>
            intro a ha h b cp ok no4 v3 v4 v5
            have : a = 27 := by omega
            subst this
            have e27 : 27 * k + 27 = 27 * (k + 1) := by omega
            rw [e27] at cp ok
            have w2 := pbW_all hD hE _ ok
            have mono := pbN_mono D E (show 27 * k ≤ 27 * (k + 1) by omega)
            have hk2 : k < (pbN D E (27 * (k + 1))).1 := by omega
            have h4 := w2.2.1
            obtain ⟨wS, wU, al⟩ := w2.2.2.1 k hk2
            have cont : ¬ pbE4 D E (pbN D E (27 * (k + 1))) k → ∀ v41 : Int32, v41 = Int32.ofNat k + 1 → L_X2_goThrough_57 l g h 93 v41 Q := by
              intro z v41 e41
              rw [e41, i_p1]
              refine ih (k + 1) (by omega) h b cp ok (fun u hu => ?_) v3 v4 v5 (fun u hu => ?_)
              · rw [show u = k by omega]; exact z
              · rw [show u = k by omega]; exact hkn
            refine s_X2_goThrough_85 ⟨fun _ => ⟨is_93, k_findAlone hx hy hD hE hA0 hB0 b (by omega) (cp.1.2.2.1 k hk2).1 (cp.1.2.2.1 k hk2).2 wS wU (fun z => ?_) (fun p p2 _ _ => ?_)⟩, fun z => absurd (by decide) z⟩
            · refine cont ?_
              rcases z with z | z | z
              · exact z
              · exact absurd v3 z
              · exact absurd v4 z
            · intro v41 e41
              have b26 : BS h0 (ax_setI (ax_setI h 93 4 (Int32.ofNat k)) 93 5 (Int32.ofNat 125)) x y := (b.setI (Or.inr (Or.inl rfl))).setI (Or.inr (Or.inr rfl))
              have fz : Fr (fun c _ => c = 93) h (ax_setI (ax_setI h 93 4 (Int32.ofNat k)) 93 5 (Int32.ofNat 125)) := ((Fr.refl (fun c _ => c = 93) h).setI rfl).setI rfl
              have g4 : (ax_setI (ax_setI h 93 4 (Int32.ofNat k)) 93 5 (Int32.ofNat 125)).1 93 4 = Int32.ofNat k := by simp (disch := first | assumption | omega) only [true_and, and_true, forall_eq, true_implies, false_implies, implies_true, not_true_eq_false, not_false_eq_true, false_and, and_false, ne_eq, ite_true, ite_false, Nat.reduceLeDiff, Nat.reduceEqDiff, Nat.reduceLT, Nat.reduceAdd, Nat.reduceMul, Nat.reduceSub, Nat.le_refl, eq_self, li_0, li_1, li_2, li_3, li_4, li_5, li_6, li_7, li_8, li_9, li_10, li_11, li_12, li_13, li_14, li_15, li_16, li_17, li_18, li_19, li_20, li_21, li_22, li_23, li_24, li_25, li_26, li_27, li_28, li_29, li_30, li_31, li_32, li_44, li_48, li_57, li_59, li_60, li_61, li_62, li_63, li_97, li_100, li_122, li_123, li_125, li_127, li_255, li_400, li_401, li_800, li_1023, li_1024, li_10827, i_add, i_mul, i_sub, i_p1, i_m1, i_nm, i_nm2, i_cl, i_cl0, vi_ok, i_lt, i_le, i_eq, lg_e, gI_s, gI_c, gI_p, gI_L, gI_R, gL_s, gL_c, gL_p, gL_I, gL_R, gR_s, gR_c, gR_p, gR_I, gR_L]
              rw [e41, i_p1]
              refine out57 _ 4 (27 * (k + 1)) (pbN D E (27 * (k + 1))).1 (k + 1) b26 ⟨Or.inr (Or.inr (Or.inr (Or.inr (Or.inl ⟨rfl, ok, k, rfl, p, p2⟩)))), fun z => absurd z (by decide), fun z => absurd z (by decide), fun z => absurd z (by decide), fun z => absurd z (by decide), fun _ => ⟨?_, ?_, ?_, cp.fr fz (fun c p q => by omega)⟩, fun z => absurd z (by decide)⟩ ?_ h4 (by omega) (Or.inr (by rw [g4]; exact i_ne (by omega)))
              · simp (disch := first | assumption | omega) only [true_and, and_true, forall_eq, true_implies, false_implies, implies_true, not_true_eq_false, not_false_eq_true, false_and, and_false, ne_eq, ite_true, ite_false, Nat.reduceLeDiff, Nat.reduceEqDiff, Nat.reduceLT, Nat.reduceAdd, Nat.reduceMul, Nat.reduceSub, Nat.le_refl, eq_self, li_0, li_1, li_2, li_3, li_4, li_5, li_6, li_7, li_8, li_9, li_10, li_11, li_12, li_13, li_14, li_15, li_16, li_17, li_18, li_19, li_20, li_21, li_22, li_23, li_24, li_25, li_26, li_27, li_28, li_29, li_30, li_31, li_32, li_44, li_48, li_57, li_59, li_60, li_61, li_62, li_63, li_97, li_100, li_122, li_123, li_125, li_127, li_255, li_400, li_401, li_800, li_1023, li_1024, li_10827, i_add, i_mul, i_sub, i_p1, i_m1, i_nm, i_nm2, i_cl, i_cl0, vi_ok, i_lt, i_le, i_eq, lg_e, gI_s, gI_c, gI_p, gI_L, gI_R, gL_s, gL_c, gL_p, gL_I, gL_R, gR_s, gR_c, gR_p, gR_I, gR_L]; exact v3
              · rw [g4, show 27 * (k + 1) / 27 - 1 = k by omega]
              · rw [gI_s]
              · rw [(fz 94 0 (by omega)).1]; exact cp.1.1
          | succ d2 ih2 =>
            intro a ha h b cp ok no4 v3 v4 v5
            have ej1 : (27 * k + a) / 27 = k := by omega
            have ej2 : (27 * k + a) % 27 = a := by omega
            have wj := pbW_all hD hE _ ok
            have mono := pbN_mono D E (show 27 * k ≤ 27 * k + a by omega)
            have hkj : k < (pbN D E (27 * k + a)).1 := by omega
            have hj4 := wj.2.1
            have hr := b.1
            have no4' : ∀ u, 27 * (u + 1) = 27 * k + a → ¬ pbE4 D E (pbN D E (27 * k + a)) u := fun u hu => no4 u hu (by omega)
            have eN : pbN D E (27 * k + a + 1) = pb1 D E (pbN D E (27 * k + a)) (27 * k + a) := rfl
            have exk : ∀ h' : AH, h'.2.1 95 k = h.2.1 95 k → h'.2.1 96 k = h.2.1 96 k → ∃ S U, h'.2.1 95 k = Int64.ofNat (en S) ∧ h'.2.1 96 k = Int64.ofNat (en U) ∧ WS (D 0 0) S ∧ WS (E 0 0) U := fun h' z1 z2 => ⟨(pbN D E (27 * k + a)).2.1 k, (pbN D E (27 * k + a)).2.2.1 k, by rw [z1]; exact (cp.1.2.2.1 k hkj).1, by rw [z2]; exact (cp.1.2.2.1 k hkj).2, (wj.2.2.1 k hkj).1, (wj.2.2.1 k hkj).2.1⟩
            have next : ∀ h', BS h0 h' x y → CP h' (pbN D E (27 * k + a + 1)) → ¬ pbE1 D E (pbN D E (27 * k + a)) (27 * k + a) → ¬ pbE2 D E (pbN D E (27 * k + a)) (27 * k + a) → ¬ pbE3 D E (pbN D E (27 * k + a)) (27 * k + a) → h'.1 93 3 = 0 → h'.1 93 4 = -1 → h'.1 93 5 = -1 → L_X2_goThrough_85 l g h' 93 (Int32.ofNat k) (Int32.ofNat (a + 1)) Q := by
              intro h' b' cp' n1 n2 n3 w3 w4 w5
              refine ih2 (a + 1) (by omega) h' b' cp' ⟨ok.1, fun i hi => ?_, fun u hu => ?_⟩ (fun u hu hne => ?_) w3 w4 w5
              · by_cases c : i = 27 * k + a
                · rw [c, ej1]; exact ⟨hkj, n1, n2, n3⟩
                · exact ok.2.1 i (by omega)
              · by_cases c : 27 * (u + 1) < 27 * k + a
                · exact ok.2.2 u c
                · have : 27 * (u + 1) = 27 * k + a := by omega
                  rw [this]; exact no4' u this
              · omega
            refine s_X2_goThrough_85 ⟨fun z => absurd ((i_le (a := 27) (by omega) (by omega)).1 z) (by omega), fun _ => ⟨is_93, k_ended (fun _ _ => ⟨fun z => absurd rfl z, fun _ => ?_⟩) (fun z => ?_)⟩⟩
            · rw [rf_93_2 hr, cp.1.1]
              refine ⟨is_94, ?_⟩
              intro v53 e53
              rw [e53, i_p1]
              refine k_goByFirst hx hy hD hE hA0 hB0 b cp wj hkj (by omega) v3 (fun np => ?_) (fun e1 => ?_) (fun T V G nn => ?_) (fun T V h1 G nn h4 b1 cp1 o1 => ?_) (fun e2 => ?_)
              · refine k_lookAt_no hr cp.1.1 hj4 (Nat.le_refl _) hj4 ?_
                intro v59 e59
                rw [e59]
                have np' : ¬ possD D ((pbN D E (27 * k + a)).2.1 ((27 * k + a) / 27)) ((27 * k + a) % 27) := by rw [ej1, ej2]; exact np
                have same : pbN D E (27 * k + a + 1) = pbN D E (27 * k + a) := by rw [eN]; exact pb1_same (fun ⟨T, V, G, _⟩ => np' G.1)
                exact next h b (by rw [same]; exact cp) (fun z => np' z.1) (fun ⟨T, V, G, _⟩ => np' G.1) (fun ⟨T, V, G, _⟩ => np' G.1) v3 v4 v5
              · have b' : BS h0 (ax_setI (ax_setI h 93 4 (Int32.ofNat k)) 93 5 (Int32.ofNat a)) x y := (b.setI (Or.inr (Or.inl rfl))).setI (Or.inr (Or.inr rfl))
                have fz : Fr (fun c _ => c = 93) h (ax_setI (ax_setI h 93 4 (Int32.ofNat k)) 93 5 (Int32.ofNat a)) := ((Fr.refl (fun c _ => c = 93) h).setI rfl).setI rfl
                have cp' := cp.fr fz (fun c p q => by omega)
                refine k_lookAt_no b'.1 cp'.1.1 hj4 (Nat.le_refl _) hj4 ?_
                intro v59 e59
                rw [e59]
                have g4 : (ax_setI (ax_setI h 93 4 (Int32.ofNat k)) 93 5 (Int32.ofNat a)).1 93 4 = Int32.ofNat k := by simp (disch := first | assumption | omega) only [true_and, and_true, forall_eq, true_implies, false_implies, implies_true, not_true_eq_false, not_false_eq_true, false_and, and_false, ne_eq, ite_true, ite_false, Nat.reduceLeDiff, Nat.reduceEqDiff, Nat.reduceLT, Nat.reduceAdd, Nat.reduceMul, Nat.reduceSub, Nat.le_refl, eq_self, li_0, li_1, li_2, li_3, li_4, li_5, li_6, li_7, li_8, li_9, li_10, li_11, li_12, li_13, li_14, li_15, li_16, li_17, li_18, li_19, li_20, li_21, li_22, li_23, li_24, li_25, li_26, li_27, li_28, li_29, li_30, li_31, li_32, li_44, li_48, li_57, li_59, li_60, li_61, li_62, li_63, li_97, li_100, li_122, li_123, li_125, li_127, li_255, li_400, li_401, li_800, li_1023, li_1024, li_10827, i_add, i_mul, i_sub, i_p1, i_m1, i_nm, i_nm2, i_cl, i_cl0, vi_ok, i_lt, i_le, i_eq, lg_e, gI_s, gI_c, gI_p, gI_L, gI_R, gL_s, gL_c, gL_p, gL_I, gL_R, gR_s, gR_c, gR_p, gR_I, gR_L]
                refine out85 _ 1 (27 * k + a) (pbN D E (27 * k + a)).1 k (a + 1) b' ⟨Or.inr (Or.inl ⟨rfl, ok, no4', by rw [ej1]; exact hkj, e1⟩), fun z => absurd z (by decide), fun _ => ⟨by simp (disch := first | assumption | omega) only [true_and, and_true, forall_eq, true_implies, false_implies, implies_true, not_true_eq_false, not_false_eq_true, false_and, and_false, ne_eq, ite_true, ite_false, Nat.reduceLeDiff, Nat.reduceEqDiff, Nat.reduceLT, Nat.reduceAdd, Nat.reduceMul, Nat.reduceSub, Nat.le_refl, eq_self, li_0, li_1, li_2, li_3, li_4, li_5, li_6, li_7, li_8, li_9, li_10, li_11, li_12, li_13, li_14, li_15, li_16, li_17, li_18, li_19, li_20, li_21, li_22, li_23, li_24, li_25, li_26, li_27, li_28, li_29, li_30, li_31, li_32, li_44, li_48, li_57, li_59, li_60, li_61, li_62, li_63, li_97, li_100, li_122, li_123, li_125, li_127, li_255, li_400, li_401, li_800, li_1023, li_1024, li_10827, i_add, i_mul, i_sub, i_p1, i_m1, i_nm, i_nm2, i_cl, i_cl0, vi_ok, i_lt, i_le, i_eq, lg_e, gI_s, gI_c, gI_p, gI_L, gI_R, gL_s, gL_c, gL_p, gL_I, gL_R, gR_s, gR_c, gR_p, gR_I, gR_L]; exact v3, by rw [g4, ej1], by rw [ej2, gI_s], cp'⟩, fun z => absurd z (by decide), fun z => absurd z (by decide), fun z => absurd z (by decide), fun z => absurd z (by decide)⟩ cp'.1.1 hj4 hkj (exk _ rfl rfl) (Or.inr (by rw [g4]; exact i_ne (by omega)))
              · have b' : BS h0 (ax_setI h 93 3 0) x y := b.setI (Or.inl rfl)
                have fz : Fr (fun c _ => c = 93) h (ax_setI h 93 3 0) := (Fr.refl (fun c _ => c = 93) h).setI rfl
                have cp' := cp.fr fz (fun c p q => by omega)
                refine k_lookAt_no b'.1 cp'.1.1 hj4 (Nat.le_refl _) hj4 ?_
                intro v59 e59
                rw [e59]
                have un : ∀ T2 V2, pbG D E (pbN D E (27 * k + a)) (27 * k + a) T2 V2 → ¬ pbNew (pbN D E (27 * k + a)) T2 V2 := fun T2 V2 G2 => by
                  have := pb_un hE G G2
                  rw [← this.1, ← this.2]; exact nn
                have same : pbN D E (27 * k + a + 1) = pbN D E (27 * k + a) := by rw [eN]; exact pb1_same (fun ⟨T2, V2, G2, n2⟩ => un T2 V2 G2 n2)
                refine next _ b' (by rw [same]; exact cp') (fun z => ?_) (fun ⟨T2, V2, G2, n2, _⟩ => un T2 V2 G2 n2) (fun ⟨T2, V2, G2, n2, _⟩ => un T2 V2 G2 n2) (by simp (disch := first | assumption | omega) only [true_and, and_true, forall_eq, true_implies, false_implies, implies_true, not_true_eq_false, not_false_eq_true, false_and, and_false, ne_eq, ite_true, ite_false, Nat.reduceLeDiff, Nat.reduceEqDiff, Nat.reduceLT, Nat.reduceAdd, Nat.reduceMul, Nat.reduceSub, Nat.le_refl, eq_self, li_0, li_1, li_2, li_3, li_4, li_5, li_6, li_7, li_8, li_9, li_10, li_11, li_12, li_13, li_14, li_15, li_16, li_17, li_18, li_19, li_20, li_21, li_22, li_23, li_24, li_25, li_26, li_27, li_28, li_29, li_30, li_31, li_32, li_44, li_48, li_57, li_59, li_60, li_61, li_62, li_63, li_97, li_100, li_122, li_123, li_125, li_127, li_255, li_400, li_401, li_800, li_1023, li_1024, li_10827, i_add, i_mul, i_sub, i_p1, i_m1, i_nm, i_nm2, i_cl, i_cl0, vi_ok, i_lt, i_le, i_eq, lg_e, gI_s, gI_c, gI_p, gI_L, gI_R, gL_s, gL_c, gL_p, gL_I, gL_R, gR_s, gR_c, gR_p, gR_I, gR_L]) (by simp (disch := first | assumption | omega) only [true_and, and_true, forall_eq, true_implies, false_implies, implies_true, not_true_eq_false, not_false_eq_true, false_and, and_false, ne_eq, ite_true, ite_false, Nat.reduceLeDiff, Nat.reduceEqDiff, Nat.reduceLT, Nat.reduceAdd, Nat.reduceMul, Nat.reduceSub, Nat.le_refl, eq_self, li_0, li_1, li_2, li_3, li_4, li_5, li_6, li_7, li_8, li_9, li_10, li_11, li_12, li_13, li_14, li_15, li_16, li_17, li_18, li_19, li_20, li_21, li_22, li_23, li_24, li_25, li_26, li_27, li_28, li_29, li_30, li_31, li_32, li_44, li_48, li_57, li_59, li_60, li_61, li_62, li_63, li_97, li_100, li_122, li_123, li_125, li_127, li_255, li_400, li_401, li_800, li_1023, li_1024, li_10827, i_add, i_mul, i_sub, i_p1, i_m1, i_nm, i_nm2, i_cl, i_cl0, vi_ok, i_lt, i_le, i_eq, lg_e, gI_s, gI_c, gI_p, gI_L, gI_R, gL_s, gL_c, gL_p, gL_I, gL_R, gR_s, gR_c, gR_p, gR_I, gR_L]; exact v4) (by simp (disch := first | assumption | omega) only [true_and, and_true, forall_eq, true_implies, false_implies, implies_true, not_true_eq_false, not_false_eq_true, false_and, and_false, ne_eq, ite_true, ite_false, Nat.reduceLeDiff, Nat.reduceEqDiff, Nat.reduceLT, Nat.reduceAdd, Nat.reduceMul, Nat.reduceSub, Nat.le_refl, eq_self, li_0, li_1, li_2, li_3, li_4, li_5, li_6, li_7, li_8, li_9, li_10, li_11, li_12, li_13, li_14, li_15, li_16, li_17, li_18, li_19, li_20, li_21, li_22, li_23, li_24, li_25, li_26, li_27, li_28, li_29, li_30, li_31, li_32, li_44, li_48, li_57, li_59, li_60, li_61, li_62, li_63, li_97, li_100, li_122, li_123, li_125, li_127, li_255, li_400, li_401, li_800, li_1023, li_1024, li_10827, i_add, i_mul, i_sub, i_p1, i_m1, i_nm, i_nm2, i_cl, i_cl0, vi_ok, i_lt, i_le, i_eq, lg_e, gI_s, gI_c, gI_p, gI_L, gI_R, gL_s, gL_c, gL_p, gL_I, gL_R, gR_s, gR_c, gR_p, gR_I, gR_L]; exact v5)
                obtain ⟨_, _, c, hc, _⟩ := G
                exact z.2 ⟨c, hc⟩
              · have add := pb1_add hE G nn
                have b' : BS h0 (ax_setI h1 93 3 0) x y := b1.setI (Or.inl rfl)
                have fz : Fr (fun c _ => c = 93) h1 (ax_setI h1 93 3 0) := (Fr.refl (fun c _ => c = 93) h1).setI rfl
                have cp' := cp1.fr fz (fun c p q => by omega)
                have ws := pbG_ws hD hE wj (by rw [ej1]; exact hkj) G
                have sT : (pbAdd (pbN D E (27 * k + a)) (27 * k + a) T V).2.1 (pbN D E (27 * k + a)).1 = T := upS_s _ _ _
                have sV : (pbAdd (pbN D E (27 * k + a)) (27 * k + a) T V).2.2.1 (pbN D E (27 * k + a)).1 = V := upS_s _ _ _
                refine k_lookAt hx hy hD hE hA0 hB0 b' cp' (by show (pbN D E (27 * k + a)).1 + 1 ≤ 400; omega) (Nat.lt_succ_self _) (by rw [sT]; exact ws.1) (by rw [sV]; exact ws.2) (fun al => ?_) (fun al => ?_)
                · rw [sT, sV] at al
                  intro v59 e59
                  rw [e59]
                  refine next _ b' (by rw [eN, add]; exact cp') (fun z => ?_) (fun ⟨T2, V2, G2, n2, z⟩ => by omega) (fun ⟨T2, V2, G2, n2, z, y⟩ => ?_) (by simp (disch := first | assumption | omega) only [true_and, and_true, forall_eq, true_implies, false_implies, implies_true, not_true_eq_false, not_false_eq_true, false_and, and_false, ne_eq, ite_true, ite_false, Nat.reduceLeDiff, Nat.reduceEqDiff, Nat.reduceLT, Nat.reduceAdd, Nat.reduceMul, Nat.reduceSub, Nat.le_refl, eq_self, li_0, li_1, li_2, li_3, li_4, li_5, li_6, li_7, li_8, li_9, li_10, li_11, li_12, li_13, li_14, li_15, li_16, li_17, li_18, li_19, li_20, li_21, li_22, li_23, li_24, li_25, li_26, li_27, li_28, li_29, li_30, li_31, li_32, li_44, li_48, li_57, li_59, li_60, li_61, li_62, li_63, li_97, li_100, li_122, li_123, li_125, li_127, li_255, li_400, li_401, li_800, li_1023, li_1024, li_10827, i_add, i_mul, i_sub, i_p1, i_m1, i_nm, i_nm2, i_cl, i_cl0, vi_ok, i_lt, i_le, i_eq, lg_e, gI_s, gI_c, gI_p, gI_L, gI_R, gL_s, gL_c, gL_p, gL_I, gL_R, gR_s, gR_c, gR_p, gR_I, gR_L]) (by simp (disch := first | assumption | omega) only [true_and, and_true, forall_eq, true_implies, false_implies, implies_true, not_true_eq_false, not_false_eq_true, false_and, and_false, ne_eq, ite_true, ite_false, Nat.reduceLeDiff, Nat.reduceEqDiff, Nat.reduceLT, Nat.reduceAdd, Nat.reduceMul, Nat.reduceSub, Nat.le_refl, eq_self, li_0, li_1, li_2, li_3, li_4, li_5, li_6, li_7, li_8, li_9, li_10, li_11, li_12, li_13, li_14, li_15, li_16, li_17, li_18, li_19, li_20, li_21, li_22, li_23, li_24, li_25, li_26, li_27, li_28, li_29, li_30, li_31, li_32, li_44, li_48, li_57, li_59, li_60, li_61, li_62, li_63, li_97, li_100, li_122, li_123, li_125, li_127, li_255, li_400, li_401, li_800, li_1023, li_1024, li_10827, i_add, i_mul, i_sub, i_p1, i_m1, i_nm, i_nm2, i_cl, i_cl0, vi_ok, i_lt, i_le, i_eq, lg_e, gI_s, gI_c, gI_p, gI_L, gI_R, gL_s, gL_c, gL_p, gL_I, gL_R, gR_s, gR_c, gR_p, gR_I, gR_L]; rw [o1]; exact v4) (by simp (disch := first | assumption | omega) only [true_and, and_true, forall_eq, true_implies, false_implies, implies_true, not_true_eq_false, not_false_eq_true, false_and, and_false, ne_eq, ite_true, ite_false, Nat.reduceLeDiff, Nat.reduceEqDiff, Nat.reduceLT, Nat.reduceAdd, Nat.reduceMul, Nat.reduceSub, Nat.le_refl, eq_self, li_0, li_1, li_2, li_3, li_4, li_5, li_6, li_7, li_8, li_9, li_10, li_11, li_12, li_13, li_14, li_15, li_16, li_17, li_18, li_19, li_20, li_21, li_22, li_23, li_24, li_25, li_26, li_27, li_28, li_29, li_30, li_31, li_32, li_44, li_48, li_57, li_59, li_60, li_61, li_62, li_63, li_97, li_100, li_122, li_123, li_125, li_127, li_255, li_400, li_401, li_800, li_1023, li_1024, li_10827, i_add, i_mul, i_sub, i_p1, i_m1, i_nm, i_nm2, i_cl, i_cl0, vi_ok, i_lt, i_le, i_eq, lg_e, gI_s, gI_c, gI_p, gI_L, gI_R, gL_s, gL_c, gL_p, gL_I, gL_R, gR_s, gR_c, gR_p, gR_I, gR_L]; rw [o1]; exact v5)
                  · obtain ⟨_, _, c, hc, _⟩ := G
                    exact z.2 ⟨c, hc⟩
                  · have := pb_un hE G G2
                    rw [← this.1, ← this.2] at y
                    exact y al
                · rw [sT, sV] at al
                  intro v59 e59
                  rw [e59]
                  have b2 : BS h0 (ax_setI (ax_setI h1 93 3 0) 93 4 (Int32.ofNat (pbN D E (27 * k + a)).1)) x y := b'.setI (Or.inr (Or.inl rfl))
                  have fz2 : Fr (fun c _ => c = 93) (ax_setI h1 93 3 0) (ax_setI (ax_setI h1 93 3 0) 93 4 (Int32.ofNat (pbN D E (27 * k + a)).1)) := (Fr.refl (fun c _ => c = 93) _).setI rfl
                  have cp2 := cp'.fr fz2 (fun c p q => by omega)
                  have g4 : (ax_setI (ax_setI h1 93 3 0) 93 4 (Int32.ofNat (pbN D E (27 * k + a)).1)).1 93 4 = Int32.ofNat (pbN D E (27 * k + a)).1 := gI_s _ _ _ _
                  refine out85 _ 3 (27 * k + a) ((pbN D E (27 * k + a)).1 + 1) k (a + 1) b2 ⟨Or.inr (Or.inr (Or.inr (Or.inl ⟨rfl, ok, no4', by rw [ej1]; exact hkj, T, V, G, nn, h4, al⟩))), fun z => absurd z (by decide), fun z => absurd z (by decide), fun z => absurd z (by decide), fun _ => ⟨by simp (disch := first | assumption | omega) only [true_and, and_true, forall_eq, true_implies, false_implies, implies_true, not_true_eq_false, not_false_eq_true, false_and, and_false, ne_eq, ite_true, ite_false, Nat.reduceLeDiff, Nat.reduceEqDiff, Nat.reduceLT, Nat.reduceAdd, Nat.reduceMul, Nat.reduceSub, Nat.le_refl, eq_self, li_0, li_1, li_2, li_3, li_4, li_5, li_6, li_7, li_8, li_9, li_10, li_11, li_12, li_13, li_14, li_15, li_16, li_17, li_18, li_19, li_20, li_21, li_22, li_23, li_24, li_25, li_26, li_27, li_28, li_29, li_30, li_31, li_32, li_44, li_48, li_57, li_59, li_60, li_61, li_62, li_63, li_97, li_100, li_122, li_123, li_125, li_127, li_255, li_400, li_401, li_800, li_1023, li_1024, li_10827, i_add, i_mul, i_sub, i_p1, i_m1, i_nm, i_nm2, i_cl, i_cl0, vi_ok, i_lt, i_le, i_eq, lg_e, gI_s, gI_c, gI_p, gI_L, gI_R, gL_s, gL_c, gL_p, gL_I, gL_R, gR_s, gR_c, gR_p, gR_I, gR_L], g4, by simp (disch := first | assumption | omega) only [true_and, and_true, forall_eq, true_implies, false_implies, implies_true, not_true_eq_false, not_false_eq_true, false_and, and_false, ne_eq, ite_true, ite_false, Nat.reduceLeDiff, Nat.reduceEqDiff, Nat.reduceLT, Nat.reduceAdd, Nat.reduceMul, Nat.reduceSub, Nat.le_refl, eq_self, li_0, li_1, li_2, li_3, li_4, li_5, li_6, li_7, li_8, li_9, li_10, li_11, li_12, li_13, li_14, li_15, li_16, li_17, li_18, li_19, li_20, li_21, li_22, li_23, li_24, li_25, li_26, li_27, li_28, li_29, li_30, li_31, li_32, li_44, li_48, li_57, li_59, li_60, li_61, li_62, li_63, li_97, li_100, li_122, li_123, li_125, li_127, li_255, li_400, li_401, li_800, li_1023, li_1024, li_10827, i_add, i_mul, i_sub, i_p1, i_m1, i_nm, i_nm2, i_cl, i_cl0, vi_ok, i_lt, i_le, i_eq, lg_e, gI_s, gI_c, gI_p, gI_L, gI_R, gL_s, gL_c, gL_p, gL_I, gL_R, gR_s, gR_c, gR_p, gR_I, gR_L]; rw [o1]; exact v5, by rw [eN, add]; exact cp2⟩, fun z => absurd z (by decide), fun z => absurd z (by decide)⟩ cp2.1.1 (by omega) (by omega) ?_ (Or.inr (by rw [g4]; exact i_ne (by omega)))
                  have hk3 : k < (pbAdd (pbN D E (27 * k + a)) (27 * k + a) T V).1 := by show k < (pbN D E (27 * k + a)).1 + 1; omega
                  have u1 : (pbAdd (pbN D E (27 * k + a)) (27 * k + a) T V).2.1 k = (pbN D E (27 * k + a)).2.1 k := upS_n (by omega)
                  have u2 : (pbAdd (pbN D E (27 * k + a)) (27 * k + a) T V).2.2.1 k = (pbN D E (27 * k + a)).2.2.1 k := upS_n (by omega)
                  have z := cp2.1.2.2.1 k hk3
                  exact ⟨(pbAdd (pbN D E (27 * k + a)) (27 * k + a) T V).2.1 k, (pbAdd (pbN D E (27 * k + a)) (27 * k + a) T V).2.2.1 k, z.1, z.2, by rw [u1]; exact (wj.2.2.1 k hkj).1, by rw [u2]; exact (wj.2.2.1 k hkj).2.1⟩
              · have b' : BS h0 (ax_setI h 93 3 1) x y := b.setI (Or.inl rfl)
                have fz : Fr (fun c _ => c = 93) h (ax_setI h 93 3 1) := (Fr.refl (fun c _ => c = 93) h).setI rfl
                have cp' := cp.fr fz (fun c p q => by omega)
                have g3 : (ax_setI h 93 3 1).1 93 3 = 1 := gI_s _ _ _ _
                have h4' : (pbN D E (27 * k + a)).1 = 400 := by
                  obtain ⟨T, V, _, _, z⟩ := e2
                  exact z
                refine k_lookAt_no b'.1 cp'.1.1 hj4 (Nat.le_refl _) hj4 ?_
                intro v59 e59
                rw [e59]
                refine out85 _ 2 (27 * k + a) (pbN D E (27 * k + a)).1 k (a + 1) b' ⟨Or.inr (Or.inr (Or.inl ⟨rfl, ok, no4', by rw [ej1]; exact hkj, e2⟩)), fun z => absurd z (by decide), fun z => absurd z (by decide), fun _ => ⟨by rw [g3]; decide, by rw [cp'.1.1, h4']⟩, fun z => absurd z (by decide), fun z => absurd z (by decide), fun z => absurd z (by decide)⟩ cp'.1.1 hj4 hkj (exk _ rfl rfl) (Or.inl (by rw [g3]; decide))
            · rcases z with z | z
              · exact absurd v3 z
              · exact absurd v4 z
        exact inner 27 0 rfl h b cp ok (fun u hu _ => no4 u (by omega)) v3 v4 v5
      · rcases z with z | z
        · exact absurd v3 z
        · exact absurd v4 z
  have wS : WS (D 0 0) st0 := WS.zero hD.1.1 hD.1.2.1
  have wU : WS (E 0 0) st0 := WS.zero hE.1.1 hE.1.2.1
  refine c_X2_goThrough (s_X2_goThrough_0 ⟨is_93, isA_x hx, ?_⟩)
  intro h3 e3
  refine ⟨isA_x hy, ?_⟩
  intro h6 e6 h8 e8 h10 e10 h12 e12
  have r12 : Refs h12 := by rw [e12, e10, e8, e6, e3]; exact (((hr0.setR rfl).setR rfl).setI.setI.setI)
  have f12 : Fr PE h0 h12 := by
    rw [e12, e10, e8, e6, e3]
    exact (((((Fr.refl PE h0).setR (Or.inr ⟨rfl, by decide⟩)).setR (Or.inr ⟨rfl, by decide⟩)).setI (Or.inr ⟨rfl, by decide⟩)).setI (Or.inr ⟨rfl, by decide⟩)).setI (Or.inr ⟨rfl, by decide⟩)
  have x0 : h12.2.2 93 0 = x := by rw [e12, e10, e8, e6, e3]; simp (disch := first | assumption | omega) only [true_and, and_true, forall_eq, true_implies, false_implies, implies_true, not_true_eq_false, not_false_eq_true, false_and, and_false, ne_eq, ite_true, ite_false, Nat.reduceLeDiff, Nat.reduceEqDiff, Nat.reduceLT, Nat.reduceAdd, Nat.reduceMul, Nat.reduceSub, Nat.le_refl, eq_self, li_0, li_1, li_2, li_3, li_4, li_5, li_6, li_7, li_8, li_9, li_10, li_11, li_12, li_13, li_14, li_15, li_16, li_17, li_18, li_19, li_20, li_21, li_22, li_23, li_24, li_25, li_26, li_27, li_28, li_29, li_30, li_31, li_32, li_44, li_48, li_57, li_59, li_60, li_61, li_62, li_63, li_97, li_100, li_122, li_123, li_125, li_127, li_255, li_400, li_401, li_800, li_1023, li_1024, li_10827, i_add, i_mul, i_sub, i_p1, i_m1, i_nm, i_nm2, i_cl, i_cl0, vi_ok, i_lt, i_le, i_eq, lg_e, gI_s, gI_c, gI_p, gI_L, gI_R, gL_s, gL_c, gL_p, gL_I, gL_R, gR_s, gR_c, gR_p, gR_I, gR_L]
  have x1 : h12.2.2 93 1 = y := by rw [e12, e10, e8, e6, e3]; simp (disch := first | assumption | omega) only [true_and, and_true, forall_eq, true_implies, false_implies, implies_true, not_true_eq_false, not_false_eq_true, false_and, and_false, ne_eq, ite_true, ite_false, Nat.reduceLeDiff, Nat.reduceEqDiff, Nat.reduceLT, Nat.reduceAdd, Nat.reduceMul, Nat.reduceSub, Nat.le_refl, eq_self, li_0, li_1, li_2, li_3, li_4, li_5, li_6, li_7, li_8, li_9, li_10, li_11, li_12, li_13, li_14, li_15, li_16, li_17, li_18, li_19, li_20, li_21, li_22, li_23, li_24, li_25, li_26, li_27, li_28, li_29, li_30, li_31, li_32, li_44, li_48, li_57, li_59, li_60, li_61, li_62, li_63, li_97, li_100, li_122, li_123, li_125, li_127, li_255, li_400, li_401, li_800, li_1023, li_1024, li_10827, i_add, i_mul, i_sub, i_p1, i_m1, i_nm, i_nm2, i_cl, i_cl0, vi_ok, i_lt, i_le, i_eq, lg_e, gI_s, gI_c, gI_p, gI_L, gI_R, gL_s, gL_c, gL_p, gL_I, gL_R, gR_s, gR_c, gR_p, gR_I, gR_L]
  have w3 : h12.1 93 3 = 0 := by rw [e12, e10, e8, e6, e3]; simp (disch := first | assumption | omega) only [true_and, and_true, forall_eq, true_implies, false_implies, implies_true, not_true_eq_false, not_false_eq_true, false_and, and_false, ne_eq, ite_true, ite_false, Nat.reduceLeDiff, Nat.reduceEqDiff, Nat.reduceLT, Nat.reduceAdd, Nat.reduceMul, Nat.reduceSub, Nat.le_refl, eq_self, li_0, li_1, li_2, li_3, li_4, li_5, li_6, li_7, li_8, li_9, li_10, li_11, li_12, li_13, li_14, li_15, li_16, li_17, li_18, li_19, li_20, li_21, li_22, li_23, li_24, li_25, li_26, li_27, li_28, li_29, li_30, li_31, li_32, li_44, li_48, li_57, li_59, li_60, li_61, li_62, li_63, li_97, li_100, li_122, li_123, li_125, li_127, li_255, li_400, li_401, li_800, li_1023, li_1024, li_10827, i_add, i_mul, i_sub, i_p1, i_m1, i_nm, i_nm2, i_cl, i_cl0, vi_ok, i_lt, i_le, i_eq, lg_e, gI_s, gI_c, gI_p, gI_L, gI_R, gL_s, gL_c, gL_p, gL_I, gL_R, gR_s, gR_c, gR_p, gR_I, gR_L]
  have w4 : h12.1 93 4 = -1 := by rw [e12, e10, e8, e6, e3]; simp (disch := first | assumption | omega) only [true_and, and_true, forall_eq, true_implies, false_implies, implies_true, not_true_eq_false, not_false_eq_true, false_and, and_false, ne_eq, ite_true, ite_false, Nat.reduceLeDiff, Nat.reduceEqDiff, Nat.reduceLT, Nat.reduceAdd, Nat.reduceMul, Nat.reduceSub, Nat.le_refl, eq_self, li_0, li_1, li_2, li_3, li_4, li_5, li_6, li_7, li_8, li_9, li_10, li_11, li_12, li_13, li_14, li_15, li_16, li_17, li_18, li_19, li_20, li_21, li_22, li_23, li_24, li_25, li_26, li_27, li_28, li_29, li_30, li_31, li_32, li_44, li_48, li_57, li_59, li_60, li_61, li_62, li_63, li_97, li_100, li_122, li_123, li_125, li_127, li_255, li_400, li_401, li_800, li_1023, li_1024, li_10827, i_add, i_mul, i_sub, i_p1, i_m1, i_nm, i_nm2, i_cl, i_cl0, vi_ok, i_lt, i_le, i_eq, lg_e, gI_s, gI_c, gI_p, gI_L, gI_R, gL_s, gL_c, gL_p, gL_I, gL_R, gR_s, gR_c, gR_p, gR_I, gR_L]
  have w5 : h12.1 93 5 = -1 := by rw [e12, gI_s]
  clear e12 e10 e8 e6 e3
  rw [rf_93_2 r12]
  refine ⟨is_94, k_X6_clear r12 (Or.inr (Or.inr rfl)) (fun _ => 0) (fun _ => 0) (fun h16 f16 r16 m16 => ?_)⟩
  rw [rf_93_2 r16]
  refine ⟨is_94, k_X0_beginning (k_X0_beginning ?_)⟩
  refine k_X6_meet r16 (Or.inr (Or.inr rfl)) m16 (fun z => absurd z (by decide)) (fun i hi => absurd hi (Nat.not_lt_zero i)) (fun hnew hlt h25 f25 r25 m25 kp => ?_) (fun _ z => absurd z (by decide))
  have o25 : ∀ p, h25.1 93 p = h12.1 93 p ∧ h25.2.2 93 p = h12.2.2 93 p := fun p => ⟨by rw [(f25 93 p (fun q => by unfold PM at q; omega)).1, (f16 93 p (fun q => by unfold PM at q; omega)).1], by rw [(f25 93 p (fun q => by unfold PM at q; omega)).2.2, (f16 93 p (fun q => by unfold PM at q; omega)).2.2]⟩
  have b25 : BS h0 h25 x y := ⟨r25, (f12.trans (f16.mono (fun c p q => Or.inl (by unfold PM at q; omega)))).trans (f25.mono (fun c p q => Or.inl (by unfold PM at q; omega))), by rw [(o25 0).2]; exact x0, by rw [(o25 1).2]; exact x1⟩
  have cp25 : CP h25 pb0 := by
    refine ⟨m25.congr (fun k hk => ?_) (fun k hk => ?_), fun k hk => ?_⟩
    · rw [show k = 0 by omega, nupL_s]; rfl
    · rw [show k = 0 by omega, nupL_s]; rfl
    · have k0 : k = 0 := by have : k < 1 := hk; omega
      rw [k0, if_pos rfl, if_pos rfl]
      refine ⟨kp.2.1, kp.2.2.1, ?_⟩
      have := kp.2.2.2
      rw [if_neg (by decide)] at this
      exact this
  refine k_lookAt (k := 0) hx hy hD hE hA0 hB0 b25 cp25 (by show 1 ≤ 400; omega) (by show 0 < 1; omega) wS wU (fun al => ?_) (fun al => ?_)
  · exact outer 401 0 rfl h25 b25 cp25 ⟨al, fun i hi => absurd hi (Nat.not_lt_zero i), fun u hu => absurd hu (Nat.not_lt_zero _)⟩ (fun u hu => by omega) (by rw [(o25 3).1]; exact w3) (by rw [(o25 4).1]; exact w4) (by rw [(o25 5).1]; exact w5) (fun u hu => absurd hu (by omega))
  · have b26 : BS h0 (ax_setI h25 93 4 (Int32.ofNat 0)) x y := b25.setI (Or.inr (Or.inl rfl))
    have fz : Fr (fun c _ => c = 93) h25 (ax_setI h25 93 4 (Int32.ofNat 0)) := (Fr.refl (fun c _ => c = 93) _).setI rfl
    have cp26 := cp25.fr fz (fun c p q => by omega)
    have g4 : (ax_setI h25 93 4 (Int32.ofNat 0)).1 93 4 = Int32.ofNat 0 := gI_s _ _ _ _
    exact out57 _ 5 0 1 0 b26 ⟨Or.inr (Or.inr (Or.inr (Or.inr (Or.inr ⟨rfl, rfl, al⟩)))), fun z => absurd z (by decide), fun z => absurd z (by decide), fun z => absurd z (by decide), fun z => absurd z (by decide), fun z => absurd z (by decide), fun _ => ⟨by simp (disch := first | assumption | omega) only [true_and, and_true, forall_eq, true_implies, false_implies, implies_true, not_true_eq_false, not_false_eq_true, false_and, and_false, ne_eq, ite_true, ite_false, Nat.reduceLeDiff, Nat.reduceEqDiff, Nat.reduceLT, Nat.reduceAdd, Nat.reduceMul, Nat.reduceSub, Nat.le_refl, eq_self, li_0, li_1, li_2, li_3, li_4, li_5, li_6, li_7, li_8, li_9, li_10, li_11, li_12, li_13, li_14, li_15, li_16, li_17, li_18, li_19, li_20, li_21, li_22, li_23, li_24, li_25, li_26, li_27, li_28, li_29, li_30, li_31, li_32, li_44, li_48, li_57, li_59, li_60, li_61, li_62, li_63, li_97, li_100, li_122, li_123, li_125, li_127, li_255, li_400, li_401, li_800, li_1023, li_1024, li_10827, i_add, i_mul, i_sub, i_p1, i_m1, i_nm, i_nm2, i_cl, i_cl0, vi_ok, i_lt, i_le, i_eq, lg_e, gI_s, gI_c, gI_p, gI_L, gI_R, gL_s, gL_c, gL_p, gL_I, gL_R, gR_s, gR_c, gR_p, gR_I, gR_L]; rw [(o25 3).1]; exact w3, g4, by simp (disch := first | assumption | omega) only [true_and, and_true, forall_eq, true_implies, false_implies, implies_true, not_true_eq_false, not_false_eq_true, false_and, and_false, ne_eq, ite_true, ite_false, Nat.reduceLeDiff, Nat.reduceEqDiff, Nat.reduceLT, Nat.reduceAdd, Nat.reduceMul, Nat.reduceSub, Nat.le_refl, eq_self, li_0, li_1, li_2, li_3, li_4, li_5, li_6, li_7, li_8, li_9, li_10, li_11, li_12, li_13, li_14, li_15, li_16, li_17, li_18, li_19, li_20, li_21, li_22, li_23, li_24, li_25, li_26, li_27, li_28, li_29, li_30, li_31, li_32, li_44, li_48, li_57, li_59, li_60, li_61, li_62, li_63, li_97, li_100, li_122, li_123, li_125, li_127, li_255, li_400, li_401, li_800, li_1023, li_1024, li_10827, i_add, i_mul, i_sub, i_p1, i_m1, i_nm, i_nm2, i_cl, i_cl0, vi_ok, i_lt, i_le, i_eq, lg_e, gI_s, gI_c, gI_p, gI_L, gI_R, gL_s, gL_c, gL_p, gL_I, gL_R, gR_s, gR_c, gR_p, gR_I, gR_L]; rw [(o25 5).1]; exact w5, cp26⟩⟩ cp26.1.1 (by omega) (by omega) (Or.inr (by rw [g4]; decide))
