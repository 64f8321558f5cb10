theorem MT.congr {h : AH} {x n : Nat} {L R L2 R2 : Nat → Int64} (m : MT h x n L R) (e1 : ∀ i, i < n → L i = L2 i) (e2 : ∀ i, i < n → R i = R2 i) : MT h x n L2 R2 := by
  obtain ⟨b1, b2, b3, b4, sl, b5, b6⟩ := m
  refine ⟨b1, b2, fun i hi => by rw [← e1 i hi, ← e2 i hi]; exact b3 i hi, fun i j hi hj z1 z2 => b4 i j hi hj (by rw [e1 i hi, e1 j hj]; exact z1) (by rw [e2 i hi, e2 j hj]; exact z2), sl, b5, b6.1, b6.2.1, fun i hi => ?_⟩
  rw [← e1 i hi, ← e2 i hi]
  exact b6.2.2 i hi
def CRep (h : AH) (D : AD) (B : BT) (j : Nat) : Prop := MapC h D B.1 B.2.1 B.2.2.1 B.2.2.2.1 B.2.2.2.2.1 B.2.2.2.2.2 ∧ LdC h 82 D B.2.1 B.2.2.2.2.2 j
def PA (c p : Nat) : Prop := (75 ≤ c ∧ c ≤ 82) ∨ (c = 74 ∧ (p = 0 ∨ p = 1 ∨ p = 5))
theorem k_gone62 {l : Launch} {g : AG} {h : AH} {x s a : Nat} {v : Int32} {e : Int64} {Q : Int32 → AH → Prop} (hr : Refs h) (hs : s < 400) (ha : a < 27) (hq : L_X1_goneFrom_13 l g (ax_setI h 82 (27 * s + a) v) 74 x (Int32.ofNat s) e (Int32.ofNat (a + 1)) Q) : L_X1_goneFrom_62 l g h 74 x (Int32.ofNat s) e (Int32.ofNat a) v Q := by
  refine s_X1_goneFrom_62 ?_
  simp (disch := first | assumption | omega) only [true_and, and_true, forall_eq, true_implies, false_implies, implies_true, not_true_eq_false, not_false_eq_true, false_and, and_false, ne_eq, ite_true, ite_false, Nat.reduceLeDiff, Nat.reduceEqDiff, Nat.reduceLT, Nat.reduceAdd, Nat.reduceMul, Nat.reduceSub, Nat.le_refl, eq_self, li_0, li_1, li_2, li_3, li_4, li_5, li_6, li_7, li_8, li_9, li_10, li_11, li_12, li_13, li_14, li_15, li_16, li_17, li_18, li_19, li_20, li_21, li_22, li_23, li_24, li_25, li_26, li_27, li_28, li_29, li_30, li_31, li_32, li_44, li_48, li_57, li_59, li_60, li_61, li_62, li_63, li_97, li_100, li_122, li_123, li_125, li_127, li_255, li_400, li_401, li_800, li_1023, li_1024, li_10827, i_add, i_mul, i_sub, i_p1, i_m1, i_nm, i_nm2, i_cl, i_cl0, vi_ok, i_lt, i_le, i_eq, lg_e, rf_74_2, rf_74_3, rf_74_4, rf_74_6, rf_74_7, rf_74_8, is_74, is_75, sz_75, is_82, sz_82, is_83, sz_83, is_90, sz_90, is_91, sz_91, is_92, sz_92, Nat.mul_comm s 27]
  exact hq
def PG (c p : Nat) : Prop := 75 ≤ c ∧ c ≤ 82
theorem k_goneFrom {l : Launch} {g : AG} {h0 : AH} {x s : Nat} {D : AD} {Q : Int32 → AH → Prop} (hx : isA x) (hD : WfD D) (hok : bsOK D (27 * s)) (hs : s < (bsN D (27 * s)).1)
    (q1 : ∀ h', Refs h' → Fr PG h0 h' → bsOK D (27 * (s + 1)) → CRep h' D (bsN D (27 * (s + 1))) (27 * (s + 1)) → Q 1 h')
    (q0 : ∀ h' J, Refs h' → Fr PG h0 h' → bsEnd D J False → Q 0 h') : ∀ d a, a + d = 27 → ∀ h, Refs h → Fr PG h0 h → RepA h x D → bsOK D (27 * s + a) → CRep h D (bsN D (27 * s + a)) (27 * s + a) → L_X1_goneFrom_13 l g h 74 x (Int32.ofNat s) (Int64.ofNat (en ((bsN D (27 * s)).2.1 s))) (Int32.ofNat a) Q := by
  have hxu : x = 4 ∨ x = 25 ∨ x = 46 := hx
  intro d
  induction d with
  | zero =>
    intro a ha h hr hf hA ok cr
    have : a = 27 := by omega
    subst this
    refine s_X1_goneFrom_13 ?_
    simp (disch := first | assumption | omega) only [true_and, and_true, forall_eq, true_implies, false_implies, implies_true, not_true_eq_false, not_false_eq_true, false_and, and_false, ne_eq, ite_true, ite_false, Nat.reduceLeDiff, Nat.reduceEqDiff, Nat.reduceLT, Nat.reduceAdd, Nat.reduceMul, Nat.reduceSub, Nat.le_refl, eq_self, li_0, li_1, li_2, li_3, li_4, li_5, li_6, li_7, li_8, li_9, li_10, li_11, li_12, li_13, li_14, li_15, li_16, li_17, li_18, li_19, li_20, li_21, li_22, li_23, li_24, li_25, li_26, li_27, li_28, li_29, li_30, li_31, li_32, li_44, li_48, li_57, li_59, li_60, li_61, li_62, li_63, li_97, li_100, li_122, li_123, li_125, li_127, li_255, li_400, li_401, li_800, li_1023, li_1024, li_10827, i_add, i_mul, i_sub, i_p1, i_m1, i_nm, i_nm2, i_cl, i_cl0, vi_ok, i_lt, i_le, i_eq, lg_e]
    exact q1 h hr hf ok cr
  | succ d ih =>
    intro a ha h hr hf hA ok cr
    have w := bsW_all hD _ ok
    have ej1 : (27 * s + a) / 27 = s := by omega
    have ej2 : (27 * s + a) % 27 = a := by omega
    have mono := bsN_mono D (show 27 * s ≤ 27 * s + a by omega)
    have hsB : s < (bsN D (27 * s + a)).1 := by omega
    have hn400 := w.1.2.1
    have stS : (bsN D (27 * s)).2.1 s = (bsN D (27 * s + a)).2.1 s := by
      have : ∀ b, (bsN D (27 * s + b)).2.1 s = (bsN D (27 * s)).2.1 s := by
        intro b
        induction b with
        | zero => rfl
        | succ b ih2 =>
          have m2 := bsN_mono D (show 27 * s ≤ 27 * s + b by omega)
          show (bs1 D (bsN D (27 * s + b)) (27 * s + b)).2.1 s = _
          rw [bs1_ST (by omega)]; exact ih2
      exact (this a).symm
    rw [stS]
    have ih2 : ∀ h', Refs h' → Fr PG h0 h' → RepA h' x D → ¬ bsO D (bsN D (27 * s + a)) (27 * s + a) → CRep h' D (bsN D (27 * s + a + 1)) (27 * s + a + 1) → L_X1_goneFrom_13 l g h' 74 x (Int32.ofNat s) (Int64.ofNat (en ((bsN D (27 * s + a)).2.1 s))) (Int32.ofNat (a + 1)) Q := by
      intro h' r' f' A' no c'
      rw [← stS]
      refine ih (a + 1) (by omega) h' r' f' A' (fun i hi => ?_) c'
      by_cases c : i = 27 * s + a
      · rw [c, ej1]; exact ⟨no, hsB⟩
      · exact ok i (by omega)
    revert ih2 cr w hsB hn400
    generalize hB : bsN D (27 * s + a) = B
    have eN : bsN D (27 * s + a + 1) = bs1 D B (27 * s + a) := by rw [← hB]; rfl
    rw [eN]
    intro cr w hsB hn400 ih2
    have wS := w.1.2.2.1 s hsB
    have eP : bsP D B (27 * s + a) ↔ possD D (B.2.1 s) a := by unfold bsP; rw [ej1, ej2]
    have eT : bsT D B (27 * s + a) = stepD D (B.2.1 s) a := by unfold bsT; rw [ej1, ej2]
    obtain ⟨⟨c1, c2⟩, c3⟩ := cr
    refine s_X1_goneFrom_13 ?_
    simp (disch := first | assumption | omega) only [true_and, and_true, forall_eq, true_implies, false_implies, implies_true, not_true_eq_false, not_false_eq_true, false_and, and_false, ne_eq, ite_true, ite_false, Nat.reduceLeDiff, Nat.reduceEqDiff, Nat.reduceLT, Nat.reduceAdd, Nat.reduceMul, Nat.reduceSub, Nat.le_refl, eq_self, li_0, li_1, li_2, li_3, li_4, li_5, li_6, li_7, li_8, li_9, li_10, li_11, li_12, li_13, li_14, li_15, li_16, li_17, li_18, li_19, li_20, li_21, li_22, li_23, li_24, li_25, li_26, li_27, li_28, li_29, li_30, li_31, li_32, li_44, li_48, li_57, li_59, li_60, li_61, li_62, li_63, li_97, li_100, li_122, li_123, li_125, li_127, li_255, li_400, li_401, li_800, li_1023, li_1024, li_10827, i_add, i_mul, i_sub, i_p1, i_m1, i_nm, i_nm2, i_cl, i_cl0, vi_ok, i_lt, i_le, i_eq, lg_e, show ¬ 27 ≤ a by omega, isA_x hx]
    refine k_X0_possible hr hx wS hD.1 hD.2.1 hA.2.1 hA.2.2.2.2.1 (by omega) (fun p => ?_) (fun p => ?_)
    · have bp := eP.2 p
      simp (disch := first | assumption | omega) only [true_and, and_true, forall_eq, true_implies, false_implies, implies_true, not_true_eq_false, not_false_eq_true, false_and, and_false, ne_eq, ite_true, ite_false, Nat.reduceLeDiff, Nat.reduceEqDiff, Nat.reduceLT, Nat.reduceAdd, Nat.reduceMul, Nat.reduceSub, Nat.le_refl, eq_self, li_0, li_1, li_2, li_3, li_4, li_5, li_6, li_7, li_8, li_9, li_10, li_11, li_12, li_13, li_14, li_15, li_16, li_17, li_18, li_19, li_20, li_21, li_22, li_23, li_24, li_25, li_26, li_27, li_28, li_29, li_30, li_31, li_32, li_44, li_48, li_57, li_59, li_60, li_61, li_62, li_63, li_97, li_100, li_122, li_123, li_125, li_127, li_255, li_400, li_401, li_800, li_1023, li_1024, li_10827, i_add, i_mul, i_sub, i_p1, i_m1, i_nm, i_nm2, i_cl, i_cl0, vi_ok, i_lt, i_le, i_eq, lg_e, rf_74_2, rf_74_3, rf_74_4, rf_74_6, rf_74_7, rf_74_8, is_74, is_75, sz_75, is_82, sz_82, is_83, sz_83, is_90, sz_90, is_91, sz_91, is_92, sz_92]
      refine k_X0_after hr hx hD hA wS (by omega) p ?_
      rw [← eT]
      refine k_X6_meet (L := fun i => Int64.ofNat (en (B.2.1 i))) (R := fun _ => 0) hr (Or.inl rfl) c1 (fun _ => vi_ok (by omega) (by omega)) (fun i hi e1 _ => ?_) (fun hnew hlt h' f' r' m' kp => ?_) (fun hnew h400 => ?_)
      · have wT : WS (D 0 0) (bsT D B (27 * s + a)) := by rw [eT]; exact ws_stepD hD wS p
        have b1 := en_lt (w.1.2.2.1 i hi)
        have b2 := en_lt wT
        have e2 : en (B.2.1 i) = en (bsT D B (27 * s + a)) := (l_eq (by omega) (by omega)).1 e1
        have old : bs1 D B (27 * s + a) = _ := bs1_old bp hi e2 (fun k hk e => by have := w.1.2.2.2.1 k i (by omega) hi (e.trans e2.symm); omega)
        refine ⟨fun _ => k_gone62 hr (by omega) (by omega) (ih2 _ hr.setI (hf.setI ⟨by omega, by omega⟩) (hA.fr ((Fr.refl (fun c _ => c = 82) h).setI rfl) (fun c p h1 h2 q => by omega)) (fun z => z.2.1 i hi e2) ?_), fun z => absurd z (i_ne (by omega))⟩
        rw [old]
        refine ⟨⟨c1.fr ((Fr.refl (fun c _ => c = 82) h).setI rfl) (fun c p q => by omega), fun k hk => ?_⟩, fun k hk => ?_⟩
        · rw [gI_c (by omega), gI_c (by omega), gI_c (by omega)]; exact c2 k hk
        · show (possD D (B.2.1 (k / 27)) (k % 27) → _ = Int32.ofNat (nup B.2.2.2.2.2 (27 * s + a) i k)) ∧ _
          by_cases c : k = 27 * s + a
          · rw [gI_t rfl c, c, nup_s, ej1, ej2]
            exact ⟨fun _ => rfl, fun z => absurd p z⟩
          · rw [gI_p c, nup_n c]; exact c3 k (by omega)
      · have hnew2 : ∀ k, k < B.1 → en (B.2.1 k) ≠ en (bsT D B (27 * s + a)) := fun k hk e => hnew k hk ⟨by rw [e], rfl⟩
        have nw := bs1_new bp hnew2
        have cK := kp
        refine ⟨fun _ => k_gone62 r' (by omega) (by omega) (ih2 _ r'.setI ((hf.trans (f'.mono (fun c p q => ⟨by unfold PM at q; omega, by unfold PM at q; omega⟩))).setI ⟨by omega, by omega⟩) ?_ (fun z => by have := z.2.2; omega) ?_), fun z => absurd z (i_ne (by omega))⟩
        · have f2 : Fr (fun c _ => 75 ≤ c ∧ c ≤ 82) h (ax_setI h' 82 (27 * s + a) (Int32.ofNat B.1)) := (f'.mono (fun c p q => by unfold PM at q; omega)).setI ⟨by omega, by omega⟩
          exact hA.fr f2 (fun c p h1 h2 q => by omega)
        · rw [nw]
          refine ⟨⟨(m'.fr ((Fr.refl (fun c _ => c = 82) h').setI rfl) (fun c p q => by omega)).congr (fun k hk => ?_) (fun k hk => ?_), fun k hk => ?_⟩, fun k hk => ?_⟩
          · show nupL (fun i => Int64.ofNat (en (B.2.1 i))) B.1 (Int64.ofNat (en (bsT D B (27 * s + a)))) k = Int64.ofNat (en (upS B.2.1 B.1 (bsT D B (27 * s + a)) k))
            by_cases c : k = B.1
            · rw [c, nupL_s, upS_s]
            · rw [nupL_n c, upS_n c]
          · show nupL (fun _ => 0) B.1 0 k = 0
            unfold nupL
            split <;> rfl
          · have hk2 : k < B.1 + 1 := hk
            show _ = (if k = 0 then -1 else Int32.ofNat (nup B.2.2.1 B.1 ((27 * s + a) / 27) k)) ∧ _ = (if k = 0 then -1 else Int32.ofNat (nup B.2.2.2.1 B.1 ((27 * s + a) % 27) k)) ∧ _ = Int32.ofNat (nup B.2.2.2.2.1 B.1 (B.2.2.2.2.1 ((27 * s + a) / 27) + 1) k)
            rw [gI_c (by omega), gI_c (by omega), gI_c (by omega), ej1, ej2]
            by_cases c : k = B.1
            · have k0 : ¬ B.1 = 0 := by omega
              rw [c, if_neg k0, if_neg k0, nup_s, nup_s, nup_s]
              refine ⟨cK.2.1, cK.2.2.1, ?_⟩
              have := cK.2.2.2
              rw [if_pos (i_ge (by omega)), i_cl (by omega)] at this
              have e80 : h.1 (75 + 5) s = Int32.ofNat (B.2.2.2.2.1 s) := (c2 s hsB).2.2
              rw [e80, i_p1] at this
              exact this
            · have z := c2 k (by omega)
              have y := cK.1 k c
              rw [nup_n c, nup_n c, nup_n c]
              exact ⟨y.1.trans z.1, y.2.1.trans z.2.1, y.2.2.trans z.2.2⟩
          · have hkB : k / 27 < B.1 := by omega
            show (possD D (upS B.2.1 B.1 (bsT D B (27 * s + a)) (k / 27)) (k % 27) → _ = Int32.ofNat (nup B.2.2.2.2.2 (27 * s + a) B.1 k)) ∧ (¬ possD D (upS B.2.1 B.1 (bsT D B (27 * s + a)) (k / 27)) (k % 27) → _)
            rw [upS_n (by omega)]
            by_cases c : k = 27 * s + a
            · rw [gI_t rfl c, c, nup_s, ej1, ej2]
              exact ⟨fun _ => rfl, fun z => absurd p z⟩
            · rw [gI_p c, nup_n c, (f' 82 k (fun q => by unfold PM at q; omega)).1]; exact c3 k (by omega)
      · refine ⟨fun z => absurd rfl z, fun _ => q0 h (27 * s + a) hr hf ⟨ok, fun z => absurd z id, fun _ => ?_⟩⟩
        rw [hB, ej1]
        exact ⟨hsB, bp, fun k hk e => hnew k hk ⟨by rw [e], rfl⟩, h400⟩
    · have np : ¬ bsP D B (27 * s + a) := fun z => p (eP.1 z)
      refine ⟨fun _ => k_gone62 hr (by omega) (by omega) (ih2 _ hr.setI (hf.setI ⟨by omega, by omega⟩) (hA.fr ((Fr.refl (fun c _ => c = 82) h).setI rfl) (fun c p h1 h2 q => by omega)) (fun z => np z.1) ?_), fun z => absurd rfl z⟩
      rw [bs1_no np]
      refine ⟨⟨c1.fr ((Fr.refl (fun c _ => c = 82) h).setI rfl) (fun c p q => by omega), fun k hk => ?_⟩, fun k hk => ?_⟩
      · rw [gI_c (by omega), gI_c (by omega), gI_c (by omega)]; exact c2 k hk
      · by_cases c : k = 27 * s + a
        · rw [gI_t rfl c, c, ej1, ej2]
          exact ⟨fun z => absurd z p, fun _ => rfl⟩
        · rw [gI_p c]; exact c3 k (by omega)
theorem k_made {l : Launch} {g : AG} {h0 : AH} {x : Nat} {x2 : Int32} {D : AD} {Q : Int32 → AH → Prop} (hr0 : Refs h0) (hx : isA x) (hD : WfD D) (hA0 : RepA h0 x D)
    (q1 : ∀ h' J, Refs h' → Fr PA h0 h' → bsEnd D J True → CRep h' D (bsN D J) J → h'.1 74 0 = x2 → h'.1 74 5 = 0 → h'.2.2 74 1 = x → Q 1 h')
    (q0 : ∀ h' J, Refs h' → Fr PA h0 h' → bsEnd D J False → h'.1 74 0 = -1 → Q 0 h') : C_X1_made l g h0 74 x x2 Q := by
  have hxu : x = 4 ∨ x = 25 ∨ x = 46 := hx
  have loop : ∀ d s, s + d = 401 → ∀ h, Refs h → Fr PA h0 h → h.1 74 0 = -1 → h.1 74 5 = 0 → bsOK D (27 * s) → CRep h D (bsN D (27 * s)) (27 * s) → (∀ u, u + 1 = s → u < (bsN D (27 * u)).1) → L_X1_made_28 l g h 74 x x2 (Int32.ofNat s) Q := by
    intro d
    induction d with
    | zero =>
      intro s hs h hr hf w0 w5 ok cr prev
      have w := bsW_all hD _ ok
      have a := prev 400 (by omega)
      have b := bsN_mono D (show 27 * 400 ≤ 27 * s by omega)
      have := w.1.2.1
      omega
    | succ d ih =>
      intro s hs h hr hf w0 w5 ok cr prev
      have w := bsW_all hD _ ok
      have hn400 := w.1.2.1
      have e75 : h.1 75 0 = Int32.ofNat (bsN D (27 * s)).1 := cr.1.1.1
      refine s_X1_made_28 ?_
      rw [rf_74_2 hr, e75]
      refine ⟨is_74, is_75, fun c => ⟨isA_x hx, ?_⟩, fun c => ?_⟩
      · have c := (i_le (by omega) (by omega)).1 c
        have es : (bsN D (27 * s)).1 = s := by
          rcases Nat.eq_zero_or_pos s with z | z
          · have := w.1.1; omega
          · have a := prev (s - 1) (by omega)
            have b := bsN_mono D (show 27 * (s - 1) ≤ 27 * s by omega)
            omega
        intro h19 e19 h21 e21
        have r21 : Refs h21 := by rw [e21, e19]; exact (hr.setR rfl).setI
        have f21 : Fr PA h0 h21 := by rw [e21, e19]; exact (hf.setR (Or.inr ⟨rfl, Or.inr (Or.inl rfl)⟩)).setI (Or.inr ⟨rfl, Or.inl rfl⟩)
        refine q1 h21 (27 * s) r21 f21 ⟨ok, fun _ => ⟨s, rfl, es⟩, fun z => absurd trivial z⟩ ?_ ?_ ?_ ?_
        · have fz : Fr (fun c _ => c = 74) h h21 := by rw [e21, e19]; exact ((Fr.refl (fun c _ => c = 74) h).setR rfl).setI rfl
          exact ⟨cr.1.fr fz (fun c p q => by omega), cr.2.fr fz (fun c p q => by omega)⟩
        · rw [e21, gI_s]
        · rw [e21, e19, gI_p (by decide)]; exact w5
        · rw [e21, e19]
          show (ax_setR h 74 1 x).2.2 74 1 = x
          rw [gR_s]
      · have c : ¬ (bsN D (27 * s)).1 ≤ s := fun z => c ((i_le (by omega) (by omega)).2 z)
        refine ⟨fun c2 => absurd ((i_le (a := 400) (by omega) (by omega)).1 c2) (by omega), fun _ => ⟨isA_x hx, c_X1_goneFrom (s_X1_goneFrom_0 ?_)⟩⟩
        have hA : RepA h x D := hA0.fr hf (fun c p h1 h2 q => by unfold PA at q; omega)
        simp (disch := first | assumption | omega) only [true_and, and_true, forall_eq, true_implies, false_implies, implies_true, not_true_eq_false, not_false_eq_true, false_and, and_false, ne_eq, ite_true, ite_false, Nat.reduceLeDiff, Nat.reduceEqDiff, Nat.reduceLT, Nat.reduceAdd, Nat.reduceMul, Nat.reduceSub, Nat.le_refl, eq_self, li_0, li_1, li_2, li_3, li_4, li_5, li_6, li_7, li_8, li_9, li_10, li_11, li_12, li_13, li_14, li_15, li_16, li_17, li_18, li_19, li_20, li_21, li_22, li_23, li_24, li_25, li_26, li_27, li_28, li_29, li_30, li_31, li_32, li_44, li_48, li_57, li_59, li_60, li_61, li_62, li_63, li_97, li_100, li_122, li_123, li_125, li_127, li_255, li_400, li_401, li_800, li_1023, li_1024, li_10827, i_add, i_mul, i_sub, i_p1, i_m1, i_nm, i_nm2, i_cl, i_cl0, vi_ok, i_lt, i_le, i_eq, lg_e, rf_74_2, rf_74_3, rf_74_4, rf_74_6, rf_74_7, rf_74_8, is_74, is_75, sz_75, is_82, sz_82, is_83, sz_83, is_90, sz_90, is_91, sz_91, is_92, sz_92, rf_75_1, rf_75_2, rf_75_3, rf_75_4, rf_75_5, rf_75_6, is_75, is_76, sz_76, is_77, sz_77, is_78, sz_78, is_79, sz_79, is_80, sz_80, is_81, sz_81, (cr.1.1.2.2.1 s (by omega)).1]
        refine k_goneFrom (h0 := h) hx hD ok (by omega) (fun h' r' f' ok' cr' => ?_) (fun h' J r' f' en => ?_) 27 0 rfl h hr (Fr.refl _ _) hA ok cr
        · refine ⟨fun _ => ?_, fun z => absurd z (by decide)⟩
          (try simp (disch := first | assumption | omega) only [true_and, and_true, forall_eq, true_implies, false_implies, implies_true, not_true_eq_false, not_false_eq_true, false_and, and_false, ne_eq, ite_true, ite_false, Nat.reduceLeDiff, Nat.reduceEqDiff, Nat.reduceLT, Nat.reduceAdd, Nat.reduceMul, Nat.reduceSub, Nat.le_refl, eq_self, li_0, li_1, li_2, li_3, li_4, li_5, li_6, li_7, li_8, li_9, li_10, li_11, li_12, li_13, li_14, li_15, li_16, li_17, li_18, li_19, li_20, li_21, li_22, li_23, li_24, li_25, li_26, li_27, li_28, li_29, li_30, li_31, li_32, li_44, li_48, li_57, li_59, li_60, li_61, li_62, li_63, li_97, li_100, li_122, li_123, li_125, li_127, li_255, li_400, li_401, li_800, li_1023, li_1024, li_10827, i_add, i_mul, i_sub, i_p1, i_m1, i_nm, i_nm2, i_cl, i_cl0, vi_ok, i_lt, i_le, i_eq, lg_e])
          refine ih (s + 1) (by omega) h' r' (hf.trans (f'.mono (fun c p q => Or.inl q))) ?_ ?_ ok' cr' (fun u hu => ?_)
          · rw [(f' 74 0 (fun q => by unfold PG at q; omega)).1]; exact w0
          · rw [(f' 74 5 (fun q => by unfold PG at q; omega)).1]; exact w5
          · rw [show u = s by omega]; omega
        · refine ⟨fun z => absurd rfl z, fun _ => q0 h' J r' (hf.trans (f'.mono (fun c p q => Or.inl q))) en ?_⟩
          rw [(f' 74 0 (fun q => by unfold PG at q; omega)).1]; exact w0
  refine c_X1_made (s_X1_made_0 ⟨is_74, c_X1_drop (s_X1_drop_0 ⟨is_74, ?_⟩)⟩)
  intro h2 e2 h4 e4
  have r4 : Refs h4 := by rw [e4, e2]; exact hr0.setI.setI
  have f4 : Fr PA h0 h4 := by rw [e4, e2]; exact ((Fr.refl PA h0).setI (Or.inr ⟨rfl, Or.inl rfl⟩)).setI (Or.inr ⟨rfl, Or.inr (Or.inr rfl)⟩)
  have w0 : h4.1 74 0 = -1 := by rw [e4, e2, gI_p (by decide), gI_s]
  have w5 : h4.1 74 5 = 0 := by rw [e4, gI_s]
  clear e4 e2
  rw [rf_74_2 r4]
  refine ⟨is_75, k_X6_clear r4 (Or.inl rfl) (fun _ => 0) (fun _ => 0) (fun h6 f6 r6 m6 => ?_)⟩
  rw [rf_74_2 r6]
  refine ⟨is_75, isA_x hx, k_X0_beginning ?_⟩
  refine k_X6_meet r6 (Or.inl rfl) m6 (fun z => absurd z (by decide)) (fun i hi => absurd hi (Nat.not_lt_zero i)) (fun hnew hlt h7 f7 r7 m7 kp => ?_) (fun _ z => absurd z (by decide))
  refine loop 401 0 rfl h7 r7 ((f4.trans (f6.mono (fun c p q => Or.inl ⟨by unfold PM at q; omega, by unfold PM at q; omega⟩))).trans (f7.mono (fun c p q => Or.inl ⟨by unfold PM at q; omega, by unfold PM at q; omega⟩))) ?_ ?_ (fun i hi => absurd hi (Nat.not_lt_zero i)) ⟨⟨m7.congr (fun k hk => ?_) (fun k hk => ?_), fun k hk => ?_⟩, fun k hk => absurd hk (Nat.not_lt_zero k)⟩ (fun u hu => absurd hu (by omega))
  · rw [(f7 74 0 (fun q => by unfold PM at q; omega)).1, (f6 74 0 (fun q => by unfold PM at q; omega)).1]; exact w0
  · rw [(f7 74 5 (fun q => by unfold PM at q; omega)).1, (f6 74 5 (fun q => by unfold PM at q; omega)).1]; exact w5
  · rw [show k = 0 by omega, nupL_s]; rfl
  · rw [show k = 0 by omega, nupL_s]
  · have k0 : k = 0 := by have : k < 1 := hk; omega
    rw [k0, if_pos rfl, if_pos rfl]
    refine ⟨kp.2.1, kp.2.2.1, ?_⟩
    have := kp.2.2.2
    rw [if_neg (by decide)] at this
    exact this
