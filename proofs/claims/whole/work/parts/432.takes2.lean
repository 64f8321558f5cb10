theorem k_varNamed {l : Launch} {g : AG} {h : AH} {x w : Nat} {D : AD} {W : Int64} {Q : Int32 → AH → Prop} (hr : Refs h) (hx : isA x) (hA : RepP h x D) (hV : D 0 2 ≤ 6) (hN : ∀ v, v < D 0 2 → D 3 v < 1099511627776) (hq : ∀ r : Int32, (W = Int64.ofNat (cwf 8 w) → w < 1099511627776 → (fV D w < D 0 2 → r = Int32.ofNat (fV D w)) ∧ (¬ fV D w < D 0 2 → r = -1)) → Q r h) : C_X0_varNamed l g h x W Q := by
  have e : findN (fun i => 0 ≤ i ∧ D 3 i = w) (D 0 2) = fV D w := findN_congr (fun i _ => ⟨fun z => z.2, fun z => ⟨Nat.zero_le i, z⟩⟩)
  refine c_X0_varNamed (s_X0_varNamed_0 ?_)
  rw [rfA_7 hr hx, hA.1.1.2.2.1]
  refine ⟨isA_x hx, isA_1 hx, k_named (w := w) (N := D 3) (isA_1 hx) (by rw [szA_1 hx]; exact hV) (by omega) (lo := 0) (by omega) (fun i hi => ⟨(hA.1.2.2.1 i hi).1, hN i hi⟩) (fun r hr2 => hq r (fun a b => ?_))⟩
  have := hr2 a b
  rw [e] at this
  exact this
theorem k_windowNamed {l : Launch} {g : AG} {h : AH} {x w : Nat} {D : AD} {W : Int64} {Q : Int32 → AH → Prop} (hr : Refs h) (hx : isA x) (hA : RepP h x D) (hV : D 0 0 ≤ 8) (hN : ∀ v, v < D 0 0 → D 1 v < 1099511627776) (hq : ∀ r : Int32, (W = Int64.ofNat (cwf 8 w) → w < 1099511627776 → (fW D w < D 0 0 → r = Int32.ofNat (fW D w)) ∧ (¬ fW D w < D 0 0 → r = -1)) → Q r h) : C_X0_windowNamed l g h x W Q := by
  have e : findN (fun i => 0 ≤ i ∧ D 1 i = w) (D 0 0) = fW D w := findN_congr (fun i _ => ⟨fun z => z.2, fun z => ⟨Nat.zero_le i, z⟩⟩)
  refine c_X0_windowNamed (s_X0_windowNamed_0 ?_)
  rw [rfA_8 hr hx, hA.1.1.1]
  refine ⟨isA_x hx, isA_2 hx, k_named (w := w) (N := D 1) (isA_2 hx) (by rw [szA_2 hx]; exact hV) (by omega) (lo := 0) (by omega) (fun i hi => ⟨(hA.1.2.1 i hi).1, hN i hi⟩) (fun r hr2 => hq r (fun a b => ?_))⟩
  have := hr2 a b
  rw [e] at this
  exact this
theorem k_buttonNamed {l : Launch} {g : AG} {h : AH} {x w : Nat} {D : AD} {W : Int64} {Q : Int32 → AH → Prop} (hr : Refs h) (hx : isA x) (hA : RepP h x D) (h0 : 0 < D 0 0) (hV : D 0 0 ≤ 8) (hB : D 0 1 ≤ 24) (h18 : D 18 (D 0 0 - 1) ≤ 24) (h19 : D 19 (D 0 0 - 1) ≤ D 0 1) (hN : ∀ v, v < D 0 1 → D 2 v < 1099511627776) (hq : ∀ r : Int32, (W = Int64.ofNat (cwf 8 w) → w < 1099511627776 → (fB D w < D 19 (D 0 0 - 1) → r = Int32.ofNat (fB D w)) ∧ (¬ fB D w < D 19 (D 0 0 - 1) → r = -1)) → Q r h) : C_X0_buttonNamed l g h x (Int32.ofNat (D 0 0 - 1)) W Q := by
  have w0 := hA.1.2.1 (D 0 0 - 1) (by omega)
  refine c_X0_buttonNamed (s_X0_buttonNamed_0 ?_)
  rw [rfA_9 hr hx, rfA_14 hr hx, rfA_15 hr hx, i_cl (by omega), w0.2.2.2.2.1, w0.2.2.2.2.2]
  exact ⟨isA_x hx, isA_3 hx, isA_8 hx, vi_ok (by omega) (by rw [szA_8 hx]; omega), isA_9 hx, vi_ok (by omega) (by rw [szA_9 hx]; omega), k_named (w := w) (N := D 2) (isA_3 hx) (by rw [szA_3 hx]; omega) (by omega) h18 (fun i hi => ⟨(hA.1.2.2.2.1 i (by omega)).1, hN i (by omega)⟩) hq⟩
theorem k_isVar {l : Launch} {g : AG} {h : AH} {x : Nat} {t : Nat × Nat × Nat × Nat} {D : AD} {Q : Int32 → AH → Prop} (hr : Refs h) (hx : isA x) (cb : CB h x D) (hV : D 0 2 ≤ 6) (hN : ∀ v, v < D 0 2 → D 3 v < 1099511627776) (tc : TokC h t) (tk1 : t.1 < 256) (tkw : t.1 = 1 → isW t.2.1) (q1 : t.1 = 1 → fV D t.2.1 < D 0 2 → Q 1 (ax_setI h 67 7 (Int32.ofNat (fV D t.2.1)))) (q2 : t.1 = 1 → ¬ fV D t.2.1 < D 0 2 → Q 0 (fh (ax_setI h 67 7 (-1)) t 2)) (q0 : t.1 ≠ 1 → Q 0 (fh h t 1)) : C_X7_isVar l g h 67 Q := by
  refine c_X7_isVar (s_X7_isVar_0 ?_)
  rw [rf_67_0 hr, tc.1, cb.2.1]
  refine ⟨is_67, is_68, fun z => ⟨isA_x hx, is_68, ?_⟩, fun z => k_faulty 1 hr tc ⟨Or.inl rfl, q0 (fun y => z (by rw [y]; rfl))⟩⟩
  have t1 : t.1 = 1 := (i_eq (b := 1) (by omega) (by omega)).1 z
  refine k_varNamed (w := t.2.1) hr hx cb.1 hV hN (fun r hr2 => ?_)
  have R := hr2 (tc.2.2.2.1 t1) (tkw t1)
  intro h9 e9
  have v7 : h9.1 67 7 = r := by rw [e9, gI_s]
  have r9 : Refs h9 := by rw [e9]; exact hr.setI
  have tc9 : TokC h9 t := tc.fr (h1 := h9) (P := fun c _ => c = 67) (by rw [e9]; exact (Fr.refl _ _).setI rfl) (fun c p q => by omega)
  rw [v7]
  by_cases c : fV D t.2.1 < D 0 2
  · have er := R.1 c
    refine ⟨fun _ => ?_, fun y => absurd y (by rw [er]; exact i_ne (by omega))⟩
    rw [e9, er]; exact q1 t1 c
  · have er := R.2 c
    refine ⟨fun y => absurd er y, fun _ => k_faulty 2 r9 tc9 ⟨fun _ => ?_, fun y => absurd rfl y⟩⟩
    rw [e9, er]; exact q2 t1 c
theorem take_1 {l : Launch} {g : AG} {h : AH} {x : Nat} {D : AD} {t : Nat × Nat × Nat × Nat} {Q : Int32 → AH → Prop} (hr : Refs h) (hx : isA x) (cs : CS h x 1 D) (hV : D 0 2 ≤ 6) (hN : ∀ v, v < D 0 2 → D 3 v < 1099511627776) (tc : TokC h t) (tk1 : t.1 < 256) (tkw : t.1 = 1 → isW t.2.1) (q : TQ h x t (stp 1 D t.1 t.2.1 t.2.2.1) Q) : C_X7_takeVarName l g h 67 Q := by
  obtain ⟨cb, _, cr⟩ := cs
  refine c_X7_takeVarName (s_X7_takeVarName_0 ?_)
  rw [rf_67_0 hr, cb.2.1]
  refine ⟨is_67, isA_x hx, is_68, k_varNamed (w := t.2.1) hr hx cb.1 hV hN (fun r R => ?_)⟩
  refine k_isNewName hr tc tk1 (fun t1 e => ⟨fun _ => ?_, fun z => absurd z (by decide)⟩) (fun t1 e => ⟨fun z => absurd rfl z, fun _ => q.bad (c := 3) (a := 0) (D := D) ?_ (by decide) hr (Fr.refl _ _)⟩) (fun t1 => ⟨fun z => absurd rfl z, fun _ => q.bad (c := 1) (a := 0) (D := D) ?_ (by decide) hr (Fr.refl _ _)⟩)
  · have R := R (tc.2.2.2.1 t1) (tkw t1)
    have nf : ¬ fV D t.2.1 < D 0 2 := fun z => by rw [R.1 z] at e; exact i_ne (by omega) e
    rw [rf_67_0 hr, tc.2.2.2.1 t1]
    refine ⟨is_68, ?_⟩
    intro h12 e12
    have r12 : Refs h12 := by rw [e12]; exact hr.setL
    have f12 : Fr (PRd x) h h12 := by rw [e12]; exact (Fr.refl _ _).setL (Or.inr (Or.inl ⟨rfl, by omega⟩))
    have g12 : Fr (fun c p => c = 67 ∧ p = 5) h h12 := by rw [e12]; exact (Fr.refl _ _).setL ⟨rfl, rfl⟩
    refine k_awaits 2 ⟨Or.inr rfl, q.ok hx (a := 2) (D := up D 30 1 t.2.1) (by rw [stp_1, if_neg (fun z => z t1), if_neg nf]) r12 f12 ((cb.fr hx g12 (fun c p q => by omega)).reg (fun t ht => up_t (by omega)) (up_n (by omega)) (up_n (by omega)) (up_t (by omega))) ⟨fun _ => ?_, fun _ => ?_, fun u => absurd u (by decide), fun u => absurd u (by decide), fun u => absurd u (by decide)⟩⟩
    · rw [(g12 67 6 (by omega)).1, up_n (by omega)]; exact cr.1 (Or.inl rfl)
    · rw [e12, up_s]; exact gL_s _ _ _ _
  · have R := R (tc.2.2.2.1 t1) (tkw t1)
    have nf : fV D t.2.1 < D 0 2 := Classical.byContradiction fun z => e (R.2 z)
    rw [stp_1, if_neg (fun z => z t1), if_pos nf]
  · rw [stp_1, if_pos t1]
theorem take_2 {l : Launch} {g : AG} {h : AH} {x : Nat} {D : AD} {t : Nat × Nat × Nat × Nat} {Q : Int32 → AH → Prop} (hr : Refs h) (hx : isA x) (cs : CS h x 2 D) (hV : D 0 2 < 6) (hk : D 30 2 ≤ 1) (tc : TokC h t) (tk1 : t.1 < 256) (tk2 : t.1 = 2 → t.2.1 < 100) (q : TQ h x t (stp 2 D t.1 t.2.1 t.2.2.1) Q) : C_X7_takeVarMost l g h 67 Q := by
  have hxu : x = 4 ∨ x = 25 ∨ x = 46 := hx
  obtain ⟨cb, _, cr⟩ := cs
  refine c_X7_takeVarMost (s_X7_takeVarMost_0 ⟨is_67, ?_⟩)
  refine k_isNumber (lo := 1) (hi := 9) hr tc tk1 tk2 (by omega) (by omega) (fun t2 a b => ⟨fun _ => ?_, fun z => absurd z (by decide)⟩) (fun t2 a => ⟨fun z => absurd rfl z, fun _ => q.bad (c := 4) (a := 0) (D := D) ?_ (by decide) hr (Fr.refl _ _)⟩) (fun t2 => ⟨fun z => absurd rfl z, fun _ => q.bad (c := 1) (a := 0) (D := D) ?_ (by decide) hr (Fr.refl _ _)⟩)
  · rw [rf_67_0 hr, cb.2.1, cr.2.1 rfl, cr.1 (Or.inr rfl), tc.2.2.2.2 t2]
    refine ⟨isA_x hx, is_68, k_addVar hr hx cb.1 hV hk (fun h9 r9 f9 hA9 => ?_)⟩
    refine k_awaits 3 ⟨Or.inr rfl, q.ok hx (a := 3) (D := addVar D (D 30 1) t.2.1 (D 30 2)) ?_ r9 (f9.mono (fun c p q => Or.inl q)) (cb.add hx f9 hA9 (fun t ht => ?_)) (CR.none (by omega))⟩
    · rw [stp_2, if_neg (fun z => z t2), if_neg (by omega)]
    · unfold addVar
      simp (disch := first | assumption | omega) only [up_t]
  · rw [stp_2, if_neg (fun z => z t2), if_pos (by omega)]
  · rw [stp_2, if_pos t2]
theorem take_4 {l : Launch} {g : AG} {h : AH} {x : Nat} {D : AD} {t : Nat × Nat × Nat × Nat} {Q : Int32 → AH → Prop} (hr : Refs h) (hx : isA x) (cs : CS h x 4 D) (hW : D 0 0 < 8) (hB : D 0 1 ≤ 24) (hN : ∀ v, v < D 0 0 → D 1 v < 1099511627776) (tc : TokC h t) (tk1 : t.1 < 256) (tkw : t.1 = 1 → isW t.2.1) (q : TQ h x t (stp 4 D t.1 t.2.1 t.2.2.1) Q) : C_X7_takeWindowName l g h 67 Q := by
  obtain ⟨cb, _, cr⟩ := cs
  refine c_X7_takeWindowName (s_X7_takeWindowName_0 ?_)
  rw [rf_67_0 hr, cb.2.1]
  refine ⟨is_67, isA_x hx, is_68, k_windowNamed (w := t.2.1) hr hx cb.1 (by omega) hN (fun r R => ?_)⟩
  refine k_isNewName hr tc tk1 (fun t1 e => ⟨fun _ => ?_, fun z => absurd z (by decide)⟩) (fun t1 e => ⟨fun z => absurd rfl z, fun _ => q.bad (c := 3) (a := 0) (D := D) ?_ (by decide) hr (Fr.refl _ _)⟩) (fun t1 => ⟨fun z => absurd rfl z, fun _ => q.bad (c := 1) (a := 0) (D := D) ?_ (by decide) hr (Fr.refl _ _)⟩)
  · have R := R (tc.2.2.2.1 t1) (tkw t1)
    have nf : ¬ fW D t.2.1 < D 0 0 := fun z => by rw [R.1 z] at e; exact i_ne (by omega) e
    rw [rf_67_0 hr, cb.2.1, tc.2.2.2.1 t1]
    refine ⟨isA_x hx, is_68, k_addWin hr hx cb.1 hW hB (fun h9 r9 f9 hA9 => ?_)⟩
    refine k_awaits 5 ⟨Or.inr rfl, q.ok hx (a := 5) (D := addWin D t.2.1) (by rw [stp_4, if_neg (fun z => z t1), if_neg nf]) r9 (f9.mono (fun c p q => Or.inl q)) (cb.add hx f9 hA9 (fun t ht => ?_)) (CR.none (by omega))⟩
    unfold addWin
    simp (disch := first | assumption | omega) only [up_t]
  · have R := R (tc.2.2.2.1 t1) (tkw t1)
    have nf : fW D t.2.1 < D 0 0 := Classical.byContradiction fun z => e (R.2 z)
    rw [stp_4, if_neg (fun z => z t1), if_pos nf]
  · rw [stp_4, if_pos t1]
theorem take_7 {l : Launch} {g : AG} {h : AH} {x : Nat} {D : AD} {t : Nat × Nat × Nat × Nat} {Q : Int32 → AH → Prop} (hr : Refs h) (hx : isA x) (cs : CS h x 7 D) (h0 : 0 < D 0 0) (hW : D 0 0 ≤ 8) (hV : D 0 2 ≤ 6) (hN : ∀ v, v < D 0 2 → D 3 v < 1099511627776) (h6 : D 6 (D 0 0 - 1) < 6) (h66 : ∀ w, w < D 0 0 → D 6 w ≤ 6) (tc : TokC h t) (tk1 : t.1 < 256) (tkw : t.1 = 1 → isW t.2.1) (q : TQ h x t (stp 7 D t.1 t.2.1 t.2.2.1) Q) : C_X7_takeShowName l g h 67 Q := by
  have hxu : x = 4 ∨ x = 25 ∨ x = 46 := hx
  obtain ⟨cb, _, cr⟩ := cs
  have g7 : ∀ v, Fr (PRd x) h (ax_setI h 67 7 v) := fun v => (Fr.refl _ _).setI (Or.inr (Or.inl ⟨rfl, by omega⟩))
  refine c_X7_takeShowName (s_X7_takeShowName_0 ⟨is_67, ?_⟩)
  refine k_isVar hr hx cb hV hN tc tk1 tkw (fun t1 c => ⟨fun _ => ?_, fun z => absurd z (by decide)⟩) (fun t1 c => ⟨fun z => absurd rfl z, fun _ => q.bad (c := 2) (a := 0) (D := D) ?_ (by decide) hr.setI (g7 _)⟩) (fun t1 => ⟨fun z => absurd rfl z, fun _ => q.bad (c := 1) (a := 0) (D := D) ?_ (by decide) hr (Fr.refl _ _)⟩)
  · have e1 : (ax_setI h 67 7 (Int32.ofNat (fV D t.2.1))).2.2 67 1 = x := cb.2.1
    have fx : Fr (fun c p => c = 67 ∧ p = 7) h (ax_setI h 67 7 (Int32.ofNat (fV D t.2.1))) := (Fr.refl _ _).setI ⟨rfl, rfl⟩
    have hA2 : RepP (ax_setI h 67 7 (Int32.ofNat (fV D t.2.1))) x (up D 30 3 (fV D t.2.1)) := (cb.1.fr fx (fun c p h1 h2 q => by omega)).reg (fun t ht => up_t (by omega))
    have cb2 : CB (ax_setI h 67 7 (Int32.ofNat (fV D t.2.1))) x (up D 30 3 (fV D t.2.1)) := by
      refine ⟨hA2, cb.2.1, by rw [gI_s, up_s], ?_, fun i hi => ?_⟩
      · rw [gI_p (by omega), up_n (by omega)]; exact cb.2.2.2.1
      · rw [up_n (by omega)] at hi
        rw [up_t (by omega), up_t (by omega), up_t (by omega), gI_c (by omega), gI_c (by omega)]
        exact cb.2.2.2.2 i hi
    have u0 : up D 30 3 (fV D t.2.1) 0 = D 0 := up_t (by omega)
    have u6 : up D 30 3 (fV D t.2.1) 6 = D 6 := up_t (by omega)
    have n0 : (ax_setI h 67 7 (Int32.ofNat (fV D t.2.1))).1 x 0 = Int32.ofNat (D 0 0) := by rw [gI_c (by omega)]; exact cb.1.1.1.1
    rw [e1, n0, gI_s, i_m1 h0]
    have K := k_addShow (l := l) (g := g) (v := fV D t.2.1) (Q := fun h9 => C_X7_awaits l g h9 67 8 fun r12 h11 => (r12 = 0 ∨ r12 = 1) ∧ Q r12 h11) hr.setI hx hA2 (by rw [u0]; exact h0) (by rw [u0]; exact hW) (by rw [u0, u6]; exact h6) (by rw [u0, u6]; exact h66) (fun h9 r9 f9 hA9 => k_awaits 8 ⟨Or.inr rfl, q.ok hx (a := 8) (D := addShow (up D 30 3 (fV D t.2.1)) (fV D t.2.1)) (by rw [stp_7, if_neg (fun z => z t1), if_pos c]) r9 ((g7 _).trans (f9.mono (fun c p q => Or.inl q))) (cb2.add hx f9 hA9 (fun t ht => by unfold addShow; simp (disch := first | assumption | omega) only [up_t])) (CR.none (by omega))⟩)
    rw [u0] at K
    exact ⟨isA_x hx, isA_x hx, K⟩
  · rw [stp_7, if_neg (fun z => z t1), if_neg c]
  · rw [stp_7, if_pos t1]
