theorem take_9 {l : Launch} {g : AG} {h : AH} {x : Nat} {D : AD} {t : Nat × Nat × Nat × Nat} {Q : Int32 → AH → Prop} (hr : Refs h) (hx : isA x) (cs : CS h x 9 D) (h0 : 0 < D 0 0) (hW : D 0 0 ≤ 8) (hB : D 0 1 < 24) (h18 : D 18 (D 0 0 - 1) ≤ 24) (h19 : D 19 (D 0 0 - 1) ≤ D 0 1) (hN : ∀ v, v < D 0 1 → D 2 v < 1099511627776) (tc : TokC h t) (tk1 : t.1 < 256) (tkw : t.1 = 1 → isW t.2.1) (q : TQ h x t (stp 9 D t.1 t.2.1 t.2.2.1) Q) : C_X7_takeButtonName l g h 67 Q := by
  have hxu : x = 4 ∨ x = 25 ∨ x = 46 := hx
  obtain ⟨cb, _, cr⟩ := cs
  have n0 := cb.1.1.1.1
  have n1 := cb.1.1.1.2.1
  refine c_X7_takeButtonName (s_X7_takeButtonName_0 ?_)
  rw [rf_67_0 hr, cb.2.1, n0, i_m1 h0]
  refine ⟨is_67, isA_x hx, ?_⟩
  intro v3 e3
  rw [e3]
  refine ⟨isA_x hx, is_68, k_buttonNamed (w := t.2.1) hr hx cb.1 h0 hW (by omega) h18 h19 hN (fun r R => ?_)⟩
  refine k_isNewName hr tc tk1 (fun t1 e => ⟨fun _ => ?_, fun z => absurd z (by decide)⟩) (fun t1 e => ⟨fun z => absurd rfl z, fun _ => q.bad (c := 3) (a := 0) (D := D) ?_ (by decide) hr (Fr.refl _ _)⟩) (fun t1 => ⟨fun z => absurd rfl z, fun _ => q.bad (c := 1) (a := 0) (D := D) ?_ (by decide) hr (Fr.refl _ _)⟩)
  · have R := R (tc.2.2.2.1 t1) (tkw t1)
    have nf : ¬ fB D t.2.1 < D 19 (D 0 0 - 1) := fun z => by rw [R.1 z] at e; exact i_ne (by omega) e
    rw [cb.2.1, n1]
    refine ⟨isA_x hx, ?_⟩
    intro h15 e15
    have r15 : Refs h15 := by rw [e15]; exact hr.setI
    have v1 : h15.2.2 67 1 = x := by rw [e15]; exact cb.2.1
    have v5 : h15.2.1 68 5 = Int64.ofNat (cwf 8 t.2.1) := by rw [e15]; exact tc.2.2.2.1 t1
    have f15 : Fr (PRd x) h h15 := by rw [e15]; exact (Fr.refl _ _).setI (Or.inr (Or.inl ⟨rfl, by omega⟩))
    have cb2 : CB h15 x (up D 30 6 (D 0 1)) := by rw [e15]; exact cb_r hx cb (by omega) (by omega)
    have v10 : h15.1 67 10 = Int32.ofNat (D 0 1) := by rw [e15, gI_s]
    rw [v1, rf_67_0 r15, v5]
    have u0 : up D 30 6 (D 0 1) 0 = D 0 := up_t (by omega)
    have K := k_addBut (l := l) (g := g) (nm := t.2.1) (Q := fun h20 => C_X7_awaits l g h20 67 10 fun r23 h22 => (r23 = 0 ∨ r23 = 1) ∧ Q r23 h22) r15 hx cb2.1 (by rw [u0]; exact h0) (by rw [u0]; exact hW) (by rw [u0]; exact hB) (fun h9 r9 f9 hA9 => k_awaits 10 ⟨Or.inr rfl, q.ok hx (a := 10) (D := addBut (up D 30 6 (D 0 1)) t.2.1) (by rw [stp_9, if_neg (fun z => z t1), if_neg nf]) r9 (f15.trans (f9.mono (fun c p q => Or.inl q))) (cb2.add hx f9 hA9 (fun t ht => by unfold addBut; simp (disch := first | assumption | omega) only [up_t])) (CR.list (by omega) (by
      rw [(f9 67 10 (fun q => by unfold PAx at q; omega)).1, v10]
      congr 1))⟩)
    rw [u0] at K
    exact ⟨isA_x hx, is_68, K⟩
  · have R := R (tc.2.2.2.1 t1) (tkw t1)
    have nf : fB D t.2.1 < D 19 (D 0 0 - 1) := Classical.byContradiction fun z => e (R.2 z)
    rw [stp_9, if_neg (fun z => z t1), if_pos nf]
  · rw [stp_9, if_pos t1]
theorem take_11 {l : Launch} {g : AG} {h : AH} {x : Nat} {D : AD} {t : Nat × Nat × Nat × Nat} {Q : Int32 → AH → Prop} (hr : Refs h) (hx : isA x) (cs : CS h x 11 D) (hB0 : 0 < D 0 1) (hB : D 0 1 ≤ 24) (hc3 : D 10 (D 0 1 - 1) ≤ 3) (hV : D 0 2 ≤ 6) (hN : ∀ v, v < D 0 2 → D 3 v < 1099511627776) (tc : TokC h t) (tk1 : t.1 < 256) (tkw : t.1 = 1 → isW t.2.1) (q : TQ h x t (stp 11 D t.1 t.2.1 t.2.2.1) Q) : C_X7_takeCondName l g h 67 Q := by
  have hxu : x = 4 ∨ x = 25 ∨ x = 46 := hx
  obtain ⟨cb, _, cr⟩ := cs
  have g7 : ∀ v, Fr (PRd x) h (ax_setI h 67 7 v) := fun v => (Fr.refl _ _).setI (Or.inr (Or.inl ⟨rfl, by omega⟩))
  refine c_X7_takeCondName (s_X7_takeCondName_0 ⟨is_67, ?_⟩)
  refine k_isVar hr hx cb hV hN tc tk1 tkw (fun t1 c => ⟨fun _ => ?_, fun z => absurd z (by decide)⟩) (fun t1 c => ⟨fun z => absurd rfl z, fun _ => q.bad (c := 2) (a := 0) (D := D) ?_ (by decide) hr.setI (g7 _)⟩) (fun t1 => ⟨fun z => absurd rfl z, fun _ => q.bad (c := 1) (a := 0) (D := D) ?_ (by decide) hr (Fr.refl _ _)⟩)
  · have cb2 := cb_v (fV D t.2.1) hx cb
    have r3 : Refs (ax_setI h 67 7 (Int32.ofNat (fV D t.2.1))) := hr.setI
    have tc3 : TokC (ax_setI h 67 7 (Int32.ofNat (fV D t.2.1))) t := tc.fr ((Fr.refl (fun c _ => c = 67) h).setI rfl) (fun c p q => by omega)
    have n1 := cb2.1.1.1.2.1
    have c0 := (cb2.1.1.2.2.2.2.1 (D 0 1 - 1) (by rw [up_t (by omega)]; omega)).1
    have v10 : (ax_setI h 67 7 (Int32.ofNat (fV D t.2.1))).1 67 10 = Int32.ofNat (D 30 6) := by rw [gI_p (by omega)]; exact cr.2.2.2.2 (by decide)
    have f3 := g7 (Int32.ofNat (fV D t.2.1))
    revert cb2 r3 tc3 n1 c0 v10 f3
    generalize ax_setI h 67 7 (Int32.ofNat (fV D t.2.1)) = h3
    intro cb2 r3 tc3 n1 c0 v10 f3
    rw [up_t (by omega)] at n1 c0
    rw [cb2.2.1, rfA_17 r3 hx, rfC_0 r3 hx, n1, i_m1 hB0, i_cl (by omega), c0]
    refine ⟨isA_x hx, isA_11 hx, isA_12 hx, isA_x hx, vi_ok (by omega) (by rw [szA_12 hx]; omega), ?_⟩
    intro v11 e11
    rw [e11]
    refine ⟨fun z => k_faulty 5 r3 tc3 ⟨Or.inl rfl, q.bad (c := 5) (a := 0) (D := D) ?_ (by decide) r3 f3⟩, fun z => k_awaits 12 ⟨Or.inr rfl, q.ok hx (a := 12) (D := up D 30 3 (fV D t.2.1)) ?_ r3 f3 cb2 (CR.list (by omega) (by rw [up_n (by omega)]; exact v10))⟩⟩
    · have := (i_le (a := 3) (by omega) (by omega)).1 z
      rw [stp_11, if_neg (fun z => z t1), if_pos c, if_neg (by omega)]
    · have : D 10 (D 0 1 - 1) < 3 := by
        rcases Nat.lt_or_ge (D 10 (D 0 1 - 1)) 3 with y | y
        · exact y
        · exact absurd ((i_le (a := 3) (by omega) (by omega)).2 y) z
      rw [stp_11, if_neg (fun z => z t1), if_pos c, if_pos this]
  · rw [stp_11, if_neg (fun z => z t1), if_neg c]
  · rw [stp_11, if_pos t1]
theorem take_12 {l : Launch} {g : AG} {h : AH} {x : Nat} {D : AD} {t : Nat × Nat × Nat × Nat} {Q : Int32 → AH → Prop} (hr : Refs h) (hx : isA x) (cs : CS h x 12 D) (tc : TokC h t) (tk1 : t.1 < 256) (q : TQ h x t (stp 12 D t.1 t.2.1 t.2.2.1) Q) : C_X7_takeCondSign l g h 67 Q := by
  obtain ⟨cb, _, cr⟩ := cs
  refine c_X7_takeCondSign (s_X7_takeCondSign_0 ?_)
  rw [rf_67_0 hr, tc.1]
  refine ⟨is_67, is_68, k_isComparison (by omega) (fun z => ⟨fun _ => ?_, fun u => absurd u (by decide)⟩) (fun z => ⟨fun u => absurd rfl u, fun _ => k_faulty 1 hr tc ⟨Or.inl rfl, q.bad (c := 1) (a := 0) (D := D) (by rw [stp_12, if_neg z]) (by decide) hr (Fr.refl _ _)⟩⟩)⟩
  rw [rf_67_0 hr, tc.1]
  refine ⟨is_68, ?_⟩
  intro h8 e8
  rw [e8]
  refine k_awaits 13 ⟨Or.inr rfl, q.ok hx (a := 13) (D := up D 30 4 t.1) (by rw [stp_12, if_pos z]) hr.setI ((Fr.refl _ _).setI (Or.inr (Or.inl ⟨rfl, by omega⟩))) (cb_r hx cb (by omega) (by omega)) ⟨fun u => absurd u (by decide), fun u => absurd u (by decide), fun _ => by rw [gI_s, up_s], fun u => absurd u (by decide), fun _ => ?_⟩⟩
  rw [gI_p (by omega), up_n (by omega)]
  exact cr.2.2.2.2 (by decide)
theorem take_13 {l : Launch} {g : AG} {h : AH} {x : Nat} {D : AD} {t : Nat × Nat × Nat × Nat} {Q : Int32 → AH → Prop} (hr : Refs h) (hx : isA x) (cs : CS h x 13 D) (hB0 : 0 < D 0 1) (hB : D 0 1 ≤ 24) (h3 : D 10 (D 0 1 - 1) < 3) (hc3 : ∀ b, b < D 0 1 → D 10 b ≤ 3) (hv : D 30 3 < 6) (hs : D 30 4 = 61 ∨ D 30 4 = 60 ∨ D 30 4 = 62) (tc : TokC h t) (tk1 : t.1 < 256) (tk2 : t.1 = 2 → t.2.1 < 100) (q : TQ h x t (stp 13 D t.1 t.2.1 t.2.2.1) Q) : C_X7_takeCondNumber l g h 67 Q := by
  have hxu : x = 4 ∨ x = 25 ∨ x = 46 := hx
  obtain ⟨cb, _, cr⟩ := cs
  have n1 := cb.1.1.1.2.1
  refine c_X7_takeCondNumber (s_X7_takeCondNumber_0 ⟨is_67, ?_⟩)
  refine k_isNumber (lo := 0) (hi := 9) hr tc tk1 tk2 (by omega) (by omega) (fun t2 a b => ⟨fun _ => ?_, fun z => absurd z (by decide)⟩) (fun t2 a => ⟨fun z => absurd rfl z, fun _ => q.bad (c := 4) (a := 0) (D := D) ?_ (by decide) hr (Fr.refl _ _)⟩) (fun t2 => ⟨fun z => absurd rfl z, fun _ => q.bad (c := 1) (a := 0) (D := D) ?_ (by decide) hr (Fr.refl _ _)⟩)
  · rw [rf_67_0 hr, cb.2.1, rfA_17 hr hx, n1, i_m1 hB0, cb.2.2.1, cr.2.2.1 rfl, tc.2.2.2.2 t2]
    refine ⟨isA_x hx, isA_11 hx, isA_x hx, is_68, k_addCond hr hx cb.1 hB0 hB h3 hc3 hv b hs (fun h9 r9 f9 hA9 => ?_)⟩
    have tg : ∀ t', 18 ≤ t' → addCond D (D 30 3) (D 30 4) t.2.1 t' = D t' := fun t' ht => by
      unfold addCond
      simp (disch := first | assumption | omega) only [up_t]
    refine k_awaits 14 ⟨Or.inr rfl, q.ok hx (a := 14) (D := addCond D (D 30 3) (D 30 4) t.2.1) ?_ r9 (f9.mono (fun c p q => Or.inl q)) (cb.add hx f9 hA9 (fun t' ht => tg t' (by omega))) (CR.list (by omega) ?_)⟩
    · rw [stp_13, if_neg (fun z => z t2), if_neg (by omega)]
    · rw [(f9 67 10 (fun q => by unfold PAx at q; omega)).1, tg 30 (by omega)]
      exact cr.2.2.2.2 (by decide)
  · rw [stp_13, if_neg (fun z => z t2), if_pos (by omega)]
  · rw [stp_13, if_pos t2]
