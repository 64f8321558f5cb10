theorem take_15 {l : Launch} {g : AG} {h : AH} {x : Nat} {D : AD} {t : Nat × Nat × Nat × Nat} {Q : Int32 → AH → Prop} (hr : Refs h) (hx : isA x) (cs : CS h x 15 D) (h0 : 0 < D 0 0) (hW : D 0 0 ≤ 8) (hB : D 0 1 ≤ 24) (hz : D 8 (D 0 0 - 1) = 0) (tc : TokC h t) (tk1 : t.1 < 256) (tk2 : t.1 = 2 → t.2.1 < 100) (q : TQ h x t (stp 15 D t.1 t.2.1 t.2.2.1) Q) : C_X7_takeTimerTicks l g h 67 Q := by
  have hxu : x = 4 ∨ x = 25 ∨ x = 46 := hx
  obtain ⟨cb, _, cr⟩ := cs
  have n0 := cb.1.1.1.1
  refine c_X7_takeTimerTicks (s_X7_takeTimerTicks_0 ⟨is_67, ?_⟩)
  refine k_isNumber (lo := 1) (hi := 9) hr tc tk1 tk2 (by omega) (by omega) (fun t2 a b => ⟨fun _ => ?_, fun z => absurd z (by decide)⟩) (fun t2 a => ⟨fun z => absurd rfl z, fun _ => q.bad (c := 4) (a := 0) (D := D) ?_ (by decide) hr (Fr.refl _ _)⟩) (fun t2 => ⟨fun z => absurd rfl z, fun _ => q.bad (c := 1) (a := 0) (D := D) ?_ (by decide) hr (Fr.refl _ _)⟩)
  · rw [cb.2.1, n0, i_m1 h0]
    refine ⟨isA_x hx, ?_⟩
    intro v7 e7
    rw [e7]
    refine k_ofTimer ?_
    intro h12 e12
    have r12 : Refs h12 := by rw [e12]; exact hr.setI
    have v1 : h12.2.2 67 1 = x := by rw [e12]; exact cb.2.1
    have v6 : h12.1 68 6 = Int32.ofNat t.2.1 := by rw [e12, gI_c (by omega)]; exact tc.2.2.2.2 t2
    have f12 : Fr (PRd x) h h12 := by rw [e12]; exact (Fr.refl _ _).setI (Or.inr (Or.inl ⟨rfl, by omega⟩))
    have cb2 : CB h12 x (up D 30 6 (24 + (D 0 0 - 1))) := by rw [e12]; exact cb_r hx cb (by omega) (by omega)
    have v10 : h12.1 67 10 = Int32.ofNat (24 + (D 0 0 - 1)) := by rw [e12, gI_s]
    have u0 : up D 30 6 (24 + (D 0 0 - 1)) 0 = D 0 := up_t (by omega)
    have u8 : up D 30 6 (24 + (D 0 0 - 1)) 8 = D 8 := up_t (by omega)
    rw [v1, rf_67_0 r12, v6]
    have K := k_addTim (l := l) (g := g) (m := t.2.1) (Q := fun h17 => C_X7_awaits l g h17 67 16 fun r20 h19 => (r20 = 0 ∨ r20 = 1) ∧ Q r20 h19) r12 hx cb2.1 (by rw [u0]; exact h0) (by rw [u0]; exact hW) (by rw [u0]; exact hB) (by rw [u0, u8]; exact hz) (by omega) (fun h9 r9 f9 hA9 => k_awaits 16 ⟨Or.inr rfl, q.ok hx (a := 16) (D := addTim (up D 30 6 (24 + (D 0 0 - 1))) t.2.1) (by rw [stp_15, if_neg (fun z => z t2), if_neg (by omega)]) r9 (f12.trans (f9.mono (fun c p q => Or.inl q))) (cb2.add hx f9 hA9 (fun t ht => by unfold addTim; simp (disch := first | assumption | omega) only [up_t])) (CR.list (by omega) (by
      rw [(f9 67 10 (fun q => by unfold PAx at q; omega)).1, v10]
      congr 1))⟩)
    rw [u0] at K
    exact ⟨isA_x hx, is_68, K⟩
  · rw [stp_15, if_neg (fun z => z t2), if_pos (by omega)]
  · rw [stp_15, if_pos t2]
theorem take_19 {l : Launch} {g : AG} {h : AH} {x : Nat} {D : AD} {t : Nat × Nat × Nat × Nat} {Q : Int32 → AH → Prop} (hr : Refs h) (hx : isA x) (cs : CS h x 19 D) (hV : D 0 2 ≤ 6) (hN : ∀ v, v < D 0 2 → D 3 v < 1099511627776) (tc : TokC h t) (tk1 : t.1 < 256) (tkw : t.1 = 1 → isW t.2.1) (q : TQ h x t (stp 19 D t.1 t.2.1 t.2.2.1) Q) : C_X7_takeDeedVar l g h 67 Q := by
  obtain ⟨cb, _, cr⟩ := cs
  have g7 : ∀ v, Fr (PRd x) h (ax_setI h 67 7 v) := fun v => (Fr.refl _ _).setI (Or.inr (Or.inl ⟨rfl, by omega⟩))
  refine c_X7_takeDeedVar (s_X7_takeDeedVar_0 ⟨is_67, ?_⟩)
  refine k_isVar hr hx cb hV hN tc tk1 tkw (fun t1 c => ⟨fun z => absurd z (by decide), fun _ => ?_⟩) (fun t1 c => ⟨fun _ => q.bad (c := 2) (a := 0) (D := D) ?_ (by decide) hr.setI (g7 _), fun z => absurd rfl z⟩) (fun t1 => ⟨fun _ => q.bad (c := 1) (a := 0) (D := D) ?_ (by decide) hr (Fr.refl _ _), fun z => absurd rfl z⟩)
  · refine k_awaits 20 ⟨fun z => absurd z (by decide), fun _ => q.ok hx (a := 20) (D := up D 30 3 (fV D t.2.1)) (by rw [stp_19, if_neg (fun z => z t1), if_pos c]) hr.setI (g7 _) (cb_v _ hx cb) ⟨fun u => absurd u (by decide), fun u => absurd u (by decide), fun u => absurd u (by decide), fun _ => ?_, fun _ => ?_⟩⟩
    · rw [gI_p (by omega), up_n (by omega)]; exact cr.2.2.2.1 (by decide)
    · rw [gI_p (by omega), up_n (by omega)]; exact cr.2.2.2.2 (by decide)
  · rw [stp_19, if_neg (fun z => z t1), if_neg c]
  · rw [stp_19, if_pos t1]
theorem take_20 {l : Launch} {g : AG} {h : AH} {x : Nat} {D : AD} {t : Nat × Nat × Nat × Nat} {Q : Int32 → AH → Prop} (hr : Refs h) (hx : isA x) (cs : CS h x 20 D) (hl : isL D (D 30 6)) (hW : D 0 0 ≤ 8) (hB : D 0 1 ≤ 24) (h4 : D 14 (D 30 6) < 4) (hd4 : ∀ k, D 14 k ≤ 4) (hd : D 30 5 = 2 ∨ D 30 5 = 3 ∨ D 30 5 = 4) (hv : D 30 5 = 2 → D 30 3 < D 0 2) (hV : D 0 2 ≤ 6) (hm : D 30 5 = 2 → D 4 (D 30 3) ≤ 9) (tc : TokC h t) (tk1 : t.1 < 256) (tk2 : t.1 = 2 → t.2.1 < 100) (q : TQ h x t (stp 20 D t.1 t.2.1 t.2.2.1) Q) : C_X7_takeDeedNumber l g h 67 Q := by
  have hxu : x = 4 ∨ x = 25 ∨ x = 46 := hx
  obtain ⟨cb, _, cr⟩ := cs
  have v9 := cr.2.2.2.1 (show 18 ≤ 20 ∧ 20 ≤ 20 by decide)
  have v10 := cr.2.2.2.2 (show 10 ≤ 20 ∧ 20 ≤ 21 ∧ 20 ≠ 15 by decide)
  have fin : ∀ lo hi, lo = (if D 30 5 = 2 then 0 else 1) → hi = (if D 30 5 = 4 then 20 else if D 30 5 = 2 then D 4 (D 30 3) else 9) → hi < 100 → L_X7_takeDeedNumber_51 l g h 67 (Int32.ofNat lo) (Int32.ofNat hi) Q := by
    intro lo hi elo ehi hh
    have hl1 : lo < 100 := by rw [elo]; split <;> omega
    refine s_X7_takeDeedNumber_51 ⟨is_67, ?_⟩
    refine k_isNumber hr tc tk1 tk2 hl1 hh (fun t2 a b => ⟨fun _ => ?_, fun z => absurd z (by decide)⟩) (fun t2 a => ⟨fun z => absurd rfl z, fun _ => q.bad (c := 4) (a := 0) (D := D) ?_ (by decide) hr (Fr.refl _ _)⟩) (fun t2 => ⟨fun z => absurd rfl z, fun _ => q.bad (c := 1) (a := 0) (D := D) ?_ (by decide) hr (Fr.refl _ _)⟩)
    · rw [rf_67_0 hr, cb.2.1, rfA_18 hr hx, v9, v10, cb.2.2.1, tc.2.2.2.2 t2]
      refine ⟨isA_x hx, isA_16 hx, is_68, k_addDeed (on := if D 30 5 = 4 then t.2.1 else D 30 3) (num := t.2.1) hr hx cb.1 hl hW hB h4 hd4 (by omega) (fun _ z => by rw [if_neg z]) (fun _ => rfl) (fun z => by rw [if_pos z]) (fun h9 r9 f9 hA9 => ?_)⟩
      have tg : ∀ t', 18 ≤ t' → addDeed D (D 30 6) (D 30 5) (if D 30 5 = 4 then t.2.1 else D 30 3) t.2.1 t' = D t' := fun t' ht => by
        unfold addDeed
        simp (disch := first | assumption | omega) only [up_t]
      refine k_awaits 21 ⟨Or.inr rfl, q.ok hx (a := 21) (D := addDeed D (D 30 6) (D 30 5) (if D 30 5 = 4 then t.2.1 else D 30 3) t.2.1) ?_ r9 (f9.mono (fun c p q => Or.inl q)) (cb.add hx f9 hA9 (fun t' ht => tg t' (by omega))) (CR.list (by omega) ?_)⟩
      · rw [stp_20, if_neg (fun z => z t2), ← elo, ← ehi, if_neg (by omega)]
      · rw [(f9 67 10 (fun q => by unfold PAx at q; omega)).1, tg 30 (by omega)]
        exact v10
    · rw [stp_20, if_neg (fun z => z t2), ← elo, ← ehi, if_pos a]
    · rw [stp_20, if_pos t2]
  have v29 : ∀ lo, lo = (if D 30 5 = 2 then 0 else 1) → ∀ hi, (D 30 5 = 4 → hi = 20) → (D 30 5 ≠ 4 → hi = 9) → L_X7_takeDeedNumber_29 l g h 67 (Int32.ofNat lo) (Int32.ofNat hi) Q := by
    intro lo elo hi h1 h2
    refine s_X7_takeDeedNumber_29 ?_
    rw [v9]
    refine ⟨is_67, fun z => fin lo hi elo ?_ ?_, fun z => ?_⟩
    · have ne : ¬ D 30 5 = 2 := fun y => z (by rw [y]; rfl)
      by_cases c : D 30 5 = 4
      · rw [if_pos c]; exact h1 c
      · rw [if_neg c, if_neg ne]; exact h2 c
    · by_cases c : D 30 5 = 4
      · rw [h1 c]; omega
      · rw [h2 c]; omega
    · have e2 : D 30 5 = 2 := (i_eq (b := 2) (by omega) (by omega)).1 z
      have hv2 := hv e2
      have hm2 := hm e2
      rw [cb.2.1, rfA_10 hr hx, cb.2.2.1, i_cl (by omega), (cb.1.1.2.2.1 _ hv2).2]
      refine ⟨isA_x hx, isA_4 hx, vi_ok (by omega) (by rw [szA_4 hx]; omega), ?_⟩
      intro v10 e10
      rw [e10]
      refine fin lo _ elo ?_ (by omega)
      rw [if_neg (by omega), if_pos e2]
  have v13 : ∀ lo, lo = (if D 30 5 = 2 then 0 else 1) → L_X7_takeDeedNumber_13 l g h 67 (Int32.ofNat lo) Q := by
    intro lo elo
    refine s_X7_takeDeedNumber_13 ?_
    rw [v9]
    refine ⟨is_67, fun z => v29 lo elo 9 (fun y => absurd (by rw [y]; rfl) z) (fun _ => rfl), fun z => ?_⟩
    have e4 : D 30 5 = 4 := (i_eq (b := 4) (by omega) (by omega)).1 z
    exact v29 lo elo 20 (fun _ => rfl) (fun y => absurd e4 y)
  refine c_X7_takeDeedNumber (s_X7_takeDeedNumber_0 ?_)
  rw [v9]
  refine ⟨is_67, fun z => v13 1 ?_, fun z => v13 0 ?_⟩
  · rw [if_neg (fun y => z (by rw [y]; rfl))]
  · rw [if_pos ((i_eq (b := 2) (by omega) (by omega)).1 z)]
