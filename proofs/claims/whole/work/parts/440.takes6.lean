theorem k_deedSaid {l : Launch} {g : AG} {h : AH} {T : Nat → Nat} {n p : Nat} {Q : Int32 → AH → Prop} (hr : Refs h) (hn : n ≤ 800) (hp : p ≤ n) (te : TapC h T n) (tc : TokC h (tk (bt T n) p)) (hq : ∀ r : Int32, (dSaid (tk (bt T n) p).1 (tk (bt T n) p).2.1 = 5 → r = -1) → (dSaid (tk (bt T n) p).1 (tk (bt T n) p).2.1 ≠ 5 → r = Int32.ofNat (dSaid (tk (bt T n) p).1 (tk (bt T n) p).2.1)) → Q r h) : C_X7_deedSaid l g h 67 Q := by
  have says := fun (j : Nat) (hj : j < 14) (Q : Int32 → AH → Prop) => k_says (l := l) (g := g) (Q := Q) j hj hn hp te tc
  revert tc hq says
  generalize tk (bt T n) p = t
  intro tc hq says
  refine c_X7_deedSaid (s_X7_deedSaid_0 ?_)
  rw [rf_67_0 hr]
  refine ⟨is_67, is_68, says 9 (by omega) _ (fun a b => ⟨fun z => absurd z (by decide), fun _ => hq _ (fun z => ?_) (fun z => ?_)⟩) (fun n9 => ⟨fun _ => ?_, fun z => absurd rfl z⟩)⟩
  · unfold dSaid at z; rw [if_pos ⟨a, b⟩] at z; exact absurd z (by decide)
  · unfold dSaid; rw [if_pos ⟨a, b⟩]; rfl
  rw [rf_67_0 hr]
  refine ⟨is_68, says 4 (by omega) _ (fun a b => ⟨fun z => absurd z (by decide), fun _ => hq _ (fun z => ?_) (fun z => ?_)⟩) (fun n4 => ⟨fun _ => ?_, fun z => absurd rfl z⟩)⟩
  · unfold dSaid at z; rw [if_neg n9, if_pos ⟨a, b⟩] at z; exact absurd z (by decide)
  · unfold dSaid; rw [if_neg n9, if_pos ⟨a, b⟩]; rfl
  rw [rf_67_0 hr]
  refine ⟨is_68, says 10 (by omega) _ (fun a b => ⟨fun z => absurd z (by decide), fun _ => hq _ (fun z => ?_) (fun z => ?_)⟩) (fun n10 => ⟨fun _ => ?_, fun z => absurd rfl z⟩)⟩
  · unfold dSaid at z; rw [if_neg n9, if_neg n4, if_pos ⟨a, b⟩] at z; exact absurd z (by decide)
  · unfold dSaid; rw [if_neg n9, if_neg n4, if_pos ⟨a, b⟩]; rfl
  rw [rf_67_0 hr]
  refine ⟨is_68, says 0 (by omega) _ (fun a b => ⟨fun z => absurd z (by decide), fun _ => hq _ (fun z => ?_) (fun z => ?_)⟩) (fun n0 => ⟨fun _ => ?_, fun z => absurd rfl z⟩)⟩
  · unfold dSaid at z; rw [if_neg n9, if_neg n4, if_neg n10, if_pos ⟨a, b⟩] at z; exact absurd z (by decide)
  · unfold dSaid; rw [if_neg n9, if_neg n4, if_neg n10, if_pos ⟨a, b⟩]; rfl
  rw [rf_67_0 hr]
  refine ⟨is_68, says 6 (by omega) _ (fun a b => ⟨fun z => absurd z (by decide), fun _ => hq _ (fun z => ?_) (fun z => ?_)⟩) (fun n6 => ⟨fun _ => hq _ (fun z => rfl) (fun z => ?_), fun z => absurd rfl z⟩)⟩
  · unfold dSaid at z; rw [if_neg n9, if_neg n4, if_neg n10, if_neg n0, if_pos ⟨a, b⟩] at z; exact absurd z (by decide)
  · unfold dSaid; rw [if_neg n9, if_neg n4, if_neg n10, if_neg n0, if_pos ⟨a, b⟩]; rfl
  · exfalso; unfold dSaid at z; rw [if_neg n9, if_neg n4, if_neg n10, if_neg n0, if_neg n6] at z; exact z rfl
theorem dSaid_le (k v : Nat) : dSaid k v ≤ 5 := by
  unfold dSaid
  split
  · omega
  · split
    · omega
    · split
      · omega
      · split
        · omega
        · split <;> omega
theorem take_17 {l : Launch} {g : AG} {h : AH} {x : Nat} {D : AD} {T : Nat → Nat} {n p : Nat} {Q : Int32 → AH → Prop} (hr : Refs h) (hx : isA x) (cs : CS h x 17 D) (hl : isL D (D 30 6)) (hW : D 0 0 ≤ 8) (hB : D 0 1 ≤ 24) (hd4 : ∀ k, D 14 k ≤ 4) (hn : n ≤ 800) (hp : p ≤ n) (te : TapC h T n) (tc : TokC h (tk (bt T n) p)) (q : TQ h x (tk (bt T n) p) (stp 17 D (tk (bt T n) p).1 (tk (bt T n) p).2.1 (tk (bt T n) p).2.2.1) Q) : C_X7_takeDeed l g h 67 Q := by
  have hxu : x = 4 ∨ x = 25 ∨ x = 46 := hx
  have hk32 : D 30 6 < 32 := by
    rcases hl with a | ⟨w, a, b, c⟩ <;> omega
  obtain ⟨cb, _, cr⟩ := cs
  have v10 := cr.2.2.2.2 (show 10 ≤ 17 ∧ 17 ≤ 21 ∧ 17 ≠ 15 by decide)
  refine c_X7_takeDeed (s_X7_takeDeed_0 ⟨is_67, ?_⟩)
  refine k_deedSaid hr hn hp te tc ?_
  revert tc q
  generalize tk (bt T n) p = t
  intro tc q r rm ro
  have sle := dSaid_le t.1 t.2.1
  revert rm ro sle
  generalize es : dSaid t.1 t.2.1 = s
  intro rm ro sle h5 e5
  have r5 : Refs h5 := by rw [e5]; exact hr.setI
  have f5 : Fr (PRd x) h h5 := by rw [e5]; exact (Fr.refl _ _).setI (Or.inr (Or.inl ⟨rfl, by omega⟩))
  have g5 : Fr (fun c p => c = 67 ∧ p = 9) h h5 := by rw [e5]; exact (Fr.refl _ _).setI ⟨rfl, rfl⟩
  have tc5 : TokC h5 t := tc.fr g5 (fun c p q => by omega)
  have cb5 : CB h5 x D := cb.fr hx g5 (fun c p q => by omega)
  have v9 : h5.1 67 9 = r := by rw [e5, gI_s]
  have w10 : h5.1 67 10 = Int32.ofNat (D 30 6) := by rw [e5, gI_p (by omega)]; exact v10
  rw [v9]
  refine ⟨fun z => ?_, fun z => k_faulty 1 r5 tc5 ⟨Or.inl rfl, q.bad (c := 1) (a := 0) (D := D) ?_ (by decide) r5 f5⟩⟩
  · have s5 : s ≠ 5 := fun y => z (rm y)
    rw [ro s5, cb5.2.1, rfA_18 r5 hx, rfD_0 r5 hx, w10, i_cl (by omega), (cb5.1.1.2.2.2.2.2 _ hl).1]
    have cbu : ∀ v, CB h5 x (up D 30 5 v) := fun v => cb5.reg (fun t ht => up_t (by omega)) (up_n (by omega)) (up_n (by omega)) (up_t (by omega))
    have cru : ∀ a v, 18 ≤ a ∧ a ≤ 20 → Int32.ofNat s = Int32.ofNat v → CR h5 a (up D 30 5 v) := fun a v ha hv => ⟨fun u => absurd u (by omega), fun u => absurd u (by omega), fun u => absurd u (by omega), fun _ => by rw [v9, ro s5, up_s]; exact hv, fun _ => by rw [up_n (by omega)]; exact w10⟩
    refine ⟨isA_x hx, isA_16 hx, isA_17 hx, vi_ok (by omega) (by rw [szA_17 hx]; omega), ?_⟩
    intro v12 e12
    rw [e12]
    refine ⟨fun y => ?_, fun y => k_faulty 5 r5 tc5 ⟨Or.inl rfl, q.bad (c := 5) (a := 0) (D := D) ?_ (by decide) r5 f5⟩⟩
    · have h4 := (i_lt (b := 4) (by have := hd4 (D 30 6); omega) (by omega)).1 y
      have S0 : ∀ j, s = j → Int32.ofNat s = Int32.ofNat j := fun j e => by rw [e]
      refine ⟨fun u => ?_, fun u => ⟨fun u1 => ?_, fun u1 => ⟨fun u2 => ?_, fun u2 => ⟨fun u3 => ?_, fun u3 => ⟨fun u4 => ?_, fun u4 => ?_⟩⟩⟩⟩⟩
      · have e : s = 0 := (i_eq (b := 0) (by omega) (by omega)).1 u
        refine k_awaits 18 ⟨Or.inr rfl, q.ok hx (a := 18) (D := up D 30 5 0) ?_ r5 f5 (cbu 0) (cru 18 0 (by omega) (S0 _ e))⟩
        rw [stp_17, es, if_neg s5, if_pos h4, if_pos e]
      · have e : s = 1 := (i_eq (b := 1) (by omega) (by omega)).1 u1
        refine ⟨isA_x hx, isA_16 hx, ?_⟩
        rw [e]
        have w10' : D 30 6 = (up D 30 5 1) 30 6 := (up_n (by omega)).symm
        have K := k_addDeed (l := l) (g := g) (on := 0) (num := 0) (x3 := 0) (x4 := 0) (kd := 1) (ls := D 30 6) (Q := fun r25 h24 => C_X7_awaits l g h24 67 21 fun r28 h27 => (r28 = 0 ∨ r28 = 1) ∧ Q r28 h27) r5 hx (cbu 1).1 (by unfold isL at hl ⊢; rw [up_t (by omega), up_t (by omega)]; exact hl) (by rw [up_t (by omega)]; exact hW) (by rw [up_t (by omega)]; exact hB) (by rw [up_t (by omega)]; exact h4) (fun k => by rw [up_t (by omega)]; exact hd4 k) (by omega) (fun z => absurd rfl z) (fun z => absurd z (by omega)) (fun z => absurd z (by omega)) (fun h9 r9 f9 hA9 => ?_)
        · exact K
        · refine k_awaits 21 ⟨Or.inr rfl, q.ok hx (a := 21) (D := addDeed (up D 30 5 1) (D 30 6) 1 0 0) ?_ r9 (f5.trans (f9.mono (fun c p q => Or.inl q))) ((cbu 1).add hx f9 hA9 (fun t ht => by unfold addDeed; simp (disch := first | assumption | omega) only [up_t])) (CR.list (by omega) ?_)⟩
          · rw [stp_17, es, if_neg s5, if_pos h4, if_neg (by omega), if_pos e]
          · rw [(f9 67 10 (fun q => by unfold PAx at q; omega)).1, w10]
            unfold addDeed
            simp (disch := first | assumption | omega) only [up_t, up_n]
      · have e : s = 2 := (i_eq (b := 2) (by omega) (by omega)).1 u2
        refine k_awaits 19 ⟨Or.inr rfl, q.ok hx (a := 19) (D := up D 30 5 s) ?_ r5 f5 (cbu _) (cru 19 _ (by omega) rfl)⟩
        rw [stp_17, es, if_neg s5, if_pos h4, if_neg (by omega), if_neg (by omega), if_neg (by omega)]
      · have e : s = 3 := (i_eq (b := 3) (by omega) (by omega)).1 u3
        refine k_awaits 19 ⟨Or.inr rfl, q.ok hx (a := 19) (D := up D 30 5 s) ?_ r5 f5 (cbu _) (cru 19 _ (by omega) rfl)⟩
        rw [stp_17, es, if_neg s5, if_pos h4, if_neg (by omega), if_neg (by omega), if_neg (by omega)]
      · have e : s = 4 := (i_eq (b := 4) (by omega) (by omega)).1 u4
        refine k_awaits 20 ⟨Or.inr rfl, q.ok hx (a := 20) (D := up D 30 5 4) ?_ r5 f5 (cbu _) (cru 20 4 (by omega) (S0 _ e))⟩
        rw [stp_17, es, if_neg s5, if_pos h4, if_neg (by omega), if_neg (by omega), if_pos e]
      · exfalso
        have n0 : s ≠ 0 := fun e => u (S0 _ e)
        have n1 : s ≠ 1 := fun e => u1 (S0 _ e)
        have n2 : s ≠ 2 := fun e => u2 (S0 _ e)
        have n3 : s ≠ 3 := fun e => u3 (S0 _ e)
        have n4 : s ≠ 4 := fun e => u4 (S0 _ e)
        omega
    · have h4 : ¬ D 14 (D 30 6) < 4 := fun u => y ((i_lt (b := 4) (by have := hd4 (D 30 6); omega) (by omega)).2 u)
      rw [stp_17, es, if_neg s5, if_neg h4]
  · have s5 : s = 5 := by
      rcases Nat.lt_or_ge s 5 with u | u
      · exfalso
        rw [ro (by omega)] at z
        have hh : s = 0 ∨ s = 1 ∨ s = 2 ∨ s = 3 ∨ s = 4 := by omega
        rcases hh with e | e | e | e | e <;> rw [e] at z <;> exact absurd z (by decide)
      · omega
    rw [stp_17, es, if_pos s5]
theorem take_18 {l : Launch} {g : AG} {h : AH} {x : Nat} {D : AD} {t : Nat × Nat × Nat × Nat} {Q : Int32 → AH → Prop} (hr : Refs h) (hx : isA x) (cs : CS h x 18 D) (hl : isL D (D 30 6)) (hW : D 0 0 ≤ 8) (hB : D 0 1 ≤ 24) (h4 : D 14 (D 30 6) < 4) (hd4 : ∀ k, D 14 k ≤ 4) (hd : D 30 5 = 0) (hO : D 30 7 < 128) (hf : ∀ i, i < D 30 7 → D 31 i ≠ 4 * D 30 6 + D 14 (D 30 6)) (tc : TokC h t) (tk1 : t.1 < 256) (q : TQ h x t (stp 18 D t.1 t.2.1 t.2.2.1) Q) : C_X7_takeDeedWindow l g h 67 Q := by
  have hxu : x = 4 ∨ x = 25 ∨ x = 46 := hx
  obtain ⟨cb, _, cr⟩ := cs
  have v9 := cr.2.2.2.1 (show 18 ≤ 18 ∧ 18 ≤ 20 by decide)
  have v10 := cr.2.2.2.2 (show 10 ≤ 18 ∧ 18 ≤ 21 ∧ 18 ≠ 15 by decide)
  have v11 := cb.2.2.2.1
  refine c_X7_takeDeedWindow (s_X7_takeDeedWindow_0 ?_)
  rw [rf_67_0 hr, tc.1, v9, v10, v11, cb.2.1, rfA_18 hr hx, rf_67_12 hr, hd, i_cl (by omega)]
  refine ⟨is_67, is_68, fun z => ?_, fun z => k_faulty 1 hr tc ⟨Or.inl rfl, q.bad (c := 1) (a := 0) (D := D) ?_ (by decide) hr (Fr.refl _ _)⟩⟩
  · have t1 : t.1 = 1 := (i_eq (b := 1) (by omega) (by omega)).1 z
    refine ⟨is_70, isA_x hx, isA_16 hx, k_addDeed (kd := 0) (on := 0) (num := 0) hr hx cb.1 hl hW hB h4 hd4 (by omega) (fun _ _ => rfl) (fun z => absurd z (by omega)) (fun z => absurd z (by omega)) (fun h8 r8 f8 hA8 => ?_)⟩
    have tg : ∀ t', 18 ≤ t' → addDeed D (D 30 6) 0 0 0 t' = D t' := fun t' ht => by
      unfold addDeed
      simp (disch := first | assumption | omega) only [up_t]
    have cb8 : CB h8 x (addDeed D (D 30 6) 0 0 0) := cb.add hx f8 hA8 (fun t' ht => tg t' (by omega))
    have tc8 : TokC h8 t := tc.fr f8 (fun c p q => by unfold PAx at q; omega)
    have u11 : h8.1 67 11 = Int32.ofNat (D 30 7) := by rw [(f8 67 11 (fun q => by unfold PAx at q; omega)).1]; exact v11
    have u10 : h8.1 67 10 = Int32.ofNat (D 30 6) := by rw [(f8 67 10 (fun q => by unfold PAx at q; omega)).1]; exact v10
    refine ⟨vi_ok (by omega) (by show _ < 128; omega), ?_⟩
    intro h11 e11
    have r11 : Refs h11 := by rw [e11]; exact r8.setI
    have w11 : h11.1 67 11 = Int32.ofNat (D 30 7) := by rw [e11, gI_c (by omega)]; exact u11
    have w5 : h11.2.1 68 5 = Int64.ofNat (cwf 8 t.2.1) := by rw [e11]; exact tc8.2.2.2.1 t1
    rw [rf_67_13 r11, rf_67_0 r11, w11, w5, i_cl (by omega)]
    refine ⟨is_71, is_68, vi_ok (by omega) (by show _ < 128; omega), ?_⟩
    intro h16 e16
    have r16 : Refs h16 := by rw [e16]; exact r11.setL
    have x11 : h16.1 67 11 = Int32.ofNat (D 30 7) := by rw [e16]; exact w11
    have x4 : h16.1 68 4 = Int32.ofNat t.2.2.1 := by
      rw [e16]
      show h11.1 68 4 = _
      rw [e11, gI_c (by omega)]; exact tc8.2.1
    rw [rf_67_14 r16, rf_67_0 r16, x11, x4, i_cl (by omega)]
    refine ⟨is_72, is_68, vi_ok (by omega) (by show _ < 128; omega), ?_⟩
    intro h21 e21
    have y11 : h21.1 67 11 = Int32.ofNat (D 30 7) := by rw [e21, gI_c (by omega)]; exact x11
    rw [y11, show (1 : Int32) = Int32.ofNat 1 from rfl, i_add]
    intro h23 e23
    have g21 : Fr (fun c p => 70 ≤ c ∧ c ≤ 72) h8 h21 := by
      rw [e21, e16, e11]
      exact (((Fr.refl _ _).setI (by omega)).setL (by omega)).setI (by omega)
    have g23 : Fr (fun c p => (70 ≤ c ∧ c ≤ 72) ∨ (c = 67 ∧ p = 11)) h8 h23 := by
      rw [e23]
      exact (g21.mono (fun c p q => Or.inl q)).setI (Or.inr ⟨rfl, rfl⟩)
    have r23 : Refs h23 := by rw [e23, e21]; exact r16.setI.setI
    have f23 : Fr (PRd x) h h23 := (f8.mono (fun c p q => Or.inl q)).trans (g23.mono (fun c p q => by show PRd x c p; unfold PRd PAx; omega))
    have c70 : ∀ i, h23.1 70 i = if i = D 30 7 then Int32.ofNat (4 * D 30 6 + D 14 (D 30 6)) else h8.1 70 i := by
      intro i
      rw [e23, gI_c (by omega), e21, gI_c (by omega), e16]
      show h11.1 70 i = _
      rw [e11]
      by_cases c : i = D 30 7
      · rw [if_pos c, c, gI_s]
      · rw [if_neg c, gI_p c]
    have c71 : ∀ i, h23.2.1 71 i = if i = D 30 7 then Int64.ofNat (cwf 8 t.2.1) else h8.2.1 71 i := by
      intro i
      rw [e23, e21]
      show h16.2.1 71 i = _
      rw [e16]
      by_cases c : i = D 30 7
      · rw [if_pos c, c, gL_s]
      · rw [if_neg c, gL_p c, e11]
        rfl
    have c72 : ∀ i, h23.1 72 i = if i = D 30 7 then Int32.ofNat t.2.2.1 else h8.1 72 i := by
      intro i
      rw [e23, gI_c (by omega), e21]
      by_cases c : i = D 30 7
      · rw [if_pos c, c, gI_s]
      · rw [if_neg c, gI_p c, e16]
        show h11.1 72 i = _
        rw [e11, gI_c (by omega)]
    have tg2 : ∀ t', t' ≠ 21 → t' ≠ 22 → t' ≠ 30 → t' ≠ 31 → addOpen D (D 30 6) t.2.1 t.2.2.1 t' = addDeed D (D 30 6) 0 0 0 t' := fun t' a b c d => by
      unfold addOpen
      simp (disch := first | assumption | omega) only [up_t]
    have d30 : ∀ i, i ≠ 7 → addOpen D (D 30 6) t.2.1 t.2.2.1 30 i = D 30 i := fun i hi => by
      unfold addOpen
      rw [up_n hi, up_t (by omega), up_t (by omega), up_t (by omega), tg 30 (by omega)]
    have d307 : addOpen D (D 30 6) t.2.1 t.2.2.1 30 7 = D 30 7 + 1 := up_s _ _ _ _
    have d31 : ∀ i, addOpen D (D 30 6) t.2.1 t.2.2.1 31 i = if i = D 30 7 then 4 * D 30 6 + D 14 (D 30 6) else D 31 i := fun i => by
      unfold addOpen
      rw [up_t (by omega)]
      by_cases c : i = D 30 7
      · rw [if_pos c, up_e c]
      · rw [if_neg c, up_n c, up_t (by omega), up_t (by omega), tg 31 (by omega)]
    have d21 : ∀ i, addOpen D (D 30 6) t.2.1 t.2.2.1 21 i = if i = 4 * D 30 6 + D 14 (D 30 6) then t.2.1 else D 21 i := fun i => by
      unfold addOpen
      rw [up_t (by omega), up_t (by omega), up_t (by omega)]
      by_cases c : i = 4 * D 30 6 + D 14 (D 30 6)
      · rw [if_pos c, up_e c]
      · rw [if_neg c, up_n c, tg 21 (by omega)]
    have d22 : ∀ i, addOpen D (D 30 6) t.2.1 t.2.2.1 22 i = if i = 4 * D 30 6 + D 14 (D 30 6) then t.2.2.1 else D 22 i := fun i => by
      unfold addOpen
      rw [up_t (by omega), up_t (by omega)]
      by_cases c : i = 4 * D 30 6 + D 14 (D 30 6)
      · rw [if_pos c, up_e c]
      · rw [if_neg c, up_n c, up_t (by omega), tg 22 (by omega)]
    refine k_awaits 21 ⟨Or.inr rfl, q.ok hx (a := 21) (D := addOpen D (D 30 6) t.2.1 t.2.2.1) ?_ r23 f23 ⟨?_, ?_, ?_, ?_, ?_⟩ (CR.list (by omega) ?_)⟩
    · rw [stp_18, if_neg (fun z => z t1)]
    · exact (cb8.1.fr g23 (fun c p a b q => by omega)).reg (fun t' ht => tg2 t' (by omega) (by omega) (by omega) (by omega))
    · rw [(g23 67 1 (by omega)).2.2]; exact cb8.2.1
    · rw [(g23 67 7 (by omega)).1, d30 3 (by omega), cb8.2.2.1, tg 30 (by omega)]
    · rw [e23, gI_s, d307]
    · intro i hi
      rw [d307] at hi
      rw [d31 i, c70 i, c71 i, c72 i]
      by_cases c : i = D 30 7
      · rw [if_pos c, if_pos c, if_pos c, if_pos c, d21, d22, if_pos rfl, if_pos rfl]
        exact ⟨rfl, rfl, rfl⟩
      · have hi' : i < D 30 7 := by omega
        rw [if_neg c, if_neg c, if_neg c, if_neg c, d21, d22, if_neg (hf i hi'), if_neg (hf i hi')]
        have := cb8.2.2.2.2 i (by rw [tg 30 (by omega)]; exact hi')
        rw [tg 31 (by omega), tg 21 (by omega), tg 22 (by omega)] at this
        exact this
    · rw [(g23 67 10 (by omega)).1, d30 6 (by omega)]
      exact u10
  · rw [stp_18, if_pos (fun y => z (by rw [y]; rfl))]
