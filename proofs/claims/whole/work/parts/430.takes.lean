theorem stp_0 (D : AD) (k v pl : Nat) : stp 0 D k v pl = if isK 13 k v then (if D 0 0 < 8 then (0, 4, D) else (5, 0, D)) else if 0 < D 0 0 ∨ ¬ (isK 8 k v ∨ isK 12 k v) then (1, 0, D) else if D 0 2 < 6 then (0, 1, up D 30 2 (if isK 8 k v then 1 else 0)) else (5, 0, D) := rfl
theorem stp_1 (D : AD) (k v pl : Nat) : stp 1 D k v pl = if k ≠ 1 then (1, 0, D) else if fV D v < D 0 2 then (3, 0, D) else (0, 2, up D 30 1 v) := rfl
theorem stp_2 (D : AD) (k v pl : Nat) : stp 2 D k v pl = if k ≠ 2 then (1, 0, D) else if v < 1 ∨ 9 < v then (4, 0, D) else (0, 3, addVar D (D 30 1) v (D 30 2)) := rfl
theorem stp_3 (D : AD) (k v pl : Nat) : stp 3 D k v pl = if k = 59 then (0, 0, D) else (1, 0, D) := rfl
theorem stp_4 (D : AD) (k v pl : Nat) : stp 4 D k v pl = if k ≠ 1 then (1, 0, D) else if fW D v < D 0 0 then (3, 0, D) else (0, 5, addWin D v) := rfl
theorem stp_5 (D : AD) (k v pl : Nat) : stp 5 D k v pl = if k = 123 then (0, 6, D) else (1, 0, D) := rfl
theorem stp_6 (D : AD) (k v pl : Nat) : stp 6 D k v pl = if k = 125 then (0, 0, D) else if 0 < D 8 (D 0 0 - 1) then (1, 0, D) else if isK 1 k v then (0, 15, D) else if isK 3 k v then (if D 0 1 < 24 then (0, 9, D) else (5, 0, D)) else if D 18 (D 0 0 - 1) < D 19 (D 0 0 - 1) ∨ ¬ isK 11 k v then (1, 0, D) else if D 6 (D 0 0 - 1) < 6 then (0, 7, D) else (5, 0, D) := rfl
theorem stp_7 (D : AD) (k v pl : Nat) : stp 7 D k v pl = if k ≠ 1 then (1, 0, D) else if fV D v < D 0 2 then (0, 8, addShow (up D 30 3 (fV D v)) (fV D v)) else (2, 0, D) := rfl
theorem stp_8 (D : AD) (k v pl : Nat) : stp 8 D k v pl = if k = 59 then (0, 6, D) else (1, 0, D) := rfl
theorem stp_9 (D : AD) (k v pl : Nat) : stp 9 D k v pl = if k ≠ 1 then (1, 0, D) else if fB D v < D 19 (D 0 0 - 1) then (3, 0, D) else (0, 10, addBut (up D 30 6 (D 0 1)) v) := rfl
theorem stp_10 (D : AD) (k v pl : Nat) : stp 10 D k v pl = if isK 7 k v then (0, 11, D) else if isK 5 k v then (0, 17, D) else (1, 0, D) := rfl
theorem stp_11 (D : AD) (k v pl : Nat) : stp 11 D k v pl = if k ≠ 1 then (1, 0, D) else if fV D v < D 0 2 then (if D 10 (D 0 1 - 1) < 3 then (0, 12, up D 30 3 (fV D v)) else (5, 0, D)) else (2, 0, D) := rfl
theorem stp_12 (D : AD) (k v pl : Nat) : stp 12 D k v pl = if k = 61 ∨ k = 60 ∨ k = 62 then (0, 13, up D 30 4 k) else (1, 0, D) := rfl
theorem stp_13 (D : AD) (k v pl : Nat) : stp 13 D k v pl = if k ≠ 2 then (1, 0, D) else if 9 < v then (4, 0, D) else (0, 14, addCond D (D 30 3) (D 30 4) v) := rfl
theorem stp_14 (D : AD) (k v pl : Nat) : stp 14 D k v pl = if isK 2 k v then (0, 11, D) else if isK 5 k v then (0, 17, D) else (1, 0, D) := rfl
theorem stp_15 (D : AD) (k v pl : Nat) : stp 15 D k v pl = if k ≠ 2 then (1, 0, D) else if v < 1 ∨ 9 < v then (4, 0, D) else (0, 16, addTim (up D 30 6 (24 + (D 0 0 - 1))) v) := rfl
theorem stp_16 (D : AD) (k v pl : Nat) : stp 16 D k v pl = if isK 5 k v then (0, 17, D) else (1, 0, D) := rfl
theorem stp_17 (D : AD) (k v pl : Nat) : stp 17 D k v pl = if dSaid k v = 5 then (1, 0, D) else if D 14 (D 30 6) < 4 then (if dSaid k v = 0 then (0, 18, up D 30 5 0) else if dSaid k v = 1 then (0, 21, addDeed (up D 30 5 1) (D 30 6) 1 0 0) else if dSaid k v = 4 then (0, 20, up D 30 5 4) else (0, 19, up D 30 5 (dSaid k v))) else (5, 0, D) := rfl
theorem stp_18 (D : AD) (k v pl : Nat) : stp 18 D k v pl = if k ≠ 1 then (1, 0, D) else (0, 21, addOpen D (D 30 6) v pl) := rfl
theorem stp_19 (D : AD) (k v pl : Nat) : stp 19 D k v pl = if k ≠ 1 then (1, 0, D) else if fV D v < D 0 2 then (0, 20, up D 30 3 (fV D v)) else (2, 0, D) := rfl
theorem stp_20 (D : AD) (k v pl : Nat) : stp 20 D k v pl = if k ≠ 2 then (1, 0, D) else if v < (if D 30 5 = 2 then 0 else 1) ∨ (if D 30 5 = 4 then 20 else if D 30 5 = 2 then D 4 (D 30 3) else 9) < v then (4, 0, D) else (0, 21, addDeed D (D 30 6) (D 30 5) (if D 30 5 = 4 then v else D 30 3) v) := rfl
theorem stp_21 (D : AD) (k v pl : Nat) : stp 21 D k v pl = if k = 44 then (0, 17, D) else if k = 59 then (0, 6, D) else (1, 0, D) := rfl
theorem TokC.fr {P : Nat → Nat → Prop} {h h1 : AH} {t : Nat × Nat × Nat × Nat} (c : TokC h t) (f : Fr P h h1) (e : ∀ c p, P c p → c ≠ 68) : TokC h1 t := by
  unfold TokC
  rw [(f 68 3 (fun q => e _ _ q rfl)).1, (f 68 4 (fun q => e _ _ q rfl)).1, (f 68 2 (fun q => e _ _ q rfl)).1, (f 68 5 (fun q => e _ _ q rfl)).2.1, (f 68 6 (fun q => e _ _ q rfl)).1]
  exact c
theorem CR.none {h : AH} {a : Nat} {D : AD} (ha : a = 0 ∨ (3 ≤ a ∧ a ≤ 9)) : CR h a D := ⟨fun z => absurd z (by omega), fun z => absurd z (by omega), fun z => absurd z (by omega), fun z => absurd z (by omega), fun z => absurd z (by omega)⟩
theorem CR.list {h : AH} {a : Nat} {D : AD} (ha : (10 ≤ a ∧ a ≤ 12) ∨ (14 ≤ a ∧ a ≤ 17) ∨ a = 21) (e : h.1 67 10 = Int32.ofNat (D 30 6)) : CR h a D := ⟨fun z => absurd z (by omega), fun z => absurd z (by omega), fun z => absurd z (by omega), fun z => absurd z (by omega), fun _ => e⟩
theorem k_takeSign {l : Launch} {g : AG} {h : AH} {t : Nat × Nat × Nat × Nat} {Q : Int32 → AH → Prop} (sg a : Nat) (hr : Refs h) (tc : TokC h t) (tk1 : t.1 < 256) (hs : sg < 256) (q1 : t.1 = sg → Q 1 (ax_setI h 67 2 (Int32.ofNat a))) (q0 : t.1 ≠ sg → Q 0 (fh h t 1)) : C_X7_takeSign l g h 67 (Int32.ofNat sg) (Int32.ofNat a) Q := by
  refine c_X7_takeSign (s_X7_takeSign_0 ?_)
  rw [rf_67_0 hr, tc.1]
  exact ⟨is_67, is_68, fun z => k_faulty 1 hr tc ⟨Or.inl rfl, q0 (fun y => z (by rw [y]))⟩, fun z => k_awaits a ⟨Or.inr rfl, q1 ((i_eq (by omega) (by omega)).1 z)⟩⟩
theorem k_takeDo {l : Launch} {g : AG} {h : AH} {T : Nat → Nat} {n p : Nat} {Q : Int32 → AH → Prop} (hr : Refs h) (hn : n ≤ 800) (hp : p ≤ n) (te : TapC h T n) (tc : TokC h (tk (bt T n) p)) (q1 : isK 5 (tk (bt T n) p).1 (tk (bt T n) p).2.1 → Q 1 (ax_setI h 67 2 (Int32.ofNat 17))) (q0 : ¬ isK 5 (tk (bt T n) p).1 (tk (bt T n) p).2.1 → Q 0 (fh h (tk (bt T n) p) 1)) : C_X7_takeDo l g h 67 Q := by
  refine c_X7_takeDo (s_X7_takeDo_0 ?_)
  rw [rf_67_0 hr]
  exact ⟨is_67, is_68, k_says 5 (by omega) hn hp te tc (fun k1 kv => ⟨fun z => absurd z (by decide), fun _ => k_awaits 17 ⟨Or.inr rfl, q1 ⟨k1, kv⟩⟩⟩) (fun nk => ⟨fun _ => k_faulty 1 hr tc ⟨Or.inl rfl, q0 nk⟩, fun z => absurd rfl z⟩)⟩
theorem take_0 {l : Launch} {g : AG} {h : AH} {x : Nat} {D : AD} {T : Nat → Nat} {n p : Nat} {Q : Int32 → AH → Prop} (hr : Refs h) (hx : isA x) (cs : CS h x 0 D) (hW : D 0 0 ≤ 8) (hV : D 0 2 ≤ 6) (hn : n ≤ 800) (hp : p ≤ n) (te : TapC h T n) (tc : TokC h (tk (bt T n) p)) (q : TQ h x (tk (bt T n) p) (stp 0 D (tk (bt T n) p).1 (tk (bt T n) p).2.1 (tk (bt T n) p).2.2.1) Q) : C_X7_takeTop l g h 67 Q := by
  have hxu : x = 4 ∨ x = 25 ∨ x = 46 := hx
  have says := fun (j : Nat) (hj : j < 14) (h1 : AH) (r1 : Refs h1) (te : TapC h1 T n) (tc : TokC h1 (tk (bt T n) p)) (Q : Int32 → AH → Prop) => k_says (l := l) (g := g) (Q := Q) j hj hn hp te tc
  revert tc q says
  generalize tk (bt T n) p = t
  intro tc q says
  obtain ⟨cb, _, _⟩ := cs
  have n0 := cb.1.1.1.1
  have n2 := cb.1.1.1.2.2.1
  refine c_X7_takeTop (s_X7_takeTop_0 ?_)
  rw [rf_67_0 hr]
  refine ⟨is_67, is_68, says 13 (by omega) h hr te tc _ (fun k1 kv => ⟨fun z => absurd z (by decide), fun _ => ?_⟩) (fun nk => ⟨fun _ => ?_, fun z => absurd rfl z⟩)⟩
  · rw [cb.2.1, n0]
    refine ⟨isA_x hx, fun z => k_faulty 5 hr tc ⟨Or.inl rfl, q.bad (c := 5) (a := 0) (D := D) ?_ (by decide) hr (Fr.refl _ _)⟩, fun z => k_awaits 4 ⟨Or.inr rfl, q.ok hx (a := 4) (D := D) ?_ hr (Fr.refl _ _) cb (CR.none (by omega))⟩⟩
    · have := (i_le (a := 8) (by omega) (by omega)).1 z
      rw [stp_0, if_pos ⟨k1, kv⟩, if_neg (by omega)]
    · have : D 0 0 < 8 := by
        rcases Nat.lt_or_ge (D 0 0) 8 with y | y
        · exact y
        · exact absurd ((i_le (a := 8) (by omega) (by omega)).2 y) z
      rw [stp_0, if_pos ⟨k1, kv⟩, if_pos this]
  · rw [rf_67_0 hr]
    -- kept is known
    have go : ∀ (kp : Nat), kp ≤ 1 → (kp = 1 ↔ isK 8 t.1 t.2.1) → ∀ h12, h12 = ax_setI h 67 6 (Int32.ofNat kp) → (¬ h12.1 67 6 = 0 → (isK 8 t.1 t.2.1 ∨ isK 12 t.1 t.2.1) → True) → (0 < h12.1 x 0 → C_X7_faulty l g h12 67 1 fun r18 h17 => (r18 = 0 ∨ r18 = 1) ∧ Q r18 h17) ∧ (¬ 0 < h12.1 x 0 → (isK 8 t.1 t.2.1 ∨ isK 12 t.1 t.2.1 → L_X7_takeTop_86 l g h12 67 Q) ∧ (¬ (isK 8 t.1 t.2.1 ∨ isK 12 t.1 t.2.1) → C_X7_faulty l g h12 67 1 fun r28 h27 => (r28 = 0 ∨ r28 = 1) ∧ Q r28 h27)) := by
      intro kp hkp hk h12 e12 _
      have r12 : Refs h12 := by rw [e12]; exact hr.setI
      have f12 : Fr (PRd x) h h12 := by rw [e12]; exact (Fr.refl _ _).setI (Or.inr (Or.inl ⟨rfl, by omega⟩))
      have g12 : Fr (fun c p => c = 67 ∧ p = 6) h h12 := by rw [e12]; exact (Fr.refl _ _).setI ⟨rfl, rfl⟩
      have tc12 : TokC h12 t := tc.fr g12 (fun c p q => by omega)
      have cb12 : CB h12 x D := cb.fr hx g12 (fun c p q => by omega)
      have w0 := cb12.1.1.1.1
      have w2 := cb12.1.1.1.2.2.1
      rw [w0]
      refine ⟨fun z => ?_, fun z => ⟨fun kk => ?_, fun kk => ?_⟩⟩
      · have := (i_lt (a := 0) (by omega) (by omega)).1 z
        exact k_faulty 1 r12 tc12 ⟨Or.inl rfl, q.bad (c := 1) (a := 0) (D := D) (by rw [stp_0, if_neg nk, if_pos (Or.inl this)]) (by decide) r12 f12⟩
      · have z0 : D 0 0 = 0 := by
          rcases Nat.eq_zero_or_pos (D 0 0) with y | y
          · exact y
          · exact absurd ((i_lt (a := 0) (by omega) (by omega)).2 y) z
        refine s_X7_takeTop_86 ?_
        rw [cb12.2.1, w2]
        refine ⟨is_67, isA_x hx, fun y => k_faulty 5 r12 tc12 ⟨Or.inl rfl, q.bad (c := 5) (a := 0) (D := D) ?_ (by decide) r12 f12⟩, fun y => k_awaits 1 ⟨Or.inr rfl, q.ok hx (a := 1) (D := up D 30 2 (if isK 8 t.1 t.2.1 then 1 else 0)) ?_ r12 f12 (cb12.reg (fun t ht => up_t (by omega)) (up_n (by omega)) (up_n (by omega)) (up_t (by omega))) ⟨fun _ => ?_, fun u => absurd u (by decide), fun u => absurd u (by decide), fun u => absurd u (by decide), fun u => absurd u (by decide)⟩⟩⟩
        · have := (i_le (a := 6) (by omega) (by omega)).1 y
          rw [stp_0, if_neg nk, if_neg (by rw [z0]; intro u; rcases u with u | u; omega; exact u kk), if_neg (by omega)]
        · have : D 0 2 < 6 := by
            rcases Nat.lt_or_ge (D 0 2) 6 with u | u
            · exact u
            · exact absurd ((i_le (a := 6) (by omega) (by omega)).2 u) y
          rw [stp_0, if_neg nk, if_neg (by rw [z0]; intro u; rcases u with u | u; omega; exact u kk), if_pos this]
        · rw [e12, gI_s, up_s]
          congr 1
          by_cases u : isK 8 t.1 t.2.1
          · rw [if_pos u]; exact hk.2 u
          · rw [if_neg u]
            have : ¬ kp = 1 := fun v => u (hk.1 v)
            omega
      · exact k_faulty 1 r12 tc12 ⟨Or.inl rfl, q.bad (c := 1) (a := 0) (D := D) (by rw [stp_0, if_neg nk, if_pos (Or.inr kk)]) (by decide) r12 f12⟩
    refine ⟨is_68, says 8 (by omega) h hr te tc _ (fun k1 kv => ⟨Or.inr rfl, ?_⟩) (fun nk8 => ⟨Or.inl rfl, ?_⟩)⟩
    · intro h12 e12
      have r12 : Refs h12 := by rw [e12]; exact hr.setI
      have v1 : h12.2.2 67 1 = x := by rw [e12]; exact cb.2.1
      have v6 : h12.1 67 6 = 1 := by rw [e12, gI_s]
      have G := go 1 (by omega) ⟨fun _ => ⟨k1, kv⟩, fun _ => rfl⟩ h12 e12 (fun _ _ => trivial)
      rw [v1, v6]
      exact ⟨isA_x hx, G.1, fun z => ⟨fun _ => (G.2 z).1 (Or.inl ⟨k1, kv⟩), fun y => absurd y (by decide)⟩⟩
    · intro h12 e12
      have r12 : Refs h12 := by rw [e12]; exact hr.setI
      have v1 : h12.2.2 67 1 = x := by rw [e12]; exact cb.2.1
      have v6 : h12.1 67 6 = 0 := by rw [e12, gI_s]
      have g12 : Fr (fun c p => c = 67 ∧ p = 6) h h12 := by rw [e12]; exact (Fr.refl _ _).setI ⟨rfl, rfl⟩
      have G := go 0 (by omega) ⟨fun z => absurd z (by decide), fun z => absurd z nk8⟩ h12 e12 (fun _ _ => trivial)
      rw [v1, v6, rf_67_0 r12]
      refine ⟨isA_x hx, G.1, fun z => ⟨fun y => absurd rfl y, fun _ => ⟨is_68, says 12 (by omega) h12 r12 (te.fr g12 (fun c p q => by omega)) (tc.fr g12 (fun c p q => by omega)) _ (fun k1 kv => ⟨fun _ => (G.2 z).1 (Or.inr ⟨k1, kv⟩), fun y => absurd y (by decide)⟩) (fun nk12 => ⟨fun y => absurd rfl y, fun _ => (G.2 z).2 (fun u => ?_)⟩)⟩⟩⟩
      rcases u with u | u
      · exact nk8 u
      · exact nk12 u
