theorem cb_v {h : AH} {x : Nat} {D : AD} (v : Nat) (hx : isA x) (cb : CB h x D) : CB (ax_setI h 67 7 (Int32.ofNat v)) x (up D 30 3 v) := by
  have hxu : x = 4 ∨ x = 25 ∨ x = 46 := hx
  have fx : Fr (fun c p => c = 67 ∧ p = 7) h (ax_setI h 67 7 (Int32.ofNat v)) := (Fr.refl _ _).setI ⟨rfl, rfl⟩
  refine ⟨(cb.1.fr fx (fun c p h1 h2 q => by omega)).reg (fun t ht => up_t (by omega)), cb.2.1, by rw [gI_s, up_s], ?_, fun i hi => ?_⟩
  · rw [gI_p (by omega), up_n (by omega)]; exact cb.2.2.2.1
  · rw [up_n (by omega)] at hi
    rw [up_t (by omega), up_t (by omega), up_t (by omega), gI_c (by omega), gI_c (by omega)]
    exact cb.2.2.2.2 i hi
/-- a register other than v and opens -/
theorem cb_r {h : AH} {x j v i : Nat} {w : Int32} {D : AD} (hx : isA x) (cb : CB h x D) (hj : j ≠ 1 ∧ j ≠ 7 ∧ j ≠ 11) (hi : i ≠ 3 ∧ i ≠ 7) : CB (ax_setI h 67 j w) x (up D 30 i v) :=
  (cb.fr hx ((Fr.refl (fun c p => c = 67 ∧ p = j) h).setI ⟨rfl, rfl⟩) (fun c p q => by omega)).reg (fun t ht => up_t (by omega)) (up_n (by omega)) (up_n (by omega)) (up_t (by omega))
theorem take_6 {l : Launch} {g : AG} {h : AH} {x : Nat} {D : AD} {T : Nat → Nat} {n p : Nat} {Q : Int32 → AH → Prop} (hr : Refs h) (hx : isA x) (cs : CS h x 6 D) (h0 : 0 < D 0 0) (hW : D 0 0 ≤ 8) (hB : D 0 1 ≤ 24) (h8 : D 8 (D 0 0 - 1) ≤ 9) (h18 : D 18 (D 0 0 - 1) ≤ 24) (h19 : D 19 (D 0 0 - 1) ≤ 24) (h6 : D 6 (D 0 0 - 1) ≤ 6) (hn : n ≤ 800) (hp : p ≤ n) (te : TapC h T n) (tc : TokC h (tk (bt T n) p)) (q : TQ h x (tk (bt T n) p) (stp 6 D (tk (bt T n) p).1 (tk (bt T n) p).2.1 (tk (bt T n) p).2.2.1) Q) : C_X7_takePart l g h 67 Q := by
  have tk1 := (tk_ok (fun k hk => (te.2.2 k hk).1) hn hp).2.2.2.2.1
  have says := fun (j : Nat) (hj : j < 14) (Q : Int32 → AH → Prop) => k_says (l := l) (g := g) (Q := Q) j hj hn hp te tc
  revert tc q says tk1
  generalize tk (bt T n) p = t
  intro tc q tk1 says
  obtain ⟨cb, _, _⟩ := cs
  have n0 := cb.1.1.1.1
  have n1 := cb.1.1.1.2.1
  have w0 := cb.1.1.2.1 (D 0 0 - 1) (by omega)
  have bad : ∀ c, c ≠ 0 → stp 6 D t.1 t.2.1 t.2.2.1 = (c, 0, D) → Q 0 (fh h t c) := fun c hc e => q.bad e hc hr (Fr.refl _ _)
  have ok : ∀ a, a = 0 ∨ (3 ≤ a ∧ a ≤ 9) → stp 6 D t.1 t.2.1 t.2.2.1 = (0, a, D) → Q 1 (ax_setI h 67 2 (Int32.ofNat a)) := fun a ha e => q.ok hx e hr (Fr.refl _ _) cb (CR.none ha)
  rw [stp_6] at bad ok
  refine c_X7_takePart (s_X7_takePart_0 ?_)
  rw [rf_67_0 hr, cb.2.1, n0, i_m1 h0, tc.1]
  refine ⟨is_67, isA_x hx, ?_⟩
  intro v3 e3
  rw [e3, rfA_13 hr hx, i_cl (by omega), w0.2.2.2.1]
  refine ⟨is_68, fun z => ?_, fun z => k_awaits 0 ⟨Or.inr rfl, ok 0 (Or.inl rfl) ?_⟩⟩
  · have ne : ¬ t.1 = 125 := fun y => z (by rw [y]; rfl)
    refine ⟨isA_x hx, isA_7 hx, vi_ok (by omega) (by rw [szA_7 hx]; omega), fun y => ?_, fun y => k_faulty 1 hr tc ⟨Or.inl rfl, bad 1 (by decide) ?_⟩⟩
    · have y8 : ¬ 0 < D 8 (D 0 0 - 1) := by
        have := (i_le (b := 0) (by omega) (by omega)).1 y
        omega
      refine ⟨is_68, says 1 (by omega) _ (fun k1 kv => ⟨fun u => absurd u (by decide), fun _ => k_awaits 15 ⟨Or.inr rfl, ?_⟩⟩) (fun nk1 => ⟨fun _ => ?_, fun u => absurd rfl u⟩)⟩
      · refine q.ok hx (a := 15) (D := D) (by rw [stp_6, if_neg ne, if_neg y8, if_pos ⟨k1, kv⟩]) hr (Fr.refl _ _) cb ⟨fun u => absurd u (by decide), fun u => absurd u (by decide), fun u => absurd u (by decide), fun u => absurd u (by decide), fun u => absurd u (by decide)⟩
      rw [rf_67_0 hr]
      refine ⟨is_68, says 3 (by omega) _ (fun k1 kv => ⟨fun u => absurd u (by decide), fun _ => ?_⟩) (fun nk3 => ⟨fun _ => ?_, fun u => absurd rfl u⟩)⟩
      · rw [cb.2.1, n1]
        refine ⟨isA_x hx, fun u => ?_, fun u => ?_⟩
        · have := (i_le (a := 24) (by omega) (by omega)).1 u
          exact k_faulty 5 hr tc ⟨Or.inl rfl, bad 5 (by decide) (by rw [if_neg ne, if_neg y8, if_neg nk1, if_pos ⟨k1, kv⟩, if_neg (by omega)])⟩
        · have : D 0 1 < 24 := by
            rcases Nat.lt_or_ge (D 0 1) 24 with v | v
            · exact v
            · exact absurd ((i_le (a := 24) (by omega) (by omega)).2 v) u
          exact k_awaits 9 ⟨Or.inr rfl, ok 9 (by omega) (by rw [if_neg ne, if_neg y8, if_neg nk1, if_pos ⟨k1, kv⟩, if_pos this])⟩
      · rw [cb.2.1, rfA_15 hr hx, rfA_14 hr hx, w0.2.2.2.2.1, w0.2.2.2.2.2, rf_67_0 hr]
        refine ⟨isA_x hx, isA_9 hx, vi_ok (by omega) (by rw [szA_9 hx]; omega), ?_⟩
        intro v24 e24
        refine ⟨isA_x hx, isA_8 hx, vi_ok (by omega) (by rw [szA_8 hx]; omega), ?_⟩
        intro v29 e29
        rw [e24, e29]
        refine ⟨fun u => ?_, fun u => ⟨is_68, says 11 (by omega) _ (fun k1 kv => ⟨fun _ => ?_, fun v => absurd v (by decide)⟩) (fun nk11 => ⟨fun v => absurd rfl v, fun _ => ?_⟩)⟩⟩
        · have := (i_lt (by omega) (by omega)).1 u
          exact k_faulty 1 hr tc ⟨Or.inl rfl, bad 1 (by decide) (by rw [if_neg ne, if_neg y8, if_neg nk1, if_neg nk3, if_pos (Or.inl this)])⟩
        · have lt : ¬ D 18 (D 0 0 - 1) < D 19 (D 0 0 - 1) := fun v => u ((i_lt (by omega) (by omega)).2 v)
          rw [cb.2.1, rfA_11 hr hx, w0.2.1]
          refine ⟨isA_x hx, isA_5 hx, vi_ok (by omega) (by rw [szA_5 hx]; omega), ?_⟩
          intro v44 e44
          rw [e44]
          refine ⟨fun v => ?_, fun v => ?_⟩
          · have := (i_le (a := 6) (by omega) (by omega)).1 v
            exact k_faulty 5 hr tc ⟨Or.inl rfl, bad 5 (by decide) (by rw [if_neg ne, if_neg y8, if_neg nk1, if_neg nk3, if_neg (fun s => s.elim lt (fun s => s ⟨k1, kv⟩)), if_neg (by omega)])⟩
          · have : D 6 (D 0 0 - 1) < 6 := by
              rcases Nat.lt_or_ge (D 6 (D 0 0 - 1)) 6 with s | s
              · exact s
              · exact absurd ((i_le (a := 6) (by omega) (by omega)).2 s) v
            exact k_awaits 7 ⟨Or.inr rfl, ok 7 (by omega) (by rw [if_neg ne, if_neg y8, if_neg nk1, if_neg nk3, if_neg (fun s => s.elim lt (fun s => s ⟨k1, kv⟩)), if_pos this])⟩
        · exact k_faulty 1 hr tc ⟨Or.inl rfl, bad 1 (by decide) (by rw [if_neg ne, if_neg y8, if_neg nk1, if_neg nk3, if_pos (Or.inr nk11)])⟩
    · have y8 : 0 < D 8 (D 0 0 - 1) := by
        rcases Nat.eq_zero_or_pos (D 8 (D 0 0 - 1)) with u | u
        · rw [u] at y; exact absurd (by decide) y
        · exact u
      rw [if_neg ne, if_pos y8]
  · have e : t.1 = 125 := (i_eq (b := 125) (by omega) (by omega)).1 z
    rw [if_pos e]
