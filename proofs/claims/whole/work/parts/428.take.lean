/-- the class's reader: APP at x -/
def CB (h : AH) (x : Nat) (D : AD) : Prop := RepP h x D ∧ h.2.2 67 1 = x ∧ h.1 67 7 = Int32.ofNat (D 30 3) ∧ h.1 67 11 = Int32.ofNat (D 30 7) ∧ ∀ i, i < D 30 7 → h.1 70 i = Int32.ofNat (D 31 i) ∧ h.2.1 71 i = Int64.ofNat (cwf 8 (D 21 (D 31 i))) ∧ h.1 72 i = Int32.ofNat (D 22 (D 31 i))
/-- what it knows of a part that isn't whole yet, where a is awaited -/
def CR (h : AH) (a : Nat) (D : AD) : Prop := (a = 1 ∨ a = 2 → h.1 67 6 = Int32.ofNat (D 30 2)) ∧ (a = 2 → h.2.1 67 5 = Int64.ofNat (cwf 8 (D 30 1))) ∧ (a = 13 → h.1 67 8 = Int32.ofNat (D 30 4)) ∧ (18 ≤ a ∧ a ≤ 20 → h.1 67 9 = Int32.ofNat (D 30 5)) ∧ (10 ≤ a ∧ a ≤ 21 ∧ a ≠ 15 → h.1 67 10 = Int32.ofNat (D 30 6))
def CS (h : AH) (x a : Nat) (D : AD) : Prop := CB h x D ∧ h.1 67 2 = Int32.ofNat a ∧ CR h a D
def PRd (x c p : Nat) : Prop := PAx x c p ∨ (c = 67 ∧ 2 ≤ p ∧ p ≠ 3 ∧ p ≠ 4) ∨ (70 ≤ c ∧ c ≤ 72)
def PRf (x c p : Nat) : Prop := PRd x c p ∨ (c = 67 ∧ (p = 3 ∨ p = 4))
/-- the fault c at the TOKEN t -/
def fh (h : AH) (t : Nat × Nat × Nat × Nat) (c : Nat) : AH := ax_setI (ax_setI h 67 3 (Int32.ofNat c)) 67 4 (Int32.ofNat t.2.2.1)
theorem k_faulty {l : Launch} {g : AG} {h : AH} {t : Nat × Nat × Nat × Nat} {Q : Int32 → AH → Prop} (c : Nat) (hr : Refs h) (tc : TokC h t) (hq : Q 0 (fh h t c)) : C_X7_faulty l g h 67 (Int32.ofNat c) Q := by
  refine c_X7_faulty (s_X7_faulty_0 ⟨is_67, ?_⟩)
  intro h2 e2
  have r2 : Refs h2 := by rw [e2]; exact hr.setI
  have e4 : h2.1 68 4 = Int32.ofNat t.2.2.1 := by rw [e2, gI_c (by omega)]; exact tc.2.1
  rw [rf_67_0 r2, e4]
  refine ⟨is_68, ?_⟩
  intro h5 e5
  rw [e5, e2]
  exact hq
theorem k_awaits {l : Launch} {g : AG} {h : AH} {Q : Int32 → AH → Prop} (a : Nat) (hq : Q 1 (ax_setI h 67 2 (Int32.ofNat a))) : C_X7_awaits l g h 67 (Int32.ofNat a) Q := by
  refine c_X7_awaits (s_X7_awaits_0 ⟨is_67, ?_⟩)
  intro h2 e2
  rw [e2]
  exact hq
theorem k_isNumber {l : Launch} {g : AG} {h : AH} {t : Nat × Nat × Nat × Nat} {lo hi : Nat} {Q : Int32 → AH → Prop} (hr : Refs h) (tc : TokC h t) (tk1 : t.1 < 256) (tk2 : t.1 = 2 → t.2.1 < 100) (hlo : lo < 100) (hhi : hi < 100) (q1 : t.1 = 2 → lo ≤ t.2.1 → t.2.1 ≤ hi → Q 1 h) (q4 : t.1 = 2 → (t.2.1 < lo ∨ hi < t.2.1) → Q 0 (fh h t 4)) (q0 : t.1 ≠ 2 → Q 0 (fh h t 1)) : C_X7_isNumber l g h 67 (Int32.ofNat lo) (Int32.ofNat hi) Q := by
  have p39 : Q 0 (fh h t 4) → L_X7_isNumber_39 l g h 67 Q := fun z => s_X7_isNumber_39 ⟨is_67, k_faulty 4 hr tc ⟨fun _ => z, fun y => absurd rfl y⟩⟩
  refine c_X7_isNumber (s_X7_isNumber_0 ?_)
  rw [rf_67_0 hr, tc.1]
  refine ⟨is_67, is_68, fun z => ⟨is_68, ?_⟩, fun z => k_faulty 1 hr tc ⟨Or.inl rfl, q0 (fun y => z (by rw [y]; rfl))⟩⟩
  have t2 : t.1 = 2 := (i_eq (b := 2) (by omega) (by omega)).1 z
  have v6 := tc.2.2.2.2 t2
  have v100 := tk2 t2
  rw [v6]
  refine ⟨fun y => p39 (q4 t2 (Or.inl ((i_lt (by omega) (by omega)).1 y))), fun y => ⟨is_68, fun w => ?_, fun w => ?_⟩⟩
  · have w2 := (i_le (by omega) (by omega)).1 w
    refine q1 t2 ?_ w2
    rcases Nat.lt_or_ge t.2.1 lo with u | u
    · exact absurd ((i_lt (by omega) (by omega)).2 u) y
    · exact u
  · refine p39 (q4 t2 (Or.inr ?_))
    rcases Nat.lt_or_ge hi t.2.1 with u | u
    · exact u
    · exact absurd ((i_le (by omega) (by omega)).2 u) w
theorem k_isNewName {l : Launch} {g : AG} {h : AH} {t : Nat × Nat × Nat × Nat} {x1 : Int32} {Q : Int32 → AH → Prop} (hr : Refs h) (tc : TokC h t) (tk1 : t.1 < 256) (q1 : t.1 = 1 → x1 = -1 → Q 1 h) (q3 : t.1 = 1 → ¬ x1 = -1 → Q 0 (fh h t 3)) (q0 : t.1 ≠ 1 → Q 0 (fh h t 1)) : C_X7_isNewName l g h 67 x1 Q := by
  refine c_X7_isNewName (s_X7_isNewName_0 ?_)
  rw [rf_67_0 hr, tc.1]
  refine ⟨is_67, is_68, fun z => ?_, fun z => k_faulty 1 hr tc ⟨Or.inl rfl, q0 (fun y => z (by rw [y]; rfl))⟩⟩
  have t2 : t.1 = 1 := (i_eq (b := 1) (by omega) (by omega)).1 z
  exact ⟨fun y => q1 t2 y, fun y => k_faulty 3 hr tc ⟨fun _ => q3 t2 y, fun u => absurd rfl u⟩⟩
/-- where names stand -/
theorem k_named {l : Launch} {g : AG} {h : AH} {c lo hi w : Nat} {N : Nat → Nat} {W : Int64} {Q : Int32 → AH → Prop} (hi1 : Is 194 c 21) (hb : hi ≤ (ax_s c).2) (hb2 : hi ≤ 24) (hlo : lo ≤ 24) (hN : ∀ i, i < hi → h.2.1 c i = Int64.ofNat (cwf 8 (N i)) ∧ N i < 1099511627776) (hq : ∀ r : Int32, (W = Int64.ofNat (cwf 8 w) → w < 1099511627776 → (findN (fun i => lo ≤ i ∧ N i = w) hi < hi → r = Int32.ofNat (findN (fun i => lo ≤ i ∧ N i = w) hi)) ∧ (¬ findN (fun i => lo ≤ i ∧ N i = w) hi < hi → r = -1)) → Q r h) : C_X0_placeOf l g h W c (Int32.ofNat lo) (Int32.ofNat hi) Q := by
  refine k_X0_placeOf hi1 hb (by omega) (by omega) (fun k k1 k2 k3 k4 => hq _ (fun eW hw => ?_)) (fun k4 => hq _ (fun eW hw => ?_))
  · have e : findN (fun i => lo ≤ i ∧ N i = w) hi = k := by
      refine findN_eq k2 ⟨k1, ?_⟩ (fun j hj y => ?_)
      · rw [(hN k k2).1, eW] at k3
        exact (cwf8_eq (hN k k2).2 hw).1 k3
      · refine k4 j y.1 hj ?_
        rw [(hN j (by omega)).1, y.2, eW]
    rw [e]
    exact ⟨fun _ => rfl, fun z => absurd k2 z⟩
  · have e : findN (fun i => lo ≤ i ∧ N i = w) hi = hi := by
      refine findN_none (fun j hj y => ?_)
      refine k4 j y.1 hj ?_
      rw [(hN j hj).1, y.2, eW]
    rw [e]
    exact ⟨fun z => absurd z (Nat.lt_irrefl _), fun _ => rfl⟩
theorem RepP.reg {h : AH} {x : Nat} {D E : AD} (hA : RepP h x D) (e : ∀ t, t ≤ 19 → E t = D t) : RepP h x E := by
  obtain ⟨⟨⟨n0, n1, n2, n3, n4, n5, n6⟩, aw, av, ab, ac, ad⟩, at_⟩ := hA
  have il : ∀ k, isL E k → isL D k := fun k hk => by
    unfold isL at hk ⊢
    rw [e 0 (by omega), e 8 (by omega)] at hk
    exact hk
  refine ⟨⟨⟨?_, ?_, ?_, ?_, ?_, ?_, ?_⟩, ?_, ?_, ?_, ?_, ?_⟩, ?_⟩
  · rw [e 0 (by omega)]; exact n0
  · rw [e 0 (by omega)]; exact n1
  · rw [e 0 (by omega)]; exact n2
  · rw [e 0 (by omega), e 5 (by omega)]; exact n3
  · rw [e 0 (by omega), e 6 (by omega)]; exact n4
  · rw [e 0 (by omega), e 8 (by omega)]; exact n5
  · have k : kept E = kept D := by unfold kept; rw [e 0 (by omega), e 5 (by omega)]
    rw [k]; exact n6
  · exact aw.c (by rw [e 0 (by omega)]) (e 1 (by omega)) (e 6 (by omega)) (e 7 (by omega)) (e 8 (by omega)) (e 18 (by omega)) (e 19 (by omega)) (fun j p hj => ⟨rfl, rfl⟩)
  · exact av.c (by rw [e 0 (by omega)]) (e 3 (by omega)) (e 4 (by omega)) (fun j p hj => ⟨rfl, rfl⟩)
  · exact ab.c (by rw [e 0 (by omega)]) (e 2 (by omega)) (e 9 (by omega)) (fun j p hj => ⟨rfl, rfl⟩)
  · exact ac.c (by rw [e 0 (by omega)]) (e 10 (by omega)) (e 11 (by omega)) (e 12 (by omega)) (e 13 (by omega)) (fun j p hj => rfl)
  · exact ad.c (fun k hk => ⟨il k hk, by rw [e 14 (by omega)], rfl⟩) (e 15 (by omega)) (e 16 (by omega)) (e 17 (by omega)) (fun j p hj => rfl)
  · intro w hw w8
    rw [e 0 (by omega)] at hw
    rw [e 8 (by omega)] at w8
    rw [e 14 (by omega)]
    exact at_ w hw w8
theorem RepP.fr {P : Nat → Nat → Prop} {h h1 : AH} {x : Nat} {D : AD} (hA : RepP h x D) (f : Fr P h h1) (e : ∀ c p, x ≤ c → c ≤ x + 20 → ¬ P c p) : RepP h1 x D :=
  ⟨hA.1.fr f e, fun w hw w8 => by rw [(f _ _ (e _ _ (by omega) (by omega))).1]; exact hA.2 w hw w8⟩
theorem CB.reg {h : AH} {x : Nat} {D E : AD} (c : CB h x D) (e : ∀ t, t ≤ 22 → E t = D t) (e3 : E 30 3 = D 30 3) (e7 : E 30 7 = D 30 7) (e31 : E 31 = D 31) : CB h x E := by
  obtain ⟨c1, c2, c3, c4, c5⟩ := c
  refine ⟨c1.reg (fun t ht => e t (by omega)), c2, by rw [e3]; exact c3, by rw [e7]; exact c4, fun i hi => ?_⟩
  rw [e7] at hi
  rw [e31, e 21 (by omega), e 22 (by omega)]
  exact c5 i hi
theorem CB.fr {P : Nat → Nat → Prop} {h h1 : AH} {x : Nat} {D : AD} (hx : isA x) (c : CB h x D) (f : Fr P h h1) (e : ∀ c p, P c p → (c = 67 ∧ p ≠ 1 ∧ p ≠ 7 ∧ p ≠ 11) ∨ c = 68) : CB h1 x D := by
  have hxu : x = 4 ∨ x = 25 ∨ x = 46 := hx
  obtain ⟨c1, c2, c3, c4, c5⟩ := c
  refine ⟨c1.fr f (fun c p h1 h2 q => by have := e c p q; omega), ?_, ?_, ?_, fun i hi => ?_⟩
  · rw [(f 67 1 (fun q => by have := e _ _ q; omega)).2.2]; exact c2
  · rw [(f 67 7 (fun q => by have := e _ _ q; omega)).1]; exact c3
  · rw [(f 67 11 (fun q => by have := e _ _ q; omega)).1]; exact c4
  · rw [(f 70 i (fun q => by have := e _ _ q; omega)).1, (f 71 i (fun q => by have := e _ _ q; omega)).2.1, (f 72 i (fun q => by have := e _ _ q; omega)).1]
    exact c5 i hi
/-- the APP grows: h to h1 at the APP's cells alone -/
theorem CB.add {h h1 : AH} {x : Nat} {D E : AD} (hx : isA x) (c : CB h x D) (f : Fr (PAx x) h h1) (hA : RepP h1 x E) (e : ∀ t, 21 ≤ t → E t = D t) : CB h1 x E := by
  have hxu : x = 4 ∨ x = 25 ∨ x = 46 := hx
  obtain ⟨c1, c2, c3, c4, c5⟩ := c
  refine ⟨hA, ?_, ?_, ?_, fun i hi => ?_⟩
  · rw [(f 67 1 (fun q => by unfold PAx at q; omega)).2.2]; exact c2
  · rw [(f 67 7 (fun q => by unfold PAx at q; omega)).1, e 30 (by omega)]; exact c3
  · rw [(f 67 11 (fun q => by unfold PAx at q; omega)).1, e 30 (by omega)]; exact c4
  · rw [e 30 (by omega)] at hi
    rw [(f 70 i (fun q => by unfold PAx at q; omega)).1, (f 71 i (fun q => by unfold PAx at q; omega)).2.1, (f 72 i (fun q => by unfold PAx at q; omega)).1, e 31 (by omega), e 21 (by omega), e 22 (by omega)]
    exact c5 i hi
/-- what the taking of the TOKEN t ends in -/
def TQ (h0 : AH) (x : Nat) (t : Nat × Nat × Nat × Nat) (R : Nat × Nat × AD) (Q : Int32 → AH → Prop) : Prop := (R.1 = 0 → ∀ h', Refs h' → Fr (PRd x) h0 h' → CS h' x R.2.1 R.2.2 → Q 1 h') ∧ (R.1 ≠ 0 → ∀ h', Refs h' → Fr (PRf x) h0 h' → h'.1 67 3 = Int32.ofNat R.1 → h'.1 67 4 = Int32.ofNat t.2.2.1 → Q 0 h')
theorem TQ.bad {h0 h : AH} {x c a : Nat} {t : Nat × Nat × Nat × Nat} {D : AD} {R : Nat × Nat × AD} {Q : Int32 → AH → Prop} (q : TQ h0 x t R Q) (e : R = (c, a, D)) (hc : c ≠ 0) (hr : Refs h) (f : Fr (PRd x) h0 h) : Q 0 (fh h t c) := by
  subst e
  exact q.2 hc _ hr.setI.setI (((f.mono (fun c p q => Or.inl q) : Fr (PRf x) h0 h).setI (Or.inr ⟨rfl, Or.inl rfl⟩)).setI (Or.inr ⟨rfl, Or.inr rfl⟩)) (by show (ax_setI _ _ _ _).1 67 3 = _; rw [gI_p (by omega), gI_s]) (gI_s _ _ _ _)
theorem TQ.ok {h0 h : AH} {x a : Nat} {t : Nat × Nat × Nat × Nat} {D : AD} {R : Nat × Nat × AD} {Q : Int32 → AH → Prop} (hx : isA x) (q : TQ h0 x t R Q) (e : R = (0, a, D)) (hr : Refs h) (f : Fr (PRd x) h0 h) (cb : CB h x D) (cr : CR h a D) : Q 1 (ax_setI h 67 2 (Int32.ofNat a)) := by
  subst e
  refine q.1 rfl _ hr.setI (f.setI (Or.inr (Or.inl ⟨rfl, by omega⟩))) ⟨cb.fr hx ((Fr.refl (fun c p => c = 67 ∧ p = 2) h).setI ⟨rfl, rfl⟩) (fun c p q => by omega), gI_s _ _ _ _, ?_⟩
  obtain ⟨r1, r2, r3, r4, r5⟩ := cr
  exact ⟨fun z => by rw [gI_p (by omega)]; exact r1 z, fun z => r2 z, fun z => by rw [gI_p (by omega)]; exact r3 z, fun z => by rw [gI_p (by omega)]; exact r4 z, fun z => by rw [gI_p (by omega)]; exact r5 z⟩
