/-- the model's APP at y while it is being read: nw, nb its counters, ex the list that isn't begun yet -/
def RepMd (h : AH) (y : Nat) (D : AD) (ex : Nat) : Prop := ∀ k, isL D k → k ≠ ex → h.1 (y + 9) k = Int32.ofNat (D 14 k) ∧ ∀ d, d < D 14 k → h.1 (y + 10) (4 * k + d) = Int32.ofNat (D 15 (4 * k + d)) ∧ (D 15 (4 * k + d) = 0 → h.2.1 (y + 13) (4 * k + d) = Int64.ofNat (D 21 (4 * k + d)) ∧ h.1 (y + 14) (4 * k + d) = Int32.ofNat (D 22 (4 * k + d))) ∧ (D 15 (4 * k + d) ≠ 0 → D 15 (4 * k + d) ≠ 1 → h.1 (y + 11) (4 * k + d) = Int32.ofNat (D 16 (4 * k + d))) ∧ (D 15 (4 * k + d) = 2 ∨ D 15 (4 * k + d) = 3 → h.1 (y + 12) (4 * k + d) = Int32.ofNat (D 17 (4 * k + d)))
def RepM (h : AH) (y : Nat) (D : AD) (nw nb ex : Nat) : Prop := (h.1 y 0 = Int32.ofNat nw ∧ h.1 y 1 = Int32.ofNat nb ∧ h.1 y 2 = Int32.ofNat (D 0 2)) ∧ RepBw h y D ∧ RepBv h y D ∧ RepBb h y D ∧ RepMd h y D ex
theorem RepBw.c {h h1 : AH} {y : Nat} {D E : AD} (r : RepBw h y D) (e0 : E 0 0 = D 0 0) (e1 : E 1 = D 1) (e6 : E 6 = D 6) (e7 : E 7 = D 7) (e8 : E 8 = D 8) (f : ∀ j p, j = 1 ∨ j = 5 ∨ j = 6 ∨ j = 7 → h1.1 (y + j) p = h.1 (y + j) p ∧ h1.2.1 (y + j) p = h.2.1 (y + j) p) : RepBw h1 y E := by
  unfold RepBw
  rw [e0, e1, e6, e7, e8]
  intro w hw
  rw [(f 1 w (by omega)).2, (f 5 w (by omega)).1, (f 7 w (by omega)).1]
  obtain ⟨a, b, c, d⟩ := r w hw
  exact ⟨a, b, fun k hk => by rw [(f 6 _ (by omega)).1]; exact c k hk, d⟩
theorem RepBv.c {h h1 : AH} {y : Nat} {D E : AD} (r : RepBv h y D) (e0 : E 0 2 = D 0 2) (e3 : E 3 = D 3) (e4 : E 4 = D 4) (e5 : E 5 = D 5) (f : ∀ j p, j = 3 ∨ j = 4 ∨ j = 8 → h1.1 (y + j) p = h.1 (y + j) p ∧ h1.2.1 (y + j) p = h.2.1 (y + j) p) : RepBv h1 y E := by
  unfold RepBv
  rw [e0, e3, e4, e5]
  intro w hw
  rw [(f 3 w (by omega)).2, (f 4 w (by omega)).1, (f 8 w (by omega)).1]
  exact r w hw
theorem RepBb.c {h h1 : AH} {y : Nat} {D E : AD} (r : RepBb h y D) (e0 : E 0 1 = D 0 1) (e2 : E 2 = D 2) (e9 : E 9 = D 9) (e10 : E 10 = D 10) (e11 : E 11 = D 11) (e12 : E 12 = D 12) (e13 : E 13 = D 13) (f : ∀ j p, j = 2 ∨ j = 15 ∨ j = 16 ∨ j = 17 ∨ j = 18 ∨ j = 19 → h1.1 (y + j) p = h.1 (y + j) p ∧ h1.2.1 (y + j) p = h.2.1 (y + j) p) : RepBb h1 y E := by
  unfold RepBb
  rw [e0, e2, e9, e10, e11, e12, e13]
  intro w hw
  rw [(f 2 w (by omega)).2, (f 15 w (by omega)).1, (f 16 w (by omega)).1]
  obtain ⟨a, b, c, d⟩ := r w hw
  exact ⟨a, b, c, fun k hk => by rw [(f 17 _ (by omega)).1, (f 18 _ (by omega)).1, (f 19 _ (by omega)).1]; exact d k hk⟩
theorem RepMd.c {h h1 : AH} {y ex fx : Nat} {D E : AD} (r : RepMd h y D ex) (hl : ∀ k, isL E k → k ≠ fx → isL D k ∧ k ≠ ex) (e14 : E 14 = D 14) (e15 : E 15 = D 15) (e16 : E 16 = D 16) (e17 : E 17 = D 17) (e21 : E 21 = D 21) (e22 : E 22 = D 22) (f : ∀ j p, 9 ≤ j ∧ j ≤ 14 → h1.1 (y + j) p = h.1 (y + j) p ∧ h1.2.1 (y + j) p = h.2.1 (y + j) p) : RepMd h1 y E fx := by
  intro k hk hx
  obtain ⟨a, b⟩ := r k (hl k hk hx).1 (hl k hk hx).2
  rw [e14, e15, e16, e17, e21, e22, (f 9 k (by omega)).1]
  refine ⟨a, fun d hd => ?_⟩
  rw [(f 10 _ (by omega)).1, (f 13 _ (by omega)).2, (f 14 _ (by omega)).1, (f 11 _ (by omega)).1, (f 12 _ (by omega)).1]
  exact b d hd
theorem RepM.reg {h : AH} {y nw nb ex : Nat} {D E : AD} (r : RepM h y D nw nb ex) (e : ∀ t, t ≤ 22 → E t = D t) : RepM h y E nw nb ex := by
  obtain ⟨⟨a1, a2, a3⟩, b, c, d, f⟩ := r
  refine ⟨⟨a1, a2, by rw [e 0 (by omega)]; exact a3⟩, b.c (by rw [e 0 (by omega)]) (e 1 (by omega)) (e 6 (by omega)) (e 7 (by omega)) (e 8 (by omega)) (fun _ _ _ => ⟨rfl, rfl⟩), c.c (by rw [e 0 (by omega)]) (e 3 (by omega)) (e 4 (by omega)) (e 5 (by omega)) (fun _ _ _ => ⟨rfl, rfl⟩), d.c (by rw [e 0 (by omega)]) (e 2 (by omega)) (e 9 (by omega)) (e 10 (by omega)) (e 11 (by omega)) (e 12 (by omega)) (e 13 (by omega)) (fun _ _ _ => ⟨rfl, rfl⟩), f.c (fun k hk hx => ⟨?_, hx⟩) (e 14 (by omega)) (e 15 (by omega)) (e 16 (by omega)) (e 17 (by omega)) (e 21 (by omega)) (e 22 (by omega)) (fun _ _ _ => ⟨rfl, rfl⟩)⟩
  unfold isL at hk ⊢
  rw [e 0 (by omega), e 8 (by omega)] at hk
  exact hk
theorem RepM.fr {P : Nat → Nat → Prop} {h h1 : AH} {y nw nb ex : Nat} {D : AD} (r : RepM h y D nw nb ex) (f : Fr P h h1) (e : ∀ c p, P c p → ¬ (y ≤ c ∧ c ≤ y + 19)) : RepM h1 y D nw nb ex := by
  obtain ⟨⟨a1, a2, a3⟩, b, c, d, g⟩ := r
  have fj : ∀ j p, j ≤ 19 → h1.1 (y + j) p = h.1 (y + j) p ∧ h1.2.1 (y + j) p = h.2.1 (y + j) p := fun j p hj => ⟨(f _ _ (fun q => e _ _ q (by omega))).1, (f _ _ (fun q => e _ _ q (by omega))).2.1⟩
  exact ⟨⟨(fj 0 0 (by omega)).1.trans a1, (fj 0 1 (by omega)).1.trans a2, (fj 0 2 (by omega)).1.trans a3⟩, b.c rfl rfl rfl rfl rfl (fun j p hj => fj j p (by omega)), c.c rfl rfl rfl rfl (fun j p hj => fj j p (by omega)), d.c rfl rfl rfl rfl rfl rfl rfl (fun j p hj => fj j p (by omega)), g.c (fun k a b => ⟨a, b⟩) rfl rfl rfl rfl rfl rfl (fun j p hj => fj j p (by omega))⟩
theorem RepM.nx {h h1 : AH} {y nw nb ex : Nat} {D : AD} (hy : isB y) (r : RepM h y D nw nb ex) (f : Fr PNx h h1) : RepM h1 y D nw nb ex := by
  have hyu : y = 105 ∨ y = 154 ∨ y = 174 := hy
  exact r.fr f (fun c p q => by unfold PNx at q; omega)
/-- what a deed that is being read touches -/
def PQd (y q c i : Nat) : Prop := (y + 10 ≤ c ∧ c ≤ y + 14 ∧ i = q) ∨ PNx c i
def DeedE (D E : AD) (ls : Nat) : Prop := (∀ t, t ≤ 13 ∨ t = 18 ∨ t = 19 → E t = D t) ∧ (∀ k, E 14 k = if k = ls then D 14 ls + 1 else D 14 k) ∧ (∀ i, i ≠ 4 * ls + D 14 ls → E 15 i = D 15 i ∧ E 16 i = D 16 i ∧ E 17 i = D 17 i ∧ E 21 i = D 21 i ∧ E 22 i = D 22 i) ∧ E 30 6 = D 30 6
def DeedH (h : AH) (y : Nat) (E : AD) (q : Nat) : Prop := h.1 (y + 10) q = Int32.ofNat (E 15 q) ∧ (E 15 q = 0 → h.2.1 (y + 13) q = Int64.ofNat (E 21 q) ∧ h.1 (y + 14) q = Int32.ofNat (E 22 q)) ∧ (E 15 q ≠ 0 → E 15 q ≠ 1 → h.1 (y + 11) q = Int32.ofNat (E 16 q)) ∧ (E 15 q = 2 ∨ E 15 q = 3 → h.1 (y + 12) q = Int32.ofNat (E 17 q))
theorem RepM.deed {h h1 : AH} {y nw nb ls : Nat} {D E : AD} (hy : isB y) (r : RepM h y D nw nb 99) (hd4 : ∀ k, D 14 k ≤ 4) (h4 : D 14 ls < 4) (f : Fr (PQd y (4 * ls + D 14 ls)) h h1) (de : DeedE D E ls) (dh : DeedH h1 y E (4 * ls + D 14 ls)) : RepM (ax_setI h1 (y + 9) ls (Int32.ofNat (D 14 ls + 1))) y E nw nb 99 := by
  have hyu : y = 105 ∨ y = 154 ∨ y = 174 := hy
  obtain ⟨⟨a1, a2, a3⟩, b, c, d, g⟩ := r
  obtain ⟨e, e14, eq, _⟩ := de
  have fj : ∀ j p, j ≤ 8 ∨ (15 ≤ j ∧ j ≤ 19) → (ax_setI h1 (y + 9) ls (Int32.ofNat (D 14 ls + 1))).1 (y + j) p = h.1 (y + j) p ∧ (ax_setI h1 (y + 9) ls (Int32.ofNat (D 14 ls + 1))).2.1 (y + j) p = h.2.1 (y + j) p := fun j p hj => by
    rw [gI_c (by omega)]
    have z := f (y + j) p (fun q => by unfold PQd PNx at q; omega)
    exact ⟨z.1, z.2.1⟩
  refine ⟨⟨(fj 0 0 (by omega)).1.trans a1, (fj 0 1 (by omega)).1.trans a2, ?_⟩, b.c (by rw [e 0 (by omega)]) (e 1 (by omega)) (e 6 (by omega)) (e 7 (by omega)) (e 8 (by omega)) (fun j p hj => fj j p (by omega)), c.c (by rw [e 0 (by omega)]) (e 3 (by omega)) (e 4 (by omega)) (e 5 (by omega)) (fun j p hj => fj j p (by omega)), d.c (by rw [e 0 (by omega)]) (e 2 (by omega)) (e 9 (by omega)) (e 10 (by omega)) (e 11 (by omega)) (e 12 (by omega)) (e 13 (by omega)) (fun j p hj => fj j p (by omega)), ?_⟩
  · rw [e 0 (by omega)]; exact (fj 0 2 (by omega)).1.trans a3
  · intro k hk hx
    have hk' : isL D k := by
      unfold isL at hk ⊢
      rw [e 0 (by omega), e 8 (by omega)] at hk
      exact hk
    obtain ⟨g1, g2⟩ := g k hk' hx
    have k4 := hd4 k
    rw [e14]
    refine ⟨?_, fun dd hd => ?_⟩
    · by_cases z : k = ls
      · rw [if_pos z, z, gI_s]
      · rw [if_neg z, gI_p z, (f (y + 9) k (fun q => by unfold PQd PNx at q; omega)).1]
        exact g1
    · rw [gI_c (by omega), gI_c (by omega), gI_c (by omega), gI_c (by omega)]
      show _ ∧ (_ → h1.2.1 (y + 13) (4 * k + dd) = _ ∧ _) ∧ _
      by_cases z : 4 * k + dd = 4 * ls + D 14 ls
      · rw [z]; exact dh
      · have dk : dd < D 14 k := by
          by_cases u : k = ls
          · rw [if_pos u] at hd; rw [u]; omega
          · rw [if_neg u] at hd; exact hd
        obtain ⟨q1, q2, q3, q4, q5⟩ := eq _ z
        rw [q1, q2, q3, q4, q5]
        have ff : ∀ c, (h1.1 c (4 * k + dd) = h.1 c (4 * k + dd) ∧ h1.2.1 c (4 * k + dd) = h.2.1 c (4 * k + dd)) ∨ c = 103 := fun c => by
          by_cases u : c = 103
          · exact Or.inr u
          · have w := f c (4 * k + dd) (fun q => by unfold PQd PNx at q; omega)
            exact Or.inl ⟨w.1, w.2.1⟩
        have f2 : ∀ j, (h1.1 (y + j) (4 * k + dd) = h.1 (y + j) (4 * k + dd) ∧ h1.2.1 (y + j) (4 * k + dd) = h.2.1 (y + j) (4 * k + dd)) := fun j => by
          rcases ff (y + j) with u | u
          · exact u
          · exfalso; omega
        rw [(f2 10).1, (f2 11).1, (f2 12).1, (f2 14).1, (f2 13).2]
        exact g2 dd dk
theorem deedE_add {D E : AD} {ls kd on num : Nat} (e : ∀ t, t ≠ 30 → E t = D t) (e6 : E 30 6 = D 30 6) : DeedE D (addDeed E ls kd on num) ls ∧ addDeed E ls kd on num 15 (4 * ls + D 14 ls) = kd ∧ addDeed E ls kd on num 16 (4 * ls + D 14 ls) = on ∧ addDeed E ls kd on num 17 (4 * ls + D 14 ls) = num := by
  have e14 : E 14 = D 14 := e 14 (by omega)
  unfold addDeed
  rw [e14]
  refine ⟨⟨fun t ht => ?_, fun k => ?_, fun i hi => ?_, ?_⟩, ?_, ?_, ?_⟩
  · simp (disch := first | assumption | omega) only [up_t]; exact e t (by omega)
  · by_cases c : k = ls
    · rw [if_pos c]; simp (disch := first | assumption | omega) only [up_e]
    · rw [if_neg c]; simp (disch := first | assumption | omega) only [up_t, up_n]; rw [e14]
  · simp (disch := first | assumption | omega) only [up_t, up_n]
    rw [e 15 (by omega), e 16 (by omega), e 17 (by omega), e 21 (by omega), e 22 (by omega)]
    exact ⟨rfl, rfl, rfl, rfl, rfl⟩
  · simp (disch := first | assumption | omega) only [up_t]; exact e6
  · simp (disch := first | assumption | omega) only [up_t, up_s]
  · simp (disch := first | assumption | omega) only [up_t, up_s]
  · simp (disch := first | assumption | omega) only [up_t, up_s]
theorem deedE_open {D E : AD} {ls nm pl : Nat} (e : ∀ t, t ≠ 30 → E t = D t) (e6 : E 30 6 = D 30 6) : DeedE D (addOpen E ls nm pl) ls ∧ addOpen E ls nm pl 15 (4 * ls + D 14 ls) = 0 ∧ addOpen E ls nm pl 21 (4 * ls + D 14 ls) = nm ∧ addOpen E ls nm pl 22 (4 * ls + D 14 ls) = pl := by
  have e14 : E 14 = D 14 := e 14 (by omega)
  unfold addOpen addDeed
  rw [e14]
  refine ⟨⟨fun t ht => ?_, fun k => ?_, fun i hi => ?_, ?_⟩, ?_, ?_, ?_⟩
  · simp (disch := first | assumption | omega) only [up_t]; exact e t (by omega)
  · by_cases c : k = ls
    · rw [if_pos c]; simp (disch := first | assumption | omega) only [up_t, up_e]
    · rw [if_neg c]; simp (disch := first | assumption | omega) only [up_t, up_n]; rw [e14]
  · simp (disch := first | assumption | omega) only [up_t, up_n]
    rw [e 15 (by omega), e 16 (by omega), e 17 (by omega), e 21 (by omega), e 22 (by omega)]
    exact ⟨rfl, rfl, rfl, rfl, rfl⟩
  · simp (disch := first | assumption | omega) only [up_t, up_n]; exact e6
  · simp (disch := first | assumption | omega) only [up_t, up_s]
  · simp (disch := first | assumption | omega) only [up_t, up_s]
  · simp (disch := first | assumption | omega) only [up_t, up_s]
theorem m_deeds_loop {l : Launch} {g : AG} {h0 : AH} {y nw nb ls p0 : Nat} {T : Nat → Nat} {n : Nat} {D0 : AD} {R : Nat × Nat × AD} {Q X : AH → Prop} (hy : isB y) (hn : n ≤ 800) (xq : XQ h0 y R X) (hq : ∀ h' D' p', MS h0 h' y T n → TokM h' (tk (bt T n) p') → RunS T n 21 D' p' R → (tk (bt T n) p').1 ≠ 44 → p0 ≤ p' → RepM h' y D' nw nb 99 → (∀ t, t ≤ 13 ∨ t = 18 ∨ t = 19 → D' t = D0 t) → Q h') : ∀ m p D h, n < p + m → p0 ≤ p → MS h0 h y T n → TokM h (tk (bt T n) p) → RunS T n 17 D p R → RepM h y D nw nb 99 → D 30 6 = ls → (∀ t, t ≤ 13 ∨ t = 18 ∨ t = 19 → D t = D0 t) → L_X12_readDeeds_14 l g h 103 (Int32.ofNat ls) y 1 Q X := by
  have hyu : y = 105 ∨ y = 154 ∨ y = 174 := hy
  intro mm
  induction mm with
  | zero => intro p D h hm _ _ _ run; exact absurd run.1 (by omega)
  | succ mm ih =>
    intro p D h hm hp0 m tm run rm els et
    have hT := fun k hk => (m.2.2.1.2 k hk).1
    have ok := tk_ok hT hn run.1
    obtain ⟨_, _, _, ok4, ok5, okw, ok2⟩ := ok
    have wf := run.2.1
    obtain ⟨⟨n1, n2, n3⟩, gv, gw, gh, gc, gd, go⟩ := wf.1
    have hl : isL D ls := by have := wf.2.2; rw [els] at this; exact this
    have l32 : ls < 32 := by
      rcases hl with a | ⟨w, a, b, c⟩ <;> omega
    have d4 := gd.1 ls
    have c9 : h.1 (y + 9) ls = Int32.ofNat (D 14 ls) := (rm.2.2.2.2 ls hl (by omega)).1
    -- behind a deed
    have L287 : D 14 ls < 4 → ∀ p' E h1, p < p' → MS h0 h1 y T n → TokM h1 (tk (bt T n) p') → RunS T n 21 E p' R → Fr (PQd y (4 * ls + D 14 ls)) h h1 → DeedE D E ls → DeedH h1 y E (4 * ls + D 14 ls) → L_X12_readDeeds_287 l g h1 103 (Int32.ofNat ls) y Q X := by
      intro h4 p' E h1 hp' m1 tm1 run1 f1 de dh
      have v9 : h1.1 (y + 9) ls = Int32.ofNat (D 14 ls) := by rw [(f1 (y + 9) ls (fun q => by unfold PQd PNx at q; omega)).1]; exact c9
      refine s_X12_readDeeds_287 ?_
      rw [rfB_11 m1.1 hy, i_cl (by omega), v9, show (1 : Int32) = Int32.ofNat 1 from rfl, i_add]
      refine ⟨isB_x hy, isB_9 hy, vi_ok (by omega) (by rw [szB_9 hy]; omega), vi_ok (by omega) (by rw [szB_9 hy]; omega), ?_⟩
      intro h106 e106
      have m106 : MS h0 h106 y T n := by rw [e106]; exact m1.I hy (by unfold PMe; omega)
      have tm106 : TokM h106 (tk (bt T n) p') := by rw [e106]; exact tm1.I (by omega)
      have rm106 : RepM h106 y E nw nb 99 := by rw [e106]; exact rm.deed hy gd.1 h4 f1 de dh
      have hT1 := fun k hk => (m1.2.2.1.2 k hk).1
      have ok1 := tk_ok hT1 hn run1.1
      have et1 : ∀ t, t ≤ 13 ∨ t = 18 ∨ t = 19 → E t = D0 t := fun t ht => by rw [de.1 t ht]; exact et t ht
      refine ⟨is_103, m_is 44 (by omega) (by omega) tm106 ok1.2.2.2.2.1 (fun z => ⟨fun u => absurd u (by decide), fun _ => ?_⟩) (fun z => ⟨fun _ => ?_, fun u => absurd rfl u⟩)⟩
      · have r := run_ok (b := 17) (E := E) hT1 hn run1 (by rw [stp_21, if_pos z]) (by omega)
        refine m_next hy hn run1.1 m106 tm106 (by omega) (fun h' m' f' tm' => ?_)
        exact ih _ E h' (by omega) (by omega) m' tm' r.1 (rm106.nx hy f') (by rw [de.2.2.2]; exact els) et1
      · exact s_X12_readDeeds_14 ⟨fun _ => hq h106 E p' m106 tm106 run1 z (by omega) rm106 et1, fun u => absurd rfl u⟩
    -- the kind is known
    have L89 : ∀ s, dSaid (tk (bt T n) p).1 (tk (bt T n) p).2.1 = s → s ≠ 5 → L_X12_readDeeds_89 l g h 103 (Int32.ofNat ls) y (Int32.ofNat s) Q X := by
      intro s es s5
      have sle := dSaid_le (tk (bt T n) p).1 (tk (bt T n) p).2.1
      rw [es] at sle
      have k1 : (tk (bt T n) p).1 = 1 := by
        refine Classical.byContradiction (fun z => s5 ?_)
        rw [← es]
        unfold dSaid
        rw [if_neg (fun y => z y.1), if_neg (fun y => z y.1), if_neg (fun y => z y.1), if_neg (fun y => z y.1), if_neg (fun y => z y.1)]
      refine s_X12_readDeeds_89 ⟨fun _ => ?_, fun z => absurd z (i_ne (by omega))⟩
      rw [rfB_11 m.1 hy, rfB_12 m.1 hy, i_cl (by omega), c9, show (4 : Int32) = Int32.ofNat 4 from rfl, i_mul, i_add]
      refine ⟨isB_x hy, isB_9 hy, vi_ok (by omega) (by rw [szB_9 hy]; omega), fun z => ?_, fun z => ?_⟩
      · have h4 : D 14 ls < 4 := by
          have : D 14 ls ≠ 4 := fun u => z (by rw [u])
          omega
        have q128 : 4 * ls + D 14 ls < 128 := by omega
        refine ⟨isB_9 hy, vi_ok (by omega) (by rw [szB_9 hy]; omega), ?_⟩
        intro v39 e39
        rw [e39, i_cl (by omega)]
        refine ⟨isB_10 hy, vi_ok (by omega) (by rw [szB_10 hy]; omega), ?_⟩
        generalize eq : 4 * ls + D 14 ls = q at *
        intro h43 e43
        have m43 : MS h0 h43 y T n := by rw [e43]; exact m.I hy (by unfold PMe; omega)
        have tm43 : TokM h43 (tk (bt T n) p) := by rw [e43]; exact tm.I (by omega)
        have f43 : Fr (PQd y q) h h43 := by rw [e43]; exact (Fr.refl _ _).setI (Or.inl ⟨by omega, by omega, rfl⟩)
        have v43 : h43.1 (y + 10) q = Int32.ofNat s := by rw [e43, gI_s]
        refine ⟨is_103, m_next hy hn run.1 m43 tm43 (by omega) (fun h47 m47 f47 tm47 => ?_)⟩
        have g47 : Fr (PQd y q) h h47 := f43.trans (f47.mono (fun c i z => Or.inr z))
        have v47 : h47.1 (y + 10) q = Int32.ofNat s := by rw [(f47 _ _ (fun q => by unfold PNx at q; omega)).1]; exact v43
        have st : ∀ b E, stp 17 D (tk (bt T n) p).1 (tk (bt T n) p).2.1 (tk (bt T n) p).2.2.1 = (0, b, E) → RunS T n b E (tk (bt T n) p).2.2.2 R ∧ p < (tk (bt T n) p).2.2.2 := fun b E e => run_ok hT hn run e (by omega)
        have h4' : D 14 (D 30 6) < 4 := by rw [els]; exact h4
        have eqq : 4 * D 30 6 + D 14 (D 30 6) = q := by rw [els]; exact eq
        have bv : ∀ h1 (E : AD), Fr (PQd y q) h h1 → (∀ t, t ≤ 13 → E t = D t) → h1.1 y 2 = Int32.ofNat (E 0 2) ∧ RepBv h1 y E := by
          intro h1 E f1 e
          refine ⟨?_, rm.2.2.1.c (by rw [e 0 (by omega)]) (e 3 (by omega)) (e 4 (by omega)) (e 5 (by omega)) (fun j p hj => ?_)⟩
          · rw [(f1 y 2 (fun z => by unfold PQd PNx at z; omega)).1, e 0 (by omega)]; exact rm.1.2.2
          · have w := f1 (y + j) p (fun z => by unfold PQd PNx at z; omega)
            exact ⟨w.1, w.2.1⟩
        generalize ep1 : (tk (bt T n) p).2.2.2 = p1 at *
        refine ⟨fun z0 => ⟨fun z4 => ⟨fun z1 => ?_, fun z1 => ?_⟩, fun z4 => ?_⟩, fun z0 => ?_⟩
        · -- close
          have s1 : s = 1 := by
            have := (i_le (b := 1) (by omega) (by omega)).1 z1
            have : s ≠ 0 := fun u => z0 (by rw [u]; rfl)
            omega
          have r := st 21 (addDeed (up D 30 5 1) (D 30 6) 1 0 0) (by rw [stp_17, es, if_neg s5, if_pos h4', if_neg (by omega), if_pos s1])
          have de := deedE_add (D := D) (E := up D 30 5 1) (ls := ls) (kd := 1) (on := 0) (num := 0) (fun t ht => up_t ht) (up_n (by omega))
          rw [els] at r
          rw [eq] at de
          refine L287 h4 _ _ h47 r.2 m47 tm47 r.1 g47 de.1 ?_
          unfold DeedH
          rw [de.2.1]
          exact ⟨by rw [v47, s1], fun u => absurd u (by omega), fun _ u => absurd rfl u, fun u => absurd u (by omega)⟩
        · -- set, add
          have s23 : s = 2 ∨ s = 3 := by
            have n0 : s ≠ 0 := fun u => z0 (by rw [u]; rfl)
            have n4 : s ≠ 4 := fun u => z4 (by rw [u])
            have n1 : ¬ s ≤ 1 := fun u => z1 ((i_le (b := 1) (by omega) (by omega)).2 u)
            omega
          have r := st 19 (up D 30 5 s) (by rw [stp_17, es, if_neg s5, if_pos h4', if_neg (by omega), if_neg (by omega), if_neg (by omega)])
          have b47 := bv h47 (up D 30 5 s) g47 (fun t ht => up_t (by omega))
          refine m_varHere hy hn m47 tm47 r.1 (by omega) xq b47.1 b47.2 (fun k => by rw [stp_19, if_pos k]) (fun k c => by rw [stp_19, if_neg (fun z => z k), if_neg c]) (fun k c => ?_)
          have r2 := run_ok (b := 20) (E := up (up D 30 5 s) 30 3 (fV (up D 30 5 s) (tk (bt T n) p1).2.1)) hT hn r.1 (by rw [stp_19, if_neg (fun z => z k), if_pos c]) (by omega)
          revert c r2
          generalize fV (up D 30 5 s) (tk (bt T n) p1).2.1 = v
          intro c r2
          rw [up_t (by omega)] at c
          rw [rfB_13 m47.1 hy]
          refine ⟨isB_11 hy, vi_ok (by omega) (by rw [szB_11 hy]; omega), ?_⟩
          intro h56 e56
          have m56 : MS h0 h56 y T n := by rw [e56]; exact m47.I hy (by unfold PMe; omega)
          have tm56 : TokM h56 (tk (bt T n) p1) := by rw [e56]; exact tm47.I (by omega)
          have g56 : Fr (PQd y q) h h56 := by rw [e56]; exact g47.setI (Or.inl ⟨by omega, by omega, rfl⟩)
          have v56 : h56.1 (y + 10) q = Int32.ofNat s := by rw [e56, gI_c (by omega)]; exact v47
          have w56 : h56.1 (y + 11) q = Int32.ofNat v := by rw [e56, gI_s]
          refine m_next hy hn r.1.1 m56 tm56 (by omega) (fun h59 m59 f59 tm59 => ?_)
          have g59 : Fr (PQd y q) h h59 := g56.trans (f59.mono (fun c i z => Or.inr z))
          have v59 : h59.1 (y + 10) q = Int32.ofNat s := by rw [(f59 _ _ (fun q => by unfold PNx at q; omega)).1]; exact v56
          have w59 : h59.1 (y + 11) q = Int32.ofNat v := by rw [(f59 _ _ (fun q => by unfold PNx at q; omega)).1]; exact w56
          generalize ep2 : (tk (bt T n) p1).2.2.2 = p2 at *
          have E5 : up (up D 30 5 s) 30 3 v 30 5 = s := by rw [up_n (by omega), up_s]
          have E3 : up (up D 30 5 s) 30 3 v 30 3 = v := up_s _ _ _ _
          have E6 : up (up D 30 5 s) 30 3 v 30 6 = ls := by rw [up_n (by omega), up_n (by omega)]; exact els
          have E4 : up (up D 30 5 s) 30 3 v 4 v = D 4 v := by rw [up_t (by omega), up_t (by omega)]
          have hm9 := (gv v c).2.2.1
          have fin : ∀ lo hi, lo = (if s = 2 then 0 else 1) → hi = (if s = 4 then 20 else if s = 2 then D 4 v else 9) → C_X12_needNumber l g h59 103 (Int32.ofNat lo) (Int32.ofNat hi) (fun r64 h63 => L_X12_readDeeds_286 l g h63 103 (Int32.ofNat ls) y r64 (Int32.ofNat q) (y + 12) Q X) X := by
            intro lo hi elo ehi
            have hh : lo < 100 ∧ hi < 100 := by
              rw [elo, ehi, if_neg (show ¬ s = 4 by omega)]
              rcases s23 with u | u
              · rw [if_pos u, if_pos u]; omega
              · rw [if_neg (by omega), if_neg (by omega)]; omega
            refine m_needNumber (b := 21) (E := addDeed (up (up D 30 5 s) 30 3 v) ls s v (tk (bt T n) p2).2.1) hh.1 hh.2 hy hn m59 tm59 r2.1 (by omega) xq (fun k => by rw [stp_20, if_pos k]) (fun k c => ?_) (fun k c1 c2 => ?_) (fun k c1 c2 h63 m63 f63 tm63 r3 lt3 => ?_)
            · rw [stp_20, if_neg (fun z => z k), E5, E3, E4, ← elo, ← ehi, if_pos c]
            · rw [stp_20, if_neg (fun z => z k), E5, E3, E4, E6, ← elo, ← ehi, if_neg (by omega), if_neg (show ¬ s = 4 by omega)]
            · refine s_X12_readDeeds_286 ?_
              rw [i_cl (by omega)]
              refine ⟨isB_12 hy, vi_ok (by omega) (by rw [szB_12 hy]; omega), ?_⟩
              intro h117 e117
              have de := deedE_add (D := D) (E := up (up D 30 5 s) 30 3 v) (ls := ls) (kd := s) (on := v) (num := (tk (bt T n) p2).2.1) (fun t ht => by rw [up_t ht, up_t ht]) (by rw [up_n (by omega), up_n (by omega)])
              rw [eq] at de
              refine L287 h4 _ _ h117 (by omega) (by rw [e117]; exact m63.I hy (by unfold PMe; omega)) (by rw [e117]; exact tm63.I (by omega)) r3 ?_ de.1 ?_
              · rw [e117]; exact (g59.trans (f63.mono (fun c i z => Or.inr z))).setI (Or.inl ⟨by omega, by omega, rfl⟩)
              · unfold DeedH
                rw [de.2.1, de.2.2.1, de.2.2.2]
                refine ⟨?_, fun u => absurd u (by omega), fun _ _ => ?_, fun _ => ?_⟩
                · rw [e117, gI_c (by omega), (f63 _ _ (fun q => by unfold PNx at q; omega)).1]; exact v59
                · rw [e117, gI_c (by omega), (f63 _ _ (fun q => by unfold PNx at q; omega)).1]; exact w59
                · rw [e117, gI_s]
          rw [rfB_14 m59.1 hy, rfB_6 m59.1 hy, i_cl (by omega), ((bv h59 D g59 (fun t _ => rfl)).2 v c).2.1]
          refine ⟨isB_12 hy, fun u => ?_, fun u => ?_⟩
          · have u2 : ¬ s = 2 := fun w => u (by rw [w]; rfl)
            exact fin 1 9 (by rw [if_neg u2]) (by rw [if_neg (by omega), if_neg u2])
          · have u2 : s = 2 := (i_eq (b := 2) (by omega) (by omega)).1 u
            exact ⟨isB_4 hy, vi_ok (by omega) (by rw [szB_4 hy]; omega), fin 0 (D 4 v) (by rw [if_pos u2]) (by rw [if_neg (by omega), if_pos u2])⟩
        · -- fault
          have s4 : s = 4 := (i_eq (b := 4) (by omega) (by omega)).1 z4
          have r := st 20 (up D 30 5 4) (by rw [stp_17, es, if_neg s5, if_pos h4', if_neg (by omega), if_neg (by omega), if_pos s4])
          have E5 : up D 30 5 4 30 5 = 4 := up_s _ _ _ _
          have E6 : up D 30 5 4 30 6 = ls := by rw [up_n (by omega)]; exact els
          rw [rfB_13 m47.1 hy]
          refine ⟨isB_11 hy, ?_⟩
          refine m_needNumber (lo := 1) (hi := 20) (b := 21) (E := addDeed (up D 30 5 4) ls 4 (tk (bt T n) p1).2.1 (tk (bt T n) p1).2.1) (by omega) (by omega) hy hn m47 tm47 r.1 (by omega) xq (fun k => by rw [stp_20, if_pos k]) (fun k c => ?_) (fun k c1 c2 => ?_) (fun k c1 c2 h63 m63 f63 tm63 r3 lt3 => ?_)
          · rw [stp_20, if_neg (fun z => z k), E5, if_neg (show ¬ (4 : Nat) = 2 by omega), if_pos (rfl : (4 : Nat) = 4), if_pos c]
          · rw [stp_20, if_neg (fun z => z k), E5, E6, if_neg (show ¬ (4 : Nat) = 2 by omega), if_pos (rfl : (4 : Nat) = 4), if_neg (by omega), if_pos (rfl : (4 : Nat) = 4)]
          · refine ⟨vi_ok (by omega) (by rw [szB_11 hy]; omega), ?_⟩
            intro h75 e75
            have de := deedE_add (D := D) (E := up D 30 5 4) (ls := ls) (kd := 4) (on := (tk (bt T n) p1).2.1) (num := (tk (bt T n) p1).2.1) (fun t ht => up_t ht) (up_n (by omega))
            rw [eq] at de
            refine L287 h4 _ _ h75 (by omega) (by rw [e75]; exact m63.I hy (by unfold PMe; omega)) (by rw [e75]; exact tm63.I (by omega)) r3 ?_ de.1 ?_
            · rw [e75]; exact (g47.trans (f63.mono (fun c i z => Or.inr z))).setI (Or.inl ⟨by omega, by omega, rfl⟩)
            · unfold DeedH
              rw [de.2.1, de.2.2.1, de.2.2.2]
              refine ⟨?_, fun u => absurd u (by omega), fun _ _ => ?_, fun u => absurd u (by omega)⟩
              · rw [e75, gI_c (by omega), (f63 _ _ (fun q => by unfold PNx at q; omega)).1, v47, s4]
              · rw [e75, gI_s]
        · -- open
          have s0 : s = 0 := (i_eq (b := 0) (by omega) (by omega)).1 z0
          have r := st 18 (up D 30 5 0) (by rw [stp_17, es, if_neg s5, if_pos h4', if_pos s0])
          have E6 : up D 30 5 0 30 6 = ls := by rw [up_n (by omega)]; exact els
          refine ⟨fun k => ?_, fun k => ?_⟩
          · have t1 : (tk (bt T n) p1).1 = 1 := srt_2.1 ((tm_k (c := 2) tm47 (by omega)).1 k)
            have r2 := run_ok (b := 21) (E := addOpen (up D 30 5 0) ls (tk (bt T n) p1).2.1 (tk (bt T n) p1).2.2.1) hT hn r.1 (by rw [stp_18, if_neg (fun z => z t1), E6]) (by omega)
            rw [rfB_15 m47.1 hy, tm47.2.2.2.2.1 t1]
            refine ⟨isB_13 hy, vi_ok (by omega) (by rw [szB_13 hy]; omega), ?_⟩
            intro h80 e80
            have m80 : MS h0 h80 y T n := by rw [e80]; exact m47.L hy (by unfold PMe; omega)
            have tm80 : TokM h80 (tk (bt T n) p1) := by rw [e80]; exact tm47.L (by omega)
            rw [rfB_16 m80.1 hy, tm80.2.1]
            refine ⟨isB_14 hy, vi_ok (by omega) (by rw [szB_14 hy]; omega), ?_⟩
            intro h84 e84
            have m84 : MS h0 h84 y T n := by rw [e84]; exact m80.I hy (by unfold PMe; omega)
            have tm84 : TokM h84 (tk (bt T n) p1) := by rw [e84]; exact tm80.I (by omega)
            have g84 : Fr (PQd y q) h h84 := by rw [e84, e80]; exact (g47.setL (Or.inl ⟨by omega, by omega, rfl⟩)).setI (Or.inl ⟨by omega, by omega, rfl⟩)
            refine m_next hy hn r.1.1 m84 tm84 (by omega) (fun h87 m87 f87 tm87 => ?_)
            have de := deedE_open (D := D) (E := up D 30 5 0) (ls := ls) (nm := (tk (bt T n) p1).2.1) (pl := (tk (bt T n) p1).2.2.1) (fun t ht => up_t ht) (up_n (by omega))
            rw [eq] at de
            refine L287 h4 _ _ h87 (by omega) m87 tm87 r2.1 (g84.trans (f87.mono (fun c i z => Or.inr z))) de.1 ?_
            unfold DeedH
            rw [de.2.1, de.2.2.1, de.2.2.2]
            refine ⟨?_, fun _ => ⟨?_, ?_⟩, fun u => absurd rfl u, fun u => absurd u (by omega)⟩
            · rw [(f87 _ _ (fun q => by unfold PNx at q; omega)).1, e84, gI_c (by omega), e80]
              show h47.1 (y + 10) q = _
              rw [v47, s0]
            · rw [(f87 _ _ (fun q => by unfold PNx at q; omega)).2.1, e84]
              show h80.2.1 (y + 13) q = _
              rw [e80, gL_s]
            · rw [(f87 _ _ (fun q => by unfold PNx at q; omega)).1, e84, gI_s]
          · have t1 : (tk (bt T n) p1).1 ≠ 1 := fun u => k ((tm_k (c := 2) tm47 (by omega)).2 (srt_2.2 u))
            exact m_stop (c := 1) hy m47 tm47 xq (by omega) (run_bad r.1 (b := 0) (E := up D 30 5 0) (by rw [stp_18, if_pos t1]) (by omega) (Or.inl (by omega)))
      · have h4 : D 14 ls = 4 := (i_eq (b := 4) (by omega) (by omega)).1 z
        refine ⟨is_103, m_stop (c := 5) hy m tm xq (by omega) (run_bad (b := 0) (E := D) run ?_ (by omega) (Or.inr (by omega)))⟩
        rw [stp_17, es, if_neg s5, els, if_neg (by omega)]
    refine s_X12_readDeeds_14 ⟨fun u => absurd u (by decide), fun _ => ⟨is_103, ?_⟩⟩
    refine m_isWord 9 (by omega) tm okw (fun k => ⟨fun u => absurd u (by decide), fun _ => L89 0 (by unfold dSaid; rw [if_pos k]) (by omega)⟩) (fun k9 => ⟨fun _ => ?_, fun u => absurd rfl u⟩)
    refine m_isWord 4 (by omega) tm okw (fun k => ⟨fun u => absurd u (by decide), fun _ => L89 1 (by unfold dSaid; rw [if_neg k9, if_pos k]) (by omega)⟩) (fun k4 => ⟨fun _ => ?_, fun u => absurd rfl u⟩)
    refine m_isWord 10 (by omega) tm okw (fun k => ⟨fun u => absurd u (by decide), fun _ => L89 2 (by unfold dSaid; rw [if_neg k9, if_neg k4, if_pos k]) (by omega)⟩) (fun k10 => ⟨fun _ => ?_, fun u => absurd rfl u⟩)
    refine m_isWord 0 (by omega) tm okw (fun k => ⟨fun u => absurd u (by decide), fun _ => L89 3 (by unfold dSaid; rw [if_neg k9, if_neg k4, if_neg k10, if_pos k]) (by omega)⟩) (fun k0 => ⟨fun _ => ?_, fun u => absurd rfl u⟩)
    refine m_isWord 6 (by omega) tm okw (fun k => ⟨fun u => absurd u (by decide), fun _ => L89 4 (by unfold dSaid; rw [if_neg k9, if_neg k4, if_neg k10, if_neg k0, if_pos k]) (by omega)⟩) (fun k6 => ⟨fun _ => ?_, fun u => absurd rfl u⟩)
    have es : dSaid (tk (bt T n) p).1 (tk (bt T n) p).2.1 = 5 := by
      unfold dSaid; rw [if_neg k9, if_neg k4, if_neg k10, if_neg k0, if_neg k6]
    refine s_X12_readDeeds_89 ⟨fun u => absurd rfl u, fun _ => ⟨is_103, m_stop (c := 1) hy m tm xq (by omega) (run_bad (b := 0) (E := D) run ?_ (by omega) (Or.inl (by omega)))⟩⟩
    rw [stp_17, if_pos es]
theorem m_readDeeds {l : Launch} {g : AG} {h0 h : AH} {y nw nb p : Nat} {T : Nat → Nat} {n ls : Nat} {D : AD} {R : Nat × Nat × AD} {Q X : AH → Prop} (hy : isB y) (hn : n ≤ 800) (m : MS h0 h y T n) (tm : TokM h (tk (bt T n) p)) (run : RunS T n 17 D p R) (rm : RepM h y D nw nb ls) (els : D 30 6 = ls) (e14 : D 14 ls = 0) (xq : XQ h0 y R X) (hq : ∀ h' D' p', MS h0 h' y T n → TokM h' (tk (bt T n) p') → RunS T n 21 D' p' R → (tk (bt T n) p').1 ≠ 44 → p ≤ p' → RepM h' y D' nw nb 99 → (∀ t, t ≤ 13 ∨ t = 18 ∨ t = 19 → D' t = D t) → Q h') : C_X12_readDeeds l g h 103 (Int32.ofNat ls) Q X := by
  have hyu : y = 105 ∨ y = 154 ∨ y = 174 := hy
  have wf := run.2.1
  obtain ⟨⟨n1, n2, n3⟩, gv, gw, gh, gc, gd, go⟩ := wf.1
  have hl : isL D ls := by have := wf.2.2; rw [els] at this; exact this
  have l32 : ls < 32 := by
    rcases hl with a | ⟨w, a, b, c⟩ <;> omega
  refine c_X12_readDeeds (s_X12_readDeeds_0 ?_)
  rw [m.2.1]
  refine ⟨is_103, isB_x hy, ?_⟩
  intro v3 e3
  rw [e3, rfB_11 m.1 hy, i_cl (by omega)]
  refine ⟨isB_9 hy, vi_ok (by omega) (by rw [szB_9 hy]; omega), ?_⟩
  intro h8 e8
  have f8 : Fr (fun c i => c = y + 9 ∧ i = ls) h h8 := by rw [e8]; exact (Fr.refl _ _).setI ⟨rfl, rfl⟩
  refine m_deeds_loop (nw := nw) (nb := nb) (p0 := p) (D0 := D) hy hn xq hq (n + 1) p D h8 (by omega) (by omega) (by rw [e8]; exact m.I hy (by unfold PMe; omega)) (by rw [e8]; exact tm.I (by omega)) run ?_ els (fun t _ => rfl)
  obtain ⟨⟨a1, a2, a3⟩, b, c, d, gm⟩ := rm
  have fj : ∀ j p, j ≠ 9 → h8.1 (y + j) p = h.1 (y + j) p ∧ h8.2.1 (y + j) p = h.2.1 (y + j) p := fun j p hj => ⟨(f8 _ _ (by omega)).1, (f8 _ _ (by omega)).2.1⟩
  refine ⟨⟨(fj 0 0 (by omega)).1.trans a1, (fj 0 1 (by omega)).1.trans a2, (fj 0 2 (by omega)).1.trans a3⟩, b.c rfl rfl rfl rfl rfl (fun j p hj => fj j p (by omega)), c.c rfl rfl rfl rfl (fun j p hj => fj j p (by omega)), d.c rfl rfl rfl rfl rfl rfl rfl (fun j p hj => fj j p (by omega)), fun k hk hx => ?_⟩
  by_cases z : k = ls
  · rw [z, e14]
    exact ⟨by rw [e8, gI_s]; rfl, fun d hd => absurd hd (by omega)⟩
  · obtain ⟨g1, g2⟩ := gm k hk z
    rw [(f8 (y + 9) k (by omega)).1]
    refine ⟨g1, fun d hd => ?_⟩
    rw [(fj 10 _ (by omega)).1, (fj 13 _ (by omega)).2, (fj 14 _ (by omega)).1, (fj 11 _ (by omega)).1, (fj 12 _ (by omega)).1]
    exact g2 d hd
