theorem TQ.w {h0 : AH} {x : Nat} {t : Nat × Nat × Nat × Nat} {R : Nat × Nat × AD} {Q : Int32 → AH → Prop} (q : TQ h0 x t R Q) : TQ h0 x t R (fun r h => (r = 0 ∨ r = 1) ∧ Q r h) :=
  ⟨fun z h' a b c => ⟨Or.inr rfl, q.1 z h' a b c⟩, fun z h' a b c d => ⟨Or.inl rfl, q.2 z h' a b c d⟩⟩
theorem tq_sign {l : Launch} {g : AG} {h : AH} {x a b sg : Nat} {D : AD} {t : Nat × Nat × Nat × Nat} {Q : Int32 → AH → Prop} (hr : Refs h) (hx : isA x) (cs : CS h x a D) (tc : TokC h t) (tk1 : t.1 < 256) (hs : sg < 256) (hb : b = 0 ∨ (3 ≤ b ∧ b ≤ 9)) (e1 : t.1 = sg → stp a D t.1 t.2.1 t.2.2.1 = (0, b, D)) (e0 : t.1 ≠ sg → stp a D t.1 t.2.1 t.2.2.1 = (1, 0, D)) (q : TQ h x t (stp a D t.1 t.2.1 t.2.2.1) Q) : C_X7_takeSign l g h 67 (Int32.ofNat sg) (Int32.ofNat b) Q :=
  k_takeSign sg b hr tc tk1 hs (fun z => q.ok hx (e1 z) hr (Fr.refl _ _) cs.1 (CR.none hb)) (fun z => q.bad (e0 z) (by decide) hr (Fr.refl _ _))
theorem tq_do {l : Launch} {g : AG} {h : AH} {x a : Nat} {D : AD} {T : Nat → Nat} {n p : Nat} {Q : Int32 → AH → Prop} (hr : Refs h) (hx : isA x) (cs : CS h x a D) (ha : 10 ≤ a ∧ a ≤ 21 ∧ a ≠ 15) (hn : n ≤ 800) (hp : p ≤ n) (te : TapC h T n) (tc : TokC h (tk (bt T n) p)) (e1 : isK 5 (tk (bt T n) p).1 (tk (bt T n) p).2.1 → stp a D (tk (bt T n) p).1 (tk (bt T n) p).2.1 (tk (bt T n) p).2.2.1 = (0, 17, D)) (e0 : ¬ isK 5 (tk (bt T n) p).1 (tk (bt T n) p).2.1 → stp a D (tk (bt T n) p).1 (tk (bt T n) p).2.1 (tk (bt T n) p).2.2.1 = (1, 0, D)) (q : TQ h x (tk (bt T n) p) (stp a D (tk (bt T n) p).1 (tk (bt T n) p).2.1 (tk (bt T n) p).2.2.1) Q) : C_X7_takeDo l g h 67 Q :=
  k_takeDo hr hn hp te tc (fun z => q.ok hx (e1 z) hr (Fr.refl _ _) cs.1 (CR.list (by omega) (cs.2.2.2.2.2.2 ha))) (fun z => q.bad (e0 z) (by decide) hr (Fr.refl _ _))
theorem Ga_le {D : AD} {a : Nat} (h : Ga D a) : a ≤ 21 := by
  match a, h with
  | 0, _ => omega
  | 1, _ => omega
  | 2, _ => omega
  | 3, _ => omega
  | 4, _ => omega
  | 5, _ => omega
  | 6, _ => omega
  | 7, _ => omega
  | 8, _ => omega
  | 9, _ => omega
  | 10, _ => omega
  | 11, _ => omega
  | 12, _ => omega
  | 13, _ => omega
  | 14, _ => omega
  | 15, _ => omega
  | 16, _ => omega
  | 17, _ => omega
  | 18, _ => omega
  | 19, _ => omega
  | 20, _ => omega
  | 21, _ => omega
  | (n + 22), h => exact absurd h (fun z => z)
theorem k_taken {l : Launch} {g : AG} {h : AH} {x a : Nat} {D : AD} {T : Nat → Nat} {n p : Nat} {Q : Int32 → AH → Prop} (hr : Refs h) (hx : isA x) (cs : CS h x a D) (wf : WfP a D p) (hn : n ≤ 800) (hp : p ≤ n) (te : TapC h T n) (tc : TokC h (tk (bt T n) p)) (q0 : TQ h x (tk (bt T n) p) (stp a D (tk (bt T n) p).1 (tk (bt T n) p).2.1 (tk (bt T n) p).2.2.1) Q) : C_X7_taken l g h 67 Q := by
  have ok := tk_ok (fun k hk => (te.2.2 k hk).1) hn hp
  obtain ⟨_, _, _, _, tk1, tkw, tk2⟩ := ok
  have q := q0.w
  obtain ⟨⟨⟨n1, n2, n3⟩, gv, gw, gh, gc, gd, go⟩, ga⟩ := wf
  have a21 := Ga_le ga
  have nV : ∀ v, v < D 0 2 → D 3 v < 1099511627776 := fun v hv => (gv v hv).1
  have nW : ∀ v, v < D 0 0 → D 1 v < 1099511627776 := fun v hv => (gw v hv).1
  have nB : ∀ v, v < D 0 1 → D 2 v < 1099511627776 := fun v hv => (gh.2.2.1 v hv).1
  have c3 : ∀ b, b < D 0 1 → D 10 b ≤ 3 := fun b hb => (gc b hb).1
  have k2 := cs.2.1
  refine c_X7_taken (s_X7_taken_0 ?_)
  rw [k2, rf_67_0 hr]
  have S : ∀ j, j < 30 → Int32.ofNat a = Int32.ofNat j → a = j := fun j hj z => (i_eq (by omega) (by omega)).1 z
  refine ⟨is_67, fun z => ?_, fun z0 => ⟨fun z => ?_, fun z1 => ⟨fun z => ?_, fun z2 => ⟨fun z => ?_, fun z3 => ⟨fun z => ?_, fun z4 => ⟨fun z => ?_, fun z5 => ⟨fun z => ?_, fun z6 => ⟨fun z => ?_, fun z7 => ⟨fun z => ?_, fun z8 => ⟨fun z => ?_, fun z9 => ⟨fun z => ?_, fun z10 => ⟨fun z => ?_, fun z11 => ⟨fun z => ?_, fun z12 => ⟨fun z => ?_, fun z13 => ⟨fun z => ?_, fun z14 => ⟨fun z => ?_, fun z15 => ⟨fun z => ?_, fun z16 => ⟨fun z => ?_, fun z17 => ⟨fun z => ?_, fun z18 => ⟨fun z => ?_, fun z19 => ⟨fun z => ?_, fun z20 => ?_⟩⟩⟩⟩⟩⟩⟩⟩⟩⟩⟩⟩⟩⟩⟩⟩⟩⟩⟩⟩⟩
  · have e := S 0 (by omega) z; subst e
    exact take_0 hr hx cs n1 n3 hn hp te tc q
  · have e := S 1 (by omega) z; subst e
    exact take_1 hr hx cs n3 nV tc tk1 tkw q
  · have e := S 2 (by omega) z; subst e
    exact take_2 hr hx cs ga.1 ga.2.1 tc tk1 tk2 q
  · have e := S 3 (by omega) z; subst e
    exact tq_sign (sg := 59) (b := 0) hr hx cs tc tk1 (by omega) (by omega) (fun z => by rw [stp_3, if_pos z]) (fun z => by rw [stp_3, if_neg z]) q
  · have e := S 4 (by omega) z; subst e
    exact take_4 hr hx cs ga n2 nW tc tk1 tkw q
  · have e := S 5 (by omega) z; subst e
    exact tq_sign (sg := 123) (b := 6) hr hx cs tc tk1 (by omega) (by omega) (fun z => by rw [stp_5, if_pos z]) (fun z => by rw [stp_5, if_neg z]) q
  · have e := S 6 (by omega) z; subst e
    have g0 : 0 < D 0 0 := ga
    have gl := gw (D 0 0 - 1) (by omega)
    exact take_6 hr hx cs g0 n1 n2 gl.2.2.2.1 (by omega) (by omega) gl.2.1 hn hp te tc q
  · have e := S 7 (by omega) z; subst e
    exact take_7 hr hx cs ga.1 n1 n3 nV ga.2 (fun w hw => (gw w hw).2.1) tc tk1 tkw q
  · have e := S 8 (by omega) z; subst e
    exact tq_sign (sg := 59) (b := 6) hr hx cs tc tk1 (by omega) (by omega) (fun z => by rw [stp_8, if_pos z]) (fun z => by rw [stp_8, if_neg z]) q
  · have e := S 9 (by omega) z; subst e
    have g0 : 0 < D 0 0 := ga.1
    have gl := gw (D 0 0 - 1) (by omega)
    exact take_9 hr hx cs g0 n1 ga.2 (by omega) gl.2.2.2.2.2 nB tc tk1 tkw q
  · have e := S 10 (by omega) z; subst e
    refine ⟨is_68, k_says 7 (by omega) hn hp te tc (fun a b => ⟨fun y => absurd y (by decide), fun _ => k_awaits 11 (q.ok hx (a := 11) (D := D) (by rw [stp_10, if_pos ⟨a, b⟩]) hr (Fr.refl _ _) cs.1 (CR.list (by omega) (cs.2.2.2.2.2.2 (by decide))))⟩) (fun nk => ⟨fun _ => tq_do hr hx cs (by decide) hn hp te tc (fun y => by rw [stp_10, if_neg nk, if_pos y]) (fun y => by rw [stp_10, if_neg nk, if_neg y]) q, fun y => absurd rfl y⟩)⟩
  · have e := S 11 (by omega) z; subst e
    exact take_11 hr hx cs ga.2.1 n2 (c3 _ (by have := ga.2.1; omega)) n3 nV tc tk1 tkw q
  · have e := S 12 (by omega) z; subst e
    exact take_12 hr hx cs tc tk1 q
  · have e := S 13 (by omega) z; subst e
    exact take_13 hr hx cs ga.2.1 n2 ga.2.2.2.1 c3 (by have := ga.2.2.2.2.1; omega) ga.2.2.2.2.2 tc tk1 tk2 q
  · have e := S 14 (by omega) z; subst e
    refine ⟨is_68, k_says 2 (by omega) hn hp te tc (fun a b => ⟨fun y => absurd y (by decide), fun _ => k_awaits 11 (q.ok hx (a := 11) (D := D) (by rw [stp_14, if_pos ⟨a, b⟩]) hr (Fr.refl _ _) cs.1 (CR.list (by omega) (cs.2.2.2.2.2.2 (by decide))))⟩) (fun nk => ⟨fun _ => tq_do hr hx cs (by decide) hn hp te tc (fun y => by rw [stp_14, if_neg nk, if_pos y]) (fun y => by rw [stp_14, if_neg nk, if_neg y]) q, fun y => absurd rfl y⟩)⟩
  · have e := S 15 (by omega) z; subst e
    exact take_15 hr hx cs ga.1 n1 n2 ga.2 tc tk1 tk2 q
  · have e := S 16 (by omega) z; subst e
    exact tq_do hr hx cs (by decide) hn hp te tc (fun y => by rw [stp_16, if_pos y]) (fun y => by rw [stp_16, if_neg y]) q
  · have e := S 17 (by omega) z; subst e
    exact take_17 hr hx cs ga.2 n1 n2 gd.1 hn hp te tc q
  · have e := S 18 (by omega) z; subst e
    obtain ⟨a1, a2, a3, a4⟩ := ga
    have hl32 : D 30 6 < 32 := by
      rcases a2 with u | ⟨w, u, v, y⟩ <;> omega
    have s128 : sumN (D 14) 32 < 128 := by
      have := sumN_lt (f := D 14) (i := D 30 6) gd.1 a3 32
      have := this.2 hl32
      omega
    refine take_18 hr hx cs a2 n1 n2 a3 gd.1 a4 (Nat.lt_of_le_of_lt go.1 s128) (fun i hi y => ?_) tc tk1 q
    have u := (go.2.1 i hi).1
    have q1 : D 31 i / 4 = D 30 6 := by omega
    rw [q1] at u
    omega
  · have e := S 19 (by omega) z; subst e
    exact take_19 hr hx cs n3 nV tc tk1 tkw q
  · have e := S 20 (by omega) z; subst e
    obtain ⟨a1, a2, a3, a4, a5⟩ := ga
    exact take_20 hr hx cs a2 n1 n2 a3 gd.1 a4 (fun y => a5 (by omega)) n3 (fun y => (gv _ (a5 (by omega))).2.2.1) tc tk1 tk2 q
  · have e : a = 21 := by
      have m0 : a ≠ 0 := fun e => z0 (by rw [e]; rfl)
      have m1 : a ≠ 1 := fun e => z1 (by rw [e]; rfl)
      have m2 : a ≠ 2 := fun e => z2 (by rw [e]; rfl)
      have m3 : a ≠ 3 := fun e => z3 (by rw [e]; rfl)
      have m4 : a ≠ 4 := fun e => z4 (by rw [e]; rfl)
      have m5 : a ≠ 5 := fun e => z5 (by rw [e]; rfl)
      have m6 : a ≠ 6 := fun e => z6 (by rw [e]; rfl)
      have m7 : a ≠ 7 := fun e => z7 (by rw [e]; rfl)
      have m8 : a ≠ 8 := fun e => z8 (by rw [e]; rfl)
      have m9 : a ≠ 9 := fun e => z9 (by rw [e]; rfl)
      have m10 : a ≠ 10 := fun e => z10 (by rw [e]; rfl)
      have m11 : a ≠ 11 := fun e => z11 (by rw [e]; rfl)
      have m12 : a ≠ 12 := fun e => z12 (by rw [e]; rfl)
      have m13 : a ≠ 13 := fun e => z13 (by rw [e]; rfl)
      have m14 : a ≠ 14 := fun e => z14 (by rw [e]; rfl)
      have m15 : a ≠ 15 := fun e => z15 (by rw [e]; rfl)
      have m16 : a ≠ 16 := fun e => z16 (by rw [e]; rfl)
      have m17 : a ≠ 17 := fun e => z17 (by rw [e]; rfl)
      have m18 : a ≠ 18 := fun e => z18 (by rw [e]; rfl)
      have m19 : a ≠ 19 := fun e => z19 (by rw [e]; rfl)
      have m20 : a ≠ 20 := fun e => z20 (by rw [e]; rfl)
      omega
    subst e
    rw [tc.1]
    refine ⟨is_68, fun y => ?_, fun y => ?_⟩
    · have ny : ¬ (tk (bt T n) p).1 = 44 := fun u => y (by rw [u]; rfl)
      exact tq_sign (sg := 59) (b := 6) hr hx cs tc tk1 (by omega) (by omega) (fun z => by rw [stp_21, if_neg ny, if_pos z]) (fun z => by rw [stp_21, if_neg ny, if_neg z]) q
    · have ny : (tk (bt T n) p).1 = 44 := (i_eq (b := 44) (by omega) (by omega)).1 y
      exact k_awaits 17 (q.ok hx (a := 17) (D := D) (by rw [stp_21, if_pos ny]) hr (Fr.refl _ _) cs.1 (CR.list (by omega) (cs.2.2.2.2.2.2 (by decide))))
theorem setOn_t {D : AD} {a : Nat} (h : a ≠ 16) : setOn D a = D a := funext fun b => if_neg (fun z => h z.1)
theorem wfd_setOn {D : AD} {p : Nat} (hg : GG D p) (h0 : 0 < D 0 0) (hf : ∀ i, i < D 30 7 → fW D (D 21 (D 31 i)) < D 0 0) : WfD (setOn D) := by
  obtain ⟨⟨n1, n2, n3⟩, gv, gw, ⟨h1, h2, h3, h4⟩, gc, gd, go⟩ := hg
  have il : ∀ k, isL (setOn D) k ↔ isL D k := fun k => by unfold isL; rw [setOn_t (by omega), setOn_t (by omega)]
  refine ⟨⟨?_, ?_, ?_, ?_, ?_, ?_, ?_⟩, ?_, ?_, ?_, ?_⟩
  · rw [setOn_t (by omega)]; exact h0
  · rw [setOn_t (by omega)]; exact n1
  · rw [setOn_t (by omega)]; exact n2
  · rw [setOn_t (by omega)]; exact n3
  · rw [setOn_t (by omega), setOn_t (by omega)]; exact fun w hw => (gw w hw).1
  · rw [setOn_t (by omega), setOn_t (by omega)]; exact fun w hw => (h3 w hw).1
  · rw [setOn_t (by omega), setOn_t (by omega), setOn_t (by omega)]; exact h4
  · unfold WfDw
    rw [setOn_t (show 0 ≠ 16 by omega), setOn_t (show 6 ≠ 16 by omega), setOn_t (show 7 ≠ 16 by omega), setOn_t (show 8 ≠ 16 by omega), setOn_t (show 9 ≠ 16 by omega), setOn_t (show 18 ≠ 16 by omega), setOn_t (show 19 ≠ 16 by omega)]
    intro w hw
    obtain ⟨a, b, c, d, e, f⟩ := gw w hw
    exact ⟨b, c, d, e, f, fun k hk => h1 k w hk hw⟩
  · unfold WfDv
    rw [setOn_t (show 0 ≠ 16 by omega), setOn_t (show 4 ≠ 16 by omega), setOn_t (show 5 ≠ 16 by omega)]
    exact fun v hv => (gv v hv).2
  · unfold WfDc
    rw [setOn_t (show 0 ≠ 16 by omega), setOn_t (show 9 ≠ 16 by omega), setOn_t (show 10 ≠ 16 by omega), setOn_t (show 11 ≠ 16 by omega), setOn_t (show 12 ≠ 16 by omega), setOn_t (show 13 ≠ 16 by omega)]
    exact fun b hb => ⟨(h3 b hb).2, gc b hb⟩
  · intro k hk
    rw [il] at hk
    rw [setOn_t (show 14 ≠ 16 by omega), setOn_t (show 15 ≠ 16 by omega), setOn_t (show 0 ≠ 16 by omega), setOn_t (show 17 ≠ 16 by omega)]
    refine ⟨gd.1 k, fun d hd => ?_⟩
    obtain ⟨a, b, c, e, f⟩ := gd.2.2 k d hd
    have nz : D 15 (4 * k + d) ≠ 0 → setOn D 16 (4 * k + d) = D 16 (4 * k + d) := fun z => if_neg (fun y => z y.2)
    refine ⟨a, fun z => ?_, fun z => ?_, fun z => ?_, fun z => ?_⟩
    · have : setOn D 16 (4 * k + d) = fW D (D 21 (4 * k + d)) := if_pos ⟨rfl, z⟩
      rw [this]
      obtain ⟨i, hi, ei⟩ := b z
      rw [← ei]
      exact hf i hi
    · rw [nz (by omega)]; exact c z
    · rw [nz (by omega)]; exact e z
    · rw [nz (by omega)]; exact f z
