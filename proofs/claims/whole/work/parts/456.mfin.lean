theorem o128 {D : AD} {p i : Nat} (hg : GG D p) (hi : i < D 30 7) : D 31 i < 128 := by
  obtain ⟨⟨n1, n2, n3⟩, gv, gw, gh, gc, gd, go⟩ := hg
  have a := (go.2.1 i hi).1
  have il : isL D (D 31 i / 4) := by
    refine Classical.byContradiction (fun z => ?_)
    rw [gd.2.1 _ z] at a
    omega
  rcases il with u | ⟨w, u, v, y⟩ <;> omega
theorem run_fin {T : Nat → Nat} {n p : Nat} {D : AD} {R : Nat × Nat × AD} (r : RunS T n 0 D p R) (k : (tk (bt T n) p).1 = 0) (h0 : 0 < D 0 0) : R = finO D := by
  obtain ⟨hp, wf, f, er⟩ := r
  cases f with
  | zero => exact absurd er (fun z => by unfold runP at z; cases z)
  | succ f =>
    rw [runP_s, if_pos k, if_pos ⟨rfl, h0⟩] at er
    exact (Option.some.inj er).symm
/-- deeds that open a WINDOW; those whose WINDOW isn't there -/
def InO (D : AD) (q : Nat) : Prop := q % 4 < D 14 (q / 4) ∧ D 15 q = 0
def MsO (D : AD) (q : Nat) : Prop := InO D q ∧ ¬ fW D (D 21 q) < D 0 0
def FinI (h0 hd h1 : AH) (y : Nat) (T : Nat → Nat) (n : Nat) (D : AD) (pos : Nat) (x3 : Int32) : Prop := MS h0 h1 y T n ∧ Fr (fun c _ => c = y + 11) hd h1 ∧ (∀ q, q < pos → InO D q → fW D (D 21 q) < D 0 0 → h1.1 (y + 11) q = Int32.ofNat (fW D (D 21 q))) ∧ (∀ q, ¬ InO D q → h1.1 (y + 11) q = hd.1 (y + 11) q) ∧ ((x3 = -1 ∧ ∀ q, q < pos → ¬ MsO D q) ∨ ∃ q0, q0 < pos ∧ MsO D q0 ∧ x3 = Int32.ofNat (D 22 q0) ∧ ∀ q, q < pos → MsO D q → D 22 q0 ≤ D 22 q)
theorem FinI.skip {h0 hd h1 : AH} {y : Nat} {T : Nat → Nat} {n : Nat} {D : AD} {pos pos2 : Nat} {x3 : Int32} (i : FinI h0 hd h1 y T n D pos x3) (hp : pos ≤ pos2) (hs : ∀ q, pos ≤ q → q < pos2 → ¬ InO D q) : FinI h0 hd h1 y T n D pos2 x3 := by
  obtain ⟨m, f, a, b, c⟩ := i
  have lt : ∀ q, q < pos2 → InO D q → q < pos := fun q hq hi => by
    rcases Nat.lt_or_ge q pos with u | u
    · exact u
    · exact absurd hi (hs q u hq)
  refine ⟨m, f, fun q hq hi => a q (lt q hq hi) hi, b, ?_⟩
  rcases c with ⟨c1, c2⟩ | ⟨q0, c1, c2, c3, c4⟩
  · exact Or.inl ⟨c1, fun q hq hm => c2 q (lt q hq hm.1) hm⟩
  · exact Or.inr ⟨q0, by omega, c2, c3, fun q hq hm => c4 q (lt q hq hm.1) hm⟩
theorem m_fin {l : Launch} {g : AG} {h0 hd : AH} {y p : Nat} {T : Nat → Nat} {n : Nat} {D : AD} {R : Nat × Nat × AD} {Q X : AH → Prop} (hy : isB y) (hn : n ≤ 800) (xq : XQ h0 y R X) (hq : ∀ h', MS h0 h' y T n → R.1 = 0 → RepB h' y R.2.2 → Q h') (md : MS h0 hd y T n) (run : RunS T n 0 D p R) (k0 : (tk (bt T n) p).1 = 0) (d0 : 0 < D 0 0) (rm : RepM hd y D (D 0 0) (D 0 1) 99) : L_X12_reads_347 l g hd 103 y (-1) 0 Q X := by
  have hyu : y = 105 ∨ y = 154 ∨ y = 174 := hy
  have eR := run_fin run k0 d0
  have gg := run.2.1.1
  obtain ⟨⟨n1, n2, n3⟩, gv, gw, gh, gc, gd, go⟩ := id gg
  have hp := run.1
  -- a deed that opens stands among the opens
  have op : ∀ q, InO D q → ∃ i, i < D 30 7 ∧ D 31 i = q := by
    intro q hi
    have := (gd.2.2 (q / 4) (q % 4) hi.1).2.1 (by rw [show 4 * (q / 4) + q % 4 = q by omega]; exact hi.2)
    rw [show 4 * (q / 4) + q % 4 = q by omega] at this
    exact this
  have pl : ∀ q, InO D q → D 22 q < 800 ∧ isW (D 21 q) := by
    intro q hi
    obtain ⟨i, h1, h2⟩ := op q hi
    have := (go.2.1 i h1).2.2
    rw [h2] at this
    exact ⟨by omega, this.1⟩
  have M : ∀ e k, k + e = 32 → ∀ h1 x3, FinI h0 hd h1 y T n D (4 * k) x3 → L_X12_reads_347 l g h1 103 y x3 (Int32.ofNat k) Q X := by
    intro e
    induction e with
    | zero =>
      intro k hk h1 x3 fi
      obtain ⟨m1, f1, fa, fb, fc⟩ := fi
      have k32 : 4 * k = 128 := by omega
      rw [k32] at fa fc
      refine s_X12_reads_347 ⟨fun _ => ⟨fun z => ?_, fun z => ⟨is_103, ?_⟩⟩, fun z => absurd ((i_le (a := 32) (by omega) (by omega)).2 (by omega)) z⟩
      · have nm : ∀ q, q < 128 → ¬ MsO D q := by
          rcases fc with ⟨_, c2⟩ | ⟨q0, _, c2, c3, _⟩
          · exact c2
          · rw [z] at c3
            have := (pl q0 c2.1).1
            exact absurd c3.symm (i_ne (by omega))
        have nf : ¬ fU D < D 30 7 := by
          intro u
          have sp : fW D (D 21 (D 31 (fU D))) = D 0 0 := (findN_spec (fun i => fW D (D 21 (D 31 i)) = D 0 0) (D 30 7)).1 u
          have g2 := go.2.1 _ u
          exact nm (D 31 (fU D)) (o128 gg u) ⟨⟨g2.1, g2.2.1⟩, by omega⟩
        have eR2 : R = (0, 0, setOn D) := by rw [eR]; unfold finO; rw [if_neg nf]
        refine hq h1 m1 (by rw [eR2]) ?_
        rw [eR2]
        show RepB h1 y (setOn D)
        obtain ⟨⟨a1, a2, a3⟩, bw, bv, bb, bd⟩ := rm
        have fj : ∀ j p, j ≠ 11 → h1.1 (y + j) p = hd.1 (y + j) p ∧ h1.2.1 (y + j) p = hd.2.1 (y + j) p := fun j p hj => by
          have z := f1 (y + j) p (by omega)
          exact ⟨z.1, z.2.1⟩
        have s0 : setOn D 0 = D 0 := setOn_t (by omega)
        refine ⟨⟨?_, ?_, ?_⟩, bw.c (by rw [s0]) (setOn_t (by omega)) (setOn_t (by omega)) (setOn_t (by omega)) (setOn_t (by omega)) (fun j p hj => fj j p (by omega)), bv.c (by rw [s0]) (setOn_t (by omega)) (setOn_t (by omega)) (setOn_t (by omega)) (fun j p hj => fj j p (by omega)), bb.c (by rw [s0]) (setOn_t (by omega)) (setOn_t (by omega)) (setOn_t (by omega)) (setOn_t (by omega)) (setOn_t (by omega)) (setOn_t (by omega)) (fun j p hj => fj j p (by omega)), fun k' hk' => ?_⟩
        · rw [s0]; exact (fj 0 0 (by omega)).1.trans a1
        · rw [s0]; exact (fj 0 1 (by omega)).1.trans a2
        · rw [s0]; exact (fj 0 2 (by omega)).1.trans a3
        · have hk2 : isL D k' := by
            unfold isL at hk' ⊢
            rw [setOn_t (by omega), setOn_t (by omega)] at hk'
            exact hk'
          have l32 : k' < 32 := by
            rcases hk2 with u | ⟨w, u, v, y⟩ <;> omega
          obtain ⟨g1, g2⟩ := bd k' hk2 (by omega)
          rw [setOn_t (show 14 ≠ 16 by omega), setOn_t (show 15 ≠ 16 by omega), setOn_t (show 17 ≠ 16 by omega), (fj 9 k' (by omega)).1]
          refine ⟨g1, fun d hd' => ?_⟩
          have d4 := gd.1 k'
          obtain ⟨q1, q2, q3, q4⟩ := g2 d hd'
          rw [(fj 10 _ (by omega)).1, (fj 12 _ (by omega)).1]
          refine ⟨q1, fun y1 => ?_, q4⟩
          by_cases y0 : D 15 (4 * k' + d) = 0
          · rw [show setOn D 16 (4 * k' + d) = fW D (D 21 (4 * k' + d)) from if_pos ⟨rfl, y0⟩]
            have hin : InO D (4 * k' + d) := ⟨by rw [show (4 * k' + d) / 4 = k' by omega]; omega, y0⟩
            refine fa _ (by omega) hin ?_
            exact Classical.byContradiction (fun u => nm _ (by omega) ⟨hin, u⟩)
          · rw [show setOn D 16 (4 * k' + d) = D 16 (4 * k' + d) from if_neg (fun u => y0 u.2), fb _ (fun u => y0 u.2)]
            exact q3 y0 y1
      · rcases fc with ⟨c1, _⟩ | ⟨q0, c1, c2, c3, c4⟩
        · exact absurd c1 z
        · rw [c3]
          obtain ⟨i0, hi0, ei0⟩ := op q0 c2.1
          have fle := fW_le D (D 21 q0)
          have le : ¬ i0 < fU D := fun u => (findN_spec (fun i => fW D (D 21 (D 31 i)) = D 0 0) (D 30 7)).2 i0 u (by
            show fW D (D 21 (D 31 i0)) = D 0 0
            rw [ei0]
            have := c2.2
            omega)
          have u : fU D < D 30 7 := by omega
          have sp : fW D (D 21 (D 31 (fU D))) = D 0 0 := (findN_spec (fun i => fW D (D 21 (D 31 i)) = D 0 0) (D 30 7)).1 u
          have g2 := go.2.1 _ u
          have le1 := c4 (D 31 (fU D)) (o128 gg u) ⟨⟨g2.1, g2.2.1⟩, by omega⟩
          have le2 : D 22 (D 31 (fU D)) ≤ D 22 q0 := by
            by_cases v : fU D = i0
            · rw [v, ei0]; exact Nat.le_refl _
            · have := go.2.2 (fU D) i0 (by omega) hi0
              rw [ei0] at this
              omega
          refine m_stop0 (c := 2) hy m1 xq (by omega) ?_
          rw [eR]
          unfold finO
          rw [if_pos u]
          exact ⟨rfl, by show D 22 (D 31 (fU D)) = D 22 q0; omega⟩
    | succ e ih =>
      intro k hk h1 x3 fi
      have r1 := fi.1.1
      have f1 := fi.2.1
      have fj : ∀ j p, j ≠ 11 → h1.1 (y + j) p = hd.1 (y + j) p ∧ h1.2.1 (y + j) p = hd.2.1 (y + j) p := fun j p hj => by
        have z := f1 (y + j) p (by omega)
        exact ⟨z.1, z.2.1⟩
      have d4 := gd.1 k
      have skip : (¬ isL D k) → ∀ v : Int32, v = Int32.ofNat k + 1 → L_X12_reads_347 l g h1 103 y x3 v Q X := by
        intro nl v ev
        rw [ev, show (1 : Int32) = Int32.ofNat 1 from rfl, i_add]
        refine ih (k + 1) (by omega) h1 x3 (fi.skip (by omega) (fun q q1 q2 u => ?_))
        have := u.1
        rw [show q / 4 = k by omega, gd.2.1 k nl] at this
        omega
      have L407 : isL D k → ∀ e2 d, d + e2 = D 14 k → ∀ h1 x3, FinI h0 hd h1 y T n D (4 * k + d) x3 → L_X12_reads_407 l g h1 103 y x3 (Int32.ofNat k) (Int32.ofNat (4 * k + d)) Q X := by
        intro hl e2
        obtain ⟨g1, g2⟩ := rm.2.2.2.2 k hl (by omega)
        induction e2 with
        | zero =>
          intro d hd' h1 x3 fi
          have f1 := fi.2.1
          have v9 : h1.1 (y + 9) k = Int32.ofNat (D 14 k) := by rw [(f1 (y + 9) k (by omega)).1]; exact g1
          refine s_X12_reads_407 ?_
          rw [rfB_11 fi.1.1 hy, i_cl (by omega), v9, show (4 : Int32) = Int32.ofNat 4 from rfl, i_mul, i_add]
          refine ⟨isB_x hy, isB_9 hy, vi_ok (by omega) (by rw [szB_9 hy]; omega), fun _ => ?_, fun z => absurd ((i_le (by omega) (by omega)).2 (by omega)) z⟩
          intro v146 e146
          rw [e146, show (1 : Int32) = Int32.ofNat 1 from rfl, i_add]
          refine ih (k + 1) (by omega) h1 x3 (fi.skip (by omega) (fun q q1 q2 u => ?_))
          have := u.1
          rw [show q / 4 = k by omega] at this
          omega
        | succ e2 ih2 =>
          intro d hd' h1 x3 fi
          obtain ⟨m1, f1, fa, fb, fc⟩ := id fi
          have v9 : h1.1 (y + 9) k = Int32.ofNat (D 14 k) := by rw [(f1 (y + 9) k (by omega)).1]; exact g1
          obtain ⟨q1, q2, q3, q4⟩ := g2 d (by omega)
          have v10 : h1.1 (y + 10) (4 * k + d) = Int32.ofNat (D 15 (4 * k + d)) := by rw [(f1 (y + 10) _ (by omega)).1]; exact q1
          have k4 := (gd.2.2 k d (by omega)).1
          have q128 : 4 * k + d < 128 := by omega
          refine s_X12_reads_407 ?_
          rw [rfB_11 m1.1 hy, rfB_12 m1.1 hy, i_cl (by omega), i_cl (by omega), v9, v10, show (4 : Int32) = Int32.ofNat 4 from rfl, i_mul, i_add]
          refine ⟨isB_x hy, isB_9 hy, vi_ok (by omega) (by rw [szB_9 hy]; omega), fun z => absurd ((i_le (by omega) (by omega)).1 z) (by omega), fun _ => ⟨isB_10 hy, vi_ok (by omega) (by rw [szB_10 hy]; omega), fun z => ?_, fun z => ?_⟩⟩
          · have y0 : D 15 (4 * k + d) = 0 := (i_eq (b := 0) (by omega) (by omega)).1 z
            have hin : InO D (4 * k + d) := ⟨by rw [show (4 * k + d) / 4 = k by omega]; omega, y0⟩
            have plq := pl _ hin
            have v13 : h1.2.1 (y + 13) (4 * k + d) = Int64.ofNat (D 21 (4 * k + d)) := by rw [(f1 (y + 13) _ (by omega)).2.1]; exact (q2 y0).1
            have v14 : h1.1 (y + 14) (4 * k + d) = Int32.ofNat (D 22 (4 * k + d)) := by rw [(f1 (y + 14) _ (by omega)).1]; exact (q2 y0).2
            have c0 : h1.1 y 0 = Int32.ofNat (D 0 0) := by rw [(f1 y 0 (by omega)).1]; exact rm.1.1
            have efw : findN (fun i => 0 ≤ i ∧ D 1 i = D 21 (4 * k + d)) (D 0 0) = fW D (D 21 (4 * k + d)) := findN_congr (fun i _ => ⟨fun z => z.2, fun z => ⟨Nat.zero_le i, z⟩⟩)
            rw [rfB_13 m1.1 hy, rfB_3 m1.1 hy, rfB_15 m1.1 hy, v13, c0]
            have nx : ∀ q, q < 4 * k + (d + 1) → q < 4 * k + d ∨ q = 4 * k + d := fun q hq => by omega
            refine ⟨isB_11 hy, isB_1 hy, isB_13 hy, vi_ok (by omega) (by rw [szB_13 hy]; omega), m_find (lo := 0) (N := D 1) (isB_1 hy) (by rw [szB_1 hy]; exact n1) (by omega) (by omega) (fun i hi => ⟨by rw [(f1 (y + 1) i (by omega)).2.1]; exact (rm.2.1 i hi).1, (gw i hi).1⟩) plq.2 (fun u => ?_) (fun u => ?_)⟩
            · rw [efw] at u ⊢
              refine ⟨vi_ok (by omega) (by rw [szB_11 hy]; omega), ?_⟩
              intro h159 e159
              have m159 : MS h0 h159 y T n := by rw [e159]; exact m1.I hy (by unfold PMe; omega)
              have a159 : h159.1 (y + 11) (4 * k + d) = Int32.ofNat (fW D (D 21 (4 * k + d))) := by rw [e159, gI_s]
              rw [rfB_13 m159.1 hy, a159]
              refine ⟨isB_11 hy, vi_ok (by omega) (by rw [szB_11 hy]; omega), fun _ => ?_, fun z => absurd z (i_ne (by omega))⟩
              intro v164 e164
              rw [e164, show (1 : Int32) = Int32.ofNat 1 from rfl, i_add]
              refine ih2 (d + 1) (by omega) h159 x3 ⟨m159, by rw [e159]; exact f1.setI rfl, fun q hq hi hf => ?_, fun q hi => ?_, ?_⟩
              · rcases nx q hq with w | w
                · rw [e159, gI_p (by omega)]; exact fa q w hi hf
                · rw [w]; exact a159
              · have : q ≠ 4 * k + d := fun w => hi (by rw [w]; exact hin)
                rw [e159, gI_p this]; exact fb q hi
              · rcases fc with ⟨c1, c2⟩ | ⟨q0, c1, c2, c3, c4⟩
                · refine Or.inl ⟨c1, fun q hq hm => ?_⟩
                  rcases nx q hq with w | w
                  · exact c2 q w hm
                  · rw [w] at hm; exact hm.2 u
                · refine Or.inr ⟨q0, by omega, c2, c3, fun q hq hm => ?_⟩
                  rcases nx q hq with w | w
                  · exact c4 q w hm
                  · rw [w] at hm; exact absurd u hm.2
            · rw [efw] at u
              have hms : MsO D (4 * k + d) := ⟨hin, u⟩
              refine ⟨vi_ok (by omega) (by rw [szB_11 hy]; omega), ?_⟩
              intro h159 e159
              have m159 : MS h0 h159 y T n := by rw [e159]; exact m1.I hy (by unfold PMe; omega)
              have a159 : h159.1 (y + 11) (4 * k + d) = -1 := by rw [e159, gI_s]
              have b159 : h159.1 (y + 14) (4 * k + d) = Int32.ofNat (D 22 (4 * k + d)) := by rw [e159, gI_c (by omega)]; exact v14
              rw [rfB_13 m159.1 hy, rfB_16 m159.1 hy, a159, b159]
              have nxt : ∀ x3', ((x3' = -1 ∧ ∀ q, q < 4 * k + (d + 1) → ¬ MsO D q) ∨ ∃ q0, q0 < 4 * k + (d + 1) ∧ MsO D q0 ∧ x3' = Int32.ofNat (D 22 q0) ∧ ∀ q, q < 4 * k + (d + 1) → MsO D q → D 22 q0 ≤ D 22 q) → ∀ v : Int32, v = Int32.ofNat (4 * k + d) + 1 → L_X12_reads_407 l g h159 103 y x3' (Int32.ofNat k) v Q X := by
                intro x3' hc v ev
                rw [ev, show (1 : Int32) = Int32.ofNat 1 from rfl, i_add]
                refine ih2 (d + 1) (by omega) h159 x3' ⟨m159, by rw [e159]; exact f1.setI rfl, fun q hq hi hf => ?_, fun q hi => ?_, hc⟩
                · rcases nx q hq with w | w
                  · rw [e159, gI_p (by omega)]; exact fa q w hi hf
                  · rw [w] at hf; exact absurd hf u
                · have : q ≠ 4 * k + d := fun w => hi (by rw [w]; exact hin)
                  rw [e159, gI_p this]; exact fb q hi
              refine ⟨isB_11 hy, vi_ok (by omega) (by rw [szB_11 hy]; omega), fun z => absurd rfl z, fun _ => ⟨fun z => ⟨isB_14 hy, vi_ok (by omega) (by rw [szB_14 hy]; omega), ?_⟩, fun z => ⟨isB_14 hy, vi_ok (by omega) (by rw [szB_14 hy]; omega), fun w => ?_, fun w => ⟨isB_14 hy, vi_ok (by omega) (by rw [szB_14 hy]; omega), ?_⟩⟩⟩⟩
              · intro v169 e169 v171 e171
                rw [e169]
                refine nxt _ (Or.inr ⟨4 * k + d, by omega, hms, rfl, fun q hq hm => ?_⟩) v171 e171
                rcases fc with ⟨c1, c2⟩ | ⟨q0, c1, c2, c3, c4⟩
                · rcases nx q hq with w | w
                  · exact absurd hm (c2 q w)
                  · rw [w]; exact Nat.le_refl _
                · rw [z] at c3
                  have := (pl q0 c2.1).1
                  exact absurd c3.symm (i_ne (by omega))
              · rcases fc with ⟨c1, c2⟩ | ⟨q0, c1, c2, c3, c4⟩
                · exact absurd c1 z
                · have := (pl q0 c2.1).1
                  rw [c3] at w
                  have w2 := (i_le (by omega) (by omega)).1 w
                  intro v176 e176
                  refine nxt _ (Or.inr ⟨q0, by omega, c2, c3, fun q hq hm => ?_⟩) v176 e176
                  rcases nx q hq with v | v
                  · exact c4 q v hm
                  · rw [v]; exact w2
              · rcases fc with ⟨c1, c2⟩ | ⟨q0, c1, c2, c3, c4⟩
                · exact absurd c1 z
                · have := (pl q0 c2.1).1
                  rw [c3] at w
                  have w2 : D 22 (4 * k + d) < D 22 q0 := by
                    rcases Nat.lt_or_ge (D 22 (4 * k + d)) (D 22 q0) with v | v
                    · exact v
                    · exact absurd ((i_le (by omega) (by omega)).2 v) w
                  intro v180 e180 v182 e182
                  rw [e180]
                  refine nxt _ (Or.inr ⟨4 * k + d, by omega, hms, rfl, fun q hq hm => ?_⟩) v182 e182
                  rcases nx q hq with v | v
                  · have := c4 q v hm; omega
                  · rw [v]; exact Nat.le_refl _
          · have y0 : D 15 (4 * k + d) ≠ 0 := fun u => z (by rw [u]; rfl)
            intro v184 e184
            rw [e184, show (1 : Int32) = Int32.ofNat 1 from rfl, i_add]
            refine ih2 (d + 1) (by omega) h1 x3 (fi.skip (by omega) (fun q q1 q2 u => ?_))
            have : q = 4 * k + d := by omega
            rw [this] at u
            exact y0 u.2
      have c0 : h1.1 y 0 = Int32.ofNat (D 0 0) := by rw [(f1 y 0 (by omega)).1]; exact rm.1.1
      have c1 : h1.1 y 1 = Int32.ofNat (D 0 1) := by rw [(f1 y 1 (by omega)).1]; exact rm.1.2.1
      refine s_X12_reads_347 ⟨fun z => absurd ((i_le (a := 32) (by omega) (by omega)).1 z) (by omega), fun _ => ⟨fun z => ?_, fun z => ?_⟩⟩
      · have k24 := (i_le (a := 24) (by omega) (by omega)).1 z
        rw [c0, show (24 : Int32) = Int32.ofNat 24 from rfl, i_sub k24, rfB_9 r1 hy, i_cl (by omega), show (4 : Int32) = Int32.ofNat 4 from rfl, i_mul]
        refine ⟨isB_x hy, fun u => skip (fun w => ?_), fun u => ?_⟩
        · have := (i_le (by omega) (by omega)).1 u
          rcases w with w | ⟨w', a, b, c⟩ <;> omega
        · have lt : k - 24 < D 0 0 := by
            rcases Nat.lt_or_ge (k - 24) (D 0 0) with v | v
            · exact v
            · exact absurd ((i_le (by omega) (by omega)).2 v) u
          have t8 : h1.1 (y + 7) (k - 24) = Int32.ofNat (D 8 (k - 24)) := by rw [(f1 (y + 7) _ (by omega)).1]; exact (rm.2.1 _ lt).2.2.2
          have l9 := (gw _ lt).2.2.2.1
          rw [t8]
          refine ⟨isB_7 hy, vi_ok (by omega) (by rw [szB_7 hy]; omega), fun w => ?_, fun w => skip (fun w' => ?_)⟩
          · have p8 : D 8 (k - 24) ≠ 0 := fun v => w (by rw [v]; rfl)
            intro v132 e132
            rw [e132]
            exact L407 (Or.inr ⟨k - 24, lt, by omega, by omega⟩) (D 14 k) 0 (by omega) h1 x3 fi
          · have p8 : D 8 (k - 24) = 0 := (i_eq (b := 0) (by omega) (by omega)).1 w
            rcases w' with v | ⟨w', a, b, c⟩
            · omega
            · rw [show w' = k - 24 by omega, p8] at c
              omega
      · have k24 : k < 24 := by
          rcases Nat.lt_or_ge k 24 with v | v
          · exact v
          · exact absurd ((i_le (a := 24) (by omega) (by omega)).2 v) z
        rw [c1, show (4 : Int32) = Int32.ofNat 4 from rfl, i_mul]
        refine ⟨isB_x hy, fun u => ?_, fun u => skip (fun w => u ?_)⟩
        · have := (i_lt (by omega) (by omega)).1 u
          intro v138 e138
          rw [e138]
          exact L407 (Or.inl this) (D 14 k) 0 (by omega) h1 x3 fi
        · refine (i_lt (by omega) (by omega)).2 ?_
          rcases w with w | ⟨w', a, b, c⟩ <;> omega
  exact M 32 0 (by omega) hd (-1) ⟨md, Fr.refl _ _, fun q hq => absurd hq (by omega), fun q _ => rfl, Or.inl ⟨rfl, fun q hq => absurd hq (by omega)⟩⟩
