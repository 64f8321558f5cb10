theorem m_readCond {l : Launch} {g : AG} {h0 h : AH} {y nw nb ex p b : Nat} {T : Nat → Nat} {n : Nat} {D : AD} {R : Nat × Nat × AD} {Q X : AH → Prop} (hy : isB y) (hn : n ≤ 800) (m : MS h0 h y T n) (tm : TokM h (tk (bt T n) p)) (run : RunS T n 11 D p R) (rm : RepM h y D nw nb ex) (hb : D 0 1 = b + 1) (xq : XQ h0 y R X) (hq : ∀ h' D' p', MS h0 h' y T n → TokM h' (tk (bt T n) p') → RunS T n 14 D' p' R → p < p' → RepM h' y D' nw nb ex → (∀ t, t ≤ 9 ∨ (14 ≤ t ∧ t ≤ 29) → D' t = D t) → D' 30 6 = D 30 6 → Q h') : C_X12_readCond l g h 103 (Int32.ofNat b) Q X := by
  have hyu : y = 105 ∨ y = 154 ∨ y = 174 := hy
  have hT := fun k hk => (m.2.2.1.2 k hk).1
  have wf := run.2.1
  obtain ⟨⟨n1, n2, n3⟩, gv, gw, gh, gc, gd, go⟩ := wf.1
  have eb : D 0 1 - 1 = b := by omega
  have gb := gc b (by omega)
  have rb := rm.2.2.2.1 b (by omega)
  refine c_X12_readCond (s_X12_readCond_0 ?_)
  rw [m.2.1]
  refine ⟨is_103, isB_x hy, ?_⟩
  intro v3 e3
  rw [e3]
  refine m_varHere hy hn m tm run (by omega) xq rm.1.2.2 rm.2.2.1 (fun k => by rw [stp_11, if_pos k]) (fun k c => by rw [stp_11, if_neg (fun z => z k), if_neg c]) (fun k c => ?_)
  rw [rfB_18 m.1 hy, rfB_19 m.1 hy, i_cl (by omega), rb.2.2.1, show (3 : Int32) = Int32.ofNat 3 from rfl, i_mul, i_add]
  refine ⟨isB_16 hy, vi_ok (by omega) (by rw [szB_16 hy]; omega), fun z => ?_, fun z => ?_⟩
  · have c3 : D 10 b < 3 := by
      have : D 10 b ≠ 3 := fun u => z (by rw [u])
      omega
    have r1 := run_ok (b := 12) (E := up D 30 3 (fV D (tk (bt T n) p).2.1)) hT hn run (by rw [stp_11, if_neg (fun z => z k), if_pos c, eb, if_pos c3]) (by omega)
    revert c r1
    generalize fV D (tk (bt T n) p).2.1 = v
    intro c r1
    refine ⟨isB_16 hy, vi_ok (by omega) (by rw [szB_16 hy]; omega), ?_⟩
    intro v14 e14
    rw [e14, i_cl (by omega)]
    refine ⟨isB_17 hy, vi_ok (by omega) (by rw [szB_17 hy]; omega), ?_⟩
    generalize eq : 3 * b + D 10 b = q at *
    intro h18 e18
    have m18 : MS h0 h18 y T n := by rw [e18]; exact m.I hy (by unfold PMe; omega)
    have tm18 : TokM h18 (tk (bt T n) p) := by rw [e18]; exact tm.I (by omega)
    have f18 : Fr (fun c i => (y + 17 ≤ c ∧ c ≤ y + 19 ∧ i = q) ∨ PNx c i) h h18 := by rw [e18]; exact (Fr.refl _ _).setI (Or.inl ⟨by omega, by omega, rfl⟩)
    have v18 : h18.1 (y + 17) q = Int32.ofNat v := by rw [e18, gI_s]
    refine m_next hy hn run.1 m18 tm18 (by omega) (fun h21 m21 f21 tm21 => ?_)
    have g21 : Fr (fun c i => (y + 17 ≤ c ∧ c ≤ y + 19 ∧ i = q) ∨ PNx c i) h h21 := f18.trans (f21.mono (fun c i z => Or.inr z))
    have v21 : h21.1 (y + 17) q = Int32.ofNat v := by rw [(f21 _ _ (fun q => by unfold PNx at q; omega)).1]; exact v18
    generalize ep1 : (tk (bt T n) p).2.2.2 = p1 at *
    have ok1 := tk_ok hT hn r1.1.1
    have E3 : up D 30 3 v 30 3 = v := up_s _ _ _ _
    have L91 : (tk (bt T n) p1).1 = 61 ∨ (tk (bt T n) p1).1 = 60 ∨ (tk (bt T n) p1).1 = 62 → L_X12_readCond_91 l g h21 103 (Int32.ofNat b) y (Int32.ofNat q) Q X := by
      intro k1
      have r2 := run_ok (b := 13) (E := up (up D 30 3 v) 30 4 (tk (bt T n) p1).1) hT hn r1.1 (by rw [stp_12, if_pos k1]) (by omega)
      revert r2
      generalize esg : (tk (bt T n) p1).1 = sg at *
      intro r2
      refine s_X12_readCond_91 ?_
      rw [rfB_20 m21.1 hy, i_cl (by omega), tm21.2.2.2.1 (by omega), esg]
      refine ⟨isB_x hy, isB_18 hy, is_103, vi_ok (by omega) (by rw [szB_18 hy]; omega), ?_⟩
      intro h46 e46
      have m46 : MS h0 h46 y T n := by rw [e46]; exact m21.I hy (by unfold PMe; omega)
      have tm46 : TokM h46 (tk (bt T n) p1) := by rw [e46]; exact tm21.I (by omega)
      have f46 : Fr (fun c i => (y + 17 ≤ c ∧ c ≤ y + 19 ∧ i = q) ∨ PNx c i) h h46 := by rw [e46]; exact g21.setI (Or.inl ⟨by omega, by omega, rfl⟩)
      have v46 : h46.1 (y + 17) q = Int32.ofNat v := by rw [e46, gI_c (by omega)]; exact v21
      have w46 : h46.1 (y + 18) q = Int32.ofNat sg := by rw [e46, gI_s]
      refine m_next hy hn r1.1.1 m46 tm46 (by omega) (fun h49 m49 f49 tm49 => ?_)
      have f49' : Fr (fun c i => (y + 17 ≤ c ∧ c ≤ y + 19 ∧ i = q) ∨ PNx c i) h h49 := f46.trans (f49.mono (fun c i z => Or.inr z))
      have v49 : h49.1 (y + 17) q = Int32.ofNat v := by rw [(f49 _ _ (fun q => by unfold PNx at q; omega)).1]; exact v46
      have w49 : h49.1 (y + 18) q = Int32.ofNat sg := by rw [(f49 _ _ (fun q => by unfold PNx at q; omega)).1]; exact w46
      generalize ep2 : (tk (bt T n) p1).2.2.2 = p2 at *
      rw [rfB_21 m49.1 hy]
      refine ⟨isB_19 hy, ?_⟩
      have F3 : up (up D 30 3 v) 30 4 sg 30 3 = v := by rw [up_n (by omega), up_s]
      have F4 : up (up D 30 3 v) 30 4 sg 30 4 = sg := up_s _ _ _ _
      refine m_needNumber (lo := 0) (hi := 9) (b := 14) (E := addCond (up (up D 30 3 v) 30 4 sg) v sg (tk (bt T n) p2).2.1) (by omega) (by omega) hy hn m49 tm49 r2.1 (by omega) xq (fun k => by rw [stp_13, if_pos k]) (fun k c => by rw [stp_13, if_neg (fun z => z k), if_pos (by omega)]) (fun k c1 c2 => by rw [stp_13, if_neg (fun z => z k), if_neg (by omega), F3, F4]) (fun k c1 c2 h52 m52 f52 tm52 r3 lt3 => ?_)
      have f52' : Fr (fun c i => (y + 17 ≤ c ∧ c ≤ y + 19 ∧ i = q) ∨ PNx c i) h h52 := f49'.trans (f52.mono (fun c i z => Or.inr z))
      generalize (tk (bt T n) p2).2.1 = num at *
      refine ⟨vi_ok (by omega) (by rw [szB_19 hy]; omega), ?_⟩
      intro h55 e55
      have m55 : MS h0 h55 y T n := by rw [e55]; exact m52.I hy (by unfold PMe; omega)
      have tm55 : TokM h55 (tk (bt T n) (tk (bt T n) p2).2.2.2) := by rw [e55]; exact tm52.I (by omega)
      have c55 : h55.1 (y + 16) b = Int32.ofNat (D 10 b) := by
        rw [e55, gI_c (by omega), (f52' (y + 16) b (fun z => by unfold PNx at z; omega)).1]; exact rb.2.2.1
      have f55 : Fr (fun c i => (y + 17 ≤ c ∧ c ≤ y + 19 ∧ i = q) ∨ PNx c i) h h55 := by rw [e55]; exact f52'.setI (Or.inl ⟨by omega, by omega, rfl⟩)
      have a55 : h55.1 (y + 17) q = Int32.ofNat v ∧ h55.1 (y + 18) q = Int32.ofNat sg ∧ h55.1 (y + 19) q = Int32.ofNat num := by
        refine ⟨?_, ?_, ?_⟩
        · rw [e55, gI_c (by omega), (f52 _ _ (fun q => by unfold PNx at q; omega)).1]; exact v49
        · rw [e55, gI_c (by omega), (f52 _ _ (fun q => by unfold PNx at q; omega)).1]; exact w49
        · rw [e55, gI_s]
      rw [rfB_18 m55.1 hy, i_cl (by omega), c55, show (1 : Int32) = Int32.ofNat 1 from rfl, i_add]
      refine ⟨isB_16 hy, vi_ok (by omega) (by rw [szB_16 hy]; omega), vi_ok (by omega) (by rw [szB_16 hy]; omega), ?_⟩
      intro h60 e60
      have tgs : ∀ t, (t ≤ 9 ∨ (14 ≤ t ∧ t ≤ 29)) → addCond (up (up D 30 3 v) 30 4 sg) v sg num t = D t := fun t ht => by
        unfold addCond
        simp (disch := first | assumption | omega) only [up_t]
      refine hq h60 _ _ (by rw [e60]; exact m55.I hy (by unfold PMe; omega)) (by rw [e60]; exact tm55.I (by omega)) r3 (by omega) ?_ tgs ?_
      · have fj : ∀ j p, j ≤ 15 → h60.1 (y + j) p = h.1 (y + j) p ∧ h60.2.1 (y + j) p = h.2.1 (y + j) p := fun j p hj => by
          rw [e60, gI_c (by omega)]
          have z := f55 (y + j) p (fun q => by unfold PNx at q; omega)
          exact ⟨z.1, z.2.1⟩
        obtain ⟨⟨a1, a2, a3⟩, bw, bv, bb, bd⟩ := rm
        have e0 := tgs 0 (by omega)
        have u10 : ∀ i, addCond (up (up D 30 3 v) 30 4 sg) v sg num 10 i = if i = b then D 10 b + 1 else D 10 i := fun i => by
          unfold addCond
          simp (disch := first | assumption | omega) only [up_t]
          rw [eb]
          by_cases c : i = b
          · rw [if_pos c, up_e c]
          · rw [if_neg c, up_n c, up_t (by omega), up_t (by omega), up_t (by omega), up_t (by omega), up_t (by omega)]
        have u11 : ∀ i, addCond (up (up D 30 3 v) 30 4 sg) v sg num 11 i = if i = q then v else D 11 i := fun i => by
          unfold addCond
          simp (disch := first | assumption | omega) only [up_t]
          rw [eb, eq]
          by_cases c : i = q
          · rw [if_pos c, up_e c]
          · rw [if_neg c, up_n c, up_t (by omega), up_t (by omega)]
        have u12 : ∀ i, addCond (up (up D 30 3 v) 30 4 sg) v sg num 12 i = if i = q then sg else D 12 i := fun i => by
          unfold addCond
          simp (disch := first | assumption | omega) only [up_t]
          rw [eb, eq]
          by_cases c : i = q
          · rw [if_pos c, up_e c]
          · rw [if_neg c, up_n c, up_t (by omega), up_t (by omega), up_t (by omega)]
        have u13 : ∀ i, addCond (up (up D 30 3 v) 30 4 sg) v sg num 13 i = if i = q then num else D 13 i := fun i => by
          unfold addCond
          simp (disch := first | assumption | omega) only [up_t]
          rw [eb, eq]
          by_cases c : i = q
          · rw [if_pos c, up_e c]
          · rw [if_neg c, up_n c, up_t (by omega), up_t (by omega), up_t (by omega), up_t (by omega)]
        refine ⟨⟨(fj 0 0 (by omega)).1.trans a1, (fj 0 1 (by omega)).1.trans a2, ?_⟩, bw.c (by rw [e0]) (tgs 1 (by omega)) (tgs 6 (by omega)) (tgs 7 (by omega)) (tgs 8 (by omega)) (fun j p hj => fj j p (by omega)), bv.c (by rw [e0]) (tgs 3 (by omega)) (tgs 4 (by omega)) (tgs 5 (by omega)) (fun j p hj => fj j p (by omega)), ?_, bd.c (fun k hk hx => ⟨?_, hx⟩) (tgs 14 (by omega)) (tgs 15 (by omega)) (tgs 16 (by omega)) (tgs 17 (by omega)) (tgs 21 (by omega)) (tgs 22 (by omega)) (fun j p hj => fj j p (by omega))⟩
        · rw [e0]; exact (fj 0 2 (by omega)).1.trans a3
        · intro k hk
          rw [e0] at hk
          obtain ⟨b1, b2, b3, b4⟩ := bb k hk
          rw [tgs 2 (by omega), tgs 9 (by omega), (fj 2 k (by omega)).2, (fj 15 k (by omega)).1, u10]
          refine ⟨b1, b2, ?_, fun d hd => ?_⟩
          · by_cases z : k = b
            · rw [if_pos z, z, e60, gI_s]
            · rw [if_neg z, e60, gI_p z, (f55 (y + 16) k (fun q => by unfold PNx at q; omega)).1]; exact b3
          · rw [u11, u12, u13, e60, gI_c (by omega), gI_c (by omega), gI_c (by omega)]
            by_cases z : 3 * k + d = q
            · rw [if_pos z, if_pos z, if_pos z, z]
              exact a55
            · have dk : d < D 10 k := by
                by_cases u : k = b
                · rw [if_pos u] at hd; rw [u] at z ⊢; omega
                · rw [if_neg u] at hd; exact hd
              rw [if_neg z, if_neg z, if_neg z, (f55 (y + 17) _ (fun q => by unfold PNx at q; omega)).1, (f55 (y + 18) _ (fun q => by unfold PNx at q; omega)).1, (f55 (y + 19) _ (fun q => by unfold PNx at q; omega)).1]
              exact b4 d dk
        · unfold isL at hk ⊢
          rw [e0, tgs 8 (by omega)] at hk
          exact hk
      · unfold addCond
        simp (disch := first | assumption | omega) only [up_t, up_n]
    refine m_is 61 (by omega) (by omega) tm21 ok1.2.2.2.2.1 (fun k => ⟨fun _ => L91 (Or.inl k), fun u => absurd u (by decide)⟩) (fun k1 => ⟨fun u => absurd rfl u, fun _ => ?_⟩)
    refine m_is 60 (by omega) (by omega) tm21 ok1.2.2.2.2.1 (fun k => ⟨fun _ => L91 (Or.inr (Or.inl k)), fun u => absurd u (by decide)⟩) (fun k2 => ⟨fun u => absurd rfl u, fun _ => ?_⟩)
    refine m_is 62 (by omega) (by omega) tm21 ok1.2.2.2.2.1 (fun k => ⟨fun _ => L91 (Or.inr (Or.inr k)), fun u => absurd u (by decide)⟩) (fun k3 => ⟨fun u => absurd rfl u, fun _ => ?_⟩)
    exact m_stop (c := 1) hy m21 tm21 xq (by omega) (run_bad r1.1 (b := 0) (E := up D 30 3 v) (by rw [stp_12, if_neg (by omega)]) (by omega) (Or.inl (by omega)))
  · have c3 : D 10 b = 3 := (i_eq (b := 3) (by omega) (by omega)).1 z
    exact m_stop (c := 5) hy m tm xq (by omega) (run_bad run (b := 0) (E := D) (by rw [stp_11, if_neg (fun z => z k), if_pos c, eb, if_neg (by omega)]) (by omega) (Or.inl (by omega)))
theorem kc_ne : kc 11 ≠ kc 1 ∧ kc 11 ≠ kc 3 ∧ kc 3 ≠ kc 1 ∧ kc 8 ≠ kc 13 ∧ kc 12 ≠ kc 13 ∧ kc 12 ≠ kc 8 ∧ kc 7 ≠ kc 5 ∧ kc 2 ≠ kc 5 := by decide
theorem RepM.shw {h h1 : AH} {y nw nb ex w v : Nat} {D : AD} (hy : isB y) (r : RepM h y D nw nb ex) (hw : D 0 0 = w + 1) (h6 : ∀ w, w < D 0 0 → D 6 w ≤ 6) (l6 : D 6 w < 6) (f : Fr (fun c i => (c = y + 6 ∧ i = 6 * w + D 6 w) ∨ (c = y + 5 ∧ i = w) ∨ PNx c i) h h1) (a6 : h1.1 (y + 6) (6 * w + D 6 w) = Int32.ofNat v) (a5 : h1.1 (y + 5) w = Int32.ofNat (D 6 w + 1)) : RepM h1 y (addShow (up D 30 3 v) v) nw nb ex := by
  have hyu : y = 105 ∨ y = 154 ∨ y = 174 := hy
  have ew : D 0 0 - 1 = w := by omega
  generalize eE : addShow (up D 30 3 v) v = E
  have e : ∀ t, t ≠ 6 → t ≠ 7 → t ≠ 30 → E t = D t := fun t a b c => by
    rw [← eE]; unfold addShow; simp (disch := first | assumption | omega) only [up_t]
  have e6 : ∀ i, E 6 i = if i = w then D 6 w + 1 else D 6 i := fun i => by
    rw [← eE]; unfold addShow; simp (disch := first | assumption | omega) only [up_t]
    rw [ew]
    by_cases c : i = w
    · rw [if_pos c, up_e c]
    · rw [if_neg c, up_n c, up_t (by omega), up_t (by omega)]
  have e7 : ∀ i, E 7 i = if i = 6 * w + D 6 w then v else D 7 i := fun i => by
    rw [← eE]; unfold addShow; simp (disch := first | assumption | omega) only [up_t]
    rw [ew]
    by_cases c : i = 6 * w + D 6 w
    · rw [if_pos c, up_e c]
    · rw [if_neg c, up_n c, up_t (by omega)]
  obtain ⟨⟨a1, a2, a3⟩, bw, bv, bb, bd⟩ := r
  have fj : ∀ j p, j ≠ 5 → j ≠ 6 → h1.1 (y + j) p = h.1 (y + j) p ∧ h1.2.1 (y + j) p = h.2.1 (y + j) p := fun j p h5 h6 => by
    have z := f (y + j) p (fun q => by unfold PNx at q; omega)
    exact ⟨z.1, z.2.1⟩
  have e0 := e 0 (by omega) (by omega) (by omega)
  refine ⟨⟨(fj 0 0 (by omega) (by omega)).1.trans a1, (fj 0 1 (by omega) (by omega)).1.trans a2, ?_⟩, ?_, bv.c (by rw [e0]) (e 3 (by omega) (by omega) (by omega)) (e 4 (by omega) (by omega) (by omega)) (e 5 (by omega) (by omega) (by omega)) (fun j p hj => fj j p (by omega) (by omega)), bb.c (by rw [e0]) (e 2 (by omega) (by omega) (by omega)) (e 9 (by omega) (by omega) (by omega)) (e 10 (by omega) (by omega) (by omega)) (e 11 (by omega) (by omega) (by omega)) (e 12 (by omega) (by omega) (by omega)) (e 13 (by omega) (by omega) (by omega)) (fun j p hj => fj j p (by omega) (by omega)), bd.c (fun k hk hx => ⟨?_, hx⟩) (e 14 (by omega) (by omega) (by omega)) (e 15 (by omega) (by omega) (by omega)) (e 16 (by omega) (by omega) (by omega)) (e 17 (by omega) (by omega) (by omega)) (e 21 (by omega) (by omega) (by omega)) (e 22 (by omega) (by omega) (by omega)) (fun j p hj => fj j p (by omega) (by omega))⟩
  · rw [e0]; exact (fj 0 2 (by omega) (by omega)).1.trans a3
  · intro k hk
    rw [e0] at hk
    obtain ⟨b1, b2, b3, b4⟩ := bw k hk
    have k6 := h6 k hk
    rw [e 1 (by omega) (by omega) (by omega), e 8 (by omega) (by omega) (by omega), (fj 1 k (by omega) (by omega)).2, (fj 7 k (by omega) (by omega)).1, e6]
    refine ⟨b1, ?_, fun d hd => ?_, b4⟩
    · by_cases z : k = w
      · rw [if_pos z, z]; exact a5
      · rw [if_neg z, (f (y + 5) k (fun q => by unfold PNx at q; omega)).1]; exact b2
    · rw [e7]
      by_cases z : 6 * k + d = 6 * w + D 6 w
      · rw [if_pos z, z]; exact a6
      · have dk : d < D 6 k := by
          by_cases u : k = w
          · rw [if_pos u] at hd; rw [u] at z ⊢; omega
          · rw [if_neg u] at hd; exact hd
        rw [if_neg z, (f (y + 6) _ (fun q => by unfold PNx at q; omega)).1]
        exact b3 d dk
  · unfold isL at hk ⊢
    rw [e0, e 8 (by omega) (by omega) (by omega)] at hk
    exact hk
theorem RepM.but {h h1 : AH} {y nw w v : Nat} {D : AD} (hy : isB y) (r : RepM h y D nw (D 0 1) 99) (hw : D 0 0 = w + 1) (gn : Gn D) (gd : Gd D) (l24 : D 0 1 < 24) (f : Fr (fun c i => ((c = y + 2 ∨ c = y + 15 ∨ c = y + 16) ∧ i = D 0 1) ∨ PNx c i) h h1) (a2 : h1.2.1 (y + 2) (D 0 1) = Int64.ofNat v) (a15 : h1.1 (y + 15) (D 0 1) = Int32.ofNat w) (a16 : h1.1 (y + 16) (D 0 1) = Int32.ofNat 0) : RepM h1 y (addBut (up D 30 6 (D 0 1)) v) nw (D 0 1) (D 0 1) := by
  have hyu : y = 105 ∨ y = 154 ∨ y = 174 := hy
  obtain ⟨g11, g12, g13⟩ := gn
  have ew : D 0 0 - 1 = w := by omega
  generalize eE : addBut (up D 30 6 (D 0 1)) v = E
  have e : ∀ t, t ≠ 0 → t ≠ 2 → t ≠ 9 → t ≠ 10 → t ≠ 14 → t ≠ 19 → t ≠ 30 → E t = D t := fun t a b c d e' f' g' => by
    rw [← eE]; unfold addBut; simp (disch := first | assumption | omega) only [up_t]
  have e0 : ∀ i, E 0 i = if i = 1 then D 0 1 + 1 else D 0 i := fun i => by
    rw [← eE]; unfold addBut; by_cases c : i = 1
    · rw [if_pos c]; simp (disch := first | assumption | omega) only [up_t, up_e]
    · rw [if_neg c]; simp (disch := first | assumption | omega) only [up_t, up_n]
  have e2 : ∀ i, E 2 i = if i = D 0 1 then v else D 2 i := fun i => by
    rw [← eE]; unfold addBut; by_cases c : i = D 0 1
    · rw [if_pos c]; simp (disch := first | assumption | omega) only [up_t, up_e]
    · rw [if_neg c]; simp (disch := first | assumption | omega) only [up_t, up_n]
  have e9 : ∀ i, E 9 i = if i = D 0 1 then w else D 9 i := fun i => by
    rw [← eE]; unfold addBut; by_cases c : i = D 0 1
    · rw [if_pos c]; simp (disch := first | assumption | omega) only [up_t, up_e]; exact ew
    · rw [if_neg c]; simp (disch := first | assumption | omega) only [up_t, up_n]
  have e10 : ∀ i, E 10 i = if i = D 0 1 then 0 else D 10 i := fun i => by
    rw [← eE]; unfold addBut; by_cases c : i = D 0 1
    · rw [if_pos c]; simp (disch := first | assumption | omega) only [up_t, up_e]
    · rw [if_neg c]; simp (disch := first | assumption | omega) only [up_t, up_n]
  have e14 : ∀ i, E 14 i = if i = D 0 1 then 0 else D 14 i := fun i => by
    rw [← eE]; unfold addBut; by_cases c : i = D 0 1
    · rw [if_pos c]; simp (disch := first | assumption | omega) only [up_t, up_e]
    · rw [if_neg c]; simp (disch := first | assumption | omega) only [up_t, up_n]
  have f14 : E 14 = D 14 := by
    funext k
    rw [e14]
    by_cases c : k = D 0 1
    · rw [if_pos c]
      refine (gd.2.1 k (fun z => ?_)).symm
      rcases z with a | ⟨w, a, b, c⟩ <;> omega
    · rw [if_neg c]
  have et : ∀ t, (t = 1 ∨ (3 ≤ t ∧ t ≤ 8) ∨ (11 ≤ t ∧ t ≤ 13) ∨ (15 ≤ t ∧ t ≤ 17) ∨ t = 21 ∨ t = 22) → E t = D t := fun t ht => e t (by omega) (by omega) (by omega) (by omega) (by omega) (by omega) (by omega)
  obtain ⟨⟨a1, b2, a3⟩, bw, bv, bb, bd⟩ := r
  have fj : ∀ j p, j ≠ 2 → j ≠ 15 → j ≠ 16 → h1.1 (y + j) p = h.1 (y + j) p ∧ h1.2.1 (y + j) p = h.2.1 (y + j) p := fun j p h5 h6 h7 => by
    have z := f (y + j) p (fun q => by unfold PNx at q; omega)
    exact ⟨z.1, z.2.1⟩
  have e00 : E 0 0 = D 0 0 := by rw [e0, if_neg (by omega)]
  have e01 : E 0 1 = D 0 1 + 1 := by rw [e0, if_pos rfl]
  have e02 : E 0 2 = D 0 2 := by rw [e0, if_neg (by omega)]
  refine ⟨⟨(fj 0 0 (by omega) (by omega) (by omega)).1.trans a1, (fj 0 1 (by omega) (by omega) (by omega)).1.trans b2, ?_⟩, bw.c e00 (et 1 (by omega)) (et 6 (by omega)) (et 7 (by omega)) (et 8 (by omega)) (fun j p hj => fj j p (by omega) (by omega) (by omega)), bv.c e02 (et 3 (by omega)) (et 4 (by omega)) (et 5 (by omega)) (fun j p hj => fj j p (by omega) (by omega) (by omega)), ?_, bd.c (fun k hk hx => ⟨?_, ?_⟩) f14 (et 15 (by omega)) (et 16 (by omega)) (et 17 (by omega)) (et 21 (by omega)) (et 22 (by omega)) (fun j p hj => fj j p (by omega) (by omega) (by omega))⟩
  · rw [e02]; exact (fj 0 2 (by omega) (by omega) (by omega)).1.trans a3
  · intro k hk
    rw [e01] at hk
    rw [e2, e9, e10, et 11 (by omega), et 12 (by omega), et 13 (by omega)]
    by_cases z : k = D 0 1
    · rw [if_pos z, if_pos z, if_pos z, z]
      exact ⟨a2, a15, a16, fun d hd => absurd hd (by omega)⟩
    · rw [if_neg z, if_neg z, if_neg z]
      obtain ⟨q1, q2, q3, q4⟩ := bb k (by omega)
      rw [(f (y + 2) k (fun q => by unfold PNx at q; omega)).2.1, (f (y + 15) k (fun q => by unfold PNx at q; omega)).1, (f (y + 16) k (fun q => by unfold PNx at q; omega)).1]
      exact ⟨q1, q2, q3, fun d hd => by rw [(fj 17 _ (by omega) (by omega) (by omega)).1, (fj 18 _ (by omega) (by omega) (by omega)).1, (fj 19 _ (by omega) (by omega) (by omega)).1]; exact q4 d hd⟩
  · unfold isL at hk ⊢
    rw [e00, e01, et 8 (by omega)] at hk
    rcases hk with u | u
    · exact Or.inl (by omega)
    · exact Or.inr u
  · unfold isL at hk
    rw [e00, e01, et 8 (by omega)] at hk
    rcases hk with u | ⟨w', u1, u2, u3⟩ <;> omega
theorem RepM.tim {h h1 : AH} {y nw nb w v : Nat} {D : AD} (hy : isB y) (r : RepM h y D nw nb 99) (hw : D 0 0 = w + 1) (gn : Gn D) (f : Fr (fun c i => (c = y + 7 ∧ i = w) ∨ PNx c i) h h1) (a7 : h1.1 (y + 7) w = Int32.ofNat v) : RepM h1 y (addTim (up D 30 6 (24 + (D 0 0 - 1))) v) nw nb (24 + w) := by
  have hyu : y = 105 ∨ y = 154 ∨ y = 174 := hy
  obtain ⟨g11, g12, g13⟩ := gn
  have ew : D 0 0 - 1 = w := by omega
  generalize eE : addTim (up D 30 6 (24 + (D 0 0 - 1))) v = E
  have e : ∀ t, t ≠ 8 → t ≠ 30 → E t = D t := fun t a b => by
    rw [← eE]; unfold addTim; simp (disch := first | assumption | omega) only [up_t]
  have e8 : ∀ i, E 8 i = if i = w then v else D 8 i := fun i => by
    rw [← eE]; unfold addTim; simp (disch := first | assumption | omega) only [up_t]
    rw [ew]
    by_cases c : i = w
    · rw [if_pos c, up_e c]
    · rw [if_neg c, up_n c, up_t (by omega)]
  obtain ⟨⟨a1, a2, a3⟩, bw, bv, bb, bd⟩ := r
  have fj : ∀ j p, j ≠ 7 → h1.1 (y + j) p = h.1 (y + j) p ∧ h1.2.1 (y + j) p = h.2.1 (y + j) p := fun j p h5 => by
    have z := f (y + j) p (fun q => by unfold PNx at q; omega)
    exact ⟨z.1, z.2.1⟩
  have e0 := e 0 (by omega) (by omega)
  refine ⟨⟨(fj 0 0 (by omega)).1.trans a1, (fj 0 1 (by omega)).1.trans a2, ?_⟩, ?_, bv.c (by rw [e0]) (e 3 (by omega) (by omega)) (e 4 (by omega) (by omega)) (e 5 (by omega) (by omega)) (fun j p hj => fj j p (by omega)), bb.c (by rw [e0]) (e 2 (by omega) (by omega)) (e 9 (by omega) (by omega)) (e 10 (by omega) (by omega)) (e 11 (by omega) (by omega)) (e 12 (by omega) (by omega)) (e 13 (by omega) (by omega)) (fun j p hj => fj j p (by omega)), bd.c (fun k hk hx => ?_) (e 14 (by omega) (by omega)) (e 15 (by omega) (by omega)) (e 16 (by omega) (by omega)) (e 17 (by omega) (by omega)) (e 21 (by omega) (by omega)) (e 22 (by omega) (by omega)) (fun j p hj => fj j p (by omega))⟩
  · rw [e0]; exact (fj 0 2 (by omega)).1.trans a3
  · intro k hk
    rw [e0] at hk
    obtain ⟨b1, b2, b3, b4⟩ := bw k hk
    rw [e 1 (by omega) (by omega), e 6 (by omega) (by omega), e 7 (by omega) (by omega), (fj 1 k (by omega)).2, (fj 5 k (by omega)).1, e8]
    refine ⟨b1, b2, fun d hd => by rw [(fj 6 _ (by omega)).1]; exact b3 d hd, ?_⟩
    by_cases z : k = w
    · rw [if_pos z, z]; exact a7
    · rw [if_neg z, (f (y + 7) k (fun q => by unfold PNx at q; omega)).1]; exact b4
  · unfold isL at hk ⊢
    rw [e0] at hk
    rcases hk with u | ⟨w', u1, u2, u3⟩
    · exact ⟨Or.inl u, by omega⟩
    · refine ⟨Or.inr ⟨w', u1, u2, ?_⟩, by omega⟩
      rw [e8, if_neg (by omega)] at u3
      exact u3
