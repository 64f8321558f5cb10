theorem RepM.var {h h1 : AH} {y nw nb ex nm mx kp : Nat} {D E0 : AD} (hy : isB y) (r : RepM h y D nw nb ex) (e : ∀ t, t ≠ 30 → E0 t = D t) (f : Fr (fun c i => ((c = y + 3 ∨ c = y + 4 ∨ c = y + 8) ∧ i = D 0 2) ∨ (c = y ∧ i = 2) ∨ PNx c i) h h1) (a3 : h1.2.1 (y + 3) (D 0 2) = Int64.ofNat nm) (a4 : h1.1 (y + 4) (D 0 2) = Int32.ofNat mx) (a8 : h1.1 (y + 8) (D 0 2) = Int32.ofNat kp) (a2 : h1.1 y 2 = Int32.ofNat (D 0 2 + 1)) : RepM h1 y (addVar E0 nm mx kp) nw nb ex := by
  have hyu : y = 105 ∨ y = 154 ∨ y = 174 := hy
  have e02 : E0 0 2 = D 0 2 := by rw [e 0 (by omega)]
  generalize eE : addVar E0 nm mx kp = E
  have et : ∀ t, t ≠ 0 → t ≠ 3 → t ≠ 4 → t ≠ 5 → t ≠ 30 → E t = D t := fun t a b c d f => by
    rw [← eE]; unfold addVar; simp (disch := first | assumption | omega) only [up_t]; exact e t f
  have u0 : ∀ i, E 0 i = if i = 2 then D 0 2 + 1 else D 0 i := fun i => by
    rw [← eE]; unfold addVar; rw [e02]; by_cases c : i = 2
    · rw [if_pos c]; simp (disch := first | assumption | omega) only [up_t, up_e]
    · rw [if_neg c]; simp (disch := first | assumption | omega) only [up_t, up_n]; rw [e 0 (by omega)]
  have u3 : ∀ i, E 3 i = if i = D 0 2 then nm else D 3 i := fun i => by
    rw [← eE]; unfold addVar; rw [e02]; by_cases c : i = D 0 2
    · rw [if_pos c]; simp (disch := first | assumption | omega) only [up_t, up_e]
    · rw [if_neg c]; simp (disch := first | assumption | omega) only [up_t, up_n]; rw [e 3 (by omega)]
  have u4 : ∀ i, E 4 i = if i = D 0 2 then mx else D 4 i := fun i => by
    rw [← eE]; unfold addVar; rw [e02]; by_cases c : i = D 0 2
    · rw [if_pos c]; simp (disch := first | assumption | omega) only [up_t, up_e]
    · rw [if_neg c]; simp (disch := first | assumption | omega) only [up_t, up_n]; rw [e 4 (by omega)]
  have u5 : ∀ i, E 5 i = if i = D 0 2 then kp else D 5 i := fun i => by
    rw [← eE]; unfold addVar; rw [e02]; by_cases c : i = D 0 2
    · rw [if_pos c]; simp (disch := first | assumption | omega) only [up_t, up_e]
    · rw [if_neg c]; simp (disch := first | assumption | omega) only [up_t, up_n]; rw [e 5 (by omega)]
  obtain ⟨⟨a1, b2, b3⟩, bw, bv, bb, bd⟩ := r
  have fj : ∀ j p, 1 ≤ j → j ≠ 3 → j ≠ 4 → j ≠ 8 → h1.1 (y + j) p = h.1 (y + j) p ∧ h1.2.1 (y + j) p = h.2.1 (y + j) p := fun j p h5 h6 h7 h8 => by
    have z := f (y + j) p (fun q => by unfold PNx at q; omega)
    exact ⟨z.1, z.2.1⟩
  have e00 : E 0 0 = D 0 0 := by rw [u0, if_neg (by omega)]
  have e01 : E 0 1 = D 0 1 := by rw [u0, if_neg (by omega)]
  have e2' : E 0 2 = D 0 2 + 1 := by rw [u0, if_pos rfl]
  have ett : ∀ t, (t = 1 ∨ t = 2 ∨ (6 ≤ t ∧ t ≤ 22)) → E t = D t := fun t ht => et t (by omega) (by omega) (by omega) (by omega) (by omega)
  refine ⟨⟨?_, ?_, ?_⟩, bw.c e00 (ett 1 (by omega)) (ett 6 (by omega)) (ett 7 (by omega)) (ett 8 (by omega)) (fun j p hj => fj j p (by omega) (by omega) (by omega) (by omega)), ?_, bb.c e01 (ett 2 (by omega)) (ett 9 (by omega)) (ett 10 (by omega)) (ett 11 (by omega)) (ett 12 (by omega)) (ett 13 (by omega)) (fun j p hj => fj j p (by omega) (by omega) (by omega) (by omega)), bd.c (fun k hk hx => ⟨?_, hx⟩) (ett 14 (by omega)) (ett 15 (by omega)) (ett 16 (by omega)) (ett 17 (by omega)) (ett 21 (by omega)) (ett 22 (by omega)) (fun j p hj => fj j p (by omega) (by omega) (by omega) (by omega))⟩
  · rw [(f y 0 (fun q => by unfold PNx at q; omega)).1]; exact a1
  · rw [(f y 1 (fun q => by unfold PNx at q; omega)).1]; exact b2
  · rw [e2']; exact a2
  · intro v hv
    rw [e2'] at hv
    rw [u3, u4, u5]
    by_cases c : v = D 0 2
    · rw [if_pos c, if_pos c, if_pos c, c]; exact ⟨a3, a4, a8⟩
    · rw [if_neg c, if_neg c, if_neg c, (f (y + 3) v (fun q => by unfold PNx at q; omega)).2.1, (f (y + 4) v (fun q => by unfold PNx at q; omega)).1, (f (y + 8) v (fun q => by unfold PNx at q; omega)).1]
      exact bv v (by omega)
  · unfold isL at hk ⊢
    rw [e00, e01, ett 8 (by omega)] at hk
    exact hk
theorem RepM.win {h h1 : AH} {y nw nb v : Nat} {D : AD} (hy : isB y) (r : RepM h y D nw nb 99) (gn : Gn D) (gd : Gd D) (l8 : D 0 0 < 8) (f : Fr (fun c i => ((c = y + 1 ∨ c = y + 5 ∨ c = y + 7) ∧ i = D 0 0) ∨ PNx c i) h h1) (a1 : h1.2.1 (y + 1) (D 0 0) = Int64.ofNat v) (a5 : h1.1 (y + 5) (D 0 0) = 0) (a7 : h1.1 (y + 7) (D 0 0) = 0) : RepM h1 y (addWin D v) nw nb 99 := by
  have hyu : y = 105 ∨ y = 154 ∨ y = 174 := hy
  obtain ⟨g11, g12, g13⟩ := gn
  generalize eE : addWin D v = E
  have e : ∀ t, t ≠ 0 → t ≠ 1 → t ≠ 6 → t ≠ 8 → t ≠ 14 → t ≠ 18 → t ≠ 19 → E t = D t := fun t a b c d e' f' g' => by
    rw [← eE]; unfold addWin; simp (disch := first | assumption | omega) only [up_t]
  have e0 : ∀ i, E 0 i = if i = 0 then D 0 0 + 1 else D 0 i := fun i => by
    rw [← eE]; unfold addWin; by_cases c : i = 0
    · rw [if_pos c]; simp (disch := first | assumption | omega) only [up_t, up_e]
    · rw [if_neg c]; simp (disch := first | assumption | omega) only [up_t, up_n]
  have e1 : ∀ i, E 1 i = if i = D 0 0 then v else D 1 i := fun i => by
    rw [← eE]; unfold addWin; by_cases c : i = D 0 0
    · rw [if_pos c]; simp (disch := first | assumption | omega) only [up_t, up_e]
    · rw [if_neg c]; simp (disch := first | assumption | omega) only [up_t, up_n]
  have e6 : ∀ i, E 6 i = if i = D 0 0 then 0 else D 6 i := fun i => by
    rw [← eE]; unfold addWin; by_cases c : i = D 0 0
    · rw [if_pos c]; simp (disch := first | assumption | omega) only [up_t, up_e]
    · rw [if_neg c]; simp (disch := first | assumption | omega) only [up_t, up_n]
  have e8 : ∀ i, E 8 i = if i = D 0 0 then 0 else D 8 i := fun i => by
    rw [← eE]; unfold addWin; by_cases c : i = D 0 0
    · rw [if_pos c]; simp (disch := first | assumption | omega) only [up_t, up_e]
    · rw [if_neg c]; simp (disch := first | assumption | omega) only [up_t, up_n]
  have e14 : ∀ i, E 14 i = if i = 24 + D 0 0 then 0 else D 14 i := fun i => by
    rw [← eE]; unfold addWin; by_cases c : i = 24 + D 0 0
    · rw [if_pos c]; simp (disch := first | assumption | omega) only [up_t, up_e]
    · rw [if_neg c]; simp (disch := first | assumption | omega) only [up_t, up_n]
  have f14 : E 14 = D 14 := by
    funext k
    rw [e14]
    by_cases c : k = 24 + D 0 0
    · rw [if_pos c]
      refine (gd.2.1 k (fun z => ?_)).symm
      rcases z with a | ⟨w, a, b, c⟩ <;> omega
    · rw [if_neg c]
  have et : ∀ t, ((2 ≤ t ∧ t ≤ 5) ∨ t = 7 ∨ (9 ≤ t ∧ t ≤ 13) ∨ (15 ≤ t ∧ t ≤ 17) ∨ t = 21 ∨ t = 22) → E t = D t := fun t ht => e t (by omega) (by omega) (by omega) (by omega) (by omega) (by omega) (by omega)
  obtain ⟨⟨c1, c2, c3⟩, bw, bv, bb, bd⟩ := r
  have fj : ∀ j p, j ≠ 1 → j ≠ 5 → j ≠ 7 → h1.1 (y + j) p = h.1 (y + j) p ∧ h1.2.1 (y + j) p = h.2.1 (y + j) p := fun j p h5 h6 h7 => by
    have z := f (y + j) p (fun q => by unfold PNx at q; omega)
    exact ⟨z.1, z.2.1⟩
  have e00 : E 0 0 = D 0 0 + 1 := by rw [e0, if_pos rfl]
  have e01 : E 0 1 = D 0 1 := by rw [e0, if_neg (by omega)]
  have e02 : E 0 2 = D 0 2 := by rw [e0, if_neg (by omega)]
  refine ⟨⟨(fj 0 0 (by omega) (by omega) (by omega)).1.trans c1, (fj 0 1 (by omega) (by omega) (by omega)).1.trans c2, ?_⟩, ?_, bv.c e02 (et 3 (by omega)) (et 4 (by omega)) (et 5 (by omega)) (fun j p hj => fj j p (by omega) (by omega) (by omega)), bb.c e01 (et 2 (by omega)) (et 9 (by omega)) (et 10 (by omega)) (et 11 (by omega)) (et 12 (by omega)) (et 13 (by omega)) (fun j p hj => fj j p (by omega) (by omega) (by omega)), bd.c (fun k hk hx => ⟨?_, hx⟩) f14 (et 15 (by omega)) (et 16 (by omega)) (et 17 (by omega)) (et 21 (by omega)) (et 22 (by omega)) (fun j p hj => fj j p (by omega) (by omega) (by omega))⟩
  · rw [e02]; exact (fj 0 2 (by omega) (by omega) (by omega)).1.trans c3
  · intro k hk
    rw [e00] at hk
    rw [e1, e6, e8, et 7 (by omega)]
    by_cases z : k = D 0 0
    · rw [if_pos z, if_pos z, if_pos z, z]
      exact ⟨a1, a5, fun d hd => absurd hd (by omega), a7⟩
    · rw [if_neg z, if_neg z, if_neg z]
      obtain ⟨q1, q2, q3, q4⟩ := bw k (by omega)
      rw [(f (y + 1) k (fun q => by unfold PNx at q; omega)).2.1, (f (y + 5) k (fun q => by unfold PNx at q; omega)).1, (f (y + 7) k (fun q => by unfold PNx at q; omega)).1]
      exact ⟨q1, q2, fun d hd => by rw [(fj 6 _ (by omega) (by omega) (by omega)).1]; exact q3 d hd, q4⟩
  · unfold isL at hk ⊢
    rw [e00, e01] at hk
    rcases hk with u | ⟨w', u1, u2, u3⟩
    · exact Or.inl u
    · rw [e8] at u3
      by_cases z : w' = D 0 0
      · rw [if_pos z] at u3; omega
      · rw [if_neg z] at u3; exact Or.inr ⟨w', by omega, u2, u3⟩
theorem m_isWord_r {l : Launch} {g : AG} {h : AH} {t : Nat × Nat × Nat × Nat} {Q : Int32 → AH → Prop} (j : Nat) (hj : j < 14) (tm : TokM h t) (hw : t.1 = 1 → isW t.2.1) (hq : ∀ kp : Nat, kp ≤ 1 → (if isK j t.1 t.2.1 then 1 else 0) = kp → Q (Int32.ofNat kp) h) : C_X12_isWord l g h 103 (1000 + j) Q :=
  m_isWord j hj tm hw (fun k => hq 1 (by omega) (by rw [if_pos k])) (fun k => hq 0 (by omega) (by rw [if_neg k]))
theorem m_wins {l : Launch} {g : AG} {h0 : AH} {y : Nat} {T : Nat → Nat} {n : Nat} {R : Nat × Nat × AD} {Q X : AH → Prop} (hy : isB y) (hn : n ≤ 800) (xq : XQ h0 y R X) (hq : ∀ h', MS h0 h' y T n → R.1 = 0 → RepB h' y R.2.2 → Q h') : ∀ m p D h, n < p + m → MS h0 h y T n → TokM h (tk (bt T n) p) → RunS T n 0 D p R → RepM h y D (D 0 0) (D 0 1) 99 → (D 0 0 = 0 → ¬ (isK 8 (tk (bt T n) p).1 (tk (bt T n) p).2.1 ∨ isK 12 (tk (bt T n) p).1 (tk (bt T n) p).2.1)) → ((tk (bt T n) p).1 = 0 → D 0 0 = 0) → L_X12_reads_184 l g h 103 y 1 Q X := by
  have hyu : y = 105 ∨ y = 154 ∨ y = 174 := hy
  intro mm
  induction mm with
  | zero => intro p D h hm _ _ run; exact absurd run.1 (by omega)
  | succ mm ih =>
    intro p D h hm m tm run rm hk0 hke
    have hT := fun k hk => (m.2.2.1.2 k hk).1
    have ok := tk_ok hT hn run.1
    obtain ⟨_, _, _, ok4, ok5, okw, ok2⟩ := ok
    have gg := run.2.1.1
    obtain ⟨⟨n1, n2, n3⟩, gv, gw, gh, gc, gd, go⟩ := gg
    refine s_X12_reads_184 ⟨fun u => absurd u (by decide), fun _ => ⟨is_103, m_isWord 13 (by omega) tm okw (fun k => ⟨fun _ => ⟨isB_x hy, ?_⟩, fun u => absurd u (by decide)⟩) (fun k13 => ⟨fun u => absurd rfl u, fun _ => ?_⟩)⟩⟩
    · have k1 := k.1
      rw [rm.1.1]
      refine ⟨fun z => ?_, fun z => ?_⟩
      · have l8 : D 0 0 < 8 := by
          have : D 0 0 ≠ 8 := fun u => z (by rw [u]; rfl)
          omega
        have r1 := run_ok (b := 4) (E := D) hT hn run (by rw [stp_0, if_pos k, if_pos l8]) (by omega)
        refine m_next hy hn run.1 m tm (by omega) (fun h79 m79 f79 tm79 => ?_)
        have rm79 := rm.nx hy f79
        generalize ep1 : (tk (bt T n) p).2.2.2 = p1 at *
        have ok1 := tk_ok hT hn r1.1.1
        refine ⟨fun kk => ?_, fun kk => ?_⟩
        · have t1 : (tk (bt T n) p1).1 = 1 := srt_2.1 ((tm_k (c := 2) tm79 (by omega)).1 kk)
          have w1 := ok1.2.2.2.2.2.1 t1
          have efw : findN (fun i => 0 ≤ i ∧ D 1 i = (tk (bt T n) p1).2.1) (D 0 0) = fW D (tk (bt T n) p1).2.1 := findN_congr (fun i _ => ⟨fun z => z.2, fun z => ⟨Nat.zero_le i, z⟩⟩)
          rw [rfB_3 m79.1 hy, tm79.2.2.2.2.1 t1, rm79.1.1]
          refine ⟨isB_1 hy, m_find (lo := 0) (N := D 1) (isB_1 hy) (by rw [szB_1 hy]; omega) (by omega) (by omega) (fun i hi => ⟨(rm79.2.1 i hi).1, (gw i hi).1⟩) w1 (fun u => ?_) (fun u => ?_)⟩
          · rw [efw] at u ⊢
            refine ⟨fun z => absurd z (i_ne (by omega)), fun _ => m_stop (c := 3) hy m79 tm79 xq (by omega) (run_bad r1.1 (b := 0) (E := D) ?_ (by omega) (Or.inl (by omega)))⟩
            rw [stp_4, if_neg (fun z => z t1), if_pos u]
          · rw [efw] at u
            have r2 := run_ok (b := 5) (E := addWin D (tk (bt T n) p1).2.1) hT hn r1.1 (by rw [stp_4, if_neg (fun z => z t1), if_neg u]) (by omega)
            refine ⟨fun _ => ?_, fun z => absurd rfl z⟩
            rw [rfB_3 m79.1 hy, tm79.2.2.2.2.1 t1, rm79.1.1, i_cl (by omega)]
            refine ⟨isB_1 hy, vi_ok (by omega) (by rw [szB_1 hy]; omega), ?_⟩
            intro h88 e88
            have m88 : MS h0 h88 y T n := by rw [e88]; exact m79.L hy (by unfold PMe; omega)
            have tm88 : TokM h88 (tk (bt T n) p1) := by rw [e88]; exact tm79.L (by omega)
            refine m_next hy hn r1.1.1 m88 tm88 (by omega) (fun h91 m91 f91 tm91 => ?_)
            refine m_need (b := 6) (E := addWin D (tk (bt T n) p1).2.1) 123 (by omega) (by omega) hy hn m91 tm91 r2.1 (by omega) xq (fun k => by rw [stp_5, if_pos k]) (fun k => by rw [stp_5, if_neg k]) (fun h93 m93 f93 tm93 r3 lt3 => ?_)
            have f93' : Fr (fun c i => ((c = y + 1 ∨ c = y + 5 ∨ c = y + 7) ∧ i = D 0 0) ∨ PNx c i) h79 h93 := by
              refine Fr.trans (Fr.trans (h1 := h88) ?_ (f91.mono (fun c i z => Or.inr z))) (f93.mono (fun c i z => Or.inr z))
              rw [e88]
              exact (Fr.refl _ _).setL (Or.inl ⟨Or.inl rfl, rfl⟩)
            have c93 : h93.1 y 0 = Int32.ofNat (D 0 0) := by rw [(f93' y 0 (fun q => by unfold PNx at q; omega)).1]; exact rm79.1.1
            have rmw : RepM (ax_setI (ax_setI h93 (y + 5) (D 0 0) 0) (y + 7) (D 0 0) 0) y (addWin D (tk (bt T n) p1).2.1) (D 0 0) (D 0 1) 99 := by
              refine rm79.win hy ⟨n1, n2, n3⟩ gd l8 ((f93'.setI (Or.inl ⟨Or.inr (Or.inl rfl), rfl⟩)).setI (Or.inl ⟨Or.inr (Or.inr rfl), rfl⟩)) ?_ ?_ ?_
              · show h93.2.1 (y + 1) (D 0 0) = _
                rw [(f93 _ _ (fun q => by unfold PNx at q; omega)).2.1, (f91 _ _ (fun q => by unfold PNx at q; omega)).2.1, e88, gL_s]
              · rw [gI_c (by omega), gI_s]
              · rw [gI_s]
            have E00 : addWin D (tk (bt T n) p1).2.1 0 0 = D 0 0 + 1 := by unfold addWin; exact up_s _ _ _ _
            have E01 : addWin D (tk (bt T n) p1).2.1 0 1 = D 0 1 := by unfold addWin; simp (disch := first | assumption | omega) only [up_t, up_n]
            have E8 : addWin D (tk (bt T n) p1).2.1 8 (D 0 0) = 0 := by unfold addWin; simp (disch := first | assumption | omega) only [up_t, up_s]
            have E18 : addWin D (tk (bt T n) p1).2.1 18 (D 0 0) = D 0 1 := by unfold addWin; simp (disch := first | assumption | omega) only [up_t, up_s]
            rw [c93]
            generalize addWin D (tk (bt T n) p1).2.1 = E at *
            refine m_readWindow hy hn l8 xq m93 tm93 r3 (by rw [E01]; exact rmw) E00 E8 (by rw [E18, E01]) (fun h95 D' p4 m95 tm95 r4 S6 lt4 rm95 ew => ?_)
            refine m_need (b := 0) (E := D') 125 (by omega) (by omega) hy hn m95 tm95 r4 (by omega) xq (fun k => by rw [stp_6, if_pos k]) S6 (fun h97 m97 f97 tm97 r5 lt5 => ?_)
            have rm97 := rm95.nx hy f97
            rw [rm97.1.1, show (1 : Int32) = Int32.ofNat 1 from rfl, i_add]
            intro h98 e98
            have m98 : MS h0 h98 y T n := by rw [e98]; exact m97.I hy (by unfold PMe; omega)
            have tm98 : TokM h98 (tk (bt T n) (tk (bt T n) p4).2.2.2) := by rw [e98]; exact tm97.I (by omega)
            have f98 : Fr (fun c i => c = y ∧ i = 0) h97 h98 := by rw [e98]; exact (Fr.refl _ _).setI ⟨rfl, rfl⟩
            have rm98 : RepM h98 y D' (D' 0 0) (D' 0 1) 99 := by
              obtain ⟨⟨c1, c2, c3⟩, bw, bv, bb, bd⟩ := rm97
              have fj : ∀ j p, 1 ≤ j → h98.1 (y + j) p = h97.1 (y + j) p ∧ h98.2.1 (y + j) p = h97.2.1 (y + j) p := fun j p hj => by
                have z := f98 (y + j) p (by omega)
                exact ⟨z.1, z.2.1⟩
              refine ⟨⟨?_, ?_, ?_⟩, bw.c rfl rfl rfl rfl rfl (fun j p hj => fj j p (by omega)), bv.c rfl rfl rfl rfl (fun j p hj => fj j p (by omega)), bb.c rfl rfl rfl rfl rfl rfl rfl (fun j p hj => fj j p (by omega)), bd.c (fun k a b => ⟨a, b⟩) rfl rfl rfl rfl rfl rfl (fun j p hj => fj j p (by omega))⟩
              · rw [e98, gI_s, ew]
              · rw [(f98 y 1 (by omega)).1]; exact c2
              · rw [(f98 y 2 (by omega)).1]; exact c3
            refine ⟨fun z => ?_, fun z => ?_⟩
            · have k0 : (tk (bt T n) (tk (bt T n) p4).2.2.2).1 = 0 := srt_1.1 ((tm_k (c := 1) tm98 (by omega)).1 z)
              refine s_X12_reads_184 ⟨fun _ => ?_, fun u => absurd rfl u⟩
              exact m_fin hy hn xq hq m98 r5 k0 (by omega) rm98
            · have k0 : (tk (bt T n) (tk (bt T n) p4).2.2.2).1 ≠ 0 := fun u => z ((tm_k (c := 1) tm98 (by omega)).2 (srt_1.2 u))
              exact ih _ D' h98 (by omega) m98 tm98 r5 rm98 (fun u => absurd u (by omega)) (fun u => absurd u k0)
        · have t1 : (tk (bt T n) p1).1 ≠ 1 := fun u => kk ((tm_k (c := 2) tm79 (by omega)).2 (srt_2.2 u))
          exact m_stop (c := 1) hy m79 tm79 xq (by omega) (run_bad r1.1 (b := 0) (E := D) (by rw [stp_4, if_pos t1]) (by omega) (Or.inl (by omega)))
      · have l8 : D 0 0 = 8 := (i_eq (b := 8) (by omega) (by omega)).1 z
        exact m_stop (c := 5) hy m tm xq (by omega) (run_bad run (b := 0) (E := D) (by rw [stp_0, if_pos k, if_neg (by omega)]) (by omega) (Or.inr (by omega)))
    · refine m_stop (c := 1) hy m tm xq (by omega) ?_
      by_cases z : (tk (bt T n) p).1 = 0
      · obtain ⟨hp, wf, f, er⟩ := run
        cases f with
        | zero => exact absurd er (fun z => by unfold runP at z; cases z)
        | succ f =>
          rw [runP_s, if_pos z, if_neg (fun u => by have := hke z; omega)] at er
          have er := Option.some.inj er
          rw [← er]
          exact ⟨rfl, rfl⟩
      · refine run_bad run (b := 0) (E := D) ?_ (by omega) (Or.inr z)
        rw [stp_0, if_neg k13, if_pos]
        rcases Nat.eq_zero_or_pos (D 0 0) with u | u
        · exact Or.inr (hk0 u)
        · exact Or.inl u
theorem m_vars {l : Launch} {g : AG} {h0 : AH} {y : Nat} {T : Nat → Nat} {n : Nat} {R : Nat × Nat × AD} {Q X : AH → Prop} (hy : isB y) (hn : n ≤ 800) (xq : XQ h0 y R X) (hq : ∀ h', MS h0 h' y T n → R.1 = 0 → RepB h' y R.2.2 → Q h') : ∀ m p D h, n < p + m → MS h0 h y T n → TokM h (tk (bt T n) p) → RunS T n 0 D p R → RepM h y D (D 0 0) (D 0 1) 99 → D 0 0 = 0 → L_X12_reads_24 l g h 103 y Q X := by
  have hyu : y = 105 ∨ y = 154 ∨ y = 174 := hy
  intro mm
  induction mm with
  | zero => intro p D h hm _ _ run; exact absurd run.1 (by omega)
  | succ mm ih =>
    intro p D h hm m tm run rm d0
    have hT := fun k hk => (m.2.2.1.2 k hk).1
    have ok := tk_ok hT hn run.1
    obtain ⟨_, _, _, ok4, ok5, okw, ok2⟩ := ok
    have gg := run.2.1.1
    obtain ⟨⟨n1, n2, n3⟩, gv, gw, gh, gc, gd, go⟩ := gg
    have L42 : isK 8 (tk (bt T n) p).1 (tk (bt T n) p).2.1 ∨ isK 12 (tk (bt T n) p).1 (tk (bt T n) p).2.1 → L_X12_reads_42 l g h 103 y Q X := by
      intro kk
      have k1 : (tk (bt T n) p).1 = 1 := by
        rcases kk with u | u
        · exact u.1
        · exact u.1
      have n13 : ¬ isK 13 (tk (bt T n) p).1 (tk (bt T n) p).2.1 := by
        intro u
        rcases kk with v | v
        · exact kc_ne.2.2.2.1 (by rw [← v.2, u.2])
        · exact kc_ne.2.2.2.2.1 (by rw [← v.2, u.2])
      have S0 : stp 0 D (tk (bt T n) p).1 (tk (bt T n) p).2.1 (tk (bt T n) p).2.2.1 = if D 0 2 < 6 then (0, 1, up D 30 2 (if isK 8 (tk (bt T n) p).1 (tk (bt T n) p).2.1 then 1 else 0)) else (5, 0, D) := by
        rw [stp_0, if_neg n13, if_neg]
        intro u
        rcases u with u | u
        · omega
        · exact u kk
      refine s_X12_reads_42 ⟨is_103, m_isWord_r 8 (by omega) tm okw (fun kp kle ekp => ⟨isB_x hy, ?_⟩)⟩
      rw [ekp] at S0
      rw [rm.1.2.2]
      refine ⟨fun z => ?_, fun z => ?_⟩
      · have l6 : D 0 2 < 6 := by
          have : D 0 2 ≠ 6 := fun u => z (by rw [u]; rfl)
          omega
        have r1 := run_ok (b := 1) (E := up D 30 2 kp) hT hn run (by rw [S0, if_pos l6]) (by omega)
        refine m_next hy hn run.1 m tm (by omega) (fun h30 m30 f30 tm30 => ?_)
        have rm30 : RepM h30 y (up D 30 2 kp) (D 0 0) (D 0 1) 99 := (rm.nx hy f30).reg (fun t ht => up_t (by omega))
        have ed : ∀ t, t ≠ 30 → up D 30 2 kp t = D t := fun t ht => up_t ht
        have ek : up D 30 2 kp 30 2 = kp := up_s _ _ _ _
        generalize ep1 : (tk (bt T n) p).2.2.2 = p1 at *
        generalize up D 30 2 kp = D1 at *
        have e02 : D1 0 2 = D 0 2 := by rw [ed 0 (by omega)]
        have gg1 := r1.1.2.1.1
        have ok1 := tk_ok hT hn r1.1.1
        refine ⟨fun k => ?_, fun k => ?_⟩
        · have t1 : (tk (bt T n) p1).1 = 1 := srt_2.1 ((tm_k (c := 2) tm30 (by omega)).1 k)
          have w1 := ok1.2.2.2.2.2.1 t1
          have efv : findN (fun i => 0 ≤ i ∧ D1 3 i = (tk (bt T n) p1).2.1) (D1 0 2) = fV D1 (tk (bt T n) p1).2.1 := findN_congr (fun i _ => ⟨fun z => z.2, fun z => ⟨Nat.zero_le i, z⟩⟩)
          rw [rfB_5 m30.1 hy, tm30.2.2.2.2.1 t1, rm30.1.2.2]
          refine ⟨isB_3 hy, m_find (lo := 0) (N := D1 3) (isB_3 hy) (by rw [szB_3 hy]; omega) (by omega) (by omega) (fun i hi => ⟨(rm30.2.2.1 i hi).1, (gg1.2.1 i hi).1⟩) w1 (fun u => ?_) (fun u => ?_)⟩
          · rw [efv] at u ⊢
            refine ⟨fun z => absurd z (i_ne (by omega)), fun _ => m_stop (c := 3) hy m30 tm30 xq (by omega) (run_bad r1.1 (b := 0) (E := D1) ?_ (by omega) (Or.inl (by omega)))⟩
            rw [stp_1, if_neg (fun z => z t1), if_pos u]
          · rw [efv] at u
            have r2 := run_ok (b := 2) (E := up D1 30 1 (tk (bt T n) p1).2.1) hT hn r1.1 (by rw [stp_1, if_neg (fun z => z t1), if_neg u]) (by omega)
            refine ⟨fun _ => ?_, fun z => absurd rfl z⟩
            rw [rfB_5 m30.1 hy, tm30.2.2.2.2.1 t1, rm30.1.2.2, i_cl (by omega)]
            refine ⟨isB_3 hy, vi_ok (by omega) (by rw [szB_3 hy]; omega), ?_⟩
            intro h39 e39
            have m39 : MS h0 h39 y T n := by rw [e39]; exact m30.L hy (by unfold PMe; omega)
            have tm39 : TokM h39 (tk (bt T n) p1) := by rw [e39]; exact tm30.L (by omega)
            have c39 : h39.1 y 2 = Int32.ofNat (D1 0 2) := by rw [e39]; exact rm30.1.2.2
            rw [rfB_10 m39.1 hy, c39, i_cl (by omega)]
            refine ⟨isB_8 hy, vi_ok (by omega) (by rw [szB_8 hy]; omega), ?_⟩
            intro h43 e43
            have m43 : MS h0 h43 y T n := by rw [e43]; exact m39.I hy (by unfold PMe; omega)
            have tm43 : TokM h43 (tk (bt T n) p1) := by rw [e43]; exact tm39.I (by omega)
            have nar : vp_nar .boolean (Int32.ofNat kp) = Int32.ofNat kp := by
              have : kp = 0 ∨ kp = 1 := by omega
              rcases this with v | v <;> rw [v] <;> rfl
            rw [nar] at e43
            refine m_next hy hn r1.1.1 m43 tm43 (by omega) (fun h46 m46 f46 tm46 => ?_)
            have c46 : h46.1 y 2 = Int32.ofNat (D1 0 2) := by rw [(f46 y 2 (fun q => by unfold PNx at q; omega)).1, e43, gI_c (by omega)]; exact c39
            generalize ep2 : (tk (bt T n) p1).2.2.2 = p2 at *
            rw [rfB_6 m46.1 hy, c46]
            refine ⟨isB_4 hy, ?_⟩
            have F1 : up D1 30 1 (tk (bt T n) p1).2.1 30 1 = (tk (bt T n) p1).2.1 := up_s _ _ _ _
            have F2 : up D1 30 1 (tk (bt T n) p1).2.1 30 2 = kp := by rw [up_n (by omega)]; exact ek
            refine m_needNumber (lo := 1) (hi := 9) (b := 3) (E := addVar (up D1 30 1 (tk (bt T n) p1).2.1) (tk (bt T n) p1).2.1 (tk (bt T n) p2).2.1 kp) (by omega) (by omega) hy hn m46 tm46 r2.1 (by omega) xq (fun k => by rw [stp_2, if_pos k]) (fun k c => by rw [stp_2, if_neg (fun z => z k), if_pos c]) (fun k c1 c2 => by rw [stp_2, if_neg (fun z => z k), if_neg (by omega), F1, F2]) (fun k c1 c2 h49 m49 f49 tm49 r3 lt3 => ?_)
            rw [i_cl (by omega)]
            refine ⟨vi_ok (by omega) (by rw [szB_4 hy]; omega), ?_⟩
            intro h52 e52
            have m52 : MS h0 h52 y T n := by rw [e52]; exact m49.I hy (by unfold PMe; omega)
            have tm52 : TokM h52 (tk (bt T n) (tk (bt T n) p2).2.2.2) := by rw [e52]; exact tm49.I (by omega)
            refine m_need (b := 0) (E := addVar (up D1 30 1 (tk (bt T n) p1).2.1) (tk (bt T n) p1).2.1 (tk (bt T n) p2).2.1 kp) 59 (by omega) (by omega) hy hn m52 tm52 r3 (by omega) xq (fun k => by rw [stp_3, if_pos k]) (fun k => by rw [stp_3, if_neg k]) (fun h55 m55 f55 tm55 r4 lt4 => ?_)
            have c55 : h55.1 y 2 = Int32.ofNat (D1 0 2) := by rw [(f55 y 2 (fun q => by unfold PNx at q; omega)).1, e52, gI_c (by omega), (f49 y 2 (fun q => by unfold PNx at q; omega)).1]; exact c46
            rw [c55, show (1 : Int32) = Int32.ofNat 1 from rfl, i_add]
            intro h56 e56
            have f55' : Fr (fun c i => ((c = y + 3 ∨ c = y + 4 ∨ c = y + 8) ∧ i = D1 0 2) ∨ (c = y ∧ i = 2) ∨ PNx c i) h30 h55 := by
              refine Fr.trans ?_ (f55.mono (fun c i z => Or.inr (Or.inr z)))
              rw [e52]
              refine Fr.setI ?_ (Or.inl ⟨Or.inr (Or.inl rfl), rfl⟩)
              refine Fr.trans ?_ (f49.mono (fun c i z => Or.inr (Or.inr z)))
              refine Fr.trans ?_ (f46.mono (fun c i z => Or.inr (Or.inr z)))
              rw [e43, e39]
              exact ((Fr.refl _ _).setL (Or.inl ⟨Or.inl rfl, rfl⟩)).setI (Or.inl ⟨Or.inr (Or.inr rfl), rfl⟩)
            have rm56 := rm30.var (h1 := h56) (nm := (tk (bt T n) p1).2.1) (mx := (tk (bt T n) p2).2.1) (kp := kp) (E0 := up D1 30 1 (tk (bt T n) p1).2.1) hy (fun t ht => up_t ht) (by rw [e56]; exact f55'.setI (Or.inr (Or.inl ⟨rfl, rfl⟩))) (by
              rw [e56]
              show h55.2.1 (y + 3) (D1 0 2) = _
              rw [(f55 _ _ (fun q => by unfold PNx at q; omega)).2.1, e52]
              show h49.2.1 (y + 3) (D1 0 2) = _
              rw [(f49 _ _ (fun q => by unfold PNx at q; omega)).2.1, (f46 _ _ (fun q => by unfold PNx at q; omega)).2.1, e43]
              show h39.2.1 (y + 3) (D1 0 2) = _
              rw [e39, gL_s]) (by
              rw [e56, gI_c (by omega), (f55 _ _ (fun q => by unfold PNx at q; omega)).1, e52, gI_s]) (by
              rw [e56, gI_c (by omega), (f55 _ _ (fun q => by unfold PNx at q; omega)).1, e52, gI_c (by omega), (f49 _ _ (fun q => by unfold PNx at q; omega)).1, (f46 _ _ (fun q => by unfold PNx at q; omega)).1, e43, gI_s]) (by
              rw [e56, gI_s])
            have E00 : addVar (up D1 30 1 (tk (bt T n) p1).2.1) (tk (bt T n) p1).2.1 (tk (bt T n) p2).2.1 kp 0 0 = D 0 0 := by
              unfold addVar; simp (disch := first | assumption | omega) only [up_t, up_n]; rw [ed 0 (by omega)]
            have E01 : addVar (up D1 30 1 (tk (bt T n) p1).2.1) (tk (bt T n) p1).2.1 (tk (bt T n) p2).2.1 kp 0 1 = D 0 1 := by
              unfold addVar; simp (disch := first | assumption | omega) only [up_t, up_n]; rw [ed 0 (by omega)]
            generalize addVar (up D1 30 1 (tk (bt T n) p1).2.1) (tk (bt T n) p1).2.1 (tk (bt T n) p2).2.1 kp = E at *
            exact ih _ E h56 (by omega) (by rw [e56]; exact m55.I hy (by unfold PMe; omega)) (by rw [e56]; exact tm55.I (by omega)) r4 (by rw [E00, E01]; exact rm56) (by rw [E00]; exact d0)
        · have t1 : (tk (bt T n) p1).1 ≠ 1 := fun u => k ((tm_k (c := 2) tm30 (by omega)).2 (srt_2.2 u))
          exact m_stop (c := 1) hy m30 tm30 xq (by omega) (run_bad r1.1 (b := 0) (E := D1) (by rw [stp_1, if_pos t1]) (by omega) (Or.inl (by omega)))
      · have l6 : D 0 2 = 6 := (i_eq (b := 6) (by omega) (by omega)).1 z
        exact m_stop (c := 5) hy m tm xq (by omega) (run_bad run (b := 0) (E := D) (by rw [S0, if_neg (by omega)]) (by omega) (Or.inr (by omega)))
    refine s_X12_reads_24 ⟨is_103, m_isWord 12 (by omega) tm okw (fun k => ⟨fun _ => L42 (Or.inr k), fun u => absurd u (by decide)⟩) (fun k12 => ⟨fun u => absurd rfl u, fun _ => ?_⟩)⟩
    refine m_isWord 8 (by omega) tm okw (fun k => ⟨fun u => absurd u (by decide), fun _ => L42 (Or.inl k)⟩) (fun k8 => ⟨fun _ => ?_, fun u => absurd rfl u⟩)
    exact m_wins hy hn xq hq (n + 1) p D h (by omega) m tm run rm (fun _ u => by
      rcases u with u | u
      · exact k8 u
      · exact k12 u) (fun _ => d0)
theorem m_reads {l : Launch} {g : AG} {h : AH} {y : Nat} {T : Nat → Nat} {n : Nat} {R : Nat × Nat × AD} {Q X : AH → Prop} (hy : isB y) (hn : n ≤ 800) (hr : Refs h) (h5 : h.2.2 103 5 = y) (te : TapM h T n) (a13 : h.1 103 13 = Int32.ofNat 0) (er : runP (bt T n) 801 0 (fun _ _ => 0) 0 = some R) (xq : XQ h y R X) (hq : ∀ h', Refs h' → Fr (PMe y) h h' → R.1 = 0 → RepB h' y R.2.2 → Q h') : C_X12_reads l g h 103 Q X := by
  have hyu : y = 105 ∨ y = 154 ∨ y = 174 := hy
  have m : MS h h y T n := ⟨hr, h5, te, Fr.refl _ _⟩
  refine c_X12_reads (s_X12_reads_0 ?_)
  rw [h5]
  refine ⟨is_103, isB_x hy, ?_⟩
  intro v3 e3
  rw [e3]
  intro h6 e6 h8 e8 h10 e10
  have m10 : MS h h10 y T n := by rw [e10, e8, e6]; exact ((m.I hy (by unfold PMe; omega)).I hy (by unfold PMe; omega)).I hy (by unfold PMe; omega)
  have a10 : h10.1 103 13 = Int32.ofNat 0 := by rw [e10, gI_c (by omega), e8, gI_c (by omega), e6, gI_c (by omega)]; exact a13
  refine k_next m10.1 hn (by omega) m10.2.2.1 a10 (fun h13 r13 f13 tm13 => ?_)
  have m13 : MS h h13 y T n := m10.step hy (f13.mono (fun c p q => by show PMe y c p; unfold PNx at q; unfold PMe; omega)) r13
  have c0 : h13.1 y 0 = 0 ∧ h13.1 y 1 = 0 ∧ h13.1 y 2 = 0 := by
    refine ⟨?_, ?_, ?_⟩
    · rw [(f13 y 0 (fun q => by unfold PNx at q; omega)).1, e10, gI_p (by omega), e8, gI_p (by omega), e6, gI_s]
    · rw [(f13 y 1 (fun q => by unfold PNx at q; omega)).1, e10, gI_p (by omega), e8, gI_s]
    · rw [(f13 y 2 (fun q => by unfold PNx at q; omega)).1, e10, gI_s]
  have nl : ∀ (v : Nat) {C : Prop}, v < 0 → C := fun v C h => absurd h (Nat.not_lt_zero v)
  have rm13 : RepM h13 y (fun _ _ => 0) 0 0 99 := by
    refine ⟨⟨c0.1, c0.2.1, c0.2.2⟩, fun w hw => nl w hw, fun w hw => nl w hw, fun w hw => nl w hw, fun k hk => ?_⟩
    rcases hk with u | ⟨w, u, _⟩
    · exact nl _ u
    · exact nl _ u
  exact m_vars hy hn xq (fun h' m' e r => hq h' m'.1 m'.2.2.2 e r) (n + 1) 0 (fun _ _ => 0) h13 (by omega) m13 tm13 ⟨by omega, wfp_0 0, 801, er⟩ rm13 rfl
