/-- a BUTTON's part behind its name: what is known -/
def BtS (E : AD) (w nb x3 : Nat) : Prop := E 0 0 = w + 1 ∧ E 0 1 = nb + 1 ∧ E 30 6 = nb ∧ E 14 nb = 0 ∧ E 8 w = 0 ∧ E 18 w = x3 ∧ x3 ≤ nb
theorem m_win101 {l : Launch} {g : AG} {h0 : AH} {y w x3 p0 : Nat} {T : Nat → Nat} {n : Nat} {R : Nat × Nat × AD} {Q X : AH → Prop} (hy : isB y) (hn : n ≤ 800) (hw8 : w < 8) (xq : XQ h0 y R X) (hq : ∀ h' D' p', MS h0 h' y T n → TokM h' (tk (bt T n) p') → RunS T n 6 D' p' R → ((tk (bt T n) p').1 ≠ 125 → stp 6 D' (tk (bt T n) p').1 (tk (bt T n) p').2.1 (tk (bt T n) p').2.2.1 = (1, 0, D')) → p0 ≤ p' → RepM h' y D' w (D' 0 1) 99 → D' 0 0 = w + 1 → Q h') : ∀ m,
    (∀ p D h, n < p + m → p0 ≤ p → MS h0 h y T n → TokM h (tk (bt T n) p) → RunS T n 6 D p R → RepM h y D w (D 0 1) 99 → D 0 0 = w + 1 → D 8 w = 0 → D 18 w = x3 → (isK 11 (tk (bt T n) p).1 (tk (bt T n) p).2.1 → D 18 w < D 19 w) → L_X12_readWindow_101 l g h 103 (Int32.ofNat w) y (Int32.ofNat x3) Q X) ∧
    (∀ p a E nb h r, n < p + m → p0 ≤ p → MS h0 h y T n → TokM h (tk (bt T n) p) → (a = 10 ∨ a = 14) → RunS T n a E p R → RepM h y E w nb nb → BtS E w nb x3 → ((r = 0 ∧ ¬ isK (if a = 10 then 7 else 2) (tk (bt T n) p).1 (tk (bt T n) p).2.1) ∨ (r = 1 ∧ isK (if a = 10 then 7 else 2) (tk (bt T n) p).1 (tk (bt T n) p).2.1)) → L_X12_readWindow_226 l g h 103 (Int32.ofNat w) y (Int32.ofNat x3) (Int32.ofNat nb) r Q X) := by
  have hyu : y = 105 ∨ y = 154 ∨ y = 174 := hy
  intro mm
  induction mm with
  | zero => exact ⟨fun p D h hm _ _ _ run => absurd run.1 (by omega), fun p a E nb h r hm _ _ _ _ run => absurd run.1 (by omega)⟩
  | succ mm ih =>
    obtain ⟨ih1, ih2⟩ := ih
    refine ⟨?_, ?_⟩
    · intro p D h hm hp0 m tm run rm ew e8 e18 hsh
      have hT := fun k hk => (m.2.2.1.2 k hk).1
      have ok := tk_ok hT hn run.1
      obtain ⟨_, _, _, ok4, ok5, okw, ok2⟩ := ok
      have gg := run.2.1.1
      obtain ⟨⟨n1, n2, n3⟩, gv, gw, gh, gc, gd, go⟩ := gg
      have elast : D 0 0 - 1 = w := by omega
      have e19 : D 19 w = D 0 1 := by have := gh.2.1 (by omega); rw [elast] at this; exact this
      have l18 := (gw w (by omega)).2.2.2.2.1
      refine s_X12_readWindow_101 ⟨is_103, m_isWord 3 (by omega) tm okw (fun k => ⟨fun u => absurd u (by decide), fun _ => ⟨isB_x hy, ?_⟩⟩) (fun k3 => ⟨fun _ => ?_, fun u => absurd rfl u⟩)⟩
      · -- button
        have k1 := k.1
        have nk1 : ¬ isK 1 (tk (bt T n) p).1 (tk (bt T n) p).2.1 := fun u => kc_ne.2.2.1 (by rw [← k.2, u.2])
        have S6 : ∀ c, c = (if D 0 1 < 24 then ((0 : Nat), (9 : Nat), D) else (5, 0, D)) → stp 6 D (tk (bt T n) p).1 (tk (bt T n) p).2.1 (tk (bt T n) p).2.2.1 = c := fun c hc => by
          rw [stp_6, if_neg (by omega), elast, e8, if_neg (by omega), if_neg nk1, if_pos k, hc]
        rw [rm.1.2.1]
        refine ⟨fun z => ?_, fun z => ?_⟩
        · have b24 : D 0 1 < 24 := by
            have : D 0 1 ≠ 24 := fun u => z (by rw [u]; rfl)
            omega
          intro v79 e79
          rw [e79]
          have r1 := run_ok (b := 9) (E := D) hT hn run (by rw [S6 _ rfl, if_pos b24]) (by omega)
          refine m_next hy hn run.1 m tm (by omega) (fun h82 m82 f82 tm82 => ?_)
          have rm82 := rm.nx hy f82
          generalize ep1 : (tk (bt T n) p).2.2.2 = p1 at *
          have ok1 := tk_ok hT hn r1.1.1
          refine ⟨fun k => ?_, fun k => ?_⟩
          · have t1 : (tk (bt T n) p1).1 = 1 := srt_2.1 ((tm_k (c := 2) tm82 (by omega)).1 k)
            have w1 := ok1.2.2.2.2.2.1 t1
            have efb : findN (fun i => x3 ≤ i ∧ D 2 i = (tk (bt T n) p1).2.1) (D 0 1) = fB D (tk (bt T n) p1).2.1 := by
              unfold fB
              rw [elast, e18, e19]
            rw [rfB_4 m82.1 hy, tm82.2.2.2.2.1 t1]
            refine ⟨isB_2 hy, m_find (N := D 2) (isB_2 hy) (by rw [szB_2 hy]; omega) (by omega) (by omega) (fun i hi => ⟨(rm82.2.2.2.1 i hi).1, (gh.2.2.1 i hi).1⟩) w1 (fun u => ?_) (fun u => ?_)⟩
            · rw [efb] at u ⊢
              refine ⟨fun z => absurd z (i_ne (by omega)), fun _ => m_stop (c := 3) hy m82 tm82 xq (by omega) (run_bad r1.1 (b := 0) (E := D) ?_ (by omega) (Or.inl (by omega)))⟩
              rw [stp_9, if_neg (fun z => z t1), elast, e19, if_pos u]
            · rw [efb] at u
              have r2 := run_ok (b := 10) (E := addBut (up D 30 6 (D 0 1)) (tk (bt T n) p1).2.1) hT hn r1.1 (by rw [stp_9, if_neg (fun z => z t1), elast, e19, if_neg u]) (by omega)
              refine ⟨fun _ => ?_, fun z => absurd rfl z⟩
              rw [rfB_4 m82.1 hy, tm82.2.2.2.2.1 t1, i_cl (by omega)]
              refine ⟨isB_2 hy, vi_ok (by omega) (by rw [szB_2 hy]; omega), ?_⟩
              intro h91 e91
              have m91 : MS h0 h91 y T n := by rw [e91]; exact m82.L hy (by unfold PMe; omega)
              have tm91 : TokM h91 (tk (bt T n) p1) := by rw [e91]; exact tm82.L (by omega)
              rw [rfB_17 m91.1 hy]
              refine ⟨isB_15 hy, vi_ok (by omega) (by rw [szB_15 hy]; omega), ?_⟩
              intro h95 e95
              have m95 : MS h0 h95 y T n := by rw [e95]; exact m91.I hy (by unfold PMe; omega)
              have tm95 : TokM h95 (tk (bt T n) p1) := by rw [e95]; exact tm91.I (by omega)
              rw [rfB_18 m95.1 hy]
              refine ⟨isB_16 hy, vi_ok (by omega) (by rw [szB_16 hy]; omega), ?_⟩
              intro h99 e99
              have m99 : MS h0 h99 y T n := by rw [e99]; exact m95.I hy (by unfold PMe; omega)
              have tm99 : TokM h99 (tk (bt T n) p1) := by rw [e99]; exact tm95.I (by omega)
              have f99 : Fr (fun c i => ((c = y + 2 ∨ c = y + 15 ∨ c = y + 16) ∧ i = D 0 1) ∨ PNx c i) h82 h99 := by
                rw [e99, e95, e91]
                exact (((Fr.refl _ _).setL (Or.inl ⟨Or.inl rfl, rfl⟩)).setI (Or.inl ⟨Or.inr (Or.inl rfl), rfl⟩)).setI (Or.inl ⟨Or.inr (Or.inr rfl), rfl⟩)
              refine m_next hy hn r1.1.1 m99 tm99 (by omega) (fun h102 m102 f102 tm102 => ?_)
              have f102' : Fr (fun c i => ((c = y + 2 ∨ c = y + 15 ∨ c = y + 16) ∧ i = D 0 1) ∨ PNx c i) h82 h102 := f99.trans (f102.mono (fun c i z => Or.inr z))
              have rm102 := rm82.but (v := (tk (bt T n) p1).2.1) hy ew ⟨n1, n2, n3⟩ gd b24 f102' (by
                rw [(f102 _ _ (fun q => by unfold PNx at q; omega)).2.1, e99, e95]
                show h91.2.1 (y + 2) (D 0 1) = _
                rw [e91, gL_s]) (by
                rw [(f102 _ _ (fun q => by unfold PNx at q; omega)).1, e99, gI_c (by omega), e95, gI_s]) (by
                rw [(f102 _ _ (fun q => by unfold PNx at q; omega)).1, e99, gI_s]; rfl)
              have bs : BtS (addBut (up D 30 6 (D 0 1)) (tk (bt T n) p1).2.1) w (D 0 1) x3 := by
                unfold BtS addBut
                simp (disch := first | assumption | omega) only [up_t, up_s, up_n]
                exact ⟨ew, trivial, trivial, trivial, e8, e18, by omega⟩
              have ok2 := tk_ok hT hn r2.1.1
              refine m_isWord 7 (by omega) tm102 ok2.2.2.2.2.2.1 (fun kk => ?_) (fun kk => ?_)
              · exact ih2 _ 10 _ (D 0 1) h102 1 (by omega) (by omega) m102 tm102 (Or.inl rfl) r2.1 rm102 bs (Or.inr ⟨rfl, kk⟩)
              · exact ih2 _ 10 _ (D 0 1) h102 0 (by omega) (by omega) m102 tm102 (Or.inl rfl) r2.1 rm102 bs (Or.inl ⟨rfl, kk⟩)
          · have t1 : (tk (bt T n) p1).1 ≠ 1 := fun u => k ((tm_k (c := 2) tm82 (by omega)).2 (srt_2.2 u))
            exact m_stop (c := 1) hy m82 tm82 xq (by omega) (run_bad r1.1 (b := 0) (E := D) (by rw [stp_9, if_pos t1]) (by omega) (Or.inl (by omega)))
        · have b24 : D 0 1 = 24 := (i_eq (b := 24) (by omega) (by omega)).1 z
          exact m_stop (c := 5) hy m tm xq (by omega) (run_bad run (b := 0) (E := D) (by rw [S6 _ rfl, if_neg (by omega)]) (by omega) (Or.inl (by omega)))
      · refine m_isWord 1 (by omega) tm okw (fun k => ⟨fun _ => ?_, fun u => absurd u (by decide)⟩) (fun k1 => ⟨fun u => absurd rfl u, fun _ => ?_⟩)
        · -- after
          have kk := k.1
          have r1 := run_ok (b := 15) (E := D) hT hn run (by rw [stp_6, if_neg (by omega), elast, e8, if_neg (by omega), if_pos k]) (by omega)
          refine m_next hy hn run.1 m tm (by omega) (fun h62 m62 f62 tm62 => ?_)
          have rm62 := rm.nx hy f62
          generalize ep1 : (tk (bt T n) p).2.2.2 = p1 at *
          rw [rfB_9 m62.1 hy]
          refine ⟨isB_x hy, isB_7 hy, ?_⟩
          refine m_needNumber (lo := 1) (hi := 9) (b := 16) (E := addTim (up D 30 6 (24 + (D 0 0 - 1))) (tk (bt T n) p1).2.1) (by omega) (by omega) hy hn m62 tm62 r1.1 (by omega) xq (fun k => by rw [stp_15, if_pos k]) (fun k c => by rw [stp_15, if_neg (fun z => z k), if_pos c]) (fun k c1 c2 => by rw [stp_15, if_neg (fun z => z k), if_neg (by omega)]) (fun k c1 c2 h66 m66 f66 tm66 r2 lt2 => ?_)
          generalize (tk (bt T n) p1).2.1 = v at *
          generalize ep2 : (tk (bt T n) p1).2.2.2 = p2 at *
          rw [i_cl (by omega)]
          refine ⟨vi_ok (by omega) (by rw [szB_7 hy]; omega), ?_⟩
          intro h69 e69
          have m69 : MS h0 h69 y T n := by rw [e69]; exact m66.I hy (by unfold PMe; omega)
          have tm69 : TokM h69 (tk (bt T n) p2) := by rw [e69]; exact tm66.I (by omega)
          have rm69 := (rm62.tim (v := v) (h1 := h69) hy ew ⟨n1, n2, n3⟩ (by rw [e69]; exact (f66.mono (fun c i z => Or.inr z)).setI (Or.inl ⟨rfl, rfl⟩)) (by rw [e69, gI_s]))
          have E0 : addTim (up D 30 6 (24 + (D 0 0 - 1))) v 0 = D 0 := by unfold addTim; rw [up_t (by omega), up_t (by omega)]
          have E8 : addTim (up D 30 6 (24 + (D 0 0 - 1))) v 8 w = v := by unfold addTim; exact up_e (by rw [up_t (by omega)]; omega)
          have E6 : addTim (up D 30 6 (24 + (D 0 0 - 1))) v 30 6 = 24 + w := by unfold addTim; rw [up_t (by omega), elast, up_s]
          have E14 : addTim (up D 30 6 (24 + (D 0 0 - 1))) v 14 (24 + w) = 0 := by
            unfold addTim
            rw [up_t (by omega), up_t (by omega)]
            refine gd.2.1 _ (fun z => ?_)
            rcases z with u | ⟨w', u1, u2, u3⟩
            · omega
            · have : w' = w := by omega
              rw [this, e8] at u3
              omega
          generalize addTim (up D 30 6 (24 + (D 0 0 - 1))) v = E at *
          refine m_needWord (b := 17) (E := E) 5 (by omega) hy hn m69 tm69 r2 (by omega) xq (fun k => by rw [stp_16, if_pos k]) (fun k => by rw [stp_16, if_neg k]) (fun h72 m72 f72 tm72 r3 lt3 => ?_)
          rw [show (24 : Int32) = Int32.ofNat 24 from rfl, i_add]
          refine m_readDeeds hy hn m72 tm72 r3 (rm69.nx hy f72) E6 E14 xq (fun h74 E' p4 m74 tm74 r4 n44 lt4 rm74 et => ?_)
          refine m_need (b := 6) (E := E') 59 (by omega) (by omega) hy hn m74 tm74 r4 (by omega) xq (fun k => by rw [stp_21, if_neg n44, if_pos k]) (fun k => by rw [stp_21, if_neg n44, if_neg k]) (fun h76 m76 f76 tm76 r5 lt5 => ?_)
          have F0 : E' 0 = D 0 := by rw [et 0 (by omega), E0]
          have rm76 := rm74.nx hy f76
          have F01 : E' 0 1 = D 0 1 := by rw [F0]
          rw [← F01] at rm76
          refine hq h76 E' _ m76 tm76 r5 (fun k => ?_) (by omega) rm76 (by rw [F0]; exact ew)
          rw [stp_6, if_neg k, if_pos]
          rw [F0, elast, et 8 (by omega), E8]
          omega
        · -- neither
          refine hq h D p m tm run (fun k => ?_) hp0 rm ew
          rw [stp_6, if_neg k, elast, e8, if_neg (by omega), if_neg k1, if_neg k3, if_pos]
          by_cases c : isK 11 (tk (bt T n) p).1 (tk (bt T n) p).2.1
          · exact Or.inl (hsh c)
          · exact Or.inr c
    · intro p a E nb h r hm hp0 m tm ha run rm bs hr
      have hT := fun k hk => (m.2.2.1.2 k hk).1
      have ok := tk_ok hT hn run.1
      obtain ⟨_, _, _, ok4, ok5, okw, ok2⟩ := ok
      have gg := run.2.1.1
      obtain ⟨⟨n1, n2, n3⟩, gv, gw, gh, gc, gd, go⟩ := gg
      obtain ⟨b0, b1, b6, b14, b8, b18, b3⟩ := bs
      rcases hr with ⟨r0, nk⟩ | ⟨r0, k⟩
      · refine s_X12_readWindow_226 ⟨fun _ => ⟨is_103, ?_⟩, fun u => absurd r0 u⟩
        refine m_needWord (b := 17) (E := E) 5 (by omega) hy hn m tm run (by omega) xq (fun k => ?_) (fun k => ?_) (fun h121 m121 f121 tm121 r3 lt3 => ?_)
        · rcases ha with u | u
          · rw [u, if_pos rfl] at nk; rw [u, stp_10, if_neg nk, if_pos k]
          · rw [u, if_neg (by omega)] at nk; rw [u, stp_14, if_neg nk, if_pos k]
        · rcases ha with u | u
          · rw [u, if_pos rfl] at nk; rw [u, stp_10, if_neg nk, if_neg k]
          · rw [u, if_neg (by omega)] at nk; rw [u, stp_14, if_neg nk, if_neg k]
        · refine m_readDeeds hy hn m121 tm121 r3 (rm.nx hy f121) b6 b14 xq (fun h123 E' p4 m123 tm123 r4 n44 lt4 rm123 et => ?_)
          refine m_need (b := 6) (E := E') 59 (by omega) (by omega) hy hn m123 tm123 r4 (by omega) xq (fun k => by rw [stp_21, if_neg n44, if_pos k]) (fun k => by rw [stp_21, if_neg n44, if_neg k]) (fun h125 m125 f125 tm125 r5 lt5 => ?_)
          have rm125 := rm123.nx hy f125
          refine ⟨isB_x hy, ?_⟩
          rw [rm125.1.2.1, show (1 : Int32) = Int32.ofNat 1 from rfl, i_add]
          intro h127 e127
          have f127 : Fr (fun c i => c = y ∧ i = 1) h125 h127 := by rw [e127]; exact (Fr.refl _ _).setI ⟨rfl, rfl⟩
          have F01 : E' 0 1 = nb + 1 := by rw [et 0 (by omega)]; exact b1
          have e18' : E' 18 w = x3 := by rw [et 18 (by omega)]; exact b18
          have gg5 := r5.2.1.1
          have e19' : E' 19 w = nb + 1 := by
            have := gg5.2.2.2.1.2.1 (by rw [et 0 (by omega)]; omega)
            rw [et 0 (by omega), b0, b1, show w + 1 - 1 = w by omega] at this
            exact this
          refine ih1 _ E' h127 (by omega) (by omega) (by rw [e127]; exact m125.I hy (by unfold PMe; omega)) (by rw [e127]; exact tm125.I (by omega)) r5 ?_ (by rw [et 0 (by omega)]; exact b0) (by rw [et 8 (by omega)]; exact b8) e18' (fun _ => by omega)
          obtain ⟨⟨c1, c2, c3⟩, bw, bv, bb, bd⟩ := rm125
          have fj : ∀ j p, 1 ≤ j → h127.1 (y + j) p = h125.1 (y + j) p ∧ h127.2.1 (y + j) p = h125.2.1 (y + j) p := fun j p hj => by
            have z := f127 (y + j) p (by omega)
            exact ⟨z.1, z.2.1⟩
          refine ⟨⟨?_, ?_, ?_⟩, bw.c rfl rfl rfl rfl rfl (fun j p hj => fj j p (by omega)), bv.c rfl rfl rfl rfl (fun j p hj => fj j p (by omega)), bb.c rfl rfl rfl rfl rfl rfl rfl (fun j p hj => fj j p (by omega)), bd.c (fun k a b => ⟨a, b⟩) rfl rfl rfl rfl rfl rfl (fun j p hj => fj j p (by omega))⟩
          · rw [(f127 y 0 (by omega)).1]; exact c1
          · rw [e127, gI_s, F01]
          · rw [(f127 y 2 (by omega)).1]; exact c3
      · refine s_X12_readWindow_226 ⟨fun u => absurd (r0.symm.trans u) (by decide), fun _ => ⟨is_103, ?_⟩⟩
        have k1 := k.1
        have r1 := run_ok (b := 11) (E := E) hT hn run (by
          rcases ha with u | u
          · rw [u, if_pos rfl] at k; rw [u, stp_10, if_pos k]
          · rw [u, if_neg (by omega)] at k; rw [u, stp_14, if_pos k]) (by omega)
        refine m_next hy hn run.1 m tm (by omega) (fun h131 m131 f131 tm131 => ?_)
        refine m_readCond hy hn m131 tm131 r1.1 (rm.nx hy f131) b1 xq (fun h133 E' p2 m133 tm133 r2 lt2 rm133 et e6 => ?_)
        have ok2 := tk_ok hT hn r2.1
        have bs' : BtS E' w nb x3 := by
          unfold BtS
          rw [et 0 (by omega), e6, et 14 (by omega), et 8 (by omega), et 18 (by omega)]
          exact ⟨b0, b1, b6, b14, b8, b18, b3⟩
        refine m_isWord 2 (by omega) tm133 ok2.2.2.2.2.2.1 (fun kk => ?_) (fun kk => ?_)
        · exact ih2 _ 14 _ nb h133 1 (by omega) (by omega) m133 tm133 (Or.inr rfl) r2 rm133 bs' (Or.inr ⟨rfl, kk⟩)
        · exact ih2 _ 14 _ nb h133 0 (by omega) (by omega) m133 tm133 (Or.inr rfl) r2 rm133 bs' (Or.inl ⟨rfl, kk⟩)
theorem m_win19 {l : Launch} {g : AG} {h0 : AH} {y w p0 : Nat} {T : Nat → Nat} {n : Nat} {R : Nat × Nat × AD} {Q X : AH → Prop} (hy : isB y) (hn : n ≤ 800) (hw8 : w < 8) (xq : XQ h0 y R X) (hq : ∀ h' D' p', MS h0 h' y T n → TokM h' (tk (bt T n) p') → RunS T n 6 D' p' R → ((tk (bt T n) p').1 ≠ 125 → stp 6 D' (tk (bt T n) p').1 (tk (bt T n) p').2.1 (tk (bt T n) p').2.2.1 = (1, 0, D')) → p0 ≤ p' → RepM h' y D' w (D' 0 1) 99 → D' 0 0 = w + 1 → Q h') : ∀ m p D h, n < p + m → p0 ≤ p → MS h0 h y T n → TokM h (tk (bt T n) p) → RunS T n 6 D p R → RepM h y D w (D 0 1) 99 → D 0 0 = w + 1 → D 8 w = 0 → D 18 w = D 0 1 → L_X12_readWindow_19 l g h 103 (Int32.ofNat w) y Q X := by
  have hyu : y = 105 ∨ y = 154 ∨ y = 174 := hy
  intro mm
  induction mm with
  | zero => intro p D h hm _ _ _ run; exact absurd run.1 (by omega)
  | succ mm ih =>
    intro p D h hm hp0 m tm run rm ew e8 e18
    have hT := fun k hk => (m.2.2.1.2 k hk).1
    have ok := tk_ok hT hn run.1
    obtain ⟨_, _, _, ok4, ok5, okw, ok2⟩ := ok
    have gg := run.2.1.1
    obtain ⟨⟨n1, n2, n3⟩, gv, gw, gh, gc, gd, go⟩ := gg
    have elast : D 0 0 - 1 = w := by omega
    have e19 : D 19 w = D 0 1 := by have := gh.2.1 (by omega); rw [elast] at this; exact this
    have gww := gw w (by omega)
    have b5 := (rm.2.1 w (by omega)).2.1
    refine s_X12_readWindow_19 ⟨is_103, m_isWord 11 (by omega) tm okw (fun k => ⟨fun u => absurd u (by decide), fun _ => ⟨isB_x hy, ?_⟩⟩) (fun k11 => ⟨fun _ => ⟨isB_x hy, ?_⟩, fun u => absurd rfl u⟩)⟩
    · have k1 := k.1
      have nk1 : ¬ isK 1 (tk (bt T n) p).1 (tk (bt T n) p).2.1 := fun u => kc_ne.1 (by rw [← k.2, u.2])
      have nk3 : ¬ isK 3 (tk (bt T n) p).1 (tk (bt T n) p).2.1 := fun u => kc_ne.2.1 (by rw [← k.2, u.2])
      have S6 : stp 6 D (tk (bt T n) p).1 (tk (bt T n) p).2.1 (tk (bt T n) p).2.2.1 = (if D 6 w < 6 then ((0 : Nat), (7 : Nat), D) else (5, 0, D)) := by
        rw [stp_6, if_neg (by omega), elast, e8, if_neg (by omega), if_neg nk1, if_neg nk3, if_neg]
        intro z
        rcases z with z | z
        · omega
        · exact z k
      rw [rfB_7 m.1 hy, i_cl (by omega), b5]
      refine ⟨isB_5 hy, vi_ok (by omega) (by rw [szB_5 hy]; omega), fun z => ?_, fun z => ?_⟩
      · have l6 : D 6 w < 6 := by
          have : D 6 w ≠ 6 := fun u => z (by rw [u]; rfl)
          omega
        have r1 := run_ok (b := 7) (E := D) hT hn run (by rw [S6, if_pos l6]) (by omega)
        refine m_next hy hn run.1 m tm (by omega) (fun h27 m27 f27 tm27 => ?_)
        have rm27 := rm.nx hy f27
        generalize ep1 : (tk (bt T n) p).2.2.2 = p1 at *
        have b27 := (rm27.2.1 w (by omega)).2.1
        rw [rfB_8 m27.1 hy, rfB_7 m27.1 hy, b27, show (6 : Int32) = Int32.ofNat 6 from rfl, i_mul, i_add]
        refine ⟨isB_6 hy, isB_5 hy, vi_ok (by omega) (by rw [szB_5 hy]; omega), ?_⟩
        intro v31 e31
        rw [e31]
        refine m_varHere hy hn m27 tm27 r1.1 (by omega) xq rm27.1.2.2 rm27.2.2.1 (fun k => by rw [stp_7, if_pos k]) (fun k c => by rw [stp_7, if_neg (fun z => z k), if_neg c]) (fun k c => ?_)
        have r2 := run_ok (b := 8) (E := addShow (up D 30 3 (fV D (tk (bt T n) p1).2.1)) (fV D (tk (bt T n) p1).2.1)) hT hn r1.1 (by rw [stp_7, if_neg (fun z => z k), if_pos c]) (by omega)
        revert c r2
        generalize fV D (tk (bt T n) p1).2.1 = v
        intro c r2
        rw [i_cl (by omega)]
        refine ⟨vi_ok (by omega) (by rw [szB_6 hy]; omega), ?_⟩
        intro h37 e37
        have m37 : MS h0 h37 y T n := by rw [e37]; exact m27.I hy (by unfold PMe; omega)
        have tm37 : TokM h37 (tk (bt T n) p1) := by rw [e37]; exact tm27.I (by omega)
        refine m_next hy hn r1.1.1 m37 tm37 (by omega) (fun h40 m40 f40 tm40 => ?_)
        refine m_need (b := 6) (E := addShow (up D 30 3 v) v) 59 (by omega) (by omega) hy hn m40 tm40 r2.1 (by omega) xq (fun k => by rw [stp_8, if_pos k]) (fun k => by rw [stp_8, if_neg k]) (fun h42 m42 f42 tm42 r3 lt3 => ?_)
        have f42' : Fr (fun c i => (c = y + 6 ∧ i = 6 * w + D 6 w) ∨ (c = y + 5 ∧ i = w) ∨ PNx c i) h27 h42 := by
          refine Fr.trans (Fr.trans (h1 := h37) ?_ (f40.mono (fun c i z => Or.inr (Or.inr z)))) (f42.mono (fun c i z => Or.inr (Or.inr z)))
          rw [e37]
          exact (Fr.refl _ _).setI (Or.inl ⟨rfl, rfl⟩)
        have b42 : h42.1 (y + 5) w = Int32.ofNat (D 6 w) := by
          rw [(f42 _ _ (fun q => by unfold PNx at q; omega)).1, (f40 _ _ (fun q => by unfold PNx at q; omega)).1, e37, gI_c (by omega)]
          exact b27
        have d42 : h42.1 (y + 6) (6 * w + D 6 w) = Int32.ofNat v := by
          rw [(f42 _ _ (fun q => by unfold PNx at q; omega)).1, (f40 _ _ (fun q => by unfold PNx at q; omega)).1, e37, gI_s]
        rw [rfB_7 m42.1 hy, b42, show (1 : Int32) = Int32.ofNat 1 from rfl, i_add]
        refine ⟨isB_5 hy, vi_ok (by omega) (by rw [szB_5 hy]; omega), vi_ok (by omega) (by rw [szB_5 hy]; omega), ?_⟩
        intro h46 e46
        have rm46 := rm27.shw (v := v) (h1 := h46) hy ew (fun w hw => (gw w hw).2.1) l6 (by rw [e46]; exact f42'.setI (Or.inr (Or.inl ⟨rfl, rfl⟩))) (by rw [e46, gI_c (by omega)]; exact d42) (by rw [e46, gI_s])
        have E0 : addShow (up D 30 3 v) v 0 = D 0 := by unfold addShow; simp (disch := first | assumption | omega) only [up_t]
        have E8 : addShow (up D 30 3 v) v 8 = D 8 := by unfold addShow; simp (disch := first | assumption | omega) only [up_t]
        have E18 : addShow (up D 30 3 v) v 18 = D 18 := by unfold addShow; simp (disch := first | assumption | omega) only [up_t]
        generalize addShow (up D 30 3 v) v = E at *
        refine ih _ E h46 (by omega) (by omega) (by rw [e46]; exact m42.I hy (by unfold PMe; omega)) (by rw [e46]; exact tm42.I (by omega)) r3 (by rw [E0]; exact rm46) (by rw [E0]; exact ew) (by rw [E8]; exact e8) (by rw [E0, E18]; exact e18)
      · have l6 : D 6 w = 6 := (i_eq (b := 6) (by omega) (by omega)).1 z
        exact m_stop (c := 5) hy m tm xq (by omega) (run_bad run (b := 0) (E := D) (by rw [S6, if_neg (by omega)]) (by omega) (Or.inl (by omega)))
    · intro v20 e20
      rw [e20, rm.1.2.1]
      exact (m_win101 (x3 := D 0 1) (p0 := p0) hy hn hw8 xq hq (n + 1)).1 p D h (by omega) hp0 m tm run rm ew e8 e18 (fun z => absurd z k11)
theorem m_readWindow {l : Launch} {g : AG} {h0 h : AH} {y w p : Nat} {T : Nat → Nat} {n : Nat} {D : AD} {R : Nat × Nat × AD} {Q X : AH → Prop} (hy : isB y) (hn : n ≤ 800) (hw8 : w < 8) (xq : XQ h0 y R X) (m : MS h0 h y T n) (tm : TokM h (tk (bt T n) p)) (run : RunS T n 6 D p R) (rm : RepM (ax_setI (ax_setI h (y + 5) w 0) (y + 7) w 0) y D w (D 0 1) 99) (ew : D 0 0 = w + 1) (e8 : D 8 w = 0) (e18 : D 18 w = D 0 1) (hq : ∀ h' D' p', MS h0 h' y T n → TokM h' (tk (bt T n) p') → RunS T n 6 D' p' R → ((tk (bt T n) p').1 ≠ 125 → stp 6 D' (tk (bt T n) p').1 (tk (bt T n) p').2.1 (tk (bt T n) p').2.2.1 = (1, 0, D')) → p ≤ p' → RepM h' y D' w (D' 0 1) 99 → D' 0 0 = w + 1 → Q h') : C_X12_readWindow l g h 103 (Int32.ofNat w) Q X := by
  have hyu : y = 105 ∨ y = 154 ∨ y = 174 := hy
  refine c_X12_readWindow (s_X12_readWindow_0 ?_)
  rw [m.2.1]
  refine ⟨is_103, isB_x hy, ?_⟩
  intro v3 e3
  rw [e3, rfB_7 m.1 hy, i_cl (by omega)]
  refine ⟨isB_5 hy, vi_ok (by omega) (by rw [szB_5 hy]; omega), ?_⟩
  intro h8 eh8
  have m8 : MS h0 h8 y T n := by rw [eh8]; exact m.I hy (by unfold PMe; omega)
  have tm8 : TokM h8 (tk (bt T n) p) := by rw [eh8]; exact tm.I (by omega)
  rw [rfB_9 m8.1 hy]
  refine ⟨isB_7 hy, vi_ok (by omega) (by rw [szB_7 hy]; omega), ?_⟩
  intro h12 e12
  have m12 : MS h0 h12 y T n := by rw [e12]; exact m8.I hy (by unfold PMe; omega)
  have tm12 : TokM h12 (tk (bt T n) p) := by rw [e12]; exact tm8.I (by omega)
  exact m_win19 (p0 := p) hy hn hw8 xq hq (n + 1) p D h12 (by omega) (by omega) m12 tm12 run (by rw [e12, eh8]; exact rm) ew e8 e18
