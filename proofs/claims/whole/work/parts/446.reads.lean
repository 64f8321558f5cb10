theorem k_wn {l : Launch} {g : AG} {h : AH} {x w : Nat} {D : AD} {W : Int64} {Q : Int32 → AH → Prop} (hr : Refs h) (hx : isA x) (n0 : h.1 x 0 = Int32.ofNat (D 0 0)) (hA : ∀ i, i < D 0 0 → h.2.1 (x + 2) i = Int64.ofNat (cwf 8 (D 1 i))) (hV : D 0 0 ≤ 8) (hN : ∀ v, v < D 0 0 → D 1 v < 1099511627776) (hq : ∀ r : Int32, (W = Int64.ofNat (cwf 8 w) → w < 1099511627776 → (fW D w < D 0 0 → r = Int32.ofNat (fW D w)) ∧ (¬ fW D w < D 0 0 → r = -1)) → Q r h) : C_X0_windowNamed l g h x W Q := by
  have e : findN (fun i => 0 ≤ i ∧ D 1 i = w) (D 0 0) = fW D w := findN_congr (fun i _ => ⟨fun z => z.2, fun z => ⟨Nat.zero_le i, z⟩⟩)
  refine c_X0_windowNamed (s_X0_windowNamed_0 ?_)
  rw [rfA_8 hr hx, n0]
  refine ⟨isA_x hx, isA_2 hx, k_named (w := w) (N := D 1) (isA_2 hx) (by rw [szA_2 hx]; exact hV) (by omega) (lo := 0) (by omega) (fun i hi => ⟨hA i hi, hN i hi⟩) (fun r hr2 => hq r (fun a b => ?_))⟩
  have := hr2 a b
  rw [e] at this
  exact this
theorem fW_le (D : AD) (w : Nat) : fW D w ≤ D 0 0 := findN_le _ _
theorem k_findOpened {l : Launch} {g : AG} {h : AH} {x p : Nat} {D : AD} {Q : Int32 → AH → Prop} (hr : Refs h) (hx : isA x) (cb : CB h x D) (hg : GG D p) (h0 : 0 < D 0 0) (qok : ∀ h', Refs h' → Fr (PRd x) h h' → ¬ fU D < D 30 7 → RepA h' x (setOn D) → WfD (setOn D) → Q 1 h') (qbad : ∀ h', Refs h' → Fr (PRf x) h h' → fU D < D 30 7 → h'.1 67 3 = Int32.ofNat 2 → h'.1 67 4 = Int32.ofNat (D 22 (D 31 (fU D))) → Q 0 h') : C_X7_findOpened l g h 67 Q := by
  have hxu : x = 4 ∨ x = 25 ∨ x = 46 := hx
  obtain ⟨⟨n1, n2, n3⟩, gv, gw, gh, gc, gd, go⟩ := id hg
  have s128 : D 30 7 ≤ 128 := by
    have : sumN (D 14) 32 ≤ 4 * 32 := (sumN_le4 gd.1 32)
    have := go.1
    omega
  have i128 : ∀ i, i < D 30 7 → D 31 i < 128 := by
    intro i hi
    have a := (go.2.1 i hi).1
    have il : isL D (D 31 i / 4) := by
      refine Classical.byContradiction (fun z => ?_)
      rw [gd.2.1 _ z] at a
      omega
    rcases il with u | ⟨w, u, v, y⟩ <;> omega
  have M : ∀ d i, i + d = D 30 7 → ∀ h1, Refs h1 → Fr (fun c q => c = x + 19) h h1 → (∀ j, j < i → fW D (D 21 (D 31 j)) < D 0 0) → (∀ j, j < i → h1.1 (x + 19) (D 31 j) = Int32.ofNat (fW D (D 21 (D 31 j)))) → (∀ m, (∀ j, j < i → D 31 j ≠ m) → h1.1 (x + 19) m = h.1 (x + 19) m) → L_X7_findOpened_2 l g h1 67 (Int32.ofNat i) Q := by
    intro d
    induction d with
    | zero =>
      intro i hi h1 r1 f1 hf hA hB
      have k11 : h1.1 67 11 = Int32.ofNat (D 30 7) := by rw [(f1 67 11 (by omega)).1]; exact cb.2.2.2.1
      refine s_X7_findOpened_2 ?_
      rw [k11]
      refine ⟨is_67, fun _ => ?_, fun z => absurd ((i_le (by omega) (by omega)).2 (by omega)) z⟩
      have e30 : i = D 30 7 := by omega
      rw [e30] at hf hA hB
      refine qok h1 r1 (f1.mono (fun c q z => Or.inl (by show PAx x c q; unfold PAx; omega))) (fun z => ?_) ?_ (wfd_setOn hg h0 hf)
      · have := (findN_spec (fun i => fW D (D 21 (D 31 i)) = D 0 0) (D 30 7)).1 z
        have := hf _ z
        unfold fU at this
        omega
      · obtain ⟨⟨⟨m0, m1, m2, m3, m4, m5, m6⟩, aw, av, ab, ac, ad⟩, _⟩ := cb.1
        refine ⟨⟨?_, ?_, ?_, ?_, ?_, ?_, ?_⟩, ?_, ?_, ?_, ?_, ?_⟩
        · rw [(f1 x 0 (by omega)).1, setOn_t (by omega)]; exact m0
        · rw [(f1 x 1 (by omega)).1, setOn_t (by omega)]; exact m1
        · rw [(f1 x 2 (by omega)).1, setOn_t (by omega)]; exact m2
        · rw [(f1 x 3 (by omega)).1, setOn_t (by omega), setOn_t (by omega)]; exact m3
        · rw [(f1 x 4 (by omega)).1, setOn_t (by omega), setOn_t (by omega)]; exact m4
        · rw [(f1 x 5 (by omega)).1, setOn_t (by omega), setOn_t (by omega)]; exact m5
        · have k : kept (setOn D) = kept D := by unfold kept; rw [setOn_t (by omega), setOn_t (by omega)]
          rw [(f1 x 6 (by omega)).2.1, k]; exact m6
        · exact aw.c (by rw [setOn_t (by omega)]) (setOn_t (by omega)) (setOn_t (by omega)) (setOn_t (by omega)) (setOn_t (by omega)) (setOn_t (by omega)) (setOn_t (by omega)) (fun j q hj => ⟨(f1 _ _ (by omega)).1, (f1 _ _ (by omega)).2.1⟩)
        · exact av.c (by rw [setOn_t (by omega)]) (setOn_t (by omega)) (setOn_t (by omega)) (fun j q hj => ⟨(f1 _ _ (by omega)).1, (f1 _ _ (by omega)).2.1⟩)
        · exact ab.c (by rw [setOn_t (by omega)]) (setOn_t (by omega)) (setOn_t (by omega)) (fun j q hj => ⟨(f1 _ _ (by omega)).1, (f1 _ _ (by omega)).2.1⟩)
        · exact ac.c (by rw [setOn_t (by omega)]) (setOn_t (by omega)) (setOn_t (by omega)) (setOn_t (by omega)) (setOn_t (by omega)) (fun j q hj => (f1 _ _ (by omega)).1)
        · intro k hk
          have hk' : isL D k := by
            unfold isL at hk ⊢
            rw [setOn_t (by omega), setOn_t (by omega)] at hk
            exact hk
          obtain ⟨a, b⟩ := ad k hk'
          rw [(f1 _ _ (by omega)).1, setOn_t (show 14 ≠ 16 by omega), setOn_t (show 15 ≠ 16 by omega), setOn_t (show 17 ≠ 16 by omega)]
          refine ⟨a, fun d hd => ?_⟩
          obtain ⟨b1, b2, b3, b4⟩ := b d hd
          rw [(f1 (x + 18) _ (by omega)).1, (f1 (x + 20) _ (by omega)).1]
          refine ⟨b1, fun y1 y4 => ?_, b3, fun y => ?_⟩
          · by_cases y0 : D 15 (4 * k + d) = 0
            · obtain ⟨i, hi, ei⟩ := (gd.2.2 k d hd).2.1 y0
              rw [show setOn D 16 (4 * k + d) = fW D (D 21 (4 * k + d)) from if_pos ⟨rfl, y0⟩, ← ei]
              exact hA i hi
            · rw [show setOn D 16 (4 * k + d) = D 16 (4 * k + d) from if_neg (fun z => y0 z.2), hB _ (fun j hj z => ?_)]
              · exact b2 y1 y4
              · have := (go.2.1 j hj).2.1
                rw [z] at this
                exact y0 this
          · rw [show setOn D 16 (4 * k + d) = D 16 (4 * k + d) from if_neg (fun z => by omega)]
            exact b4 y
    | succ d ih =>
      intro i hi h1 r1 f1 hf hA hB
      have ii : i < D 30 7 := by omega
      have k11 : h1.1 67 11 = Int32.ofNat (D 30 7) := by rw [(f1 67 11 (by omega)).1]; exact cb.2.2.2.1
      have k1 : h1.2.2 67 1 = x := by rw [(f1 67 1 (by omega)).2.2]; exact cb.2.1
      have ci := cb.2.2.2.2 i ii
      have k70 : h1.1 70 i = Int32.ofNat (D 31 i) := by rw [(f1 70 i (by omega)).1]; exact ci.1
      have k71 : h1.2.1 71 i = Int64.ofNat (cwf 8 (D 21 (D 31 i))) := by rw [(f1 71 i (by omega)).2.1]; exact ci.2.1
      have k72 : h1.1 72 i = Int32.ofNat (D 22 (D 31 i)) := by rw [(f1 72 i (by omega)).1]; exact ci.2.2
      have h31 := i128 i ii
      refine s_X7_findOpened_2 ?_
      rw [k11, k1, rf_67_13 r1, i_cl (by omega)]
      refine ⟨is_67, fun z => absurd ((i_le (by omega) (by omega)).1 z) (by omega), fun _ => ⟨isA_x hx, is_71, vi_ok (by omega) (by show _ < 128; omega), ?_⟩⟩
      refine k_wn (w := D 21 (D 31 i)) (D := D) r1 hx (by rw [(f1 x 0 (by omega)).1]; exact cb.1.1.1.1) (fun j hj => by rw [(f1 _ _ (by omega)).2.1]; exact (cb.1.1.2.1 j hj).1) n1 (fun w hw => (gw w hw).1) (fun r R => ?_)
      have R2 := R k71 (go.2.1 i ii).2.2.1
      by_cases c : fW D (D 21 (D 31 i)) < D 0 0
      · have er := R2.1 c
        refine ⟨fun _ => ?_, fun z => absurd z (by rw [er]; exact i_ne (by omega))⟩
        rw [k1, rfA_18 r1 hx, rfD_2 r1 hx, rf_67_12 r1, k70, i_cl (by omega), er]
        refine ⟨isA_x hx, isA_16 hx, isA_19 hx, is_70, vi_ok (by omega) (by show _ < 128; omega), vi_ok (by omega) (by rw [szA_19 hx]; omega), ?_⟩
        intro h16 e16
        rw [show (1 : Int32) = Int32.ofNat 1 from rfl, i_add]
        intro v18 e18
        rw [e18]
        refine ih (i + 1) (by omega) h16 (by rw [e16]; exact r1.setI) (by rw [e16]; exact f1.setI rfl) (fun j hj => ?_) (fun j hj => ?_) (fun m hm => ?_)
        · by_cases y : j = i
          · rw [y]; exact c
          · exact hf j (by omega)
        · rw [e16]
          by_cases y : D 31 j = D 31 i
          · rw [y, gI_s]
          · rw [gI_p y]
            exact hA j (by
              have : j ≠ i := fun z => y (by rw [z])
              omega)
        · have ne := hm i (by omega)
          rw [e16, gI_p (fun z => ne z.symm)]
          exact hB m (fun j hj => hm j (by omega))
      · have er := R2.2 c
        have eU : fU D = i := findN_eq ii (by have := fW_le D (D 21 (D 31 i)); omega) (fun j hj y => by have := hf j hj; omega)
        refine ⟨fun z => absurd er z, fun _ => ?_⟩
        intro h20 e20
        have r20 : Refs h20 := by rw [e20]; exact r1.setI
        have v72 : h20.1 72 i = Int32.ofNat (D 22 (D 31 i)) := by rw [e20, gI_c (by omega)]; exact k72
        rw [rf_67_14 r20, v72]
        refine ⟨is_72, vi_ok (by omega) (by show _ < 128; omega), ?_⟩
        intro h24 e24
        refine qbad h24 (by rw [e24]; exact r20.setI) ?_ (by omega) ?_ ?_
        · rw [e24, e20]
          have f1' : Fr (PRf x) h h1 := f1.mono (fun c q z => Or.inl (Or.inl (by show PAx x c q; unfold PAx; omega)))
          exact (f1'.setI (Or.inr ⟨rfl, Or.inl rfl⟩)).setI (Or.inr ⟨rfl, Or.inr rfl⟩)
        · rw [e24, gI_p (by omega), e20, gI_s]; rfl
        · rw [e24, gI_s, eU]
  refine c_X7_findOpened (s_X7_findOpened_0 ?_)
  exact M (D 30 7) 0 (by omega) h hr (Fr.refl _ _) (fun j hj => absurd hj (by omega)) (fun j hj => absurd hj (by omega)) (fun m _ => rfl)
/-- what the class's reading touches -/
def PRe (x c p : Nat) : Prop := PRd x c p ∨ (c = 67 ∧ 1 ≤ p) ∨ c = 68
theorem prf_e {x c p : Nat} (q : PRf x c p) : PRe x c p := by
  rcases q with z | z
  · exact Or.inl z
  · exact Or.inr (Or.inl ⟨z.1, by omega⟩)
/-- what reading ends in -/
def RQ (h0 : AH) (x : Nat) (R : Nat × Nat × AD) (Q : Int32 → AH → Prop) : Prop := (R.1 = 0 → ∀ h', Refs h' → Fr (PRe x) h0 h' → h'.1 67 3 = 0 → RepA h' x R.2.2 → WfD R.2.2 → Q 1 h') ∧ (R.1 ≠ 0 → ∀ h', Refs h' → Fr (PRe x) h0 h' → h'.1 67 3 = Int32.ofNat R.1 → h'.1 67 4 = Int32.ofNat R.2.1 → Q 0 h')
theorem TapC.fr2 {P : Nat → Nat → Prop} {h h1 : AH} {T : Nat → Nat} {n : Nat} (c : TapC h T n) (f : Fr P h h1) (e : ∀ c p, P c p → (c ≠ 68 ∨ 2 ≤ p) ∧ c ≠ 2) : TapC h1 T n := by
  obtain ⟨a, b, d⟩ := c
  refine ⟨?_, ?_, fun k hk => ?_⟩
  · rw [(f 68 0 (fun q => by have := (e _ _ q).1; omega)).2.2]; exact a
  · rw [(f 68 1 (fun q => by have := (e _ _ q).1; omega)).1]; exact b
  · rw [(f 2 k (fun q => (e _ _ q).2 rfl)).1]; exact d k hk
theorem k_reads_loop {l : Launch} {g : AG} {h0 : AH} {x : Nat} {T : Nat → Nat} {n : Nat} {R : Nat × Nat × AD} {Q : Int32 → AH → Prop} (hx : isA x) (hn : n ≤ 800) (q : RQ h0 x R Q) : ∀ f k a D p h, k + f = 801 → h.1 67 3 = 0 → k ≤ p → p ≤ n → Refs h → Fr (PRe x) h0 h → CS h x a D → WfP a D p → TapC h T n → h.1 68 2 = Int32.ofNat p → runP (bt T n) f a D p = some R → L_X7_reads_49 l g h 67 (Int32.ofNat k) Q := by
  have hxu : x = 4 ∨ x = 25 ∨ x = 46 := hx
  intro f
  induction f with
  | zero => intro k a D p h hk k3 hkp hp hr f0 cs wf te ap er; exact absurd er (fun z => by unfold runP at z; cases z)
  | succ f ih =>
    intro k a D p h hk k3 hkp hp hr f0 cs wf te ap er
    have ok := tk_ok (fun k hk => (te.2.2 k hk).1) hn hp
    have lt := tk_lt (T := T) hn hp
    refine s_X7_reads_49 ⟨fun z => absurd ((i_lt (a := 800) (by omega) (by omega)).1 z) (by omega), fun _ => ⟨is_67, ?_⟩⟩
    rw [rf_67_0 hr]
    refine ⟨is_68, k_goOn hr hn hp te ap (fun h26 r26 f26 tc26 => ?_)⟩
    have cs26 : CS h26 x a D := by
      obtain ⟨c1, c2, c3⟩ := cs
      refine ⟨c1.fr hx f26 (fun c p q => by unfold PSc at q; omega), ?_, ?_⟩
      · rw [(f26 67 2 (fun q => by unfold PSc at q; omega)).1]; exact c2
      · unfold CR
        rw [(f26 67 6 (fun q => by unfold PSc at q; omega)).1, (f26 67 5 (fun q => by unfold PSc at q; omega)).2.1, (f26 67 8 (fun q => by unfold PSc at q; omega)).1, (f26 67 9 (fun q => by unfold PSc at q; omega)).1, (f26 67 10 (fun q => by unfold PSc at q; omega)).1]
        exact c3
    have k26 : h26.1 67 3 = 0 := by rw [(f26 67 3 (fun q => by unfold PSc at q; omega)).1]; exact k3
    have te26 : TapC h26 T n := te.fr2 f26 (fun c p q => by unfold PSc at q; omega)
    have g26 : Fr (PRe x) h0 h26 := f0.trans (f26.mono (fun c p q => by unfold PSc at q; unfold PRe; omega))
    rw [runP_s] at er
    rw [rf_67_0 r26, tc26.1]
    refine ⟨is_68, fun z => ?_, fun z => ?_⟩
    · have nz : ¬ (tk (bt T n) p).1 = 0 := fun y => z (by rw [y]; rfl)
      rw [if_neg nz] at er
      refine k_taken r26 hx cs26 wf hn hp te26 tc26 ⟨fun e1 h' r' f' cs' => ⟨fun _ => ?_, fun y => absurd y (by decide)⟩, fun e1 h' r' f' v3 v4 => ⟨fun y => absurd rfl y, fun _ => ?_⟩⟩
      · rw [if_pos e1] at er
        rw [show (1 : Int32) = Int32.ofNat 1 from rfl, i_add]
        intro v33 e33
        rw [e33]
        have h4 := ok.2.2.2.1
        refine ih (k + 1) _ _ _ h' (by omega) (by rw [(f' 67 3 (fun q => by unfold PRd PAx at q; omega)).1]; exact k26) (by omega) ok.2.2.1 r' (g26.trans (f'.mono (fun c p q => Or.inl q))) cs' (wfp_stp wf ok.1 (lt nz) ok.2.2.2.2.2.1 e1) (te26.fr2 f' (fun c p q => by unfold PRd PAx at q; omega)) ?_ er
        rw [(f' 68 2 (fun q => by unfold PRd PAx at q; omega)).1]
        exact tc26.2.2.1
      · rw [if_neg e1] at er
        have er := Option.some.inj er
        refine q.2 (by rw [← er]; exact e1) h' r' (g26.trans (f'.mono (fun c p q => prf_e q))) ?_ ?_
        · rw [← er]; exact v3
        · rw [← er]; exact v4
    · have nz : (tk (bt T n) p).1 = 0 := (i_eq (b := 0) (by omega) (by omega)).1 z
      rw [if_pos nz] at er
      have a21 := Ga_le wf.2
      have flt : (¬ (a = 0 ∧ 0 < D 0 0)) → C_X7_faulty l g h26 67 1 fun r38 h37 => (r38 = 0 ∨ r38 = 1) ∧ Q r38 h37 := by
        intro c
        rw [if_neg c] at er
        have er := Option.some.inj er
        refine k_faulty 1 r26 tc26 ⟨Or.inl rfl, q.2 (by rw [← er]; show (1 : Nat) ≠ 0; omega) _ r26.setI.setI ?_ ?_ ?_⟩
        · exact (g26.setI (by unfold PRe; omega)).setI (by unfold PRe; omega)
        · unfold fh; rw [gI_p (by omega), gI_s, ← er]
        · unfold fh; rw [gI_s, ← er]
      rw [cs26.2.1, cs26.1.2.1, cs26.1.1.1.1.1]
      have n1 := wf.1.1.1
      refine ⟨fun y => flt (fun u => y (by rw [u.1]; rfl)), fun y => ?_⟩
      have a0 : a = 0 := (i_eq (b := 0) (by omega) (by omega)).1 y
      refine ⟨isA_x hx, fun u => flt (fun w => absurd ((i_le (b := 0) (by omega) (by omega)).1 u) (by omega)), fun u => ?_⟩
      have d0 : 0 < D 0 0 := by
        rcases Nat.eq_zero_or_pos (D 0 0) with w | w
        · exact absurd (by rw [w]; decide) u
        · exact w
      rw [if_pos ⟨a0, d0⟩] at er
      have er := Option.some.inj er
      unfold finO at er
      refine k_findOpened r26 hx cs26.1 wf.1 d0 (fun h' r' f' nf rA wD => ⟨Or.inr rfl, ?_⟩) (fun h' r' f' nf v3 v4 => ⟨Or.inl rfl, ?_⟩)
      · rw [if_neg nf] at er
        exact q.1 (by rw [← er]) h' r' (g26.trans (f'.mono (fun c p q => Or.inl q))) (by rw [(f' 67 3 (fun q => by unfold PRd PAx at q; omega)).1]; exact k26) (by rw [← er]; exact rA) (by rw [← er]; exact wD)
      · rw [if_pos nf] at er
        exact q.2 (by rw [← er]; show (2 : Nat) ≠ 0; omega) h' r' (g26.trans (f'.mono (fun c p q => prf_e q))) (by rw [← er]; exact v3) (by rw [← er]; exact v4)
theorem k_reads {l : Launch} {g : AG} {h : AH} {x : Nat} {T : Nat → Nat} {n : Nat} {R : Nat × Nat × AD} {Q : Int32 → AH → Prop} (hr : Refs h) (hx : isA x) (hn : n ≤ 800) (hT : ∀ k, k < n → T k < 256 ∧ h.1 2 k = Int32.ofNat (T k)) (er : runP (bt T n) 801 0 (fun _ _ => 0) 0 = some R) (q : RQ h x R Q) : C_X7_reads l g h 67 2 (Int32.ofNat n) x Q := by
  have hxu : x = 4 ∨ x = 25 ∨ x = 46 := hx
  refine c_X7_reads (s_X7_reads_0 ⟨is_67, isA_x hx, ?_⟩)
  intro h3 e3
  have r3 : Refs h3 := by rw [e3]; exact hr.setR rfl
  have k1 : h3.2.2 67 1 = x := by rw [e3, gR_s]
  rw [k1]
  refine ⟨isA_x hx, c_X0_clear (s_X0_clear_0 ⟨isA_x hx, ?_⟩)⟩
  intro h2' e2 h4 e4 h6 e6 h8' e8' h10' e10' h12' e12' h7 e7 h8 e8 h10 e10 h12 e12 h14 e14 h16 e16
  have g16 : Fr (fun c p => c = x ∨ (c = 67 ∧ 2 ≤ p)) h3 h16 := by
    rw [e16, e14, e12, e10, e8, e7, e12', e10', e8', e6, e4, e2]
    exact ((((((((((((Fr.refl _ _).setI (Or.inl rfl)).setI (Or.inl rfl)).setI (Or.inl rfl)).setI (Or.inl rfl)).setI (Or.inl rfl)).setI (Or.inl rfl)).setL (Or.inl rfl)).setI (by omega)).setI (by omega)).setI (by omega)).setI (by omega)).setI (by omega)
  have r16 : Refs h16 := by
    rw [e16, e14, e12, e10, e8, e7, e12', e10', e8', e6, e4, e2]
    exact r3.setI.setI.setI.setI.setI.setI.setL.setI.setI.setI.setI.setI
  have m16 : ∀ c p, c ≠ 67 → h16.1 c p = h7.1 c p := fun c p hc => by
    rw [e16, gI_c (by omega), e14, gI_c (by omega), e12, gI_c (by omega), e10, gI_c (by omega), e8, gI_c (by omega)]
  have x16 : ∀ p, p ≤ 5 → h16.1 x p = 0 := by
    intro p hp
    rw [m16 x p (by omega), e7]
    show h12'.1 x p = 0
    rw [e12']
    by_cases c5 : p = 5
    · rw [c5, gI_s]
    rw [gI_p c5, e10']
    by_cases c4 : p = 4
    · rw [c4, gI_s]
    rw [gI_p c4, e8']
    by_cases c3 : p = 3
    · rw [c3, gI_s]
    rw [gI_p c3, e6]
    by_cases c2 : p = 2
    · rw [c2, gI_s]
    rw [gI_p c2, e4]
    by_cases c1 : p = 1
    · rw [c1, gI_s]
    rw [gI_p c1, e2]
    have c0 : p = 0 := by omega
    rw [c0, gI_s]
  have y16 : h16.2.1 x 6 = 0 := by
    rw [e16, e14, e12, e10, e8]
    show h7.2.1 x 6 = 0
    rw [e7, gL_s]
  have k67 : h16.1 67 2 = 0 ∧ h16.1 67 7 = 0 ∧ h16.1 67 11 = 0 ∧ h16.1 67 3 = 0 := by
    refine ⟨?_, ?_, ?_, ?_⟩
    · rw [e16, gI_p (by omega), e14, gI_p (by omega), e12, gI_p (by omega), e10, gI_p (by omega), e8, gI_s]
    · rw [e16, gI_p (by omega), e14, gI_s]
    · rw [e16, gI_s]
    · rw [e16, gI_p (by omega), e14, gI_p (by omega), e12, gI_p (by omega), e10, gI_s]
  have k1' : h16.2.2 67 1 = x := by rw [(g16 67 1 (by omega)).2.2]; exact k1
  rw [rf_67_0 r16]
  refine ⟨is_68, is_2, c_X8_start (s_X8_start_0 ⟨is_68, is_2, ?_⟩)⟩
  intro h3b e3b v5 e5
  have ev : v5 = Int32.ofNat n := by
    rw [e5, show (ax_s 2).2 = 800 from rfl]
    by_cases c : Int32.ofNat 800 < Int32.ofNat n
    · exact absurd ((i_lt (by omega) (by omega)).1 c) (by omega)
    · rw [if_neg c]
  rw [ev]
  intro h7b e7b h9 e9
  have g9 : Fr (fun c p => c = 68) h16 h9 := by
    rw [e9, e7b, e3b]
    exact (((Fr.refl (fun c p => c = 68) _).setR rfl).setI rfl).setI rfl
  have r9 : Refs h9 := by
    rw [e9, e7b, e3b]
    exact (r16.setR rfl).setI.setI
  have f9 : Fr (PRe x) h h9 := by
    refine Fr.trans ?_ (g9.mono (fun c p q => Or.inr (Or.inr q)))
    refine Fr.trans (h1 := h3) ?_ (g16.mono (fun c p q => by show PRe x c p; unfold PRe PRd PAx; omega))
    rw [e3]
    exact (Fr.refl _ _).setR (by unfold PRe; omega)
  have zx : ∀ p, p ≤ 5 → h9.1 x p = 0 := fun p hp => by rw [(g9 x p (by omega)).1]; exact x16 p hp
  have is0 : ∀ k, ¬ isL (fun _ _ => 0) k := fun k z => by
    rcases z with a | ⟨w, a, _⟩ <;> exact absurd a (Nat.not_lt_zero _)
  have hk : h9.1 67 2 = Int32.ofNat 0 := by rw [(g9 67 2 (by omega)).1]; exact k67.1
  refine k_reads_loop (T := T) (n := n) (R := R) hx hn q 801 0 0 (fun _ _ => 0) 0 h9 (by omega) (by rw [(g9 67 3 (by omega)).1]; exact k67.2.2.2) (by omega) (by omega) r9 f9 ⟨⟨⟨⟨⟨zx 0 (by omega), zx 1 (by omega), zx 2 (by omega), zx 3 (by omega), zx 4 (by omega), zx 5 (by omega), ?_⟩, fun w hw => absurd hw (Nat.not_lt_zero _), fun w hw => absurd hw (Nat.not_lt_zero _), fun w hw => absurd hw (Nat.not_lt_zero _), fun w hw => absurd hw (Nat.not_lt_zero _), fun k hk => absurd hk (is0 k)⟩, fun w hw => absurd hw (Nat.not_lt_zero _)⟩, ?_, ?_, ?_, fun i hi => absurd hi (Nat.not_lt_zero _)⟩, hk, CR.none (by omega)⟩ (wfp_0 0) ⟨?_, ?_, fun k hk => ⟨(hT k hk).1, ?_⟩⟩ ?_ er
  · rw [(g9 x 6 (by omega)).2.1, y16]
    rfl
  · rw [(g9 67 1 (by omega)).2.2]; exact k1'
  · rw [(g9 67 7 (by omega)).1]; exact k67.2.1
  · rw [(g9 67 11 (by omega)).1]; exact k67.2.2.1
  · rw [e9, e7b, e3b]
    show (ax_setR h16 68 0 2).2.2 68 0 = 2
    rw [gR_s]
  · rw [e9, gI_p (by omega), e7b, gI_s]
  · rw [(f9 2 k (fun q => by unfold PRe PRd PAx at q; omega)).1]; exact (hT k hk).2
  · rw [e9, gI_s]; rfl
