/-- what telling an APP touches in the class -/
def PC0 (x a c p : Nat) : Prop := PRe x c p ∨ (c = 1 ∧ (p = 1 ∨ p = 3 ∨ p = 12)) ∨ (c = 3 ∧ p = a) ∨ (c = 73 ∧ p = a)
def PC1 (x a c p : Nat) : Prop := PC0 x a c p ∨ (c = 74 ∧ (p = 0 ∨ p = 5))
/-- in the model -/
def PM0 (y a c p : Nat) : Prop := PMe y c p ∨ (c = 103 ∧ (p ≤ 3 ∨ p = 5 ∨ (11 ≤ p ∧ p ≤ 20))) ∨ (c = 104 ∧ p = a) ∨ ((c = 125 ∨ c = 126 ∨ c = 127) ∧ p = a) ∨ (130 ≤ c ∧ c ≤ 132)
def PM1 (y a c p : Nat) : Prop := PM0 y a c p ∨ (c = 103 ∧ (p = 24 ∨ p = 25))
theorem rf_3 {a : Nat} (ha : a < 2) : rf 3 a = 0 ∧ rf 104 a = 0 := by
  have : a = 0 ∨ a = 1 := by omega
  rcases this with e | e <;> rw [e] <;> exact ⟨rfl, rfl⟩
theorem app_C {l : Launch} {g : AG} {h : AH} {X : Nat → Nat} {a n N : Nat} {T : Nat → Nat} {R : Nat × Nat × AD} {Q : Int32 → AH → Prop} (hr : Refs h) (ha : a < 2) (hx : isA (X 2)) (hxa : isA (X a)) (h13 : h.2.2 1 3 = X 2) (h3 : h.2.2 3 a = X a) (hN : N ≤ 800) (hn : n ≤ N) (e1 : h.1 1 1 = Int32.ofNat N) (hT : ∀ k, k < n → T k < 256 ∧ h.1 2 k = Int32.ofNat (T k)) (er : runP (bt T n) 801 0 (fun _ _ => 0) 0 = some R)
    (q1 : R.1 = 0 → ∀ h1, Refs h1 → Fr (PC1 (X 2) a) h h1 → h1.1 1 1 = Int32.ofNat 0 → h1.1 1 12 = 0 → h1.2.2 3 a = X 2 → h1.2.2 1 3 = X a → h1.2.1 73 a = Int64.ofNat (en st0) → h1.1 67 3 = 0 → RepA h1 (X 2) R.2.2 → WfD R.2.2 → (h.1 74 0 = Int32.ofNat a → h1.1 74 0 = -1) → (h.1 74 0 ≠ Int32.ofNat a → Fr (PC0 (X 2) a) h h1) → Q (Int32.ofNat (R.2.2 0 0)) h1)
    (q0 : R.1 ≠ 0 → ∀ h1, Refs h1 → Fr (fun c p => PRe (X 2) c p ∨ (c = 1 ∧ (p = 1 ∨ p = 12))) h h1 → h1.1 1 1 = Int32.ofNat 0 → h1.1 1 12 = 3 → h1.1 67 3 = Int32.ofNat R.1 → h1.1 67 4 = Int32.ofNat R.2.1 → Q (-1) h1) : C_X9_app l g h 1 (Int32.ofNat a) (Int32.ofNat n) Q := by
  have hxu : X 2 = 4 ∨ X 2 = 25 ∨ X 2 = 46 := hx
  refine c_X9_app (s_X9_app_0 ⟨fun z => absurd z (i_nn (by omega)), fun _ => ⟨fun _ => ⟨fun z => absurd z (i_nn (by omega)), fun _ => ⟨is_1, ?_⟩⟩, fun z => absurd ((i_lt (b := 2) (by omega) (by omega)).2 ha) z⟩⟩)
  rw [e1]
  refine ⟨fun _ => ?_, fun z => absurd ((i_le (by omega) (by omega)).2 hn) z⟩
  intro h14 e14
  have r14 : Refs h14 := by rw [e14]; exact hr.setI
  have v13 : h14.2.2 1 3 = X 2 := by rw [e14]; exact h13
  have v11 : h14.1 1 1 = Int32.ofNat 0 := by rw [e14, gI_s]; rfl
  have f14 : Fr (fun c p => c = 1 ∧ p = 1) h h14 := by rw [e14]; exact (Fr.refl _ _).setI ⟨rfl, rfl⟩
  rw [rf_1_4 r14, rf_1_0 r14, v13]
  refine ⟨is_67, is_2, isA_x hx, k_reads r14 hx (by omega) (fun k hk => ⟨(hT k hk).1, by rw [(f14 2 k (by omega)).1]; exact (hT k hk).2⟩) er ⟨fun e h20 r20 f20 k3 rA wD => ⟨fun _ => ?_, fun z => absurd z (by decide)⟩, fun e h20 r20 f20 k3 k4 => ⟨fun z => absurd rfl z, fun _ => k_X9_refused ?_⟩⟩⟩
  · have f20' : ∀ c p, ¬ PRe (X 2) c p → ¬ (c = 1 ∧ p = 1) → h20.1 c p = h.1 c p ∧ h20.2.1 c p = h.2.1 c p ∧ h20.2.2 c p = h.2.2 c p := fun c p u v => by
      have a1 := f20 c p u
      have a2 := f14 c p v
      exact ⟨a1.1.trans a2.1, a1.2.1.trans a2.2.1, a1.2.2.trans a2.2.2⟩
    have s3 : h20.2.2 3 a = X a := by rw [(f20' 3 a (fun q => by unfold PRe PRd PAx at q; omega) (by omega)).2.2]; exact h3
    have s13 : h20.2.2 1 3 = X 2 := by rw [(f20' 1 3 (fun q => by unfold PRe PRd PAx at q; omega) (by omega)).2.2]; exact h13
    have s11 : h20.1 1 1 = Int32.ofNat 0 := by rw [(f20 1 1 (fun q => by unfold PRe PRd PAx at q; omega)).1]; exact v11
    rw [rf_1_2 r20, i_cl (by omega), s3, s13]
    refine ⟨is_3, vi_ok (by omega) (show a < 2 from ha), isA_x hxa, ?_⟩
    intro v26 e26
    rw [e26]
    refine ⟨is_3, isA_x hx, vi_ok (by omega) (show a < 2 from ha), ?_⟩
    intro h32 e32 h34 e34
    have r34 : Refs h34 := by rw [e34, e32]; exact (r20.setR (rf_3 ha).1).setR rfl
    have t3 : h34.2.2 3 a = X 2 := by
      rw [e34, gR_R, if_neg (by omega), e32, gR_s]
    have t13 : h34.2.2 1 3 = X a := by rw [e34, gR_s]
    rw [rf_1_5 r34, rf_1_2 r34, t3]
    refine ⟨is_73, is_3, vi_ok (by omega) (show a < 2 from ha), isA_x hx, k_X0_beginning ⟨vi_ok (by omega) (show a < 2 from ha), ?_⟩⟩
    intro h44 e44
    have r44 : Refs h44 := by rw [e44]; exact r34.setL
    have i44 : h44.1 = h20.1 := by rw [e44, e34, e32]; rfl
    have l44 : ∀ c p, ¬ (c = 73 ∧ p = a) → h44.2.1 c p = h20.2.1 c p := fun c p u => by rw [e44, gL_L, if_neg u, e34, e32]; rfl
    have t3' : h44.2.2 3 a = X 2 := by rw [e44]; exact t3
    have t13' : h44.2.2 1 3 = X a := by rw [e44]; exact t13
    have t73 : h44.2.1 73 a = Int64.ofNat (en st0) := by rw [e44, gL_s]
    have f44 : Fr (PC0 (X 2) a) h h44 := by
      rw [e44, e34, e32]
      have fb : Fr (PC0 (X 2) a) h h20 := (f14.mono (fun c p q => Or.inr (Or.inl ⟨q.1, Or.inl q.2⟩)) : Fr (PC0 (X 2) a) h h14).trans (f20.mono (fun c p q => Or.inl q))
      exact ((fb.setR (by unfold PC0; omega)).setR (by unfold PC0; omega)).setL (by unfold PC0; omega)
    have g44 : Fr (PC1 (X 2) a) h h44 := f44.mono (fun c p q => Or.inl q)
    have rA44 : RepA h44 (X 2) R.2.2 := rA.fr (P := fun c p => ¬ (X 2 ≤ c ∧ c ≤ X 2 + 20)) (by
      intro c p u
      have u : X 2 ≤ c ∧ c ≤ X 2 + 20 := Classical.byContradiction u
      rw [e44]
      refine ⟨by rw [e34, e32]; rfl, ?_, ?_⟩
      · rw [gL_L, if_neg (by omega), e34, e32]; rfl
      · show h34.2.2 c p = _
        rw [e34, gR_R, if_neg (by omega), e32, gR_R, if_neg (by omega)]) (fun c p u v w => w ⟨u, v⟩)
    have v740 : h44.1 74 0 = h.1 74 0 := by rw [i44, (f20' 74 0 (fun q => by unfold PRe PRd PAx at q; omega) (by omega)).1]
    have v745 : h44.1 74 5 = h.1 74 5 := by rw [i44, (f20' 74 5 (fun q => by unfold PRe PRd PAx at q; omega) (by omega)).1]
    have w0 := rA44.1.1
    rw [rf_1_6 r44, rf_1_2 r44, t3', v740, w0]
    refine ⟨is_74, fun z => ⟨is_3, vi_ok (by omega) (show a < 2 from ha), isA_x hx, k_X9_granted ?_⟩, fun z => ⟨is_74, c_X1_drop (s_X1_drop_0 ⟨is_74, ?_⟩)⟩⟩
    · refine q1 e _ r44.setI (g44.setI (by unfold PC1 PC0; omega)) ?_ (gI_s _ _ _ _) t3' t13' t73 ?_ (rA44.fr (P := fun c p => c = 1 ∧ p = 12) ((Fr.refl _ _).setI ⟨rfl, rfl⟩) (fun c p u v w => by omega)) wD (fun u => absurd u z) (fun _ => f44.setI (by unfold PC0; omega))
      · rw [gI_p (by omega), i44]; exact s11
      · rw [gI_c (by omega), i44]; exact k3
    · intro h2' e2' h56 e56
      have f56 : Fr (fun c p => c = 74 ∧ (p = 0 ∨ p = 5)) h44 h56 := by rw [e56, e2']; exact ((Fr.refl _ _).setI (by omega)).setI (by omega)
      have r56 : Refs h56 := by rw [e56, e2']; exact r44.setI.setI
      have rA56 : RepA h56 (X 2) R.2.2 := rA44.fr f56 (fun c p u v w => by omega)
      have u3 : h56.2.2 3 a = X 2 := by rw [(f56 3 a (by omega)).2.2]; exact t3'
      rw [rf_1_2 r56, u3, rA56.1.1]
      refine ⟨is_3, vi_ok (by omega) (show a < 2 from ha), isA_x hx, k_X9_granted ?_⟩
      refine q1 e _ r56.setI ((g44.trans (f56.mono (fun c p q => Or.inr q))).setI (by unfold PC1 PC0; omega)) ?_ (gI_s _ _ _ _) u3 ?_ ?_ ?_ (rA56.fr (P := fun c p => c = 1 ∧ p = 12) ((Fr.refl _ _).setI ⟨rfl, rfl⟩) (fun c p u v w => by omega)) wD (fun u => ?_) (fun u => absurd z u)
      · rw [gI_p (by omega), (f56 1 1 (by omega)).1, i44]; exact s11
      · show h56.2.2 1 3 = _
        rw [(f56 1 3 (by omega)).2.2]; exact t13'
      · show h56.2.1 73 a = _
        rw [(f56 73 a (by omega)).2.1]; exact t73
      · rw [gI_c (by omega), (f56 67 3 (by omega)).1, i44]; exact k3
      · rw [gI_c (by omega), e56, gI_p (by omega), e2', gI_s]
  · refine q0 e _ r20.setI ?_ ?_ (gI_s _ _ _ _) ?_ ?_
    · refine Fr.setI ?_ (Or.inr ⟨rfl, Or.inr rfl⟩)
      exact Fr.trans (h1 := h14) (f14.mono (fun c p q => Or.inr ⟨q.1, Or.inl q.2⟩)) (f20.mono (fun c p q => Or.inl q))
    · rw [gI_p (by omega), (f20 1 1 (fun q => by unfold PRe PRd PAx at q; omega)).1]; exact v11
    · rw [gI_c (by omega)]; exact k3
    · rw [gI_c (by omega)]; exact k4
theorem app_M {l : Launch} {g : AG} {h : AH} {Y : Nat → Nat} {a n N : Nat} {T : Nat → Nat} {R : Nat × Nat × AD} {Q : Int32 → AH → Prop} (hr : Refs h) (ha : a < 2) (hy : isB (Y 2)) (hya : isB (Y a)) (h5 : h.2.2 103 5 = Y 2) (h4 : h.2.2 104 a = Y a) (hN : N ≤ 800) (hn : n ≤ N) (e1 : h.1 103 11 = Int32.ofNat N) (hT : ∀ k, k < n → T k < 256 ∧ h.1 129 k &&& 255 = Int32.ofNat (T k)) (wf : R.1 = 0 → WfD R.2.2) (er : runP (bt T n) 801 0 (fun _ _ => 0) 0 = some R)
    (q1 : R.1 = 0 → ∀ h1, Refs h1 → Fr (PM1 (Y 2) a) h h1 → h1.1 103 11 = Int32.ofNat 0 → h1.1 103 1 = 0 → h1.1 103 2 = -1 → h1.1 103 3 = 0 → h1.2.2 104 a = Y 2 → h1.2.2 103 5 = Y a → h1.1 125 a = 1 → h1.2.1 126 a = Int64.ofNat (ea st0 5) → h1.2.1 127 a = Int64.ofNat (eb st0.2.2.2.2 6) → RepB h1 (Y 2) R.2.2 → (h.1 103 24 = Int32.ofNat a → h1.1 103 24 = -1 ∧ h1.1 103 25 = 0) → (h.1 103 24 ≠ Int32.ofNat a → Fr (PM0 (Y 2) a) h h1) → Q (Int32.ofNat (R.2.2 0 0)) h1)
    (q0 : R.1 ≠ 0 → ∀ h1, Refs h1 → Fr (fun c p => PMe (Y 2) c p ∨ (c = 103 ∧ (p ≤ 3 ∨ (11 ≤ p ∧ p ≤ 13)))) h h1 → h1.1 103 11 = Int32.ofNat 0 → h1.1 103 1 = 3 → h1.1 103 3 = Int32.ofNat R.1 → h1.1 103 2 = Int32.ofNat R.2.1 → Q (-1) h1) : C_X12_app l g h 103 (Int32.ofNat a) (Int32.ofNat n) Q := by
  have hyu : Y 2 = 105 ∨ Y 2 = 154 ∨ Y 2 = 174 := hy
  refine c_X12_app (s_X12_app_0 ⟨is_103, ?_⟩)
  intro h2 e2
  have f2 : Fr (fun c p => c = 103 ∧ p = 0) h h2 := by rw [e2]; exact (Fr.refl _ _).setI ⟨rfl, rfl⟩
  refine ⟨fun z => absurd z (i_nn (by omega)), fun _ => ⟨fun _ => ⟨fun z => absurd z (i_nn (by omega)), fun _ => ?_⟩, fun z => absurd ((i_le (b := 1) (by omega) (by omega)).2 (by omega)) z⟩⟩
  rw [show h2.1 103 11 = Int32.ofNat N from by rw [(f2 103 11 (by omega)).1]; exact e1]
  refine ⟨fun _ => ?_, fun z => absurd ((i_le (by omega) (by omega)).2 hn) z⟩
  intro h14 e14 h16 e16 h18 e18 h20 e20
  have f20 : Fr (fun c p => c = 103 ∧ (p = 0 ∨ p = 3 ∨ (11 ≤ p ∧ p ≤ 13))) h h20 := by
    rw [e20, e18, e16, e14, e2]
    exact (((((Fr.refl _ _).setI (by omega)).setI (by omega)).setI (by omega)).setI (by omega)).setI (by omega)
  have r20 : Refs h20 := by rw [e20, e18, e16, e14, e2]; exact hr.setI.setI.setI.setI.setI
  have b12 : h20.1 103 12 = Int32.ofNat n := by rw [e20, gI_p (by omega), e18, gI_p (by omega), e16, gI_p (by omega), e14, gI_s]
  have b11 : h20.1 103 11 = Int32.ofNat 0 := by rw [e20, gI_p (by omega), e18, gI_p (by omega), e16, gI_s]; rfl
  have b13 : h20.1 103 13 = Int32.ofNat 0 := by rw [e20, gI_p (by omega), e18, gI_s]; rfl
  have b3 : h20.1 103 3 = 0 := by rw [e20, gI_s]
  have b5 : h20.2.2 103 5 = Y 2 := by rw [(f20 103 5 (by omega)).2.2]; exact h5
  refine m_reads hy (by omega) r20 b5 ⟨b12, fun k hk => ⟨(hT k hk).1, by rw [(f20 129 k (by omega)).1]; exact (hT k hk).2⟩⟩ b13 er ?_ ?_
  · intro h24 r24 f24 e c6 c7
    refine s_X12_app_65 ⟨is_103, is_128, ?_⟩
    rw [c6]
    intro h83 e83 h85 e85
    have d7 : h85.1 128 7 = Int32.ofNat R.2.1 := by rw [e85, gI_c (by omega), e83, gI_c (by omega)]; exact c7
    rw [d7]
    intro h87 e87
    refine q0 e h87 (by rw [e87, e85, e83]; exact r24.setI.setI.setI) ?_ ?_ ?_ ?_ ?_
    · rw [e87, e85, e83]
      refine Fr.setI (Fr.setI (Fr.setI (Fr.trans (h1 := h20) (f20.mono (fun c p q => ?_)) (f24.mono (fun c p q => Or.inl q))) (Or.inr ⟨rfl, by omega⟩)) (Or.inr ⟨rfl, by omega⟩)) (Or.inr ⟨rfl, by omega⟩)
      exact Or.inr (by omega)
    · rw [e87, gI_p (by omega), e85, gI_p (by omega), e83, gI_p (by omega), (f24 103 11 (fun q => by unfold PMe at q; omega)).1]; exact b11
    · rw [e87, gI_p (by omega), e85, gI_s]
    · rw [e87, gI_p (by omega), e85, gI_p (by omega), e83, gI_s]
    · rw [e87, gI_s]
  · intro h23 r23 f23 e rB
    have wD := wf e
    have wS : WS (R.2.2 0 0) st0 := WS.zero wD.1.1 wD.1.2.1
    have s4 : h23.2.2 104 a = Y a := by rw [(f23 104 a (fun q => by unfold PMe at q; omega)).2.2, (f20 104 a (by omega)).2.2]; exact h4
    have s5 : h23.2.2 103 5 = Y 2 := by rw [(f23 103 5 (fun q => by unfold PMe at q; omega)).2.2]; exact b5
    rw [rf_103_4 r23, i_cl (by omega), s4, s5]
    refine ⟨is_104, vi_ok (by omega) (show a < 2 from ha), isB_x hya, ?_⟩
    intro v28 e28
    rw [e28]
    refine ⟨is_104, isB_x hy, vi_ok (by omega) (show a < 2 from ha), ?_⟩
    intro h34 e34 h36 e36
    have r36 : Refs h36 := by rw [e36, e34]; exact (r23.setR (rf_3 ha).2).setR rfl
    rw [rf_103_6 r36]
    refine ⟨is_125, vi_ok (by omega) (show a < 2 from ha), ?_⟩
    intro h40 e40
    have r40 : Refs h40 := by rw [e40]; exact r36.setI
    have t4 : h40.2.2 104 a = Y 2 := by
      rw [e40]
      show h36.2.2 104 a = _
      rw [e36, gR_R, if_neg (by omega), e34, gR_s]
    have t5 : h40.2.2 103 5 = Y a := by
      rw [e40]
      show h36.2.2 103 5 = _
      rw [e36, gR_s]
    have i40 : ∀ c p, ¬ (c = 125 ∧ p = a) → h40.1 c p = h23.1 c p := fun c p u => by
      rw [e40, gI_I, if_neg u, e36, e34]; rfl
    have l40 : h40.2.1 = h23.2.1 := by rw [e40, e36, e34]; rfl
    have v125 : h40.1 125 a = 1 := by rw [e40, gI_s]; rfl
    have g40 : Fr (PM0 (Y 2) a) h h40 := by
      rw [e40, e36, e34]
      have fb : Fr (PM0 (Y 2) a) h h23 := (f20.mono (fun c p q => Or.inr (Or.inl (by omega))) : Fr (PM0 (Y 2) a) h h20).trans (f23.mono (fun c p q => Or.inl q))
      exact ((fb.setR (by unfold PM0; omega)).setR (by unfold PM0; omega)).setI (by unfold PM0; omega)
    refine k_X12_begins r40 (fun h43 f43 s43 => ?_)
    have r43 := f43.refs r40
    have e43 := f43.1
    have g43 := f43.fr
    rw [rf_103_7 r43]
    refine ⟨is_126, k_X12_packed r43 wS s43 ⟨vi_ok (by omega) (show a < 2 from ha), ?_⟩⟩
    intro h49 e49
    have r49 : Refs h49 := by rw [e49]; exact r43.setL
    have s49 : RepS h49 st0 := by rw [e49]; exact s43
    rw [rf_103_8 r49]
    refine ⟨is_127, k_X12_packedVars r49 wS s49 ⟨vi_ok (by omega) (show a < 2 from ha), ?_⟩⟩
    intro h56 e56
    have r56 : Refs h56 := by rw [e56]; exact r49.setL
    have i56 : h56.1 = h43.1 := by rw [e56, e49]; rfl
    have g56 : Fr (PM0 (Y 2) a) h h56 := by
      rw [e56, e49]
      exact ((g40.trans (g43.mono (fun c p q => by show PM0 (Y 2) a c p; unfold PS at q; unfold PM0; omega))).setL (by unfold PM0; omega)).setL (by unfold PM0; omega)
    have k56 : Fr (PM1 (Y 2) a) h h56 := g56.mono (fun c p q => Or.inl q)
    have w126 : h56.2.1 126 a = Int64.ofNat (ea st0 5) := by rw [e56, gL_L, if_neg (by omega), e49, gL_s]
    have w127 : h56.2.1 127 a = Int64.ofNat (eb st0.2.2.2.2 6) := by rw [e56, gL_s]
    have n56 : ∀ c p, ¬ PS c p → ¬ (c = 125 ∧ p = a) → h56.1 c p = h23.1 c p := fun c p u v => by
      rw [i56, (g43 c p u).1]; exact i40 c p v
    have rB56 : RepB h56 (Y 2) R.2.2 := rB.fr (P := fun c p => ¬ (Y 2 ≤ c ∧ c ≤ Y 2 + 19)) (by
      intro c p u
      have u : Y 2 ≤ c ∧ c ≤ Y 2 + 19 := Classical.byContradiction u
      refine ⟨n56 c p (fun q => by unfold PS at q; omega) (by omega), ?_, ?_⟩
      · rw [e56, gL_L, if_neg (by omega), e49, gL_L, if_neg (by omega), e43, l40]
      · rw [e56, e49]
        show h43.2.2 c p = _
        rw [e43, e40]
        show h36.2.2 c p = _
        rw [e36, gR_R, if_neg (by omega), e34, gR_R, if_neg (by omega)]) (fun c p u v w => w ⟨u, v⟩)
    have t4' : h56.2.2 104 a = Y 2 := by
      rw [e56, e49]
      show h43.2.2 104 a = _
      rw [e43]; exact t4
    have t5' : h56.2.2 103 5 = Y a := by
      rw [e56, e49]
      show h43.2.2 103 5 = _
      rw [e43]; exact t5
    have v24 : h56.1 103 24 = h.1 103 24 := by
      rw [n56 103 24 (fun q => by unfold PS at q; omega) (by omega), (f23 103 24 (fun q => by unfold PMe at q; omega)).1, (f20 103 24 (by omega)).1]
    have v25 : h56.1 103 25 = h.1 103 25 := by
      rw [n56 103 25 (fun q => by unfold PS at q; omega) (by omega), (f23 103 25 (fun q => by unfold PMe at q; omega)).1, (f20 103 25 (by omega)).1]
    have v11 : h56.1 103 11 = Int32.ofNat 0 := by
      rw [n56 103 11 (fun q => by unfold PS at q; omega) (by omega), (f23 103 11 (fun q => by unfold PMe at q; omega)).1]; exact b11
    have v3 : h56.1 103 3 = 0 := by
      rw [n56 103 3 (fun q => by unfold PS at q; omega) (by omega), (f23 103 3 (fun q => by unfold PMe at q; omega)).1]; exact b3
    have w125 : h56.1 125 a = 1 := by rw [i56, (g43 125 a (fun q => by unfold PS at q; omega)).1]; exact v125
    rw [rf_103_4 r56, t4', v24, rB56.1.1]
    refine ⟨fun z => ⟨is_104, vi_ok (by omega) (show a < 2 from ha), isB_x hy, k_X12_done ?_⟩, fun z => ?_⟩
    · refine q1 e _ r56.setI.setI ((k56.setI (by unfold PM1 PM0; omega)).setI (by unfold PM1 PM0; omega)) ?_ ?_ (gI_s _ _ _ _) ?_ t4' t5' ?_ w126 w127 (rB56.fr (P := fun c p => c = 103) (((Fr.refl (fun c p => c = 103) _).setI rfl).setI rfl) (fun c p u v w => by omega)) (fun u => absurd u z) (fun _ => (g56.setI (by unfold PM0; omega)).setI (by unfold PM0; omega))
      · rw [gI_p (by omega), gI_p (by omega)]; exact v11
      · rw [gI_p (by omega), gI_s]
      · rw [gI_p (by omega), gI_p (by omega)]; exact v3
      · rw [gI_c (by omega), gI_c (by omega)]; exact w125
    · intro h65 e65 h67 e67
      have f67 : Fr (fun c p => c = 103 ∧ (p = 24 ∨ p = 25)) h56 h67 := by rw [e67, e65]; exact ((Fr.refl _ _).setI (by omega)).setI (by omega)
      have r67 : Refs h67 := by rw [e67, e65]; exact r56.setI.setI
      have rB67 : RepB h67 (Y 2) R.2.2 := rB56.fr f67 (fun c p u v w => by omega)
      have u4 : h67.2.2 104 a = Y 2 := by rw [(f67 104 a (by omega)).2.2]; exact t4'
      rw [rf_103_4 r67, u4, rB67.1.1]
      refine ⟨is_104, vi_ok (by omega) (show a < 2 from ha), isB_x hy, k_X12_done ?_⟩
      refine q1 e _ r67.setI.setI (((k56.trans (f67.mono (fun c p q => Or.inr q))).setI (by unfold PM1 PM0; omega)).setI (by unfold PM1 PM0; omega)) ?_ ?_ (gI_s _ _ _ _) ?_ u4 ?_ ?_ ?_ ?_ (rB67.fr (P := fun c p => c = 103) (((Fr.refl (fun c p => c = 103) _).setI rfl).setI rfl) (fun c p u v w => by omega)) (fun u => ⟨?_, ?_⟩) (fun u => absurd z u)
      · rw [gI_p (by omega), gI_p (by omega), (f67 103 11 (by omega)).1]; exact v11
      · rw [gI_p (by omega), gI_s]
      · rw [gI_p (by omega), gI_p (by omega), (f67 103 3 (by omega)).1]; exact v3
      · show h67.2.2 103 5 = _
        rw [(f67 103 5 (by omega)).2.2]; exact t5'
      · rw [gI_c (by omega), gI_c (by omega), (f67 125 a (by omega)).1]; exact w125
      · show h67.2.1 126 a = _
        rw [(f67 126 a (by omega)).2.1]; exact w126
      · show h67.2.1 127 a = _
        rw [(f67 127 a (by omega)).2.1]; exact w127
      · rw [gI_p (by omega), gI_p (by omega), e67, gI_p (by omega), e65, gI_s]
      · rw [gI_p (by omega), gI_p (by omega), e67, gI_s]
