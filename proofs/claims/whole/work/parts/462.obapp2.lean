/-- the spare changes places with APP a -/
def sw (a b : Nat) : Nat := if b = a then 2 else if b = 2 then a else b
theorem sw_i : ∀ a : Fin 2, ∀ b c : Fin 3, sw a.1 b.1 = sw a.1 c.1 → b = c := by decide
theorem sw_l : ∀ a : Fin 2, ∀ b : Fin 3, sw a.1 b.1 < 3 := by decide
theorem sw_inj {a b c : Nat} (ha : a < 2) (hb : b < 3) (hc : c < 3) (e : sw a b = sw a c) : b = c := by
  have := sw_i ⟨a, ha⟩ ⟨b, hb⟩ ⟨c, hc⟩ e
  exact Fin.mk.inj this
theorem sw_lt {a b : Nat} (ha : a < 2) (hb : b < 3) : sw a b < 3 := sw_l ⟨a, ha⟩ ⟨b, hb⟩
theorem sw_a (a : Nat) : sw a a = 2 := if_pos rfl
theorem sw_2 {a : Nat} (ha : a < 2) : sw a 2 = a := by unfold sw; rw [if_neg (by omega), if_pos rfl]
theorem sw_n {a b : Nat} (h : b ≠ a) (h2 : b ≠ 2) : sw a b = b := by unfold sw; rw [if_neg h, if_neg h2]
theorem ob_app {l : Launch} {g : AG} (h : AH) (a1 a2 : Int32) (hI : Inv h) : C_X9_app l g h 1 a1 a2 (fun r h1 => C_X12_app l g h1 103 a1 a2 (fun r2 h2 => r2 = r ∧ Inv h2)) := by
  obtain ⟨X, Y, D, S, t, hI⟩ := hI
  obtain ⟨N, T, hN, n1, n2, hT⟩ := id hI.2.2.2.1
  -- a refusal
  have ref : ∀ k : Int32, k ≠ 3 → (∀ h2, h2 = ax_setI (ax_setI h 1 12 k) 103 0 0 → h2.1 103 11 = Int32.ofNat N) := fun k _ h2 e2 => by
    rw [e2, gI_p (by omega), gI_c (by omega)]; exact n2
  rcases i_split a1 with ha | ⟨a, ha, rfl⟩
  · refine c_X9_app (s_X9_app_0 ⟨fun _ => ⟨is_1, k_X9_refused ?_⟩, fun z => absurd ha z⟩)
    refine c_X12_app (s_X12_app_0 ⟨is_103, ?_⟩)
    intro h2 e2
    subst e2
    exact ⟨fun _ => ob_ref hI 1 (by decide), fun z => absurd ha z⟩
  by_cases a2' : a < 2
  · rcases i_split a2 with hb | ⟨n, hb, rfl⟩
    · refine c_X9_app (s_X9_app_0 ⟨fun z => absurd z (i_nn ha), fun _ => ⟨fun _ => ⟨fun _ => ⟨is_1, k_X9_refused ?_⟩, fun z => absurd hb z⟩, fun z => absurd ((i_lt (b := 2) (by omega) (by omega)).2 a2') z⟩⟩)
      refine c_X12_app (s_X12_app_0 ⟨is_103, ?_⟩)
      intro h2 e2
      subst e2
      exact ⟨fun z => absurd z (i_nn ha), fun _ => ⟨fun _ => ⟨fun _ => ob_ref hI 2 (by decide), fun z => absurd hb z⟩, fun z => absurd ((i_le (b := 1) (by omega) (by omega)).2 (by omega)) z⟩⟩
    · by_cases hn : n ≤ N
      · have hr := hI.1
        have hA := hI.2.1
        have hx2 := (hA.1 2 (by omega)).1
        have hy2 := (hA.1 2 (by omega)).2
        have hxu : X 2 = 4 ∨ X 2 = 25 ∨ X 2 = 46 := hx2
        have hyu : Y 2 = 105 ∨ Y 2 = 154 ∨ Y 2 = 174 := hy2
        have h13 := hA.2.2.2.2.2.1
        have h5 := hA.2.2.2.2.2.2.2.2
        obtain ⟨R, er⟩ := runP_end (T := T) (n := n) (fun k hk => (hT k (by omega)).1) (by omega) 801 0 (fun _ _ => 0) 0 (by omega) (by omega)
        have disX : ∀ b, b < 2 → X b ≠ X 2 := fun b hb e => by have := hA.2.1 b 2 (by omega) (by omega) e; omega
        have disY : ∀ b, b < 2 → Y b ≠ Y 2 := fun b hb e => by have := hA.2.2.1 b 2 (by omega) (by omega) e; omega
        refine app_C (X := X) hr a2' hx2 (hA.isx a2') h13 (hA.x a2') hN hn n1 (fun k hk => ⟨(hT k (by omega)).1, (hT k (by omega)).2.1⟩) er ?_ ?_
        · intro e h1 r1 f1 c11 c12 c3 c13 c73 c67 rA wD m1 m2
          have f1' : ∀ c p, PC1 (X 2) a c p → (X 2 ≤ c ∧ c ≤ X 2 + 20) ∨ (c = 67 ∧ 1 ≤ p) ∨ (70 ≤ c ∧ c ≤ 72) ∨ c = 68 ∨ (c = 1 ∧ (p = 1 ∨ p = 3 ∨ p = 12)) ∨ (c = 3 ∧ p = a) ∨ (c = 73 ∧ p = a) ∨ (c = 74 ∧ (p = 0 ∨ p = 5)) := fun c p q => by
            unfold PC1 PC0 PRe PRd PAx at q; omega
          refine app_M (Y := Y) r1 a2' hy2 (hA.isy a2') ?_ ?_ hN hn ?_ (fun k hk => ⟨(hT k (by omega)).1, ?_⟩) (fun _ => wD) er ?_ (fun u => absurd e u)
          · rw [(f1 103 5 (fun q => by have := f1' _ _ q; omega)).2.2]; exact h5
          · rw [(f1 104 a (fun q => by have := f1' _ _ q; omega)).2.2]; exact hA.y a2'
          · rw [(f1 103 11 (fun q => by have := f1' _ _ q; omega)).1]; exact n2
          · rw [(f1 129 k (fun q => by have := f1' _ _ q; omega)).1]; exact (hT k (by omega)).2.2
          · intro _ h2 r2 f2 d11 d1 d2 d3 d4 d5 d125 d126 d127 rB k1 k2
            refine ⟨rfl, fun b => X (sw a b), fun b => Y (sw a b), fun b => if b = a then R.2.2 else D b, fun b => if b = a then st0 else S b, fun b => b = a ∨ t b, ?_⟩
            have f2' : ∀ c p, PM1 (Y 2) a c p → (Y 2 ≤ c ∧ c ≤ Y 2 + 19) ∨ (c = 103 ∧ (p ≤ 3 ∨ p = 5 ∨ (11 ≤ p ∧ p ≤ 20) ∨ p = 24 ∨ p = 25)) ∨ (c = 128 ∧ 6 ≤ p) ∨ (c = 104 ∧ p = a) ∨ ((c = 125 ∨ c = 126 ∨ c = 127) ∧ p = a) ∨ (130 ≤ c ∧ c ≤ 132) := fun c p q => by
              unfold PM1 PM0 PMe at q; omega
            have rA2 : RepA h2 (X 2) R.2.2 := rA.fr f2 (fun c p u v q => by have := f2' _ _ q; omega)
            have oth : ∀ b, b < 2 → b ≠ a → IT h2 (X b) (Y b) b (D b) (S b) (t b) := fun b hb hne => by
              have xb := hA.isx hb
              have yb := hA.isy hb
              have dx := disX b hb
              have dy := disY b hb
              unfold isA at xb
              unfold isB at yb
              refine ((hI.2.2.1 b hb).fr f1 (fun c p q => ?_)).fr f2 (fun c p q => ?_)
              · have := f1' c p q
                omega
              · have := f2' c p q
                omega
            refine ⟨r2, ⟨fun b hb => hA.1 _ (sw_lt a2' hb), fun b c hb hc e => sw_inj a2' hb hc (hA.2.1 _ _ (sw_lt a2' hb) (sw_lt a2' hc) e), fun b c hb hc e => sw_inj a2' hb hc (hA.2.2.1 _ _ (sw_lt a2' hb) (sw_lt a2' hc) e), ?_, ?_, ?_, ?_, ?_, ?_⟩, ?_, ⟨0, T, by omega, ?_, d11, fun k hk => absurd hk (by omega)⟩, ⟨?_, ?_, ?_, ?_⟩, ?_, ?_, ?_⟩
            · show h2.2.2 3 0 = X (sw a 0)
              rw [(f2 3 0 (fun q => by have := f2' _ _ q; omega)).2.2]
              by_cases z : a = 0
              · rw [z] at c3 ⊢; rw [sw_a]; exact c3
              · rw [sw_n (by omega) (by omega), (f1 3 0 (fun q => by have := f1' _ _ q; omega)).2.2]; exact hA.x (by omega)
            · show h2.2.2 3 1 = X (sw a 1)
              rw [(f2 3 1 (fun q => by have := f2' _ _ q; omega)).2.2]
              by_cases z : a = 1
              · rw [z] at c3 ⊢; rw [sw_a]; exact c3
              · rw [sw_n (by omega) (by omega), (f1 3 1 (fun q => by have := f1' _ _ q; omega)).2.2]; exact hA.x (by omega)
            · show h2.2.2 1 3 = X (sw a 2)
              rw [(f2 1 3 (fun q => by have := f2' _ _ q; omega)).2.2, sw_2 a2']; exact c13
            · show h2.2.2 104 0 = Y (sw a 0)
              by_cases z : a = 0
              · rw [z] at d4 ⊢; rw [sw_a]; exact d4
              · rw [sw_n (by omega) (by omega), (f2 104 0 (fun q => by have := f2' _ _ q; omega)).2.2, (f1 104 0 (fun q => by have := f1' _ _ q; omega)).2.2]; exact hA.y (by omega)
            · show h2.2.2 104 1 = Y (sw a 1)
              by_cases z : a = 1
              · rw [z] at d4 ⊢; rw [sw_a]; exact d4
              · rw [sw_n (by omega) (by omega), (f2 104 1 (fun q => by have := f2' _ _ q; omega)).2.2, (f1 104 1 (fun q => by have := f1' _ _ q; omega)).2.2]; exact hA.y (by omega)
            · show h2.2.2 103 5 = Y (sw a 2)
              rw [sw_2 a2']; exact d5
            · intro b hb
              show IT h2 (X (sw a b)) (Y (sw a b)) b (if b = a then R.2.2 else D b) (if b = a then st0 else S b) (b = a ∨ t b)
              by_cases z : b = a
              · rw [z, sw_a, if_pos rfl, if_pos rfl]
                refine ⟨fun _ => ⟨d125, wD, rA2, rB, WS.zero wD.1.1 wD.1.2.1, ?_, d126, d127⟩, fun u => absurd (Or.inl rfl) u⟩
                rw [(f2 73 a (fun q => by have := f2' _ _ q; omega)).2.1]; exact c73
              · rw [sw_n z (by omega), if_neg z, if_neg z]
                have o := oth b hb z
                exact ⟨fun u => o.1 (u.resolve_left z), fun u => o.2 (fun v => u (Or.inr v))⟩
            · rw [(f2 1 1 (fun q => by have := f2' _ _ q; omega)).1]; exact c11
            · rw [(f2 67 3 (fun q => by have := f2' _ _ q; omega)).1, c67, d3]
            · rw [(f2 1 12 (fun q => by have := f2' _ _ q; omega)).1, c12, d1]
            · rw [(f2 1 12 (fun q => by have := f2' _ _ q; omega)).1, c12, d2, if_neg (by decide)]
            · rw [(f2 1 11 (fun q => by have := f2' _ _ q; omega)).1, (f1 1 11 (fun q => by have := f1' _ _ q; omega)).1, (f2 103 41 (fun q => by have := f2' _ _ q; omega)).1, (f1 103 41 (fun q => by have := f1' _ _ q; omega)).1]
              exact hI.2.2.2.2.1.2.2.2
            · exact (hI.2.2.2.2.2.1.fr f1 (fun c p q => by have := f1' c p q; omega)).fr f2 (fun c p q => by have := f2' c p q; omega)
            · have v740 : h2.1 74 0 = h1.1 74 0 := (f2 74 0 (fun q => by have := f2' _ _ q; omega)).1
              have v24 : h1.1 103 24 = h.1 103 24 := (f1 103 24 (fun q => by have := f1' _ _ q; omega)).1
              have v25 : h1.1 103 25 = h.1 103 25 := (f1 103 25 (fun q => by have := f1' _ _ q; omega)).1
              rw [v24] at k1 k2
              rcases hI.2.2.2.2.2.2.1 with ⟨z1, z2, z3⟩ | ⟨b, z1, z2, z3, z4, z5, n', ST, FR, BY, DP, LD, K, KD, z6⟩
              · left
                have ne1 : h.1 74 0 ≠ Int32.ofNat a := by rw [z1]; exact fun u => i_ne (by omega) u.symm
                have ne2 : h.1 103 24 ≠ Int32.ofNat a := by rw [z2]; exact fun u => i_ne (by omega) u.symm
                have g1 := m2 ne1
                have g2 := k2 ne2
                refine ⟨?_, ?_, ?_⟩
                · rw [v740, (g1 74 0 (fun q => by unfold PC0 PRe PRd PAx at q; omega)).1]; exact z1
                · rw [(g2 103 24 (fun q => by unfold PM0 PMe at q; omega)).1, v24]; exact z2
                · rw [(g2 103 25 (fun q => by unfold PM0 PMe at q; omega)).1, v25]; exact z3
              · by_cases u : b = a
                · left
                  rw [u] at z3 z4
                  exact ⟨by rw [v740]; exact m1 z3, (k1 z4).1, (k1 z4).2⟩
                · right
                  have ne1 : h.1 74 0 ≠ Int32.ofNat a := by rw [z3]; exact fun v => u ((i_eq (by omega) (by omega)).1 v)
                  have ne2 : h.1 103 24 ≠ Int32.ofNat a := by rw [z4]; exact fun v => u ((i_eq (by omega) (by omega)).1 v)
                  have g1 := m2 ne1
                  have g2 := k2 ne2
                  have xb := hA.isx z1
                  refine ⟨b, z1, Or.inr z2, ?_, ?_, ?_, n', ST, FR, BY, DP, LD, K, KD, ?_⟩
                  · rw [v740, (g1 74 0 (fun q => by unfold PC0 PRe PRd PAx at q; omega)).1]; exact z3
                  · rw [(g2 103 24 (fun q => by unfold PM0 PMe at q; omega)).1, v24]; exact z4
                  · show h2.2.2 74 1 = X (sw a b)
                    rw [sw_n u (by omega), (g2 74 1 (fun q => by unfold PM0 PMe at q; omega)).2.2, (g1 74 1 (fun q => by unfold PC0 PRe PRd PAx at q; omega)).2.2]; exact z5
                  · show MapI h2 (if b = a then R.2.2 else D b) n' ST FR BY DP LD K KD
                    rw [if_neg u]
                    exact (z6.fr g1 (fun c p q w => by unfold PC0 PRe PRd PAx at q; unfold PMAP at w; omega)).fr g2 (fun c p q w => by unfold PM0 PMe at q; unfold PMAP at w; omega)
            · exact (hI.2.2.2.2.2.2.2.fr f1 (fun c p q => by have := f1' c p q; omega)).fr f2 (fun c p q => by have := f2' c p q; omega)
        · intro e h1 r1 f1 c11 c12 c3 c4
          have f1' : ∀ c p, (PRe (X 2) c p ∨ (c = 1 ∧ (p = 1 ∨ p = 12))) → (X 2 ≤ c ∧ c ≤ X 2 + 20) ∨ (c = 67 ∧ 1 ≤ p) ∨ (70 ≤ c ∧ c ≤ 72) ∨ c = 68 ∨ (c = 1 ∧ (p = 1 ∨ p = 12)) := fun c p q => by
            unfold PRe PRd PAx at q; omega
          refine app_M (Y := Y) r1 a2' hy2 (hA.isy a2') ?_ ?_ hN hn ?_ (fun k hk => ⟨(hT k (by omega)).1, ?_⟩) (fun u => absurd u e) er (fun u => absurd u e) ?_
          · rw [(f1 103 5 (fun q => by have := f1' _ _ q; omega)).2.2]; exact h5
          · rw [(f1 104 a (fun q => by have := f1' _ _ q; omega)).2.2]; exact hA.y a2'
          · rw [(f1 103 11 (fun q => by have := f1' _ _ q; omega)).1]; exact n2
          · rw [(f1 129 k (fun q => by have := f1' _ _ q; omega)).1]; exact (hT k (by omega)).2.2
          · intro _ h2 r2 f2 d11 d1 d3 d2
            refine ⟨rfl, X, Y, D, S, t, ?_⟩
            have f2' : ∀ c p, (PMe (Y 2) c p ∨ (c = 103 ∧ (p ≤ 3 ∨ (11 ≤ p ∧ p ≤ 13)))) → (Y 2 ≤ c ∧ c ≤ Y 2 + 19) ∨ (c = 103 ∧ (p ≤ 3 ∨ (11 ≤ p ∧ p ≤ 18))) ∨ (c = 128 ∧ 6 ≤ p) := fun c p q => by
              unfold PMe at q; omega
            refine ⟨r2, (hA.fr f1 (fun c p q => by have := f1' c p q; omega)).fr f2 (fun c p q => by have := f2' c p q; omega), fun b hb => ?_, ⟨0, T, by omega, ?_, d11, fun k hk => absurd hk (by omega)⟩, ⟨?_, ?_, ?_, ?_⟩, (hI.2.2.2.2.2.1.fr f1 (fun c p q => by have := f1' c p q; omega)).fr f2 (fun c p q => by have := f2' c p q; omega), (hI.2.2.2.2.2.2.1.fr f1 (fun c p q w => by have := f1' c p q; unfold PMAP at w; omega)).fr f2 (fun c p q w => by have := f2' c p q; unfold PMAP at w; omega), (hI.2.2.2.2.2.2.2.fr f1 (fun c p q => by have := f1' c p q; omega)).fr f2 (fun c p q => by have := f2' c p q; omega)⟩
            · have xb := hA.isx hb
              have yb := hA.isy hb
              have dx := disX b hb
              have dy := disY b hb
              unfold isA at xb
              unfold isB at yb
              refine ((hI.2.2.1 b hb).fr f1 (fun c p q => ?_)).fr f2 (fun c p q => ?_)
              · have := f1' c p q
                omega
              · have := f2' c p q
                omega
            · rw [(f2 1 1 (fun q => by have := f2' _ _ q; omega)).1]; exact c11
            · rw [(f2 67 3 (fun q => by have := f2' _ _ q; omega)).1, c3, d3]
            · rw [(f2 1 12 (fun q => by have := f2' _ _ q; omega)).1, c12, d1]
            · rw [(f2 1 12 (fun q => by have := f2' _ _ q; omega)).1, c12, d2, if_pos rfl, (f2 67 4 (fun q => by have := f2' _ _ q; omega)).1, c4]
            · rw [(f2 1 11 (fun q => by have := f2' _ _ q; omega)).1, (f1 1 11 (fun q => by have := f1' _ _ q; omega)).1, (f2 103 41 (fun q => by have := f2' _ _ q; omega)).1, (f1 103 41 (fun q => by have := f1' _ _ q; omega)).1]
              exact hI.2.2.2.2.1.2.2.2
      · refine c_X9_app (s_X9_app_0 ⟨fun z => absurd z (i_nn ha), fun _ => ⟨fun _ => ⟨fun z => absurd z (i_nn hb), fun _ => ⟨is_1, fun z => ?_, fun _ => k_X9_refused ?_⟩⟩, fun z => absurd ((i_lt (b := 2) (by omega) (by omega)).2 a2') z⟩⟩)
        · rw [n1] at z
          exact absurd ((i_le (by omega) (by omega)).1 z) hn
        · refine c_X12_app (s_X12_app_0 ⟨is_103, ?_⟩)
          intro h2 e2
          have v11 := ref 2 (by decide) h2 e2
          subst e2
          refine ⟨fun z => absurd z (i_nn ha), fun _ => ⟨fun _ => ⟨fun z => absurd z (i_nn hb), fun _ => ⟨fun z => ?_, fun _ => ob_ref hI 2 (by decide)⟩⟩, fun z => absurd ((i_le (b := 1) (by omega) (by omega)).2 (by omega)) z⟩⟩
          rw [v11] at z
          exact absurd ((i_le (by omega) (by omega)).1 z) hn
  · refine c_X9_app (s_X9_app_0 ⟨fun z => absurd z (i_nn ha), fun _ => ⟨fun z => absurd ((i_lt (b := 2) (by omega) (by omega)).1 z) a2', fun _ => ⟨is_1, k_X9_refused ?_⟩⟩⟩)
    refine c_X12_app (s_X12_app_0 ⟨is_103, ?_⟩)
    intro h2 e2
    subst e2
    exact ⟨fun z => absurd z (i_nn ha), fun _ => ⟨fun z => absurd ((i_le (b := 1) (by omega) (by omega)).1 z) (by omega), fun _ => ob_ref hI 1 (by decide)⟩⟩
