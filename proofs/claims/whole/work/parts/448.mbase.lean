/-- reading goes on from (a, D) at byte p and ends in R -/
def RunS (T : Nat → Nat) (n a : Nat) (D : AD) (p : Nat) (R : Nat × Nat × AD) : Prop := p ≤ n ∧ WfP a D p ∧ ∃ f, runP (bt T n) f a D p = some R
theorem stp_end {a : Nat} {D : AD} {v pl : Nat} (ha : a ≠ 0) (h : a ≤ 21) : (stp a D 0 v pl).1 = 1 := by
  have nk : ∀ j, ¬ isK j 0 v := fun j z => absurd z.1 (by decide)
  match a, ha, h with
  | 0, ha, _ => exact absurd rfl ha
  | 1, _, _ => rw [stp_1, if_pos (by omega)]
  | 2, _, _ => rw [stp_2, if_pos (by omega)]
  | 3, _, _ => rw [stp_3, if_neg (by omega)]
  | 4, _, _ => rw [stp_4, if_pos (by omega)]
  | 5, _, _ => rw [stp_5, if_neg (by omega)]
  | 6, _, _ =>
    rw [stp_6, if_neg (by omega)]
    by_cases c : 0 < D 8 (D 0 0 - 1)
    · rw [if_pos c]
    · rw [if_neg c, if_neg (nk 1), if_neg (nk 3), if_pos (Or.inr (nk 11))]
  | 7, _, _ => rw [stp_7, if_pos (by omega)]
  | 8, _, _ => rw [stp_8, if_neg (by omega)]
  | 9, _, _ => rw [stp_9, if_pos (by omega)]
  | 10, _, _ => rw [stp_10, if_neg (nk 7), if_neg (nk 5)]
  | 11, _, _ => rw [stp_11, if_pos (by omega)]
  | 12, _, _ => rw [stp_12, if_neg (by omega)]
  | 13, _, _ => rw [stp_13, if_pos (by omega)]
  | 14, _, _ => rw [stp_14, if_neg (nk 2), if_neg (nk 5)]
  | 15, _, _ => rw [stp_15, if_pos (by omega)]
  | 16, _, _ => rw [stp_16, if_neg (nk 5)]
  | 17, _, _ =>
    have e : dSaid 0 v = 5 := by
      unfold dSaid
      rw [if_neg (nk 9), if_neg (nk 4), if_neg (nk 10), if_neg (nk 0), if_neg (nk 6)]
    rw [stp_17, if_pos e]
  | 18, _, _ => rw [stp_18, if_pos (by omega)]
  | 19, _, _ => rw [stp_19, if_pos (by omega)]
  | 20, _, _ => rw [stp_20, if_pos (by omega)]
  | 21, _, _ => rw [stp_21, if_neg (by omega), if_neg (by omega)]
  | (k + 22), _, h => exact absurd h (by omega)
theorem run_ok {T : Nat → Nat} {n a b p : Nat} {D E : AD} {R : Nat × Nat × AD} (hT : ∀ k, k < n → T k < 256) (hn : n ≤ 800) (r : RunS T n a D p R) (e : stp a D (tk (bt T n) p).1 (tk (bt T n) p).2.1 (tk (bt T n) p).2.2.1 = (0, b, E)) (hk : (tk (bt T n) p).1 ≠ 0) : RunS T n b E (tk (bt T n) p).2.2.2 R ∧ p < (tk (bt T n) p).2.2.2 := by
  obtain ⟨hp, wf, f, er⟩ := r
  have ok := tk_ok hT hn hp
  have lt := tk_lt (T := T) hn hp hk
  have h4 := ok.2.2.2.1
  have e1 : (stp a D (tk (bt T n) p).1 (tk (bt T n) p).2.1 (tk (bt T n) p).2.2.1).1 = 0 := by rw [e]
  have w := wfp_stp wf ok.1 lt ok.2.2.2.2.2.1 e1
  rw [e] at w
  refine ⟨⟨ok.2.2.1, w, ?_⟩, by omega⟩
  cases f with
  | zero => exact absurd er (fun z => by unfold runP at z; cases z)
  | succ f =>
    rw [runP_s, if_neg hk, if_pos e1, e] at er
    exact ⟨f, er⟩
theorem run_bad {T : Nat → Nat} {n a b p c : Nat} {D E : AD} {R : Nat × Nat × AD} (r : RunS T n a D p R) (e : stp a D (tk (bt T n) p).1 (tk (bt T n) p).2.1 (tk (bt T n) p).2.2.1 = (c, b, E)) (hc : c ≠ 0) (ha : a ≠ 0 ∨ (tk (bt T n) p).1 ≠ 0) : R.1 = c ∧ R.2.1 = (tk (bt T n) p).2.2.1 := by
  obtain ⟨hp, wf, f, er⟩ := r
  have a21 := Ga_le wf.2
  cases f with
  | zero => exact absurd er (fun z => by unfold runP at z; cases z)
  | succ f =>
    have e1 : (stp a D (tk (bt T n) p).1 (tk (bt T n) p).2.1 (tk (bt T n) p).2.2.1).1 = c := by rw [e]
    rw [runP_s] at er
    by_cases z : (tk (bt T n) p).1 = 0
    · have ha0 : a ≠ 0 := by
        rcases ha with y | y
        · exact y
        · exact absurd z y
      rw [if_pos z, if_neg (fun y => ha0 y.1)] at er
      have er := Option.some.inj er
      rw [z, stp_end ha0 a21] at e1
      rw [← er]
      exact ⟨e1, rfl⟩
    · rw [if_neg z, if_neg (by rw [e1]; exact hc)] at er
      have er := Option.some.inj er
      rw [← er]
      exact ⟨e1, rfl⟩
/-- what the model's reading touches -/
def PMe (y c p : Nat) : Prop := (y ≤ c ∧ c ≤ y + 19) ∨ (c = 103 ∧ 13 ≤ p ∧ p ≤ 18) ∨ (c = 128 ∧ 6 ≤ p)
def MS (h0 h : AH) (y : Nat) (T : Nat → Nat) (n : Nat) : Prop := Refs h ∧ h.2.2 103 5 = y ∧ TapM h T n ∧ Fr (PMe y) h0 h
theorem TokM.fr {P : Nat → Nat → Prop} {h h1 : AH} {t : Nat × Nat × Nat × Nat} (c : TokM h t) (f : Fr P h h1) (e : ∀ c p, P c p → c ≠ 103) : TokM h1 t := by
  unfold TokM
  rw [(f 103 14 (fun q => e _ _ q rfl)).1, (f 103 15 (fun q => e _ _ q rfl)).1, (f 103 13 (fun q => e _ _ q rfl)).1, (f 103 16 (fun q => e _ _ q rfl)).1, (f 103 18 (fun q => e _ _ q rfl)).2.1, (f 103 17 (fun q => e _ _ q rfl)).1]
  exact c
theorem MS.step {h0 h h1 : AH} {y : Nat} {T : Nat → Nat} {n : Nat} (hy : isB y) (m : MS h0 h y T n) (f : Fr (PMe y) h h1) (r : Refs h1) : MS h0 h1 y T n := by
  have hyu : y = 105 ∨ y = 154 ∨ y = 174 := hy
  obtain ⟨a, b, c, d⟩ := m
  refine ⟨r, ?_, c.fr f (fun c p q => by unfold PMe at q; omega), d.trans f⟩
  rw [(f 103 5 (fun q => by unfold PMe at q; omega)).2.2]
  exact b
theorem MS.I {h0 h : AH} {y c p : Nat} {v : Int32} {T : Nat → Nat} {n : Nat} (hy : isB y) (m : MS h0 h y T n) (e : PMe y c p) : MS h0 (ax_setI h c p v) y T n := m.step hy ((Fr.refl _ _).setI e) m.1.setI
theorem MS.L {h0 h : AH} {y c p : Nat} {v : Int64} {T : Nat → Nat} {n : Nat} (hy : isB y) (m : MS h0 h y T n) (e : PMe y c p) : MS h0 (ax_setL h c p v) y T n := m.step hy ((Fr.refl _ _).setL e) m.1.setL
theorem TokM.I {h : AH} {c p : Nat} {v : Int32} {t : Nat × Nat × Nat × Nat} (tm : TokM h t) (e : c ≠ 103) : TokM (ax_setI h c p v) t := tm.fr (P := fun a _ => a = c) ((Fr.refl _ _).setI rfl) (fun a _ q => by omega)
theorem TokM.L {h : AH} {c p : Nat} {v : Int64} {t : Nat × Nat × Nat × Nat} (tm : TokM h t) (e : c ≠ 103) : TokM (ax_setL h c p v) t := tm.fr (P := fun a _ => a = c) ((Fr.refl _ _).setL rfl) (fun a _ q => by omega)
/-- a fault's end -/
def XQ (h0 : AH) (y : Nat) (R : Nat × Nat × AD) (X : AH → Prop) : Prop := ∀ h', Refs h' → Fr (PMe y) h0 h' → R.1 ≠ 0 → h'.1 128 6 = Int32.ofNat R.1 → h'.1 128 7 = Int32.ofNat R.2.1 → X h'
theorem m_stop0 {l : Launch} {g : AG} {h0 h : AH} {y c pl : Nat} {T : Nat → Nat} {n : Nat} {R : Nat × Nat × AD} {X : AH → Prop} (hy : isB y) (m : MS h0 h y T n) (xq : XQ h0 y R X) (hc : c ≠ 0) (e : R.1 = c ∧ R.2.1 = pl) : C_X12_stop l g h 103 (Int32.ofNat c) (Int32.ofNat pl) (fun r h' => r = 128 ∧ X h') := by
  obtain ⟨r, m5, te, f⟩ := m
  refine c_X12_stop (s_X12_stop_0 ?_)
  rw [rf_103_9 r]
  refine ⟨is_103, is_128, ?_⟩
  intro h3 e3
  have r3 : Refs h3 := by rw [e3]; exact r.setI
  rw [rf_103_9 r3]
  refine ⟨is_128, ?_⟩
  intro h6 e6
  have r6 : Refs h6 := by rw [e6]; exact r3.setI
  rw [rf_103_9 r6]
  refine ⟨is_128, rfl, xq h6 r6 ?_ (by rw [e.1]; exact hc) ?_ ?_⟩
  · rw [e6, e3]
    exact (f.setI (by unfold PMe; omega)).setI (by unfold PMe; omega)
  · rw [e6, gI_p (by omega), e3, gI_s, e.1]
  · rw [e6, gI_s, e.2]
theorem m_stop {l : Launch} {g : AG} {h0 h : AH} {y c : Nat} {T : Nat → Nat} {n : Nat} {t : Nat × Nat × Nat × Nat} {R : Nat × Nat × AD} {X : AH → Prop} (hy : isB y) (m : MS h0 h y T n) (tm : TokM h t) (xq : XQ h0 y R X) (hc : c ≠ 0) (e : R.1 = c ∧ R.2.1 = t.2.2.1) : C_X12_stop l g h 103 (Int32.ofNat c) (h.1 103 15) (fun r h' => r = 128 ∧ X h') := by
  rw [tm.2.1]
  exact m_stop0 hy m xq hc e
theorem srt_le (k : Nat) : srt k ≤ 4 := by
  unfold srt
  split
  · omega
  · split
    · omega
    · split
      · omega
      · split <;> omega
theorem srt_2 {k : Nat} : srt k = 2 ↔ k = 1 := by
  unfold srt
  by_cases c0 : k = 0
  · rw [if_pos c0]; omega
  · rw [if_neg c0]
    by_cases c1 : k = 1
    · rw [if_pos c1]; omega
    · rw [if_neg c1]
      by_cases c2 : k = 2
      · rw [if_pos c2]; omega
      · rw [if_neg c2]
        by_cases c3 : k = 3
        · rw [if_pos c3]; omega
        · rw [if_neg c3]; omega
theorem srt_3 {k : Nat} : srt k = 3 ↔ k = 2 := by
  unfold srt
  by_cases c0 : k = 0
  · rw [if_pos c0]; omega
  · rw [if_neg c0]
    by_cases c1 : k = 1
    · rw [if_pos c1]; omega
    · rw [if_neg c1]
      by_cases c2 : k = 2
      · rw [if_pos c2]; omega
      · rw [if_neg c2]
        by_cases c3 : k = 3
        · rw [if_pos c3]; omega
        · rw [if_neg c3]; omega
theorem srt_4 {k : Nat} : srt k = 4 ↔ 3 < k := by
  unfold srt
  by_cases c0 : k = 0
  · rw [if_pos c0]; omega
  · rw [if_neg c0]
    by_cases c1 : k = 1
    · rw [if_pos c1]; omega
    · rw [if_neg c1]
      by_cases c2 : k = 2
      · rw [if_pos c2]; omega
      · rw [if_neg c2]
        by_cases c3 : k = 3
        · rw [if_pos c3]; omega
        · rw [if_neg c3]; omega
theorem srt_1 {k : Nat} : srt k = 1 ↔ k = 0 := by
  unfold srt
  by_cases c0 : k = 0
  · rw [if_pos c0]; omega
  · rw [if_neg c0]
    by_cases c1 : k = 1
    · rw [if_pos c1]; omega
    · rw [if_neg c1]
      by_cases c2 : k = 2
      · rw [if_pos c2]; omega
      · rw [if_neg c2]
        by_cases c3 : k = 3
        · rw [if_pos c3]; omega
        · rw [if_neg c3]; omega
theorem tm_k {h : AH} {t : Nat × Nat × Nat × Nat} {c : Nat} (tm : TokM h t) (hc : c < 10) : h.1 103 14 = Int32.ofNat c ↔ srt t.1 = c := by
  have := srt_le t.1
  rw [tm.1]
  exact i_eq (by omega) (by omega)
theorem k_wordOf {l : Launch} {g : AG} {h : AH} {Q : Int64 → AH → Prop} (j : Nat) (hj : j < 14) (q : Q (Int64.ofNat (kc j)) h) : C_X12_wordOf l g h (1000 + j) Q := by
  have k8 := kl_8 ⟨j, hj⟩
  have k8' : kl j ≤ 8 := k8.2
  have M : ∀ d i, i + d = kl j → L_X12_wordOf_4 l g h (1000 + j) (Int64.ofNat (wM (kb j) 0 i)) (Int32.ofNat i) Q := by
    intro d
    induction d with
    | zero =>
      intro i hi
      refine s_X12_wordOf_4 ⟨by omega, fun _ => ?_, fun z => ?_⟩
      · rw [show i = kl j by omega]; exact q
      · refine absurd ?_ z
        rw [show 1000 + j - 1000 = j by omega]
        exact (i_le (b := i) (a := kl j) (by omega) (by omega)).2 (by omega)
    | succ d ih =>
      intro i hi
      have ki := key_le hj (show i < kl j by omega)
      refine s_X12_wordOf_4 ⟨by omega, fun z => ?_, fun _ => ⟨by omega, ?_⟩⟩
      · rw [show 1000 + j - 1000 = j by omega] at z
        exact absurd ((i_le (b := i) (a := kl j) (by omega) (by omega)).1 z) (by omega)
      · rw [show 1000 + j - 1000 = j by omega, i_cl (by omega), ki.2.2]
        refine ⟨vi_ok (by omega) (show i < kl j by omega), ?_⟩
        intro v5 e5
        rw [e5]
        intro v7 e7 v9 e9
        rw [show (97 : Int32) = Int32.ofNat 97 from rfl, show (1 : Int32) = Int32.ofNat 1 from rfl, i_sub (by omega), i_add, l_of (by omega), show (32 : Int64) = Int64.ofNat 32 from rfl, l_mul, l_add] at e7
        rw [show (1 : Int32) = Int32.ofNat 1 from rfl, i_add] at e9
        rw [e7, e9]
        have := ih (i + 1) (by omega)
        have e : wM (kb j) 0 (i + 1) = 32 * wM (kb j) 0 i + (kb j i - 97 + 1) := by
          show 32 * wM (kb j) 0 i + (kb j (0 + i) - 96) = _
          rw [Nat.zero_add]
          omega
        rw [e] at this
        exact this
  exact c_X12_wordOf (s_X12_wordOf_0 (M (kl j) 0 (by omega)))
theorem m_isWord {l : Launch} {g : AG} {h : AH} {t : Nat × Nat × Nat × Nat} {Q : Int32 → AH → Prop} (j : Nat) (hj : j < 14) (tm : TokM h t) (hw : t.1 = 1 → isW t.2.1) (q1 : isK j t.1 t.2.1 → Q 1 h) (q0 : ¬ isK j t.1 t.2.1 → Q 0 h) : C_X12_isWord l g h 103 (1000 + j) Q := by
  refine c_X12_isWord (s_X12_isWord_0 ⟨is_103, fun z => q0 (fun y => z ((tm_k (c := 2) tm (by omega)).2 (srt_2.2 y.1))), fun z => ?_⟩)
  have t1 : t.1 = 1 := srt_2.1 ((tm_k (c := 2) tm (by omega)).1 z)
  refine k_wordOf j hj ⟨fun z => q0 (fun y => z ?_), fun z => q1 ⟨t1, ?_⟩⟩
  · rw [tm.2.2.2.2.1 t1, y.2]
    exact (lg_e _ _).2 rfl
  · have e := (lg_e _ _).1 z
    rw [tm.2.2.2.2.1 t1] at e
    have a := hw t1
    have b := kc_w hj
    unfold isW at a
    exact (l_eq (by omega) (by omega)).1 e
theorem m_is {l : Launch} {g : AG} {h : AH} {t : Nat × Nat × Nat × Nat} {Q : Int32 → AH → Prop} (sg : Nat) (h3 : 3 < sg) (hs : sg < 256) (tm : TokM h t) (tk1 : t.1 < 256) (q1 : t.1 = sg → Q 1 h) (q0 : t.1 ≠ sg → Q 0 h) : C_X12_is l g h 103 (Int32.ofNat sg) Q := by
  refine c_X12_is (s_X12_is_0 ⟨is_103, fun z => q0 (fun y => z ((tm_k (c := 4) tm (by omega)).2 (srt_4.2 (by omega)))), fun z => ?_⟩)
  have t4 : 3 < t.1 := srt_4.1 ((tm_k (c := 4) tm (by omega)).1 z)
  rw [tm.2.2.2.1 t4]
  exact ⟨fun y => q0 (fun u => y (by rw [u])), fun y => q1 ((i_eq (by omega) (by omega)).1 y)⟩
theorem m_next {l : Launch} {g : AG} {h0 h : AH} {y : Nat} {T : Nat → Nat} {n p : Nat} {Q : AH → Prop} (hy : isB y) (hn : n ≤ 800) (hp : p ≤ n) (m : MS h0 h y T n) (tm : TokM h (tk (bt T n) p)) (h3 : (tk (bt T n) p).1 ≠ 3) (hq : ∀ h', MS h0 h' y T n → Fr PNx h h' → TokM h' (tk (bt T n) (tk (bt T n) p).2.2.2) → Q h') : C_X12_next l g h 103 Q := by
  have ok := tk_ok (fun k hk => (m.2.2.1.2 k hk).1) hn hp
  exact k_next m.1 hn ok.2.2.1 m.2.2.1 (tm.2.2.1 h3) (fun h' r' f' tm' => hq h' (m.step hy (f'.mono (fun c p q => by unfold PNx at q; unfold PMe; omega)) r') f' tm')
theorem m_need {l : Launch} {g : AG} {h0 h : AH} {y : Nat} {T : Nat → Nat} {n a b p : Nat} {D E : AD} {R : Nat × Nat × AD} {Q X : AH → Prop} (sg : Nat) (h3 : 3 < sg) (hs : sg < 256) (hy : isB y) (hn : n ≤ 800) (m : MS h0 h y T n) (tm : TokM h (tk (bt T n) p)) (run : RunS T n a D p R) (ha : a ≠ 0) (xq : XQ h0 y R X) (e1 : (tk (bt T n) p).1 = sg → stp a D (tk (bt T n) p).1 (tk (bt T n) p).2.1 (tk (bt T n) p).2.2.1 = (0, b, E)) (e0 : (tk (bt T n) p).1 ≠ sg → stp a D (tk (bt T n) p).1 (tk (bt T n) p).2.1 (tk (bt T n) p).2.2.1 = (1, 0, D))
    (hq : ∀ h', MS h0 h' y T n → Fr PNx h h' → TokM h' (tk (bt T n) (tk (bt T n) p).2.2.2) → RunS T n b E (tk (bt T n) p).2.2.2 R → p < (tk (bt T n) p).2.2.2 → Q h') : C_X12_need l g h 103 (Int32.ofNat sg) Q X := by
  have hT := fun k hk => (m.2.2.1.2 k hk).1
  have ok := tk_ok hT hn run.1
  refine c_X12_need (s_X12_need_0 ⟨is_103, m_is sg h3 hs tm ok.2.2.2.2.1 (fun z => ⟨fun _ => ?_, fun y => absurd y (by decide)⟩) (fun z => ⟨fun y => absurd rfl y, fun _ => ?_⟩)⟩)
  · have r := run_ok hT hn run (e1 z) (by omega)
    exact m_next hy hn run.1 m tm (by omega) (fun h' m' f' tm' => hq h' m' f' tm' r.1 r.2)
  · exact m_stop (c := 1) hy m tm xq (by omega) (run_bad run (e0 z) (by omega) (Or.inl ha))
theorem m_needWord {l : Launch} {g : AG} {h0 h : AH} {y : Nat} {T : Nat → Nat} {n a b p : Nat} {D E : AD} {R : Nat × Nat × AD} {Q X : AH → Prop} (j : Nat) (hj : j < 14) (hy : isB y) (hn : n ≤ 800) (m : MS h0 h y T n) (tm : TokM h (tk (bt T n) p)) (run : RunS T n a D p R) (ha : a ≠ 0) (xq : XQ h0 y R X) (e1 : isK j (tk (bt T n) p).1 (tk (bt T n) p).2.1 → stp a D (tk (bt T n) p).1 (tk (bt T n) p).2.1 (tk (bt T n) p).2.2.1 = (0, b, E)) (e0 : ¬ isK j (tk (bt T n) p).1 (tk (bt T n) p).2.1 → stp a D (tk (bt T n) p).1 (tk (bt T n) p).2.1 (tk (bt T n) p).2.2.1 = (1, 0, D))
    (hq : ∀ h', MS h0 h' y T n → Fr PNx h h' → TokM h' (tk (bt T n) (tk (bt T n) p).2.2.2) → RunS T n b E (tk (bt T n) p).2.2.2 R → p < (tk (bt T n) p).2.2.2 → Q h') : C_X12_needWord l g h 103 (1000 + j) Q X := by
  have hT := fun k hk => (m.2.2.1.2 k hk).1
  have ok := tk_ok hT hn run.1
  refine c_X12_needWord (s_X12_needWord_0 ⟨is_103, m_isWord j hj tm ok.2.2.2.2.2.1 (fun z => ⟨fun _ => ?_, fun y => absurd y (by decide)⟩) (fun z => ⟨fun y => absurd rfl y, fun _ => ?_⟩)⟩)
  · have z1 := z.1
    have r := run_ok hT hn run (e1 z) (by omega)
    exact m_next hy hn run.1 m tm (by omega) (fun h' m' f' tm' => hq h' m' f' tm' r.1 r.2)
  · exact m_stop (c := 1) hy m tm xq (by omega) (run_bad run (e0 z) (by omega) (Or.inl ha))
theorem m_needNumber {l : Launch} {g : AG} {h0 h : AH} {y : Nat} {T : Nat → Nat} {n a b p lo hi : Nat} {D E : AD} {R : Nat × Nat × AD} {Q : Int32 → AH → Prop} {X : AH → Prop} (hlo : lo < 100) (hhi : hi < 100) (hy : isB y) (hn : n ≤ 800) (m : MS h0 h y T n) (tm : TokM h (tk (bt T n) p)) (run : RunS T n a D p R) (ha : a ≠ 0) (xq : XQ h0 y R X) (e1 : (tk (bt T n) p).1 ≠ 2 → stp a D (tk (bt T n) p).1 (tk (bt T n) p).2.1 (tk (bt T n) p).2.2.1 = (1, 0, D)) (e4 : (tk (bt T n) p).1 = 2 → ((tk (bt T n) p).2.1 < lo ∨ hi < (tk (bt T n) p).2.1) → stp a D (tk (bt T n) p).1 (tk (bt T n) p).2.1 (tk (bt T n) p).2.2.1 = (4, 0, D)) (e0 : (tk (bt T n) p).1 = 2 → lo ≤ (tk (bt T n) p).2.1 → (tk (bt T n) p).2.1 ≤ hi → stp a D (tk (bt T n) p).1 (tk (bt T n) p).2.1 (tk (bt T n) p).2.2.1 = (0, b, E))
    (hq : (tk (bt T n) p).1 = 2 → lo ≤ (tk (bt T n) p).2.1 → (tk (bt T n) p).2.1 ≤ hi → ∀ h', MS h0 h' y T n → Fr PNx h h' → TokM h' (tk (bt T n) (tk (bt T n) p).2.2.2) → RunS T n b E (tk (bt T n) p).2.2.2 R → p < (tk (bt T n) p).2.2.2 → Q (Int32.ofNat (tk (bt T n) p).2.1) h') : C_X12_needNumber l g h 103 (Int32.ofNat lo) (Int32.ofNat hi) Q X := by
  have hT := fun k hk => (m.2.2.1.2 k hk).1
  have ok := tk_ok hT hn run.1
  refine c_X12_needNumber (s_X12_needNumber_0 ⟨is_103, fun z => ?_, fun z => m_stop (c := 1) hy m tm xq (by omega) (run_bad run (e1 (fun y => z ((tm_k (c := 3) tm (by omega)).2 (srt_3.2 y)))) (by omega) (Or.inl ha))⟩)
  have t2 : (tk (bt T n) p).1 = 2 := srt_3.1 ((tm_k (c := 3) tm (by omega)).1 z)
  have v100 := ok.2.2.2.2.2.2 t2
  rw [tm.2.2.2.2.2 t2]
  refine ⟨fun y => m_stop (c := 4) hy m tm xq (by omega) (run_bad run (e4 t2 (Or.inl ((i_lt (by omega) (by omega)).1 y))) (by omega) (Or.inl ha)), fun y => ⟨fun u => ?_, fun u => m_stop (c := 4) hy m tm xq (by omega) (run_bad run (e4 t2 (Or.inr ?_)) (by omega) (Or.inl ha))⟩⟩
  · have h2 := (i_le (by omega) (by omega)).1 u
    have h1 : lo ≤ (tk (bt T n) p).2.1 := by
      rcases Nat.lt_or_ge (tk (bt T n) p).2.1 lo with w | w
      · exact absurd ((i_lt (by omega) (by omega)).2 w) y
      · exact w
    intro v9 e9
    rw [e9]
    have r := run_ok hT hn run (e0 t2 h1 h2) (by omega)
    exact m_next hy hn run.1 m tm (by omega) (fun h' m' f' tm' => hq t2 h1 h2 h' m' f' tm' r.1 r.2)
  · rcases Nat.lt_or_ge hi (tk (bt T n) p).2.1 with w | w
    · exact w
    · exact absurd ((i_le (by omega) (by omega)).2 w) u
theorem m_find {l : Launch} {g : AG} {h : AH} {c lo hi w : Nat} {N : Nat → Nat} {Q : Int32 → AH → Prop} (hi1 : Is 194 c 21) (hb : hi ≤ (ax_s c).2) (hb2 : hi ≤ 24) (hlo : lo ≤ 24) (hN : ∀ i, i < hi → h.2.1 c i = Int64.ofNat (N i) ∧ N i < 1099511627776) (hw : w < 1099511627776) (q1 : findN (fun i => lo ≤ i ∧ N i = w) hi < hi → Q (Int32.ofNat (findN (fun i => lo ≤ i ∧ N i = w) hi)) h) (q0 : ¬ findN (fun i => lo ≤ i ∧ N i = w) hi < hi → Q (-1) h) : C_X12_find l g h c (Int32.ofNat lo) (Int32.ofNat hi) (Int64.ofNat w) Q := by
  refine k_X12_find hi1 hb (by omega) (fun k k1 k2 k3 k4 => ?_) (fun k4 => ?_) (by omega)
  · have e : findN (fun i => lo ≤ i ∧ N i = w) hi = k := by
      refine findN_eq k2 ⟨k1, ?_⟩ (fun j hj y => ?_)
      · rw [(hN k k2).1] at k3
        have := (hN k k2).2
        exact (l_eq (by omega) (by omega)).1 k3
      · refine k4 j y.1 hj ?_
        rw [(hN j (by omega)).1, y.2]
    rw [← e]
    exact q1 (by rw [e]; exact k2)
  · refine q0 (fun z => ?_)
    have := (findN_spec (fun i => lo ≤ i ∧ N i = w) hi).1 z
    refine k4 _ this.1 z ?_
    rw [(hN _ z).1, this.2]
theorem m_varHere {l : Launch} {g : AG} {h0 h : AH} {y : Nat} {T : Nat → Nat} {n a p : Nat} {D : AD} {R : Nat × Nat × AD} {Q : Int32 → AH → Prop} {X : AH → Prop} (hy : isB y) (hn : n ≤ 800) (m : MS h0 h y T n) (tm : TokM h (tk (bt T n) p)) (run : RunS T n a D p R) (ha : a ≠ 0) (xq : XQ h0 y R X) (h2 : h.1 y 2 = Int32.ofNat (D 0 2)) (hv : RepBv h y D) (e1 : (tk (bt T n) p).1 ≠ 1 → stp a D (tk (bt T n) p).1 (tk (bt T n) p).2.1 (tk (bt T n) p).2.2.1 = (1, 0, D)) (e2 : (tk (bt T n) p).1 = 1 → ¬ fV D (tk (bt T n) p).2.1 < D 0 2 → stp a D (tk (bt T n) p).1 (tk (bt T n) p).2.1 (tk (bt T n) p).2.2.1 = (2, 0, D))
    (hq : (tk (bt T n) p).1 = 1 → fV D (tk (bt T n) p).2.1 < D 0 2 → Q (Int32.ofNat (fV D (tk (bt T n) p).2.1)) h) : C_X12_varHere l g h 103 Q X := by
  have hT := fun k hk => (m.2.2.1.2 k hk).1
  have ok := tk_ok hT hn run.1
  have gg := run.2.1.1
  have n3 := gg.1.2.2
  refine c_X12_varHere (s_X12_varHere_0 ⟨is_103, fun z => ?_, fun z => m_stop (c := 1) hy m tm xq (by omega) (run_bad run (e1 (fun u => z ((tm_k (c := 2) tm (by omega)).2 (srt_2.2 u)))) (by omega) (Or.inl ha))⟩)
  have t1 : (tk (bt T n) p).1 = 1 := srt_2.1 ((tm_k (c := 2) tm (by omega)).1 z)
  have e : findN (fun i => 0 ≤ i ∧ D 3 i = (tk (bt T n) p).2.1) (D 0 2) = fV D (tk (bt T n) p).2.1 := findN_congr (fun i _ => ⟨fun z => z.2, fun z => ⟨Nat.zero_le i, z⟩⟩)
  rw [m.2.1, rfB_5 m.1 hy, h2, tm.2.2.2.2.1 t1]
  refine ⟨isB_x hy, isB_3 hy, isB_x hy, m_find (lo := 0) (N := D 3) (isB_3 hy) (by rw [szB_3 hy]; exact n3) (by omega) (by omega) (fun i hi => ⟨(hv i hi).1, (gg.2.1 i hi).1⟩) (ok.2.2.2.2.2.1 t1) (fun u => ?_) (fun u => ?_)⟩
  · rw [e] at u ⊢
    exact ⟨fun _ => hq t1 u, fun y => absurd y (i_ne (by omega))⟩
  · rw [e] at u
    refine ⟨fun y => absurd rfl y, fun _ => m_stop (c := 2) hy m tm xq (by omega) (run_bad run (e2 t1 u) (by omega) (Or.inl ha))⟩
