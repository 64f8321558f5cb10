theorem cwf_lt : ∀ k m, cwf k m * 2 + 1 ≤ 256 ^ k
  | 0, _ => Nat.le_refl 1
  | k + 1, m => by
    have ih := cwf_lt k (m / 32)
    show (if m = 0 then 0 else cwf k (m / 32) * 256 + (m % 32 + 96)) * 2 + 1 ≤ 256 ^ (k + 1)
    rw [Nat.pow_succ]
    have : 0 < 256 ^ k := Nat.pow_pos (by decide)
    split
    · omega
    · have := Nat.mod_lt m (show 32 > 0 by decide)
      omega
theorem cwf_inj : ∀ k m m2, m < 32 ^ k → m2 < 32 ^ k → cwf k m = cwf k m2 → m = m2
  | 0, m, m2, h1, h2, _ => by rw [Nat.pow_zero] at h1 h2; omega
  | k + 1, m, m2, h1, h2, e => by
    have e : (if m = 0 then 0 else cwf k (m / 32) * 256 + (m % 32 + 96)) = (if m2 = 0 then 0 else cwf k (m2 / 32) * 256 + (m2 % 32 + 96)) := e
    rw [Nat.pow_succ] at h1 h2
    by_cases c : m = 0
    · by_cases c2 : m2 = 0
      · omega
      · rw [if_pos c, if_neg c2] at e; omega
    · by_cases c2 : m2 = 0
      · rw [if_neg c, if_pos c2] at e; omega
      · rw [if_neg c, if_neg c2] at e
        have a := Nat.mod_lt m (show 32 > 0 by decide)
        have b := Nat.mod_lt m2 (show 32 > 0 by decide)
        have := cwf_inj k (m / 32) (m2 / 32) (by omega) (by omega) (by omega)
        omega
theorem cwf8_eq {m m2 : Nat} (h1 : m < 1099511627776) (h2 : m2 < 1099511627776) : (Int64.ofNat (cwf 8 m) = Int64.ofNat (cwf 8 m2)) ↔ m = m2 := by
  have a := cwf_lt 8 m
  have b := cwf_lt 8 m2
  rw [l_eq (by omega) (by omega)]
  exact ⟨cwf_inj 8 m m2 (by omega) (by omega), fun e => by rw [e]⟩
theorem pops_rem {P : Nat → Prop} {b : Nat} (hb : P b) : ∀ m, b < m → pops (fun x => P x ∧ x ≠ b) m + 1 = pops P m := by
  intro m
  induction m with
  | zero => intro h; exact absurd h (Nat.not_lt_zero b)
  | succ m ih =>
    intro h
    show pops (fun x => P x ∧ x ≠ b) m + bI (P m ∧ m ≠ b) + 1 = pops P m + bI (P m)
    by_cases c : m = b
    · subst c
      rw [bI_f (fun z => z.2 rfl), bI_t hb, pops_congr (f := fun x => P x ∧ x ≠ m) (f2 := P) m (fun a ha => ⟨fun z => z.1, fun z => ⟨z, by omega⟩⟩)]
    · rw [bI_congr (p := P m ∧ m ≠ b) (q := P m) ⟨fun z => z.1, fun z => ⟨z, c⟩⟩]
      have := ih (by omega)
      omega
theorem pops_inj {m : Nat} : ∀ (n : Nat) (P R : Nat → Prop) (f : Nat → Nat), (∀ c, c < n → P c → f c < m ∧ R (f c)) → (∀ c d, c < n → d < n → P c → P d → f c = f d → c = d) → pops P n ≤ pops R m := by
  intro n
  induction n with
  | zero => intro P R f _ _; exact Nat.zero_le _
  | succ n ih =>
    intro P R f h1 h2
    show pops P n + bI (P n) ≤ pops R m
    by_cases c : P n
    · have q := h1 n (by omega) c
      have z := pops_rem q.2 m q.1
      have := ih P (fun x => R x ∧ x ≠ f n) f (fun d hd p => ⟨(h1 d (by omega) p).1, (h1 d (by omega) p).2, fun e => by have := h2 d n (by omega) (by omega) p c e; omega⟩) (fun d e hd he p1 p2 => h2 d e (by omega) (by omega) p1 p2)
      rw [bI_t c]
      omega
    · rw [bI_f c, Nat.add_zero]
      exact ih P R f (fun d hd p => h1 d (by omega) p) (fun d e hd he p1 p2 => h2 d e (by omega) (by omega) p1 p2)
/-- each BUTTON that can be pressed in the one has its name in the other -/
def subB (D E : AD) (S U : AS) : Prop := ∀ b, pressD D S b → ∃ c, pressD E U c ∧ E 2 c = D 2 b
/-- the numbers shown are alike -/
def numAl (D E : AD) (S U : AS) : Prop := D 6 (S.2.2.1 (S.2.1 - 1)) = E 6 (U.2.2.1 (U.2.1 - 1)) ∧ ∀ k, k < D 6 (S.2.2.1 (S.2.1 - 1)) → S.2.2.2.2 (D 7 (6 * S.2.2.1 (S.2.1 - 1) + k)) = U.2.2.2.2 (E 7 (6 * U.2.2.1 (U.2.1 - 1) + k))
/-- a pair of STATES of two APPS shows alike -/
def AL (D E : AD) (S U : AS) : Prop := S.1 = U.1 ∧ (S.1 = 0 → D 1 (S.2.2.1 (S.2.1 - 1)) = E 1 (U.2.2.1 (U.2.1 - 1)) ∧ numAl D E S U ∧ subB D E S U ∧ subB E D U S)
theorem press_inj {D : AD} {S : AS} {b c : Nat} (hD : WfD D) (h1 : pressD D S b) (h2 : pressD D S c) (e : D 2 b = D 2 c) : b = c := hD.1.2.2.2.2.2.2 b c h1.2.1 h2.2.1 (h1.2.2.1.trans h2.2.2.1.symm) e
theorem press_lt {D : AD} {S : AS} {b : Nat} (hD : WfD D) (h : pressD D S b) : b < 24 := by
  have := hD.1.2.2.1
  have := h.2.1
  omega
theorem sub_le {D E : AD} {S U : AS} (hD : WfD D) (hE : WfD E) (h : subB D E S U) : pops (pressD D S) 24 ≤ pops (pressD E U) 24 := by
  have ch : ∀ b, ∃ c, pressD D S b → pressD E U c ∧ E 2 c = D 2 b := by
    intro b
    by_cases p : pressD D S b
    · obtain ⟨c, c1⟩ := h b p
      exact ⟨c, fun _ => c1⟩
    · exact ⟨0, fun z => absurd z p⟩
  refine pops_inj 24 _ _ (fun b => Classical.choose (ch b)) (fun c hc p => ?_) (fun c d hc hd p1 p2 e => ?_)
  · have q := Classical.choose_spec (ch c) p
    exact ⟨press_lt hE q.1, q.1⟩
  · have q1 := Classical.choose_spec (ch c) p1
    have q2 := Classical.choose_spec (ch d) p2
    have e : Classical.choose (ch c) = Classical.choose (ch d) := e
    rw [e] at q1
    exact press_inj hD p1 p2 (q1.2.symm.trans q2.2)
/-- as many, and each in the other: the same names -/
theorem sub_eq {D E : AD} {S U : AS} (hD : WfD D) (hE : WfD E) (h : subB E D U S) : pops (pressD E U) 24 = pops (pressD D S) 24 ↔ subB D E S U := by
  refine ⟨fun e b hb => ?_, fun h2 => Nat.le_antisymm (sub_le hE hD h) (sub_le hD hE h2)⟩
  refine Classical.byContradiction (fun z => ?_)
  have ch : ∀ c, ∃ b, pressD E U c → pressD D S b ∧ D 2 b = E 2 c := by
    intro c
    by_cases p : pressD E U c
    · obtain ⟨b, b1⟩ := h c p
      exact ⟨b, fun _ => b1⟩
    · exact ⟨0, fun z => absurd z p⟩
  have le := pops_inj (m := 24) 24 (pressD E U) (fun x => pressD D S x ∧ x ≠ b) (fun c => Classical.choose (ch c)) (fun c hc p => by
    have q := Classical.choose_spec (ch c) p
    exact ⟨press_lt hD q.1, q.1, fun e2 => z ⟨c, p, by rw [← q.2, e2]⟩⟩) (fun c d hc hd p1 p2 e2 => by
    have q1 := Classical.choose_spec (ch c) p1
    have q2 := Classical.choose_spec (ch d) p2
    have e2 : Classical.choose (ch c) = Classical.choose (ch d) := e2
    rw [e2] at q1
    exact press_inj hE p1 p2 (q1.2.symm.trans q2.2))
  have := pops_rem hb 24 (press_lt hD hb)
  omega
/-- the ACT of the other APP by the same name -/
def itsR (D E : AD) (U : AS) (a c : Nat) : Prop := (24 ≤ a ∧ c = a ∧ possD E U a) ∨ (a < 24 ∧ pressD E U c ∧ E 2 c = D 2 a)
theorem its_un {D E : AD} {U : AS} {a c d : Nat} (hE : WfD E) (h1 : itsR D E U a c) (h2 : itsR D E U a d) : c = d := by
  rcases h1 with h1 | h1
  · rcases h2 with h2 | h2
    · rw [h1.2.1, h2.2.1]
    · omega
  · rcases h2 with h2 | h2
    · omega
    · exact press_inj hE h1.2.1 h2.2.1 (h1.2.2.trans h2.2.2.symm)
theorem press_poss {D : AD} {S : AS} {b : Nat} (h : pressD D S b) : possD D S b := Or.inr ⟨h.1, Or.inr (Or.inr ⟨h.2.1, h.2.2.1, h.2.2.2⟩)⟩
theorem poss_press {D : AD} {S : AS} {b : Nat} (hb : b < 24) (h : possD D S b) : pressD D S b := by
  rcases h with z | ⟨z0, z | z | z⟩
  · omega
  · omega
  · omega
  · exact ⟨z0, z.1, z.2.1, z.2.2⟩
theorem its_poss {D E : AD} {U : AS} {a c : Nat} (hE : WfD E) (h : itsR D E U a c) : possD E U c ∧ c < 27 := by
  rcases h with h | h
  · rw [h.2.1]; exact ⟨h.2.2, poss_lt hE h.2.2⟩
  · have := press_lt hE h.2.1
    exact ⟨press_poss h.2.1, by omega⟩
/-- pairs as they are met: how many, left, right, from where, by which ACT, how far -/
abbrev PT3 : Type := Nat × (Nat → AS) × (Nat → AS) × (Nat → Nat) × (Nat → Nat) × (Nat → Nat)
def pb0 : PT3 := (1, fun _ => st0, fun _ => st0, fun _ => 0, fun _ => 0, fun _ => 0)
/-- at j both APPS can go on, to T and V -/
def pbG (D E : AD) (B : PT3) (j : Nat) (T V : AS) : Prop := possD D (B.2.1 (j / 27)) (j % 27) ∧ T = stepD D (B.2.1 (j / 27)) (j % 27) ∧ ∃ c, itsR D E (B.2.2.1 (j / 27)) (j % 27) c ∧ V = stepD E (B.2.2.1 (j / 27)) c
def pbNew (B : PT3) (T V : AS) : Prop := ∀ i, i < B.1 → ¬ (en (B.2.1 i) = en T ∧ en (B.2.2.1 i) = en V)
def pbAdd (B : PT3) (j : Nat) (T V : AS) : PT3 := (B.1 + 1, upS B.2.1 B.1 T, upS B.2.2.1 B.1 V, nup B.2.2.2.1 B.1 (j / 27), nup B.2.2.2.2.1 B.1 (j % 27), nup B.2.2.2.2.2 B.1 (B.2.2.2.2.2 (j / 27) + 1))
noncomputable def pb1 (D E : AD) (B : PT3) (j : Nat) : PT3 := @ite PT3 (∃ T V, pbG D E B j T V ∧ pbNew B T V) (Classical.propDecidable _) (pbAdd B j (stepD D (B.2.1 (j / 27)) (j % 27)) (stepD E (B.2.2.1 (j / 27)) (findN (fun c => itsR D E (B.2.2.1 (j / 27)) (j % 27) c) 27))) B
noncomputable def pbN (D E : AD) : Nat → PT3
  | 0 => pb0
  | j + 1 => pb1 D E (pbN D E j) j
theorem pb_un {D E : AD} {B : PT3} {j : Nat} {T V T2 V2 : AS} (hE : WfD E) (h1 : pbG D E B j T V) (h2 : pbG D E B j T2 V2) : T = T2 ∧ V = V2 := by
  obtain ⟨a1, a2, c, a3, a4⟩ := h1
  obtain ⟨b1, b2, d, b3, b4⟩ := h2
  rw [its_un hE a3 b3] at a4
  exact ⟨a2.trans b2.symm, a4.trans b4.symm⟩
theorem pb1_add {D E : AD} {B : PT3} {j : Nat} {T V : AS} (hE : WfD E) (h1 : pbG D E B j T V) (h2 : pbNew B T V) : pb1 D E B j = pbAdd B j T V := by
  unfold pb1
  rw [if_pos ⟨T, V, h1, h2⟩]
  obtain ⟨a1, a2, c, a3, a4⟩ := h1
  have hc := (its_poss hE a3).2
  have e : findN (fun c => itsR D E (B.2.2.1 (j / 27)) (j % 27) c) 27 = c := findN_eq hc a3 (fun d hd z => by have := its_un hE z a3; omega)
  rw [e, ← a2, ← a4]
theorem pb1_same {D E : AD} {B : PT3} {j : Nat} (h : ¬ ∃ T V, pbG D E B j T V ∧ pbNew B T V) : pb1 D E B j = B := by
  unfold pb1
  rw [if_neg h]
/-- what ends the way at j -/
def pbE1 (D E : AD) (B : PT3) (j : Nat) : Prop := possD D (B.2.1 (j / 27)) (j % 27) ∧ ¬ ∃ c, itsR D E (B.2.2.1 (j / 27)) (j % 27) c
def pbE2 (D E : AD) (B : PT3) (j : Nat) : Prop := ∃ T V, pbG D E B j T V ∧ pbNew B T V ∧ B.1 = 400
def pbE3 (D E : AD) (B : PT3) (j : Nat) : Prop := ∃ T V, pbG D E B j T V ∧ pbNew B T V ∧ B.1 < 400 ∧ ¬ AL D E T V
def pbE4 (D E : AD) (B : PT3) (k : Nat) : Prop := possD E (B.2.2.1 k) 25 ∧ ¬ possD D (B.2.1 k) 25
/-- nothing ended the way before J -/
def pbOK (D E : AD) (J : Nat) : Prop := AL D E st0 st0 ∧ (∀ i, i < J → i / 27 < (pbN D E i).1 ∧ ¬ pbE1 D E (pbN D E i) i ∧ ¬ pbE2 D E (pbN D E i) i ∧ ¬ pbE3 D E (pbN D E i) i) ∧ ∀ k, 27 * (k + 1) < J → ¬ pbE4 D E (pbN D E (27 * (k + 1))) k
def pbW (D E : AD) (B : PT3) : Prop := 0 < B.1 ∧ B.1 ≤ 400 ∧ (∀ i, i < B.1 → WS (D 0 0) (B.2.1 i) ∧ WS (E 0 0) (B.2.2.1 i) ∧ AL D E (B.2.1 i) (B.2.2.1 i)) ∧ (∀ i k, i < B.1 → k < B.1 → en (B.2.1 i) = en (B.2.1 k) → en (B.2.2.1 i) = en (B.2.2.1 k) → i = k) ∧ B.2.2.2.2.2 0 = 0 ∧ ∀ i, i < B.1 → 0 < i → B.2.2.2.1 i < i ∧ B.2.2.2.2.1 i < 27 ∧ B.2.2.2.2.2 i = B.2.2.2.2.2 (B.2.2.2.1 i) + 1
theorem pbG_ws {D E : AD} {B : PT3} {j : Nat} {T V : AS} (hD : WfD D) (hE : WfD E) (w : pbW D E B) (hj : j / 27 < B.1) (h : pbG D E B j T V) : WS (D 0 0) T ∧ WS (E 0 0) V := by
  obtain ⟨a1, a2, c, a3, a4⟩ := h
  have q := w.2.2.1 _ hj
  rw [a2, a4]
  exact ⟨ws_stepD hD q.1 a1, ws_stepD hE q.2.1 (its_poss hE a3).1⟩
theorem pbW_add {D E : AD} {B : PT3} {j : Nat} {T V : AS} (w : pbW D E B) (hj : j / 27 < B.1) (h400 : B.1 < 400) (wT : WS (D 0 0) T) (wV : WS (E 0 0) V) (hn : pbNew B T V) (al : AL D E T V) : pbW D E (pbAdd B j T V) := by
  obtain ⟨w1, w2, w3, w4, w5, w6⟩ := w
  refine ⟨Nat.succ_pos _, by show B.1 + 1 ≤ 400; omega, fun i hi => ?_, fun i k hi hk e1 e2 => ?_, ?_, fun i hi h0 => ?_⟩
  · have hi2 : i < B.1 + 1 := hi
    show WS (D 0 0) (upS B.2.1 B.1 T i) ∧ WS (E 0 0) (upS B.2.2.1 B.1 V i) ∧ AL D E (upS B.2.1 B.1 T i) (upS B.2.2.1 B.1 V i)
    by_cases c : i = B.1
    · rw [c, upS_s, upS_s]; exact ⟨wT, wV, al⟩
    · rw [upS_n c, upS_n c]; exact w3 i (by omega)
  · have hi2 : i < B.1 + 1 := hi
    have hk2 : k < B.1 + 1 := hk
    have e1 : en (upS B.2.1 B.1 T i) = en (upS B.2.1 B.1 T k) := e1
    have e2 : en (upS B.2.2.1 B.1 V i) = en (upS B.2.2.1 B.1 V k) := e2
    by_cases c : i = B.1
    · by_cases c2 : k = B.1
      · omega
      · rw [c, upS_s, upS_n c2] at e1 e2
        exact absurd ⟨e1.symm, e2.symm⟩ (hn k (by omega))
    · by_cases c2 : k = B.1
      · rw [c2, upS_s, upS_n c] at e1 e2
        exact absurd ⟨e1, e2⟩ (hn i (by omega))
      · rw [upS_n c, upS_n c2] at e1 e2
        exact w4 i k (by omega) (by omega) e1 e2
  · show nup B.2.2.2.2.2 B.1 (B.2.2.2.2.2 (j / 27) + 1) 0 = 0
    rw [nup_n (by omega)]; exact w5
  · have hi2 : i < B.1 + 1 := hi
    show nup B.2.2.2.1 B.1 (j / 27) i < i ∧ nup B.2.2.2.2.1 B.1 (j % 27) i < 27 ∧ nup B.2.2.2.2.2 B.1 (B.2.2.2.2.2 (j / 27) + 1) i = nup B.2.2.2.2.2 B.1 (B.2.2.2.2.2 (j / 27) + 1) (nup B.2.2.2.1 B.1 (j / 27) i) + 1
    by_cases c : i = B.1
    · rw [c, nup_s, nup_s, nup_s, nup_n (by omega)]
      exact ⟨hj, Nat.mod_lt _ (by omega), rfl⟩
    · have z := w6 i (by omega) h0
      rw [nup_n c, nup_n c, nup_n c, nup_n (by omega)]
      exact z
theorem pbW_all {D E : AD} (hD : WfD D) (hE : WfD E) : ∀ J, pbOK D E J → pbW D E (pbN D E J) := by
  intro J
  induction J with
  | zero =>
    intro ok
    refine ⟨Nat.one_pos, by show 1 ≤ 400; omega, fun i _ => ⟨WS.zero hD.1.1 hD.1.2.1, WS.zero hE.1.1 hE.1.2.1, ok.1⟩, fun i k hi hk _ _ => ?_, rfl, fun i hi h0 => ?_⟩
    · have h1 : i < 1 := hi
      have h2 : k < 1 := hk
      omega
    · have h1 : i < 1 := hi
      omega
  | succ J ih =>
    intro ok
    have w := ih ⟨ok.1, fun i hi => ok.2.1 i (by omega), fun k hk => ok.2.2 k (by omega)⟩
    obtain ⟨q0, q1, q2, q3⟩ := ok.2.1 J (by omega)
    show pbW D E (pb1 D E (pbN D E J) J)
    by_cases c : ∃ T V, pbG D E (pbN D E J) J T V ∧ pbNew (pbN D E J) T V
    · obtain ⟨T, V, g, n⟩ := c
      have ws := pbG_ws hD hE w q0 g
      rw [pb1_add hE g n]
      have h400 : (pbN D E J).1 < 400 := by
        rcases Nat.lt_or_ge (pbN D E J).1 400 with z | z
        · exact z
        · exact absurd ⟨T, V, g, n, by have := w.2.1; omega⟩ q2
      refine pbW_add w q0 h400 ws.1 ws.2 n (Classical.byContradiction (fun z => q3 ⟨T, V, g, n, h400, z⟩))
    · rw [pb1_same c]; exact w
theorem pb1_le (D E : AD) (B : PT3) (j : Nat) : B.1 ≤ (pb1 D E B j).1 := by
  unfold pb1
  by_cases c : ∃ T V, pbG D E B j T V ∧ pbNew B T V
  · rw [if_pos c]; exact Nat.le_succ _
  · rw [if_neg c]; exact Nat.le_refl _
theorem pbN_mono (D E : AD) {i j : Nat} (h : i ≤ j) : (pbN D E i).1 ≤ (pbN D E j).1 := by
  induction j with
  | zero => rw [show i = 0 by omega]; exact Nat.le_refl _
  | succ j ih =>
    by_cases c : i = j + 1
    · rw [c]; exact Nat.le_refl _
    · exact Nat.le_trans (ih (by omega)) (pb1_le D E (pbN D E j) j)
theorem pb1_ST {D E : AD} {B : PT3} {j i : Nat} (hi : i < B.1) : (pb1 D E B j).2.1 i = B.2.1 i ∧ (pb1 D E B j).2.2.1 i = B.2.2.1 i := by
  unfold pb1
  by_cases c : ∃ T V, pbG D E B j T V ∧ pbNew B T V
  · rw [if_pos c]
    unfold pbAdd
    exact ⟨upS_n (by omega), upS_n (by omega)⟩
  · rw [if_neg c]; exact ⟨rfl, rfl⟩
theorem pbN_ST {D E : AD} {i s : Nat} (hs : s < (pbN D E i).1) : ∀ d, (pbN D E (i + d)).2.1 s = (pbN D E i).2.1 s ∧ (pbN D E (i + d)).2.2.1 s = (pbN D E i).2.2.1 s
  | 0 => ⟨rfl, rfl⟩
  | d + 1 => by
    have ih := pbN_ST hs d
    have m := pbN_mono D E (show i ≤ i + d by omega)
    have z := pb1_ST (D := D) (E := E) (B := pbN D E (i + d)) (j := i + d) (i := s) (by omega)
    exact ⟨z.1.trans ih.1, z.2.trans ih.2⟩
/-- how the way ends: 0 gone through, 1 an ACT alone in the first, 2 no room, 3 a pair unlike, 4 BACK alone in the second, 5 unlike from the start -/
def pbEnd (D E : AD) (e J : Nat) : Prop := (e = 0 ∧ pbOK D E J ∧ J = 27 * (pbN D E J).1 ∧ ∀ k, 27 * (k + 1) = J → ¬ pbE4 D E (pbN D E J) k) ∨ (e = 1 ∧ pbOK D E J ∧ (∀ k, 27 * (k + 1) = J → ¬ pbE4 D E (pbN D E J) k) ∧ J / 27 < (pbN D E J).1 ∧ pbE1 D E (pbN D E J) J) ∨ (e = 2 ∧ pbOK D E J ∧ (∀ k, 27 * (k + 1) = J → ¬ pbE4 D E (pbN D E J) k) ∧ J / 27 < (pbN D E J).1 ∧ pbE2 D E (pbN D E J) J) ∨ (e = 3 ∧ pbOK D E J ∧ (∀ k, 27 * (k + 1) = J → ¬ pbE4 D E (pbN D E J) k) ∧ J / 27 < (pbN D E J).1 ∧ pbE3 D E (pbN D E J) J) ∨ (e = 4 ∧ pbOK D E J ∧ ∃ k, J = 27 * (k + 1) ∧ pbE4 D E (pbN D E J) k) ∨ (e = 5 ∧ J = 0 ∧ ¬ AL D E st0 st0)
