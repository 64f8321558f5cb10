theorem tk_lt {T : Nat → Nat} {n p : Nat} (hn : n ≤ 800) (hp : p ≤ n) (h0 : (tk (bt T n) p).1 ≠ 0) : (tk (bt T n) p).2.2.1 < (tk (bt T n) p).2.2.2 := by
  revert h0
  obtain ⟨s1, s2, s3, s4⟩ := run_bt (q := isBl) (T := T) (by decide) hn hp
  unfold tk
  revert s1 s2 s3 s4
  generalize runF isBl (bt T n) 801 p = s
  intro s1 s2 s3 s4
  by_cases c : bt T n s = 256
  · rw [if_pos c]; exact fun z => absurd rfl z
  · rw [if_neg c]
    by_cases c1 : isLe (bt T n s) = true
    · rw [if_pos c1]
      obtain ⟨e1, e2, e3, e4⟩ := run_bt (q := isLe) (T := T) (by decide) hn s2
      revert e1 e2 e3 e4
      generalize runF isLe (bt T n) 801 s = e
      intro e1 e2 e3 e4 _
      show s < e
      rcases Nat.lt_or_ge s e with z | z
      · exact z
      · rw [show e = s by omega, c1] at e4; exact absurd e4 (by decide)
    · rw [if_neg c1]
      by_cases c2 : isDi (bt T n s) = true
      · rw [if_pos c2]
        obtain ⟨e1, e2, e3, e4⟩ := run_bt (q := isDi) (T := T) (by decide) hn s2
        revert e1 e2 e3 e4
        generalize runF isDi (bt T n) 801 s = e
        intro e1 e2 e3 e4 _
        show s < e
        rcases Nat.lt_or_ge s e with z | z
        · exact z
        · rw [show e = s by omega, c2] at e4; exact absurd e4 (by decide)
      · rw [if_neg c2]
        intro _
        exact Nat.lt_succ_self s
/-- what holds of an APP that is being read -/
def Gn (D : AD) : Prop := D 0 0 ≤ 8 ∧ D 0 1 ≤ 24 ∧ D 0 2 ≤ 6
def Gv (D : AD) : Prop := ∀ v, v < D 0 2 → isW (D 3 v) ∧ 1 ≤ D 4 v ∧ D 4 v ≤ 9 ∧ D 5 v ≤ 1
def Gw (D : AD) : Prop := ∀ w, w < D 0 0 → isW (D 1 w) ∧ D 6 w ≤ 6 ∧ (∀ k, k < D 6 w → D 7 (6 * w + k) < D 0 2) ∧ D 8 w ≤ 9 ∧ D 18 w ≤ D 19 w ∧ D 19 w ≤ D 0 1
def Gh (D : AD) : Prop := (∀ b w, b < D 0 1 → w < D 0 0 → (D 9 b = w ↔ D 18 w ≤ b ∧ b < D 19 w)) ∧ (0 < D 0 0 → D 19 (D 0 0 - 1) = D 0 1) ∧ (∀ b, b < D 0 1 → isW (D 2 b) ∧ D 9 b < D 0 0) ∧ ∀ b c, b < D 0 1 → c < D 0 1 → D 9 b = D 9 c → D 2 b = D 2 c → b = c
def Gc (D : AD) : Prop := ∀ b, b < D 0 1 → D 10 b ≤ 3 ∧ ∀ k, k < D 10 b → D 11 (3 * b + k) < D 0 2 ∧ D 12 (3 * b + k) ≤ 62 ∧ D 13 (3 * b + k) ≤ 9
def Gd (D : AD) : Prop := (∀ k, D 14 k ≤ 4) ∧ (∀ k, ¬ isL D k → D 14 k = 0) ∧ ∀ k d, d < D 14 k → D 15 (4 * k + d) ≤ 4 ∧ (D 15 (4 * k + d) = 0 → ∃ i, i < D 30 7 ∧ D 31 i = 4 * k + d) ∧ (D 15 (4 * k + d) = 2 → D 16 (4 * k + d) < D 0 2 ∧ D 17 (4 * k + d) ≤ 9) ∧ (D 15 (4 * k + d) = 3 → D 16 (4 * k + d) < D 0 2 ∧ D 17 (4 * k + d) ≤ 9) ∧ (D 15 (4 * k + d) = 4 → 1 ≤ D 16 (4 * k + d) ∧ D 16 (4 * k + d) ≤ 20)
def Go (D : AD) (p : Nat) : Prop := D 30 7 ≤ sumN (D 14) 32 ∧ (∀ i, i < D 30 7 → D 31 i % 4 < D 14 (D 31 i / 4) ∧ D 15 (D 31 i) = 0 ∧ isW (D 21 (D 31 i)) ∧ D 22 (D 31 i) < p) ∧ ∀ i j, i < j → j < D 30 7 → D 22 (D 31 i) < D 22 (D 31 j)
def Ga (D : AD) : Nat → Prop
  | 0 => True
  | 1 => D 0 2 < 6 ∧ D 30 2 ≤ 1
  | 2 => D 0 2 < 6 ∧ D 30 2 ≤ 1 ∧ isW (D 30 1)
  | 3 => True
  | 4 => D 0 0 < 8
  | 5 => 0 < D 0 0
  | 6 => 0 < D 0 0
  | 7 => 0 < D 0 0 ∧ D 6 (D 0 0 - 1) < 6
  | 8 => 0 < D 0 0
  | 9 => 0 < D 0 0 ∧ D 0 1 < 24
  | 10 => 0 < D 0 0 ∧ 0 < D 0 1 ∧ isL D (D 30 6)
  | 11 => 0 < D 0 0 ∧ 0 < D 0 1 ∧ isL D (D 30 6)
  | 12 => 0 < D 0 0 ∧ 0 < D 0 1 ∧ isL D (D 30 6) ∧ D 10 (D 0 1 - 1) < 3 ∧ D 30 3 < D 0 2
  | 13 => 0 < D 0 0 ∧ 0 < D 0 1 ∧ isL D (D 30 6) ∧ D 10 (D 0 1 - 1) < 3 ∧ D 30 3 < D 0 2 ∧ (D 30 4 = 61 ∨ D 30 4 = 60 ∨ D 30 4 = 62)
  | 14 => 0 < D 0 0 ∧ 0 < D 0 1 ∧ isL D (D 30 6)
  | 15 => 0 < D 0 0 ∧ D 8 (D 0 0 - 1) = 0
  | 16 => 0 < D 0 0 ∧ isL D (D 30 6)
  | 17 => 0 < D 0 0 ∧ isL D (D 30 6)
  | 18 => 0 < D 0 0 ∧ isL D (D 30 6) ∧ D 14 (D 30 6) < 4 ∧ D 30 5 = 0
  | 19 => 0 < D 0 0 ∧ isL D (D 30 6) ∧ D 14 (D 30 6) < 4 ∧ (D 30 5 = 2 ∨ D 30 5 = 3)
  | 20 => 0 < D 0 0 ∧ isL D (D 30 6) ∧ D 14 (D 30 6) < 4 ∧ (D 30 5 = 2 ∨ D 30 5 = 3 ∨ D 30 5 = 4) ∧ (D 30 5 ≠ 4 → D 30 3 < D 0 2)
  | 21 => 0 < D 0 0 ∧ isL D (D 30 6)
  | _ => False
def GG (D : AD) (p : Nat) : Prop := Gn D ∧ Gv D ∧ Gw D ∧ Gh D ∧ Gc D ∧ Gd D ∧ Go D p
def WfP (a : Nat) (D : AD) (p : Nat) : Prop := GG D p ∧ Ga D a
theorem GG.mono {D : AD} {p q : Nat} (hg : GG D p) (h : p ≤ q) : GG D q := by
  obtain ⟨g1, g2, g3, g4, g5, g6, o1, o2, o3⟩ := hg
  exact ⟨g1, g2, g3, g4, g5, g6, o1, fun i hi => ⟨(o2 i hi).1, (o2 i hi).2.1, (o2 i hi).2.2.1, Nat.lt_of_lt_of_le (o2 i hi).2.2.2 h⟩, o3⟩
theorem Gv.c {D E : AD} (g : Gv D) (e0 : E 0 2 = D 0 2) (e3 : E 3 = D 3) (e4 : E 4 = D 4) (e5 : E 5 = D 5) : Gv E := by
  unfold Gv; rw [e0, e3, e4, e5]; exact g
theorem Gw.c {D E : AD} (g : Gw D) (e0 : E 0 0 = D 0 0) (e01 : E 0 1 = D 0 1) (e02 : D 0 2 ≤ E 0 2) (e1 : E 1 = D 1) (e6 : E 6 = D 6) (e7 : E 7 = D 7) (e8 : E 8 = D 8) (e18 : E 18 = D 18) (e19 : E 19 = D 19) : Gw E := by
  intro w hw
  rw [e0] at hw
  rw [e01, e1, e6, e7, e8, e18, e19]
  obtain ⟨a, b, c, d⟩ := g w hw
  exact ⟨a, b, fun k hk => Nat.lt_of_lt_of_le (c k hk) e02, d⟩
theorem Gh.c {D E : AD} (g : Gh D) (e0 : E 0 0 = D 0 0) (e01 : E 0 1 = D 0 1) (e2 : E 2 = D 2) (e9 : E 9 = D 9) (e18 : E 18 = D 18) (e19 : E 19 = D 19) : Gh E := by
  unfold Gh; rw [e0, e01, e2, e9, e18, e19]; exact g
theorem Gc.c {D E : AD} (g : Gc D) (e01 : E 0 1 = D 0 1) (e02 : D 0 2 ≤ E 0 2) (e10 : E 10 = D 10) (e11 : E 11 = D 11) (e12 : E 12 = D 12) (e13 : E 13 = D 13) : Gc E := by
  intro b hb
  rw [e01] at hb
  rw [e10, e11, e12, e13]
  exact ⟨(g b hb).1, fun k hk => ⟨Nat.lt_of_lt_of_le ((g b hb).2 k hk).1 e02, ((g b hb).2 k hk).2⟩⟩
theorem Gd.c {D E : AD} (g : Gd D) (hl : ∀ k, isL D k → isL E k) (e02 : D 0 2 ≤ E 0 2) (e14 : E 14 = D 14) (e15 : E 15 = D 15) (e16 : E 16 = D 16) (e17 : E 17 = D 17) (e30 : E 30 7 = D 30 7) (e31 : E 31 = D 31) : Gd E := by
  obtain ⟨d1, d2, d3⟩ := g
  refine ⟨fun k => by rw [e14]; exact d1 k, fun k hk => by rw [e14]; exact d2 k (fun z => hk (hl k z)), fun k d => ?_⟩
  rw [e14, e15, e16, e17, e30, e31]
  intro hd
  obtain ⟨a, b, c, f, i⟩ := d3 k d hd
  exact ⟨a, b, fun z => ⟨Nat.lt_of_lt_of_le (c z).1 e02, (c z).2⟩, fun z => ⟨Nat.lt_of_lt_of_le (f z).1 e02, (f z).2⟩, i⟩
theorem Go.c {D E : AD} {p : Nat} (g : Go D p) (e14 : E 14 = D 14) (e15 : E 15 = D 15) (e21 : E 21 = D 21) (e22 : E 22 = D 22) (e30 : E 30 7 = D 30 7) (e31 : E 31 = D 31) : Go E p := by
  unfold Go; rw [e14, e15, e21, e22, e30, e31]; exact g
theorem GG.reg {D E : AD} {p : Nat} (hg : GG D p) (e : ∀ t, t ≠ 30 → E t = D t) (e7 : E 30 7 = D 30 7) : GG E p := by
  have il : ∀ k, isL D k → isL E k := fun k => by unfold isL; rw [e 0 (by omega), e 8 (by omega)]; exact id
  have f := fun t (h : t ≠ 30) => e t h
  have e0 : ∀ i, E 0 i = D 0 i := fun i => by rw [e 0 (by omega)]
  obtain ⟨g1, g2, g3, g4, g5, g6, g7⟩ := hg
  exact ⟨by unfold Gn; rw [e 0 (by omega)]; exact g1, g2.c (e0 2) (f 3 (by omega)) (f 4 (by omega)) (f 5 (by omega)), g3.c (e0 0) (e0 1) (Nat.le_of_eq (e0 2).symm) (f 1 (by omega)) (f 6 (by omega)) (f 7 (by omega)) (f 8 (by omega)) (f 18 (by omega)) (f 19 (by omega)), g4.c (e0 0) (e0 1) (f 2 (by omega)) (f 9 (by omega)) (f 18 (by omega)) (f 19 (by omega)), g5.c (e0 1) (Nat.le_of_eq (e0 2).symm) (f 10 (by omega)) (f 11 (by omega)) (f 12 (by omega)) (f 13 (by omega)), g6.c il (Nat.le_of_eq (e0 2).symm) (f 14 (by omega)) (f 15 (by omega)) (f 16 (by omega)) (f 17 (by omega)) e7 (f 31 (by omega)), g7.c (f 14 (by omega)) (f 15 (by omega)) (f 21 (by omega)) (f 22 (by omega)) e7 (f 31 (by omega))⟩
theorem GG.r {D : AD} {p i v : Nat} (hg : GG D p) (hi : i ≠ 7) : GG (up D 30 i v) p := hg.reg (fun t ht => up_t ht) (up_n (by omega))
theorem gg_addVar {D : AD} {p nm mx kp : Nat} (hg : GG D p) (h6 : D 0 2 < 6) (hn : isW nm) (h1 : 1 ≤ mx) (h9 : mx ≤ 9) (hk : kp ≤ 1) : GG (addVar D nm mx kp) p := by
  generalize eE : addVar D nm mx kp = E
  have e : ∀ t, t ≠ 0 → t ≠ 3 → t ≠ 4 → t ≠ 5 → E t = D t := fun t a0 a3 a4 a5 => by
    rw [← eE]; unfold addVar; simp (disch := first | assumption | omega) only [up_t]
  have e0 : ∀ i, E 0 i = if i = 2 then D 0 2 + 1 else D 0 i := fun i => by
    rw [← eE]; unfold addVar; by_cases c : i = 2
    · rw [if_pos c]; simp (disch := first | assumption | omega) only [up_t, up_e]
    · rw [if_neg c]; simp (disch := first | assumption | omega) only [up_t, up_n]
  have e3 : ∀ i, E 3 i = if i = D 0 2 then nm else D 3 i := fun i => by
    rw [← eE]; unfold addVar; by_cases c : i = D 0 2
    · rw [if_pos c]; simp (disch := first | assumption | omega) only [up_t, up_e]
    · rw [if_neg c]; simp (disch := first | assumption | omega) only [up_t, up_n]
  have e4 : ∀ i, E 4 i = if i = D 0 2 then mx else D 4 i := fun i => by
    rw [← eE]; unfold addVar; by_cases c : i = D 0 2
    · rw [if_pos c]; simp (disch := first | assumption | omega) only [up_t, up_e]
    · rw [if_neg c]; simp (disch := first | assumption | omega) only [up_t, up_n]
  have e5 : ∀ i, E 5 i = if i = D 0 2 then kp else D 5 i := fun i => by
    rw [← eE]; unfold addVar; by_cases c : i = D 0 2
    · rw [if_pos c]; simp (disch := first | assumption | omega) only [up_t, up_e]
    · rw [if_neg c]; simp (disch := first | assumption | omega) only [up_t, up_n]
  have e02 : E 0 2 = D 0 2 + 1 := by rw [e0, if_pos rfl]
  have e00 : E 0 0 = D 0 0 := by rw [e0, if_neg (by omega)]
  have e01 : E 0 1 = D 0 1 := by rw [e0, if_neg (by omega)]
  have il : ∀ k, isL D k → isL E k := fun k => by unfold isL; rw [e00, e01, e 8 (by omega) (by omega) (by omega) (by omega)]; exact id
  obtain ⟨⟨g11, g12, g13⟩, g2, g3, g4, g5, g6, g7⟩ := hg
  refine ⟨?_, ?_, g3.c e00 e01 (by omega) (e 1 (by omega) (by omega) (by omega) (by omega)) (e 6 (by omega) (by omega) (by omega) (by omega)) (e 7 (by omega) (by omega) (by omega) (by omega)) (e 8 (by omega) (by omega) (by omega) (by omega)) (e 18 (by omega) (by omega) (by omega) (by omega)) (e 19 (by omega) (by omega) (by omega) (by omega)), g4.c e00 e01 (e 2 (by omega) (by omega) (by omega) (by omega)) (e 9 (by omega) (by omega) (by omega) (by omega)) (e 18 (by omega) (by omega) (by omega) (by omega)) (e 19 (by omega) (by omega) (by omega) (by omega)), g5.c e01 (by omega) (e 10 (by omega) (by omega) (by omega) (by omega)) (e 11 (by omega) (by omega) (by omega) (by omega)) (e 12 (by omega) (by omega) (by omega) (by omega)) (e 13 (by omega) (by omega) (by omega) (by omega)), g6.c il (by omega) (e 14 (by omega) (by omega) (by omega) (by omega)) (e 15 (by omega) (by omega) (by omega) (by omega)) (e 16 (by omega) (by omega) (by omega) (by omega)) (e 17 (by omega) (by omega) (by omega) (by omega)) (by rw [e 30 (by omega) (by omega) (by omega) (by omega)]) (e 31 (by omega) (by omega) (by omega) (by omega)), g7.c (e 14 (by omega) (by omega) (by omega) (by omega)) (e 15 (by omega) (by omega) (by omega) (by omega)) (e 21 (by omega) (by omega) (by omega) (by omega)) (e 22 (by omega) (by omega) (by omega) (by omega)) (by rw [e 30 (by omega) (by omega) (by omega) (by omega)]) (e 31 (by omega) (by omega) (by omega) (by omega))⟩
  · unfold Gn; rw [e02, e00, e01]; omega
  · intro v hv
    rw [e02] at hv
    rw [e3, e4, e5]
    by_cases c : v = D 0 2
    · rw [if_pos c, if_pos c, if_pos c]; exact ⟨hn, h1, h9, hk⟩
    · rw [if_neg c, if_neg c, if_neg c]; exact g2 v (by omega)
theorem gg_addWin {D : AD} {p nm : Nat} (hg : GG D p) (h8 : D 0 0 < 8) (hn : isW nm) : GG (addWin D nm) p := by
  generalize eE : addWin D nm = E
  have e : ∀ t, t ≠ 0 → t ≠ 1 → t ≠ 6 → t ≠ 8 → t ≠ 14 → t ≠ 18 → t ≠ 19 → E t = D t := fun t a0 a1 a6 a8 a14 a18 a19 => by
    rw [← eE]; unfold addWin; simp (disch := first | assumption | omega) only [up_t]
  have e0 : ∀ i, E 0 i = if i = 0 then D 0 0 + 1 else D 0 i := fun i => by
    rw [← eE]; unfold addWin; by_cases c : i = 0
    · rw [if_pos c]; simp (disch := first | assumption | omega) only [up_t, up_e]
    · rw [if_neg c]; simp (disch := first | assumption | omega) only [up_t, up_n]
  have e1 : ∀ i, E 1 i = if i = D 0 0 then nm else D 1 i := fun i => by
    rw [← eE]; unfold addWin; by_cases c : i = D 0 0
    · rw [if_pos c]; simp (disch := first | assumption | omega) only [up_t, up_e]
    · rw [if_neg c]; simp (disch := first | assumption | omega) only [up_t, up_n]
  have e6 : ∀ i, E 6 i = if i = D 0 0 then 0 else D 6 i := fun i => by
    rw [← eE]; unfold addWin; by_cases c : i = D 0 0
    · rw [if_pos c]; simp (disch := first | assumption | omega) only [up_t, up_e]
    · rw [if_neg c]; simp (disch := first | assumption | omega) only [up_t, up_n]
  have e8 : ∀ i, E 8 i = if i = D 0 0 then 0 else D 8 i := fun i => by
    rw [← eE]; unfold addWin; by_cases c : i = D 0 0
    · rw [if_pos c]; simp (disch := first | assumption | omega) only [up_t, up_e]
    · rw [if_neg c]; simp (disch := first | assumption | omega) only [up_t, up_n]
  have e14 : ∀ i, E 14 i = if i = 24 + D 0 0 then 0 else D 14 i := fun i => by
    rw [← eE]; unfold addWin; by_cases c : i = 24 + D 0 0
    · rw [if_pos c]; simp (disch := first | assumption | omega) only [up_t, up_e]
    · rw [if_neg c]; simp (disch := first | assumption | omega) only [up_t, up_n]
  have e18 : ∀ i, E 18 i = if i = D 0 0 then D 0 1 else D 18 i := fun i => by
    rw [← eE]; unfold addWin; by_cases c : i = D 0 0
    · rw [if_pos c]; simp (disch := first | assumption | omega) only [up_t, up_e]
    · rw [if_neg c]; simp (disch := first | assumption | omega) only [up_t, up_n]
  have e19 : ∀ i, E 19 i = if i = D 0 0 then D 0 1 else D 19 i := fun i => by
    rw [← eE]; unfold addWin; by_cases c : i = D 0 0
    · rw [if_pos c]; simp (disch := first | assumption | omega) only [up_t, up_e]
    · rw [if_neg c]; simp (disch := first | assumption | omega) only [up_t, up_n]
  have e00 : E 0 0 = D 0 0 + 1 := by rw [e0, if_pos rfl]
  have e01 : E 0 1 = D 0 1 := by rw [e0, if_neg (by omega)]
  have e02 : E 0 2 = D 0 2 := by rw [e0, if_neg (by omega)]
  obtain ⟨⟨g11, g12, g13⟩, g2, g3, ⟨h1, h2, h3, h4⟩, g5, g6, g7⟩ := hg
  have il : ∀ k, isL D k → isL E k := fun k hk => by
    unfold isL at hk ⊢
    rw [e00, e01]
    rcases hk with a | ⟨w, a, b, c⟩
    · exact Or.inl a
    · exact Or.inr ⟨w, by omega, b, by rw [e8, if_neg (by omega)]; exact c⟩
  have f14 : E 14 = D 14 := by
    funext k
    rw [e14]
    by_cases c : k = 24 + D 0 0
    · rw [if_pos c]
      refine (g6.2.1 k (fun z => ?_)).symm
      rcases z with a | ⟨w, a, b, c⟩ <;> omega
    · rw [if_neg c]
  refine ⟨?_, g2.c e02 (e 3 (by omega) (by omega) (by omega) (by omega) (by omega) (by omega) (by omega)) (e 4 (by omega) (by omega) (by omega) (by omega) (by omega) (by omega) (by omega)) (e 5 (by omega) (by omega) (by omega) (by omega) (by omega) (by omega) (by omega)), ?_, ⟨?_, ?_, ?_, ?_⟩, g5.c e01 (by omega) (e 10 (by omega) (by omega) (by omega) (by omega) (by omega) (by omega) (by omega)) (e 11 (by omega) (by omega) (by omega) (by omega) (by omega) (by omega) (by omega)) (e 12 (by omega) (by omega) (by omega) (by omega) (by omega) (by omega) (by omega)) (e 13 (by omega) (by omega) (by omega) (by omega) (by omega) (by omega) (by omega)), g6.c il (by omega) f14 (e 15 (by omega) (by omega) (by omega) (by omega) (by omega) (by omega) (by omega)) (e 16 (by omega) (by omega) (by omega) (by omega) (by omega) (by omega) (by omega)) (e 17 (by omega) (by omega) (by omega) (by omega) (by omega) (by omega) (by omega)) (by rw [e 30 (by omega) (by omega) (by omega) (by omega) (by omega) (by omega) (by omega)]) (e 31 (by omega) (by omega) (by omega) (by omega) (by omega) (by omega) (by omega)), g7.c f14 (e 15 (by omega) (by omega) (by omega) (by omega) (by omega) (by omega) (by omega)) (e 21 (by omega) (by omega) (by omega) (by omega) (by omega) (by omega) (by omega)) (e 22 (by omega) (by omega) (by omega) (by omega) (by omega) (by omega) (by omega)) (by rw [e 30 (by omega) (by omega) (by omega) (by omega) (by omega) (by omega) (by omega)]) (e 31 (by omega) (by omega) (by omega) (by omega) (by omega) (by omega) (by omega))⟩
  · unfold Gn; rw [e02, e00, e01]; omega
  · intro w hw
    rw [e00] at hw
    rw [e1, e6, e8, e18, e19, e01, e02, e 7 (by omega) (by omega) (by omega) (by omega) (by omega) (by omega) (by omega)]
    by_cases c : w = D 0 0
    · rw [if_pos c, if_pos c, if_pos c, if_pos c, if_pos c]; exact ⟨hn, by omega, fun k hk => absurd hk (by omega), by omega, by omega, by omega⟩
    · rw [if_neg c, if_neg c, if_neg c, if_neg c, if_neg c]; exact g3 w (by omega)
  · intro b w hb hw
    rw [e01] at hb
    rw [e00] at hw
    rw [e 9 (by omega) (by omega) (by omega) (by omega) (by omega) (by omega) (by omega), e18, e19]
    by_cases c : w = D 0 0
    · rw [if_pos c, if_pos c]
      have := (h3 b hb).2
      constructor
      · intro z; omega
      · intro z; omega
    · rw [if_neg c, if_neg c]; exact h1 b w hb (by omega)
  · intro _
    rw [e00, e01, e19, if_pos (by omega)]
  · intro b hb
    rw [e01] at hb
    rw [e00, e 2 (by omega) (by omega) (by omega) (by omega) (by omega) (by omega) (by omega), e 9 (by omega) (by omega) (by omega) (by omega) (by omega) (by omega) (by omega)]
    exact ⟨(h3 b hb).1, Nat.lt_succ_of_lt (h3 b hb).2⟩
  · intro b c hb hc
    rw [e01] at hb hc
    rw [e 2 (by omega) (by omega) (by omega) (by omega) (by omega) (by omega) (by omega), e 9 (by omega) (by omega) (by omega) (by omega) (by omega) (by omega) (by omega)]
    exact h4 b c hb hc
theorem gg_addShow {D : AD} {p v : Nat} (hg : GG D p) (h0 : 0 < D 0 0) (h6 : D 6 (D 0 0 - 1) < 6) (hv : v < D 0 2) : GG (addShow D v) p := by
  generalize eE : addShow D v = E
  have e : ∀ t, t ≠ 6 → t ≠ 7 → E t = D t := fun t a6 a7 => by
    rw [← eE]; unfold addShow; simp (disch := first | assumption | omega) only [up_t]
  have e6 : ∀ i, E 6 i = if i = D 0 0 - 1 then D 6 (D 0 0 - 1) + 1 else D 6 i := fun i => by
    rw [← eE]; unfold addShow; by_cases c : i = D 0 0 - 1
    · rw [if_pos c]; simp (disch := first | assumption | omega) only [up_t, up_e]
    · rw [if_neg c]; simp (disch := first | assumption | omega) only [up_t, up_n]
  have e7 : ∀ i, E 7 i = if i = 6 * (D 0 0 - 1) + D 6 (D 0 0 - 1) then v else D 7 i := fun i => by
    rw [← eE]; unfold addShow; by_cases c : i = 6 * (D 0 0 - 1) + D 6 (D 0 0 - 1)
    · rw [if_pos c]; simp (disch := first | assumption | omega) only [up_t, up_e]
    · rw [if_neg c]; simp (disch := first | assumption | omega) only [up_t, up_n]
  have f0 : ∀ i, E 0 i = D 0 i := fun i => by rw [e 0 (by omega) (by omega)]
  obtain ⟨g1, g2, g3, g4, g5, g6, g7⟩ := hg
  have il : ∀ k, isL D k → isL E k := fun k => by unfold isL; rw [f0, f0, e 8 (by omega) (by omega)]; exact id
  refine ⟨?_, g2.c (f0 2) (e 3 (by omega) (by omega)) (e 4 (by omega) (by omega)) (e 5 (by omega) (by omega)), ?_, g4.c (f0 0) (f0 1) (e 2 (by omega) (by omega)) (e 9 (by omega) (by omega)) (e 18 (by omega) (by omega)) (e 19 (by omega) (by omega)), g5.c (f0 1) (Nat.le_of_eq (f0 2).symm) (e 10 (by omega) (by omega)) (e 11 (by omega) (by omega)) (e 12 (by omega) (by omega)) (e 13 (by omega) (by omega)), g6.c il (Nat.le_of_eq (f0 2).symm) (e 14 (by omega) (by omega)) (e 15 (by omega) (by omega)) (e 16 (by omega) (by omega)) (e 17 (by omega) (by omega)) (by rw [e 30 (by omega) (by omega)]) (e 31 (by omega) (by omega)), g7.c (e 14 (by omega) (by omega)) (e 15 (by omega) (by omega)) (e 21 (by omega) (by omega)) (e 22 (by omega) (by omega)) (by rw [e 30 (by omega) (by omega)]) (e 31 (by omega) (by omega))⟩
  · unfold Gn; rw [f0, f0, f0]; exact g1
  · intro w hw
    rw [f0] at hw
    obtain ⟨a, b, c, d⟩ := g3 w hw
    rw [e 1 (by omega) (by omega), e 8 (by omega) (by omega), e 18 (by omega) (by omega), e 19 (by omega) (by omega), f0, f0, e6]
    by_cases z : w = D 0 0 - 1
    · rw [if_pos z]
      refine ⟨a, by omega, fun k hk => ?_, d⟩
      rw [e7]
      by_cases y : k = D 6 (D 0 0 - 1)
      · rw [if_pos (by omega)]; exact hv
      · rw [if_neg (by omega)]; exact c k (by rw [z]; omega)
    · rw [if_neg z]
      refine ⟨a, b, fun k hk => ?_, d⟩
      rw [e7, if_neg (by omega)]
      exact c k hk
theorem gg_addBut {D : AD} {p nm : Nat} (hg : GG D p) (h0 : 0 < D 0 0) (h24 : D 0 1 < 24) (hn : isW nm) (hf : ¬ fB D nm < D 19 (D 0 0 - 1)) : GG (addBut D nm) p := by
  generalize eE : addBut D nm = E
  have e : ∀ t, t ≠ 0 → t ≠ 2 → t ≠ 9 → t ≠ 10 → t ≠ 14 → t ≠ 19 → E t = D t := fun t a0 a2 a9 a10 a14 a19 => by
    rw [← eE]; unfold addBut; simp (disch := first | assumption | omega) only [up_t]
  have e0 : ∀ i, E 0 i = if i = 1 then D 0 1 + 1 else D 0 i := fun i => by
    rw [← eE]; unfold addBut; by_cases c : i = 1
    · rw [if_pos c]; simp (disch := first | assumption | omega) only [up_t, up_e]
    · rw [if_neg c]; simp (disch := first | assumption | omega) only [up_t, up_n]
  have e2 : ∀ i, E 2 i = if i = D 0 1 then nm else D 2 i := fun i => by
    rw [← eE]; unfold addBut; by_cases c : i = D 0 1
    · rw [if_pos c]; simp (disch := first | assumption | omega) only [up_t, up_e]
    · rw [if_neg c]; simp (disch := first | assumption | omega) only [up_t, up_n]
  have e9 : ∀ i, E 9 i = if i = D 0 1 then D 0 0 - 1 else D 9 i := fun i => by
    rw [← eE]; unfold addBut; by_cases c : i = D 0 1
    · rw [if_pos c]; simp (disch := first | assumption | omega) only [up_t, up_e]
    · rw [if_neg c]; simp (disch := first | assumption | omega) only [up_t, up_n]
  have e10 : ∀ i, E 10 i = if i = D 0 1 then 0 else D 10 i := fun i => by
    rw [← eE]; unfold addBut; by_cases c : i = D 0 1
    · rw [if_pos c]; simp (disch := first | assumption | omega) only [up_t, up_e]
    · rw [if_neg c]; simp (disch := first | assumption | omega) only [up_t, up_n]
  have e14 : ∀ i, E 14 i = if i = D 0 1 then 0 else D 14 i := fun i => by
    rw [← eE]; unfold addBut; by_cases c : i = D 0 1
    · rw [if_pos c]; simp (disch := first | assumption | omega) only [up_t, up_e]
    · rw [if_neg c]; simp (disch := first | assumption | omega) only [up_t, up_n]
  have e19 : ∀ i, E 19 i = if i = D 0 0 - 1 then D 0 1 + 1 else D 19 i := fun i => by
    rw [← eE]; unfold addBut; by_cases c : i = D 0 0 - 1
    · rw [if_pos c]; simp (disch := first | assumption | omega) only [up_t, up_e]
    · rw [if_neg c]; simp (disch := first | assumption | omega) only [up_t, up_n]
  have e00 : E 0 0 = D 0 0 := by rw [e0, if_neg (by omega)]
  have e01 : E 0 1 = D 0 1 + 1 := by rw [e0, if_pos rfl]
  have e02 : E 0 2 = D 0 2 := by rw [e0, if_neg (by omega)]
  obtain ⟨⟨g11, g12, g13⟩, g2, g3, ⟨h1, h2, h3, h4⟩, g5, g6, g7⟩ := hg
  have h2' := h2 h0
  have il : ∀ k, isL D k → isL E k := fun k hk => by
    unfold isL at hk ⊢
    rw [e00, e01, e 8 (by omega) (by omega) (by omega) (by omega) (by omega) (by omega)]
    rcases hk with a | a
    · exact Or.inl (by omega)
    · exact Or.inr a
  have f14 : E 14 = D 14 := by
    funext k
    rw [e14]
    by_cases c : k = D 0 1
    · rw [if_pos c]
      refine (g6.2.1 k (fun z => ?_)).symm
      rcases z with a | ⟨w, a, b, c⟩ <;> omega
    · rw [if_neg c]
  have nf : ∀ b, b < D 0 1 → D 9 b = D 0 0 - 1 → D 2 b ≠ nm := by
    intro b hb h9 y
    have z := (h1 b (D 0 0 - 1) hb (by omega)).1 h9
    have := (findN_spec (fun i => D 18 (D 0 0 - 1) ≤ i ∧ D 2 i = nm) (D 19 (D 0 0 - 1))).2 b (by unfold fB at hf; omega)
    exact this ⟨z.1, y⟩
  refine ⟨?_, g2.c e02 (e 3 (by omega) (by omega) (by omega) (by omega) (by omega) (by omega)) (e 4 (by omega) (by omega) (by omega) (by omega) (by omega) (by omega)) (e 5 (by omega) (by omega) (by omega) (by omega) (by omega) (by omega)), ?_, ⟨?_, ?_, ?_, ?_⟩, ?_, g6.c il (by omega) f14 (e 15 (by omega) (by omega) (by omega) (by omega) (by omega) (by omega)) (e 16 (by omega) (by omega) (by omega) (by omega) (by omega) (by omega)) (e 17 (by omega) (by omega) (by omega) (by omega) (by omega) (by omega)) (by rw [e 30 (by omega) (by omega) (by omega) (by omega) (by omega) (by omega)]) (e 31 (by omega) (by omega) (by omega) (by omega) (by omega) (by omega)), g7.c f14 (e 15 (by omega) (by omega) (by omega) (by omega) (by omega) (by omega)) (e 21 (by omega) (by omega) (by omega) (by omega) (by omega) (by omega)) (e 22 (by omega) (by omega) (by omega) (by omega) (by omega) (by omega)) (by rw [e 30 (by omega) (by omega) (by omega) (by omega) (by omega) (by omega)]) (e 31 (by omega) (by omega) (by omega) (by omega) (by omega) (by omega))⟩
  · unfold Gn; rw [e02, e00, e01]; omega
  · intro w hw
    rw [e00] at hw
    rw [e 1 (by omega) (by omega) (by omega) (by omega) (by omega) (by omega), e 6 (by omega) (by omega) (by omega) (by omega) (by omega) (by omega), e 7 (by omega) (by omega) (by omega) (by omega) (by omega) (by omega), e 8 (by omega) (by omega) (by omega) (by omega) (by omega) (by omega), e 18 (by omega) (by omega) (by omega) (by omega) (by omega) (by omega), e19, e01, e02]
    obtain ⟨a, b, c, d, d1, d2⟩ := g3 w hw
    refine ⟨a, b, c, d, ?_⟩
    by_cases z : w = D 0 0 - 1
    · rw [if_pos z]; omega
    · rw [if_neg z]; omega
  · intro b w hb hw
    rw [e01] at hb
    rw [e00] at hw
    rw [e9, e 18 (by omega) (by omega) (by omega) (by omega) (by omega) (by omega), e19]
    have d18 := (g3 w hw).2.2.2.2
    by_cases c : b = D 0 1
    · rw [if_pos c]
      by_cases z : w = D 0 0 - 1
      · rw [if_pos z]
        constructor
        · intro _; rw [z] at d18 ⊢; omega
        · intro _; exact z.symm
      · rw [if_neg z]
        constructor
        · intro y; exact absurd y.symm z
        · intro y; omega
    · rw [if_neg c]
      have := h1 b w (by omega) hw
      by_cases z : w = D 0 0 - 1
      · rw [if_pos z, this, z, h2']
        constructor
        · intro y; omega
        · intro y; omega
      · rw [if_neg z]; exact this
  · intro _
    rw [e00, e01, e19, if_pos rfl]
  · intro b hb
    rw [e01] at hb
    rw [e00, e2, e9]
    by_cases c : b = D 0 1
    · rw [if_pos c, if_pos c]; exact ⟨hn, by omega⟩
    · rw [if_neg c, if_neg c]; exact h3 b (by omega)
  · intro b c hb hc
    rw [e01] at hb hc
    rw [e2, e2, e9, e9]
    by_cases y : b = D 0 1
    · by_cases z : c = D 0 1
      · intro _ _; omega
      · rw [if_pos y, if_pos y, if_neg z, if_neg z]
        intro u v
        exact absurd v.symm (nf c (by omega) u.symm)
    · by_cases z : c = D 0 1
      · rw [if_neg y, if_neg y, if_pos z, if_pos z]
        intro u v
        exact absurd v (nf b (by omega) u)
      · rw [if_neg y, if_neg y, if_neg z, if_neg z]
        exact h4 b c (by omega) (by omega)
  · intro b hb
    rw [e01] at hb
    rw [e10, e 11 (by omega) (by omega) (by omega) (by omega) (by omega) (by omega), e 12 (by omega) (by omega) (by omega) (by omega) (by omega) (by omega), e 13 (by omega) (by omega) (by omega) (by omega) (by omega) (by omega), e02]
    by_cases c : b = D 0 1
    · rw [if_pos c]; exact ⟨by omega, fun k hk => absurd hk (by omega)⟩
    · rw [if_neg c]; exact g5 b (by omega)
theorem gg_addCond {D : AD} {p v sg m : Nat} (hg : GG D p) (h0 : 0 < D 0 1) (h3 : D 10 (D 0 1 - 1) < 3) (hv : v < D 0 2) (hs : sg ≤ 62) (hm : m ≤ 9) : GG (addCond D v sg m) p := by
  generalize eE : addCond D v sg m = E
  have e : ∀ t, t ≠ 10 → t ≠ 11 → t ≠ 12 → t ≠ 13 → E t = D t := fun t a10 a11 a12 a13 => by
    rw [← eE]; unfold addCond; simp (disch := first | assumption | omega) only [up_t]
  have e10 : ∀ i, E 10 i = if i = D 0 1 - 1 then D 10 (D 0 1 - 1) + 1 else D 10 i := fun i => by
    rw [← eE]; unfold addCond; by_cases c : i = D 0 1 - 1
    · rw [if_pos c]; simp (disch := first | assumption | omega) only [up_t, up_e]
    · rw [if_neg c]; simp (disch := first | assumption | omega) only [up_t, up_n]
  have e11 : ∀ i, E 11 i = if i = 3 * (D 0 1 - 1) + D 10 (D 0 1 - 1) then v else D 11 i := fun i => by
    rw [← eE]; unfold addCond; by_cases c : i = 3 * (D 0 1 - 1) + D 10 (D 0 1 - 1)
    · rw [if_pos c]; simp (disch := first | assumption | omega) only [up_t, up_e]
    · rw [if_neg c]; simp (disch := first | assumption | omega) only [up_t, up_n]
  have e12 : ∀ i, E 12 i = if i = 3 * (D 0 1 - 1) + D 10 (D 0 1 - 1) then sg else D 12 i := fun i => by
    rw [← eE]; unfold addCond; by_cases c : i = 3 * (D 0 1 - 1) + D 10 (D 0 1 - 1)
    · rw [if_pos c]; simp (disch := first | assumption | omega) only [up_t, up_e]
    · rw [if_neg c]; simp (disch := first | assumption | omega) only [up_t, up_n]
  have e13 : ∀ i, E 13 i = if i = 3 * (D 0 1 - 1) + D 10 (D 0 1 - 1) then m else D 13 i := fun i => by
    rw [← eE]; unfold addCond; by_cases c : i = 3 * (D 0 1 - 1) + D 10 (D 0 1 - 1)
    · rw [if_pos c]; simp (disch := first | assumption | omega) only [up_t, up_e]
    · rw [if_neg c]; simp (disch := first | assumption | omega) only [up_t, up_n]
  have f0 : ∀ i, E 0 i = D 0 i := fun i => by rw [e 0 (by omega) (by omega) (by omega) (by omega)]
  obtain ⟨g1, g2, g3, g4, g5, g6, g7⟩ := hg
  have il : ∀ k, isL D k → isL E k := fun k => by unfold isL; rw [f0, f0, e 8 (by omega) (by omega) (by omega) (by omega)]; exact id
  refine ⟨?_, g2.c (f0 2) (e 3 (by omega) (by omega) (by omega) (by omega)) (e 4 (by omega) (by omega) (by omega) (by omega)) (e 5 (by omega) (by omega) (by omega) (by omega)), g3.c (f0 0) (f0 1) (Nat.le_of_eq (f0 2).symm) (e 1 (by omega) (by omega) (by omega) (by omega)) (e 6 (by omega) (by omega) (by omega) (by omega)) (e 7 (by omega) (by omega) (by omega) (by omega)) (e 8 (by omega) (by omega) (by omega) (by omega)) (e 18 (by omega) (by omega) (by omega) (by omega)) (e 19 (by omega) (by omega) (by omega) (by omega)), g4.c (f0 0) (f0 1) (e 2 (by omega) (by omega) (by omega) (by omega)) (e 9 (by omega) (by omega) (by omega) (by omega)) (e 18 (by omega) (by omega) (by omega) (by omega)) (e 19 (by omega) (by omega) (by omega) (by omega)), ?_, g6.c il (Nat.le_of_eq (f0 2).symm) (e 14 (by omega) (by omega) (by omega) (by omega)) (e 15 (by omega) (by omega) (by omega) (by omega)) (e 16 (by omega) (by omega) (by omega) (by omega)) (e 17 (by omega) (by omega) (by omega) (by omega)) (by rw [e 30 (by omega) (by omega) (by omega) (by omega)]) (e 31 (by omega) (by omega) (by omega) (by omega)), g7.c (e 14 (by omega) (by omega) (by omega) (by omega)) (e 15 (by omega) (by omega) (by omega) (by omega)) (e 21 (by omega) (by omega) (by omega) (by omega)) (e 22 (by omega) (by omega) (by omega) (by omega)) (by rw [e 30 (by omega) (by omega) (by omega) (by omega)]) (e 31 (by omega) (by omega) (by omega) (by omega))⟩
  · unfold Gn; rw [f0, f0, f0]; exact g1
  · intro b hb
    rw [f0] at hb
    obtain ⟨a, c⟩ := g5 b hb
    rw [e10, f0]
    by_cases z : b = D 0 1 - 1
    · rw [if_pos z]
      refine ⟨by omega, fun k hk => ?_⟩
      rw [e11, e12, e13]
      by_cases y : k = D 10 (D 0 1 - 1)
      · rw [if_pos (by omega), if_pos (by omega), if_pos (by omega)]; exact ⟨hv, hs, hm⟩
      · rw [if_neg (by omega), if_neg (by omega), if_neg (by omega)]; exact c k (by rw [z]; omega)
    · rw [if_neg z]
      refine ⟨a, fun k hk => ?_⟩
      rw [e11, e12, e13, if_neg (by omega), if_neg (by omega), if_neg (by omega)]
      exact c k hk
theorem gg_addTim {D : AD} {p m : Nat} (hg : GG D p) (h0 : 0 < D 0 0) (hz : D 8 (D 0 0 - 1) = 0) (hm : m ≤ 9) : GG (addTim D m) p := by
  generalize eE : addTim D m = E
  have e : ∀ t, t ≠ 8 → E t = D t := fun t a8 => by
    rw [← eE]; unfold addTim; simp (disch := first | assumption | omega) only [up_t]
  have e8 : ∀ i, E 8 i = if i = D 0 0 - 1 then m else D 8 i := fun i => by
    rw [← eE]; unfold addTim; by_cases c : i = D 0 0 - 1
    · rw [if_pos c]; simp (disch := first | assumption | omega) only [up_t, up_e]
    · rw [if_neg c]; simp (disch := first | assumption | omega) only [up_t, up_n]
  have f0 : ∀ i, E 0 i = D 0 i := fun i => by rw [e 0 (by omega)]
  obtain ⟨g1, g2, g3, g4, g5, g6, g7⟩ := hg
  have il : ∀ k, isL D k → isL E k := fun k hk => by
    unfold isL at hk ⊢
    rw [f0, f0]
    rcases hk with a | ⟨w, a, b, c⟩
    · exact Or.inl a
    · refine Or.inr ⟨w, a, b, ?_⟩
      have : w ≠ D 0 0 - 1 := fun z => by rw [z, hz] at c; omega
      rw [e8, if_neg this]; exact c
  refine ⟨?_, g2.c (f0 2) (e 3 (by omega)) (e 4 (by omega)) (e 5 (by omega)), ?_, g4.c (f0 0) (f0 1) (e 2 (by omega)) (e 9 (by omega)) (e 18 (by omega)) (e 19 (by omega)), g5.c (f0 1) (Nat.le_of_eq (f0 2).symm) (e 10 (by omega)) (e 11 (by omega)) (e 12 (by omega)) (e 13 (by omega)), g6.c il (Nat.le_of_eq (f0 2).symm) (e 14 (by omega)) (e 15 (by omega)) (e 16 (by omega)) (e 17 (by omega)) (by rw [e 30 (by omega)]) (e 31 (by omega)), g7.c (e 14 (by omega)) (e 15 (by omega)) (e 21 (by omega)) (e 22 (by omega)) (by rw [e 30 (by omega)]) (e 31 (by omega))⟩
  · unfold Gn; rw [f0, f0, f0]; exact g1
  · intro w hw
    rw [f0] at hw
    obtain ⟨a, b, c, d, d2⟩ := g3 w hw
    rw [e 1 (by omega), e 6 (by omega), e 7 (by omega), e 18 (by omega), e 19 (by omega), f0, f0, e8]
    refine ⟨a, b, c, ?_, d2⟩
    by_cases z : w = D 0 0 - 1
    · rw [if_pos z]; exact hm
    · rw [if_neg z]; exact d
theorem gg_addDeed {D : AD} {p ls kd on num : Nat} (hg : GG D p) (hl : isL D ls) (h4 : D 14 ls < 4) (hk0 : kd ≠ 0) (hk : kd ≤ 4) (k2 : kd = 2 ∨ kd = 3 → on < D 0 2 ∧ num ≤ 9) (k4 : kd = 4 → 1 ≤ on ∧ on ≤ 20) : GG (addDeed D ls kd on num) p := by
  generalize eE : addDeed D ls kd on num = E
  have e : ∀ t, t ≠ 14 → t ≠ 15 → t ≠ 16 → t ≠ 17 → E t = D t := fun t a14 a15 a16 a17 => by
    rw [← eE]; unfold addDeed; simp (disch := first | assumption | omega) only [up_t]
  have e14 : ∀ i, E 14 i = if i = ls then D 14 ls + 1 else D 14 i := fun i => by
    rw [← eE]; unfold addDeed; by_cases c : i = ls
    · rw [if_pos c]; simp (disch := first | assumption | omega) only [up_t, up_e]
    · rw [if_neg c]; simp (disch := first | assumption | omega) only [up_t, up_n]
  have e15 : ∀ i, E 15 i = if i = 4 * ls + D 14 ls then kd else D 15 i := fun i => by
    rw [← eE]; unfold addDeed; by_cases c : i = 4 * ls + D 14 ls
    · rw [if_pos c]; simp (disch := first | assumption | omega) only [up_t, up_e]
    · rw [if_neg c]; simp (disch := first | assumption | omega) only [up_t, up_n]
  have e16 : ∀ i, E 16 i = if i = 4 * ls + D 14 ls then on else D 16 i := fun i => by
    rw [← eE]; unfold addDeed; by_cases c : i = 4 * ls + D 14 ls
    · rw [if_pos c]; simp (disch := first | assumption | omega) only [up_t, up_e]
    · rw [if_neg c]; simp (disch := first | assumption | omega) only [up_t, up_n]
  have e17 : ∀ i, E 17 i = if i = 4 * ls + D 14 ls then num else D 17 i := fun i => by
    rw [← eE]; unfold addDeed; by_cases c : i = 4 * ls + D 14 ls
    · rw [if_pos c]; simp (disch := first | assumption | omega) only [up_t, up_e]
    · rw [if_neg c]; simp (disch := first | assumption | omega) only [up_t, up_n]
  have f0 : ∀ i, E 0 i = D 0 i := fun i => by rw [e 0 (by omega) (by omega) (by omega) (by omega)]
  obtain ⟨g1, g2, g3, g4, g5, ⟨d1, d2, d3⟩, o1, o2, o3⟩ := hg
  have hl32 : ls < 32 := by
    have := g1.1
    have := g1.2.1
    rcases hl with a | ⟨w, a, b, c⟩ <;> omega
  have il : ∀ k, isL E k ↔ isL D k := fun k => by unfold isL; rw [f0, f0, e 8 (by omega) (by omega) (by omega) (by omega)]
  refine ⟨?_, g2.c (f0 2) (e 3 (by omega) (by omega) (by omega) (by omega)) (e 4 (by omega) (by omega) (by omega) (by omega)) (e 5 (by omega) (by omega) (by omega) (by omega)), g3.c (f0 0) (f0 1) (Nat.le_of_eq (f0 2).symm) (e 1 (by omega) (by omega) (by omega) (by omega)) (e 6 (by omega) (by omega) (by omega) (by omega)) (e 7 (by omega) (by omega) (by omega) (by omega)) (e 8 (by omega) (by omega) (by omega) (by omega)) (e 18 (by omega) (by omega) (by omega) (by omega)) (e 19 (by omega) (by omega) (by omega) (by omega)), g4.c (f0 0) (f0 1) (e 2 (by omega) (by omega) (by omega) (by omega)) (e 9 (by omega) (by omega) (by omega) (by omega)) (e 18 (by omega) (by omega) (by omega) (by omega)) (e 19 (by omega) (by omega) (by omega) (by omega)), g5.c (f0 1) (Nat.le_of_eq (f0 2).symm) (e 10 (by omega) (by omega) (by omega) (by omega)) (e 11 (by omega) (by omega) (by omega) (by omega)) (e 12 (by omega) (by omega) (by omega) (by omega)) (e 13 (by omega) (by omega) (by omega) (by omega)), ⟨?_, ?_, ?_⟩, ?_, ?_, ?_⟩
  · unfold Gn; rw [f0, f0, f0]; exact g1
  · intro k
    rw [e14]
    split
    · omega
    · exact d1 k
  · intro k hk
    rw [il] at hk
    rw [e14, if_neg (fun z => hk (by rw [z]; exact hl))]
    exact d2 k hk
  · intro k d hd
    rw [e14] at hd
    rw [e15, e16, e17, f0, e 30 (by omega) (by omega) (by omega) (by omega), e 31 (by omega) (by omega) (by omega) (by omega)]
    by_cases z : 4 * k + d = 4 * ls + D 14 ls
    · rw [if_pos z, if_pos z, if_pos z]
      exact ⟨hk, fun y => absurd y hk0, fun y => k2 (Or.inl y), fun y => k2 (Or.inr y), k4⟩
    · rw [if_neg z, if_neg z, if_neg z]
      refine d3 k d ?_
      by_cases y : k = ls
      · rw [if_pos y] at hd; rw [y]; omega
      · rw [if_neg y] at hd; exact hd
  · rw [e 30 (by omega) (by omega) (by omega) (by omega), sumN_up (f := E 14) (k := D 14) (i := ls) (d := 1) 32 hl32 (fun j _ hj => by rw [e14, if_neg hj]) (by rw [e14, if_pos rfl])]
    omega
  · intro i hi
    rw [e 30 (by omega) (by omega) (by omega) (by omega)] at hi
    rw [e 31 (by omega) (by omega) (by omega) (by omega), e14, e15, e 21 (by omega) (by omega) (by omega) (by omega), e 22 (by omega) (by omega) (by omega) (by omega)]
    obtain ⟨a, b, c⟩ := o2 i hi
    have d4 := d1 (D 31 i / 4)
    have ne : D 31 i ≠ 4 * ls + D 14 ls := by
      intro z
      have q1 : D 31 i / 4 = ls := by omega
      rw [q1] at a
      omega
    rw [if_neg ne]
    refine ⟨?_, b, c⟩
    split
    · rename_i y; rw [y] at a; omega
    · exact a
  · intro i j hij hj
    rw [e 30 (by omega) (by omega) (by omega) (by omega)] at hj
    rw [e 31 (by omega) (by omega) (by omega) (by omega), e 22 (by omega) (by omega) (by omega) (by omega)]
    exact o3 i j hij hj
theorem gg_addOpen {D : AD} {p q ls nm pl : Nat} (hg : GG D p) (hl : isL D ls) (h4 : D 14 ls < 4) (hn : isW nm) (hp : p ≤ pl) (hq : pl < q) : GG (addOpen D ls nm pl) q := by
  generalize eE : addOpen D ls nm pl = E
  have e : ∀ t, t ≠ 14 → t ≠ 15 → t ≠ 16 → t ≠ 17 → t ≠ 21 → t ≠ 22 → t ≠ 30 → t ≠ 31 → E t = D t := fun t a14 a15 a16 a17 a21 a22 a30 a31 => by
    rw [← eE]; unfold addOpen addDeed; simp (disch := first | assumption | omega) only [up_t]
  have e14 : ∀ i, E 14 i = if i = ls then D 14 ls + 1 else D 14 i := fun i => by
    rw [← eE]; unfold addOpen addDeed; by_cases c : i = ls
    · rw [if_pos c]; simp (disch := first | assumption | omega) only [up_t, up_e]
    · rw [if_neg c]; simp (disch := first | assumption | omega) only [up_t, up_n]
  have e15 : ∀ i, E 15 i = if i = 4 * ls + D 14 ls then 0 else D 15 i := fun i => by
    rw [← eE]; unfold addOpen addDeed; by_cases c : i = 4 * ls + D 14 ls
    · rw [if_pos c]; simp (disch := first | assumption | omega) only [up_t, up_e]
    · rw [if_neg c]; simp (disch := first | assumption | omega) only [up_t, up_n]
  have e21 : ∀ i, E 21 i = if i = 4 * ls + D 14 ls then nm else D 21 i := fun i => by
    rw [← eE]; unfold addOpen addDeed; by_cases c : i = 4 * ls + D 14 ls
    · rw [if_pos c]; simp (disch := first | assumption | omega) only [up_t, up_e]
    · rw [if_neg c]; simp (disch := first | assumption | omega) only [up_t, up_n]
  have e22 : ∀ i, E 22 i = if i = 4 * ls + D 14 ls then pl else D 22 i := fun i => by
    rw [← eE]; unfold addOpen addDeed; by_cases c : i = 4 * ls + D 14 ls
    · rw [if_pos c]; simp (disch := first | assumption | omega) only [up_t, up_e]
    · rw [if_neg c]; simp (disch := first | assumption | omega) only [up_t, up_n]
  have e30 : ∀ i, E 30 i = if i = 7 then D 30 7 + 1 else D 30 i := fun i => by
    rw [← eE]; unfold addOpen addDeed; by_cases c : i = 7
    · rw [if_pos c]; simp (disch := first | assumption | omega) only [up_t, up_e]
    · rw [if_neg c]; simp (disch := first | assumption | omega) only [up_t, up_n]
  have e31 : ∀ i, E 31 i = if i = D 30 7 then 4 * ls + D 14 ls else D 31 i := fun i => by
    rw [← eE]; unfold addOpen addDeed; by_cases c : i = D 30 7
    · rw [if_pos c]; simp (disch := first | assumption | omega) only [up_t, up_e]
    · rw [if_neg c]; simp (disch := first | assumption | omega) only [up_t, up_n]
  have f0 : ∀ i, E 0 i = D 0 i := fun i => by rw [e 0 (by omega) (by omega) (by omega) (by omega) (by omega) (by omega) (by omega) (by omega)]
  have u16 : ∀ i, i ≠ 4 * ls + D 14 ls → E 16 i = D 16 i := fun i hi => by
    rw [← eE]; unfold addOpen addDeed; simp (disch := first | assumption | omega) only [up_t, up_n]
  have u17 : ∀ i, i ≠ 4 * ls + D 14 ls → E 17 i = D 17 i := fun i hi => by
    rw [← eE]; unfold addOpen addDeed; simp (disch := first | assumption | omega) only [up_t, up_n]
  have e307 : E 30 7 = D 30 7 + 1 := by rw [e30, if_pos rfl]
  obtain ⟨g1, g2, g3, g4, g5, ⟨d1, d2, d3⟩, o1, o2, o3⟩ := hg
  have hl32 : ls < 32 := by
    have := g1.1
    have := g1.2.1
    rcases hl with a | ⟨w, a, b, c⟩ <;> omega
  have il : ∀ k, isL E k ↔ isL D k := fun k => by unfold isL; rw [f0, f0, e 8 (by omega) (by omega) (by omega) (by omega) (by omega) (by omega) (by omega) (by omega)]
  have ne : ∀ i, i < D 30 7 → D 31 i ≠ 4 * ls + D 14 ls := by
    intro i hi z
    obtain ⟨a, b, c⟩ := o2 i hi
    have q1 : D 31 i / 4 = ls := by omega
    rw [q1] at a
    omega
  refine ⟨?_, g2.c (f0 2) (e 3 (by omega) (by omega) (by omega) (by omega) (by omega) (by omega) (by omega) (by omega)) (e 4 (by omega) (by omega) (by omega) (by omega) (by omega) (by omega) (by omega) (by omega)) (e 5 (by omega) (by omega) (by omega) (by omega) (by omega) (by omega) (by omega) (by omega)), g3.c (f0 0) (f0 1) (Nat.le_of_eq (f0 2).symm) (e 1 (by omega) (by omega) (by omega) (by omega) (by omega) (by omega) (by omega) (by omega)) (e 6 (by omega) (by omega) (by omega) (by omega) (by omega) (by omega) (by omega) (by omega)) (e 7 (by omega) (by omega) (by omega) (by omega) (by omega) (by omega) (by omega) (by omega)) (e 8 (by omega) (by omega) (by omega) (by omega) (by omega) (by omega) (by omega) (by omega)) (e 18 (by omega) (by omega) (by omega) (by omega) (by omega) (by omega) (by omega) (by omega)) (e 19 (by omega) (by omega) (by omega) (by omega) (by omega) (by omega) (by omega) (by omega)), g4.c (f0 0) (f0 1) (e 2 (by omega) (by omega) (by omega) (by omega) (by omega) (by omega) (by omega) (by omega)) (e 9 (by omega) (by omega) (by omega) (by omega) (by omega) (by omega) (by omega) (by omega)) (e 18 (by omega) (by omega) (by omega) (by omega) (by omega) (by omega) (by omega) (by omega)) (e 19 (by omega) (by omega) (by omega) (by omega) (by omega) (by omega) (by omega) (by omega)), g5.c (f0 1) (Nat.le_of_eq (f0 2).symm) (e 10 (by omega) (by omega) (by omega) (by omega) (by omega) (by omega) (by omega) (by omega)) (e 11 (by omega) (by omega) (by omega) (by omega) (by omega) (by omega) (by omega) (by omega)) (e 12 (by omega) (by omega) (by omega) (by omega) (by omega) (by omega) (by omega) (by omega)) (e 13 (by omega) (by omega) (by omega) (by omega) (by omega) (by omega) (by omega) (by omega)), ⟨?_, ?_, ?_⟩, ?_, ?_, ?_⟩
  · unfold Gn; rw [f0, f0, f0]; exact g1
  · intro k
    rw [e14]
    split
    · omega
    · exact d1 k
  · intro k hk
    rw [il] at hk
    rw [e14, if_neg (fun z => hk (by rw [z]; exact hl))]
    exact d2 k hk
  · intro k d hd
    rw [e14] at hd
    rw [e15, f0, e307]
    by_cases z : 4 * k + d = 4 * ls + D 14 ls
    · rw [if_pos z]
      exact ⟨by omega, fun _ => ⟨D 30 7, Nat.lt_succ_self _, by rw [e31, if_pos rfl, z]⟩, fun y => absurd y (by omega), fun y => absurd y (by omega), fun y => absurd y (by omega)⟩
    · rw [if_neg z, u16 _ z, u17 _ z]
      have := d3 k d (by
        by_cases y : k = ls
        · rw [if_pos y] at hd; rw [y]; omega
        · rw [if_neg y] at hd; exact hd)
      refine ⟨this.1, fun y => ?_, this.2.2⟩
      obtain ⟨i, hi, ei⟩ := this.2.1 y
      exact ⟨i, by omega, by rw [e31, if_neg (by omega)]; exact ei⟩
  · rw [e307, sumN_up (f := E 14) (k := D 14) (i := ls) (d := 1) 32 hl32 (fun j _ hj => by rw [e14, if_neg hj]) (by rw [e14, if_pos rfl])]
    omega
  · intro i hi
    rw [e307] at hi
    rw [e31]
    by_cases y : i = D 30 7
    · rw [if_pos y, e14, e15, e21, e22, if_pos rfl, if_pos rfl, if_pos rfl, if_pos (by omega)]
      exact ⟨by omega, rfl, hn, hq⟩
    · have hi' : i < D 30 7 := by omega
      rw [if_neg y, e14, e15, e21, e22, if_neg (ne i hi'), if_neg (ne i hi'), if_neg (ne i hi')]
      obtain ⟨a, b, c, d⟩ := o2 i hi'
      refine ⟨?_, b, c, by omega⟩
      split
      · rename_i u; rw [u] at a; omega
      · exact a
  · intro i j hij hj
    rw [e307] at hj
    rw [e31, e31, if_neg (show ¬ i = D 30 7 by omega), e22, e22, if_neg (ne i (by omega))]
    by_cases y : j = D 30 7
    · rw [if_pos y, if_pos rfl]
      have := (o2 i (by omega)).2.2.2
      omega
    · rw [if_neg y, if_neg (ne j (by omega))]
      exact o3 i j hij (by omega)
theorem isL_up {D : AD} {i v k : Nat} : isL (up D 30 i v) k ↔ isL D k := by
  unfold isL; rw [up_t (by omega), up_t (by omega)]
theorem fV_le (D : AD) (v : Nat) : fV D v ≤ D 0 2 := findN_le _ _
/-- reading on keeps what holds -/
theorem wfp_stp {a : Nat} {D : AD} {k v pl p q : Nat} (hg : WfP a D p) (hp : p ≤ pl) (hq : pl < q) (hw : k = 1 → isW v) (h0 : (stp a D k v pl).1 = 0) : WfP (stp a D k v pl).2.1 (stp a D k v pl).2.2 q := by
  obtain ⟨gg, ga⟩ := hg
  have gq : GG D q := gg.mono (by omega)
  have n1 := gg.1.1
  have n2 := gg.1.2.1
  have bad : ∀ {c : Nat} {E : AD} (R : Nat × Nat × AD), R = (c, 0, E) → c ≠ 0 → R.1 = 0 → WfP R.2.1 R.2.2 q := by
    intro c E R e hc h; rw [e] at h; exact absurd h hc
  have good : ∀ (b : Nat) (E : AD) (R : Nat × Nat × AD), R = (0, b, E) → WfP b E q → WfP R.2.1 R.2.2 q := by
    intro b E R e h; rw [e]; exact h
  match a, ga with
  | 0, _ =>
    rw [stp_0] at h0 ⊢
    by_cases c1 : isK 13 k v
    · rw [if_pos c1] at h0 ⊢
      by_cases c2 : D 0 0 < 8
      · rw [if_pos c2]; exact ⟨gq, c2⟩
      · rw [if_neg c2] at h0; exact absurd h0 (Nat.succ_ne_zero _)
    · rw [if_neg c1] at h0 ⊢
      by_cases c2 : 0 < D 0 0 ∨ ¬ (isK 8 k v ∨ isK 12 k v)
      · rw [if_pos c2] at h0; exact absurd h0 (Nat.succ_ne_zero _)
      · rw [if_neg c2] at h0 ⊢
        by_cases c3 : D 0 2 < 6
        · rw [if_pos c3]
          refine ⟨gq.r (by omega), ?_⟩
          show up D 30 2 (if isK 8 k v then 1 else 0) 0 2 < 6 ∧ up D 30 2 (if isK 8 k v then 1 else 0) 30 2 ≤ 1
          rw [up_t (by omega), up_s]
          refine ⟨c3, ?_⟩
          split <;> omega
        · rw [if_neg c3] at h0; exact absurd h0 (Nat.succ_ne_zero _)
  | 1, ga =>
    obtain ⟨a1, a2⟩ := ga
    rw [stp_1] at h0 ⊢
    by_cases c1 : k ≠ 1
    · rw [if_pos c1] at h0; exact absurd h0 (Nat.succ_ne_zero _)
    · rw [if_neg c1] at h0 ⊢
      by_cases c2 : fV D v < D 0 2
      · rw [if_pos c2] at h0; exact absurd h0 (Nat.succ_ne_zero _)
      · rw [if_neg c2]
        refine ⟨gq.r (by omega), ?_⟩
        show up D 30 1 v 0 2 < 6 ∧ up D 30 1 v 30 2 ≤ 1 ∧ isW (up D 30 1 v 30 1)
        rw [up_t (by omega), up_s, up_n (by omega)]
        exact ⟨a1, a2, hw (by omega)⟩
  | 2, ga =>
    obtain ⟨a1, a2, a3⟩ := ga
    rw [stp_2] at h0 ⊢
    by_cases c1 : k ≠ 2
    · rw [if_pos c1] at h0; exact absurd h0 (Nat.succ_ne_zero _)
    · rw [if_neg c1] at h0 ⊢
      by_cases c2 : v < 1 ∨ 9 < v
      · rw [if_pos c2] at h0; exact absurd h0 (Nat.succ_ne_zero _)
      · rw [if_neg c2]
        exact ⟨gg_addVar gq a1 a3 (by omega) (by omega) a2, trivial⟩
  | 3, _ =>
    rw [stp_3] at h0 ⊢
    by_cases c1 : k = 59
    · rw [if_pos c1]; exact ⟨gq, trivial⟩
    · rw [if_neg c1] at h0; exact absurd h0 (Nat.succ_ne_zero _)
  | 4, ga =>
    have a1 : D 0 0 < 8 := ga
    rw [stp_4] at h0 ⊢
    by_cases c1 : k ≠ 1
    · rw [if_pos c1] at h0; exact absurd h0 (Nat.succ_ne_zero _)
    · rw [if_neg c1] at h0 ⊢
      by_cases c2 : fW D v < D 0 0
      · rw [if_pos c2] at h0; exact absurd h0 (Nat.succ_ne_zero _)
      · rw [if_neg c2]
        refine ⟨gg_addWin gq a1 (hw (by omega)), ?_⟩
        show 0 < addWin D v 0 0
        unfold addWin
        rw [up_s]
        omega
  | 5, ga =>
    rw [stp_5] at h0 ⊢
    by_cases c1 : k = 123
    · rw [if_pos c1]; exact ⟨gq, ga⟩
    · rw [if_neg c1] at h0; exact absurd h0 (Nat.succ_ne_zero _)
  | 6, ga =>
    have a1 : 0 < D 0 0 := ga
    rw [stp_6] at h0 ⊢
    by_cases c1 : k = 125
    · rw [if_pos c1]; exact ⟨gq, trivial⟩
    · rw [if_neg c1] at h0 ⊢
      by_cases c2 : 0 < D 8 (D 0 0 - 1)
      · rw [if_pos c2] at h0; exact absurd h0 (Nat.succ_ne_zero _)
      · rw [if_neg c2] at h0 ⊢
        by_cases c3 : isK 1 k v
        · rw [if_pos c3]; exact ⟨gq, a1, Nat.eq_zero_of_not_pos c2⟩
        · rw [if_neg c3] at h0 ⊢
          by_cases c4 : isK 3 k v
          · rw [if_pos c4] at h0 ⊢
            by_cases c5 : D 0 1 < 24
            · rw [if_pos c5]; exact ⟨gq, a1, c5⟩
            · rw [if_neg c5] at h0; exact absurd h0 (Nat.succ_ne_zero _)
          · rw [if_neg c4] at h0 ⊢
            by_cases c5 : D 18 (D 0 0 - 1) < D 19 (D 0 0 - 1) ∨ ¬ isK 11 k v
            · rw [if_pos c5] at h0; exact absurd h0 (Nat.succ_ne_zero _)
            · rw [if_neg c5] at h0 ⊢
              by_cases c6 : D 6 (D 0 0 - 1) < 6
              · rw [if_pos c6]; exact ⟨gq, a1, c6⟩
              · rw [if_neg c6] at h0; exact absurd h0 (Nat.succ_ne_zero _)
  | 7, ga =>
    obtain ⟨a1, a2⟩ := ga
    rw [stp_7] at h0 ⊢
    by_cases c1 : k ≠ 1
    · rw [if_pos c1] at h0; exact absurd h0 (Nat.succ_ne_zero _)
    · rw [if_neg c1] at h0 ⊢
      by_cases c2 : fV D v < D 0 2
      · rw [if_pos c2]
        refine ⟨gg_addShow (gq.r (by omega)) (by rw [up_t (by omega)]; exact a1) (by rw [up_t (by omega), up_t (by omega)]; exact a2) (by rw [up_t (by omega)]; exact c2), ?_⟩
        show 0 < addShow (up D 30 3 (fV D v)) (fV D v) 0 0
        unfold addShow
        simp (disch := first | assumption | omega) only [up_t]
        exact a1
      · rw [if_neg c2] at h0; exact absurd h0 (Nat.succ_ne_zero _)
  | 8, ga =>
    rw [stp_8] at h0 ⊢
    by_cases c1 : k = 59
    · rw [if_pos c1]; exact ⟨gq, ga⟩
    · rw [if_neg c1] at h0; exact absurd h0 (Nat.succ_ne_zero _)
  | 9, ga =>
    obtain ⟨a1, a2⟩ := ga
    rw [stp_9] at h0 ⊢
    by_cases c1 : k ≠ 1
    · rw [if_pos c1] at h0; exact absurd h0 (Nat.succ_ne_zero _)
    · rw [if_neg c1] at h0 ⊢
      by_cases c2 : fB D v < D 19 (D 0 0 - 1)
      · rw [if_pos c2] at h0; exact absurd h0 (Nat.succ_ne_zero _)
      · rw [if_neg c2]
        refine ⟨gg_addBut (gq.r (by omega)) (by rw [up_t (by omega)]; exact a1) (by rw [up_t (by omega)]; exact a2) (hw (by omega)) ?_, ?_⟩
        · unfold fB
          simp (disch := first | assumption | omega) only [up_t]
          exact c2
        · show 0 < addBut (up D 30 6 (D 0 1)) v 0 0 ∧ 0 < addBut (up D 30 6 (D 0 1)) v 0 1 ∧ isL (addBut (up D 30 6 (D 0 1)) v) (addBut (up D 30 6 (D 0 1)) v 30 6)
          have e00 : addBut (up D 30 6 (D 0 1)) v 0 0 = D 0 0 := by
            unfold addBut
            simp (disch := first | assumption | omega) only [up_t, up_n]
          have e01 : addBut (up D 30 6 (D 0 1)) v 0 1 = D 0 1 + 1 := by
            unfold addBut
            simp (disch := first | assumption | omega) only [up_t, up_s]
          have e306 : addBut (up D 30 6 (D 0 1)) v 30 6 = D 0 1 := by
            unfold addBut
            simp (disch := first | assumption | omega) only [up_t, up_s]
          refine ⟨by omega, by omega, Or.inl ?_⟩
          show addBut (up D 30 6 (D 0 1)) v 30 6 < addBut (up D 30 6 (D 0 1)) v 0 1
          omega
  | 10, ga =>
    rw [stp_10] at h0 ⊢
    by_cases c1 : isK 7 k v
    · rw [if_pos c1]; exact ⟨gq, ga⟩
    · rw [if_neg c1] at h0 ⊢
      by_cases c2 : isK 5 k v
      · rw [if_pos c2]; exact ⟨gq, ga.1, ga.2.2⟩
      · rw [if_neg c2] at h0; exact absurd h0 (Nat.succ_ne_zero _)
  | 11, ga =>
    obtain ⟨a1, a2, a3⟩ := ga
    rw [stp_11] at h0 ⊢
    by_cases c1 : k ≠ 1
    · rw [if_pos c1] at h0; exact absurd h0 (Nat.succ_ne_zero _)
    · rw [if_neg c1] at h0 ⊢
      by_cases c2 : fV D v < D 0 2
      · rw [if_pos c2] at h0 ⊢
        by_cases c3 : D 10 (D 0 1 - 1) < 3
        · rw [if_pos c3]
          refine ⟨gq.r (by omega), ?_⟩
          show 0 < up D 30 3 (fV D v) 0 0 ∧ 0 < up D 30 3 (fV D v) 0 1 ∧ isL (up D 30 3 (fV D v)) (up D 30 3 (fV D v) 30 6) ∧ up D 30 3 (fV D v) 10 (up D 30 3 (fV D v) 0 1 - 1) < 3 ∧ up D 30 3 (fV D v) 30 3 < up D 30 3 (fV D v) 0 2
          rw [isL_up, up_n (by omega), up_s, up_t (by omega), up_t (by omega)]
          exact ⟨a1, a2, a3, c3, c2⟩
        · rw [if_neg c3] at h0; exact absurd h0 (Nat.succ_ne_zero _)
      · rw [if_neg c2] at h0; exact absurd h0 (Nat.succ_ne_zero _)
  | 12, ga =>
    obtain ⟨a1, a2, a3, a4, a5⟩ := ga
    rw [stp_12] at h0 ⊢
    by_cases c1 : k = 61 ∨ k = 60 ∨ k = 62
    · rw [if_pos c1]
      refine ⟨gq.r (by omega), ?_⟩
      show 0 < up D 30 4 k 0 0 ∧ 0 < up D 30 4 k 0 1 ∧ isL (up D 30 4 k) (up D 30 4 k 30 6) ∧ up D 30 4 k 10 (up D 30 4 k 0 1 - 1) < 3 ∧ up D 30 4 k 30 3 < up D 30 4 k 0 2 ∧ (up D 30 4 k 30 4 = 61 ∨ up D 30 4 k 30 4 = 60 ∨ up D 30 4 k 30 4 = 62)
      rw [isL_up, up_n (show 6 ≠ 4 by omega), up_n (show 3 ≠ 4 by omega), up_s, up_t (by omega), up_t (by omega)]
      exact ⟨a1, a2, a3, a4, a5, c1⟩
    · rw [if_neg c1] at h0; exact absurd h0 (Nat.succ_ne_zero _)
  | 13, ga =>
    obtain ⟨a1, a2, a3, a4, a5, a6⟩ := ga
    rw [stp_13] at h0 ⊢
    by_cases c1 : k ≠ 2
    · rw [if_pos c1] at h0; exact absurd h0 (Nat.succ_ne_zero _)
    · rw [if_neg c1] at h0 ⊢
      by_cases c2 : 9 < v
      · rw [if_pos c2] at h0; exact absurd h0 (Nat.succ_ne_zero _)
      · rw [if_neg c2]
        refine ⟨gg_addCond gq a2 a4 a5 (by omega) (by omega), ?_⟩
        show 0 < addCond D (D 30 3) (D 30 4) v 0 0 ∧ 0 < addCond D (D 30 3) (D 30 4) v 0 1 ∧ isL (addCond D (D 30 3) (D 30 4) v) (addCond D (D 30 3) (D 30 4) v 30 6)
        unfold isL addCond
        simp (disch := first | assumption | omega) only [up_t]
        exact ⟨a1, a2, a3⟩
  | 14, ga =>
    rw [stp_14] at h0 ⊢
    by_cases c1 : isK 2 k v
    · rw [if_pos c1]; exact ⟨gq, ga⟩
    · rw [if_neg c1] at h0 ⊢
      by_cases c2 : isK 5 k v
      · rw [if_pos c2]; exact ⟨gq, ga.1, ga.2.2⟩
      · rw [if_neg c2] at h0; exact absurd h0 (Nat.succ_ne_zero _)
  | 15, ga =>
    obtain ⟨a1, a2⟩ := ga
    rw [stp_15] at h0 ⊢
    by_cases c1 : k ≠ 2
    · rw [if_pos c1] at h0; exact absurd h0 (Nat.succ_ne_zero _)
    · rw [if_neg c1] at h0 ⊢
      by_cases c2 : v < 1 ∨ 9 < v
      · rw [if_pos c2] at h0; exact absurd h0 (Nat.succ_ne_zero _)
      · rw [if_neg c2]
        refine ⟨gg_addTim (gq.r (by omega)) (by rw [up_t (by omega)]; exact a1) (by rw [up_t (by omega), up_t (by omega)]; exact a2) (by omega), ?_⟩
        show 0 < addTim (up D 30 6 (24 + (D 0 0 - 1))) v 0 0 ∧ isL (addTim (up D 30 6 (24 + (D 0 0 - 1))) v) (addTim (up D 30 6 (24 + (D 0 0 - 1))) v 30 6)
        unfold isL addTim
        simp (disch := first | assumption | omega) only [up_t, up_s]
        exact ⟨a1, Or.inr ⟨D 0 0 - 1, by omega, rfl, by rw [up_s]; omega⟩⟩
  | 16, ga =>
    rw [stp_16] at h0 ⊢
    by_cases c1 : isK 5 k v
    · rw [if_pos c1]; exact ⟨gq, ga⟩
    · rw [if_neg c1] at h0; exact absurd h0 (Nat.succ_ne_zero _)
  | 17, ga =>
    obtain ⟨a1, a2⟩ := ga
    have sl := dSaid_le k v
    rw [stp_17] at h0 ⊢
    revert h0 sl
    generalize dSaid k v = s
    intro h0 sl
    by_cases c1 : s = 5
    · rw [if_pos c1] at h0; exact absurd h0 (Nat.succ_ne_zero _)
    · rw [if_neg c1] at h0 ⊢
      by_cases c2 : D 14 (D 30 6) < 4
      · rw [if_pos c2] at h0 ⊢
        by_cases c3 : s = 0
        · rw [if_pos c3]
          refine ⟨gq.r (by omega), ?_⟩
          show 0 < up D 30 5 0 0 0 ∧ isL (up D 30 5 0) (up D 30 5 0 30 6) ∧ up D 30 5 0 14 (up D 30 5 0 30 6) < 4 ∧ up D 30 5 0 30 5 = 0
          rw [isL_up, up_n (by omega), up_s, up_t (by omega), up_t (by omega)]
          exact ⟨a1, a2, c2, rfl⟩
        · rw [if_neg c3] at h0 ⊢
          by_cases c4 : s = 1
          · rw [if_pos c4]
            refine ⟨gg_addDeed (gq.r (by omega)) (isL_up.2 a2) (by rw [up_t (by omega)]; exact c2) (by omega) (by omega) (fun z => absurd z (by omega)) (fun z => absurd z (by omega)), ?_⟩
            show 0 < addDeed (up D 30 5 1) (D 30 6) 1 0 0 0 0 ∧ isL (addDeed (up D 30 5 1) (D 30 6) 1 0 0) (addDeed (up D 30 5 1) (D 30 6) 1 0 0 30 6)
            unfold isL addDeed
            simp (disch := first | assumption | omega) only [up_t, up_n]
            exact ⟨a1, a2⟩
          · rw [if_neg c4] at h0 ⊢
            by_cases c5 : s = 4
            · rw [if_pos c5]
              refine ⟨gq.r (by omega), ?_⟩
              show 0 < up D 30 5 4 0 0 ∧ isL (up D 30 5 4) (up D 30 5 4 30 6) ∧ up D 30 5 4 14 (up D 30 5 4 30 6) < 4 ∧ (up D 30 5 4 30 5 = 2 ∨ up D 30 5 4 30 5 = 3 ∨ up D 30 5 4 30 5 = 4) ∧ (up D 30 5 4 30 5 ≠ 4 → up D 30 5 4 30 3 < up D 30 5 4 0 2)
              rw [isL_up, up_n (show 6 ≠ 5 by omega), up_s, up_t (by omega), up_t (by omega)]
              exact ⟨a1, a2, c2, by omega, fun z => absurd rfl z⟩
            · rw [if_neg c5]
              refine ⟨gq.r (by omega), ?_⟩
              show 0 < up D 30 5 s 0 0 ∧ isL (up D 30 5 s) (up D 30 5 s 30 6) ∧ up D 30 5 s 14 (up D 30 5 s 30 6) < 4 ∧ (up D 30 5 s 30 5 = 2 ∨ up D 30 5 s 30 5 = 3)
              rw [isL_up, up_n (show 6 ≠ 5 by omega), up_s, up_t (by omega), up_t (by omega)]
              exact ⟨a1, a2, c2, by omega⟩
      · rw [if_neg c2] at h0; exact absurd h0 (Nat.succ_ne_zero _)
  | 18, ga =>
    obtain ⟨a1, a2, a3, a4⟩ := ga
    rw [stp_18] at h0 ⊢
    by_cases c1 : k ≠ 1
    · rw [if_pos c1] at h0; exact absurd h0 (Nat.succ_ne_zero _)
    · rw [if_neg c1]
      refine ⟨gg_addOpen gg a2 a3 (hw (by omega)) hp hq, ?_⟩
      show 0 < addOpen D (D 30 6) v pl 0 0 ∧ isL (addOpen D (D 30 6) v pl) (addOpen D (D 30 6) v pl 30 6)
      unfold isL addOpen addDeed
      simp (disch := first | assumption | omega) only [up_t, up_n]
      exact ⟨a1, a2⟩
  | 19, ga =>
    obtain ⟨a1, a2, a3, a4⟩ := ga
    rw [stp_19] at h0 ⊢
    by_cases c1 : k ≠ 1
    · rw [if_pos c1] at h0; exact absurd h0 (Nat.succ_ne_zero _)
    · rw [if_neg c1] at h0 ⊢
      by_cases c2 : fV D v < D 0 2
      · rw [if_pos c2]
        refine ⟨gq.r (by omega), ?_⟩
        show 0 < up D 30 3 (fV D v) 0 0 ∧ isL (up D 30 3 (fV D v)) (up D 30 3 (fV D v) 30 6) ∧ up D 30 3 (fV D v) 14 (up D 30 3 (fV D v) 30 6) < 4 ∧ (up D 30 3 (fV D v) 30 5 = 2 ∨ up D 30 3 (fV D v) 30 5 = 3 ∨ up D 30 3 (fV D v) 30 5 = 4) ∧ (up D 30 3 (fV D v) 30 5 ≠ 4 → up D 30 3 (fV D v) 30 3 < up D 30 3 (fV D v) 0 2)
        rw [isL_up, up_n (show 6 ≠ 3 by omega), up_n (show 5 ≠ 3 by omega), up_s, up_t (by omega), up_t (by omega)]
        exact ⟨a1, a2, a3, by omega, fun _ => c2⟩
      · rw [if_neg c2] at h0; exact absurd h0 (Nat.succ_ne_zero _)
  | 20, ga =>
    obtain ⟨a1, a2, a3, a4, a5⟩ := ga
    rw [stp_20] at h0 ⊢
    by_cases c1 : k ≠ 2
    · rw [if_pos c1] at h0; exact absurd h0 (Nat.succ_ne_zero _)
    · rw [if_neg c1] at h0 ⊢
      by_cases c2 : v < (if D 30 5 = 2 then 0 else 1) ∨ (if D 30 5 = 4 then 20 else if D 30 5 = 2 then D 4 (D 30 3) else 9) < v
      · rw [if_pos c2] at h0; exact absurd h0 (Nat.succ_ne_zero _)
      · rw [if_neg c2]
        have m9 : D 30 5 ≠ 4 → D 4 (D 30 3) ≤ 9 := fun z => (gg.2.1 _ (a5 z)).2.2.1
        refine ⟨gg_addDeed gq a2 a3 (by omega) (by omega) (fun z => ?_) (fun z => ?_), ?_⟩
        · rw [if_neg (by omega)]
          refine ⟨a5 (by omega), ?_⟩
          rw [if_neg (show ¬ D 30 5 = 4 by omega)] at c2
          rcases z with z | z
          · rw [if_pos z, if_pos z] at c2
            have := m9 (by omega)
            omega
          · rw [if_neg (by omega), if_neg (by omega)] at c2
            omega
        · rw [if_pos z]
          rw [if_neg (show ¬ D 30 5 = 2 by omega), if_pos z] at c2
          omega
        · show 0 < addDeed D (D 30 6) (D 30 5) (if D 30 5 = 4 then v else D 30 3) v 0 0 ∧ isL (addDeed D (D 30 6) (D 30 5) (if D 30 5 = 4 then v else D 30 3) v) (addDeed D (D 30 6) (D 30 5) (if D 30 5 = 4 then v else D 30 3) v 30 6)
          unfold isL addDeed
          simp (disch := first | assumption | omega) only [up_t, up_n]
          exact ⟨a1, a2⟩
  | 21, ga =>
    rw [stp_21] at h0 ⊢
    by_cases c1 : k = 44
    · rw [if_pos c1]; exact ⟨gq, ga⟩
    · rw [if_neg c1] at h0 ⊢
      by_cases c2 : k = 59
      · rw [if_pos c2]; exact ⟨gq, ga.1⟩
      · rw [if_neg c2] at h0; exact absurd h0 (Nat.succ_ne_zero _)
  | (n + 22), ga => exact absurd ga (fun z => z)
theorem wfp_0 (p : Nat) : WfP 0 (fun _ _ => 0) p := by
  have nl : ∀ (v : Nat) {C : Prop}, v < 0 → C := fun v C h => absurd h (Nat.not_lt_zero v)
  exact ⟨⟨⟨Nat.zero_le 8, Nat.zero_le 24, Nat.zero_le 6⟩, fun v hv => nl v hv, fun v hv => nl v hv, ⟨fun b w hb => nl b hb, fun h => nl 0 h, fun b hb => nl b hb, fun b c hb => nl b hb⟩, fun b hb => nl b hb, ⟨fun k => Nat.zero_le 4, fun k _ => rfl, fun k d hd => nl d hd⟩, Nat.zero_le _, fun i hi => nl i hi, fun i j _ hj => nl j hj⟩, trivial⟩
theorem sumN_lt {f : Nat → Nat} {i : Nat} (h4 : ∀ k, f k ≤ 4) (hi : f i < 4) : ∀ n, sumN f n ≤ 4 * n ∧ (i < n → sumN f n < 4 * n) := by
  intro n
  induction n with
  | zero => exact ⟨Nat.le_refl _, fun z => absurd z (by omega)⟩
  | succ n ih =>
    have e : sumN f (n + 1) = sumN f n + f n := rfl
    have a := h4 n
    rw [e]
    refine ⟨by omega, fun z => ?_⟩
    by_cases c : i = n
    · rw [c] at hi; omega
    · have := ih.2 (by omega); omega
theorem sumN_le4 {f : Nat → Nat} (h4 : ∀ k, f k ≤ 4) : ∀ n, sumN f n ≤ 4 * n := by
  intro n
  induction n with
  | zero => exact Nat.le_refl _
  | succ n ih =>
    have e : sumN f (n + 1) = sumN f n + f n := rfl
    have a := h4 n
    rw [e]
    omega
