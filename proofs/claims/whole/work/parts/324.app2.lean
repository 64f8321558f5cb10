theorem k_X4_hold {l : Launch} {g : AG} {h : AH} {x b nw : Nat} {S : AS} {D : AD} {Q : Int32 → AH → Prop} (hr : Refs h) (hx : isA x) (hs : WS nw S) (hD : RepAc h x D) (hb : b < D 0 1) (hB : D 0 1 ≤ 24) (hy : holdsD D S.2.2.2.2 b → Q 1 h) (hn : ¬ holdsD D S.2.2.2.2 b → Q 0 h) : C_X4_hold l g h (x + 11) (Int32.ofNat b) (Int64.ofNat (en S)) Q := by
  refine c_X4_hold (s_X4_hold_0 ?_)
  intro v1 e1
  rw [show v1 = Int32.ofNat (3 * b) from by rw [e1, show (3 : Int32) = Int32.ofNat 3 from rfl, i_mul, Nat.mul_comm]]
  exact k_X4_hold_loop hr hx hs hD hb hB hy hn (D 10 b) 0 (by omega) (fun j hj => absurd hj (Nat.not_lt_zero j))
def cwf : Nat → Nat → Nat
  | 0, _ => 0
  | k + 1, m => if m = 0 then 0 else cwf k (m / 32) * 256 + (m % 32 + 96)
def kept (D : AD) : Nat → Bool := fun v => decide (v < D 0 2 ∧ D 5 v = 1)
/-- a list of DEEDS that is used -/
def isL (D : AD) (k : Nat) : Prop := k < D 0 1 ∨ ∃ w, w < D 0 0 ∧ k = 24 + w ∧ 0 < D 8 w
def sumN (f : Nat → Nat) : Nat → Nat
  | 0 => 0
  | k + 1 => sumN f k + f k
/-- the DEEDS of the class's APP at x -/
def RepAd (h : AH) (x : Nat) (D : AD) : Prop := ∀ k, isL D k → h.1 (x + 17) k = Int32.ofNat (D 14 k) ∧ ∀ d, d < D 14 k → h.1 (x + 18) (4 * k + d) = Int32.ofNat (D 15 (4 * k + d)) ∧ (D 15 (4 * k + d) ≠ 1 → D 15 (4 * k + d) ≠ 4 → h.1 (x + 19) (4 * k + d) = Int32.ofNat (D 16 (4 * k + d))) ∧ (D 15 (4 * k + d) = 2 ∨ D 15 (4 * k + d) = 3 → h.1 (x + 20) (4 * k + d) = Int32.ofNat (D 17 (4 * k + d))) ∧ (D 15 (4 * k + d) = 4 → h.1 (x + 20) (4 * k + d) = Int32.ofNat (D 16 (4 * k + d)))
def RepAw (h : AH) (x : Nat) (D : AD) : Prop := ∀ w, w < D 0 0 → h.2.1 (x + 2) w = Int64.ofNat (cwf 8 (D 1 w)) ∧ h.1 (x + 5) w = Int32.ofNat (D 6 w) ∧ (∀ k, k < D 6 w → h.1 (x + 6) (6 * w + k) = Int32.ofNat (D 7 (6 * w + k))) ∧ h.1 (x + 7) w = Int32.ofNat (D 8 w) ∧ h.1 (x + 8) w = Int32.ofNat (D 18 w) ∧ h.1 (x + 9) w = Int32.ofNat (D 19 w)
def RepAv (h : AH) (x : Nat) (D : AD) : Prop := ∀ v, v < D 0 2 → h.2.1 (x + 1) v = Int64.ofNat (cwf 8 (D 3 v)) ∧ h.1 (x + 4) v = Int32.ofNat (D 4 v)
def RepAb (h : AH) (x : Nat) (D : AD) : Prop := ∀ b, b < D 0 1 → h.2.1 (x + 3) b = Int64.ofNat (cwf 8 (D 2 b)) ∧ h.1 (x + 10) b = Int32.ofNat (D 9 b)
def RepAn (h : AH) (x : Nat) (D : AD) : Prop := h.1 x 0 = Int32.ofNat (D 0 0) ∧ h.1 x 1 = Int32.ofNat (D 0 1) ∧ h.1 x 2 = Int32.ofNat (D 0 2) ∧ h.1 x 3 = Int32.ofNat (sumN (fun v => D 5 v) (D 0 2)) ∧ h.1 x 4 = Int32.ofNat (sumN (fun w => D 6 w) (D 0 0)) ∧ h.1 x 5 = Int32.ofNat (sumN (fun w => if 0 < D 8 w then 1 else 0) (D 0 0)) ∧ h.2.1 x 6 = Int64.ofNat (vc (km (kept D)))
/-- the class's APP at x is D -/
def RepA (h : AH) (x : Nat) (D : AD) : Prop := RepAn h x D ∧ RepAw h x D ∧ RepAv h x D ∧ RepAb h x D ∧ RepAc h x D ∧ RepAd h x D
