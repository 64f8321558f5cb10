/-- cells that no later call reads -/
def SCR (c p : Nat) : Prop := c = 68 ∨ (70 ≤ c ∧ c ≤ 72) ∨ (83 ≤ c ∧ c ≤ 89) ∨ c = 91 ∨ c = 92 ∨ (c = 93 ∧ p ≠ 2) ∨ (95 ≤ c ∧ c ≤ 100) ∨ c = 102 ∨ (c = 103 ∧ (p = 0 ∨ (12 ≤ p ∧ p ≤ 20) ∨ p = 42 ∨ (50 ≤ p ∧ p ≤ 53))) ∨ c = 128 ∨ (130 ≤ c ∧ c ≤ 132) ∨ c = 140 ∨ c = 141 ∨ c = 144 ∨ (146 ≤ c ∧ c ≤ 153) ∨ c = 194 ∨ (c = 67 ∧ p ≠ 3 ∧ p ≠ 4)
/-- where the APPS lie -/
def IA (h : AH) (X Y : Nat → Nat) : Prop := (∀ a, a < 3 → isA (X a) ∧ isB (Y a)) ∧ (∀ a b, a < 3 → b < 3 → X a = X b → a = b) ∧ (∀ a b, a < 3 → b < 3 → Y a = Y b → a = b) ∧ h.2.2 3 0 = X 0 ∧ h.2.2 3 1 = X 1 ∧ h.2.2 1 3 = X 2 ∧ h.2.2 104 0 = Y 0 ∧ h.2.2 104 1 = Y 1 ∧ h.2.2 103 5 = Y 2
/-- APP a, told (t) or not -/
def IT (h : AH) (x y a : Nat) (D : AD) (S : AS) (t : Prop) : Prop := (t → h.1 125 a = 1 ∧ WfD D ∧ RepA h x D ∧ RepB h y D ∧ WS (D 0 0) S ∧ h.2.1 73 a = Int64.ofNat (en S) ∧ h.2.1 126 a = Int64.ofNat (ea S 5) ∧ h.2.1 127 a = Int64.ofNat (eb S.2.2.2.2 6)) ∧ (¬ t → h.1 125 a = 0 ∧ h.1 x 0 = 0)
def ITape (h : AH) : Prop := ∃ (n : Nat) (T : Nat → Nat), n ≤ 800 ∧ h.1 1 1 = Int32.ofNat n ∧ h.1 103 11 = Int32.ofNat n ∧ ∀ k, k < n → T k < 256 ∧ h.1 2 k = Int32.ofNat (T k) ∧ h.1 129 k &&& 255 = Int32.ofNat (T k)
def IMsg (h : AH) : Prop := h.1 67 3 = h.1 103 3 ∧ h.1 1 12 = h.1 103 1 ∧ h.1 103 2 = (if h.1 1 12 = 3 then h.1 67 4 else -1) ∧ h.1 1 11 = h.1 103 41
def IRow (h : AH) : Prop := ∃ (r : Nat) (A : Nat → Nat), r ≤ 400 ∧ h.1 1 9 = Int32.ofNat r ∧ h.1 103 40 = Int32.ofNat r ∧ ∀ k, k < r → A k < 1000 ∧ h.1 101 k = Int32.ofNat (A k) ∧ h.1 145 k = Int32.ofNat (A k)
def IPair (h : AH) : Prop := h.1 94 0 = h.1 103 43
/-- the model's VIEW in one long -/
def shD (D : AD) (S : AS) (w : Nat) : Nat → Nat
  | 0 => w
  | k + 1 => shD D S w k * 16 + (if k < D 6 w then S.2.2.2.2 (D 7 (6 * w + k)) else 0)
noncomputable def viewM (D : AD) (S : AS) : Int64 := if S.2.1 = 0 then -(Int64.ofNat S.1) else Int64.ofNat (shD D S (S.2.2.1 (S.2.1 - 1)) 6 * 16777216 + bsum (pressD D S) 24)
/-- alike for good -/
def Bis (D : AD) (ST : Nat → AS) (LD : Nat → Nat) (B : Nat → Nat → Prop) : Prop := ∀ s t, B s t → viewM D (ST s) = viewM D (ST t) ∧ (∀ a, a < 27 → (possD D (ST s) a ↔ possD D (ST t) a)) ∧ ∀ a, a < 27 → possD D (ST s) a → B (LD (27 * s + a)) (LD (27 * t + a))
def Like (D : AD) (n : Nat) (ST : Nat → AS) (LD : Nat → Nat) (s t : Nat) : Prop := ∃ B, Bis D ST LD B ∧ (∀ s t, B s t → s < n ∧ t < n) ∧ B s t
/-- THE MAP without its kinds, the class's part -/
def MapC (h : AH) (D : AD) (n : Nat) (ST : Nat → AS) (FR BY DP LD : Nat → Nat) : Prop := MT h 75 n (fun i => Int64.ofNat (en (ST i))) (fun _ => 0) ∧ (∀ i, i < n → h.1 78 i = (if i = 0 then -1 else Int32.ofNat (FR i)) ∧ h.1 79 i = (if i = 0 then -1 else Int32.ofNat (BY i)) ∧ h.1 80 i = Int32.ofNat (DP i))
def LdC (h : AH) (c : Nat) (D : AD) (ST : Nat → AS) (LD : Nat → Nat) (j : Nat) : Prop := ∀ i, i < j → (possD D (ST (i / 27)) (i % 27) → h.1 c i = Int32.ofNat (LD i)) ∧ (¬ possD D (ST (i / 27)) (i % 27) → h.1 c i = -2)
def MapM (h : AH) (D : AD) (n : Nat) (ST : Nat → AS) (FR BY DP : Nat → Nat) : Prop := h.1 103 25 = Int32.ofNat n ∧ ∀ i, i < n → h.2.1 133 i = Int64.ofNat (ea (ST i) 5) ∧ h.2.1 134 i = Int64.ofNat (eb (ST i).2.2.2.2 6) ∧ h.1 135 i = (if i = 0 then -1 else Int32.ofNat (FR i)) ∧ h.1 136 i = (if i = 0 then -1 else Int32.ofNat (BY i)) ∧ h.1 137 i = Int32.ofNat (DP i)
/-- what is met: no STATE twice, each but the first from one before it -/
def MapW (D : AD) (n : Nat) (ST : Nat → AS) (FR BY DP : Nat → Nat) : Prop := 0 < n ∧ n ≤ 400 ∧ (∀ i, i < n → WS (D 0 0) (ST i)) ∧ (∀ i j, i < n → j < n → en (ST i) = en (ST j) → i = j) ∧ DP 0 = 0 ∧ ∀ i, i < n → 0 < i → FR i < i ∧ BY i < 27 ∧ DP i = DP (FR i) + 1
def LdW (D : AD) (n : Nat) (ST : Nat → AS) (LD : Nat → Nat) (j : Nat) : Prop := ∀ i, i < j → possD D (ST (i / 27)) (i % 27) → LD i < n ∧ en (ST (LD i)) = en (stepD D (ST (i / 27)) (i % 27))
/-- the whole of THE MAP of the APP D -/
def MapI (h : AH) (D : AD) (n : Nat) (ST : Nat → AS) (FR BY DP LD : Nat → Nat) (K : Nat) (KD : Nat → Nat) : Prop := MapW D n ST FR BY DP ∧ LdW D n ST LD (27 * n) ∧ MapC h D n ST FR BY DP LD ∧ LdC h 82 D ST LD (27 * n) ∧ MapM h D n ST FR BY DP ∧ LdC h 142 D ST LD (27 * n) ∧ (∀ i, i < n → h.1 138 i = Int32.ofNat (bsum (possD D (ST i)) 27) ∧ h.2.1 143 i = viewM D (ST i) ∧ h.1 139 i = Int32.ofNat (KD i)) ∧ h.1 103 36 = Int32.ofNat K ∧ Canon n K KD (Like D n ST LD) ∧ (h.1 74 5 = 0 ∨ (h.1 74 5 = Int32.ofNat K ∧ ∀ i, i < n → h.1 90 i = Int32.ofNat (KD i)))
def IMap (h : AH) (X : Nat → Nat) (D : Nat → AD) (t : Nat → Prop) : Prop := (h.1 74 0 = -1 ∧ h.1 103 24 = -1 ∧ h.1 103 25 = 0) ∨ ∃ a, a < 2 ∧ t a ∧ h.1 74 0 = Int32.ofNat a ∧ h.1 103 24 = Int32.ofNat a ∧ h.2.2 74 1 = X a ∧ ∃ n ST FR BY DP LD K KD, MapI h (D a) n ST FR BY DP LD K KD
def InvD (h : AH) (X Y : Nat → Nat) (D : Nat → AD) (S : Nat → AS) (t : Nat → Prop) : Prop := Refs h ∧ IA h X Y ∧ (∀ a, a < 2 → IT h (X a) (Y a) a (D a) (S a) (t a)) ∧ ITape h ∧ IMsg h ∧ IRow h ∧ IMap h X D t ∧ IPair h
/-- THE INVARIANT -/
def Inv (h : AH) : Prop := ∃ X Y D S t, InvD h X Y D S t
theorem IA.fr {P : Nat → Nat → Prop} {h h1 : AH} {X Y : Nat → Nat} (a : IA h X Y) (f : Fr P h h1) (e : ∀ c p, P c p → c ≠ 3 ∧ c ≠ 104 ∧ ¬ (c = 1 ∧ p = 3) ∧ ¬ (c = 103 ∧ p = 5)) : IA h1 X Y := by
  obtain ⟨a1, a2, a3, a4, a5, a6, a7, a8, a9⟩ := a
  refine ⟨a1, a2, a3, ?_, ?_, ?_, ?_, ?_, ?_⟩
  · rw [(f 3 0 (fun q => (e _ _ q).1 rfl)).2.2]; exact a4
  · rw [(f 3 1 (fun q => (e _ _ q).1 rfl)).2.2]; exact a5
  · rw [(f 1 3 (fun q => (e _ _ q).2.2.1 ⟨rfl, rfl⟩)).2.2]; exact a6
  · rw [(f 104 0 (fun q => (e _ _ q).2.1 rfl)).2.2]; exact a7
  · rw [(f 104 1 (fun q => (e _ _ q).2.1 rfl)).2.2]; exact a8
  · rw [(f 103 5 (fun q => (e _ _ q).2.2.2 ⟨rfl, rfl⟩)).2.2]; exact a9
theorem RepA.fr {P : Nat → Nat → Prop} {h h1 : AH} {x : Nat} {D : AD} (hA : RepA h x D) (f : Fr P h h1) (e : ∀ c p, x ≤ c → c ≤ x + 20 → ¬ P c p) : RepA h1 x D := by
  have fi : ∀ j p, j ≤ 20 → h1.1 (x + j) p = h.1 (x + j) p := fun j p hj => (f _ p (e _ p (by omega) (by omega))).1
  have fl : ∀ j p, j ≤ 20 → h1.2.1 (x + j) p = h.2.1 (x + j) p := fun j p hj => (f _ p (e _ p (by omega) (by omega))).2.1
  obtain ⟨b1, b2, b3, b4, b5, b6⟩ := hA
  refine ⟨⟨(fi 0 0 (by omega)).trans b1.1, (fi 0 1 (by omega)).trans b1.2.1, (fi 0 2 (by omega)).trans b1.2.2.1, (fi 0 3 (by omega)).trans b1.2.2.2.1, (fi 0 4 (by omega)).trans b1.2.2.2.2.1, (fi 0 5 (by omega)).trans b1.2.2.2.2.2.1, (fl 0 6 (by omega)).trans b1.2.2.2.2.2.2⟩, ?_, ?_, ?_, ?_, ?_⟩
  · intro w hw
    rw [fl 2 w (by omega), fi 5 w (by omega), fi 7 w (by omega), fi 8 w (by omega), fi 9 w (by omega)]
    refine ⟨(b2 w hw).1, (b2 w hw).2.1, ?_, (b2 w hw).2.2.2⟩
    intro k hk
    rw [fi 6 _ (by omega)]
    exact (b2 w hw).2.2.1 k hk
  · intro v hv
    rw [fl 1 v (by omega), fi 4 v (by omega)]
    exact b3 v hv
  · intro b hb
    rw [fl 3 b (by omega), fi 10 b (by omega)]
    exact b4 b hb
  · intro b hb
    rw [fi 12 b (by omega)]
    refine ⟨(b5 b hb).1, (b5 b hb).2.1, ?_⟩
    intro k hk
    rw [fi 13 _ (by omega), fi 14 _ (by omega), fi 15 _ (by omega)]
    exact (b5 b hb).2.2 k hk
  · intro k hk
    rw [fi 17 k (by omega)]
    refine ⟨(b6 k hk).1, ?_⟩
    intro d hd
    rw [fi 18 _ (by omega), fi 19 _ (by omega), fi 20 _ (by omega)]
    exact (b6 k hk).2 d hd
theorem IT.fr {P : Nat → Nat → Prop} {h h1 : AH} {x y a : Nat} {D : AD} {S : AS} {t : Prop} (hT : IT h x y a D S t) (f : Fr P h h1) (e : ∀ c p, P c p → ¬ (x ≤ c ∧ c ≤ x + 20) ∧ ¬ (y ≤ c ∧ c ≤ y + 19) ∧ ¬ (p = a ∧ (c = 73 ∨ c = 125 ∨ c = 126 ∨ c = 127))) : IT h1 x y a D S t := by
  have n1 : ∀ c p, x ≤ c → c ≤ x + 20 → ¬ P c p := fun c p h1 h2 q => (e c p q).1 ⟨h1, h2⟩
  have n2 : ∀ c p, y ≤ c → c ≤ y + 19 → ¬ P c p := fun c p h1 h2 q => (e c p q).2.1 ⟨h1, h2⟩
  have n3 : ∀ c, (c = 73 ∨ c = 125 ∨ c = 126 ∨ c = 127) → ¬ P c a := fun c h1 q => (e c a q).2.2 ⟨rfl, h1⟩
  refine ⟨fun ht => ?_, fun ht => ?_⟩
  · obtain ⟨b1, b2, b3, b4, b5, b6, b7, b8⟩ := hT.1 ht
    rw [(f 125 a (n3 125 (by omega))).1, (f 73 a (n3 73 (by omega))).2.1, (f 126 a (n3 126 (by omega))).2.1, (f 127 a (n3 127 (by omega))).2.1]
    exact ⟨b1, b2, b3.fr f n1, b4.fr f n2, b5, b6, b7, b8⟩
  · obtain ⟨b1, b2⟩ := hT.2 ht
    rw [(f 125 a (n3 125 (by omega))).1, (f x 0 (n1 x 0 (by omega) (by omega))).1]
    exact ⟨b1, b2⟩
theorem ITape.fr {P : Nat → Nat → Prop} {h h1 : AH} (hT : ITape h) (f : Fr P h h1) (e : ∀ c p, P c p → c ≠ 2 ∧ c ≠ 129 ∧ ¬ (c = 1 ∧ p = 1) ∧ ¬ (c = 103 ∧ p = 11)) : ITape h1 := by
  obtain ⟨n, T, b1, b2, b3, b4⟩ := hT
  refine ⟨n, T, b1, ?_, ?_, fun k hk => ?_⟩
  · rw [(f 1 1 (fun q => (e _ _ q).2.2.1 ⟨rfl, rfl⟩)).1]; exact b2
  · rw [(f 103 11 (fun q => (e _ _ q).2.2.2 ⟨rfl, rfl⟩)).1]; exact b3
  · rw [(f 2 k (fun q => (e _ _ q).1 rfl)).1, (f 129 k (fun q => (e _ _ q).2.1 rfl)).1]
    exact b4 k hk
theorem IRow.fr {P : Nat → Nat → Prop} {h h1 : AH} (hT : IRow h) (f : Fr P h h1) (e : ∀ c p, P c p → c ≠ 101 ∧ c ≠ 145 ∧ ¬ (c = 1 ∧ p = 9) ∧ ¬ (c = 103 ∧ p = 40)) : IRow h1 := by
  obtain ⟨n, T, b1, b2, b3, b4⟩ := hT
  refine ⟨n, T, b1, ?_, ?_, fun k hk => ?_⟩
  · rw [(f 1 9 (fun q => (e _ _ q).2.2.1 ⟨rfl, rfl⟩)).1]; exact b2
  · rw [(f 103 40 (fun q => (e _ _ q).2.2.2 ⟨rfl, rfl⟩)).1]; exact b3
  · rw [(f 101 k (fun q => (e _ _ q).1 rfl)).1, (f 145 k (fun q => (e _ _ q).2.1 rfl)).1]
    exact b4 k hk
theorem IMsg.fr {P : Nat → Nat → Prop} {h h1 : AH} (hT : IMsg h) (f : Fr P h h1) (e : ∀ c p, P c p → ¬ (c = 67 ∧ (p = 3 ∨ p = 4)) ∧ ¬ (c = 1 ∧ (p = 11 ∨ p = 12)) ∧ ¬ (c = 103 ∧ (p = 1 ∨ p = 2 ∨ p = 3 ∨ p = 41))) : IMsg h1 := by
  unfold IMsg
  rw [(f 67 3 (fun q => (e _ _ q).1 ⟨rfl, by omega⟩)).1, (f 67 4 (fun q => (e _ _ q).1 ⟨rfl, by omega⟩)).1, (f 1 11 (fun q => (e _ _ q).2.1 ⟨rfl, by omega⟩)).1, (f 1 12 (fun q => (e _ _ q).2.1 ⟨rfl, by omega⟩)).1, (f 103 1 (fun q => (e _ _ q).2.2 ⟨rfl, by omega⟩)).1, (f 103 2 (fun q => (e _ _ q).2.2 ⟨rfl, by omega⟩)).1, (f 103 3 (fun q => (e _ _ q).2.2 ⟨rfl, by omega⟩)).1, (f 103 41 (fun q => (e _ _ q).2.2 ⟨rfl, by omega⟩)).1]
  exact hT
theorem IPair.fr {P : Nat → Nat → Prop} {h h1 : AH} (hT : IPair h) (f : Fr P h h1) (e : ∀ c p, P c p → ¬ (c = 94 ∧ p = 0) ∧ ¬ (c = 103 ∧ p = 43)) : IPair h1 := by
  unfold IPair
  rw [(f 94 0 (fun q => (e _ _ q).1 ⟨rfl, rfl⟩)).1, (f 103 43 (fun q => (e _ _ q).2 ⟨rfl, rfl⟩)).1]
  exact hT
theorem MT.fr {P : Nat → Nat → Prop} {h h1 : AH} {x n : Nat} {L R : Nat → Int64} (hT : MT h x n L R) (f : Fr P h h1) (e : ∀ c p, P c p → ¬ (c = x ∧ p = 0) ∧ c ≠ x + 1 ∧ c ≠ x + 2 ∧ c ≠ x + 6) : MT h1 x n L R := by
  obtain ⟨b1, b2, b3, b4, sl, b5, b6⟩ := hT
  refine ⟨?_, b2, fun i hi => ?_, b4, sl, fun q hq => ?_, b6⟩
  · rw [(f x 0 (fun q => (e _ _ q).1 ⟨rfl, rfl⟩)).1]; exact b1
  · rw [(f (x + 1) i (fun q => (e _ _ q).2.1 rfl)).2.1, (f (x + 2) i (fun q => (e _ _ q).2.2.1 rfl)).2.1]
    exact b3 i hi
  · rw [(f (x + 6) q (fun q => (e _ _ q).2.2.2 rfl)).1]
    exact b5 q hq
/-- the cells of THE MAP -/
def PMAP (c p : Nat) : Prop := (75 ≤ c ∧ c ≤ 82) ∨ c = 90 ∨ (c = 74 ∧ (p = 0 ∨ p = 1 ∨ p = 5)) ∨ (133 ≤ c ∧ c ≤ 139) ∨ c = 142 ∨ c = 143 ∨ (c = 103 ∧ (p = 24 ∨ p = 25 ∨ p = 36))
theorem MapC.fr {P : Nat → Nat → Prop} {h h1 : AH} {D : AD} {n : Nat} {ST : Nat → AS} {FR BY DP LD : Nat → Nat} (hT : MapC h D n ST FR BY DP LD) (f : Fr P h h1) (e : ∀ c p, P c p → ¬ (75 ≤ c ∧ c ≤ 81)) : MapC h1 D n ST FR BY DP LD := by
  obtain ⟨b1, b2⟩ := hT
  refine ⟨b1.fr f (fun c p q => by have := e c p q; omega), fun i hi => ?_⟩
  rw [(f 78 i (fun q => e _ _ q ⟨by omega, by omega⟩)).1, (f 79 i (fun q => e _ _ q ⟨by omega, by omega⟩)).1, (f 80 i (fun q => e _ _ q ⟨by omega, by omega⟩)).1]
  exact b2 i hi
theorem LdC.fr {P : Nat → Nat → Prop} {h h1 : AH} {k : Nat} {D : AD} {ST : Nat → AS} {LD : Nat → Nat} {j : Nat} (hT : LdC h k D ST LD j) (f : Fr P h h1) (e : ∀ c p, P c p → c ≠ k) : LdC h1 k D ST LD j := by
  intro i hi
  rw [(f k i (fun q => e _ _ q rfl)).1]
  exact hT i hi
theorem MapM.fr {P : Nat → Nat → Prop} {h h1 : AH} {D : AD} {n : Nat} {ST : Nat → AS} {FR BY DP : Nat → Nat} (hT : MapM h D n ST FR BY DP) (f : Fr P h h1) (e : ∀ c p, P c p → ¬ (133 ≤ c ∧ c ≤ 137) ∧ ¬ (c = 103 ∧ p = 25)) : MapM h1 D n ST FR BY DP := by
  obtain ⟨b1, b2⟩ := hT
  refine ⟨?_, fun i hi => ?_⟩
  · rw [(f 103 25 (fun q => (e _ _ q).2 ⟨rfl, rfl⟩)).1]; exact b1
  · rw [(f 133 i (fun q => (e _ _ q).1 ⟨by omega, by omega⟩)).2.1, (f 134 i (fun q => (e _ _ q).1 ⟨by omega, by omega⟩)).2.1, (f 135 i (fun q => (e _ _ q).1 ⟨by omega, by omega⟩)).1, (f 136 i (fun q => (e _ _ q).1 ⟨by omega, by omega⟩)).1, (f 137 i (fun q => (e _ _ q).1 ⟨by omega, by omega⟩)).1]
    exact b2 i hi
theorem MapI.fr {P : Nat → Nat → Prop} {h h1 : AH} {D : AD} {n : Nat} {ST : Nat → AS} {FR BY DP LD : Nat → Nat} {K : Nat} {KD : Nat → Nat} (hT : MapI h D n ST FR BY DP LD K KD) (f : Fr P h h1) (e : ∀ c p, P c p → ¬ PMAP c p) : MapI h1 D n ST FR BY DP LD K KD := by
  obtain ⟨b1, b2, b3, b4, b5, b6, b7, b8, b9, b10⟩ := hT
  have e1 : ∀ c p, P c p → ¬ ((75 ≤ c ∧ c ≤ 82) ∨ c = 90 ∨ (c = 74 ∧ (p = 0 ∨ p = 1 ∨ p = 5)) ∨ (133 ≤ c ∧ c ≤ 139) ∨ c = 142 ∨ c = 143 ∨ (c = 103 ∧ (p = 24 ∨ p = 25 ∨ p = 36))) := e
  refine ⟨b1, b2, b3.fr f (fun c p q => by have := e1 c p q; omega), b4.fr f (fun c p q => by have := e1 c p q; omega), b5.fr f (fun c p q => by have := e1 c p q; omega), b6.fr f (fun c p q => by have := e1 c p q; omega), fun i hi => ?_, ?_, b9, ?_⟩
  · rw [(f 138 i (fun q => by have := e1 _ _ q; omega)).1, (f 143 i (fun q => by have := e1 _ _ q; omega)).2.1, (f 139 i (fun q => by have := e1 _ _ q; omega)).1]
    exact b7 i hi
  · rw [(f 103 36 (fun q => by have := e1 _ _ q; omega)).1]; exact b8
  · rw [(f 74 5 (fun q => by have := e1 _ _ q; omega)).1]
    rcases b10 with z | ⟨z1, z2⟩
    · exact Or.inl z
    · refine Or.inr ⟨z1, fun i hi => ?_⟩
      rw [(f 90 i (fun q => by have := e1 _ _ q; omega)).1]
      exact z2 i hi
theorem IMap.fr {P : Nat → Nat → Prop} {h h1 : AH} {X : Nat → Nat} {D : Nat → AD} {t : Nat → Prop} (hT : IMap h X D t) (f : Fr P h h1) (e : ∀ c p, P c p → ¬ PMAP c p) : IMap h1 X D t := by
  have e1 : ∀ c p, P c p → ¬ ((75 ≤ c ∧ c ≤ 82) ∨ c = 90 ∨ (c = 74 ∧ (p = 0 ∨ p = 1 ∨ p = 5)) ∨ (133 ≤ c ∧ c ≤ 139) ∨ c = 142 ∨ c = 143 ∨ (c = 103 ∧ (p = 24 ∨ p = 25 ∨ p = 36))) := e
  unfold IMap
  rw [(f 74 0 (fun q => by have := e1 _ _ q; omega)).1, (f 103 24 (fun q => by have := e1 _ _ q; omega)).1, (f 103 25 (fun q => by have := e1 _ _ q; omega)).1, (f 74 1 (fun q => by have := e1 _ _ q; omega)).2.2]
  rcases hT with z | ⟨a, z1, z2, z3, z4, z5, n, ST, FR, BY, DP, LD, K, KD, z6⟩
  · exact Or.inl z
  · exact Or.inr ⟨a, z1, z2, z3, z4, z5, n, ST, FR, BY, DP, LD, K, KD, z6.fr f e⟩
/-- scratch, and what a call says of itself -/
def PQ (c p : Nat) : Prop := SCR c p ∨ (c = 1 ∧ p = 12) ∨ (c = 103 ∧ (p = 1 ∨ p = 2))
theorem inv_fr {h h1 : AH} {X Y : Nat → Nat} {D : Nat → AD} {S : Nat → AS} {t : Nat → Prop} (hI : InvD h X Y D S t) (f : Fr SCR h h1) (hr : Refs h1) : InvD h1 X Y D S t := by
  obtain ⟨b1, b2, b3, b4, b5, b6, b7, b8⟩ := hI
  have e1 : ∀ c p, SCR c p → (c = 68 ∨ (70 ≤ c ∧ c ≤ 72) ∨ (83 ≤ c ∧ c ≤ 89) ∨ c = 91 ∨ c = 92 ∨ (c = 93 ∧ p ≠ 2) ∨ (95 ≤ c ∧ c ≤ 100) ∨ c = 102 ∨ (c = 103 ∧ (p = 0 ∨ (12 ≤ p ∧ p ≤ 20) ∨ p = 42 ∨ (50 ≤ p ∧ p ≤ 53))) ∨ c = 128 ∨ (130 ≤ c ∧ c ≤ 132) ∨ c = 140 ∨ c = 141 ∨ c = 144 ∨ (146 ≤ c ∧ c ≤ 153) ∨ c = 194 ∨ (c = 67 ∧ p ≠ 3 ∧ p ≠ 4)) := fun c p q => q
  refine ⟨hr, b2.fr f (fun c p q => by have := e1 c p q; omega), fun a ha => (b3 a ha).fr f (fun c p q => ?_), b4.fr f (fun c p q => by have := e1 c p q; omega), b5.fr f (fun c p q => by have := e1 c p q; omega), b6.fr f (fun c p q => by have := e1 c p q; omega), b7.fr f (fun c p q => ?_), b8.fr f (fun c p q => by have := e1 c p q; omega)⟩
  · have z := e1 c p q
    have zx := (b2.1 a (by omega)).1
    have zy := (b2.1 a (by omega)).2
    unfold isA at zx
    unfold isB at zy
    omega
  · have z := e1 c p q
    unfold PMAP
    omega
theorem inv_msg {h h1 : AH} {X Y : Nat → Nat} {D : Nat → AD} {S : Nat → AS} {t : Nat → Prop} (hI : InvD h X Y D S t) (f : Fr PQ h h1) (hr : Refs h1) (k : Int32) (k3 : k ≠ 3) (m1 : h1.1 1 12 = k) (m2 : h1.1 103 1 = k) (m3 : h1.1 103 2 = -1) : InvD h1 X Y D S t := by
  obtain ⟨b1, b2, b3, b4, b5, b6, b7, b8⟩ := hI
  have e1 : ∀ c p, PQ c p → (c = 68 ∨ (70 ≤ c ∧ c ≤ 72) ∨ (83 ≤ c ∧ c ≤ 89) ∨ c = 91 ∨ c = 92 ∨ (c = 93 ∧ p ≠ 2) ∨ (95 ≤ c ∧ c ≤ 100) ∨ c = 102 ∨ (c = 103 ∧ (p = 0 ∨ (12 ≤ p ∧ p ≤ 20) ∨ p = 42 ∨ (50 ≤ p ∧ p ≤ 53))) ∨ c = 128 ∨ (130 ≤ c ∧ c ≤ 132) ∨ c = 140 ∨ c = 141 ∨ c = 144 ∨ (146 ≤ c ∧ c ≤ 153) ∨ c = 194 ∨ (c = 67 ∧ p ≠ 3 ∧ p ≠ 4)) ∨ (c = 1 ∧ p = 12) ∨ (c = 103 ∧ (p = 1 ∨ p = 2)) := fun c p q => q
  refine ⟨hr, b2.fr f (fun c p q => by have := e1 c p q; omega), fun a ha => (b3 a ha).fr f (fun c p q => ?_), b4.fr f (fun c p q => by have := e1 c p q; omega), ?_, b6.fr f (fun c p q => by have := e1 c p q; omega), b7.fr f (fun c p q => ?_), b8.fr f (fun c p q => by have := e1 c p q; omega)⟩
  · have z := e1 c p q
    have zx := (b2.1 a (by omega)).1
    have zy := (b2.1 a (by omega)).2
    unfold isA at zx
    unfold isB at zy
    omega
  · obtain ⟨c1, c2, c3, c4⟩ := b5
    refine ⟨?_, by rw [m1, m2], by rw [m3, m1, if_neg k3], ?_⟩
    · rw [(f 67 3 (fun q => by have := e1 _ _ q; omega)).1, (f 103 3 (fun q => by have := e1 _ _ q; omega)).1]; exact c1
    · rw [(f 1 11 (fun q => by have := e1 _ _ q; omega)).1, (f 103 41 (fun q => by have := e1 _ _ q; omega)).1]; exact c4
  · have z := e1 c p q
    unfold PMAP
    omega
