/-- D with v at t, i -/
def up (D : AD) (t i v : Nat) : AD := fun a b => if a = t ∧ b = i then v else D a b
theorem up_t {D : AD} {t i v a : Nat} (h : a ≠ t) : up D t i v a = D a := funext fun b => if_neg (fun q => h q.1)
theorem up_s (D : AD) (t i v : Nat) : up D t i v t i = v := if_pos ⟨rfl, rfl⟩
theorem up_n {D : AD} {t i v b : Nat} (h : b ≠ i) : up D t i v t b = D t b := if_neg (fun q => h q.2)
theorem up_e {D : AD} {t i v b : Nat} (h : b = i) : up D t i v t b = v := if_pos ⟨rfl, h⟩
/-- what the reader adds to an APP; registers: tag 30 (1 name, 2 kept, 3 v, 4 sign, 5 deed, 6 list, 7 opens), 31 the opens' deeds, 21 and 22 their names and places -/
def addVar (D : AD) (nm mx kp : Nat) : AD := up (up (up (up D 3 (D 0 2) nm) 4 (D 0 2) mx) 5 (D 0 2) kp) 0 2 (D 0 2 + 1)
def addWin (D : AD) (nm : Nat) : AD := up (up (up (up (up (up (up D 1 (D 0 0) nm) 6 (D 0 0) 0) 8 (D 0 0) 0) 14 (24 + D 0 0) 0) 18 (D 0 0) (D 0 1)) 19 (D 0 0) (D 0 1)) 0 0 (D 0 0 + 1)
def addShow (D : AD) (v : Nat) : AD := up (up D 7 (6 * (D 0 0 - 1) + D 6 (D 0 0 - 1)) v) 6 (D 0 0 - 1) (D 6 (D 0 0 - 1) + 1)
def addBut (D : AD) (nm : Nat) : AD := up (up (up (up (up (up D 2 (D 0 1) nm) 9 (D 0 1) (D 0 0 - 1)) 10 (D 0 1) 0) 14 (D 0 1) 0) 19 (D 0 0 - 1) (D 0 1 + 1)) 0 1 (D 0 1 + 1)
def addCond (D : AD) (v sg m : Nat) : AD := up (up (up (up D 11 (3 * (D 0 1 - 1) + D 10 (D 0 1 - 1)) v) 12 (3 * (D 0 1 - 1) + D 10 (D 0 1 - 1)) sg) 13 (3 * (D 0 1 - 1) + D 10 (D 0 1 - 1)) m) 10 (D 0 1 - 1) (D 10 (D 0 1 - 1) + 1)
def addTim (D : AD) (m : Nat) : AD := up D 8 (D 0 0 - 1) m
def addDeed (D : AD) (ls kd on num : Nat) : AD := up (up (up (up D 15 (4 * ls + D 14 ls) kd) 16 (4 * ls + D 14 ls) on) 17 (4 * ls + D 14 ls) num) 14 ls (D 14 ls + 1)
def addOpen (D : AD) (ls nm pl : Nat) : AD := up (up (up (up (addDeed D ls 0 0 0) 21 (4 * ls + D 14 ls) nm) 22 (4 * ls + D 14 ls) pl) 31 (D 30 7) (4 * ls + D 14 ls)) 30 7 (D 30 7 + 1)
noncomputable def fV (D : AD) (v : Nat) : Nat := findN (fun i => D 3 i = v) (D 0 2)
noncomputable def fW (D : AD) (v : Nat) : Nat := findN (fun i => D 1 i = v) (D 0 0)
noncomputable def fB (D : AD) (v : Nat) : Nat := findN (fun i => D 18 (D 0 0 - 1) ≤ i ∧ D 2 i = v) (D 19 (D 0 0 - 1))
abbrev isK (j k v : Nat) : Prop := k = 1 ∧ v = kc j
/-- the deed that a WORD says, 5: none -/
def dSaid (k v : Nat) : Nat := if isK 9 k v then 0 else if isK 4 k v then 1 else if isK 10 k v then 2 else if isK 0 k v then 3 else if isK 6 k v then 4 else 5
/-- what is awaited (a) takes a TOKEN (k, v, pl): fault or 0, what is awaited next, the APP so far -/
noncomputable def stp (a : Nat) (D : AD) (k v pl : Nat) : Nat × Nat × AD :=
  match a with
  | 0 => if isK 13 k v then (if D 0 0 < 8 then (0, 4, D) else (5, 0, D)) else if 0 < D 0 0 ∨ ¬ (isK 8 k v ∨ isK 12 k v) then (1, 0, D) else if D 0 2 < 6 then (0, 1, up D 30 2 (if isK 8 k v then 1 else 0)) else (5, 0, D)
  | 1 => if k ≠ 1 then (1, 0, D) else if fV D v < D 0 2 then (3, 0, D) else (0, 2, up D 30 1 v)
  | 2 => if k ≠ 2 then (1, 0, D) else if v < 1 ∨ 9 < v then (4, 0, D) else (0, 3, addVar D (D 30 1) v (D 30 2))
  | 3 => if k = 59 then (0, 0, D) else (1, 0, D)
  | 4 => if k ≠ 1 then (1, 0, D) else if fW D v < D 0 0 then (3, 0, D) else (0, 5, addWin D v)
  | 5 => if k = 123 then (0, 6, D) else (1, 0, D)
  | 6 => if k = 125 then (0, 0, D) else if 0 < D 8 (D 0 0 - 1) then (1, 0, D) else if isK 1 k v then (0, 15, D) else if isK 3 k v then (if D 0 1 < 24 then (0, 9, D) else (5, 0, D)) else if D 18 (D 0 0 - 1) < D 19 (D 0 0 - 1) ∨ ¬ isK 11 k v then (1, 0, D) else if D 6 (D 0 0 - 1) < 6 then (0, 7, D) else (5, 0, D)
  | 7 => if k ≠ 1 then (1, 0, D) else if fV D v < D 0 2 then (0, 8, addShow (up D 30 3 (fV D v)) (fV D v)) else (2, 0, D)
  | 8 => if k = 59 then (0, 6, D) else (1, 0, D)
  | 9 => if k ≠ 1 then (1, 0, D) else if fB D v < D 19 (D 0 0 - 1) then (3, 0, D) else (0, 10, addBut (up D 30 6 (D 0 1)) v)
  | 10 => if isK 7 k v then (0, 11, D) else if isK 5 k v then (0, 17, D) else (1, 0, D)
  | 11 => if k ≠ 1 then (1, 0, D) else if fV D v < D 0 2 then (if D 10 (D 0 1 - 1) < 3 then (0, 12, up D 30 3 (fV D v)) else (5, 0, D)) else (2, 0, D)
  | 12 => if k = 61 ∨ k = 60 ∨ k = 62 then (0, 13, up D 30 4 k) else (1, 0, D)
  | 13 => if k ≠ 2 then (1, 0, D) else if 9 < v then (4, 0, D) else (0, 14, addCond D (D 30 3) (D 30 4) v)
  | 14 => if isK 2 k v then (0, 11, D) else if isK 5 k v then (0, 17, D) else (1, 0, D)
  | 15 => if k ≠ 2 then (1, 0, D) else if v < 1 ∨ 9 < v then (4, 0, D) else (0, 16, addTim (up D 30 6 (24 + (D 0 0 - 1))) v)
  | 16 => if isK 5 k v then (0, 17, D) else (1, 0, D)
  | 17 => if dSaid k v = 5 then (1, 0, D) else if D 14 (D 30 6) < 4 then (if dSaid k v = 0 then (0, 18, up D 30 5 0) else if dSaid k v = 1 then (0, 21, addDeed (up D 30 5 1) (D 30 6) 1 0 0) else if dSaid k v = 4 then (0, 20, up D 30 5 4) else (0, 19, up D 30 5 (dSaid k v))) else (5, 0, D)
  | 18 => if k ≠ 1 then (1, 0, D) else (0, 21, addOpen D (D 30 6) v pl)
  | 19 => if k ≠ 1 then (1, 0, D) else if fV D v < D 0 2 then (0, 20, up D 30 3 (fV D v)) else (2, 0, D)
  | 20 => if k ≠ 2 then (1, 0, D) else if v < (if D 30 5 = 2 then 0 else 1) ∨ (if D 30 5 = 4 then 20 else if D 30 5 = 2 then D 4 (D 30 3) else 9) < v then (4, 0, D) else (0, 21, addDeed D (D 30 6) (D 30 5) (if D 30 5 = 4 then v else D 30 3) v)
  | _ => if k = 44 then (0, 17, D) else if k = 59 then (0, 6, D) else (1, 0, D)
/-- the WINDOWS that are opened, found -/
noncomputable def setOn (D : AD) : AD := fun a b => if a = 16 ∧ D 15 b = 0 then fW D (D 21 b) else D a b
noncomputable def fU (D : AD) : Nat := findN (fun i => fW D (D 21 (D 31 i)) = D 0 0) (D 30 7)
noncomputable def finO (D : AD) : Nat × Nat × AD := if fU D < D 30 7 then (2, D 22 (D 31 (fU D)), D) else (0, 0, setOn D)
/-- the whole text, from byte p on: fault or 0, its place, the APP -/
noncomputable def runP (b : Nat → Nat) : Nat → Nat → AD → Nat → Option (Nat × Nat × AD)
  | 0, _, _, _ => none
  | f + 1, a, D, p => if (tk b p).1 = 0 then (if a = 0 ∧ 0 < D 0 0 then some (finO D) else some (1, (tk b p).2.2.1, D)) else if (stp a D (tk b p).1 (tk b p).2.1 (tk b p).2.2.1).1 = 0 then runP b f (stp a D (tk b p).1 (tk b p).2.1 (tk b p).2.2.1).2.1 (stp a D (tk b p).1 (tk b p).2.1 (tk b p).2.2.1).2.2 (tk b p).2.2.2 else some ((stp a D (tk b p).1 (tk b p).2.1 (tk b p).2.2.1).1, (tk b p).2.2.1, D)
theorem runP_s (b : Nat → Nat) (f a : Nat) (D : AD) (p : Nat) : runP b (f + 1) a D p = if (tk b p).1 = 0 then (if a = 0 ∧ 0 < D 0 0 then some (finO D) else some (1, (tk b p).2.2.1, D)) else if (stp a D (tk b p).1 (tk b p).2.1 (tk b p).2.2.1).1 = 0 then runP b f (stp a D (tk b p).1 (tk b p).2.1 (tk b p).2.2.1).2.1 (stp a D (tk b p).1 (tk b p).2.1 (tk b p).2.2.1).2.2 (tk b p).2.2.2 else some ((stp a D (tk b p).1 (tk b p).2.1 (tk b p).2.2.1).1, (tk b p).2.2.1, D) := rfl
/-- every text comes to an end -/
theorem runP_end {T : Nat → Nat} {n : Nat} (hT : ∀ k, k < n → T k < 256) (hn : n ≤ 800) : ∀ f a D p, p ≤ n → n < p + f → ∃ r, runP (bt T n) f a D p = some r := by
  intro f
  induction f with
  | zero => intro a D p h1 h2; omega
  | succ f ih =>
    intro a D p h1 h2
    have ok := tk_ok hT hn h1
    rw [runP_s]
    by_cases c : (tk (bt T n) p).1 = 0
    · rw [if_pos c]
      by_cases c2 : a = 0 ∧ 0 < D 0 0
      · rw [if_pos c2]; exact ⟨_, rfl⟩
      · rw [if_neg c2]; exact ⟨_, rfl⟩
    · rw [if_neg c]
      by_cases c2 : (stp a D (tk (bt T n) p).1 (tk (bt T n) p).2.1 (tk (bt T n) p).2.2.1).1 = 0
      · rw [if_pos c2]
        have := ok.2.2.2.1
        exact ih _ _ _ ok.2.2.1 (by omega)
      · rw [if_neg c2]; exact ⟨_, rfl⟩
