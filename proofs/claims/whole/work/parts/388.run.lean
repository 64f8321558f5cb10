theorem SE.rf (S : AS) : SE S S := ⟨rfl, rfl, fun _ _ => ⟨rfl, rfl⟩, fun _ _ => rfl⟩
theorem SE.sy {S U : AS} (e : SE S U) : SE U S := ⟨e.1.symm, e.2.1.symm, fun k hk => ⟨(e.2.2.1 k (by rw [e.2.1]; exact hk)).1.symm, (e.2.2.1 k (by rw [e.2.1]; exact hk)).2.symm⟩, fun v hv => (e.2.2.2 v hv).symm⟩
theorem holds_SE {D : AD} {V U : Nat → Nat} {b : Nat} (hD : WfD D) (hb : b < D 0 1) (e : ∀ v, v < 6 → V v = U v) (h : holdsD D V b) : holdsD D U b := by
  have h6 := hD.1.2.2.2
  intro k hk
  have q := (hD.2.2.2.1 b hb).2.2 k hk
  have z := h k hk
  unfold condOk at z ⊢
  rw [← e _ (by omega)]
  exact z
theorem poss_SE {D : AD} {S U : AS} {a : Nat} (hD : WfD D) (e : SE S U) (h : possD D S a) : possD D U a := by
  obtain ⟨e1, e2, e3, e4⟩ := e
  rcases h with z | ⟨z0, z | z | z⟩
  · exact Or.inl z
  · exact Or.inr ⟨by omega, Or.inl z⟩
  · exact Or.inr ⟨by omega, Or.inr (Or.inl ⟨z.1, by omega⟩)⟩
  · refine Or.inr ⟨by omega, Or.inr (Or.inr ⟨z.1, ?_, holds_SE hD z.1 e4 z.2.2⟩)⟩
    rw [z.2.1, ← e2]
    exact (e3 _ (by omega)).1
theorem deed_SE {D : AD} {S U : AS} {i : Nat} (e : SE S U) (h0 : 0 < S.2.1) (h3 : D 15 i = 3 → D 16 i < 6) : SE (deed1 D S i) (deed1 D U i) := by
  obtain ⟨e1, e2, e3, e4⟩ := e
  have set : ∀ v x, SE (stSet S v x) (stSet U v x) := fun v x => ⟨e1, e2, e3, fun w hw => by
    show nup S.2.2.2.2 v x w = nup U.2.2.2.2 v x w
    unfold nup
    split
    · rfl
    · exact e4 w hw⟩
  unfold deed1
  by_cases c0 : D 15 i = 0
  · rw [if_pos c0, if_pos c0]
    unfold stOpen
    by_cases c : S.2.1 < 5
    · rw [if_pos c, if_pos (by omega)]
      refine ⟨e1, by show S.2.1 + 1 = U.2.1 + 1; omega, fun k hk => ?_, e4⟩
      have hk2 : k < S.2.1 + 1 := hk
      show nup S.2.2.1 S.2.1 (D 16 i) k = nup U.2.2.1 U.2.1 (D 16 i) k ∧ nup S.2.2.2.1 S.2.1 0 k = nup U.2.2.2.1 U.2.1 0 k
      rw [← e2]
      by_cases z : k = S.2.1
      · rw [z, nup_s, nup_s, nup_s, nup_s]; exact ⟨rfl, rfl⟩
      · rw [nup_n z, nup_n z, nup_n z, nup_n z]; exact e3 k (by omega)
    · rw [if_neg c, if_neg (by omega)]
      exact ⟨e1, e2, e3, e4⟩
  rw [if_neg c0, if_neg c0]
  by_cases c1 : D 15 i = 1
  · rw [if_pos c1, if_pos c1]
    unfold stClose
    by_cases c : 2 ≤ S.2.1
    · rw [if_pos c, if_pos (by omega)]
      exact ⟨e1, by show S.2.1 - 1 = U.2.1 - 1; omega, fun k hk => e3 k (by have : k < S.2.1 - 1 := hk; omega), e4⟩
    · rw [if_neg c, if_neg (by omega)]
      exact ⟨e1, e2, e3, e4⟩
  rw [if_neg c1, if_neg c1]
  by_cases c2 : D 15 i = 2
  · rw [if_pos c2, if_pos c2]; exact set _ _
  rw [if_neg c2, if_neg c2]
  by_cases c3 : D 15 i = 3
  · rw [if_pos c3, if_pos c3, e4 _ (h3 c3)]; exact set _ _
  rw [if_neg c3, if_neg c3]
  refine ⟨rfl, rfl, fun k hk => absurd hk (Nat.not_lt_zero k), fun v hv => ?_⟩
  show vk (kept D) S.2.2.2.2 v = vk (kept D) U.2.2.2.2 v
  unfold vk
  split
  · exact e4 v hv
  · rfl
theorem doD_SE {D : AD} {k : Nat} (hD : WfD D) (hk : isL D k) : ∀ n d S U, d + n ≤ D 14 k → SE S U → SE (doD D S (4 * k + d) n) (doD D U (4 * k + d) n) := by
  intro n
  induction n with
  | zero => intro d S U _ e; exact e
  | succ n ih =>
    intro d S U hd e
    have h6 := hD.1.2.2.2
    show SE (if S.2.1 = 0 then S else doD D (deed1 D S (4 * k + d)) (4 * k + d + 1) n) (if U.2.1 = 0 then U else doD D (deed1 D U (4 * k + d)) (4 * k + d + 1) n)
    have e2 := e.2.1
    by_cases c : S.2.1 = 0
    · rw [if_pos c, if_pos (by omega)]; exact e
    · rw [if_neg c, if_neg (by omega), Nat.add_assoc]
      refine ih (d + 1) _ _ (by omega) (deed_SE e (by omega) (fun z => ?_))
      have := ((hD.2.2.2.2 k hk).2 d (by omega)).2.2.2.1 z
      omega
theorem step_SE {D : AD} {S U : AS} {a : Nat} (hD : WfD D) (hs : WS (D 0 0) S) (e : SE S U) (h0 : 0 < S.2.1) (hp : possD D S a) : SE (stepD D S a) (stepD D U a) := by
  have hB := hD.1.2.2.1
  have e' := e
  obtain ⟨e1, e2, e3, e4⟩ := e
  have et := e3 (S.2.1 - 1) (by omega)
  have tick : ∀ x, SE (stTick S x) (stTick U x) := fun x => ⟨e1, e2, fun k hk => ⟨(e3 k hk).1, by
    show nup S.2.2.2.1 (S.2.1 - 1) x k = nup U.2.2.2.1 (U.2.1 - 1) x k
    rw [← e2]
    by_cases z : k = S.2.1 - 1
    · rw [z, nup_s, nup_s]
    · rw [nup_n z, nup_n z]; exact (e3 k hk).2⟩, e4⟩
  unfold stepD
  by_cases c0 : a < 24
  · rw [if_pos c0, if_pos c0]
    have : a < D 0 1 := by
      rcases hp with z | ⟨z0, z | z | z⟩
      · omega
      · omega
      · omega
      · exact z.1
    exact doD_SE hD (Or.inl this) _ 0 _ _ (by omega) e'
  rw [if_neg c0, if_neg c0]
  by_cases c1 : a = 24
  · rw [if_pos c1, if_pos c1, ← e2, ← et.1, ← et.2]
    have hw := (hs.2.2.2.2.1 (S.2.1 - 1) (by omega)).1
    by_cases d0 : D 8 (S.2.2.1 (S.2.1 - 1)) = 0
    · rw [if_pos d0, if_pos d0]; exact e'
    rw [if_neg d0, if_neg d0]
    by_cases d1 : S.2.2.2.1 (S.2.1 - 1) + 1 < D 8 (S.2.2.1 (S.2.1 - 1))
    · rw [if_pos d1, if_pos d1]; exact tick _
    rw [if_neg d1, if_neg d1]
    exact doD_SE hD (Or.inr ⟨_, hw, rfl, by omega⟩) _ 0 _ _ (by omega) (tick 0)
  rw [if_neg c1, if_neg c1]
  by_cases c2 : a = 25
  · rw [if_pos c2, if_pos c2]
    unfold stClose
    by_cases c : 2 ≤ S.2.1
    · rw [if_pos c, if_pos (by omega)]
      exact ⟨e1, by show S.2.1 - 1 = U.2.1 - 1; omega, fun k hk => e3 k (by have : k < S.2.1 - 1 := hk; omega), e4⟩
    · rw [if_neg c, if_neg (by omega)]; exact e'
  · rw [if_neg c2, if_neg c2]
    refine ⟨rfl, rfl, fun k hk => ⟨rfl, rfl⟩, fun v hv => ?_⟩
    show vk (kept D) S.2.2.2.2 v = vk (kept D) U.2.2.2.2 v
    unfold vk
    split
    · exact e4 v hv
    · rfl
theorem try_SE {D : AD} {S U : AS} {a : Nat} (hD : WfD D) (hs : WS (D 0 0) S) (e : SE S U) : SE (tryD D S a) (tryD D U a) := by
  by_cases c : 0 < S.2.1 ∧ possD D S a
  · rw [tryD_t c, tryD_t ⟨by have := e.2.1; omega, poss_SE hD e c.2⟩]
    exact step_SE hD hs e c.1 c.2
  · rw [tryD_f c, tryD_f (fun z => c ⟨by have := e.2.1; omega, poss_SE hD e.sy z.2⟩)]
    exact e
/-- THE ROW tried: the STATE behind k ACTS -/
noncomputable def trD (D : AD) (A : Nat → Nat) : Nat → AS
  | 0 => st0
  | k + 1 => tryD D (trD D A k) (A k)
/-- the same without ACT w -/
noncomputable def trS (D : AD) (A : Nat → Nat) (w : Nat) : Nat → AS
  | 0 => st0
  | k + 1 => if k = w then trS D A w k else tryD D (trS D A w k) (A k)
def rem (A : Nat → Nat) (w : Nat) : Nat → Nat := fun i => if i < w then A i else A (i + 1)
theorem ws_trD {D : AD} (hD : WfD D) (A : Nat → Nat) : ∀ k, WS (D 0 0) (trD D A k)
  | 0 => WS.zero hD.1.1 hD.1.2.1
  | k + 1 => ws_tryD hD (ws_trD hD A k)
theorem ws_trS {D : AD} (hD : WfD D) (A : Nat → Nat) (w : Nat) : ∀ k, WS (D 0 0) (trS D A w k)
  | 0 => WS.zero hD.1.1 hD.1.2.1
  | k + 1 => by
    show WS (D 0 0) (if k = w then trS D A w k else tryD D (trS D A w k) (A k))
    split
    · exact ws_trS hD A w k
    · exact ws_tryD hD (ws_trS hD A w k)
theorem trS_lt {D : AD} {A : Nat → Nat} {w : Nat} : ∀ k, k ≤ w → trS D A w k = trD D A k
  | 0, _ => rfl
  | k + 1, h => by
    show (if k = w then trS D A w k else tryD D (trS D A w k) (A k)) = tryD D (trD D A k) (A k)
    rw [if_neg (by omega), trS_lt k (by omega)]
theorem trD_congr {D : AD} {A B : Nat → Nat} : ∀ k, (∀ i, i < k → A i = B i) → trD D A k = trD D B k
  | 0, _ => rfl
  | k + 1, h => by
    show tryD D (trD D A k) (A k) = tryD D (trD D B k) (B k)
    rw [trD_congr k (fun i hi => h i (by omega)), h k (by omega)]
theorem trS_congr {D : AD} {A B : Nat → Nat} {w : Nat} : ∀ k, (∀ i, i < k → A i = B i) → trS D A w k = trS D B w k
  | 0, _ => rfl
  | k + 1, h => by
    show (if k = w then trS D A w k else tryD D (trS D A w k) (A k)) = (if k = w then trS D B w k else tryD D (trS D B w k) (B k))
    rw [trS_congr k (fun i hi => h i (by omega)), h k (by omega)]
theorem trD_rem1 {D : AD} {A : Nat → Nat} {w : Nat} (k : Nat) (h : k ≤ w) : trD D (rem A w) k = trD D A k := trD_congr k (fun i hi => by unfold rem; rw [if_pos (by omega)])
theorem trD_rem2 {D : AD} {A : Nat → Nat} {w : Nat} : ∀ k, w ≤ k → trD D (rem A w) k = trS D A w (k + 1) := by
  intro k
  induction k with
  | zero =>
    intro h
    have : w = 0 := by omega
    subst this
    rfl
  | succ k ih =>
    intro h
    by_cases c : w = k + 1
    · rw [trD_rem1 (k + 1) (by omega)]
      show _ = (if k + 1 = w then trS D A w (k + 1) else tryD D (trS D A w (k + 1)) (A (k + 1)))
      rw [if_pos c.symm, trS_lt (k + 1) (by omega)]
    · show tryD D (trD D (rem A w) k) (rem A w k) = (if k + 1 = w then trS D A w (k + 1) else tryD D (trS D A w (k + 1)) (A (k + 1)))
      rw [if_neg (by omega), ih (by omega)]
      have : rem A w k = A (k + 1) := by unfold rem; rw [if_neg (by omega)]
      rw [this]
/-- behind a FAULT nothing more -/
theorem try_fault {D : AD} {S : AS} {a : Nat} (h : S.2.1 = 0) : tryD D S a = S := tryD_f (fun z => by omega)
theorem trD_stay {D : AD} {A : Nat → Nat} {k : Nat} (h : (trD D A k).2.1 = 0) : ∀ d, trD D A (k + d) = trD D A k
  | 0 => rfl
  | d + 1 => by
    have ih := trD_stay h d
    show tryD D (trD D A (k + d)) (A (k + d)) = _
    rw [ih, try_fault h]
theorem trS_stay {D : AD} {A : Nat → Nat} {w k : Nat} (h : (trS D A w k).2.1 = 0) : ∀ d, trS D A w (k + d) = trS D A w k
  | 0 => rfl
  | d + 1 => by
    have ih := trS_stay h d
    show (if k + d = w then trS D A w (k + d) else tryD D (trS D A w (k + d)) (A (k + d))) = _
    rw [ih, try_fault h]
    split <;> rfl
/-- back on the trail -/
theorem trS_SE {D : AD} {A : Nat → Nat} {w k : Nat} (hD : WfD D) (hk : w < k) (e : SE (trS D A w k) (trD D A k)) : ∀ d, SE (trS D A w (k + d)) (trD D A (k + d))
  | 0 => e
  | d + 1 => by
    have ih := trS_SE hD hk e d
    show SE (if k + d = w then trS D A w (k + d) else tryD D (trS D A w (k + d)) (A (k + d))) (tryD D (trD D A (k + d)) (A (k + d)))
    rw [if_neg (by omega)]
    exact try_SE hD (ws_trS hD A w _) ih
/-- how many ACTS up to a FAULT, or all -/
noncomputable def cntF (T : Nat → AS) (r : Nat) : Nat := findN (fun k => 0 < (T k).1) r
theorem cntF_le (T : Nat → AS) (r : Nat) : cntF T r ≤ r := findN_le _ r
