theorem vc_and {V M : Nat → Nat} (hv : ∀ v, v < 6 → V v < 16) (hm : ∀ v, v < 6 → M v < 16) : vc V &&& vc M = vc (fun v => V v &&& M v) := by
  have f : ∀ U : Nat → Nat, vc U = ((((U 5 * 2 ^ 4 + U 4) * 2 ^ 4 + U 3) * 2 ^ 4 + U 2) * 2 ^ 4 + U 1) * 2 ^ 4 + U 0 := by intro U; unfold vc; omega
  rw [f V, f M, f]
  rw [n_split (hv 0 (by omega)) (hm 0 (by omega)), n_split (hv 1 (by omega)) (hm 1 (by omega)), n_split (hv 2 (by omega)) (hm 2 (by omega)), n_split (hv 3 (by omega)) (hm 3 (by omega)), n_split (hv 4 (by omega)) (hm 4 (by omega))]
def km (K : Nat → Bool) : Nat → Nat := fun v => if K v = true then 15 else 0
theorem km_lt (K : Nat → Bool) (v : Nat) : km K v < 16 := by
  unfold km
  split <;> omega
theorem vc_congr {V U : Nat → Nat} (h : ∀ v, v < 6 → V v = U v) : vc V = vc U := by
  unfold vc
  rw [h 0 (by omega), h 1 (by omega), h 2 (by omega), h 3 (by omega), h 4 (by omega), h 5 (by omega)]
theorem en_kept {nw : Nat} {S : AS} (hs : WS nw S) (K : Nat → Bool) : en S &&& vc (km K) = vc (vk K S.2.2.2.2) := by
  have e : en S = (sk S * 8 + S.2.1) * 2 ^ 24 + vc S.2.2.2.2 := by unfold en; omega
  have e2 : vc (km K) = 0 * 2 ^ 24 + vc (km K) := by omega
  rw [e, e2, n_split (vc_lt hs.2.2.2.2.2) (vc_lt (fun v _ => km_lt K v)), Nat.and_zero, vc_and hs.2.2.2.2.2 (fun v _ => km_lt K v)]
  rw [Nat.zero_mul, Nat.zero_add]
  apply vc_congr
  intro v hv
  show S.2.2.2.2 v &&& km K v = vk K S.2.2.2.2 v
  unfold km vk
  split
  · rw [show (15 : Nat) = 2 ^ 4 - 1 from rfl, n_and]
    have := hs.2.2.2.2.2 v hv
    omega
  · rw [Nat.and_zero]
theorem vk_lt {V : Nat → Nat} (K : Nat → Bool) (hv : ∀ v, v < 6 → V v < 16) : ∀ v, v < 6 → vk K V v < 16 := by
  intro v h
  unfold vk
  split
  · exact hv v h
  · omega
theorem en_fault {nw f : Nat} {S : AS} (hs : WS nw S) (K : Nat → Bool) : enP f 0 (en S &&& vc (km K)) = en (stFault S f K) := by
  rw [en_kept hs]
  have b := vc_lt (vk_lt K hs.2.2.2.2.2)
  show _ = f * 134217728 + 0 * 16777216 + vc (vk K S.2.2.2.2)
  unfold enP
  omega
theorem en_torn {nw : Nat} {S : AS} (hs : WS nw S) (K : Nat → Bool) : enP (0 * 16) 1 (en S &&& vc (km K)) = en (stTorn S K) := by
  rw [en_kept hs]
  have b := vc_lt (vk_lt K hs.2.2.2.2.2)
  show _ = (0 * 16 + 0 + 128 * 0) * 134217728 + 1 * 16777216 + vc (vk K S.2.2.2.2)
  unfold enP
  omega
def st0 : AS := (0, 1, fun _ => 0, fun _ => 0, fun _ => 0)
theorem en_st0 : enP (0 * 16) 1 0 = en st0 := by decide
theorem WS.set {nw v x : Nat} {S : AS} (hs : WS nw S) (hx : x < 16) : WS nw (stSet S v x) := by
  obtain ⟨h0, h1, h2, h3, h4, h5⟩ := hs
  refine ⟨h0, h1, h2, h3, h4, ?_⟩
  intro u hu
  show nup S.2.2.2.2 v x u < 16
  unfold nup
  split
  · exact hx
  · exact h5 u hu
theorem WS.openW {nw w : Nat} {S : AS} (hs : WS nw S) (hw : w < nw) (h00 : 0 < S.2.1) : WS nw (stOpen S w) := by
  unfold stOpen
  split
  · next c =>
    obtain ⟨h0, h1, h2, h3, h4, h5⟩ := hs
    refine ⟨h0, ?_, ?_, ?_, ?_, h5⟩
    · show S.2.1 + 1 ≤ 5
      omega
    · intro q
      exact absurd q (Nat.succ_ne_zero _)
    · intro _
      exact h3 h00
    · intro k hk
      show nup S.2.2.1 S.2.1 w k < nw ∧ nup S.2.2.2.1 S.2.1 0 k < 16
      have hk2 : k < S.2.1 + 1 := hk
      unfold nup
      by_cases e : k = S.2.1
      · rw [if_pos e, if_pos e]
        exact ⟨hw, by omega⟩
      · rw [if_neg e, if_neg e]
        exact h4 k (by omega)
  · exact hs
theorem WS.close {nw : Nat} {S : AS} (hs : WS nw S) : WS nw (stClose S) := by
  unfold stClose
  split
  · next c =>
    obtain ⟨h0, h1, h2, h3, h4, h5⟩ := hs
    refine ⟨h0, ?_, ?_, ?_, ?_, h5⟩
    · show S.2.1 - 1 ≤ 5
      omega
    · intro q
      have q2 : S.2.1 - 1 = 0 := q
      omega
    · intro _
      exact h3 (by omega)
    · intro k hk
      have hk2 : k < S.2.1 - 1 := hk
      exact h4 k (by omega)
  · exact hs
theorem WS.tick {nw x : Nat} {S : AS} (hs : WS nw S) (hx : x < 16) : WS nw (stTick S x) := by
  obtain ⟨h0, h1, h2, h3, h4, h5⟩ := hs
  refine ⟨h0, h1, h2, h3, ?_, h5⟩
  intro k hk
  refine ⟨(h4 k hk).1, ?_⟩
  show nup S.2.2.2.1 (S.2.1 - 1) x k < 16
  unfold nup
  split
  · exact hx
  · exact (h4 k hk).2
theorem WS.fault {nw f : Nat} {S : AS} (hs : WS nw S) (K : Nat → Bool) (h1 : 1 ≤ f) (h2 : f ≤ 20) : WS nw (stFault S f K) := by
  refine ⟨hs.1, Nat.zero_le _, fun _ => ⟨h1, h2⟩, fun q => absurd q (Nat.lt_irrefl 0), fun k hk => absurd hk (Nat.not_lt_zero k), vk_lt K hs.2.2.2.2.2⟩
theorem WS.torn {nw : Nat} {S : AS} (hs : WS nw S) (K : Nat → Bool) (h1 : 0 < nw) : WS nw (stTorn S K) := by
  refine ⟨hs.1, (by show 1 ≤ 5; omega), fun q => absurd q (Nat.succ_ne_zero 0), fun _ => rfl, fun k _ => ⟨h1, by show 0 < 16; omega⟩, vk_lt K hs.2.2.2.2.2⟩
theorem WS.zero {nw : Nat} (h1 : 0 < nw) (h8 : nw ≤ 8) : WS nw st0 := by
  refine ⟨h8, (by show 1 ≤ 5; omega), fun q => absurd q (Nat.succ_ne_zero 0), fun _ => rfl, fun k _ => ⟨h1, by show 0 < 16; omega⟩, fun v _ => by show 0 < 16; omega⟩
