def SE (S U : AS) : Prop := S.1 = U.1 ∧ S.2.1 = U.2.1 ∧ (∀ k, k < S.2.1 → S.2.2.1 k = U.2.2.1 k ∧ S.2.2.2.1 k = U.2.2.2.1 k) ∧ ∀ v, v < 6 → S.2.2.2.2 v = U.2.2.2.2 v
theorem sc_inj {W T W2 T2 : Nat → Nat} (n : Nat) : (∀ k, k < n → W k < 8 ∧ T k < 16) → (∀ k, k < n → W2 k < 8 ∧ T2 k < 16) → sc W T n = sc W2 T2 n → ∀ k, k < n → W k = W2 k ∧ T k = T2 k := by
  induction n with
  | zero => exact fun _ _ _ k hk => absurd hk (Nat.not_lt_zero k)
  | succ n ih =>
    intro h1 h2 e k hk
    have a := h1 n (by omega)
    have b := h2 n (by omega)
    have e2 : W n * 16 + T n + 128 * sc W T n = W2 n * 16 + T2 n + 128 * sc W2 T2 n := e
    by_cases c : k = n
    · subst c
      omega
    · exact ih (fun j hj => h1 j (by omega)) (fun j hj => h2 j (by omega)) (by omega) k (by omega)
theorem SE_of_en {nw nw2 : Nat} {S U : AS} (hs : WS nw S) (hu : WS nw2 U) (e : en S = en U) : SE S U := by
  have eN : S.2.1 = U.2.1 := by rw [← en_open hs, ← en_open hu, e]
  have eK : sk S = sk U := by rw [← en_code hs, ← en_code hu, e]
  have eV : ∀ v, v < 6 → S.2.2.2.2 v = U.2.2.2.2 v := by
    intro v hv
    rw [← en_val hs hv, ← en_val hu hv, e]
  by_cases c : S.2.1 = 0
  · have c2 : U.2.1 = 0 := by omega
    unfold sk at eK
    rw [if_pos c, if_pos c2] at eK
    exact ⟨eK, eN, fun k hk => absurd hk (by omega), eV⟩
  · have c2 : ¬ U.2.1 = 0 := by omega
    unfold sk at eK
    rw [if_neg c, if_neg c2, ← eN] at eK
    have b1 := hs.1
    have b2 := hu.1
    refine ⟨?_, eN, ?_, eV⟩
    · rw [hs.2.2.2.1 (by omega), hu.2.2.2.1 (by omega)]
    · exact sc_inj _ (fun k hk => ⟨by have := (hs.2.2.2.2.1 k hk).1; omega, (hs.2.2.2.2.1 k hk).2⟩) (fun k hk => ⟨by have := (hu.2.2.2.2.1 k (by omega)).1; omega, (hu.2.2.2.2.1 k (by omega)).2⟩) eK
theorem en_of_SE {S U : AS} (e : SE S U) : en S = en U := by
  obtain ⟨a, b, c, d⟩ := e
  have e1 : sk S = sk U := by
    unfold sk
    rw [a, b, sc_congr (W2 := U.2.2.1) (T2 := U.2.2.2.1)]
    intro k hk
    exact c k (by omega)
  unfold en
  rw [e1, b, vc_congr d]
theorem eaD_of_SE {S U : AS} (e : SE S U) (k : Nat) : eaD S k = eaD U k := by
  obtain ⟨a, b, c, d⟩ := e
  unfold eaD
  rw [← b]
  split
  · next q => rw [(c k q).1, (c k q).2]
  · rfl
theorem ea_of_SE {S U : AS} (e : SE S U) : ∀ k : Nat, ea S k = ea U k
  | 0 => by show S.1 * 8 + S.2.1 = U.1 * 8 + U.2.1; rw [e.1, e.2.1]
  | k + 1 => by show ea S k * 128 + eaD S k = ea U k * 128 + eaD U k; rw [ea_of_SE e k, eaD_of_SE e k]
theorem eb_of_SE {V V2 : Nat → Nat} (e : ∀ v, v < 6 → V v = V2 v) : ∀ k : Nat, k ≤ 6 → eb V k = eb V2 k
  | 0, _ => rfl
  | k + 1, h => by show eb V k * 16 + V k = eb V2 k * 16 + V2 k; rw [eb_of_SE e k (by omega), e k (by omega)]
theorem SE_of_ea {nw nw2 : Nat} {S U : AS} (hs : WS nw S) (hu : WS nw2 U) (e : ea S 5 = ea U 5) (e2 : eb S.2.2.2.2 6 = eb U.2.2.2.2 6) : SE S U := by
  have h1 := ea_head hs
  have h2 := ea_head hu
  rw [e] at h1
  have eN : S.2.1 = U.2.1 := by rw [← h1.2, ← h2.2]
  refine ⟨by rw [← h1.1, ← h2.1], eN, ?_, ?_⟩
  · intro k hk
    have hN := hs.2.1
    have q1 := ea_dig hs (show k < 5 by omega)
    have q2 := ea_dig hu (show k < 5 by omega)
    rw [e, q2] at q1
    unfold eaD at q1
    rw [if_pos hk, if_pos (by omega)] at q1
    have w1 := hs.2.2.2.2.1 k hk
    have w2 := hu.2.2.2.2.1 k (by omega)
    omega
  · intro v hv
    rw [← eb_dig hs.2.2.2.2.2 hv, ← eb_dig hu.2.2.2.2.2 hv, e2]
theorem en_iff {nw nw2 : Nat} {S U : AS} (hs : WS nw S) (hu : WS nw2 U) : en S = en U ↔ ea S 5 = ea U 5 ∧ eb S.2.2.2.2 6 = eb U.2.2.2.2 6 := by
  refine ⟨fun e => ?_, fun e => en_of_SE (SE_of_ea hs hu e.1 e.2)⟩
  have q := SE_of_en hs hu e
  exact ⟨ea_of_SE q 5, eb_of_SE q.2.2.2 6 (by omega)⟩
