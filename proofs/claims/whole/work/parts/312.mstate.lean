def eaD (S : AS) (k : Nat) : Nat := if k < S.2.1 then S.2.2.1 k * 16 + S.2.2.2.1 k else 0
def ea (S : AS) : Nat → Nat
  | 0 => S.1 * 8 + S.2.1
  | k + 1 => ea S k * 128 + eaD S k
def eb (V : Nat → Nat) : Nat → Nat
  | 0 => 0
  | k + 1 => eb V k * 16 + V k
def RepS (h : AH) (S : AS) : Prop := h.1 103 19 = Int32.ofNat S.1 ∧ h.1 103 20 = Int32.ofNat S.2.1 ∧ (∀ k, k < S.2.1 → h.1 130 k = Int32.ofNat (S.2.2.1 k) ∧ h.1 131 k = Int32.ofNat (S.2.2.2.1 k)) ∧ ∀ v, v < 6 → h.1 132 v = Int32.ofNat (S.2.2.2.2 v)
theorem eaD_lt {nw : Nat} {S : AS} (hs : WS nw S) (k : Nat) : eaD S k < 128 := by
  unfold eaD
  split
  · next c =>
    have a := hs.2.2.2.2.1 k c
    have b := hs.1
    omega
  · omega
theorem k_X12_packed_loop {l : Launch} {g : AG} {h : AH} {nw : Nat} {S : AS} {Q : Int64 → AH → Prop} (hr : Refs h) (hs : WS nw S) (hp : RepS h S) (hq : Q (Int64.ofNat (ea S 5)) h) : ∀ d k : Nat, k + d = 5 → L_X12_packed_18 l g h 103 (Int64.ofNat (ea S k)) (Int32.ofNat k) Q := by
  intro d
  induction d with
  | zero =>
    intro k hk
    refine s_X12_packed_18 ⟨fun _ => ?_, fun c => ?_⟩
    · rw [show k = 5 by omega]
      exact hq
    · exact absurd ((i_le (a := 5) (b := k) (by omega) (by omega)).2 (by omega)) c
  | succ d ih =>
    intro k hk
    refine s_X12_packed_18 ⟨fun c => ?_, fun c => ?_⟩
    · exact absurd ((i_le (a := 5) (b := k) (by omega) (by omega)).1 c) (by omega)
    · have hN := hs.2.1
      rw [rf_103_21 hr, rf_103_22 hr, hp.2.1, i_le (by omega) (by omega), i_cl (show k < 2147483648 by omega)]
      refine ⟨⟨by decide, rfl⟩, fun c2 => ?_, fun c2 => ⟨⟨by decide, rfl⟩, i_in (by omega) (show k < 5 by omega), ⟨by decide, rfl⟩, i_in (by omega) (show k < 5 by omega), ?_⟩⟩
      · intro v9 e9 v11 e11
        have a : v9 = Int64.ofNat (ea S (k + 1)) := by
          rw [e9, show (7 : Int32) = Int32.ofNat 7 from rfl, l_shl _ (by decide), show (0 : Int32).toInt64 = Int64.ofNat 0 from rfl, l_or, n_or (by decide)]
          show _ = Int64.ofNat (ea S k * 128 + eaD S k)
          unfold eaD
          rw [if_neg (by omega)]
        have b : v11 = Int32.ofNat (k + 1) := by
          rw [e11, show (1 : Int32) = Int32.ofNat 1 from rfl, i_add]
        rw [a, b]
        exact ih (k + 1) (by omega)
      · intro v17 e17 v19 e19 v21 e21
        have w := hs.2.2.2.2.1 k (by omega)
        have w0 := hs.1
        have r := hp.2.2.1 k (by omega)
        have a7 : v17 = Int32.ofNat (eaD S k) := by
          rw [e17, r.1, r.2, show (4 : Int32) = Int32.ofNat 4 from rfl, i_shl _ (by decide), i_or, n_or (by omega)]
          unfold eaD
          rw [if_pos (by omega)]
        have hD := eaD_lt hs k
        have a : v19 = Int64.ofNat (ea S (k + 1)) := by
          rw [e19, a7, show (7 : Int32) = Int32.ofNat 7 from rfl, l_shl _ (by decide), l_of (by omega), l_or, n_or (by omega)]
          rfl
        have b : v21 = Int32.ofNat (k + 1) := by
          rw [e21, show (1 : Int32) = Int32.ofNat 1 from rfl, i_add]
        rw [a, b]
        exact ih (k + 1) (by omega)
theorem k_X12_packed {l : Launch} {g : AG} {h : AH} {nw : Nat} {S : AS} {Q : Int64 → AH → Prop} (hr : Refs h) (hs : WS nw S) (hp : RepS h S) (hq : Q (Int64.ofNat (ea S 5)) h) : C_X12_packed l g h 103 Q := by
  refine c_X12_packed (s_X12_packed_0 ⟨⟨by decide, rfl⟩, ?_⟩)
  intro v2 e2 v4 e4
  have hF : S.1 < 21 := by
    by_cases c : S.2.1 = 0
    · have := (hs.2.2.1 c).2; omega
    · have := hs.2.2.2.1 (by omega); omega
  have hN := hs.2.1
  have a : v4 = Int64.ofNat (ea S 0) := by
    rw [e4, e2, hp.1, hp.2.1, l_of (by omega), l_of (by omega), show (3 : Int32) = Int32.ofNat 3 from rfl, l_shl _ (by decide), l_or, n_or (by omega)]
    rfl
  rw [a]
  exact k_X12_packed_loop hr hs hp hq 5 0 rfl
