/-- a STATE: fault, how many are open, windows and ticks (lowest first), vars -/
abbrev AS : Type := Nat × Nat × (Nat → Nat) × (Nat → Nat) × (Nat → Nat)
def nup (f : Nat → Nat) (k x : Nat) : Nat → Nat := fun j => if j = k then x else f j
def sc (W T : Nat → Nat) : Nat → Nat
  | 0 => 0
  | n + 1 => W n * 16 + T n + 128 * sc W T n
def vc (V : Nat → Nat) : Nat := V 0 + 16 * V 1 + 256 * V 2 + 4096 * V 3 + 65536 * V 4 + 1048576 * V 5
def sk (S : AS) : Nat := if S.2.1 = 0 then S.1 else sc S.2.2.1 S.2.2.2.1 S.2.1
def en (S : AS) : Nat := sk S * 134217728 + S.2.1 * 16777216 + vc S.2.2.2.2
def WS (nw : Nat) (S : AS) : Prop := nw ≤ 8 ∧ S.2.1 ≤ 5 ∧ (S.2.1 = 0 → 1 ≤ S.1 ∧ S.1 ≤ 20) ∧ (0 < S.2.1 → S.1 = 0) ∧ (∀ k, k < S.2.1 → S.2.2.1 k < nw ∧ S.2.2.2.1 k < 16) ∧ ∀ v, v < 6 → S.2.2.2.2 v < 16
theorem sc_lt {W T : Nat → Nat} : ∀ {n : Nat}, (∀ k, k < n → W k < 8 ∧ T k < 16) → sc W T n < 128 ^ n
  | 0, _ => Nat.one_pos
  | n + 1, hw => by
    have a := sc_lt (W := W) (T := T) (n := n) (fun k hk => hw k (by omega))
    have b := hw n (by omega)
    show W n * 16 + T n + 128 * sc W T n < _
    rw [Nat.pow_succ]
    omega
theorem sc_congr {W T W2 T2 : Nat → Nat} : ∀ {n : Nat}, (∀ k, k < n → W k = W2 k ∧ T k = T2 k) → sc W T n = sc W2 T2 n
  | 0, _ => rfl
  | n + 1, hw => by
    have a := sc_congr (W := W) (T := T) (W2 := W2) (T2 := T2) (n := n) (fun k hk => hw k (by omega))
    have b := hw n (by omega)
    show W n * 16 + T n + 128 * sc W T n = W2 n * 16 + T2 n + 128 * sc W2 T2 n
    rw [a, b.1, b.2]
theorem vc_lt {V : Nat → Nat} (hv : ∀ v, v < 6 → V v < 16) : vc V < 16777216 := by
  have a0 := hv 0 (by omega)
  have a1 := hv 1 (by omega)
  have a2 := hv 2 (by omega)
  have a3 := hv 3 (by omega)
  have a4 := hv 4 (by omega)
  have a5 := hv 5 (by omega)
  unfold vc
  omega
theorem sk_lt {nw : Nat} {S : AS} (hs : WS nw S) : sk S < 34359738368 := by
  unfold sk
  obtain ⟨h0, h1, h2, h3, h4, h5⟩ := hs
  by_cases c : S.2.1 = 0
  · rw [if_pos c]
    have := (h2 c).2
    omega
  · rw [if_neg c]
    have a := sc_lt (W := S.2.2.1) (T := S.2.2.2.1) (n := S.2.1) (fun k hk => ⟨by have := (h4 k hk).1; omega, (h4 k hk).2⟩)
    have b : 128 ^ S.2.1 ≤ 128 ^ 5 := Nat.pow_le_pow_right (by omega) h1
    omega
theorem en_lt {nw : Nat} {S : AS} (hs : WS nw S) : en S < 4611686018427387904 := by
  have a := sk_lt hs
  have b := vc_lt hs.2.2.2.2.2
  have c := hs.2.1
  unfold en
  omega
theorem en_open {nw : Nat} {S : AS} (hs : WS nw S) : en S / 16777216 % 8 = S.2.1 := by
  have b := vc_lt hs.2.2.2.2.2
  have c := hs.2.1
  unfold en
  omega
theorem en_code {nw : Nat} {S : AS} (hs : WS nw S) : en S / 134217728 = sk S := by
  have b := vc_lt hs.2.2.2.2.2
  have c := hs.2.1
  unfold en
  omega
theorem en_vc {nw : Nat} {S : AS} (hs : WS nw S) : en S % 16777216 = vc S.2.2.2.2 := by
  have b := vc_lt hs.2.2.2.2.2
  have c := hs.2.1
  unfold en
  omega
theorem vc_val {V : Nat → Nat} (hv : ∀ v, v < 6 → V v < 16) (c : Nat) {v : Nat} (h : v < 6) : (c * 16777216 + vc V) / 2 ^ (4 * v) % 16 = V v := by
  have a0 := hv 0 (by omega)
  have a1 := hv 1 (by omega)
  have a2 := hv 2 (by omega)
  have a3 := hv 3 (by omega)
  have a4 := hv 4 (by omega)
  have a5 := hv 5 (by omega)
  unfold vc
  have : v = 0 ∨ v = 1 ∨ v = 2 ∨ v = 3 ∨ v = 4 ∨ v = 5 := by omega
  rcases this with rfl | rfl | rfl | rfl | rfl | rfl <;> omega
theorem en_val {nw : Nat} {S : AS} (hs : WS nw S) {v : Nat} (h : v < 6) : en S / 2 ^ (4 * v) % 16 = S.2.2.2.2 v := by
  have e : en S = (sk S * 8 + S.2.1) * 16777216 + vc S.2.2.2.2 := by unfold en; omega
  rw [e, vc_val hs.2.2.2.2.2 _ h]
theorem en_top {nw n : Nat} {S : AS} (hs : WS nw S) (hn : S.2.1 = n + 1) : en S / 2147483648 % 8 = S.2.2.1 n ∧ en S / 134217728 % 16 = S.2.2.2.1 n := by
  have a : en S / 2147483648 = en S / 134217728 / 16 := by omega
  rw [a, en_code hs]
  have b : sk S = S.2.2.1 n * 16 + S.2.2.2.1 n + 128 * sc S.2.2.1 S.2.2.2.1 n := by
    unfold sk
    rw [if_neg (by omega), hn]
    rfl
  have d := hs.2.2.2.2.1 n (by omega)
  have d2 := hs.1
  omega
theorem vc_set {V : Nat → Nat} (hv : ∀ v, v < 6 → V v < 16) (c : Nat) {v x : Nat} (h : v < 6) : ((c * 16777216 + vc V) / 2 ^ (4 * v + 4) * 16 + x) * 2 ^ (4 * v) + (c * 16777216 + vc V) % 2 ^ (4 * v) = c * 16777216 + vc (nup V v x) := by
  have a0 := hv 0 (by omega)
  have a1 := hv 1 (by omega)
  have a2 := hv 2 (by omega)
  have a3 := hv 3 (by omega)
  have a4 := hv 4 (by omega)
  have a5 := hv 5 (by omega)
  unfold vc nup
  have : v = 0 ∨ v = 1 ∨ v = 2 ∨ v = 3 ∨ v = 4 ∨ v = 5 := by omega
  rcases this with rfl | rfl | rfl | rfl | rfl | rfl <;> simp <;> omega
def stSet (S : AS) (v x : Nat) : AS := (S.1, S.2.1, S.2.2.1, S.2.2.2.1, nup S.2.2.2.2 v x)
def stOpen (S : AS) (w : Nat) : AS := if S.2.1 < 5 then (S.1, S.2.1 + 1, nup S.2.2.1 S.2.1 w, nup S.2.2.2.1 S.2.1 0, S.2.2.2.2) else S
def stClose (S : AS) : AS := if 2 ≤ S.2.1 then (S.1, S.2.1 - 1, S.2.2.1, S.2.2.2.1, S.2.2.2.2) else S
def stTick (S : AS) (x : Nat) : AS := (S.1, S.2.1, S.2.2.1, nup S.2.2.2.1 (S.2.1 - 1) x, S.2.2.2.2)
def vk (K : Nat → Bool) (V : Nat → Nat) : Nat → Nat := fun v => if K v = true then V v else 0
def stFault (S : AS) (f : Nat) (K : Nat → Bool) : AS := (f, 0, S.2.2.1, S.2.2.2.1, vk K S.2.2.2.2)
def stTorn (S : AS) (K : Nat → Bool) : AS := (0, 1, fun _ => 0, fun _ => 0, vk K S.2.2.2.2)
theorem en_set {nw v x : Nat} {S : AS} (hs : WS nw S) (h : v < 6) : (en S / 2 ^ (4 * v + 4) * 16 + x) * 2 ^ (4 * v) + en S % 2 ^ (4 * v) = en (stSet S v x) := by
  have e : ∀ U : AS, en U = (sk U * 8 + U.2.1) * 16777216 + vc U.2.2.2.2 := by intro U; unfold en; omega
  rw [e S, vc_set hs.2.2.2.2.2 _ h, e (stSet S v x)]
  rfl
theorem en_close {nw : Nat} {S : AS} (hs : WS nw S) : (if 2 ≤ en S / 16777216 % 8 then enP (en S / 17179869184) (en S / 16777216 % 8 - 1) (en S) else en S) = en (stClose S) := by
  rw [en_open hs]
  unfold stClose
  by_cases c : 2 ≤ S.2.1
  · rw [if_pos c, if_pos c]
    obtain ⟨n, hn⟩ : ∃ n, S.2.1 = n + 2 := ⟨S.2.1 - 2, by omega⟩
    have a : en S / 17179869184 = en S / 134217728 / 128 := by omega
    have b : sk S = S.2.2.1 (n + 1) * 16 + S.2.2.2.1 (n + 1) + 128 * sc S.2.2.1 S.2.2.2.1 (n + 1) := by
      unfold sk
      rw [if_neg (by omega), hn]
      rfl
    have d := hs.2.2.2.2.1 (n + 1) (by omega)
    have d2 := hs.1
    have q : sk (S.1, S.2.1 - 1, S.2.2.1, S.2.2.2.1, S.2.2.2.2) = sc S.2.2.1 S.2.2.2.1 (n + 1) := by
      unfold sk
      show (if S.2.1 - 1 = 0 then S.1 else sc S.2.2.1 S.2.2.2.1 (S.2.1 - 1)) = _
      rw [if_neg (by omega), hn]
      rfl
    unfold enP
    rw [en_vc hs, a, en_code hs]
    show _ = sk (S.1, S.2.1 - 1, S.2.2.1, S.2.2.2.1, S.2.2.2.2) * 134217728 + (S.2.1 - 1) * 16777216 + vc S.2.2.2.2
    rw [q, b]
    omega
  · rw [if_neg c, if_neg c]
theorem en_opened {nw w : Nat} {S : AS} (hs : WS nw S) (h0 : 0 < S.2.1) : (if en S / 16777216 % 8 < 5 then enP (en S / 134217728 * 128 + w * 16) (en S / 16777216 % 8 + 1) (en S) else en S) = en (stOpen S w) := by
  rw [en_open hs]
  unfold stOpen
  by_cases c : S.2.1 < 5
  · rw [if_pos c, if_pos c]
    unfold enP
    rw [en_vc hs, en_code hs]
    have q : sk (S.1, S.2.1 + 1, nup S.2.2.1 S.2.1 w, nup S.2.2.2.1 S.2.1 0, S.2.2.2.2) = w * 16 + 128 * sk S := by
      unfold sk
      show (if S.2.1 + 1 = 0 then S.1 else nup S.2.2.1 S.2.1 w S.2.1 * 16 + nup S.2.2.2.1 S.2.1 0 S.2.1 + 128 * sc (nup S.2.2.1 S.2.1 w) (nup S.2.2.2.1 S.2.1 0) S.2.1) = _
      rw [if_neg (by omega), if_neg (by omega), sc_congr (W2 := S.2.2.1) (T2 := S.2.2.2.1)]
      · unfold nup; simp
      · intro k hk
        unfold nup
        rw [if_neg (by omega), if_neg (by omega)]
        exact ⟨rfl, rfl⟩
    show _ = sk (S.1, S.2.1 + 1, nup S.2.2.1 S.2.1 w, nup S.2.2.2.1 S.2.1 0, S.2.2.2.2) * 134217728 + (S.2.1 + 1) * 16777216 + vc S.2.2.2.2
    rw [q]
    omega
  · rw [if_neg c, if_neg c]
theorem en_tick {nw x : Nat} {S : AS} (hs : WS nw S) (h0 : 0 < S.2.1) : (en S / 2147483648 * 16 + x) * 134217728 + en S % 134217728 = en (stTick S x) := by
  obtain ⟨n, hn⟩ : ∃ n, S.2.1 = n + 1 := ⟨S.2.1 - 1, by omega⟩
  have b : sk S = S.2.2.1 n * 16 + S.2.2.2.1 n + 128 * sc S.2.2.1 S.2.2.2.1 n := by
    unfold sk
    rw [if_neg (by omega), hn]
    rfl
  have d := hs.2.2.2.2.1 n (by omega)
  have d2 := hs.1
  have q : sk (stTick S x) = S.2.2.1 n * 16 + x + 128 * sc S.2.2.1 S.2.2.2.1 n := by
    unfold sk stTick
    show (if S.2.1 = 0 then S.1 else sc S.2.2.1 (nup S.2.2.2.1 (S.2.1 - 1) x) S.2.1) = _
    rw [if_neg (by omega), hn]
    show S.2.2.1 n * 16 + nup S.2.2.2.1 n x n + 128 * sc S.2.2.1 (nup S.2.2.2.1 n x) n = _
    rw [sc_congr (W2 := S.2.2.1) (T2 := S.2.2.2.1)]
    · unfold nup; simp
    · intro k hk
      unfold nup
      rw [if_neg (by omega)]
      exact ⟨rfl, rfl⟩
  have e1 : en S = sk S * 134217728 + S.2.1 * 16777216 + vc S.2.2.2.2 := rfl
  have e2 : en (stTick S x) = sk (stTick S x) * 134217728 + S.2.1 * 16777216 + vc S.2.2.2.2 := rfl
  have bv := vc_lt hs.2.2.2.2.2
  have c := hs.2.1
  rw [e2, q, e1, b]
  omega
