theorem Is.ne {n i c : Nat} (hi : Is n i c) (h9 : c < 90) : i ≠ 0 := Nat.pos_iff_ne_zero.mp (hi.rng h9).1
def ax_QV (Q : AH → Prop) : Option Value → AH → Prop := fun r h => r = none ∧ Q h
def ax_QI (Q : Int32 → AH → Prop) : Option Value → AH → Prop := fun r h => ∃ x, r = some (.int x) ∧ Q x h
def ax_QL (Q : Int64 → AH → Prop) : Option Value → AH → Prop := fun r h => ∃ x, r = some (.long x) ∧ Q x h
def ax_QR (Q : Nat → AH → Prop) : Option Value → AH → Prop := fun r h => ∃ x, r = some (.ref x) ∧ Q x h
def ax_copy (h : AH) (src dst : Nat) (z : Int32) : AH := (fun a => if a = dst then va_cpy (h.1 src) (h.1 dst) 0 0 z.toNatClampNeg else h.1 a, h.2.1, h.2.2)
section AXT
variable {l : Launch} {g : AG} {M : AM} {f k n0 nE n pc : Nat} {lv : List (Nat × Value)} {st : List Value} {h : AH} {F : AF}
theorem wp_topH (kk : ∀ h1 : AH, h1 = h → Wp l g M f k n0 nE n pc lv st h1 F) : Wp l g M f k n0 nE n pc lv st h F := kk h rfl
theorem wp_topi {x : Int32} (kk : ∀ y : Int32, y = x → Wp l g M f k n0 nE n pc lv (.int y :: st) h F) : Wp l g M f k n0 nE n pc lv (.int x :: st) h F := kk x rfl
theorem wp_topl {x : Int64} (kk : ∀ y : Int64, y = x → Wp l g M f k n0 nE n pc lv (.long y :: st) h F) : Wp l g M f k n0 nE n pc lv (.long x :: st) h F := kk x rfl
theorem wp_topr {x : Nat} (kk : ∀ y : Nat, y = x → Wp l g M f k n0 nE n pc lv (.ref y :: st) h F) : Wp l g M f k n0 nE n pc lv (.ref x :: st) h F := kk x rfl
theorem wp_case {x : Int32} (v : Int32) (k1 : x = v → Wp l g M f k n0 nE n pc lv (.int x :: st) h F) (k2 : ¬ x = v → Wp l g M f k n0 nE n pc lv (.int x :: st) h F) : Wp l g M f k n0 nE n pc lv (.int x :: st) h F := by
  by_cases c : x = v
  · exact k1 c
  · exact k2 c
theorem wp_ldcw {index : Nat} {v : Int32} (hdg : decode M.2.1 pc = .ok (.ldc_w index, 3)) (hw : Cond.constant M.1.cls index v ∈ ax_G) (kk : Wp l g M f k n0 nE n (pc + 3) lv (.int v :: st) h F) : Wp l g M f k n0 nE n pc lv st h F :=
  fun p e s m args below meth c C H locs ls hP hS hl => lv_ldcw C.1 C.2.1 C.2.2.2.2.1 (C.2.2.2.2.2.1 _ hw) hdg (kk p e s m args below meth c C H locs ls hP hS hl)
theorem wp_ldcS {q : String × Nat × String × Nat} (hdg : decode M.2.1 pc = .ok (.ldc q.2.1, 2)) (hq : q ∈ ax_sr) (ho : q.1 = M.1.cls) {z : Nat} (hz : 1000 + q.2.2.2 = z) (hz2 : z < 2000) (kk : Wp l g M f k n0 nE n (pc + 2) lv (.ref z :: st) h F) : Wp l g M f k n0 nE n pc lv st h F := by
  intro p e s m args below meth c C H locs ls hP hS hl
  have hR := C.2.2.2.2.2.2.2.2.1.2.2.2.1 q hq
  rw [ho] at hR
  have e0 : ax_a g z = g.2.2.2.1 q.2.2.2 := by
    unfold ax_a
    rw [if_neg (by omega), if_pos (by omega), show z - 1000 = q.2.2.2 by omega]
  have K := kk p e s m args below meth c C H locs ls hP hS hl
  rw [show (Value.ref z :: st).map (ax_v g) = .ref (ax_a g z) :: st.map (ax_v g) from rfl, e0] at K
  exact va_ldcS C.1 C.2.1 C.2.2.2.2.1 hR hdg K
theorem wp_ldcSw {q : String × Nat × String × Nat} (hdg : decode M.2.1 pc = .ok (.ldc_w q.2.1, 3)) (hq : q ∈ ax_sr) (ho : q.1 = M.1.cls) {z : Nat} (hz : 1000 + q.2.2.2 = z) (hz2 : z < 2000) (kk : Wp l g M f k n0 nE n (pc + 3) lv (.ref z :: st) h F) : Wp l g M f k n0 nE n pc lv st h F := by
  intro p e s m args below meth c C H locs ls hP hS hl
  have hR := C.2.2.2.2.2.2.2.2.1.2.2.2.1 q hq
  rw [ho] at hR
  have e0 : ax_a g z = g.2.2.2.1 q.2.2.2 := by
    unfold ax_a
    rw [if_neg (by omega), if_pos (by omega), show z - 1000 = q.2.2.2 by omega]
  have K := kk p e s m args below meth c C H locs ls hP hS hl
  rw [show (Value.ref z :: st).map (ax_v g) = .ref (ax_a g z) :: st.map (ax_v g) from rfl, e0] at K
  intro T hT X
  obtain ⟨t, a1, b1⟩ := K T hT X
  exact ⟨t, ldcStringW X C.1 C.2.2.2.2.1 (text := q.2.2.1) (a := g.2.2.2.1 q.2.2.2) hR.1 hR.2 (g := F0 m pc ls (st.map (ax_v g))) rfl (by rw [C.2.1]; exact hdg) t a1, b1⟩
end AXT
