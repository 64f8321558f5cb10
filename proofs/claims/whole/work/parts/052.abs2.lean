section AXW
variable {g : AG} {n : Nat} {h : AH}
theorem ax_w_len : (ax_w g n h).length = n := by simp [ax_w]
theorem ax_w_get {j : Nat} (hj : j < n) : (ax_w g n h)[j]? = some (g.2.2.1 + (j + 1), ax_e g (h.1 (j + 1)) (h.2.1 (j + 1)) (h.2.2 (j + 1)) (j + 1)) := by
  simp [ax_w, List.getElem?_map, List.getElem?_range hj]
theorem ax_w_lt {j : Nat} {q : Nat × va_E} (hj : (ax_w g n h)[j]? = some q) : j < n := by
  have h1 := (List.getElem?_eq_some_iff.mp hj).1
  rwa [ax_w_len] at h1
theorem ax_w_D : va_D (ax_A g) (ax_w g n h) := by
  refine ⟨fun i j p q hi hj hpq => ?_, fun j q hj => ?_⟩
  · have h1 := ax_w_lt hi
    have h2 := ax_w_lt hj
    rw [ax_w_get h1] at hi
    rw [ax_w_get h2] at hj
    cases hi
    cases hj
    have h3 : g.2.2.1 + (i + 1) = g.2.2.1 + (j + 1) := hpq
    omega
  · have h1 := ax_w_lt hj
    rw [ax_w_get h1] at hj
    cases hj
    show g.2.2.1 < g.2.2.1 + (j + 1)
    omega
/-- cell i stands, of the shape c -/
def Is (n i c : Nat) : Prop := i ≤ n ∧ (ax_s i).1 = c
set_option maxRecDepth 20000 in
theorem ax_sh_len : ax_sh.length = ax_N + 1 := by decide +kernel
theorem ax_rng {i c : Nat} (hc : (ax_s i).1 = c) (h9 : c < 90) : 0 < i ∧ i ≤ ax_N := by
  refine ⟨?_, ?_⟩
  · rcases Nat.eq_zero_or_pos i with h0 | h0
    · subst h0
      have h1 : (ax_s 0).1 = 99 := rfl
      omega
    · exact h0
  · rcases Nat.lt_or_ge ax_N i with h0 | h0
    · have h1 : ax_s i = (99, 0) := by
        unfold ax_s
        rw [List.getD_eq_getElem?_getD, List.getElem?_eq_none (by rw [ax_sh_len]; omega)]
        rfl
      rw [h1] at hc
      have h2 : (99 : Nat) = c := hc
      omega
    · exact h0
theorem Is.rng {i c : Nat} (hi : Is n i c) (h9 : c < 90) : 0 < i ∧ i < 1000 := by
  have h1 := ax_rng hi.2 h9
  have h2 : ax_N = 194 := rfl
  omega
theorem Is.get {i c : Nat} (hi : Is n i c) (h9 : c < 90) : (ax_w g n h)[i - 1]? = some (ax_a g i, ax_e g (h.1 i) (h.2.1 i) (h.2.2 i) i) := by
  have h1 := hi.rng h9
  have h2 := hi.1
  rw [ax_w_get (show i - 1 < n by omega), show i - 1 + 1 = i by omega]
  unfold ax_a
  rw [if_pos h1.2]
theorem ax_w_set {h2 : AH} {i c : Nat} {e : va_E} (hi : Is n i c) (h9 : c < 90) (he : ax_e g (h2.1 i) (h2.2.1 i) (h2.2.2 i) i = e) (ho : ∀ j, j ≠ i → h2.1 j = h.1 j ∧ h2.2.1 j = h.2.1 j ∧ h2.2.2 j = h.2.2 j) : (ax_w g n h).set (i - 1) (ax_a g i, e) = ax_w g n h2 := by
  have hr := hi.rng h9
  have hle := hi.1
  apply List.ext_getElem?
  intro j
  by_cases hj : j < n
  · by_cases e1 : j = i - 1
    · rw [e1, List.getElem?_set_self (by rw [ax_w_len]; omega), hi.get h9 (h := h2), he]
    · rw [List.getElem?_set_ne (Ne.symm e1), ax_w_get hj, ax_w_get hj]
      obtain ⟨q1, q2, q3⟩ := ho (j + 1) (by omega)
      rw [q1, q2, q3]
  · rw [List.getElem?_eq_none (by rw [List.length_set, ax_w_len]; omega), List.getElem?_eq_none (by rw [ax_w_len]; omega)]
theorem ax_setI_at (i k : Nat) (v : Int32) : (ax_setI h i k v).1 i = upd (h.1 i) k v := by simp [ax_setI]
theorem ax_setL_at (i k : Nat) (v : Int64) : (ax_setL h i k v).2.1 i = vp_updL (h.2.1 i) k v := by simp [ax_setL]
theorem ax_setR_at (i k : Nat) (v : Nat) : (ax_setR h i k v).2.2 i = va_up (h.2.2 i) k v := by simp [ax_setR]
theorem ax_setI_o (i k : Nat) (v : Int32) : ∀ j, j ≠ i → (ax_setI h i k v).1 j = h.1 j ∧ (ax_setI h i k v).2.1 j = h.2.1 j ∧ (ax_setI h i k v).2.2 j = h.2.2 j := fun j hj => by simp [ax_setI, hj]
theorem ax_setL_o (i k : Nat) (v : Int64) : ∀ j, j ≠ i → (ax_setL h i k v).1 j = h.1 j ∧ (ax_setL h i k v).2.1 j = h.2.1 j ∧ (ax_setL h i k v).2.2 j = h.2.2 j := fun j hj => by simp [ax_setL, hj]
theorem ax_setR_o (i k : Nat) (v : Nat) : ∀ j, j ≠ i → (ax_setR h i k v).1 j = h.1 j ∧ (ax_setR h i k v).2.1 j = h.2.1 j ∧ (ax_setR h i k v).2.2 j = h.2.2 j := fun j hj => by simp [ax_setR, hj]
variable {a : Nat → Int32} {b : Nat → Int64} {r : Nat → Nat}
theorem ax_e_obj {i c : Nat} (hc : (ax_s i).1 = c) (h20 : c < 20) : ax_e g a b r i = .inr (c, ax_fs g a b r c) := by
  unfold ax_e
  rw [hc, if_neg (by omega), if_neg (by omega), if_neg (by omega), if_neg (by omega), if_neg (by omega), if_neg (by omega)]
theorem ax_e_20 {i : Nat} (hc : (ax_s i).1 = 20) : ax_e g a b r i = .inl (g.2.1 0, (ax_s i).2, .inl a) := by
  unfold ax_e
  simp [hc]
theorem ax_e_21 {i : Nat} (hc : (ax_s i).1 = 21) : ax_e g a b r i = .inl (g.2.1 1, (ax_s i).2, .inr (.inl b)) := by
  unfold ax_e
  simp [hc]
theorem ax_e_22 {i : Nat} (hc : (ax_s i).1 = 22) : ax_e g a b r i = .inl (g.2.1 2, (ax_s i).2, .inl a) := by
  unfold ax_e
  simp [hc]
theorem ax_e_23 {i : Nat} (hc : (ax_s i).1 = 23) : ax_e g a b r i = .inl (g.2.1 3, (ax_s i).2, .inl a) := by
  unfold ax_e
  simp [hc]
theorem ax_e_24 {i : Nat} (hc : (ax_s i).1 = 24) : ax_e g a b r i = .inl (g.2.1 4, (ax_s i).2, .inr (.inr (.inr (.inr (fun k => ax_ro g (r k)))))) := by
  unfold ax_e
  simp [hc]
theorem ax_e_25 {i : Nat} (hc : (ax_s i).1 = 25) : ax_e g a b r i = .inl (g.2.1 5, (ax_s i).2, .inr (.inr (.inr (.inr (fun k => ax_ro g (r k)))))) := by
  unfold ax_e
  simp [hc]
theorem ax_fs_get {c k t : Nat} (ht : (ax_ft c)[k]? = some t) : (ax_fs g a b r c)[k]? = some (ax_fv g a b r k t) := by
  simp [ax_fs, List.getElem?_mapIdx, ht]
theorem ax_fs_lt {c k t : Nat} (ht : (ax_ft c)[k]? = some t) : k < (ax_fs g a b r c).length := by
  simpa [ax_fs] using (List.getElem?_eq_some_iff.mp ht).1
theorem ax_fs_set {c k t : Nat} {v : Value} {a2 : Nat → Int32} {b2 : Nat → Int64} {r2 : Nat → Nat} (ht : (ax_ft c)[k]? = some t) (hv : ax_fv g a2 b2 r2 k t = v) (ho : ∀ j, j ≠ k → a2 j = a j ∧ b2 j = b j ∧ r2 j = r j) : (ax_fs g a b r c).set k v = ax_fs g a2 b2 r2 c := by
  apply List.ext_getElem?
  intro j
  by_cases e : j = k
  · rw [e, List.getElem?_set_self (ax_fs_lt ht), ax_fs_get ht, hv]
  · rw [List.getElem?_set_ne (Ne.symm e)]
    obtain ⟨q1, q2, q3⟩ := ho j e
    simp [ax_fs, List.getElem?_mapIdx, ax_fv, q1, q2, q3]
end AXW
def ax_tt (t : Nat) (ty : FieldType) : Prop := (t = 0 ∧ ty = .int) ∨ (t = 1 ∧ ty = .long) ∨ (t = 3 ∧ ty = .boolean) ∨ (t = 2 ∧ ((∃ c, ty = .object c) ∨ ∃ e, ty = .array e))
def ax_FC (ci : Nat) (C : String) (T : u_T) (N : Nat) (ty : Nat → FieldType) : Prop := vwCl[ci]? = some (C, T, N) ∧ (∀ w ∈ u_ws C T N, w ∈ ax_G) ∧ (∀ k, k < N → parseFieldDescriptor (T k).2.2.1 = some (ty k)) ∧ (∀ a, a < N → ∀ b, b < N → a ≠ b → (T a).2.1 ≠ (T b).2.1) ∧ ci < 20
/-- the entry idx of the class own names field k of class ci, of the sort t -/
def ax_FL (own : String) (idx ci k t : Nat) (fin nb : Bool) : Prop := ∃ (C : String) (T : u_T) (N : Nat) (ty : Nat → FieldType), ax_FC ci C T N ty ∧ k < N ∧
  ((nb = false ∧ Cond.fieldLink own idx (T k).1 (T k).2.1 (T k).2.2.1 ∈ ax_G ∧ (fin = true → (T k).1 = own)) ∨ (nb = true ∧ ∃ host, Cond.fieldLinkNest own idx (T k).1 (T k).2.1 (T k).2.2.1 host ∈ ax_NW)) ∧ (ax_ft ci)[k]? = some t ∧ ax_tt t (ty k) ∧ (T k).2.2.2 = fin
section AXF
variable {l : Launch} {g : AG} {M : AM} {f k n0 nE n pc : Nat} {lv : List (Nat × Value)} {st : List Value} {h : AH} {F : AF}
theorem ax_getW {idx ci j t i : Nat} {fin nb : Bool} {p : Program} {e : Env} {s : State} {m : MethodId} {args : Array Value} {below : List Frame} {meth : Method} {c : Code} {H : Heap} {locs : List Loc} {cells slots : Nat} {Q : State → Prop} {R : Room} {ls : Array Slot} {rest : List Value}
    (C : ax_C g M n0 p s m args meth c) (fl : ax_FL M.1.cls idx ci j t fin nb) (hi : Is n i ci) (hP : va_P g.1 vwCl (ax_w g n h) H) (hdg : decode M.2.1 pc = .ok (.getfield idx, 3))
    (kk : W p l e R s m args below meth c H locs cells slots Q (F0 m (pc + 3) ls (ax_fv g (h.1 i) (h.2.1 i) (h.2.2 i) j t :: rest))) : W p l e R s m args below meth c H locs cells slots Q (F0 m pc ls (.ref (ax_a g i) :: rest)) := by
  obtain ⟨C0, T, N, ty, ⟨q1, q2, q3, q4, q5⟩, hj, hlk, ht, -, -⟩ := fl
  have he := hi.get (g := g) (h := h) (by omega)
  rw [ax_e_obj hi.2 q5] at he
  rcases hlk with ⟨hnb, hlk, hf2⟩ | ⟨hnb, host, hlk⟩
  · exact va_get C.1 C.2.1 C.2.2.2.2.2.1 q2 C.2.2.2.2.1 C.2.2.2.2.2.2.2.2.1.1 hP (i - 1) he q1 j hj (C.2.2.2.2.2.1 _ hlk) (fun _ z => z) (ax_fs_get ht) hdg kk
  · exact va_getN C.1 C.2.1 C.2.2.2.2.2.1 q2 C.2.2.2.2.1 C.2.2.2.2.2.2.2.2.1.1 hP (i - 1) he q1 j hj (va_Nw.use (ax_nw_on hlk) (C.2.2.2.2.2.2.2.2.1.2.1 _ hlk)) (fun _ z => z) (ax_fs_get ht) hdg kk
theorem ax_putW {idx ci j t i : Nat} {fin nb : Bool} {v : Value} {h2 : AH} {p : Program} {e : Env} {s : State} {m : MethodId} {args : Array Value} {below : List Frame} {meth : Method} {c : Code} {H : Heap} {locs : List Loc} {cells slots : Nat} {Q : State → Prop} {R : Room} {ls : Array Slot} {rest : List Value}
    (C : ax_C g M n0 p s m args meth c) (fl : ax_FL M.1.cls idx ci j t fin nb) (hfin : fin = false ∨ (M.1.name = "<init>" ∧ nb = false)) (hi : Is n i ci) (hP : va_P g.1 vwCl (ax_w g n h) H) (hS : va_S (ax_A g) s.heap H locs) (hdg : decode M.2.1 pc = .ok (.putfield idx, 3))
    (hn : ∀ ty, ax_tt t ty → narrow ty v = v ∧ fits ty v = true) (hv : ax_fv g (h2.1 i) (h2.2.1 i) (h2.2.2 i) j t = v) (ho : ∀ q, q ≠ i → h2.1 q = h.1 q ∧ h2.2.1 q = h.2.1 q ∧ h2.2.2 q = h.2.2 q) (hk : ∀ q, q ≠ j → h2.1 i q = h.1 i q ∧ h2.2.1 i q = h.2.1 i q ∧ h2.2.2 i q = h.2.2 i q)
    (kk : ∀ (H1 : Heap) (locs1 : List Loc), va_P g.1 vwCl (ax_w g n h2) H1 → va_S (ax_A g) s.heap H1 locs1 → W p l e R s m args below meth c H1 locs1 cells slots Q (F0 m (pc + 3) ls rest)) : W p l e R s m args below meth c H locs cells slots Q (F0 m pc ls (v :: .ref (ax_a g i) :: rest)) := by
  obtain ⟨C0, T, N, ty, ⟨q1, q2, q3, q4, q5⟩, hj, hlk, ht, htt, hf1⟩ := fl
  have he := hi.get (g := g) (h := h) (by omega)
  rw [ax_e_obj hi.2 q5] at he
  have hw := ax_w_set (g := g) (h := h) (h2 := h2) hi (by omega) (e := .inr (ci, (ax_fs g (h.1 i) (h.2.1 i) (h.2.2 i) ci).set j v)) (by rw [ax_e_obj hi.2 q5, ax_fs_set ht hv hk]) ho
  have hcase : ∀ (H1 : Heap) (locs1 : List Loc), va_P g.1 vwCl ((ax_w g n h).set (i - 1) (ax_a g i, .inr (ci, (ax_fs g (h.1 i) (h.2.1 i) (h.2.2 i) ci).set j v))) H1 → va_D (ax_A g) ((ax_w g n h).set (i - 1) (ax_a g i, .inr (ci, (ax_fs g (h.1 i) (h.2.1 i) (h.2.2 i) ci).set j v))) → va_S (ax_A g) s.heap H1 locs1 → W p l e R s m args below meth c H1 locs1 cells slots Q (F0 m (pc + 3) ls rest) := fun H1 locs1 z1 _ z3 => kk H1 locs1 (by rw [hw] at z1; exact z1) z3
  rcases hlk with ⟨hnb, hlk, hf2⟩ | ⟨hnb, host, hlk⟩
  · cases fin with
    | false => exact va_put C.1 C.2.1 C.2.2.2.2.2.1 q2 ty q3 q4 C.2.2.2.2.1 C.2.2.2.2.2.2.2.2.1.1 hP ax_w_D hS (i - 1) he q1 j hj (C.2.2.2.2.2.1 _ hlk) (fun _ z => z) hf1 (q3 j hj) (hn _ htt).1 (hn _ htt).2 (ax_fs_lt ht) hdg hcase
    | true => exact va_putF C.1 C.2.1 C.2.2.2.2.2.1 q2 ty q3 q4 C.2.2.2.2.1 C.2.2.2.2.2.2.2.2.1.1 hP ax_w_D hS (i - 1) he q1 j hj (C.2.2.2.2.2.1 _ hlk) (fun _ z => z) hf1 (C.2.2.2.2.2.2.2.1.trans (hfin.resolve_left (by simp)).1) (hf2 rfl) (q3 j hj) (hn _ htt).1 (hn _ htt).2 (ax_fs_lt ht) hdg hcase
  · cases fin with
    | false => exact va_putN C.1 C.2.1 C.2.2.2.2.2.1 q2 ty q3 q4 C.2.2.2.2.1 C.2.2.2.2.2.2.2.2.1.1 hP ax_w_D hS (i - 1) he q1 j hj (va_Nw.use (ax_nw_on hlk) (C.2.2.2.2.2.2.2.2.1.2.1 _ hlk)) (fun _ z => z) hf1 (q3 j hj) (hn _ htt).1 (hn _ htt).2 (ax_fs_lt ht) hdg hcase
    | true => exact absurd hnb (by rw [(hfin.resolve_left (by simp)).2]; simp)
theorem wp_getI {idx ci j i : Nat} {fin nb : Bool} (hdg : decode M.2.1 pc = .ok (.getfield idx, 3)) (fl : ax_FL M.1.cls idx ci j 0 fin nb) (hi : Is n i ci) (kk : Wp l g M f k n0 nE n (pc + 3) lv (.int (h.1 i j) :: st) h F) : Wp l g M f k n0 nE n pc lv (.ref i :: st) h F :=
  fun p e s m args below meth c C H locs ls hP hS hl => ax_getW C fl hi hP hdg (kk p e s m args below meth c C H locs ls hP hS hl)
theorem wp_getZ {idx ci j i : Nat} {fin nb : Bool} (hdg : decode M.2.1 pc = .ok (.getfield idx, 3)) (fl : ax_FL M.1.cls idx ci j 3 fin nb) (hi : Is n i ci) (kk : Wp l g M f k n0 nE n (pc + 3) lv (.int (h.1 i j) :: st) h F) : Wp l g M f k n0 nE n pc lv (.ref i :: st) h F :=
  fun p e s m args below meth c C H locs ls hP hS hl => ax_getW C fl hi hP hdg (kk p e s m args below meth c C H locs ls hP hS hl)
theorem wp_getL {idx ci j i : Nat} {fin nb : Bool} (hdg : decode M.2.1 pc = .ok (.getfield idx, 3)) (fl : ax_FL M.1.cls idx ci j 1 fin nb) (hi : Is n i ci) (kk : Wp l g M f k n0 nE n (pc + 3) lv (.long (h.2.1 i j) :: st) h F) : Wp l g M f k n0 nE n pc lv (.ref i :: st) h F :=
  fun p e s m args below meth c C H locs ls hP hS hl => ax_getW C fl hi hP hdg (kk p e s m args below meth c C H locs ls hP hS hl)
theorem wp_getR {idx ci j i : Nat} {fin nb : Bool} (hdg : decode M.2.1 pc = .ok (.getfield idx, 3)) (fl : ax_FL M.1.cls idx ci j 2 fin nb) (hi : Is n i ci) (hr : h.2.2 i j ≠ 0) (kk : Wp l g M f k n0 nE n (pc + 3) lv (.ref (h.2.2 i j) :: st) h F) : Wp l g M f k n0 nE n pc lv (.ref i :: st) h F :=
  fun p e s m args below meth c C H locs ls hP hS hl => ax_getW C fl hi hP hdg (by rw [show ax_fv g (h.1 i) (h.2.1 i) (h.2.2 i) j 2 = .ref (ax_a g (h.2.2 i j)) from by simp [ax_fv, ax_ro, hr, va_rf]]; exact kk p e s m args below meth c C H locs ls hP hS hl)
theorem wp_putI {idx ci j i : Nat} {x : Int32} {fin nb : Bool} (hdg : decode M.2.1 pc = .ok (.putfield idx, 3)) (fl : ax_FL M.1.cls idx ci j 0 fin nb) (hfin : fin = false ∨ (M.1.name = "<init>" ∧ nb = false)) (hi : Is n i ci) (kk : Wp l g M f k n0 nE n (pc + 3) lv st (ax_setI h i j x) F) : Wp l g M f k n0 nE n pc lv (.int x :: .ref i :: st) h F :=
  fun p e s m args below meth c C H locs ls hP hS hl => ax_putW (h2 := ax_setI h i j x) (v := .int x) C fl hfin hi hP hS hdg (by
    rintro ty (⟨h1, h2⟩ | ⟨h1, h2⟩ | ⟨h1, h2⟩ | ⟨h1, h2⟩) <;> first | (exfalso; omega) | skip
    subst h2; exact ⟨rfl, rfl⟩) (by simp [ax_fv, ax_setI_at, upd]) (ax_setI_o i j x) (fun q hq => by simp [ax_setI, upd, vp_updL, va_up, hq]) (fun H1 locs1 hP1 hS1 => kk p e s m args below meth c C H1 locs1 ls hP1 hS1 hl)
theorem wp_putZ {idx ci j i : Nat} {x : Int32} {fin nb : Bool} (hdg : decode M.2.1 pc = .ok (.putfield idx, 3)) (fl : ax_FL M.1.cls idx ci j 3 fin nb) (hfin : fin = false ∨ (M.1.name = "<init>" ∧ nb = false)) (hi : Is n i ci) (hx : x = 0 ∨ x = 1) (kk : Wp l g M f k n0 nE n (pc + 3) lv st (ax_setI h i j x) F) : Wp l g M f k n0 nE n pc lv (.int x :: .ref i :: st) h F :=
  fun p e s m args below meth c C H locs ls hP hS hl => ax_putW (h2 := ax_setI h i j x) (v := .int x) C fl hfin hi hP hS hdg (by
    rintro ty (⟨h1, h2⟩ | ⟨h1, h2⟩ | ⟨h1, h2⟩ | ⟨h1, h2⟩) <;> first | (exfalso; omega) | skip
    subst h2; rcases hx with rfl | rfl <;> exact ⟨by decide, by decide⟩) (by simp [ax_fv, ax_setI_at, upd]) (ax_setI_o i j x) (fun q hq => by simp [ax_setI, upd, vp_updL, va_up, hq]) (fun H1 locs1 hP1 hS1 => kk p e s m args below meth c C H1 locs1 ls hP1 hS1 hl)
theorem wp_putL {idx ci j i : Nat} {x : Int64} {fin nb : Bool} (hdg : decode M.2.1 pc = .ok (.putfield idx, 3)) (fl : ax_FL M.1.cls idx ci j 1 fin nb) (hfin : fin = false ∨ (M.1.name = "<init>" ∧ nb = false)) (hi : Is n i ci) (kk : Wp l g M f k n0 nE n (pc + 3) lv st (ax_setL h i j x) F) : Wp l g M f k n0 nE n pc lv (.long x :: .ref i :: st) h F :=
  fun p e s m args below meth c C H locs ls hP hS hl => ax_putW (h2 := ax_setL h i j x) (v := .long x) C fl hfin hi hP hS hdg (by
    rintro ty (⟨h1, h2⟩ | ⟨h1, h2⟩ | ⟨h1, h2⟩ | ⟨h1, h2⟩) <;> first | (exfalso; omega) | skip
    subst h2; exact ⟨rfl, rfl⟩) (by simp [ax_fv, ax_setL_at, vp_updL, ax_v, ax_setL]) (ax_setL_o i j x) (fun q hq => by simp [ax_setL, upd, vp_updL, va_up, hq]) (fun H1 locs1 hP1 hS1 => kk p e s m args below meth c C H1 locs1 ls hP1 hS1 hl)
theorem wp_putR {idx ci j i : Nat} {x : Nat} {fin nb : Bool} (hdg : decode M.2.1 pc = .ok (.putfield idx, 3)) (fl : ax_FL M.1.cls idx ci j 2 fin nb) (hfin : fin = false ∨ (M.1.name = "<init>" ∧ nb = false)) (hi : Is n i ci) (hx : x ≠ 0) (kk : Wp l g M f k n0 nE n (pc + 3) lv st (ax_setR h i j x) F) : Wp l g M f k n0 nE n pc lv (.ref x :: .ref i :: st) h F :=
  fun p e s m args below meth c C H locs ls hP hS hl => ax_putW (h2 := ax_setR h i j x) (v := .ref (ax_a g x)) C fl hfin hi hP hS hdg (by
    rintro ty (⟨h1, h2⟩ | ⟨h1, h2⟩ | ⟨h1, h2⟩ | ⟨h1, h2⟩) <;> first | (exfalso; omega) | skip
    rcases h2 with ⟨c0, rfl⟩ | ⟨c0, rfl⟩ <;> exact ⟨rfl, rfl⟩) (by simp [ax_fv, ax_setR_at, va_up, ax_v, ax_ro, va_rf, hx]) (ax_setR_o i j x) (fun q hq => by simp [ax_setR, upd, vp_updL, va_up, hq]) (fun H1 locs1 hP1 hS1 => kk p e s m args below meth c C H1 locs1 ls hP1 hS1 hl)
theorem wp_iaload {i : Nat} {x : Int32} (hdg : decode M.2.1 pc = .ok (.iaload, 1)) (hi : Is n i 20) (hx : vp_in x (ax_s i).2) (kk : Wp l g M f k n0 nE n (pc + 1) lv (.int (h.1 i x.toNatClampNeg) :: st) h F) : Wp l g M f k n0 nE n pc lv (.int x :: .ref i :: st) h F :=
  fun p e s m args below meth c C H locs ls hP hS hl => va_iald C.1 C.2.1 C.2.2.2.2.2.2.2.2.1.1 hP (i - 1) 0 (by rw [hi.get (by omega), ax_e_20 hi.2]) rfl hx hdg (kk p e s m args below meth c C H locs ls hP hS hl)
theorem wp_laload {i : Nat} {x : Int32} (hdg : decode M.2.1 pc = .ok (.laload, 1)) (hi : Is n i 21) (hx : vp_in x (ax_s i).2) (kk : Wp l g M f k n0 nE n (pc + 1) lv (.long (h.2.1 i x.toNatClampNeg) :: st) h F) : Wp l g M f k n0 nE n pc lv (.int x :: .ref i :: st) h F :=
  fun p e s m args below meth c C H locs ls hP hS hl => va_lald C.1 C.2.1 C.2.2.2.2.2.2.2.2.1.1 hP (i - 1) 1 (by rw [hi.get (by omega), ax_e_21 hi.2]) rfl hx hdg (kk p e s m args below meth c C H locs ls hP hS hl)
theorem wp_baload {i : Nat} {x : Int32} (hdg : decode M.2.1 pc = .ok (.baload, 1)) (hi : Is n i 22) (hx : vp_in x (ax_s i).2) (kk : Wp l g M f k n0 nE n (pc + 1) lv (.int (h.1 i x.toNatClampNeg) :: st) h F) : Wp l g M f k n0 nE n pc lv (.int x :: .ref i :: st) h F :=
  fun p e s m args below meth c C H locs ls hP hS hl => va_bald C.1 C.2.1 C.2.2.2.2.2.2.2.2.1.1 hP (i - 1) 2 (by rw [hi.get (by omega), ax_e_22 hi.2]) rfl hx hdg (kk p e s m args below meth c C H locs ls hP hS hl)
theorem wp_zaload {i : Nat} {x : Int32} (hdg : decode M.2.1 pc = .ok (.baload, 1)) (hi : Is n i 23) (hx : vp_in x (ax_s i).2) (kk : Wp l g M f k n0 nE n (pc + 1) lv (.int (h.1 i x.toNatClampNeg) :: st) h F) : Wp l g M f k n0 nE n pc lv (.int x :: .ref i :: st) h F :=
  fun p e s m args below meth c C H locs ls hP hS hl => va_zald C.1 C.2.1 C.2.2.2.2.2.2.2.2.1.1 hP (i - 1) 3 (by rw [hi.get (by omega), ax_e_23 hi.2]) rfl hx hdg (kk p e s m args below meth c C H locs ls hP hS hl)
theorem wp_aaload24 {i : Nat} {x : Int32} (hdg : decode M.2.1 pc = .ok (.aaload, 1)) (hi : Is n i 24) (hx : vp_in x (ax_s i).2) (hr : h.2.2 i x.toNatClampNeg ≠ 0) (kk : Wp l g M f k n0 nE n (pc + 1) lv (.ref (h.2.2 i x.toNatClampNeg) :: st) h F) : Wp l g M f k n0 nE n pc lv (.int x :: .ref i :: st) h F :=
  fun p e s m args below meth c C H locs ls hP hS hl => va_aldq C.1 C.2.1 C.2.2.2.2.2.2.2.2.1.1 hP (i - 1) 4 (by rw [hi.get (by omega), ax_e_24 hi.2]) rfl hx hdg (by rw [show va_rf (ax_ro g (h.2.2 i x.toNatClampNeg)) = .ref (ax_a g (h.2.2 i x.toNatClampNeg)) from by simp [ax_ro, hr, va_rf]]; exact kk p e s m args below meth c C H locs ls hP hS hl)
theorem wp_aaload25 {i : Nat} {x : Int32} (hdg : decode M.2.1 pc = .ok (.aaload, 1)) (hi : Is n i 25) (hx : vp_in x (ax_s i).2) (hr : h.2.2 i x.toNatClampNeg ≠ 0) (kk : Wp l g M f k n0 nE n (pc + 1) lv (.ref (h.2.2 i x.toNatClampNeg) :: st) h F) : Wp l g M f k n0 nE n pc lv (.int x :: .ref i :: st) h F :=
  fun p e s m args below meth c C H locs ls hP hS hl => va_aldq C.1 C.2.1 C.2.2.2.2.2.2.2.2.1.1 hP (i - 1) 5 (by rw [hi.get (by omega), ax_e_25 hi.2]) rfl hx hdg (by rw [show va_rf (ax_ro g (h.2.2 i x.toNatClampNeg)) = .ref (ax_a g (h.2.2 i x.toNatClampNeg)) from by simp [ax_ro, hr, va_rf]]; exact kk p e s m args below meth c C H locs ls hP hS hl)
theorem wp_iastore {i : Nat} {x : Int32} {v : Int32} (hdg : decode M.2.1 pc = .ok (.iastore, 1)) (hi : Is n i 20) (hx : vp_in x (ax_s i).2) (kk : Wp l g M f k n0 nE n (pc + 1) lv st (ax_setI h i x.toNatClampNeg v) F) : Wp l g M f k n0 nE n pc lv (.int v :: .int x :: .ref i :: st) h F :=
  fun p e s m args below meth c C H locs ls hP hS hl => va_iast C.1 C.2.1 C.2.2.2.2.2.2.2.2.1.1 hP ax_w_D hS (i - 1) 0 (by rw [hi.get (by omega), ax_e_20 hi.2]) rfl hx hdg (fun H1 locs1 hP1 _ hS1 => kk p e s m args below meth c C H1 locs1 ls (by
    rw [ax_w_set (h2 := ax_setI h i x.toNatClampNeg v) hi (by omega) (by rw [ax_e_20 hi.2, ax_setI_at]) (ax_setI_o _ _ _)] at hP1
    exact hP1) hS1 hl)
theorem wp_lastore {i : Nat} {x : Int32} {v : Int64} (hdg : decode M.2.1 pc = .ok (.lastore, 1)) (hi : Is n i 21) (hx : vp_in x (ax_s i).2) (kk : Wp l g M f k n0 nE n (pc + 1) lv st (ax_setL h i x.toNatClampNeg v) F) : Wp l g M f k n0 nE n pc lv (.long v :: .int x :: .ref i :: st) h F :=
  fun p e s m args below meth c C H locs ls hP hS hl => va_last C.1 C.2.1 C.2.2.2.2.2.2.2.2.1.1 hP ax_w_D hS (i - 1) 1 (by rw [hi.get (by omega), ax_e_21 hi.2]) rfl hx hdg (fun H1 locs1 hP1 _ hS1 => kk p e s m args below meth c C H1 locs1 ls (by
    rw [ax_w_set (h2 := ax_setL h i x.toNatClampNeg v) hi (by omega) (by rw [ax_e_21 hi.2, ax_setL_at]) (ax_setL_o _ _ _)] at hP1
    exact hP1) hS1 hl)
theorem wp_bastore {i : Nat} {x : Int32} {v : Int32} (hdg : decode M.2.1 pc = .ok (.bastore, 1)) (hi : Is n i 22) (hx : vp_in x (ax_s i).2) (kk : Wp l g M f k n0 nE n (pc + 1) lv st (ax_setI h i x.toNatClampNeg (vp_nar .byte v)) F) : Wp l g M f k n0 nE n pc lv (.int v :: .int x :: .ref i :: st) h F :=
  fun p e s m args below meth c C H locs ls hP hS hl => va_bast C.1 C.2.1 C.2.2.2.2.2.2.2.2.1.1 hP ax_w_D hS (i - 1) 2 (by rw [hi.get (by omega), ax_e_22 hi.2]) rfl hx hdg (fun H1 locs1 hP1 _ hS1 => kk p e s m args below meth c C H1 locs1 ls (by
    rw [ax_w_set (h2 := ax_setI h i x.toNatClampNeg (vp_nar .byte v)) hi (by omega) (by rw [ax_e_22 hi.2, ax_setI_at]) (ax_setI_o _ _ _)] at hP1
    exact hP1) hS1 hl)
theorem wp_zastore {i : Nat} {x : Int32} {v : Int32} (hdg : decode M.2.1 pc = .ok (.bastore, 1)) (hi : Is n i 23) (hx : vp_in x (ax_s i).2) (kk : Wp l g M f k n0 nE n (pc + 1) lv st (ax_setI h i x.toNatClampNeg (vp_nar .boolean v)) F) : Wp l g M f k n0 nE n pc lv (.int v :: .int x :: .ref i :: st) h F :=
  fun p e s m args below meth c C H locs ls hP hS hl => va_zast C.1 C.2.1 C.2.2.2.2.2.2.2.2.1.1 hP ax_w_D hS (i - 1) 3 (by rw [hi.get (by omega), ax_e_23 hi.2]) rfl hx hdg (fun H1 locs1 hP1 _ hS1 => kk p e s m args below meth c C H1 locs1 ls (by
    rw [ax_w_set (h2 := ax_setI h i x.toNatClampNeg (vp_nar .boolean v)) hi (by omega) (by rw [ax_e_23 hi.2, ax_setI_at]) (ax_setI_o _ _ _)] at hP1
    exact hP1) hS1 hl)
theorem wp_aastore24 {i v : Nat} {x : Int32} (hdg : decode M.2.1 pc = .ok (.aastore, 1)) (hi : Is n i 24) (hv : Is n v 0) (hx : vp_in x (ax_s i).2) (kk : Wp l g M f k n0 nE n (pc + 1) lv st (ax_setR h i x.toNatClampNeg v) F) : Wp l g M f k n0 nE n pc lv (.ref v :: .int x :: .ref i :: st) h F :=
  fun p e s m args below meth c C H locs ls hP hS hl => va_astq (r := (RX0, TX0, 19)) C.1 C.2.1 C.2.2.2.2.2.2.2.2.1.1 hP ax_w_D hS (i - 1) 4 (v - 1) 0 (by rw [hi.get (by omega), ax_e_24 hi.2]) rfl (by rw [hv.get (by omega), ax_e_obj hv.2 (by omega)]) rfl hx hdg (fun H1 locs1 hP1 _ hS1 => kk p e s m args below meth c C H1 locs1 ls (by
    rw [ax_w_set (h2 := ax_setR h i x.toNatClampNeg v) hi (by omega) (by
      rw [ax_e_24 hi.2, ax_setR_at]
      congr 7
      funext q
      have hv0 := (hv.rng (by omega)).1
      by_cases e : q = x.toNatClampNeg <;> simp [va_up, e, ax_ro]
      omega) (ax_setR_o _ _ _)] at hP1
    exact hP1) hS1 hl)
theorem wp_aastore25 {i v : Nat} {x : Int32} (hdg : decode M.2.1 pc = .ok (.aastore, 1)) (hi : Is n i 25) (hv : Is n v 9) (hx : vp_in x (ax_s i).2) (kk : Wp l g M f k n0 nE n (pc + 1) lv st (ax_setR h i x.toNatClampNeg v) F) : Wp l g M f k n0 nE n pc lv (.ref v :: .int x :: .ref i :: st) h F :=
  fun p e s m args below meth c C H locs ls hP hS hl => va_astq (r := (RX10, TX10, 22)) C.1 C.2.1 C.2.2.2.2.2.2.2.2.1.1 hP ax_w_D hS (i - 1) 5 (v - 1) 9 (by rw [hi.get (by omega), ax_e_25 hi.2]) rfl (by rw [hv.get (by omega), ax_e_obj hv.2 (by omega)]) rfl hx hdg (fun H1 locs1 hP1 _ hS1 => kk p e s m args below meth c C H1 locs1 ls (by
    rw [ax_w_set (h2 := ax_setR h i x.toNatClampNeg v) hi (by omega) (by
      rw [ax_e_25 hi.2, ax_setR_at]
      congr 7
      funext q
      have hv0 := (hv.rng (by omega)).1
      by_cases e : q = x.toNatClampNeg <;> simp [va_up, e, ax_ro]
      omega) (ax_setR_o _ _ _)] at hP1
    exact hP1) hS1 hl)
theorem wp_alen {i ty : Nat} {v : Int32} (hdg : decode M.2.1 pc = .ok (.arraylength, 1)) (hi : Is n i ty) (hty : 20 ≤ ty ∧ ty < 24) (hv : Int32.ofNat (ax_s i).2 = v) (kk : Wp l g M f k n0 nE n (pc + 1) lv (.int v :: st) h F) : Wp l g M f k n0 nE n pc lv (.ref i :: st) h F := by
  intro p e s m args below meth c C H locs ls hP hS hl
  rcases (show ty = 20 ∨ ty = 21 ∨ ty = 22 ∨ ty = 23 by omega) with rfl | rfl | rfl | rfl
  · exact va_alen (ty := .int) C.1 C.2.1 C.2.2.2.2.2.2.2.2.1.1 hP (i - 1) 0 (by rw [hi.get (by omega), ax_e_20 hi.2]) rfl hv hdg (kk p e s m args below meth c C H locs ls hP hS hl)
  · exact va_alen (ty := .long) C.1 C.2.1 C.2.2.2.2.2.2.2.2.1.1 hP (i - 1) 1 (by rw [hi.get (by omega), ax_e_21 hi.2]) rfl hv hdg (kk p e s m args below meth c C H locs ls hP hS hl)
  · exact va_alen (ty := .byte) C.1 C.2.1 C.2.2.2.2.2.2.2.2.1.1 hP (i - 1) 2 (by rw [hi.get (by omega), ax_e_22 hi.2]) rfl hv hdg (kk p e s m args below meth c C H locs ls hP hS hl)
  · exact va_alen (ty := .boolean) C.1 C.2.1 C.2.2.2.2.2.2.2.2.1.1 hP (i - 1) 3 (by rw [hi.get (by omega), ax_e_23 hi.2]) rfl hv hdg (kk p e s m args below meth c C H locs ls hP hS hl)
end AXF
