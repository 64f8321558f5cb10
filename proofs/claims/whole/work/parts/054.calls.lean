theorem ax_cats (g : AG) (st : List Value) : ((st.map (ax_v g)).map (fun v => v.category)).sum = (st.map (fun v => v.category)).sum := by
  rw [List.map_map]
  congr 2
  funext v
  exact ax_v_cat g v
theorem ax_z_mono {a b : Nat} (h : a ≤ b) : ax_z a ≤ ax_z b := by
  unfold ax_z
  have e : ax_sh.take (b + 1) = ax_sh.take (a + 1) ++ (ax_sh.drop (a + 1)).take (b - a) := by
    rw [show b + 1 = (a + 1) + (b - a) by omega, List.take_add]
  rw [e, List.map_append, List.sum_append]
  omega
theorem ax_G_good : GoodIn ax_G ax_G := fun w h => ⟨h, good_of_word (List.mem_filter.mp h).2⟩
theorem ax_ws_good {M : AM} (h : Cond.code M.1 M.2.1 M.2.2.1 M.2.2.2 ∈ ax_G) : GoodIn ax_G (ax_ws M) := fun w hw => by
  rcases List.mem_cons.mp hw with e | e
  · rw [e]; exact ax_G_good _ h
  · exact ax_G_good _ e
/-- what every call of M needs: its code, its class ready, np arguments -/
def ax_CB (M : AM) (np : Nat) : Prop := Cond.code M.1 M.2.1 M.2.2.1 M.2.2.2 ∈ ax_G ∧ Cond.initialized M.1.cls ∈ ax_G ∧ M.1.cls ≠ "java/lang/invoke/MethodHandle" ∧ M.1.cls ≠ "java/lang/invoke/VarHandle" ∧ (parseMethodDescriptor M.1.desc).map (fun d => d.parameters.length) = some np
theorem ax_blind (g : AG) (n0 : Nat) (h : AH) (as : List Value) : FrameBlind (ax_P g n0 h as) := fun a U gf mk q => ⟨q.1, q.2.1.calling gf mk a, q.2.2.1, q.2.2.2⟩
section AXK
variable {l : Launch} {g : AG} {M : AM} {f k n0 nE n pc : Nat} {lv : List (Nat × Value)} {st : List Value} {h : AH} {F : AF}
theorem ax_size {p : Program} {e : Env} {s : State} {m : MethodId} {args : Array Value} {below : List Frame} {meth : Method} {c : Code} {T : State} {H : Heap} {locs : List Loc} {R : Room} {slots : Nat} (C : ax_C g M n0 p s m args meth c) (hn : n0 ≤ n) (hT : T.heap = H) (X : Stand p l e R s m args below meth c T locs (n - n0) slots) (hP : va_P g.1 vwCl (ax_w g n h) H) (hS : va_S (ax_A g) s.heap H locs) :
    g.2.2.1 + n < H.size ∧ (n < ax_N → H.size = g.2.2.1 + n + 1) := by
  have h1 : g.2.2.1 + n < H.size := by
    rcases Nat.eq_zero_or_pos n with h0 | h0
    · have q1 := C.2.2.2.2.2.2.2.2.2.1
      have q2 := hS.1
      omega
    · have q1 := (hP (n - 1) _ (ax_w_get (show n - 1 < n by omega))).lt
      have q2 : g.2.2.1 + (n - 1 + 1) < H.size := q1
      omega
  refine ⟨h1, fun hN => ?_⟩
  have q1 := C.2.2.2.2.2.2.2.2.2.2.1 (by omega)
  have q2 : (T.setVm s.vm).heap.size ≤ s.heap.size + (n - n0) := X.same.2.2.1
  have q3 : (T.setVm s.vm).heap = T.heap := rfl
  rw [q3, hT] at q2
  omega
theorem ax_call {p : Program} {e : Env} {s : State} {m : MethodId} {args : Array Value} {below : List Frame} {meth : Method} {c : Code} {H : Heap} {locs : List Loc} {R : Room} {cells slots mc ms n1 : Nat} {Q : State → Prop} {ls : Array Slot} {st0 rest : List Value} {a : Array Value} {Q1 : Option Value → AH → Prop}
    (hr : va_Run p l e R s m args below meth c H locs cells slots mc ms (F0 m pc ls st0) rest (ax_Q g n1 Q1 a) (ax_A g)) (hS : va_S (ax_A g) s.heap H locs)
    (kk : ∀ (r : Option Value) (h1 : AH) (H1 : Heap) (locs1 : List Loc), Q1 r h1 → va_P g.1 vwCl (ax_w g n1 h1) H1 → va_S (ax_A g) s.heap H1 locs1 → W p l e R s m args below meth c H1 locs1 (cells + mc) (slots + ms) Q (F0 m (pc + 3) ls ((r.map (ax_v g)).toList ++ rest))) : W p l e R s m args below meth c H locs cells slots Q (F0 m pc ls st0) := by
  intro T hT X
  obtain ⟨v, st₀, t, T', L, h0, X', hL, e1, e2, ⟨r, h1, hv, hq, hP1, hz, hk⟩, st⟩ := hr T hT X
  cases hv
  rw [h0] at hz hk
  obtain ⟨t2, a1, b1⟩ := kk r h1 T'.heap (locs ++ L) hq (by rw [e1]; exact hP1)
    ⟨Nat.le_trans hS.1 (by rw [e1]; exact hz), fun q h1 h2 => by rw [e1, hk q (Nat.lt_of_lt_of_le h1 hS.1) h2]; exact hS.2.1 q h1 h2, fun q hq => by
      rcases List.mem_append.mp hq with h | h
      · exact hS.2.2 q h
      · exact hL q h⟩ T' rfl X'
  exact ⟨t2, st t2 a1, b1⟩
theorem ax_pre {M2 : AM} {p : Program} {e : Env} {s : State} {m : MethodId} {args : Array Value} {below : List Frame} {meth : Method} {c : Code} {T : State} {H : Heap} {locs : List Loc} {R : Room} {slots : Nat} {as : List Value} (C : ax_C g M n0 p s m args meth c) (hn : n0 ≤ n) (hT : T.heap = H) (X : Stand p l e R s m args below meth c T locs (n - n0) slots) (hP : va_P g.1 vwCl (ax_w g n h) H) (hS : va_S (ax_A g) s.heap H locs) :
    ∀ U : State, U.heap = H → s.WarmedH U.vm → ax_P g n h as (as.map (ax_v g)).toArray U := fun U hU hW => by
  have hz := ax_size C hn hT X hP hS
  exact ⟨rfl, C.2.2.2.2.2.2.2.2.1.on hW (fun a h1 h2 => by rw [hU]; exact hS.2.1 a h1 h2), by rw [hU]; exact hP, by rw [hU]; exact hz.1, by rw [hU]; exact hz.2⟩
theorem ax_cb {M2 : AM} {own : String} {np idx f2 k2 n1 : Nat} {p : Program} {s : State} {m : MethodId} {args : Array Value} {meth : Method} {c : Code} (C : ax_C g M n0 p s m args meth c) (cb : ax_CB M2 np) (hlk : (Cond.methodLink own idx M2.1).before args s = true) (hf : f2 + 1 ≤ f ∧ 8 + (M2.2.2.1 + 11) + k2 ≤ k) :
    CallB (ax_R f k n0 nE) s args own idx M2.1 M2.2.1 M2.2.2.1 M2.2.2.2 (ax_ws M2) (ax_R f2 k2 n n1) (n1 - n) (ax_z n1 - ax_z n) np :=
  callB_of np C.2.2.2.2.2.1 (ax_ws_good cb.1) rfl rfl rfl (C.2.2.2.2.2.1 _ cb.2.1) hlk ⟨cb.2.2.1, cb.2.2.2.1, cb.2.2.2.2⟩ hf
theorem ax_cn {M2 : AM} {own host : String} {np idx f2 k2 n1 : Nat} {p : Program} {s : State} {m : MethodId} {args : Array Value} {meth : Method} {c : Code} (C : ax_C g M n0 p s m args meth c) (cb : ax_CB M2 np) (hlk : Cond.methodLinkNest own idx M2.1 host ∈ ax_NW) (hf : f2 + 1 ≤ f ∧ 8 + (M2.2.2.1 + 11) + k2 ≤ k) :
    va_CN (ax_R f k n0 nE) s args own idx M2.1 host M2.2.1 M2.2.2.1 M2.2.2.2 (ax_ws M2) (ax_R f2 k2 n n1) (n1 - n) (ax_z n1 - ax_z n) np :=
  va_cnB np C.2.2.2.2.2.1 (ax_ws_good cb.1) rfl rfl rfl (C.2.2.2.2.2.2.2.2.1.2.1 _ hlk) (C.2.2.2.2.2.1 _ cb.2.1) ⟨cb.2.2.1, cb.2.2.2.1, cb.2.2.2.2⟩ hf
theorem ax_fit {n1 : Nat} (hnn : n0 ≤ n ∧ n ≤ n1 ∧ n1 ≤ nE) : n - n0 + (n1 - n) ≤ (ax_R f k n0 nE).cells ∧ ax_z n - ax_z n0 + (ax_z n1 - ax_z n) ≤ (ax_R f k n0 nE).slots := by
  have h1 := ax_z_mono hnn.1
  have h2 := ax_z_mono hnn.2.1
  have h3 := ax_z_mono hnn.2.2
  show n - n0 + (n1 - n) ≤ nE - n0 ∧ ax_z n - ax_z n0 + (ax_z n1 - ax_z n) ≤ ax_z nE - ax_z n0
  omega
theorem ax_sum {n1 : Nat} (hnn : n0 ≤ n ∧ n ≤ n1 ∧ n1 ≤ nE) : n - n0 + (n1 - n) = n1 - n0 ∧ ax_z n - ax_z n0 + (ax_z n1 - ax_z n) = ax_z n1 - ax_z n0 := by
  have h1 := ax_z_mono hnn.1
  have h2 := ax_z_mono hnn.2.1
  omega
theorem wp_callS {M2 : AM} {f2 k2 n1 idx np : Nat} {as : List Value} {Q : Option Value → AH → Prop} (hdg : decode M.2.1 pc = .ok (.invokestatic idx, 3)) (cb : ax_CB M2 np) (hlk : Cond.methodLink M.1.cls idx M2.1 ∈ ax_G) (hst : Cond.static M2.1 ∈ ax_G) (hn : as.length = np) (hcat : (st.map (fun v => v.category)).sum ≤ 8) (hf : f2 + 1 ≤ f ∧ 8 + (M2.2.2.1 + 11) + k2 ≤ k) (hnn : n0 ≤ n ∧ n ≤ n1 ∧ n1 ≤ nE) (ct : Ct l g M2 f2 k2 n n1 h as Q) (kk : ∀ (r : Option Value) (h1 : AH), Q r h1 → Wp l g M f k n0 nE n1 (pc + 3) lv (r.toList ++ st) h1 F) : Wp l g M f k n0 nE n pc lv (as.reverse ++ st) h F := by
  intro p e s m args below meth c C H locs ls hP hS hl T hT X
  have hcb := (⟨ax_cb (nE := nE) (f := f) (k := k) (n := n) (n1 := n1) C cb (C.2.2.2.2.2.1 _ hlk) hf, C.2.2.2.2.2.1 _ hst⟩ : _ ∧ _)
  have run := va_runS (e := e) (below := below) (meth := meth) (As := as.map (ax_v g)) (rest := st.map (ax_v g)) (Ts := ax_G) (own := M.1.cls) (nL := M.2.2.1) (g := F0 m pc ls ((as.reverse ++ st).map (ax_v g))) (locs := locs) (cells := n - n0) (slots := ax_z n - ax_z n0) ⟨C.1, C.2.1, C.2.2.2.1, C.2.2.2.2.1, C.2.2.2.2.2.1⟩ ct hcb ⟨ax_blind g n h as, ax_pre (M2 := M2) (as := as) C hnn.1 hT X hP hS⟩ rfl (by rw [List.length_map]; exact hn) hl.1 (by show List.map _ _ = _; rw [List.map_append, List.map_reverse]; try rfl) (by show 2 * 0 + _ ≤ 8; rw [ax_cats]; omega) hdg (ax_fit hnn)
  refine ax_call run hS (fun r h1 H1 locs1 hq hP1 hS1 => ?_) T hT X
  have K := kk r h1 hq p e s m args below meth c C H1 locs1 ls hP1 hS1 hl
  rw [(ax_sum hnn).1, (ax_sum hnn).2]
  have e0 : ((r.map (ax_v g)).toList ++ st.map (ax_v g)) = (r.toList ++ st).map (ax_v g) := by cases r <;> simp
  rw [e0]
  exact K
theorem wp_callSN {M2 : AM} {f2 k2 n1 idx np : Nat} {as : List Value} {Q : Option Value → AH → Prop} (hdg : decode M.2.1 pc = .ok (.invokestatic idx, 3)) (cb : ax_CB M2 np) {host : String} (hlk : Cond.methodLinkNest M.1.cls idx M2.1 host ∈ ax_NW) (hst : Cond.static M2.1 ∈ ax_G) (hn : as.length = np) (hcat : (st.map (fun v => v.category)).sum ≤ 8) (hf : f2 + 1 ≤ f ∧ 8 + (M2.2.2.1 + 11) + k2 ≤ k) (hnn : n0 ≤ n ∧ n ≤ n1 ∧ n1 ≤ nE) (ct : Ct l g M2 f2 k2 n n1 h as Q) (kk : ∀ (r : Option Value) (h1 : AH), Q r h1 → Wp l g M f k n0 nE n1 (pc + 3) lv (r.toList ++ st) h1 F) : Wp l g M f k n0 nE n pc lv (as.reverse ++ st) h F := by
  intro p e s m args below meth c C H locs ls hP hS hl T hT X
  have hcb := (⟨ax_cn (nE := nE) (f := f) (k := k) (n := n) (n1 := n1) C cb hlk hf, C.2.2.2.2.2.1 _ hst, trivial⟩ : _ ∧ _ ∧ True)
  have run := va_runSN (e := e) (below := below) (meth := meth) (As := as.map (ax_v g)) (rest := st.map (ax_v g)) (Ts := ax_G) (own := M.1.cls) (nL := M.2.2.1) (g := F0 m pc ls ((as.reverse ++ st).map (ax_v g))) (locs := locs) (cells := n - n0) (slots := ax_z n - ax_z n0) ⟨C.1, C.2.1, C.2.2.2.1, C.2.2.2.2.1, C.2.2.2.2.2.1⟩ ct hcb ⟨ax_blind g n h as, ax_pre (M2 := M2) (as := as) C hnn.1 hT X hP hS⟩ rfl (by rw [List.length_map]; exact hn) hl.1 (by show List.map _ _ = _; rw [List.map_append, List.map_reverse]; try rfl) (by show 2 * 0 + _ ≤ 8; rw [ax_cats]; omega) hdg (ax_fit hnn)
  refine ax_call run hS (fun r h1 H1 locs1 hq hP1 hS1 => ?_) T hT X
  have K := kk r h1 hq p e s m args below meth c C H1 locs1 ls hP1 hS1 hl
  rw [(ax_sum hnn).1, (ax_sum hnn).2]
  have e0 : ((r.map (ax_v g)).toList ++ st.map (ax_v g)) = (r.toList ++ st).map (ax_v g) := by cases r <;> simp
  rw [e0]
  exact K
theorem wp_callV {M2 : AM} {f2 k2 n1 idx np : Nat} {as : List Value} {Q : Option Value → AH → Prop} {i : Nat} {ci N : Nat} {TT : u_T} (hdg : decode M.2.1 pc = .ok (.invokevirtual idx, 3)) (cb : ax_CB M2 np) (hlk : Cond.methodLink M.1.cls idx M2.1 ∈ ax_G) (him : Cond.instanceMethod M2.1 ∈ ax_G) (hse : Cond.selects M2.1.cls M2.1 M2.1 ∈ ax_G) (hn : as.length = np) (hcat : (st.map (fun v => v.category)).sum ≤ 8) (hf : f2 + 1 ≤ f ∧ 8 + (M2.2.2.1 + 11) + k2 ≤ k) (hnn : n0 ≤ n ∧ n ≤ n1 ∧ n1 ≤ nE) (hi : Is n i ci) (hc : vwCl[ci]? = some (M2.1.cls, TT, N)) (h20 : ci < 20) (ct : Ct l g M2 f2 k2 n n1 h (.ref i :: as) Q) (kk : ∀ (r : Option Value) (h1 : AH), Q r h1 → Wp l g M f k n0 nE n1 (pc + 3) lv (r.toList ++ st) h1 F) : Wp l g M f k n0 nE n pc lv (as.reverse ++ .ref i :: st) h F := by
  intro p e s m args below meth c C H locs ls hP hS hl T hT X
  have hcb := (⟨ax_cb (nE := nE) (f := f) (k := k) (n := n) (n1 := n1) C cb (C.2.2.2.2.2.1 _ hlk) hf, C.2.2.2.2.2.1 _ him, C.2.2.2.2.2.1 _ hse⟩ : _ ∧ _ ∧ _)
  have run := va_runV (C := M2.1.cls) (e := e) (below := below) (meth := meth) (As := as.map (ax_v g)) (rest := st.map (ax_v g)) (Ts := ax_G) (own := M.1.cls) (nL := M.2.2.1) (g := F0 m pc ls ((as.reverse ++ .ref i :: st).map (ax_v g))) (b := ax_a g i) (locs := locs) (cells := n - n0) (slots := ax_z n - ax_z n0) ⟨C.1, C.2.1, C.2.2.2.1, C.2.2.2.2.1, C.2.2.2.2.2.1⟩ ct hcb ⟨ax_blind g n h (.ref i :: as), va_recv (q0 := i - 1) (ci := ci) (q := (M2.1.cls, TT, N)) C.2.2.2.2.2.2.2.2.1.1 hP hc (by rw [hi.get (by omega), ax_e_obj hi.2 h20]), ax_pre (M2 := M2) (as := .ref i :: as) C hnn.1 hT X hP hS⟩ rfl (by rw [List.length_map]; exact hn) hl.1 (by show List.map _ _ = _; rw [List.map_append, List.map_reverse]; try rfl) (by show 2 * 0 + _ ≤ 8; rw [ax_cats]; omega) hdg (ax_fit hnn)
  refine ax_call run hS (fun r h1 H1 locs1 hq hP1 hS1 => ?_) T hT X
  have K := kk r h1 hq p e s m args below meth c C H1 locs1 ls hP1 hS1 hl
  rw [(ax_sum hnn).1, (ax_sum hnn).2]
  have e0 : ((r.map (ax_v g)).toList ++ st.map (ax_v g)) = (r.toList ++ st).map (ax_v g) := by cases r <;> simp
  rw [e0]
  exact K
theorem wp_callVN {M2 : AM} {f2 k2 n1 idx np : Nat} {as : List Value} {Q : Option Value → AH → Prop} {i : Nat} {ci N : Nat} {TT : u_T} (hdg : decode M.2.1 pc = .ok (.invokevirtual idx, 3)) (cb : ax_CB M2 np) {host : String} (hlk : Cond.methodLinkNest M.1.cls idx M2.1 host ∈ ax_NW) (him : Cond.instanceMethod M2.1 ∈ ax_G) (hse : Cond.selects M2.1.cls M2.1 M2.1 ∈ ax_G) (hn : as.length = np) (hcat : (st.map (fun v => v.category)).sum ≤ 8) (hf : f2 + 1 ≤ f ∧ 8 + (M2.2.2.1 + 11) + k2 ≤ k) (hnn : n0 ≤ n ∧ n ≤ n1 ∧ n1 ≤ nE) (hi : Is n i ci) (hc : vwCl[ci]? = some (M2.1.cls, TT, N)) (h20 : ci < 20) (ct : Ct l g M2 f2 k2 n n1 h (.ref i :: as) Q) (kk : ∀ (r : Option Value) (h1 : AH), Q r h1 → Wp l g M f k n0 nE n1 (pc + 3) lv (r.toList ++ st) h1 F) : Wp l g M f k n0 nE n pc lv (as.reverse ++ .ref i :: st) h F := by
  intro p e s m args below meth c C H locs ls hP hS hl T hT X
  have hcb := (⟨ax_cn (nE := nE) (f := f) (k := k) (n := n) (n1 := n1) C cb hlk hf, C.2.2.2.2.2.1 _ him, C.2.2.2.2.2.1 _ hse⟩ : _ ∧ _ ∧ _)
  have run := va_runVN (C := M2.1.cls) (e := e) (below := below) (meth := meth) (As := as.map (ax_v g)) (rest := st.map (ax_v g)) (Ts := ax_G) (own := M.1.cls) (nL := M.2.2.1) (g := F0 m pc ls ((as.reverse ++ .ref i :: st).map (ax_v g))) (b := ax_a g i) (locs := locs) (cells := n - n0) (slots := ax_z n - ax_z n0) ⟨C.1, C.2.1, C.2.2.2.1, C.2.2.2.2.1, C.2.2.2.2.2.1⟩ ct hcb ⟨ax_blind g n h (.ref i :: as), va_recv (q0 := i - 1) (ci := ci) (q := (M2.1.cls, TT, N)) C.2.2.2.2.2.2.2.2.1.1 hP hc (by rw [hi.get (by omega), ax_e_obj hi.2 h20]), ax_pre (M2 := M2) (as := .ref i :: as) C hnn.1 hT X hP hS⟩ rfl (by rw [List.length_map]; exact hn) hl.1 (by show List.map _ _ = _; rw [List.map_append, List.map_reverse]; try rfl) (by show 2 * 0 + _ ≤ 8; rw [ax_cats]; omega) hdg (ax_fit hnn)
  refine ax_call run hS (fun r h1 H1 locs1 hq hP1 hS1 => ?_) T hT X
  have K := kk r h1 hq p e s m args below meth c C H1 locs1 ls hP1 hS1 hl
  rw [(ax_sum hnn).1, (ax_sum hnn).2]
  have e0 : ((r.map (ax_v g)).toList ++ st.map (ax_v g)) = (r.toList ++ st).map (ax_v g) := by cases r <;> simp
  rw [e0]
  exact K
theorem wp_callVS {M2 : AM} {f2 k2 n1 idx np : Nat} {as : List Value} {Q : Option Value → AH → Prop} {i : Nat} (hdg : decode M.2.1 pc = .ok (.invokevirtual idx, 3)) (cb : ax_CB M2 np) (hlk : Cond.methodLink M.1.cls idx M2.1 ∈ ax_G) (him : Cond.instanceMethod M2.1 ∈ ax_G) (hse : Cond.selects M2.1.cls M2.1 M2.1 ∈ ax_G) (hn : as.length = np) (hcat : (st.map (fun v => v.category)).sum ≤ 8) (hf : f2 + 1 ≤ f ∧ 8 + (M2.2.2.1 + 11) + k2 ≤ k) (hnn : n0 ≤ n ∧ n ≤ n1 ∧ n1 ≤ nE) (hz : 1000 ≤ i ∧ i < 1014) (hcs : M2.1.cls = "java/lang/String") (ct : Ct l g M2 f2 k2 n n1 h (.ref i :: as) Q) (kk : ∀ (r : Option Value) (h1 : AH), Q r h1 → Wp l g M f k n0 nE n1 (pc + 3) lv (r.toList ++ st) h1 F) : Wp l g M f k n0 nE n pc lv (as.reverse ++ .ref i :: st) h F := by
  intro p e s m args below meth c C H locs ls hP hS hl T hT X
  have hcb := (⟨ax_cb (nE := nE) (f := f) (k := k) (n := n) (n1 := n1) C cb (C.2.2.2.2.2.1 _ hlk) hf, C.2.2.2.2.2.1 _ him, C.2.2.2.2.2.1 _ hse⟩ : _ ∧ _ ∧ _)
  have run := va_runV (C := M2.1.cls) (e := e) (below := below) (meth := meth) (As := as.map (ax_v g)) (rest := st.map (ax_v g)) (Ts := ax_G) (own := M.1.cls) (nL := M.2.2.1) (g := F0 m pc ls ((as.reverse ++ .ref i :: st).map (ax_v g))) (b := ax_a g i) (locs := locs) (cells := n - n0) (slots := ax_z n - ax_z n0) ⟨C.1, C.2.1, C.2.2.2.1, C.2.2.2.2.1, C.2.2.2.2.2.1⟩ ct hcb ⟨ax_blind g n h (.ref i :: as), by rw [hcs, show ax_a g i = g.2.2.2.1 (i - 1000) from by unfold ax_a; rw [if_neg (by omega), if_pos (by omega)]]; exact vk_recv C.2.2.2.2.2.2.2.2.1.2.2.1 (by omega) hS, ax_pre (M2 := M2) (as := .ref i :: as) C hnn.1 hT X hP hS⟩ rfl (by rw [List.length_map]; exact hn) hl.1 (by show List.map _ _ = _; rw [List.map_append, List.map_reverse]; try rfl) (by show 2 * 0 + _ ≤ 8; rw [ax_cats]; omega) hdg (ax_fit hnn)
  refine ax_call run hS (fun r h1 H1 locs1 hq hP1 hS1 => ?_) T hT X
  have K := kk r h1 hq p e s m args below meth c C H1 locs1 ls hP1 hS1 hl
  rw [(ax_sum hnn).1, (ax_sum hnn).2]
  have e0 : ((r.map (ax_v g)).toList ++ st.map (ax_v g)) = (r.toList ++ st).map (ax_v g) := by cases r <;> simp
  rw [e0]
  exact K
theorem wp_callI {M2 : AM} {f2 k2 n1 idx np : Nat} {as : List Value} {Q : Option Value → AH → Prop} {i : Nat} (hdg : decode M.2.1 pc = .ok (.invokespecial idx, 3)) (cb : ax_CB M2 np) (hlk : Cond.methodLink M.1.cls idx M2.1 ∈ ax_G) (hnm : M2.1.name = "<init>") (him : Cond.instanceMethod M2.1 ∈ ax_G) (hret : M2.2.2.2 = none) (hn : as.length = np) (hcat : (st.map (fun v => v.category)).sum ≤ 8) (hf : f2 + 1 ≤ f ∧ 8 + (M2.2.2.1 + 11) + k2 ≤ k) (hnn : n0 ≤ n ∧ n ≤ n1 ∧ n1 ≤ nE) (ct : Ct l g M2 f2 k2 n n1 h (.ref i :: as) Q) (kk : ∀ (r : Option Value) (h1 : AH), Q r h1 → Wp l g M f k n0 nE n1 (pc + 3) lv (r.toList ++ st) h1 F) : Wp l g M f k n0 nE n pc lv (as.reverse ++ .ref i :: st) h F := by
  intro p e s m args below meth c C H locs ls hP hS hl T hT X
  have hcb := (⟨by have z := ax_cb (nE := nE) (f := f) (k := k) (n := n) (n1 := n1) C cb (C.2.2.2.2.2.1 _ hlk) hf; rw [hret] at z; exact z, hnm, C.2.2.2.2.2.1 _ him⟩ : CallB (ax_R f k n0 nE) s args M.1.cls idx M2.1 M2.2.1 M2.2.2.1 none (ax_ws M2) (ax_R f2 k2 n n1) (n1 - n) (ax_z n1 - ax_z n) np ∧ _ ∧ _)
  have run := va_runI (e := e) (below := below) (meth := meth) (As := as.map (ax_v g)) (rest := st.map (ax_v g)) (Ts := ax_G) (own := M.1.cls) (nL := M.2.2.1) (g := F0 m pc ls ((as.reverse ++ .ref i :: st).map (ax_v g))) (b := ax_a g i) (locs := locs) (cells := n - n0) (slots := ax_z n - ax_z n0) ⟨C.1, C.2.1, C.2.2.2.1, C.2.2.2.2.1, C.2.2.2.2.2.1⟩ ct hcb ⟨ax_blind g n h (.ref i :: as), ax_pre (M2 := M2) (as := .ref i :: as) C hnn.1 hT X hP hS⟩ rfl (by rw [List.length_map]; exact hn) hl.1 (by show List.map _ _ = _; rw [List.map_append, List.map_reverse]; try rfl) (by show 2 * 0 + _ ≤ 8; rw [ax_cats]; omega) hdg (ax_fit hnn)
  refine ax_call run hS (fun r h1 H1 locs1 hq hP1 hS1 => ?_) T hT X
  have K := kk r h1 hq p e s m args below meth c C H1 locs1 ls hP1 hS1 hl
  rw [(ax_sum hnn).1, (ax_sum hnn).2]
  have e0 : ((r.map (ax_v g)).toList ++ st.map (ax_v g)) = (r.toList ++ st).map (ax_v g) := by cases r <;> simp
  rw [e0]
  exact K
theorem wp_callIN {M2 : AM} {f2 k2 n1 idx np : Nat} {as : List Value} {Q : Option Value → AH → Prop} {i : Nat} (hdg : decode M.2.1 pc = .ok (.invokespecial idx, 3)) (cb : ax_CB M2 np) {host : String} (hlk : Cond.methodLinkNest M.1.cls idx M2.1 host ∈ ax_NW) (hnm : M2.1.name = "<init>") (him : Cond.instanceMethod M2.1 ∈ ax_G) (hret : M2.2.2.2 = none) (hn : as.length = np) (hcat : (st.map (fun v => v.category)).sum ≤ 8) (hf : f2 + 1 ≤ f ∧ 8 + (M2.2.2.1 + 11) + k2 ≤ k) (hnn : n0 ≤ n ∧ n ≤ n1 ∧ n1 ≤ nE) (ct : Ct l g M2 f2 k2 n n1 h (.ref i :: as) Q) (kk : ∀ (r : Option Value) (h1 : AH), Q r h1 → Wp l g M f k n0 nE n1 (pc + 3) lv (r.toList ++ st) h1 F) : Wp l g M f k n0 nE n pc lv (as.reverse ++ .ref i :: st) h F := by
  intro p e s m args below meth c C H locs ls hP hS hl T hT X
  have hcb := (⟨by have z := ax_cn (nE := nE) (f := f) (k := k) (n := n) (n1 := n1) C cb hlk hf; rw [hret] at z; exact z, hnm, C.2.2.2.2.2.1 _ him⟩ : va_CN (ax_R f k n0 nE) s args M.1.cls idx M2.1 host M2.2.1 M2.2.2.1 none (ax_ws M2) (ax_R f2 k2 n n1) (n1 - n) (ax_z n1 - ax_z n) np ∧ _ ∧ _)
  have run := va_runIN (e := e) (below := below) (meth := meth) (As := as.map (ax_v g)) (rest := st.map (ax_v g)) (Ts := ax_G) (own := M.1.cls) (nL := M.2.2.1) (g := F0 m pc ls ((as.reverse ++ .ref i :: st).map (ax_v g))) (b := ax_a g i) (locs := locs) (cells := n - n0) (slots := ax_z n - ax_z n0) ⟨C.1, C.2.1, C.2.2.2.1, C.2.2.2.2.1, C.2.2.2.2.2.1⟩ ct hcb ⟨ax_blind g n h (.ref i :: as), ax_pre (M2 := M2) (as := .ref i :: as) C hnn.1 hT X hP hS⟩ rfl (by rw [List.length_map]; exact hn) hl.1 (by show List.map _ _ = _; rw [List.map_append, List.map_reverse]; try rfl) (by show 2 * 0 + _ ≤ 8; rw [ax_cats]; omega) hdg (ax_fit hnn)
  refine ax_call run hS (fun r h1 H1 locs1 hq hP1 hS1 => ?_) T hT X
  have K := kk r h1 hq p e s m args below meth c C H1 locs1 ls hP1 hS1 hl
  rw [(ax_sum hnn).1, (ax_sum hnn).2]
  have e0 : ((r.map (ax_v g)).toList ++ st.map (ax_v g)) = (r.toList ++ st).map (ax_v g) := by cases r <;> simp
  rw [e0]
  exact K
end AXK
