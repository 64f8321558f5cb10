/-- the one cell that is thrown -/
def ax_st : Nat := 128
def ax_X (g : AG) (n1 : Nat) (X : AH → Prop) : String → Addr → State → State → Prop := fun E q s t => E = RX11 ∧ q = ax_a g ax_st ∧ ∃ h : AH, X h ∧ va_P g.1 vwCl (ax_w g n1 h) t.heap ∧ va_F (ax_A g) s t
/-- the end of a method that returns or throws -/
def FX (g : AG) (n0 nE : Nat) (Q : Option Value → AH → Prop) (X : AH → Prop) : AF := fun below args s => vy_MQ below (ax_Q g nE Q) (ax_X g nE X) args s (nE - n0) (ax_z nE - ax_z n0) (ax_A g)
def Cx (l : Launch) (g : AG) (M : AM) (f k n0 nE : Nat) (h : AH) (as : List Value) (Q : Option Value → AH → Prop) (X : AH → Prop) : Prop :=
  vy_Met l M.1 (ax_ws M) (ax_R f k n0 nE) (ax_P g n0 h as) (ax_Q g nE Q) (ax_X g nE X) (nE - n0) (ax_z nE - ax_z n0) (ax_A g)
section AXX
variable {l : Launch} {g : AG} {M : AM} {f k n0 nE n pc : Nat} {lv : List (Nat × Value)} {st : List Value} {h : AH} {F : AF} {Q : Option Value → AH → Prop} {X : AH → Prop}
theorem wx_of (hw : Wp l g M f k n0 nE n pc lv st h (FM g n0 nE Q)) : Wp l g M f k n0 nE n pc lv st h (FX g n0 nE Q X) :=
  fun p e s m args below meth c C H locs ls hP hS hl => vy_ret (hw p e s m args below meth c C H locs ls hP hS hl)
theorem ax_metx {as : List Value} (hy : plainName M.1.cls = true) (hhh : ax_hh M.1 = some []) (hlen : (lg_sl as).length ≤ M.2.2.1)
    (hw : Wp l g M f k n0 nE n0 0 (lv_args 0 as) [] h (FX g n0 nE Q X)) : Cx l g M f k n0 nE h as Q X := by
  refine vy_ofW (cc := M.2.1) (maxL := M.2.2.1) (ret := M.2.2.2) hy rfl ?_
  intro p e s m args below meth c s₁ B hml ht hv
  obtain ⟨rfl, hE, hP, hz1, hz2⟩ := hv
  have hts := atoms_spec (ws := ax_ws M) B.pre
  have hl := lv_entry (as.map (ax_v g)) (n := M.2.2.1) (by rw [ax_sl_len]; exact hlen)
  rw [ax_args] at hl
  rw [lg_entry_eq]
  have K := hw p e s m _ below meth c ⟨B.exec, B.bytes, B.returns, hml, findClass_of_methodNamed B.named, fun w hw => hts w (List.mem_cons_of_mem _ hw), B.notSynchronized, (name_of_methodNamed B.named B.method).1, hE, hz1, hz2, fun hh h => by
    rw [hhh] at h
    cases h
    show _ = []
    cases hc : c.exceptionTable.toList with
    | nil => rfl
    | cons a b => exact absurd (ht a (by rw [hc]; exact List.mem_cons_self)) id⟩ s.heap [] _ hP va_S.rf hl
  rw [Nat.sub_self, Nat.sub_self] at K
  exact K
theorem ax_stop {H : Heap} {U : State} (hi : Is n ax_st 10) (hP : va_P g.1 vwCl (ax_w g n h) H) (hK : va_K g.1 vwCl (ax_ty g) U) : ∃ ce : Cell, H[ax_a g ax_st]? = some ce ∧ ce.vm = .none ∧ U.vm.findClass RX11 = some ce.cls := by
  have he := hi.get (g := g) (h := h) (by omega)
  rw [ax_e_obj hi.2 (by omega)] at he
  obtain ⟨q', h1, cell, g1, g2, g3, -⟩ := hP _ _ he
  exact ⟨cell, g1, g3, by rw [g2]; exact (hK.1 10 _ rfl).2.1⟩
theorem wx_throw {r : Nat} (hhh : ax_hh M.1 = some []) (hdg : decode M.2.1 pc = .ok (.athrow, 1)) (hr : r = ax_st) (hn : ax_st ≤ n) (hx : X h) : Wp l g M f k n0 n n pc lv (.ref r :: st) h (FX g n0 n Q X) := by
  intro p e s m args below meth c C H locs ls hP hS hl T hT X1
  subst hr
  obtain ⟨ce, h1, h2, h3⟩ := ax_stop (h := h) ⟨hn, rfl⟩ hP C.2.2.2.2.2.2.2.2.1.1
  have ht := C.2.2.2.2.2.2.2.2.2.2.2 [] hhh
  obtain ⟨st1, hrun, hend, hW, hsm⟩ := X1.athrowLeaves C.1 (g := F0 m pc ls (.ref (ax_a g ax_st) :: st.map (ax_v g))) rfl rfl rfl (fun x hx => by rw [ht] at hx; cases hx) rfl (by rw [C.2.1]; exact hdg) C.2.2.2.2.2.2.1
  exact ⟨_, st1, .threw (ax_a g ax_st), hrun, hend, Or.inr ⟨ax_a g ax_st, rfl, RX11, ce, locs, ⟨rfl, rfl, h, hx, by show va_P _ _ _ T.heap; rw [hT]; exact hP, hS.F hT⟩, by show T.heap[_]? = _; rw [hT]; exact h1, h2, h3, hW, hsm, hS.2.2⟩⟩
theorem wx_callV {M2 : AM} {f2 k2 idx np i ci N : Nat} {TT : u_T} {as : List Value} {Q1 : Option Value → AH → Prop} {X1 : AH → Prop} (hdg : decode M.2.1 pc = .ok (.invokevirtual idx, 3)) (cb : ax_CB M2 np) (hlk : Cond.methodLink M.1.cls idx M2.1 ∈ ax_G) (him : Cond.instanceMethod M2.1 ∈ ax_G) (hse : Cond.selects M2.1.cls M2.1 M2.1 ∈ ax_G) (hn : as.length = np) (hcat : (st.map (fun v => v.category)).sum ≤ 8) (hf : f2 + 1 ≤ f ∧ 8 + (M2.2.2.1 + 11) + k2 ≤ k) (hn0 : n0 ≤ n) (hi : Is n i ci) (hc : vwCl[ci]? = some (M2.1.cls, TT, N)) (h20 : ci < 20) (hst : ax_st ≤ n) (hhh : ax_hh M.1 = some [])
    (ct : Cx l g M2 f2 k2 n n h (.ref i :: as) Q1 X1) (kk : ∀ (r : Option Value) (h1 : AH), Q1 r h1 → Wp l g M f k n0 n n (pc + 3) lv (r.toList ++ st) h1 (FX g n0 n Q X)) (kx : ∀ h1 : AH, X1 h1 → X h1) : Wp l g M f k n0 n n pc lv (as.reverse ++ .ref i :: st) h (FX g n0 n Q X) := by
  intro p e s m args below meth c C H locs ls hP hS hl T hT X0
  have hnn : n0 ≤ n ∧ n ≤ n ∧ n ≤ n := ⟨hn0, Nat.le_refl _, Nat.le_refl _⟩
  have hcb := (⟨ax_cb (nE := n) (f := f) (k := k) (n := n) (n1 := n) C cb (C.2.2.2.2.2.1 _ hlk) hf, C.2.2.2.2.2.1 _ him, C.2.2.2.2.2.1 _ hse⟩ : _ ∧ _ ∧ _)
  have run := vy_runV (C := M2.1.cls) (e := e) (below := below) (meth := meth) (As := as.map (ax_v g)) (rest := st.map (ax_v g)) (Ts := ax_G) (own := M.1.cls) (nL := M.2.2.1) (g := F0 m pc ls ((as.reverse ++ .ref i :: st).map (ax_v g))) (b := ax_a g i) (locs := locs) (cells := n - n0) (slots := ax_z n - ax_z n0) ⟨C.1, C.2.1, C.2.2.2.1, C.2.2.2.2.1, C.2.2.2.2.2.1⟩ ct hcb ⟨ax_blind g n h (.ref i :: as), va_recv (q0 := i - 1) (ci := ci) (q := (M2.1.cls, TT, N)) C.2.2.2.2.2.2.2.2.1.1 hP hc (by rw [hi.get (by omega), ax_e_obj hi.2 h20]), ax_pre (M2 := M2) (as := .ref i :: as) C hnn.1 hT X0 hP hS⟩ rfl (by rw [List.length_map]; exact hn) hl.1 (by show List.map _ _ = _; rw [List.map_append, List.map_reverse]; try rfl) (by show 2 * 0 + _ ≤ 8; rw [ax_cats]; omega) hdg (ax_fit hnn)
  rcases run T hT X0 with ⟨v, st₀, t, T', L, h0, X', hL, e1, e2, ⟨r, h1, hv, hq, hP1, hz, hk⟩, st2⟩ | ⟨q, st₀, t, T', L, E, ce, h0, X', hL, e1, e2, ⟨rfl, rfl, h1, hx, hP1, hz, hk⟩, hce, hcv, hcl, st2⟩
  · cases hv
    rw [h0] at hz hk
    have K := kk r h1 hq p e s m args below meth c C T'.heap (locs ++ L) ls (by rw [e1]; exact hP1) ⟨Nat.le_trans hS.1 (by rw [e1]; exact hz), fun q h1 h2 => by rw [e1, hk q (Nat.lt_of_lt_of_le h1 hS.1) h2]; exact hS.2.1 q h1 h2, fun q hq => by
      rcases List.mem_append.mp hq with h | h
      · exact hS.2.2 q h
      · exact hL q h⟩ hl
    rw [(ax_sum hnn).1, (ax_sum hnn).2] at X'
    obtain ⟨t2, a1, b1⟩ := K T' rfl X'
    refine ⟨t2, st2 t2 ?_, b1⟩
    have e0 : ((r.map (ax_v g)).toList ++ st.map (ax_v g)) = (r.toList ++ st).map (ax_v g) := by cases r <;> simp
    show Steps p.tables e below (T'.setTop (F0 m (pc + 3) ls ((r.map (ax_v g)).toList ++ st.map (ax_v g)))) t2
    rw [e0]
    exact a1
  · rw [h0] at hz hk
    have ht := C.2.2.2.2.2.2.2.2.2.2.2 [] hhh
    rw [(ax_sum hnn).1, (ax_sum hnn).2] at X'
    have hS1 : va_S (ax_A g) s.heap T'.heap (locs ++ L) := ⟨Nat.le_trans hS.1 (by rw [e1]; exact hz), fun q h1 h2 => by rw [e1, hk q (Nat.lt_of_lt_of_le h1 hS.1) h2]; exact hS.2.1 q h1 h2, fun q hq => by
      rcases List.mem_append.mp hq with h | h
      · exact hS.2.2 q h
      · exact hL q h⟩
    have K := vy_out (Qc := ax_Q g n Q) (XC := ax_X g n X) (free := ax_A g) (pc := pc) (ls := ls) (rest := st.map (ax_v g)) (mc := n - n0) (ms := ax_z n - ax_z n0) (q := ax_a g ax_st) (E := RX11) (p := p) (l := l) (e := e) (R := ax_R f k n0 n) (s := s) (m := m) (args := args) (below := below) (meth := meth) (c := c) (H := T'.heap) (locs := locs ++ L) (cells := n - n0) (slots := ax_z n - ax_z n0) (fun x hx => by rw [ht] at hx; cases hx) C.2.2.2.2.2.2.1 (by rw [e1]; exact hce) hcv hcl (fun t9 ht9 _ => ⟨rfl, rfl, h1, kx h1 hx, by rw [ht9, e1]; exact hP1, hS1.F ht9⟩) hS1.2.2 (Nat.le_refl _) (Nat.le_refl _)
    obtain ⟨t2, a1, b1⟩ := K T' rfl X'
    exact ⟨t2, st2.trans a1, b1⟩
end AXX
