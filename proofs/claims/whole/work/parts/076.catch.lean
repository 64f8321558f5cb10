theorem cl_app : Cond.classLink RX12 41 RX11 ∈ ax_G := tw_g (tw_c6 (List.mem_of_getElem? (i := 51) rfl)) rfl
theorem ca_stop : Cond.castable RX11 RX11 ∈ ax_NW := tw_n (tw_c6 (List.mem_of_getElem? (i := 53) rfl)) rfl
theorem cw_app : Cond.codeWith mX12_app.1 mX12_app.2.1 mX12_app.2.2.1 mX12_app.2.2.2 [(58, 62, 65, 41)] ∈ ax_G := tw_g (tw_c7 (List.mem_of_getElem? (i := 16) rfl)) rfl
def ax_wsh (M : AM) : List Cond := .codeWith M.1 M.2.1 M.2.2.1 M.2.2.2 ((ax_hh M.1).getD []) :: ax_G
/-- the contract of a method that has a handler and does not throw -/
def Ch (l : Launch) (g : AG) (M : AM) (f k n0 nE : Nat) (h : AH) (as : List Value) (Q : Option Value → AH → Prop) : Prop :=
  Met l M.1 (ax_wsh M) (ax_R f k n0 nE) (ax_P g n0 h as) (ax_Q g nE Q) (nE - n0) (ax_z nE - ax_z n0) (ax_A g)
section AXH
variable {l : Launch} {g : AG} {M : AM} {f k n0 nE n pc : Nat} {lv : List (Nat × Value)} {st : List Value} {h : AH} {F : AF} {Q : Option Value → AH → Prop} {X : AH → Prop}
theorem ax_meth {as : List Value} {hh : List (Nat × Nat × Nat × Nat)} (hy : plainName M.1.cls = true) (hhh : ax_hh M.1 = some hh) (hlen : (lg_sl as).length ≤ M.2.2.1)
    (hw : Wp l g M f k n0 nE n0 0 (lv_args 0 as) [] h (FM g n0 nE Q)) : Ch l g M f k n0 nE h as Q := by
  unfold Ch Met
  refine MetFree.of_bodyS (code := M.2.1) (maxLocals := M.2.2.1) (ret := M.2.2.2) hy ?_ ?_
  · intro args s m h hn
    obtain ⟨m9, meth, c, hn9, h1, h2, h3, h4, -, h5, h6, -⟩ := Cond.codeWith_spec (atoms_spec (ws := ax_wsh M) h _ List.mem_cons_self)
    cases hn.symm.trans hn9
    exact ⟨meth, c, h1, h2, h3, h4, h5, h6⟩
  · intro p e s m args below meth c s₁ B hml hv _
    have hh0 : s₁.heap = s.heap := by rw [B.state]; rfl
    obtain ⟨rfl, hE, hP, hz1, hz2⟩ := hv
    have hts := atoms_spec (ws := ax_wsh M) B.pre
    have htab := vx_table (x := M.1) B (hts _ List.mem_cons_self)
    have hl := lv_entry (as.map (ax_v g)) (n := M.2.2.1) (by rw [ax_sl_len]; exact hlen)
    rw [ax_args] at hl
    have K := hw p e s m _ below meth c ⟨B.exec, B.bytes, B.returns, hml, findClass_of_methodNamed B.named, fun w hw => hts w (List.mem_cons_of_mem _ hw), B.notSynchronized, (name_of_methodNamed B.named B.method).1, hE, hz1, hz2, fun hh2 h2 => by
      rw [h2] at htab
      exact htab⟩ s.heap [] _ hP va_S.rf hl
    rw [Nat.sub_self, Nat.sub_self] at K
    rw [lg_entry_eq]
    obtain ⟨t, a1, o, b1, b2, b3⟩ := K s₁ hh0 (Stand.of_body B)
    exact ⟨t, o, a1, b1, b2, ⟨b3.1, b3.2⟩⟩
theorem wx_callC {M2 : AM} {f2 k2 idx np i ci N hs he hpc : Nat} {TT : u_T} {as : List Value} {Q1 : Option Value → AH → Prop} {X1 : AH → Prop} (hdg : decode M.2.1 pc = .ok (.invokevirtual idx, 3)) (cb : ax_CB M2 np) (hlk : Cond.methodLink M.1.cls idx M2.1 ∈ ax_G) (him : Cond.instanceMethod M2.1 ∈ ax_G) (hse : Cond.selects M2.1.cls M2.1 M2.1 ∈ ax_G) (hn : as.length = np) (hcat : (st.map (fun v => v.category)).sum ≤ 8) (hf : f2 + 1 ≤ f ∧ 8 + (M2.2.2.1 + 11) + k2 ≤ k) (hn0 : n0 ≤ n) (hi : Is n i ci) (hc : vwCl[ci]? = some (M2.1.cls, TT, N)) (h20 : ci < 20) (hst : ax_st ≤ n) (hhh : ax_hh M.1 = some [(hs, he, hpc, 41)]) (hcov : covers (⟨hs, he, hpc, 41⟩ : ExceptionTableEntry) pc = true) (hcls : M.1.cls = RX12)
    (ct : Cx l g M2 f2 k2 n n h (.ref i :: as) Q1 X1) (kk : ∀ (r : Option Value) (h1 : AH), Q1 r h1 → Wp l g M f k n0 n n (pc + 3) lv (r.toList ++ st) h1 F) (kx : ∀ h1 : AH, X1 h1 → Wp l g M f k n0 n n hpc lv [.ref ax_st] h1 F) : Wp l g M f k n0 n n pc lv (as.reverse ++ .ref i :: st) h F := by
  intro p e s m args below meth c C H locs ls hP hS hl T hT X0
  have hnn : n0 ≤ n ∧ n ≤ n ∧ n ≤ n := ⟨hn0, Nat.le_refl _, Nat.le_refl _⟩
  have hcb := (⟨ax_cb (nE := n) (f := f) (k := k) (n := n) (n1 := n) C cb (C.2.2.2.2.2.1 _ hlk) hf, C.2.2.2.2.2.1 _ him, C.2.2.2.2.2.1 _ hse⟩ : _ ∧ _ ∧ _)
  have run := vy_runV (C := M2.1.cls) (e := e) (below := below) (meth := meth) (As := as.map (ax_v g)) (rest := st.map (ax_v g)) (Ts := ax_G) (own := M.1.cls) (nL := M.2.2.1) (g := F0 m pc ls ((as.reverse ++ .ref i :: st).map (ax_v g))) (b := ax_a g i) (locs := locs) (cells := n - n0) (slots := ax_z n - ax_z n0) ⟨C.1, C.2.1, C.2.2.2.1, C.2.2.2.2.1, C.2.2.2.2.2.1⟩ ct hcb ⟨ax_blind g n h (.ref i :: as), va_recv (q0 := i - 1) (ci := ci) (q := (M2.1.cls, TT, N)) C.2.2.2.2.2.2.2.2.1.1 hP hc (by rw [hi.get (by omega), ax_e_obj hi.2 h20]), ax_pre (M2 := M2) (as := .ref i :: as) C hnn.1 hT X0 hP hS⟩ rfl (by rw [List.length_map]; exact hn) hl.1 (by show List.map _ _ = _; rw [List.map_append, List.map_reverse]; try rfl) (by show 2 * 0 + _ ≤ 8; rw [ax_cats]; omega) hdg (ax_fit hnn)
  rcases run T hT X0 with ⟨v, st₀, t, T', L, h0, X', hL, e1, e2, ⟨r, h1, hv, hq, hP1, hz, hk⟩, st2⟩ | ⟨q, st₀, t, T', L, E, ce, h0, X', hL, e1, e2, ⟨rfl, rfl, h1, hx, hP1, hz, hk⟩, hce, hcv, hcl, st2⟩
  · cases hv
    rw [h0] at hz hk
    have K := kk r h1 hq p e s m args below meth c C T'.heap (locs ++ L) ls (by rw [e1]; exact hP1) ⟨Nat.le_trans hS.1 (by rw [e1]; exact hz), fun q h1 h2 => by rw [e1, hk q (Nat.lt_of_lt_of_le h1 hS.1) h2]; exact hS.2.1 q h1 h2, fun q hq => by
      rcases List.mem_append.mp hq with h | h
      · exact hS.2.2 q h
      · exact hL q h⟩ hl
    rw [(ax_sum hnn).1, (ax_sum hnn).2] at X'
    obtain ⟨t2, a1, b1⟩ := K T' rfl X'
    refine ⟨t2, st2 t2 ?_, b1⟩
    have e0 : ((r.map (ax_v g)).toList ++ st.map (ax_v g)) = (r.toList ++ st).map (ax_v g) := by cases r <;> simp
    show Steps p.tables e below (T'.setTop (F0 m (pc + 3) ls ((r.map (ax_v g)).toList ++ st.map (ax_v g)))) t2
    rw [e0]
    exact a1
  · rw [h0] at hz hk
    have ht := C.2.2.2.2.2.2.2.2.2.2.2 _ hhh
    rw [(ax_sum hnn).1, (ax_sum hnn).2] at X'
    have hS1 : va_S (ax_A g) s.heap T'.heap (locs ++ L) := ⟨Nat.le_trans hS.1 (by rw [e1]; exact hz), fun q h1 h2 => by rw [e1, hk q (Nat.lt_of_lt_of_le h1 hS.1) h2]; exact hS.2.1 q h1 h2, fun q hq => by
      rcases List.mem_append.mp hq with h | h
      · exact hS.2.2 q h
      · exact hL q h⟩
    have K := kx h1 hx p e s m args below meth c C T'.heap (locs ++ L) ls (by rw [e1]; exact hP1) hS1 hl
    have hown : s.vm.findClass RX12 = some m.cls := by rw [← hcls]; exact C.2.2.2.2.1
    have hlink : (Cond.classLink RX12 41 RX11).before args s = true := C.2.2.2.2.2.1 _ cl_app
    have hcast : (Cond.castable RX11 RX11).before args s = true := va_Nw.use (ax_nw_on ca_stop) (C.2.2.2.2.2.2.2.2.1.2.1 _ ca_stop)
    have hpl : e.platform.magicAccessors = ({} : Platform).magicAccessors := by rw [X'.admits.platform]
    obtain ⟨c3, c4, hc3, hc4, hasg⟩ := Cond.castable_spec hcast
    cases Option.some.inj (hc3.symm.trans hcl)
    obtain ⟨c5, hc5, hcl5⟩ := Cond.classLink_spec hown hlink e.platform hpl
    cases Option.some.inj (hc4.symm.trans hc5)
    obtain ⟨vm9, X9, st9⟩ := Jvm.Stand.thenCaughtThrough X' (ax_a g ax_st) (g := F0 m pc ls (st.map (ax_v g))) rfl (Steps.refl _) (by rw [e1]; exact hce) (by rw [hcv]; rfl) (by obtain ⟨k9, h9, -⟩ := Vm.findClass_spec hcl; exact ⟨k9, h9⟩) [] ⟨hs, he, hpc, 41⟩ [] ht (fun z hz => by cases hz) hcov (Or.inr ⟨by show (41 : Nat) ≠ 0; decide, c4, hcl5, hasg⟩)
    obtain ⟨t2, a1, b1⟩ := K (T'.setVm vm9) rfl X9
    exact ⟨t2, (st2.trans st9).trans a1, b1⟩
end AXH
