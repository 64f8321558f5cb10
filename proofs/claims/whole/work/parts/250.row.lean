def ax_nse : List Cond := vx_at0 RX9 255 "java/util/NoSuchElementException" ["java/lang/RuntimeException", "java/lang/Exception"]
theorem at_mem : ∀ w ∈ ax_nse, w ∈ lw_tbl := by decide +kernel
theorem at_good : ∀ w ∈ ax_nse, goodWord w = true ∨ ax_nw w = true := by decide +kernel
theorem at_ot : ∀ w ∈ Cond.classLink RX9 253 "java/util/NoSuchElementException" :: Cond.initialized "java/util/NoSuchElementException" :: ax_nse, vx_ot w = true := by decide +kernel
theorem cl_nse : ((Jvm.Cond.classLink "WindowHouse" (253 : Nat) "java/util/NoSuchElementException") : Cond) ∈ ax_G := tw_g (tw_c5 (List.mem_of_getElem? (i := 125) rfl)) rfl
theorem ini_nse : ((Jvm.Cond.initialized "java/util/NoSuchElementException") : Cond) ∈ ax_G := tw_g (tw_c1 (List.mem_of_getElem? (i := 24) rfl)) rfl
theorem cl_nse2 : ((Jvm.Cond.classLink "WindowHouseLaw" (13 : Nat) "java/util/NoSuchElementException") : Cond) ∈ ax_G := tw_g (tw_c5 (List.mem_of_getElem? (i := 120) rfl)) rfl
theorem ca_nse : Cond.castable "java/util/NoSuchElementException" "java/util/NoSuchElementException" ∈ ax_NW := tw_n (tw_c5 (List.mem_of_getElem? (i := 127) rfl)) rfl
def rm_xrow : Room := { frames := 6, cells := 1, slots := 6, locals := 90 }
def ax_XN (g : AG) (h : AH) (X : Prop) : String → State → State → Prop := fun E s t => E = "java/util/NoSuchElementException" ∧ X ∧ va_P g.1 vwCl (ax_w g 194 h) t.heap ∧ va_F (ax_A g) s t
set_option maxHeartbeats 2000000 in
set_option maxRecDepth 100000 in
theorem xrow {l : Launch} {g : AG} {h : AH} {k : Int32} {Q : Int32 → AH → Prop} {X : Prop} (hlt : l.stackTraces = false) (hb : ((k < 0 ∨ h.1 1 9 ≤ k) → X) ∧ (¬ k < 0 → ¬ h.1 1 9 ≤ k → Is 194 (h.2.2 1 8) 20 ∧ vp_in k (ax_s (h.2.2 1 8)).2 ∧ Q (h.1 (h.2.2 1 8) k.toNatClampNeg) h)) :
    vx_Met l yX9_row (ax_ws mX9_row) rm_xrow (ax_P g 194 h [.ref 1, .int k]) (ax_Q g 194 (ax_QI Q)) (ax_XN g h X) 1 6 (ax_A g) := by
  refine vx_ofW (cc := cX9_row) (maxL := 2) (ret := some .int) rfl rfl ?_
  intro p e s m args below meth c s₁ B hml ht hv
  obtain ⟨rfl, hE, hP, hz1, hz2⟩ := hv
  have hts := atoms_spec (ws := ax_ws mX9_row) B.pre
  have hl := lv_entry ([Value.ref 1, .int k].map (ax_v g)) (n := 2) (Nat.le_of_ble_eq_true rfl)
  rw [lg_entry_eq]
  generalize (lg_sl ([Value.ref 1, .int k].map (ax_v g)) ++ List.replicate (2 - (lg_sl ([Value.ref 1, .int k].map (ax_v g))).length) Slot.unset).toArray = ls at hl ⊢
  have hl : lv_has ls 2 [(0, .ref (ax_a g 1)), (1, .int k)] := hl
  have C : ax_C g mX9_row 194 p s m ([Value.ref 1, .int k].map (ax_v g)).toArray meth c := ⟨B.exec, B.bytes, B.returns, hml, findClass_of_methodNamed B.named, fun w hw => hts w (List.mem_cons_of_mem _ hw), B.notSynchronized, (name_of_methodNamed B.named B.method).1, hE, hz1, hz2, fun hh h => by cases h⟩
  have hi : Is 194 1 8 := ⟨by decide, rfl⟩
  have hS : va_S (ax_A g) s.heap s.heap [] := va_S.rf
  have hat : ∀ w ∈ ax_nse, w.before ([Value.ref 1, .int k].map (ax_v g)).toArray s = true := fun w hw => by
    rcases at_good w hw with q | q
    · exact C.2.2.2.2.2.1 w (List.mem_filter.mpr ⟨at_mem w hw, q⟩)
    · have hn : w ∈ ax_NW := List.mem_filter.mpr ⟨at_mem w hw, q⟩
      exact va_Nw.use (ax_nw_on hn) (hE.2.1 w hn)
  have thr : X → W p l e rm_xrow s m ([Value.ref 1, .int k].map (ax_v g)).toArray below meth c s.heap [] 0 0 (vx_MQ below (ax_Q g 194 (ax_QI Q)) (ax_XN g h X) ([Value.ref 1, .int k].map (ax_v g)).toArray s 1 6 (ax_A g)) (F0 m 12 ls []) := fun hX =>
    vx_throw0 (own := RX9) (cls := "java/util/NoSuchElementException") (names := ["java/lang/RuntimeException", "java/lang/Exception"]) (ik := 253) (ic := 255) (mc := 1) (ms := 6) (A := ax_A g) C.1 C.2.1 hlt C.2.2.2.2.1 (by decide) (by decide) (C.2.2.2.2.2.1 _ cl_nse) (C.2.2.2.2.2.1 _ ini_nse) hat at_ot hE.2.2.2.2.2.2.2.2.2.2.1 hE.2.2.2.2.2.2.2.2.2.2.2 hS (hl.1.trans hml.symm) dX9_row_12 dX9_row_15 dX9_row_16 dX9_row_19 (fun x hx => absurd (ht x hx) id) (by decide) (by decide) (by decide) (by decide) C.2.2.2.2.2.2.1 (fun t _ h1 h2 => ⟨rfl, hX, hP.kept (fun j x hx => h2 x.1 (hP j x hx).lt), h1, fun q hq _ => h2 q hq⟩) (fun z hz => by cases hz) (by decide) (by decide)
  refine lv_iload_n C.1 C.2.1 dX9_row_0 rfl (lv_at hl 1 rfl) ?_
  refine lv_if_lt (tgt := 12) C.1 C.2.1 dX9_row_1 (by decide) (fun c1 => thr (hb.1 (Or.inl c1))) (fun c1 => ?_)
  refine lv_iload_n C.1 C.2.1 dX9_row_4 rfl (lv_at hl 1 rfl) ?_
  refine lv_aload_n C.1 C.2.1 dX9_row_5 rfl (lv_at hl 0 rfl) ?_
  refine ax_getW (n := 194) (h := h) C fl_X9_60 hi hP dX9_row_6 ?_
  refine lv_icmp_lt (tgt := 20) (x := k) (y := h.1 1 9) C.1 C.2.1 dX9_row_9 (by decide) (fun c2 => ?_) (fun c2 => thr (hb.1 (Or.inr (Int32.not_lt.mp c2))))
  obtain ⟨b1, b2, b3⟩ := hb.2 c1 (Int32.not_le.mpr c2)
  refine lv_aload_n C.1 C.2.1 dX9_row_20 rfl (lv_at hl 0 rfl) ?_
  refine ax_getW (n := 194) (h := h) C fl_X9_57 hi hP dX9_row_21 ?_
  rw [show ax_fv g (h.1 1) (h.2.1 1) (h.2.2 1) 8 2 = .ref (ax_a g (h.2.2 1 8)) from by simp [ax_fv, ax_ro, b1.ne (by decide), va_rf]]
  refine lv_iload_n C.1 C.2.1 dX9_row_24 rfl (lv_at hl 1 rfl) ?_
  refine va_iald C.1 C.2.1 hE.1 hP (h.2.2 1 8 - 1) 0 (by rw [b1.get (by decide), ax_e_20 b1.2]) rfl b2 dX9_row_25 ?_
  exact vx_ret (W.widen (k := 1) (n := 6) (by decide) (by decide) (W.iret C.1 C.2.1 C.2.2.1 (fun t ht hW => ⟨some (.int _), h, rfl, ⟨_, rfl, b3⟩, by rw [ht]; exact hP, hS.F ht⟩) hS.2.2 dX9_row_26 C.2.2.2.2.2.2.1))
set_option maxHeartbeats 2000000 in
set_option maxRecDepth 100000 in
theorem lrow {l : Launch} {g : AG} {h : AH} {k : Int32} {Q : Int32 → AH → Prop} (hlt : l.stackTraces = false) (hb : ((k < 0 ∨ h.1 1 9 ≤ k) → Q 1 h) ∧ (¬ k < 0 → ¬ h.1 1 9 ≤ k → Is 194 (h.2.2 1 8) 20 ∧ vp_in k (ax_s (h.2.2 1 8)).2 ∧ Q 0 (ax_setL h 194 0 (h.1 (h.2.2 1 8) k.toNatClampNeg).toInt64))) : C_L_row l g h k Q := by
  unfold C_L_row Met
  refine MetFree.of_bodyS (code := mL_row0.2.1) (maxLocals := mL_row0.2.2.1) (ret := mL_row0.2.2.2) rfl ?_ ?_
  · intro args s m h hn
    obtain ⟨m9, meth, c, hn9, h1, h2, h3, h4, -, h5, h6, -⟩ := Cond.codeWith_spec (atoms_spec (ws := ax_wsh mL_row0) h _ List.mem_cons_self)
    cases hn.symm.trans hn9
    exact ⟨meth, c, h1, h2, h3, h4, h5, h6⟩
  · intro p e s m args below meth c s₁ B hml hv _
    have hh0 : s₁.heap = s.heap := by rw [B.state]; rfl
    obtain ⟨rfl, hE, hP, hz1, hz2⟩ := hv
    have hts := atoms_spec (ws := ax_wsh mL_row0) B.pre
    have htab := vx_table (x := mL_row0.1) B (hts _ List.mem_cons_self)
    have hl := lv_entry ([Value.ref 1, .int k, .ref 194].map (ax_v g)) (n := 4) (Nat.le_of_ble_eq_true rfl)
    have C : ax_C g mL_row0 194 p s m ([Value.ref 1, .int k, .ref 194].map (ax_v g)).toArray meth c := ⟨B.exec, B.bytes, B.returns, hml, findClass_of_methodNamed B.named, fun w hw => hts w (List.mem_cons_of_mem _ hw), B.notSynchronized, (name_of_methodNamed B.named B.method).1, hE, hz1, hz2, fun hh2 h2 => by
      rw [h2] at htab
      exact htab⟩
    suffices K : W p l e rm_row s m ([Value.ref 1, .int k, .ref 194].map (ax_v g)).toArray below meth c s.heap [] 0 0 (MQ below (ax_Q g 194 (ax_QI Q)) ([Value.ref 1, .int k, .ref 194].map (ax_v g)).toArray s 1 6 (ax_A g)) (entryFrame m ([Value.ref 1, .int k, .ref 194].map (ax_v g)).toArray 4) by
      obtain ⟨t, a1, o, b1, b2, b3⟩ := K s₁ hh0 (Stand.of_body B)
      exact ⟨t, o, a1, b1, b2, ⟨b3.1, b3.2⟩⟩
    rw [lg_entry_eq]
    generalize (lg_sl ([Value.ref 1, .int k, .ref 194].map (ax_v g)) ++ List.replicate (4 - (lg_sl ([Value.ref 1, .int k, .ref 194].map (ax_v g))).length) Slot.unset).toArray = ls at hl ⊢
    have hl : lv_has ls 4 [(0, .ref (ax_a g 1)), (1, .int k), (2, .ref (ax_a g 194))] := hl
    have hS : va_S (ax_A g) s.heap s.heap [] := va_S.rf
    refine lv_aload_n C.1 C.2.1 dL_row_0 rfl (lv_at hl 2 rfl) ?_
    refine lv_iconst (v := 0) C.1 C.2.1 dL_row_1 (by decide) ?_
    refine lv_aload_n C.1 C.2.1 dL_row_2 rfl (lv_at hl 0 rfl) ?_
    refine lv_iload_n C.1 C.2.1 dL_row_3 rfl (lv_at hl 1 rfl) ?_
    intro T hT X
    have hi : Is 194 1 8 := ⟨by decide, rfl⟩
    have hwv : GoodIn ax_G (wsV RL 7 RX9 yX9_row (ax_ws mX9_row)) := fun w hw => by
      rcases List.mem_append.mp hw with e | e
      · simp only [List.mem_cons, List.not_mem_nil, or_false] at e
        rcases e with rfl | rfl | rfl | rfl
        · exact ax_G_good _ lk_L_7
        · exact ax_G_good _ im_X9_row
        · exact ax_G_good _ se_X9_row
        · exact ax_G_good _ ini_X9
      · exact ax_ws_good cb_X9_row.1 w e
    have hcb := cwV (R := rm_row) (own := RL) (C := RX9) (index := 7) (maxL := 2) (mc := 1) (ms := 6) (y := yX9_row) (bytes := cX9_row) (ret := some .int) (Ts := ax_G) (ws := ax_ws mX9_row) (rm := rm_xrow) 1 C.2.2.2.2.2.1 hwv rfl rfl rfl ⟨rfl, by decide, by decide, by decide +kernel⟩ ⟨by decide, by decide⟩
    have ctr := xrow (l := l) (g := g) (h := h) (k := k) (Q := fun r h1 => (¬ k < 0 ∧ ¬ h.1 1 9 ≤ k) ∧ r = h.1 (h.2.2 1 8) k.toNatClampNeg ∧ h1 = h) (X := k < 0 ∨ h.1 1 9 ≤ k) hlt ⟨id, fun c1 c2 => ⟨(hb.2 c1 c2).1, (hb.2 c1 c2).2.1, ⟨c1, c2⟩, rfl, rfl⟩⟩
    have run := vx_runV (C := RX9) (e := e) (below := below) (meth := meth) (R := rm_row) (As := [.int k]) (rest := [.int 0, .ref (ax_a g 194)]) (Ts := ax_G) (own := RL) (nL := 4) (g := F0 m 4 ls [.int k, .ref (ax_a g 1), .int 0, .ref (ax_a g 194)]) (b := ax_a g 1) (locs := []) (cells := 0) (slots := 0) ⟨C.1, C.2.1, hml, C.2.2.2.2.1, C.2.2.2.2.2.1⟩ ctr hcb ⟨ax_blind g 194 h [.ref 1, .int k], va_recv (q0 := 0) (ci := 8) (q := (RX9, TX9, 13)) hE.1 hP rfl (by rw [show (0 : Nat) = 1 - 1 from rfl, hi.get (by decide), ax_e_obj hi.2 (by decide)]), fun U hU hW => ⟨rfl, hE.on hW (fun a h1 h2 => by rw [hU]), by rw [hU]; exact hP, by rw [hU]; exact hz1, fun hq => absurd hq (by decide)⟩⟩ rfl rfl hl.1 rfl (lv_room (Nat.le_of_ble_eq_true rfl)) dL_row_4 ⟨by decide, by decide⟩
    rcases run T hT X with ⟨v, st₀, t, T', L, h0, X', hL, e1, e2, ⟨r, h1, hv, ⟨x, rfl, hq0, hq1, hq2⟩, hP1, hz, hk⟩, st2⟩ | ⟨q, st₀, t, T', L, E, ce, h0, X', hL, e1, e2, ⟨rfl, hx, hP1, hz, hk⟩, hce, hcv, hcl, st2⟩
    · cases hv
      subst hq1
      subst hq2
      rw [h0] at hz hk
      have hS1 : va_S (ax_A g) s.heap T'.heap ([] ++ L) := ⟨by rw [e1]; exact hz, fun q g1 g2 => by rw [e1, hk q g1 g2], fun q hq => hL q (by simpa using hq)⟩
      obtain ⟨b1, b2, b3⟩ := hb.2 hq0.1 hq0.2
      have hio : Is 194 194 21 := ⟨by decide, rfl⟩
      have K : W p l e rm_row s m ([Value.ref 1, .int k, .ref 194].map (ax_v g)).toArray below meth c T'.heap ([] ++ L) (0 + 1) (0 + 6) (MQ below (ax_Q g 194 (ax_QI Q)) ([Value.ref 1, .int k, .ref 194].map (ax_v g)).toArray s 1 6 (ax_A g)) (F0 m (4 + 3) ls [.int (h1.1 (h1.2.2 1 8) k.toNatClampNeg), .int 0, .ref (ax_a g 194)]) := by
        refine lv_i2l (v := (h1.1 (h1.2.2 1 8) k.toNatClampNeg).toInt64) C.1 C.2.1 dL_row_7 rfl ?_
        refine va_last C.1 C.2.1 hE.1 (show va_P g.1 vwCl (ax_w g 194 h1) T'.heap by rw [e1]; exact hP1) ax_w_D hS1 (194 - 1) 1 (by rw [hio.get (by decide), ax_e_21 hio.2]; rfl) rfl (show vp_in 0 1 from vp_in_nI (n := 0) (by decide) (by decide)) dL_row_8 (fun H1 locs1 hP2 _ hS2 => ?_)
        rw [ax_w_set (h2 := ax_setL h1 194 0 (h1.1 (h1.2.2 1 8) k.toNatClampNeg).toInt64) hio (by decide) (by rw [ax_e_21 hio.2, ax_setL_at]; rfl) (ax_setL_o _ _ _)] at hP2
        refine lv_goto (tgt := 15) C.1 C.2.1 dL_row_9 (by decide) ?_
        refine lv_iconst (v := 0) C.1 C.2.1 dL_row_15 (by decide) ?_
        exact W.iret C.1 C.2.1 C.2.2.1 (fun t9 ht9 hW => ⟨some (.int 0), _, rfl, ⟨0, rfl, b3⟩, by rw [ht9]; exact hP2, hS2.F ht9⟩) hS2.2.2 dL_row_16 C.2.2.2.2.2.2.1
      obtain ⟨t2, a1, b1⟩ := K T' rfl X'
      exact ⟨t2, st2 t2 a1, b1⟩
    · rw [h0] at hz hk
      have hS1 : va_S (ax_A g) s.heap T'.heap ([] ++ L) := ⟨by rw [e1]; exact hz, fun q g1 g2 => by rw [e1, hk q g1 g2], fun q hq => hL q (by simpa using hq)⟩
      have ht : c.exceptionTable.toList = tableOf [(0, 9, 12, 13)] := C.2.2.2.2.2.2.2.2.2.2.2 _ rfl
      have hlink : (Cond.classLink RL 13 "java/util/NoSuchElementException").before ([Value.ref 1, .int k, .ref 194].map (ax_v g)).toArray s = true := C.2.2.2.2.2.1 _ cl_nse2
      have hcast : (Cond.castable "java/util/NoSuchElementException" "java/util/NoSuchElementException").before ([Value.ref 1, .int k, .ref 194].map (ax_v g)).toArray s = true := va_Nw.use (ax_nw_on ca_nse) (hE.2.1 _ ca_nse)
      have hpl : e.platform.magicAccessors = ({} : Platform).magicAccessors := by rw [X'.admits.platform]
      obtain ⟨c3, c4, hc3, hc4, hasg⟩ := Cond.castable_spec hcast
      cases Option.some.inj (hc3.symm.trans hcl)
      obtain ⟨c5, hc5, hcl5⟩ := Cond.classLink_spec C.2.2.2.2.1 hlink e.platform hpl
      cases Option.some.inj (hc4.symm.trans hc5)
      obtain ⟨vm9, X9, st9⟩ := Jvm.Stand.thenCaughtThrough X' q (g := F0 m 4 ls [.int 0, .ref (ax_a g 194)]) rfl (Steps.refl _) (by rw [e1]; exact hce) (by rw [hcv]; rfl) (by obtain ⟨k9, h9, -⟩ := Vm.findClass_spec hcl; exact ⟨k9, h9⟩) [] ⟨0, 9, 12, 13⟩ [] ht (fun z hz => by cases hz) rfl (Or.inr ⟨by show (13 : Nat) ≠ 0; decide, c4, hcl5, hasg⟩)
      have K : W p l e rm_row s m ([Value.ref 1, .int k, .ref 194].map (ax_v g)).toArray below meth c T'.heap ([] ++ L) (0 + 1) (0 + 6) (MQ below (ax_Q g 194 (ax_QI Q)) ([Value.ref 1, .int k, .ref 194].map (ax_v g)).toArray s 1 6 (ax_A g)) (F0 m 12 ls [.ref q]) := by
        refine lv_astore_n (lv' := [(3, .ref q), (0, .ref (ax_a g 1)), (1, .int k), (2, .ref (ax_a g 194))]) C.1 C.2.1 dL_row_12 rfl hl (by decide) rfl (fun ls2 hl2 => ?_)
        refine lv_iconst (v := 1) C.1 C.2.1 dL_row_13 (by decide) ?_
        exact W.iret C.1 C.2.1 C.2.2.1 (fun t9 ht9 hW => ⟨some (.int 1), h, rfl, ⟨1, rfl, hb.1 hx⟩, by rw [ht9, e1]; exact hP1, hS1.F ht9⟩) hS1.2.2 dL_row_14 C.2.2.2.2.2.2.1
      obtain ⟨t2, a1, b1⟩ := K (T'.setVm vm9) rfl X9
      exact ⟨t2, (st2.trans st9).trans a1, b1⟩
