def mL_law0 : AM := (⟨"WindowHouseLaw", "law", "([I)Z"⟩, cL_law, 7, some .boolean)
def mL_row0 : AM := (⟨"WindowHouseLaw", "row", "(LWindowHouse;I[J)I"⟩, cL_row, 4, some .int)
theorem cw_row : Cond.codeWith mL_row0.1 mL_row0.2.1 mL_row0.2.2.1 mL_row0.2.2.2 [(0, 9, 12, 13)] ∈ ax_G := tw_g (tw_c5 (List.mem_of_getElem? (i := 119) rfl)) rfl
theorem st_Lrow : ((Jvm.Cond.static ({ cls := "WindowHouseLaw", name := "row", desc := "(LWindowHouse;I[J)I" } : Jvm.MethodName)) : Cond) ∈ ax_G := tw_g (tw_c5 (List.mem_of_getElem? (i := 118) rfl)) rfl
theorem ini_Law : ((Jvm.Cond.initialized "WindowHouseLaw") : Cond) ∈ ax_G := tw_g (tw_c1 (List.mem_of_getElem? (i := 0) rfl)) rfl
theorem ini_Model : ((Jvm.Cond.initialized "WindowHouseModel") : Cond) ∈ ax_G := tw_g (tw_c1 (List.mem_of_getElem? (i := 10) rfl)) rfl
/-- the room of the law's row: an exception may be made -/
def rm_row : Room := { frames := 7, cells := 1, slots := 6, locals := 120 }
/-- the law's row, called with cell 1, k, cell 194 -/
def C_L_row (l : Launch) (g : AG) (h : AH) (k : Int32) (Q : Int32 → AH → Prop) : Prop := Met l mL_row0.1 (ax_wsh mL_row0) rm_row (ax_P g 194 h [.ref 1, .int k, .ref 194]) (ax_Q g 194 (ax_QI Q)) 1 6 (ax_A g)
section LAWC
variable {l : Launch} {g : AG} {M : AM} {Sx : Array Value → State → Prop} {R : Room} {cells slots pc : Nat} {lv : List (Nat × Value)} {st : List Value} {h : AH} {F : AF}
theorem wl_callV0 {M2 : AM} {f2 k2 idx np : Nat} {as : List Value} {Q : Option Value → AH → Prop} {i ci N : Nat} {TT : u_T} (hdg : decode M.2.1 pc = .ok (.invokevirtual idx, 3)) (cb : ax_CB M2 np) (hlk : Cond.methodLink M.1.cls idx M2.1 ∈ ax_G) (him : Cond.instanceMethod M2.1 ∈ ax_G) (hse : Cond.selects M2.1.cls M2.1 M2.1 ∈ ax_G) (hi : Is 194 i ci) (hc : vwCl[ci]? = some (M2.1.cls, TT, N)) (h20 : ci < 20) (hn : as.length = np) (hcat : (st.map (fun v => v.category)).sum ≤ 8) (hf : f2 + 1 ≤ R.frames ∧ 8 + (M2.2.2.1 + 11) + k2 ≤ R.locals) (hc1 : cells ≤ R.cells) (hs1 : slots ≤ R.slots)
    (ct : Ct l g M2 f2 k2 194 194 h (.ref i :: as) Q) (kk : ∀ (r : Option Value) (h1 : AH), Q r h1 → Wl l g M Sx R cells slots 194 (pc + 3) lv (r.toList ++ st) h1 F) : Wl l g M Sx R cells slots 194 pc lv (as.reverse ++ .ref i :: st) h F :=
  wl_callV (n := 194) (n1 := 194) hdg cb hlk him hse hi hc h20 hn hcat hf (by rw [Nat.sub_self, Nat.sub_self]; exact ⟨hc1, hs1⟩) (fun h => absurd h (by decide)) ct (fun r h1 hq => by rw [Nat.sub_self, Nat.sub_self]; exact kk r h1 hq)
theorem wl_callW0 {M2 : AM} {f2 k2 idx np : Nat} {as : List Value} {Q : Option Value → AH → Prop} {i ci N : Nat} {TT : u_T} {hh : List (Nat × Nat × Nat × Nat)} (hhh : ax_hh M2.1 = some hh) (hdg : decode M.2.1 pc = .ok (.invokevirtual idx, 3)) (hcw : Cond.codeWith M2.1 M2.2.1 M2.2.2.1 M2.2.2.2 hh ∈ ax_G) (hini : Cond.initialized M2.1.cls ∈ ax_G) (hnp : M2.1.cls ≠ "java/lang/invoke/MethodHandle" ∧ M2.1.cls ≠ "java/lang/invoke/VarHandle" ∧ (parseMethodDescriptor M2.1.desc).map (fun d => d.parameters.length) = some np) (hlk : Cond.methodLink M.1.cls idx M2.1 ∈ ax_G) (him : Cond.instanceMethod M2.1 ∈ ax_G) (hse : Cond.selects M2.1.cls M2.1 M2.1 ∈ ax_G) (hi : Is 194 i ci) (hc : vwCl[ci]? = some (M2.1.cls, TT, N)) (h20 : ci < 20) (hn : as.length = np) (hcat : (st.map (fun v => v.category)).sum ≤ 8) (hf : f2 + 1 ≤ R.frames ∧ 8 + (M2.2.2.1 + 11) + k2 ≤ R.locals) (hc1 : cells ≤ R.cells) (hs1 : slots ≤ R.slots)
    (ct : Ch l g M2 f2 k2 194 194 h (.ref i :: as) Q) (kk : ∀ (r : Option Value) (h1 : AH), Q r h1 → Wl l g M Sx R cells slots 194 (pc + 3) lv (r.toList ++ st) h1 F) : Wl l g M Sx R cells slots 194 pc lv (as.reverse ++ .ref i :: st) h F :=
  wl_callW (n := 194) hhh hdg hcw hini hnp hlk him hse hi hc h20 hn hcat hf (by rw [Nat.sub_self, Nat.sub_self]; exact ⟨hc1, hs1⟩) (fun h => absurd h (by decide)) ct (fun r h1 hq => by rw [Nat.sub_self, Nat.sub_self]; exact kk r h1 hq)
theorem wl_callR {idx : Nat} {x : Int32} {Q : Int32 → AH → Prop} (hdg : decode M.2.1 pc = .ok (.invokestatic idx, 3)) (hlk : Cond.methodLink M.1.cls idx mL_row0.1 ∈ ax_G) (hcat : (st.map (fun v => v.category)).sum ≤ 8) (hf : 8 ≤ R.frames ∧ 143 ≤ R.locals) (hc1 : cells + 1 ≤ R.cells) (hs1 : slots + 6 ≤ R.slots)
    (ct : C_L_row l g h x Q) (kk : ∀ (r : Int32) (h1 : AH), Q r h1 → Wl l g M Sx R (cells + 1) (slots + 6) 194 (pc + 3) lv (.int r :: st) h1 F) : Wl l g M Sx R cells slots 194 pc lv (.ref 194 :: .int x :: .ref 1 :: st) h F := by
  intro p e s m args below meth c C X0 H locs ls hP hS hl T hT X
  have hgood : GoodIn ax_G (ax_wsh mL_row0) := fun w hw => by
    rcases List.mem_cons.mp hw with e | e
    · rw [e]; exact ax_G_good _ cw_row
    · exact ax_G_good _ e
  have hws : GoodIn ax_G (va_wsS M.1.cls idx mL_row0.1 (ax_wsh mL_row0)) := fun w hw => by
    rcases List.mem_append.mp hw with e | e
    · simp only [List.mem_cons, List.not_mem_nil, or_false] at e
      rcases e with rfl | rfl | rfl
      · exact ax_G_good _ hlk
      · exact ax_G_good _ st_Lrow
      · exact ax_G_good _ ini_Law
    · exact hgood w e
  have hcb := vx_cwSW (R := R) (own := M.1.cls) (index := idx) (maxL := 4) (mc := 1) (ms := 6) (y := mL_row0.1) (bytes := mL_row0.2.1) (ret := mL_row0.2.2.2) (hh := (ax_hh mL_row0.1).getD []) (Ts := ax_G) (ws := ax_wsh mL_row0) (rm := rm_row) 3 C.2.2.2.2.2.1 hws rfl rfl rfl ⟨by decide, by decide, by decide +kernel⟩ ⟨hf.1, hf.2⟩
  have run := vx_runSW (e := e) (below := below) (meth := meth) (R := R) (As := [.ref (ax_a g 1), .int x, .ref (ax_a g 194)]) (rest := st.map (ax_v g)) (Ts := ax_G) (own := M.1.cls) (nL := M.2.2.1) (g := F0 m pc ls (.ref (ax_a g 194) :: .int x :: .ref (ax_a g 1) :: st.map (ax_v g))) (locs := locs) (cells := cells) (slots := slots) ⟨C.1, C.2.1, C.2.2.2.1, C.2.2.2.2.1, C.2.2.2.2.2.1⟩ ct hcb ⟨ax_blind g 194 h [.ref 1, .int x, .ref 194], wl_pre (n := 194) (as := [.ref 1, .int x, .ref 194]) C hT X (fun h => absurd h (by decide)) hP hS⟩ rfl rfl hl.1 rfl (by show 2 * 0 + _ ≤ 8; rw [ax_cats, Nat.mul_zero, Nat.zero_add]; exact hcat) hdg ⟨hc1, hs1⟩
  refine ax_call run hS (fun r h1 H1 locs1 hq hP1 hS1 => ?_) T hT X
  obtain ⟨y, rfl, hq⟩ := hq
  exact kk y h1 hq p e s m args below meth c C X0 H1 locs1 ls hP1 hS1 hl
end LAWC
/-- what the mathematics owes: on every state of Inv the two answers are one, and Inv holds behind them -/
def Obl (l : Launch) (g : AG) (Inv : AH → Prop) : Prop :=
  (∀ (h : AH) (a1 a2 a3 a4 a5 : Int32), Inv h → C_X9_feed l g h 1 a1 a2 a3 a4 a5 (fun r h1 => C_X12_feed l g h1 103 a1 a2 a3 a4 a5 (fun r2 h2 => r2 = r ∧ Inv h2))) ∧
  (∀ (h : AH) (a1 a2 : Int32), Inv h → C_X9_app l g h 1 a1 a2 (fun r h1 => C_X12_app l g h1 103 a1 a2 (fun r2 h2 => r2 = r ∧ Inv h2))) ∧
  (∀ (h : AH), Inv h → C_X9_fault l g h 1  (fun r h1 => C_X12_fault l g h1 103  (fun r2 h2 => r2 = r ∧ Inv h2))) ∧
  (∀ (h : AH), Inv h → C_X9_where l g h 1  (fun r h1 => C_X12_where l g h1 103  (fun r2 h2 => r2 = r ∧ Inv h2))) ∧
  (∀ (h : AH) (a1 a2 : Int32), Inv h → C_X9_about l g h 1 a1 a2 (fun r h1 => C_X12_about l g h1 103 a1 a2 (fun r2 h2 => r2 = r ∧ Inv h2))) ∧
  (∀ (h : AH) (a1 a2 a3 : Int32), Inv h → C_X9_button l g h 1 a1 a2 a3 (fun r h1 => C_X12_button l g h1 103 a1 a2 a3 (fun r2 h2 => r2 = r ∧ Inv h2))) ∧
  (∀ (h : AH) (a1 a2 : Int32), Inv h → C_X9_act l g h 1 a1 a2 (fun r h1 => C_X12_act l g h1 103 a1 a2 (fun r2 h2 => r2 = r ∧ Inv h2))) ∧
  (∀ (h : AH) (a1 a2 : Int32), Inv h → C_X9_state l g h 1 a1 a2 (fun r h1 => C_X12_state l g h1 103 a1 a2 (fun r2 h2 => r2 = r ∧ Inv h2))) ∧
  (∀ (h : AH) (a1 a2 : Int32), Inv h → C_X9_var l g h 1 a1 a2 (fun r h1 => C_X12_var l g h1 103 a1 a2 (fun r2 h2 => r2 = r ∧ Inv h2))) ∧
  (∀ (h : AH) (a1 a2 : Int32), Inv h → C_X9_can l g h 1 a1 a2 (fun r h1 => C_X12_can l g h1 103 a1 a2 (fun r2 h2 => r2 = r ∧ Inv h2))) ∧
  (∀ (h : AH) (a1 : Int32), Inv h → C_X9_begin l g h 1 a1 (fun r h1 => C_X12_begin l g h1 103 a1 (fun r2 h2 => r2 = r ∧ Inv h2))) ∧
  (∀ (h : AH) (a1 : Int32), Inv h → C_X9_map l g h 1 a1 (fun r h1 => C_X12_map l g h1 103 a1 (fun r2 h2 => r2 = r ∧ Inv h2))) ∧
  (∀ (h : AH) (a1 a2 : Int32), Inv h → C_X9_met l g h 1 a1 a2 (fun r h1 => C_X12_met l g h1 103 a1 a2 (fun r2 h2 => r2 = r ∧ Inv h2))) ∧
  (∀ (h : AH) (a1 a2 : Int32), Inv h → C_X9_leads l g h 1 a1 a2 (fun r h1 => C_X12_leads l g h1 103 a1 a2 (fun r2 h2 => r2 = r ∧ Inv h2))) ∧
  (∀ (h : AH) (a1 : Int32), Inv h → C_X9_rowTo l g h 1 a1 (fun r h1 => C_X12_rowTo l g h1 103 a1 (fun r2 h2 => r2 = r ∧ Inv h2))) ∧
  (∀ (h : AH) (a1 : Int32), Inv h → C_X9_faultAt l g h 1 a1 (fun r h1 => C_X12_faultAt l g h1 103 a1 (fun r2 h2 => r2 = r ∧ Inv h2))) ∧
  (∀ (h : AH) (a1 : Int32), Inv h → C_X9_pressedAt l g h 1 a1 (fun r h1 => C_X12_pressedAt l g h1 103 a1 (fun r2 h2 => r2 = r ∧ Inv h2))) ∧
  (∀ (h : AH), Inv h → C_X9_never l g h 1  (fun r h1 => C_X12_never l g h1 103  (fun r2 h2 => r2 = r ∧ Inv h2))) ∧
  (∀ (h : AH) (a1 a2 : Int32), Inv h → C_X9_holdsAt l g h 1 a1 a2 (fun r h1 => C_X12_holdsAt l g h1 103 a1 a2 (fun r2 h2 => r2 = r ∧ Inv h2))) ∧
  (∀ (h : AH) (a1 : Int32), Inv h → C_X9_stuck l g h 1 a1 (fun r h1 => C_X12_stuck l g h1 103 a1 (fun r2 h2 => r2 = r ∧ Inv h2))) ∧
  (∀ (h : AH), Inv h → C_X9_least l g h 1  (fun r h1 => C_X12_least l g h1 103  (fun r2 h2 => r2 = r ∧ Inv h2))) ∧
  (∀ (h : AH), Inv h → C_X9_views l g h 1  (fun r h1 => C_X12_views l g h1 103  (fun r2 h2 => r2 = r ∧ Inv h2))) ∧
  (∀ (h : AH), Inv h → C_X9_farthest l g h 1  (fun r h1 => C_X12_farthest l g h1 103  (fun r2 h2 => r2 = r ∧ Inv h2))) ∧
  (∀ (h : AH), Inv h → C_X9_ways l g h 1  (fun r h1 => C_X12_ways l g h1 103  (fun r2 h2 => r2 = r ∧ Inv h2))) ∧
  (∀ (h : AH) (a1 : Int32), Inv h → C_X9_push l g h 1 a1 (fun r h1 => C_X12_push l g h1 103 a1 (fun r2 h2 => r2 = r ∧ Inv h2))) ∧
  (∀ (h : AH) (a1 : Int32), Inv h → C_X9_cut l g h 1 a1 (fun r h1 => C_X12_cut l g h1 103 a1 (fun r2 h2 => r2 = r ∧ Inv h2))) ∧
  (∀ (h : AH) (a1 : Int32), Inv h → C_X9_tryRow l g h 1 a1 (fun r h1 => C_X12_tryRow l g h1 103 a1 (fun r2 h2 => r2 = r ∧ Inv h2))) ∧
  (∀ (h : AH), Inv h → C_X9_tried l g h 1  (fun r h1 => C_X12_tried l g h1 103  (fun r2 h2 => r2 = r ∧ Inv h2))) ∧
  (∀ (h : AH) (a1 : Int32), Inv h → C_X9_shorter l g h 1 a1 (fun r h1 => C_X12_shorter l g h1 103 a1 (fun r2 h2 => r2 = r ∧ Inv h2))) ∧
  (∀ (h : AH) (a1 : Int32), Inv h → C_L_row l g h a1 (fun r h1 => C_X12_row l g h1 103 a1 (fun b h2 => C_X12_thrown l g h2 103 (fun t h3 => t = r ∧ (r = 0 → h3.2.1 194 0 = b.toInt64) ∧ Inv h3)))) ∧
  (∀ (h : AH), Inv h → C_X9_apart l g h 1  (fun r h1 => C_X12_apart l g h1 103  (fun r2 h2 => r2 = r ∧ Inv h2))) ∧
  (∀ (h : AH) (a1 : Int32), Inv h → C_X9_count l g h 1 a1 (fun r h1 => C_X12_count l g h1 103 a1 (fun r2 h2 => r2 = r ∧ Inv h2))) ∧
  (∀ (h : AH), Inv h → C_X9_trouble l g h 1  (fun r h1 => C_X12_trouble l g h1 103  (fun r2 h2 => r2 = r ∧ Inv h2)))
set_option maxHeartbeats 8000000 in
set_option maxRecDepth 100000 in
theorem law_loop {l : Launch} {g : AG} {Inv : AH → Prop} {L : Nat} {xs : Nat → Int32} {F : AF} (hO : Obl l g Inv) (hL : L ≤ 3072)
    (hend : ∀ (cells slots : Nat) (h : AH) (x4 : Int32), cells ≤ 1219 → slots ≤ 55958 → Wl l g mL_law0 (ax_Sx g L xs) room_1 cells slots 194 1110 [(0, .ref 4000), (1, .ref 1), (2, .ref 103), (3, .ref 194), (4, .int x4)] [] h F) :
    ∀ (d j : Nat) (h : AH), j + d = 513 → 6 * j ≤ L → Inv h → ∀ x4 : Int32, x4 = nI (6 * j) → Wl l g mL_law0 (ax_Sx g L xs) room_1 (194 + j) (47760 + 6 * j) 194 23 [(0, .ref 4000), (1, .ref 1), (2, .ref 103), (3, .ref 194), (4, .int x4)] [] h F := by
  intro d
  induction d with
  | zero => intro j h hj hle; exfalso; omega
  | succ d ih =>
    intro j h hjd hle hI x4 ex
    refine wl_iload 4 dL_law_23 rfl ?_
    refine wl_aload_n 0 dL_law_25 rfl rfl ?_
    refine wl_slen dL_law_26 ?_
    refine wl_bipush (v := 6) dL_law_27 (by decide) ?_
    refine wl_isub dL_law_29 ?_
    refine wl_icmp_gt (tgt := 1110) dL_law_30 (by decide) (fun _ => hend _ _ _ _ (by omega) (by omega)) (fun cg => ?_)
    have hlt : 6 * j + 5 < L := by
      rcases Nat.lt_or_ge (6 * j + 5) L with q | q
      · exact q
      · exfalso
        apply cg
        rw [ex]
        have e1 : (nI L - 6).toInt = (L : Int) - 6 := pk_sub_toInt (a := L) (b := 6) (by omega) (by decide)
        have e2 : (nI (6 * j)).toInt = ((6 * j : Nat) : Int) := nI_toInt (by omega)
        rw [Int32.lt_iff_toInt_lt, e1, e2]
        omega
    have hin : ∀ k : Nat, k < 6 → vp_in (x4 + nI k) L := fun k hk => by
      rw [ex, nI_add]
      exact vp_in_nI (by omega) (by omega)
    have hi0 : vp_in x4 L := by rw [ex]; exact vp_in_nI (by omega) (by omega)
    have hi1 : vp_in (x4 + 1) L := hin 1 (by decide)
    have hi2 : vp_in (x4 + 2) L := hin 2 (by decide)
    have hi3 : vp_in (x4 + 3) L := hin 3 (by decide)
    have hi4 : vp_in (x4 + 4) L := hin 4 (by decide)
    have hi5 : vp_in (x4 + 5) L := hin 5 (by decide)
    have hcon : ∀ h2 : AH, Inv h2 → Wl l g mL_law0 (ax_Sx g L xs) room_1 (194 + (j + 1)) (47760 + 6 * (j + 1)) 194 1104 [(0, .ref 4000), (1, .ref 1), (2, .ref 103), (3, .ref 194), (4, .int x4)] [] h2 F := fun h2 hI2 => by
      obtain ⟨y4, ey⟩ : ∃ y : Int32, y = x4 + 6 := ⟨_, rfl⟩
      refine wl_iinc (v := y4) (lv2 := [(4, .int y4), (0, .ref 4000), (1, .ref 1), (2, .ref 103), (3, .ref 194)]) 4 dL_law_1104 rfl (by rw [ey]; rfl) (by decide) rfl ?_
      refine wl_goto (tgt := 23) dL_law_1107 (by decide) ?_
      refine wl_sub (lv2 := [(0, .ref 4000), (1, .ref 1), (2, .ref 103), (3, .ref 194), (4, .int y4)]) [1, 2, 3, 4, 0] rfl ?_
      exact ih (j + 1) h2 (by omega) (by omega) hI2 y4 (by rw [ey, ex]; exact nI_add (6 * j) 6)
    have hgo : ∀ (c2 s2 : Nat) (h2 : AH), c2 ≤ 194 + (j + 1) → s2 ≤ 47760 + 6 * (j + 1) → Inv h2 → Wl l g mL_law0 (ax_Sx g L xs) room_1 c2 s2 194 1104 [(0, .ref 4000), (1, .ref 1), (2, .ref 103), (3, .ref 194), (4, .int x4)] [] h2 F := fun c2 s2 h2 h3 h4 hI2 => wl_widen h3 h4 (hcon h2 hI2)
    have hc1 : 194 + j ≤ room_1.cells := by show 194 + j ≤ 1219; omega
    have hs1 : 47760 + 6 * j ≤ room_1.slots := by show 47760 + 6 * j ≤ 55958; omega
    have hc2 : 194 + j + 1 ≤ room_1.cells := by show 194 + j + 1 ≤ 1219; omega
    have hs2 : 47760 + 6 * j + 6 ≤ room_1.slots := by show 47760 + 6 * j + 6 ≤ 55958; omega
    refine wl_aload_n 0 dL_law_33 rfl rfl ?_
    refine wl_iload 4 dL_law_34 rfl ?_
    refine wl_sld dL_law_36 hi0 ?_
    refine wl_bipush (v := 63) dL_law_37 (by decide) ?_
    refine wl_iand dL_law_39 ?_
    refine wl_topi (fun w ew => ?_)
    refine wl_case 0 (fun c0 => ?_) (fun c0 => ?_)
    · refine wl_tableIn (v := 0) (tgt := 188) dL_law_40 c0 (by decide) (by decide) rfl (by decide) ?_
      refine wl_aload_n 1 dL_law_188 rfl rfl ?_
      refine wl_aload_n 0 dL_law_189 rfl rfl ?_
      refine wl_iload 4 dL_law_190 rfl ?_
      refine wl_iconst (v := 1) dL_law_192 (by decide) ?_
      refine wl_iadd dL_law_193 ?_
      refine wl_sld dL_law_194 hi1 ?_
      refine wl_aload_n 0 dL_law_195 rfl rfl ?_
      refine wl_iload 4 dL_law_196 rfl ?_
      refine wl_iconst (v := 2) dL_law_198 (by decide) ?_
      refine wl_iadd dL_law_199 ?_
      refine wl_sld dL_law_200 hi2 ?_
      refine wl_aload_n 0 dL_law_201 rfl rfl ?_
      refine wl_iload 4 dL_law_202 rfl ?_
      refine wl_iconst (v := 3) dL_law_204 (by decide) ?_
      refine wl_iadd dL_law_205 ?_
      refine wl_sld dL_law_206 hi3 ?_
      refine wl_aload_n 0 dL_law_207 rfl rfl ?_
      refine wl_iload 4 dL_law_208 rfl ?_
      refine wl_iconst (v := 4) dL_law_210 (by decide) ?_
      refine wl_iadd dL_law_211 ?_
      refine wl_sld dL_law_212 hi4 ?_
      refine wl_aload_n 0 dL_law_213 rfl rfl ?_
      refine wl_iload 4 dL_law_214 rfl ?_
      refine wl_iconst (v := 5) dL_law_216 (by decide) ?_
      refine wl_iadd dL_law_217 ?_
      refine wl_sld dL_law_218 hi5 ?_
      have hb := hO.1 h (xs (x4 + 1).toNatClampNeg) (xs (x4 + 2).toNatClampNeg) (xs (x4 + 3).toNatClampNeg) (xs (x4 + 4).toNatClampNeg) (xs (x4 + 5).toNatClampNeg) hI
      refine wl_callV0 (as := [.int (xs (x4 + 1).toNatClampNeg), .int (xs (x4 + 2).toNatClampNeg), .int (xs (x4 + 3).toNatClampNeg), .int (xs (x4 + 4).toNatClampNeg), .int (xs (x4 + 5).toNatClampNeg)]) dL_law_219 cb_X9_feed lk_L_19 im_X9_feed se_X9_feed (i := 1) (ci := 8) ⟨by decide, rfl⟩ rfl (by decide) rfl (Nat.le_of_ble_eq_true rfl) ⟨by decide, by decide⟩ hc1 hs1 hb (fun r0 h1 hb => ?_)
      obtain ⟨r, rfl, hb⟩ := hb
      refine wl_aload_n 2 dL_law_222 rfl rfl ?_
      refine wl_aload_n 0 dL_law_223 rfl rfl ?_
      refine wl_iload 4 dL_law_224 rfl ?_
      refine wl_iconst (v := 1) dL_law_226 (by decide) ?_
      refine wl_iadd dL_law_227 ?_
      refine wl_sld dL_law_228 hi1 ?_
      refine wl_aload_n 0 dL_law_229 rfl rfl ?_
      refine wl_iload 4 dL_law_230 rfl ?_
      refine wl_iconst (v := 2) dL_law_232 (by decide) ?_
      refine wl_iadd dL_law_233 ?_
      refine wl_sld dL_law_234 hi2 ?_
      refine wl_aload_n 0 dL_law_235 rfl rfl ?_
      refine wl_iload 4 dL_law_236 rfl ?_
      refine wl_iconst (v := 3) dL_law_238 (by decide) ?_
      refine wl_iadd dL_law_239 ?_
      refine wl_sld dL_law_240 hi3 ?_
      refine wl_aload_n 0 dL_law_241 rfl rfl ?_
      refine wl_iload 4 dL_law_242 rfl ?_
      refine wl_iconst (v := 4) dL_law_244 (by decide) ?_
      refine wl_iadd dL_law_245 ?_
      refine wl_sld dL_law_246 hi4 ?_
      refine wl_aload_n 0 dL_law_247 rfl rfl ?_
      refine wl_iload 4 dL_law_248 rfl ?_
      refine wl_iconst (v := 5) dL_law_250 (by decide) ?_
      refine wl_iadd dL_law_251 ?_
      refine wl_sld dL_law_252 hi5 ?_
      refine wl_callV0 (as := [.int (xs (x4 + 1).toNatClampNeg), .int (xs (x4 + 2).toNatClampNeg), .int (xs (x4 + 3).toNatClampNeg), .int (xs (x4 + 4).toNatClampNeg), .int (xs (x4 + 5).toNatClampNeg)]) dL_law_253 cb_X12_feed lk_L_23 im_X12_feed se_X12_feed (i := 103) (ci := 11) ⟨by decide, rfl⟩ rfl (by decide) rfl (Nat.le_of_ble_eq_true rfl) ⟨by decide, by decide⟩ hc1 hs1 hb (fun r0 h2 hb => ?_)
      obtain ⟨r2, rfl, e1, hI2⟩ := hb
      exact wl_icmp_eq (tgt := 1104) dL_law_256 (by decide) (fun _ => hgo _ _ _ (by omega) (by omega) hI2) (fun c => absurd e1.symm c)
    · skip
      refine wl_case 1 (fun c1 => ?_) (fun c1 => ?_)
      · refine wl_tableIn (v := 1) (tgt := 261) dL_law_40 c1 (by decide) (by decide) rfl (by decide) ?_
        refine wl_aload_n 1 dL_law_261 rfl rfl ?_
        refine wl_aload_n 0 dL_law_262 rfl rfl ?_
        refine wl_iload 4 dL_law_263 rfl ?_
        refine wl_iconst (v := 1) dL_law_265 (by decide) ?_
        refine wl_iadd dL_law_266 ?_
        refine wl_sld dL_law_267 hi1 ?_
        refine wl_aload_n 0 dL_law_268 rfl rfl ?_
        refine wl_iload 4 dL_law_269 rfl ?_
        refine wl_iconst (v := 2) dL_law_271 (by decide) ?_
        refine wl_iadd dL_law_272 ?_
        refine wl_sld dL_law_273 hi2 ?_
        have hb := hO.2.1 h (xs (x4 + 1).toNatClampNeg) (xs (x4 + 2).toNatClampNeg) hI
        refine wl_callV0 (as := [.int (xs (x4 + 1).toNatClampNeg), .int (xs (x4 + 2).toNatClampNeg)]) dL_law_274 cb_X9_app lk_L_24 im_X9_app se_X9_app (i := 1) (ci := 8) ⟨by decide, rfl⟩ rfl (by decide) rfl (Nat.le_of_ble_eq_true rfl) ⟨by decide, by decide⟩ hc1 hs1 hb (fun r0 h1 hb => ?_)
        obtain ⟨r, rfl, hb⟩ := hb
        refine wl_aload_n 2 dL_law_277 rfl rfl ?_
        refine wl_aload_n 0 dL_law_278 rfl rfl ?_
        refine wl_iload 4 dL_law_279 rfl ?_
        refine wl_iconst (v := 1) dL_law_281 (by decide) ?_
        refine wl_iadd dL_law_282 ?_
        refine wl_sld dL_law_283 hi1 ?_
        refine wl_aload_n 0 dL_law_284 rfl rfl ?_
        refine wl_iload 4 dL_law_285 rfl ?_
        refine wl_iconst (v := 2) dL_law_287 (by decide) ?_
        refine wl_iadd dL_law_288 ?_
        refine wl_sld dL_law_289 hi2 ?_
        refine wl_callW0 (np := 2) (as := [.int (xs (x4 + 1).toNatClampNeg), .int (xs (x4 + 2).toNatClampNeg)]) rfl dL_law_290 cw_app ini_Model ⟨by decide, by decide, by decide +kernel⟩ lk_L_28 im_X12_app se_X12_app (i := 103) (ci := 11) ⟨by decide, rfl⟩ rfl (by decide) rfl (Nat.le_of_ble_eq_true rfl) ⟨by decide, by decide⟩ hc1 hs1 hb (fun r0 h2 hb => ?_)
        obtain ⟨r2, rfl, e1, hI2⟩ := hb
        exact wl_icmp_eq (tgt := 1104) dL_law_293 (by decide) (fun _ => hgo _ _ _ (by omega) (by omega) hI2) (fun c => absurd e1.symm c)
      · skip
        refine wl_case 2 (fun c2 => ?_) (fun c2 => ?_)
        · refine wl_tableIn (v := 2) (tgt := 298) dL_law_40 c2 (by decide) (by decide) rfl (by decide) ?_
          refine wl_aload_n 1 dL_law_298 rfl rfl ?_
          have hb := hO.2.2.1 h  hI
          refine wl_callV0 (as := []) dL_law_299 cb_X9_fault lk_L_29 im_X9_fault se_X9_fault (i := 1) (ci := 8) ⟨by decide, rfl⟩ rfl (by decide) rfl (Nat.le_of_ble_eq_true rfl) ⟨by decide, by decide⟩ hc1 hs1 hb (fun r0 h1 hb => ?_)
          obtain ⟨r, rfl, hb⟩ := hb
          refine wl_aload_n 2 dL_law_302 rfl rfl ?_
          refine wl_callV0 (as := []) dL_law_303 cb_X12_fault lk_L_33 im_X12_fault se_X12_fault (i := 103) (ci := 11) ⟨by decide, rfl⟩ rfl (by decide) rfl (Nat.le_of_ble_eq_true rfl) ⟨by decide, by decide⟩ hc1 hs1 hb (fun r0 h2 hb => ?_)
          obtain ⟨r2, rfl, e1, hI2⟩ := hb
          exact wl_icmp_eq (tgt := 1104) dL_law_306 (by decide) (fun _ => hgo _ _ _ (by omega) (by omega) hI2) (fun c => absurd e1.symm c)
        · skip
          refine wl_case 3 (fun c3 => ?_) (fun c3 => ?_)
          · refine wl_tableIn (v := 3) (tgt := 311) dL_law_40 c3 (by decide) (by decide) rfl (by decide) ?_
            refine wl_aload_n 1 dL_law_311 rfl rfl ?_
            have hb := hO.2.2.2.1 h  hI
            refine wl_callV0 (as := []) dL_law_312 cb_X9_where lk_L_34 im_X9_where se_X9_where (i := 1) (ci := 8) ⟨by decide, rfl⟩ rfl (by decide) rfl (Nat.le_of_ble_eq_true rfl) ⟨by decide, by decide⟩ hc1 hs1 hb (fun r0 h1 hb => ?_)
            obtain ⟨r, rfl, hb⟩ := hb
            refine wl_aload_n 2 dL_law_315 rfl rfl ?_
            refine wl_callV0 (as := []) dL_law_316 cb_X12_where lk_L_37 im_X12_where se_X12_where (i := 103) (ci := 11) ⟨by decide, rfl⟩ rfl (by decide) rfl (Nat.le_of_ble_eq_true rfl) ⟨by decide, by decide⟩ hc1 hs1 hb (fun r0 h2 hb => ?_)
            obtain ⟨r2, rfl, e1, hI2⟩ := hb
            exact wl_icmp_eq (tgt := 1104) dL_law_319 (by decide) (fun _ => hgo _ _ _ (by omega) (by omega) hI2) (fun c => absurd e1.symm c)
          · skip
            refine wl_case 4 (fun c4 => ?_) (fun c4 => ?_)
            · refine wl_tableIn (v := 4) (tgt := 324) dL_law_40 c4 (by decide) (by decide) rfl (by decide) ?_
              refine wl_aload_n 1 dL_law_324 rfl rfl ?_
              refine wl_aload_n 0 dL_law_325 rfl rfl ?_
              refine wl_iload 4 dL_law_326 rfl ?_
              refine wl_iconst (v := 1) dL_law_328 (by decide) ?_
              refine wl_iadd dL_law_329 ?_
              refine wl_sld dL_law_330 hi1 ?_
              refine wl_aload_n 0 dL_law_331 rfl rfl ?_
              refine wl_iload 4 dL_law_332 rfl ?_
              refine wl_iconst (v := 2) dL_law_334 (by decide) ?_
              refine wl_iadd dL_law_335 ?_
              refine wl_sld dL_law_336 hi2 ?_
              have hb := hO.2.2.2.2.1 h (xs (x4 + 1).toNatClampNeg) (xs (x4 + 2).toNatClampNeg) hI
              refine wl_callV0 (as := [.int (xs (x4 + 1).toNatClampNeg), .int (xs (x4 + 2).toNatClampNeg)]) dL_law_337 cb_X9_about lk_L_38 im_X9_about se_X9_about (i := 1) (ci := 8) ⟨by decide, rfl⟩ rfl (by decide) rfl (Nat.le_of_ble_eq_true rfl) ⟨by decide, by decide⟩ hc1 hs1 hb (fun r0 h1 hb => ?_)
              obtain ⟨r, rfl, hb⟩ := hb
              refine wl_aload_n 2 dL_law_340 rfl rfl ?_
              refine wl_aload_n 0 dL_law_341 rfl rfl ?_
              refine wl_iload 4 dL_law_342 rfl ?_
              refine wl_iconst (v := 1) dL_law_344 (by decide) ?_
              refine wl_iadd dL_law_345 ?_
              refine wl_sld dL_law_346 hi1 ?_
              refine wl_aload_n 0 dL_law_347 rfl rfl ?_
              refine wl_iload 4 dL_law_348 rfl ?_
              refine wl_iconst (v := 2) dL_law_350 (by decide) ?_
              refine wl_iadd dL_law_351 ?_
              refine wl_sld dL_law_352 hi2 ?_
              refine wl_callV0 (as := [.int (xs (x4 + 1).toNatClampNeg), .int (xs (x4 + 2).toNatClampNeg)]) dL_law_353 cb_X12_about lk_L_41 im_X12_about se_X12_about (i := 103) (ci := 11) ⟨by decide, rfl⟩ rfl (by decide) rfl (Nat.le_of_ble_eq_true rfl) ⟨by decide, by decide⟩ hc1 hs1 hb (fun r0 h2 hb => ?_)
              obtain ⟨r2, rfl, e1, hI2⟩ := hb
              exact wl_icmp_eq (tgt := 1104) dL_law_356 (by decide) (fun _ => hgo _ _ _ (by omega) (by omega) hI2) (fun c => absurd e1.symm c)
            · skip
              refine wl_case 5 (fun c5 => ?_) (fun c5 => ?_)
              · refine wl_tableIn (v := 5) (tgt := 361) dL_law_40 c5 (by decide) (by decide) rfl (by decide) ?_
                refine wl_aload_n 1 dL_law_361 rfl rfl ?_
                refine wl_aload_n 0 dL_law_362 rfl rfl ?_
                refine wl_iload 4 dL_law_363 rfl ?_
                refine wl_iconst (v := 1) dL_law_365 (by decide) ?_
                refine wl_iadd dL_law_366 ?_
                refine wl_sld dL_law_367 hi1 ?_
                refine wl_aload_n 0 dL_law_368 rfl rfl ?_
                refine wl_iload 4 dL_law_369 rfl ?_
                refine wl_iconst (v := 2) dL_law_371 (by decide) ?_
                refine wl_iadd dL_law_372 ?_
                refine wl_sld dL_law_373 hi2 ?_
                refine wl_aload_n 0 dL_law_374 rfl rfl ?_
                refine wl_iload 4 dL_law_375 rfl ?_
                refine wl_iconst (v := 3) dL_law_377 (by decide) ?_
                refine wl_iadd dL_law_378 ?_
                refine wl_sld dL_law_379 hi3 ?_
                have hb := hO.2.2.2.2.2.1 h (xs (x4 + 1).toNatClampNeg) (xs (x4 + 2).toNatClampNeg) (xs (x4 + 3).toNatClampNeg) hI
                refine wl_callV0 (as := [.int (xs (x4 + 1).toNatClampNeg), .int (xs (x4 + 2).toNatClampNeg), .int (xs (x4 + 3).toNatClampNeg)]) dL_law_380 cb_X9_button lk_L_42 im_X9_button se_X9_button (i := 1) (ci := 8) ⟨by decide, rfl⟩ rfl (by decide) rfl (Nat.le_of_ble_eq_true rfl) ⟨by decide, by decide⟩ hc1 hs1 hb (fun r0 h1 hb => ?_)
                obtain ⟨r, rfl, hb⟩ := hb
                refine wl_aload_n 2 dL_law_383 rfl rfl ?_
                refine wl_aload_n 0 dL_law_384 rfl rfl ?_
                refine wl_iload 4 dL_law_385 rfl ?_
                refine wl_iconst (v := 1) dL_law_387 (by decide) ?_
                refine wl_iadd dL_law_388 ?_
                refine wl_sld dL_law_389 hi1 ?_
                refine wl_aload_n 0 dL_law_390 rfl rfl ?_
                refine wl_iload 4 dL_law_391 rfl ?_
                refine wl_iconst (v := 2) dL_law_393 (by decide) ?_
                refine wl_iadd dL_law_394 ?_
                refine wl_sld dL_law_395 hi2 ?_
                refine wl_aload_n 0 dL_law_396 rfl rfl ?_
                refine wl_iload 4 dL_law_397 rfl ?_
                refine wl_iconst (v := 3) dL_law_399 (by decide) ?_
                refine wl_iadd dL_law_400 ?_
                refine wl_sld dL_law_401 hi3 ?_
                refine wl_callV0 (as := [.int (xs (x4 + 1).toNatClampNeg), .int (xs (x4 + 2).toNatClampNeg), .int (xs (x4 + 3).toNatClampNeg)]) dL_law_402 cb_X12_button lk_L_46 im_X12_button se_X12_button (i := 103) (ci := 11) ⟨by decide, rfl⟩ rfl (by decide) rfl (Nat.le_of_ble_eq_true rfl) ⟨by decide, by decide⟩ hc1 hs1 hb (fun r0 h2 hb => ?_)
                obtain ⟨r2, rfl, e1, hI2⟩ := hb
                exact wl_icmp_eq (tgt := 1104) dL_law_405 (by decide) (fun _ => hgo _ _ _ (by omega) (by omega) hI2) (fun c => absurd e1.symm c)
              · skip
                refine wl_case 6 (fun c6 => ?_) (fun c6 => ?_)
                · refine wl_tableIn (v := 6) (tgt := 410) dL_law_40 c6 (by decide) (by decide) rfl (by decide) ?_
                  refine wl_aload_n 1 dL_law_410 rfl rfl ?_
                  refine wl_aload_n 0 dL_law_411 rfl rfl ?_
                  refine wl_iload 4 dL_law_412 rfl ?_
                  refine wl_iconst (v := 1) dL_law_414 (by decide) ?_
                  refine wl_iadd dL_law_415 ?_
                  refine wl_sld dL_law_416 hi1 ?_
                  refine wl_aload_n 0 dL_law_417 rfl rfl ?_
                  refine wl_iload 4 dL_law_418 rfl ?_
                  refine wl_iconst (v := 2) dL_law_420 (by decide) ?_
                  refine wl_iadd dL_law_421 ?_
                  refine wl_sld dL_law_422 hi2 ?_
                  have hb := hO.2.2.2.2.2.2.1 h (xs (x4 + 1).toNatClampNeg) (xs (x4 + 2).toNatClampNeg) hI
                  refine wl_callV0 (as := [.int (xs (x4 + 1).toNatClampNeg), .int (xs (x4 + 2).toNatClampNeg)]) dL_law_423 cb_X9_act lk_L_47 im_X9_act se_X9_act (i := 1) (ci := 8) ⟨by decide, rfl⟩ rfl (by decide) rfl (Nat.le_of_ble_eq_true rfl) ⟨by decide, by decide⟩ hc1 hs1 hb (fun r0 h1 hb => ?_)
                  obtain ⟨r, rfl, hb⟩ := hb
                  refine wl_aload_n 2 dL_law_426 rfl rfl ?_
                  refine wl_aload_n 0 dL_law_427 rfl rfl ?_
                  refine wl_iload 4 dL_law_428 rfl ?_
                  refine wl_iconst (v := 1) dL_law_430 (by decide) ?_
                  refine wl_iadd dL_law_431 ?_
                  refine wl_sld dL_law_432 hi1 ?_
                  refine wl_aload_n 0 dL_law_433 rfl rfl ?_
                  refine wl_iload 4 dL_law_434 rfl ?_
                  refine wl_iconst (v := 2) dL_law_436 (by decide) ?_
                  refine wl_iadd dL_law_437 ?_
                  refine wl_sld dL_law_438 hi2 ?_
                  refine wl_callV0 (as := [.int (xs (x4 + 1).toNatClampNeg), .int (xs (x4 + 2).toNatClampNeg)]) dL_law_439 cb_X12_act lk_L_50 im_X12_act se_X12_act (i := 103) (ci := 11) ⟨by decide, rfl⟩ rfl (by decide) rfl (Nat.le_of_ble_eq_true rfl) ⟨by decide, by decide⟩ hc1 hs1 hb (fun r0 h2 hb => ?_)
                  obtain ⟨r2, rfl, e1, hI2⟩ := hb
                  exact wl_icmp_eq (tgt := 1104) dL_law_442 (by decide) (fun _ => hgo _ _ _ (by omega) (by omega) hI2) (fun c => absurd e1.symm c)
                · skip
                  refine wl_case 7 (fun c7 => ?_) (fun c7 => ?_)
                  · refine wl_tableIn (v := 7) (tgt := 447) dL_law_40 c7 (by decide) (by decide) rfl (by decide) ?_
                    refine wl_aload_n 1 dL_law_447 rfl rfl ?_
                    refine wl_aload_n 0 dL_law_448 rfl rfl ?_
                    refine wl_iload 4 dL_law_449 rfl ?_
                    refine wl_iconst (v := 1) dL_law_451 (by decide) ?_
                    refine wl_iadd dL_law_452 ?_
                    refine wl_sld dL_law_453 hi1 ?_
                    refine wl_aload_n 0 dL_law_454 rfl rfl ?_
                    refine wl_iload 4 dL_law_455 rfl ?_
                    refine wl_iconst (v := 2) dL_law_457 (by decide) ?_
                    refine wl_iadd dL_law_458 ?_
                    refine wl_sld dL_law_459 hi2 ?_
                    have hb := hO.2.2.2.2.2.2.2.1 h (xs (x4 + 1).toNatClampNeg) (xs (x4 + 2).toNatClampNeg) hI
                    refine wl_callV0 (as := [.int (xs (x4 + 1).toNatClampNeg), .int (xs (x4 + 2).toNatClampNeg)]) dL_law_460 cb_X9_state lk_L_51 im_X9_state se_X9_state (i := 1) (ci := 8) ⟨by decide, rfl⟩ rfl (by decide) rfl (Nat.le_of_ble_eq_true rfl) ⟨by decide, by decide⟩ hc1 hs1 hb (fun r0 h1 hb => ?_)
                    obtain ⟨r, rfl, hb⟩ := hb
                    refine wl_aload_n 2 dL_law_463 rfl rfl ?_
                    refine wl_aload_n 0 dL_law_464 rfl rfl ?_
                    refine wl_iload 4 dL_law_465 rfl ?_
                    refine wl_iconst (v := 1) dL_law_467 (by decide) ?_
                    refine wl_iadd dL_law_468 ?_
                    refine wl_sld dL_law_469 hi1 ?_
                    refine wl_aload_n 0 dL_law_470 rfl rfl ?_
                    refine wl_iload 4 dL_law_471 rfl ?_
                    refine wl_iconst (v := 2) dL_law_473 (by decide) ?_
                    refine wl_iadd dL_law_474 ?_
                    refine wl_sld dL_law_475 hi2 ?_
                    refine wl_callV0 (as := [.int (xs (x4 + 1).toNatClampNeg), .int (xs (x4 + 2).toNatClampNeg)]) dL_law_476 cb_X12_state lk_L_54 im_X12_state se_X12_state (i := 103) (ci := 11) ⟨by decide, rfl⟩ rfl (by decide) rfl (Nat.le_of_ble_eq_true rfl) ⟨by decide, by decide⟩ hc1 hs1 hb (fun r0 h2 hb => ?_)
                    obtain ⟨r2, rfl, e1, hI2⟩ := hb
                    exact wl_icmp_eq (tgt := 1104) dL_law_479 (by decide) (fun _ => hgo _ _ _ (by omega) (by omega) hI2) (fun c => absurd e1.symm c)
                  · skip
                    refine wl_case 8 (fun c8 => ?_) (fun c8 => ?_)
                    · refine wl_tableIn (v := 8) (tgt := 484) dL_law_40 c8 (by decide) (by decide) rfl (by decide) ?_
                      refine wl_aload_n 1 dL_law_484 rfl rfl ?_
                      refine wl_aload_n 0 dL_law_485 rfl rfl ?_
                      refine wl_iload 4 dL_law_486 rfl ?_
                      refine wl_iconst (v := 1) dL_law_488 (by decide) ?_
                      refine wl_iadd dL_law_489 ?_
                      refine wl_sld dL_law_490 hi1 ?_
                      refine wl_aload_n 0 dL_law_491 rfl rfl ?_
                      refine wl_iload 4 dL_law_492 rfl ?_
                      refine wl_iconst (v := 2) dL_law_494 (by decide) ?_
                      refine wl_iadd dL_law_495 ?_
                      refine wl_sld dL_law_496 hi2 ?_
                      have hb := hO.2.2.2.2.2.2.2.2.1 h (xs (x4 + 1).toNatClampNeg) (xs (x4 + 2).toNatClampNeg) hI
                      refine wl_callV0 (as := [.int (xs (x4 + 1).toNatClampNeg), .int (xs (x4 + 2).toNatClampNeg)]) dL_law_497 cb_X9_var lk_L_55 im_X9_var se_X9_var (i := 1) (ci := 8) ⟨by decide, rfl⟩ rfl (by decide) rfl (Nat.le_of_ble_eq_true rfl) ⟨by decide, by decide⟩ hc1 hs1 hb (fun r0 h1 hb => ?_)
                      obtain ⟨r, rfl, hb⟩ := hb
                      refine wl_aload_n 2 dL_law_500 rfl rfl ?_
                      refine wl_aload_n 0 dL_law_501 rfl rfl ?_
                      refine wl_iload 4 dL_law_502 rfl ?_
                      refine wl_iconst (v := 1) dL_law_504 (by decide) ?_
                      refine wl_iadd dL_law_505 ?_
                      refine wl_sld dL_law_506 hi1 ?_
                      refine wl_aload_n 0 dL_law_507 rfl rfl ?_
                      refine wl_iload 4 dL_law_508 rfl ?_
                      refine wl_iconst (v := 2) dL_law_510 (by decide) ?_
                      refine wl_iadd dL_law_511 ?_
                      refine wl_sld dL_law_512 hi2 ?_
                      refine wl_callV0 (as := [.int (xs (x4 + 1).toNatClampNeg), .int (xs (x4 + 2).toNatClampNeg)]) dL_law_513 cb_X12_var lk_L_58 im_X12_var se_X12_var (i := 103) (ci := 11) ⟨by decide, rfl⟩ rfl (by decide) rfl (Nat.le_of_ble_eq_true rfl) ⟨by decide, by decide⟩ hc1 hs1 hb (fun r0 h2 hb => ?_)
                      obtain ⟨r2, rfl, e1, hI2⟩ := hb
                      exact wl_icmp_eq (tgt := 1104) dL_law_516 (by decide) (fun _ => hgo _ _ _ (by omega) (by omega) hI2) (fun c => absurd e1.symm c)
                    · skip
                      refine wl_case 9 (fun c9 => ?_) (fun c9 => ?_)
                      · refine wl_tableIn (v := 9) (tgt := 521) dL_law_40 c9 (by decide) (by decide) rfl (by decide) ?_
                        refine wl_aload_n 1 dL_law_521 rfl rfl ?_
                        refine wl_aload_n 0 dL_law_522 rfl rfl ?_
                        refine wl_iload 4 dL_law_523 rfl ?_
                        refine wl_iconst (v := 1) dL_law_525 (by decide) ?_
                        refine wl_iadd dL_law_526 ?_
                        refine wl_sld dL_law_527 hi1 ?_
                        refine wl_aload_n 0 dL_law_528 rfl rfl ?_
                        refine wl_iload 4 dL_law_529 rfl ?_
                        refine wl_iconst (v := 2) dL_law_531 (by decide) ?_
                        refine wl_iadd dL_law_532 ?_
                        refine wl_sld dL_law_533 hi2 ?_
                        have hb := hO.2.2.2.2.2.2.2.2.2.1 h (xs (x4 + 1).toNatClampNeg) (xs (x4 + 2).toNatClampNeg) hI
                        refine wl_callV0 (as := [.int (xs (x4 + 1).toNatClampNeg), .int (xs (x4 + 2).toNatClampNeg)]) dL_law_534 cb_X9_can lk_L_59 im_X9_can se_X9_can (i := 1) (ci := 8) ⟨by decide, rfl⟩ rfl (by decide) rfl (Nat.le_of_ble_eq_true rfl) ⟨by decide, by decide⟩ hc1 hs1 hb (fun r0 h1 hb => ?_)
                        obtain ⟨r, rfl, hb⟩ := hb
                        refine wl_aload_n 2 dL_law_537 rfl rfl ?_
                        refine wl_aload_n 0 dL_law_538 rfl rfl ?_
                        refine wl_iload 4 dL_law_539 rfl ?_
                        refine wl_iconst (v := 1) dL_law_541 (by decide) ?_
                        refine wl_iadd dL_law_542 ?_
                        refine wl_sld dL_law_543 hi1 ?_
                        refine wl_aload_n 0 dL_law_544 rfl rfl ?_
                        refine wl_iload 4 dL_law_545 rfl ?_
                        refine wl_iconst (v := 2) dL_law_547 (by decide) ?_
                        refine wl_iadd dL_law_548 ?_
                        refine wl_sld dL_law_549 hi2 ?_
                        refine wl_callV0 (as := [.int (xs (x4 + 1).toNatClampNeg), .int (xs (x4 + 2).toNatClampNeg)]) dL_law_550 cb_X12_can lk_L_62 im_X12_can se_X12_can (i := 103) (ci := 11) ⟨by decide, rfl⟩ rfl (by decide) rfl (Nat.le_of_ble_eq_true rfl) ⟨by decide, by decide⟩ hc1 hs1 hb (fun r0 h2 hb => ?_)
                        obtain ⟨r2, rfl, e1, hI2⟩ := hb
                        exact wl_icmp_eq (tgt := 1104) dL_law_553 (by decide) (fun _ => hgo _ _ _ (by omega) (by omega) hI2) (fun c => absurd e1.symm c)
                      · skip
                        refine wl_case 10 (fun c10 => ?_) (fun c10 => ?_)
                        · refine wl_tableIn (v := 10) (tgt := 558) dL_law_40 c10 (by decide) (by decide) rfl (by decide) ?_
                          refine wl_aload_n 1 dL_law_558 rfl rfl ?_
                          refine wl_aload_n 0 dL_law_559 rfl rfl ?_
                          refine wl_iload 4 dL_law_560 rfl ?_
                          refine wl_iconst (v := 1) dL_law_562 (by decide) ?_
                          refine wl_iadd dL_law_563 ?_
                          refine wl_sld dL_law_564 hi1 ?_
                          have hb := hO.2.2.2.2.2.2.2.2.2.2.1 h (xs (x4 + 1).toNatClampNeg) hI
                          refine wl_callV0 (as := [.int (xs (x4 + 1).toNatClampNeg)]) dL_law_565 cb_X9_begin lk_L_63 im_X9_begin se_X9_begin (i := 1) (ci := 8) ⟨by decide, rfl⟩ rfl (by decide) rfl (Nat.le_of_ble_eq_true rfl) ⟨by decide, by decide⟩ hc1 hs1 hb (fun r0 h1 hb => ?_)
                          obtain ⟨r, rfl, hb⟩ := hb
                          refine wl_aload_n 2 dL_law_568 rfl rfl ?_
                          refine wl_aload_n 0 dL_law_569 rfl rfl ?_
                          refine wl_iload 4 dL_law_570 rfl ?_
                          refine wl_iconst (v := 1) dL_law_572 (by decide) ?_
                          refine wl_iadd dL_law_573 ?_
                          refine wl_sld dL_law_574 hi1 ?_
                          refine wl_callV0 (as := [.int (xs (x4 + 1).toNatClampNeg)]) dL_law_575 cb_X12_begin lk_L_67 im_X12_begin se_X12_begin (i := 103) (ci := 11) ⟨by decide, rfl⟩ rfl (by decide) rfl (Nat.le_of_ble_eq_true rfl) ⟨by decide, by decide⟩ hc1 hs1 hb (fun r0 h2 hb => ?_)
                          obtain ⟨r2, rfl, e1, hI2⟩ := hb
                          exact wl_icmp_eq (tgt := 1104) dL_law_578 (by decide) (fun _ => hgo _ _ _ (by omega) (by omega) hI2) (fun c => absurd e1.symm c)
                        · skip
                          refine wl_case 11 (fun c11 => ?_) (fun c11 => ?_)
                          · refine wl_tableIn (v := 11) (tgt := 583) dL_law_40 c11 (by decide) (by decide) rfl (by decide) ?_
                            refine wl_aload_n 1 dL_law_583 rfl rfl ?_
                            refine wl_aload_n 0 dL_law_584 rfl rfl ?_
                            refine wl_iload 4 dL_law_585 rfl ?_
                            refine wl_iconst (v := 1) dL_law_587 (by decide) ?_
                            refine wl_iadd dL_law_588 ?_
                            refine wl_sld dL_law_589 hi1 ?_
                            have hb := hO.2.2.2.2.2.2.2.2.2.2.2.1 h (xs (x4 + 1).toNatClampNeg) hI
                            refine wl_callV0 (as := [.int (xs (x4 + 1).toNatClampNeg)]) dL_law_590 cb_X9_map lk_L_68 im_X9_map se_X9_map (i := 1) (ci := 8) ⟨by decide, rfl⟩ rfl (by decide) rfl (Nat.le_of_ble_eq_true rfl) ⟨by decide, by decide⟩ hc1 hs1 hb (fun r0 h1 hb => ?_)
                            obtain ⟨r, rfl, hb⟩ := hb
                            refine wl_aload_n 2 dL_law_593 rfl rfl ?_
                            refine wl_aload_n 0 dL_law_594 rfl rfl ?_
                            refine wl_iload 4 dL_law_595 rfl ?_
                            refine wl_iconst (v := 1) dL_law_597 (by decide) ?_
                            refine wl_iadd dL_law_598 ?_
                            refine wl_sld dL_law_599 hi1 ?_
                            refine wl_callV0 (as := [.int (xs (x4 + 1).toNatClampNeg)]) dL_law_600 cb_X12_map lk_L_71 im_X12_map se_X12_map (i := 103) (ci := 11) ⟨by decide, rfl⟩ rfl (by decide) rfl (Nat.le_of_ble_eq_true rfl) ⟨by decide, by decide⟩ hc1 hs1 hb (fun r0 h2 hb => ?_)
                            obtain ⟨r2, rfl, e1, hI2⟩ := hb
                            exact wl_icmp_eq (tgt := 1104) dL_law_603 (by decide) (fun _ => hgo _ _ _ (by omega) (by omega) hI2) (fun c => absurd e1.symm c)
                          · skip
                            refine wl_case 12 (fun c12 => ?_) (fun c12 => ?_)
                            · refine wl_tableIn (v := 12) (tgt := 608) dL_law_40 c12 (by decide) (by decide) rfl (by decide) ?_
                              refine wl_aload_n 1 dL_law_608 rfl rfl ?_
                              refine wl_aload_n 0 dL_law_609 rfl rfl ?_
                              refine wl_iload 4 dL_law_610 rfl ?_
                              refine wl_iconst (v := 1) dL_law_612 (by decide) ?_
                              refine wl_iadd dL_law_613 ?_
                              refine wl_sld dL_law_614 hi1 ?_
                              refine wl_aload_n 0 dL_law_615 rfl rfl ?_
                              refine wl_iload 4 dL_law_616 rfl ?_
                              refine wl_iconst (v := 2) dL_law_618 (by decide) ?_
                              refine wl_iadd dL_law_619 ?_
                              refine wl_sld dL_law_620 hi2 ?_
                              have hb := hO.2.2.2.2.2.2.2.2.2.2.2.2.1 h (xs (x4 + 1).toNatClampNeg) (xs (x4 + 2).toNatClampNeg) hI
                              refine wl_callV0 (as := [.int (xs (x4 + 1).toNatClampNeg), .int (xs (x4 + 2).toNatClampNeg)]) dL_law_621 cb_X9_met lk_L_72 im_X9_met se_X9_met (i := 1) (ci := 8) ⟨by decide, rfl⟩ rfl (by decide) rfl (Nat.le_of_ble_eq_true rfl) ⟨by decide, by decide⟩ hc1 hs1 hb (fun r0 h1 hb => ?_)
                              obtain ⟨r, rfl, hb⟩ := hb
                              refine wl_aload_n 2 dL_law_624 rfl rfl ?_
                              refine wl_aload_n 0 dL_law_625 rfl rfl ?_
                              refine wl_iload 4 dL_law_626 rfl ?_
                              refine wl_iconst (v := 1) dL_law_628 (by decide) ?_
                              refine wl_iadd dL_law_629 ?_
                              refine wl_sld dL_law_630 hi1 ?_
                              refine wl_aload_n 0 dL_law_631 rfl rfl ?_
                              refine wl_iload 4 dL_law_632 rfl ?_
                              refine wl_iconst (v := 2) dL_law_634 (by decide) ?_
                              refine wl_iadd dL_law_635 ?_
                              refine wl_sld dL_law_636 hi2 ?_
                              refine wl_callV0 (as := [.int (xs (x4 + 1).toNatClampNeg), .int (xs (x4 + 2).toNatClampNeg)]) dL_law_637 cb_X12_met lk_L_75 im_X12_met se_X12_met (i := 103) (ci := 11) ⟨by decide, rfl⟩ rfl (by decide) rfl (Nat.le_of_ble_eq_true rfl) ⟨by decide, by decide⟩ hc1 hs1 hb (fun r0 h2 hb => ?_)
                              obtain ⟨r2, rfl, e1, hI2⟩ := hb
                              exact wl_icmp_eq (tgt := 1104) dL_law_640 (by decide) (fun _ => hgo _ _ _ (by omega) (by omega) hI2) (fun c => absurd e1.symm c)
                            · skip
                              refine wl_case 13 (fun c13 => ?_) (fun c13 => ?_)
                              · refine wl_tableIn (v := 13) (tgt := 645) dL_law_40 c13 (by decide) (by decide) rfl (by decide) ?_
                                refine wl_aload_n 1 dL_law_645 rfl rfl ?_
                                refine wl_aload_n 0 dL_law_646 rfl rfl ?_
                                refine wl_iload 4 dL_law_647 rfl ?_
                                refine wl_iconst (v := 1) dL_law_649 (by decide) ?_
                                refine wl_iadd dL_law_650 ?_
                                refine wl_sld dL_law_651 hi1 ?_
                                refine wl_aload_n 0 dL_law_652 rfl rfl ?_
                                refine wl_iload 4 dL_law_653 rfl ?_
                                refine wl_iconst (v := 2) dL_law_655 (by decide) ?_
                                refine wl_iadd dL_law_656 ?_
                                refine wl_sld dL_law_657 hi2 ?_
                                have hb := hO.2.2.2.2.2.2.2.2.2.2.2.2.2.1 h (xs (x4 + 1).toNatClampNeg) (xs (x4 + 2).toNatClampNeg) hI
                                refine wl_callV0 (as := [.int (xs (x4 + 1).toNatClampNeg), .int (xs (x4 + 2).toNatClampNeg)]) dL_law_658 cb_X9_leads lk_L_76 im_X9_leads se_X9_leads (i := 1) (ci := 8) ⟨by decide, rfl⟩ rfl (by decide) rfl (Nat.le_of_ble_eq_true rfl) ⟨by decide, by decide⟩ hc1 hs1 hb (fun r0 h1 hb => ?_)
                                obtain ⟨r, rfl, hb⟩ := hb
                                refine wl_aload_n 2 dL_law_661 rfl rfl ?_
                                refine wl_aload_n 0 dL_law_662 rfl rfl ?_
                                refine wl_iload 4 dL_law_663 rfl ?_
                                refine wl_iconst (v := 1) dL_law_665 (by decide) ?_
                                refine wl_iadd dL_law_666 ?_
                                refine wl_sld dL_law_667 hi1 ?_
                                refine wl_aload_n 0 dL_law_668 rfl rfl ?_
                                refine wl_iload 4 dL_law_669 rfl ?_
                                refine wl_iconst (v := 2) dL_law_671 (by decide) ?_
                                refine wl_iadd dL_law_672 ?_
                                refine wl_sld dL_law_673 hi2 ?_
                                refine wl_callV0 (as := [.int (xs (x4 + 1).toNatClampNeg), .int (xs (x4 + 2).toNatClampNeg)]) dL_law_674 cb_X12_leads lk_L_79 im_X12_leads se_X12_leads (i := 103) (ci := 11) ⟨by decide, rfl⟩ rfl (by decide) rfl (Nat.le_of_ble_eq_true rfl) ⟨by decide, by decide⟩ hc1 hs1 hb (fun r0 h2 hb => ?_)
                                obtain ⟨r2, rfl, e1, hI2⟩ := hb
                                exact wl_icmp_eq (tgt := 1104) dL_law_677 (by decide) (fun _ => hgo _ _ _ (by omega) (by omega) hI2) (fun c => absurd e1.symm c)
                              · skip
                                refine wl_case 14 (fun c14 => ?_) (fun c14 => ?_)
                                · refine wl_tableIn (v := 14) (tgt := 682) dL_law_40 c14 (by decide) (by decide) rfl (by decide) ?_
                                  refine wl_aload_n 1 dL_law_682 rfl rfl ?_
                                  refine wl_aload_n 0 dL_law_683 rfl rfl ?_
                                  refine wl_iload 4 dL_law_684 rfl ?_
                                  refine wl_iconst (v := 1) dL_law_686 (by decide) ?_
                                  refine wl_iadd dL_law_687 ?_
                                  refine wl_sld dL_law_688 hi1 ?_
                                  have hb := hO.2.2.2.2.2.2.2.2.2.2.2.2.2.2.1 h (xs (x4 + 1).toNatClampNeg) hI
                                  refine wl_callV0 (as := [.int (xs (x4 + 1).toNatClampNeg)]) dL_law_689 cb_X9_rowTo lk_L_80 im_X9_rowTo se_X9_rowTo (i := 1) (ci := 8) ⟨by decide, rfl⟩ rfl (by decide) rfl (Nat.le_of_ble_eq_true rfl) ⟨by decide, by decide⟩ hc1 hs1 hb (fun r0 h1 hb => ?_)
                                  obtain ⟨r, rfl, hb⟩ := hb
                                  refine wl_aload_n 2 dL_law_692 rfl rfl ?_
                                  refine wl_aload_n 0 dL_law_693 rfl rfl ?_
                                  refine wl_iload 4 dL_law_694 rfl ?_
                                  refine wl_iconst (v := 1) dL_law_696 (by decide) ?_
                                  refine wl_iadd dL_law_697 ?_
                                  refine wl_sld dL_law_698 hi1 ?_
                                  refine wl_callV0 (as := [.int (xs (x4 + 1).toNatClampNeg)]) dL_law_699 cb_X12_rowTo lk_L_83 im_X12_rowTo se_X12_rowTo (i := 103) (ci := 11) ⟨by decide, rfl⟩ rfl (by decide) rfl (Nat.le_of_ble_eq_true rfl) ⟨by decide, by decide⟩ hc1 hs1 hb (fun r0 h2 hb => ?_)
                                  obtain ⟨r2, rfl, e1, hI2⟩ := hb
                                  exact wl_icmp_eq (tgt := 1104) dL_law_702 (by decide) (fun _ => hgo _ _ _ (by omega) (by omega) hI2) (fun c => absurd e1.symm c)
                                · skip
                                  refine wl_case 15 (fun c15 => ?_) (fun c15 => ?_)
                                  · refine wl_tableIn (v := 15) (tgt := 707) dL_law_40 c15 (by decide) (by decide) rfl (by decide) ?_
                                    refine wl_aload_n 1 dL_law_707 rfl rfl ?_
                                    refine wl_aload_n 0 dL_law_708 rfl rfl ?_
                                    refine wl_iload 4 dL_law_709 rfl ?_
                                    refine wl_iconst (v := 1) dL_law_711 (by decide) ?_
                                    refine wl_iadd dL_law_712 ?_
                                    refine wl_sld dL_law_713 hi1 ?_
                                    have hb := hO.2.2.2.2.2.2.2.2.2.2.2.2.2.2.2.1 h (xs (x4 + 1).toNatClampNeg) hI
                                    refine wl_callV0 (as := [.int (xs (x4 + 1).toNatClampNeg)]) dL_law_714 cb_X9_faultAt lk_L_84 im_X9_faultAt se_X9_faultAt (i := 1) (ci := 8) ⟨by decide, rfl⟩ rfl (by decide) rfl (Nat.le_of_ble_eq_true rfl) ⟨by decide, by decide⟩ hc1 hs1 hb (fun r0 h1 hb => ?_)
                                    obtain ⟨r, rfl, hb⟩ := hb
                                    refine wl_aload_n 2 dL_law_717 rfl rfl ?_
                                    refine wl_aload_n 0 dL_law_718 rfl rfl ?_
                                    refine wl_iload 4 dL_law_719 rfl ?_
                                    refine wl_iconst (v := 1) dL_law_721 (by decide) ?_
                                    refine wl_iadd dL_law_722 ?_
                                    refine wl_sld dL_law_723 hi1 ?_
                                    refine wl_callV0 (as := [.int (xs (x4 + 1).toNatClampNeg)]) dL_law_724 cb_X12_faultAt lk_L_87 im_X12_faultAt se_X12_faultAt (i := 103) (ci := 11) ⟨by decide, rfl⟩ rfl (by decide) rfl (Nat.le_of_ble_eq_true rfl) ⟨by decide, by decide⟩ hc1 hs1 hb (fun r0 h2 hb => ?_)
                                    obtain ⟨r2, rfl, e1, hI2⟩ := hb
                                    exact wl_icmp_eq (tgt := 1104) dL_law_727 (by decide) (fun _ => hgo _ _ _ (by omega) (by omega) hI2) (fun c => absurd e1.symm c)
                                  · skip
                                    refine wl_case 16 (fun c16 => ?_) (fun c16 => ?_)
                                    · refine wl_tableIn (v := 16) (tgt := 732) dL_law_40 c16 (by decide) (by decide) rfl (by decide) ?_
                                      refine wl_aload_n 1 dL_law_732 rfl rfl ?_
                                      refine wl_aload_n 0 dL_law_733 rfl rfl ?_
                                      refine wl_iload 4 dL_law_734 rfl ?_
                                      refine wl_iconst (v := 1) dL_law_736 (by decide) ?_
                                      refine wl_iadd dL_law_737 ?_
                                      refine wl_sld dL_law_738 hi1 ?_
                                      have hb := hO.2.2.2.2.2.2.2.2.2.2.2.2.2.2.2.2.1 h (xs (x4 + 1).toNatClampNeg) hI
                                      refine wl_callV0 (as := [.int (xs (x4 + 1).toNatClampNeg)]) dL_law_739 cb_X9_pressedAt lk_L_88 im_X9_pressedAt se_X9_pressedAt (i := 1) (ci := 8) ⟨by decide, rfl⟩ rfl (by decide) rfl (Nat.le_of_ble_eq_true rfl) ⟨by decide, by decide⟩ hc1 hs1 hb (fun r0 h1 hb => ?_)
                                      obtain ⟨r, rfl, hb⟩ := hb
                                      refine wl_aload_n 2 dL_law_742 rfl rfl ?_
                                      refine wl_aload_n 0 dL_law_743 rfl rfl ?_
                                      refine wl_iload 4 dL_law_744 rfl ?_
                                      refine wl_iconst (v := 1) dL_law_746 (by decide) ?_
                                      refine wl_iadd dL_law_747 ?_
                                      refine wl_sld dL_law_748 hi1 ?_
                                      refine wl_callV0 (as := [.int (xs (x4 + 1).toNatClampNeg)]) dL_law_749 cb_X12_pressedAt lk_L_91 im_X12_pressedAt se_X12_pressedAt (i := 103) (ci := 11) ⟨by decide, rfl⟩ rfl (by decide) rfl (Nat.le_of_ble_eq_true rfl) ⟨by decide, by decide⟩ hc1 hs1 hb (fun r0 h2 hb => ?_)
                                      obtain ⟨r2, rfl, e1, hI2⟩ := hb
                                      exact wl_icmp_eq (tgt := 1104) dL_law_752 (by decide) (fun _ => hgo _ _ _ (by omega) (by omega) hI2) (fun c => absurd e1.symm c)
                                    · skip
                                      refine wl_case 17 (fun c17 => ?_) (fun c17 => ?_)
                                      · refine wl_tableIn (v := 17) (tgt := 757) dL_law_40 c17 (by decide) (by decide) rfl (by decide) ?_
                                        refine wl_aload_n 1 dL_law_757 rfl rfl ?_
                                        have hb := hO.2.2.2.2.2.2.2.2.2.2.2.2.2.2.2.2.2.1 h  hI
                                        refine wl_callV0 (as := []) dL_law_758 cb_X9_never lk_L_92 im_X9_never se_X9_never (i := 1) (ci := 8) ⟨by decide, rfl⟩ rfl (by decide) rfl (Nat.le_of_ble_eq_true rfl) ⟨by decide, by decide⟩ hc1 hs1 hb (fun r0 h1 hb => ?_)
                                        obtain ⟨r, rfl, hb⟩ := hb
                                        refine wl_aload_n 2 dL_law_761 rfl rfl ?_
                                        refine wl_callV0 (as := []) dL_law_762 cb_X12_never lk_L_95 im_X12_never se_X12_never (i := 103) (ci := 11) ⟨by decide, rfl⟩ rfl (by decide) rfl (Nat.le_of_ble_eq_true rfl) ⟨by decide, by decide⟩ hc1 hs1 hb (fun r0 h2 hb => ?_)
                                        obtain ⟨r2, rfl, e1, hI2⟩ := hb
                                        exact wl_icmp_eq (tgt := 1104) dL_law_765 (by decide) (fun _ => hgo _ _ _ (by omega) (by omega) hI2) (fun c => absurd e1.symm c)
                                      · skip
                                        refine wl_case 18 (fun c18 => ?_) (fun c18 => ?_)
                                        · refine wl_tableIn (v := 18) (tgt := 770) dL_law_40 c18 (by decide) (by decide) rfl (by decide) ?_
                                          refine wl_aload_n 1 dL_law_770 rfl rfl ?_
                                          refine wl_aload_n 0 dL_law_771 rfl rfl ?_
                                          refine wl_iload 4 dL_law_772 rfl ?_
                                          refine wl_iconst (v := 1) dL_law_774 (by decide) ?_
                                          refine wl_iadd dL_law_775 ?_
                                          refine wl_sld dL_law_776 hi1 ?_
                                          refine wl_aload_n 0 dL_law_777 rfl rfl ?_
                                          refine wl_iload 4 dL_law_778 rfl ?_
                                          refine wl_iconst (v := 2) dL_law_780 (by decide) ?_
                                          refine wl_iadd dL_law_781 ?_
                                          refine wl_sld dL_law_782 hi2 ?_
                                          have hb := hO.2.2.2.2.2.2.2.2.2.2.2.2.2.2.2.2.2.2.1 h (xs (x4 + 1).toNatClampNeg) (xs (x4 + 2).toNatClampNeg) hI
                                          refine wl_callV0 (as := [.int (xs (x4 + 1).toNatClampNeg), .int (xs (x4 + 2).toNatClampNeg)]) dL_law_783 cb_X9_holdsAt lk_L_96 im_X9_holdsAt se_X9_holdsAt (i := 1) (ci := 8) ⟨by decide, rfl⟩ rfl (by decide) rfl (Nat.le_of_ble_eq_true rfl) ⟨by decide, by decide⟩ hc1 hs1 hb (fun r0 h1 hb => ?_)
                                          obtain ⟨r, rfl, hb⟩ := hb
                                          refine wl_aload_n 2 dL_law_786 rfl rfl ?_
                                          refine wl_aload_n 0 dL_law_787 rfl rfl ?_
                                          refine wl_iload 4 dL_law_788 rfl ?_
                                          refine wl_iconst (v := 1) dL_law_790 (by decide) ?_
                                          refine wl_iadd dL_law_791 ?_
                                          refine wl_sld dL_law_792 hi1 ?_
                                          refine wl_aload_n 0 dL_law_793 rfl rfl ?_
                                          refine wl_iload 4 dL_law_794 rfl ?_
                                          refine wl_iconst (v := 2) dL_law_796 (by decide) ?_
                                          refine wl_iadd dL_law_797 ?_
                                          refine wl_sld dL_law_798 hi2 ?_
                                          refine wl_callV0 (as := [.int (xs (x4 + 1).toNatClampNeg), .int (xs (x4 + 2).toNatClampNeg)]) dL_law_799 cb_X12_holdsAt lk_L_99 im_X12_holdsAt se_X12_holdsAt (i := 103) (ci := 11) ⟨by decide, rfl⟩ rfl (by decide) rfl (Nat.le_of_ble_eq_true rfl) ⟨by decide, by decide⟩ hc1 hs1 hb (fun r0 h2 hb => ?_)
                                          obtain ⟨r2, rfl, e1, hI2⟩ := hb
                                          exact wl_icmp_eq (tgt := 1104) dL_law_802 (by decide) (fun _ => hgo _ _ _ (by omega) (by omega) hI2) (fun c => absurd e1.symm c)
                                        · skip
                                          refine wl_case 19 (fun c19 => ?_) (fun c19 => ?_)
                                          · refine wl_tableIn (v := 19) (tgt := 807) dL_law_40 c19 (by decide) (by decide) rfl (by decide) ?_
                                            refine wl_aload_n 1 dL_law_807 rfl rfl ?_
                                            refine wl_aload_n 0 dL_law_808 rfl rfl ?_
                                            refine wl_iload 4 dL_law_809 rfl ?_
                                            refine wl_iconst (v := 1) dL_law_811 (by decide) ?_
                                            refine wl_iadd dL_law_812 ?_
                                            refine wl_sld dL_law_813 hi1 ?_
                                            have hb := hO.2.2.2.2.2.2.2.2.2.2.2.2.2.2.2.2.2.2.2.1 h (xs (x4 + 1).toNatClampNeg) hI
                                            refine wl_callV0 (as := [.int (xs (x4 + 1).toNatClampNeg)]) dL_law_814 cb_X9_stuck lk_L_100 im_X9_stuck se_X9_stuck (i := 1) (ci := 8) ⟨by decide, rfl⟩ rfl (by decide) rfl (Nat.le_of_ble_eq_true rfl) ⟨by decide, by decide⟩ hc1 hs1 hb (fun r0 h1 hb => ?_)
                                            obtain ⟨r, rfl, hb⟩ := hb
                                            refine wl_aload_n 2 dL_law_817 rfl rfl ?_
                                            refine wl_aload_n 0 dL_law_818 rfl rfl ?_
                                            refine wl_iload 4 dL_law_819 rfl ?_
                                            refine wl_iconst (v := 1) dL_law_821 (by decide) ?_
                                            refine wl_iadd dL_law_822 ?_
                                            refine wl_sld dL_law_823 hi1 ?_
                                            refine wl_callV0 (as := [.int (xs (x4 + 1).toNatClampNeg)]) dL_law_824 cb_X12_stuck lk_L_103 im_X12_stuck se_X12_stuck (i := 103) (ci := 11) ⟨by decide, rfl⟩ rfl (by decide) rfl (Nat.le_of_ble_eq_true rfl) ⟨by decide, by decide⟩ hc1 hs1 hb (fun r0 h2 hb => ?_)
                                            obtain ⟨r2, rfl, e1, hI2⟩ := hb
                                            exact wl_icmp_eq (tgt := 1104) dL_law_827 (by decide) (fun _ => hgo _ _ _ (by omega) (by omega) hI2) (fun c => absurd e1.symm c)
                                          · skip
                                            refine wl_case 20 (fun c20 => ?_) (fun c20 => ?_)
                                            · refine wl_tableIn (v := 20) (tgt := 832) dL_law_40 c20 (by decide) (by decide) rfl (by decide) ?_
                                              refine wl_aload_n 1 dL_law_832 rfl rfl ?_
                                              have hb := hO.2.2.2.2.2.2.2.2.2.2.2.2.2.2.2.2.2.2.2.2.1 h  hI
                                              refine wl_callV0 (as := []) dL_law_833 cb_X9_least lk_L_104 im_X9_least se_X9_least (i := 1) (ci := 8) ⟨by decide, rfl⟩ rfl (by decide) rfl (Nat.le_of_ble_eq_true rfl) ⟨by decide, by decide⟩ hc1 hs1 hb (fun r0 h1 hb => ?_)
                                              obtain ⟨r, rfl, hb⟩ := hb
                                              refine wl_aload_n 2 dL_law_836 rfl rfl ?_
                                              refine wl_callV0 (as := []) dL_law_837 cb_X12_least lk_L_107 im_X12_least se_X12_least (i := 103) (ci := 11) ⟨by decide, rfl⟩ rfl (by decide) rfl (Nat.le_of_ble_eq_true rfl) ⟨by decide, by decide⟩ hc1 hs1 hb (fun r0 h2 hb => ?_)
                                              obtain ⟨r2, rfl, e1, hI2⟩ := hb
                                              exact wl_icmp_eq (tgt := 1104) dL_law_840 (by decide) (fun _ => hgo _ _ _ (by omega) (by omega) hI2) (fun c => absurd e1.symm c)
                                            · skip
                                              refine wl_case 21 (fun c21 => ?_) (fun c21 => ?_)
                                              · refine wl_tableIn (v := 21) (tgt := 845) dL_law_40 c21 (by decide) (by decide) rfl (by decide) ?_
                                                refine wl_aload_n 1 dL_law_845 rfl rfl ?_
                                                have hb := hO.2.2.2.2.2.2.2.2.2.2.2.2.2.2.2.2.2.2.2.2.2.1 h  hI
                                                refine wl_callV0 (as := []) dL_law_846 cb_X9_views lk_L_108 im_X9_views se_X9_views (i := 1) (ci := 8) ⟨by decide, rfl⟩ rfl (by decide) rfl (Nat.le_of_ble_eq_true rfl) ⟨by decide, by decide⟩ hc1 hs1 hb (fun r0 h1 hb => ?_)
                                                obtain ⟨r, rfl, hb⟩ := hb
                                                refine wl_aload_n 2 dL_law_849 rfl rfl ?_
                                                refine wl_callV0 (as := []) dL_law_850 cb_X12_views lk_L_111 im_X12_views se_X12_views (i := 103) (ci := 11) ⟨by decide, rfl⟩ rfl (by decide) rfl (Nat.le_of_ble_eq_true rfl) ⟨by decide, by decide⟩ hc1 hs1 hb (fun r0 h2 hb => ?_)
                                                obtain ⟨r2, rfl, e1, hI2⟩ := hb
                                                exact wl_icmp_eq (tgt := 1104) dL_law_853 (by decide) (fun _ => hgo _ _ _ (by omega) (by omega) hI2) (fun c => absurd e1.symm c)
                                              · skip
                                                refine wl_case 22 (fun c22 => ?_) (fun c22 => ?_)
                                                · refine wl_tableIn (v := 22) (tgt := 858) dL_law_40 c22 (by decide) (by decide) rfl (by decide) ?_
                                                  refine wl_aload_n 1 dL_law_858 rfl rfl ?_
                                                  have hb := hO.2.2.2.2.2.2.2.2.2.2.2.2.2.2.2.2.2.2.2.2.2.2.1 h  hI
                                                  refine wl_callV0 (as := []) dL_law_859 cb_X9_farthest lk_L_112 im_X9_farthest se_X9_farthest (i := 1) (ci := 8) ⟨by decide, rfl⟩ rfl (by decide) rfl (Nat.le_of_ble_eq_true rfl) ⟨by decide, by decide⟩ hc1 hs1 hb (fun r0 h1 hb => ?_)
                                                  obtain ⟨r, rfl, hb⟩ := hb
                                                  refine wl_aload_n 2 dL_law_862 rfl rfl ?_
                                                  refine wl_callV0 (as := []) dL_law_863 cb_X12_farthest lk_L_115 im_X12_farthest se_X12_farthest (i := 103) (ci := 11) ⟨by decide, rfl⟩ rfl (by decide) rfl (Nat.le_of_ble_eq_true rfl) ⟨by decide, by decide⟩ hc1 hs1 hb (fun r0 h2 hb => ?_)
                                                  obtain ⟨r2, rfl, e1, hI2⟩ := hb
                                                  exact wl_icmp_eq (tgt := 1104) dL_law_866 (by decide) (fun _ => hgo _ _ _ (by omega) (by omega) hI2) (fun c => absurd e1.symm c)
                                                · skip
                                                  refine wl_case 23 (fun c23 => ?_) (fun c23 => ?_)
                                                  · refine wl_tableIn (v := 23) (tgt := 871) dL_law_40 c23 (by decide) (by decide) rfl (by decide) ?_
                                                    refine wl_aload_n 1 dL_law_871 rfl rfl ?_
                                                    have hb := hO.2.2.2.2.2.2.2.2.2.2.2.2.2.2.2.2.2.2.2.2.2.2.2.1 h  hI
                                                    refine wl_callV0 (as := []) dL_law_872 cb_X9_ways lk_L_116 im_X9_ways se_X9_ways (i := 1) (ci := 8) ⟨by decide, rfl⟩ rfl (by decide) rfl (Nat.le_of_ble_eq_true rfl) ⟨by decide, by decide⟩ hc1 hs1 hb (fun r0 h1 hb => ?_)
                                                    obtain ⟨r, rfl, hb⟩ := hb
                                                    refine wl_aload_n 2 dL_law_875 rfl rfl ?_
                                                    refine wl_callV0 (as := []) dL_law_876 cb_X12_ways lk_L_119 im_X12_ways se_X12_ways (i := 103) (ci := 11) ⟨by decide, rfl⟩ rfl (by decide) rfl (Nat.le_of_ble_eq_true rfl) ⟨by decide, by decide⟩ hc1 hs1 hb (fun r0 h2 hb => ?_)
                                                    obtain ⟨r2, rfl, e1, hI2⟩ := hb
                                                    exact wl_icmp_eq (tgt := 1104) dL_law_879 (by decide) (fun _ => hgo _ _ _ (by omega) (by omega) hI2) (fun c => absurd e1.symm c)
                                                  · skip
                                                    refine wl_case 24 (fun c24 => ?_) (fun c24 => ?_)
                                                    · refine wl_tableIn (v := 24) (tgt := 884) dL_law_40 c24 (by decide) (by decide) rfl (by decide) ?_
                                                      refine wl_aload_n 1 dL_law_884 rfl rfl ?_
                                                      refine wl_aload_n 0 dL_law_885 rfl rfl ?_
                                                      refine wl_iload 4 dL_law_886 rfl ?_
                                                      refine wl_iconst (v := 1) dL_law_888 (by decide) ?_
                                                      refine wl_iadd dL_law_889 ?_
                                                      refine wl_sld dL_law_890 hi1 ?_
                                                      have hb := hO.2.2.2.2.2.2.2.2.2.2.2.2.2.2.2.2.2.2.2.2.2.2.2.2.1 h (xs (x4 + 1).toNatClampNeg) hI
                                                      refine wl_callV0 (as := [.int (xs (x4 + 1).toNatClampNeg)]) dL_law_891 cb_X9_push lk_L_120 im_X9_push se_X9_push (i := 1) (ci := 8) ⟨by decide, rfl⟩ rfl (by decide) rfl (Nat.le_of_ble_eq_true rfl) ⟨by decide, by decide⟩ hc1 hs1 hb (fun r0 h1 hb => ?_)
                                                      obtain ⟨r, rfl, hb⟩ := hb
                                                      refine wl_aload_n 2 dL_law_894 rfl rfl ?_
                                                      refine wl_aload_n 0 dL_law_895 rfl rfl ?_
                                                      refine wl_iload 4 dL_law_896 rfl ?_
                                                      refine wl_iconst (v := 1) dL_law_898 (by decide) ?_
                                                      refine wl_iadd dL_law_899 ?_
                                                      refine wl_sld dL_law_900 hi1 ?_
                                                      refine wl_callV0 (as := [.int (xs (x4 + 1).toNatClampNeg)]) dL_law_901 cb_X12_push lk_L_123 im_X12_push se_X12_push (i := 103) (ci := 11) ⟨by decide, rfl⟩ rfl (by decide) rfl (Nat.le_of_ble_eq_true rfl) ⟨by decide, by decide⟩ hc1 hs1 hb (fun r0 h2 hb => ?_)
                                                      obtain ⟨r2, rfl, e1, hI2⟩ := hb
                                                      exact wl_icmp_eq (tgt := 1104) dL_law_904 (by decide) (fun _ => hgo _ _ _ (by omega) (by omega) hI2) (fun c => absurd e1.symm c)
                                                    · skip
                                                      refine wl_case 25 (fun c25 => ?_) (fun c25 => ?_)
                                                      · refine wl_tableIn (v := 25) (tgt := 909) dL_law_40 c25 (by decide) (by decide) rfl (by decide) ?_
                                                        refine wl_aload_n 1 dL_law_909 rfl rfl ?_
                                                        refine wl_aload_n 0 dL_law_910 rfl rfl ?_
                                                        refine wl_iload 4 dL_law_911 rfl ?_
                                                        refine wl_iconst (v := 1) dL_law_913 (by decide) ?_
                                                        refine wl_iadd dL_law_914 ?_
                                                        refine wl_sld dL_law_915 hi1 ?_
                                                        have hb := hO.2.2.2.2.2.2.2.2.2.2.2.2.2.2.2.2.2.2.2.2.2.2.2.2.2.1 h (xs (x4 + 1).toNatClampNeg) hI
                                                        refine wl_callV0 (as := [.int (xs (x4 + 1).toNatClampNeg)]) dL_law_916 cb_X9_cut lk_L_124 im_X9_cut se_X9_cut (i := 1) (ci := 8) ⟨by decide, rfl⟩ rfl (by decide) rfl (Nat.le_of_ble_eq_true rfl) ⟨by decide, by decide⟩ hc1 hs1 hb (fun r0 h1 hb => ?_)
                                                        obtain ⟨r, rfl, hb⟩ := hb
                                                        refine wl_aload_n 2 dL_law_919 rfl rfl ?_
                                                        refine wl_aload_n 0 dL_law_920 rfl rfl ?_
                                                        refine wl_iload 4 dL_law_921 rfl ?_
                                                        refine wl_iconst (v := 1) dL_law_923 (by decide) ?_
                                                        refine wl_iadd dL_law_924 ?_
                                                        refine wl_sld dL_law_925 hi1 ?_
                                                        refine wl_callV0 (as := [.int (xs (x4 + 1).toNatClampNeg)]) dL_law_926 cb_X12_cut lk_L_127 im_X12_cut se_X12_cut (i := 103) (ci := 11) ⟨by decide, rfl⟩ rfl (by decide) rfl (Nat.le_of_ble_eq_true rfl) ⟨by decide, by decide⟩ hc1 hs1 hb (fun r0 h2 hb => ?_)
                                                        obtain ⟨r2, rfl, e1, hI2⟩ := hb
                                                        exact wl_icmp_eq (tgt := 1104) dL_law_929 (by decide) (fun _ => hgo _ _ _ (by omega) (by omega) hI2) (fun c => absurd e1.symm c)
                                                      · skip
                                                        refine wl_case 26 (fun c26 => ?_) (fun c26 => ?_)
                                                        · refine wl_tableIn (v := 26) (tgt := 934) dL_law_40 c26 (by decide) (by decide) rfl (by decide) ?_
                                                          refine wl_aload_n 1 dL_law_934 rfl rfl ?_
                                                          refine wl_aload_n 0 dL_law_935 rfl rfl ?_
                                                          refine wl_iload 4 dL_law_936 rfl ?_
                                                          refine wl_iconst (v := 1) dL_law_938 (by decide) ?_
                                                          refine wl_iadd dL_law_939 ?_
                                                          refine wl_sld dL_law_940 hi1 ?_
                                                          have hb := hO.2.2.2.2.2.2.2.2.2.2.2.2.2.2.2.2.2.2.2.2.2.2.2.2.2.2.1 h (xs (x4 + 1).toNatClampNeg) hI
                                                          refine wl_callV0 (as := [.int (xs (x4 + 1).toNatClampNeg)]) dL_law_941 cb_X9_tryRow lk_L_128 im_X9_tryRow se_X9_tryRow (i := 1) (ci := 8) ⟨by decide, rfl⟩ rfl (by decide) rfl (Nat.le_of_ble_eq_true rfl) ⟨by decide, by decide⟩ hc1 hs1 hb (fun r0 h1 hb => ?_)
                                                          obtain ⟨r, rfl, hb⟩ := hb
                                                          refine wl_aload_n 2 dL_law_944 rfl rfl ?_
                                                          refine wl_aload_n 0 dL_law_945 rfl rfl ?_
                                                          refine wl_iload 4 dL_law_946 rfl ?_
                                                          refine wl_iconst (v := 1) dL_law_948 (by decide) ?_
                                                          refine wl_iadd dL_law_949 ?_
                                                          refine wl_sld dL_law_950 hi1 ?_
                                                          refine wl_callV0 (as := [.int (xs (x4 + 1).toNatClampNeg)]) dL_law_951 cb_X12_tryRow lk_L_131 im_X12_tryRow se_X12_tryRow (i := 103) (ci := 11) ⟨by decide, rfl⟩ rfl (by decide) rfl (Nat.le_of_ble_eq_true rfl) ⟨by decide, by decide⟩ hc1 hs1 hb (fun r0 h2 hb => ?_)
                                                          obtain ⟨r2, rfl, e1, hI2⟩ := hb
                                                          exact wl_icmp_eq (tgt := 1104) dL_law_954 (by decide) (fun _ => hgo _ _ _ (by omega) (by omega) hI2) (fun c => absurd e1.symm c)
                                                        · skip
                                                          refine wl_case 27 (fun c27 => ?_) (fun c27 => ?_)
                                                          · refine wl_tableIn (v := 27) (tgt := 959) dL_law_40 c27 (by decide) (by decide) rfl (by decide) ?_
                                                            refine wl_aload_n 1 dL_law_959 rfl rfl ?_
                                                            have hb := hO.2.2.2.2.2.2.2.2.2.2.2.2.2.2.2.2.2.2.2.2.2.2.2.2.2.2.2.1 h  hI
                                                            refine wl_callV0 (as := []) dL_law_960 cb_X9_tried lk_L_132 im_X9_tried se_X9_tried (i := 1) (ci := 8) ⟨by decide, rfl⟩ rfl (by decide) rfl (Nat.le_of_ble_eq_true rfl) ⟨by decide, by decide⟩ hc1 hs1 hb (fun r0 h1 hb => ?_)
                                                            obtain ⟨r, rfl, hb⟩ := hb
                                                            refine wl_aload_n 2 dL_law_963 rfl rfl ?_
                                                            refine wl_callV0 (as := []) dL_law_964 cb_X12_tried lk_L_135 im_X12_tried se_X12_tried (i := 103) (ci := 11) ⟨by decide, rfl⟩ rfl (by decide) rfl (Nat.le_of_ble_eq_true rfl) ⟨by decide, by decide⟩ hc1 hs1 hb (fun r0 h2 hb => ?_)
                                                            obtain ⟨r2, rfl, e1, hI2⟩ := hb
                                                            exact wl_icmp_eq (tgt := 1104) dL_law_967 (by decide) (fun _ => hgo _ _ _ (by omega) (by omega) hI2) (fun c => absurd e1.symm c)
                                                          · skip
                                                            refine wl_case 28 (fun c28 => ?_) (fun c28 => ?_)
                                                            · refine wl_tableIn (v := 28) (tgt := 972) dL_law_40 c28 (by decide) (by decide) rfl (by decide) ?_
                                                              refine wl_aload_n 1 dL_law_972 rfl rfl ?_
                                                              refine wl_aload_n 0 dL_law_973 rfl rfl ?_
                                                              refine wl_iload 4 dL_law_974 rfl ?_
                                                              refine wl_iconst (v := 1) dL_law_976 (by decide) ?_
                                                              refine wl_iadd dL_law_977 ?_
                                                              refine wl_sld dL_law_978 hi1 ?_
                                                              have hb := hO.2.2.2.2.2.2.2.2.2.2.2.2.2.2.2.2.2.2.2.2.2.2.2.2.2.2.2.2.1 h (xs (x4 + 1).toNatClampNeg) hI
                                                              refine wl_callV0 (as := [.int (xs (x4 + 1).toNatClampNeg)]) dL_law_979 cb_X9_shorter lk_L_136 im_X9_shorter se_X9_shorter (i := 1) (ci := 8) ⟨by decide, rfl⟩ rfl (by decide) rfl (Nat.le_of_ble_eq_true rfl) ⟨by decide, by decide⟩ hc1 hs1 hb (fun r0 h1 hb => ?_)
                                                              obtain ⟨r, rfl, hb⟩ := hb
                                                              refine wl_aload_n 2 dL_law_982 rfl rfl ?_
                                                              refine wl_aload_n 0 dL_law_983 rfl rfl ?_
                                                              refine wl_iload 4 dL_law_984 rfl ?_
                                                              refine wl_iconst (v := 1) dL_law_986 (by decide) ?_
                                                              refine wl_iadd dL_law_987 ?_
                                                              refine wl_sld dL_law_988 hi1 ?_
                                                              refine wl_callV0 (as := [.int (xs (x4 + 1).toNatClampNeg)]) dL_law_989 cb_X12_shorter lk_L_139 im_X12_shorter se_X12_shorter (i := 103) (ci := 11) ⟨by decide, rfl⟩ rfl (by decide) rfl (Nat.le_of_ble_eq_true rfl) ⟨by decide, by decide⟩ hc1 hs1 hb (fun r0 h2 hb => ?_)
                                                              obtain ⟨r2, rfl, e1, hI2⟩ := hb
                                                              exact wl_icmp_eq (tgt := 1104) dL_law_992 (by decide) (fun _ => hgo _ _ _ (by omega) (by omega) hI2) (fun c => absurd e1.symm c)
                                                            · skip
                                                              refine wl_case 29 (fun c29 => ?_) (fun c29 => ?_)
                                                              · refine wl_tableIn (v := 29) (tgt := 997) dL_law_40 c29 (by decide) (by decide) rfl (by decide) ?_
                                                                refine wl_aload_n 1 dL_law_997 rfl rfl ?_
                                                                refine wl_aload_n 0 dL_law_998 rfl rfl ?_
                                                                refine wl_iload 4 dL_law_999 rfl ?_
                                                                refine wl_iconst (v := 1) dL_law_1001 (by decide) ?_
                                                                refine wl_iadd dL_law_1002 ?_
                                                                refine wl_sld dL_law_1003 hi1 ?_
                                                                refine wl_aload_n 3 dL_law_1004 rfl rfl ?_
                                                                have hb := hO.2.2.2.2.2.2.2.2.2.2.2.2.2.2.2.2.2.2.2.2.2.2.2.2.2.2.2.2.2.1 h (xs (x4 + 1).toNatClampNeg) hI
                                                                refine wl_callR dL_law_1005 lk_L_140 (Nat.le_of_ble_eq_true rfl) ⟨by decide, by decide⟩ hc2 hs2 hb (fun r h1 hb => ?_)
                                                                refine wl_istore (lv2 := [(5, .int r), (0, .ref 4000), (1, .ref 1), (2, .ref 103), (3, .ref 194), (4, .int x4)]) dL_law_1008 (by decide) rfl ?_
                                                                refine wl_aload_n 3 dL_law_1010 rfl rfl ?_
                                                                refine wl_aload_n 1 dL_law_1011 rfl rfl ?_
                                                                refine wl_iload 5 dL_law_1012 rfl ?_
                                                                refine wl_iconst (v := 1) dL_law_1014 (by decide) ?_
                                                                refine wl_iadd dL_law_1015 ?_
                                                                refine wl_sld dL_law_1016 hi1 ?_
                                                                refine wl_callV0 (as := [.int (xs (x4 + 1).toNatClampNeg)]) dL_law_1017 cb_X12_row lk_L_145 im_X12_row se_X12_row (i := 103) (ci := 11) ⟨by decide, rfl⟩ rfl (by decide) rfl (Nat.le_of_ble_eq_true rfl) ⟨by decide, by decide⟩ hc2 hs2 hb (fun r0 h2 hb => ?_)
                                                                obtain ⟨b, rfl, hb⟩ := hb
                                                                refine wl_istore (lv2 := [(6, .int b), (5, .int r), (0, .ref 4000), (1, .ref 1), (2, .ref 103), (3, .ref 194), (4, .int x4)]) dL_law_1020 (by decide) rfl ?_
                                                                refine wl_aload_n 4 dL_law_1022 rfl rfl ?_
                                                                refine wl_callV0 (as := []) dL_law_1023 cb_X12_thrown lk_L_146 im_X12_thrown se_X12_thrown (i := 103) (ci := 11) ⟨by decide, rfl⟩ rfl (by decide) rfl (Nat.le_of_ble_eq_true rfl) ⟨by decide, by decide⟩ hc2 hs2 hb (fun r0 h3 hb => ?_)
                                                                obtain ⟨t, rfl, e1, e2, hI2⟩ := hb
                                                                refine wl_iload 1 dL_law_1026 rfl ?_
                                                                refine wl_icmp_eq (tgt := 1033) dL_law_1028 (by decide) (fun _ => ?_) (fun c => absurd e1 c)
                                                                refine wl_iload 1 dL_law_1033 rfl ?_
                                                                refine wl_if_ne (tgt := 1050) dL_law_1035 (by decide) (fun _ => ?_) (fun cz => ?_)
                                                                · refine wl_goto (tgt := 1104) dL_law_1050 (by decide) ?_
                                                                  exact wl_sub [2, 3, 4, 5, 6] rfl (hgo _ _ _ (by omega) (by omega) hI2)
                                                                · refine wl_aload_n 5 dL_law_1038 rfl rfl ?_
                                                                  refine wl_iconst (v := 0) dL_law_1039 (by decide) ?_
                                                                  refine wl_laload dL_law_1040 ⟨by decide, rfl⟩ (show vp_in 0 1 from vp_in_nI (n := 0) (by decide) (by decide)) ?_
                                                                  refine wl_iload 0 dL_law_1041 rfl ?_
                                                                  refine wl_i2l dL_law_1043 ?_
                                                                  refine wl_lcmp dL_law_1044 ?_
                                                                  refine wl_if_eq (tgt := 1050) dL_law_1045 (by decide) (fun _ => ?_) (fun c => absurd ?_ c)
                                                                  · refine wl_goto (tgt := 1104) dL_law_1050 (by decide) ?_
                                                                    exact wl_sub [2, 3, 4, 5, 6] rfl (hgo _ _ _ (by omega) (by omega) hI2)
                                                                  · have e3 := e2 cz
                                                                    rw [show (0 : Int32).toNatClampNeg = 0 from rfl, e3]
                                                                    simp [lg_cmp]
                                                              · skip
                                                                refine wl_case 30 (fun c30 => ?_) (fun c30 => ?_)
                                                                · refine wl_tableIn (v := 30) (tgt := 1053) dL_law_40 c30 (by decide) (by decide) rfl (by decide) ?_
                                                                  refine wl_aload_n 1 dL_law_1053 rfl rfl ?_
                                                                  have hb := hO.2.2.2.2.2.2.2.2.2.2.2.2.2.2.2.2.2.2.2.2.2.2.2.2.2.2.2.2.2.2.1 h  hI
                                                                  refine wl_callV0 (as := []) dL_law_1054 cb_X9_apart lk_L_149 im_X9_apart se_X9_apart (i := 1) (ci := 8) ⟨by decide, rfl⟩ rfl (by decide) rfl (Nat.le_of_ble_eq_true rfl) ⟨by decide, by decide⟩ hc1 hs1 hb (fun r0 h1 hb => ?_)
                                                                  obtain ⟨r, rfl, hb⟩ := hb
                                                                  refine wl_aload_n 2 dL_law_1057 rfl rfl ?_
                                                                  refine wl_callV0 (as := []) dL_law_1058 cb_X12_apart lk_L_152 im_X12_apart se_X12_apart (i := 103) (ci := 11) ⟨by decide, rfl⟩ rfl (by decide) rfl (Nat.le_of_ble_eq_true rfl) ⟨by decide, by decide⟩ hc1 hs1 hb (fun r0 h2 hb => ?_)
                                                                  obtain ⟨r2, rfl, e1, hI2⟩ := hb
                                                                  exact wl_icmp_eq (tgt := 1104) dL_law_1061 (by decide) (fun _ => hgo _ _ _ (by omega) (by omega) hI2) (fun c => absurd e1.symm c)
                                                                · skip
                                                                  refine wl_case 31 (fun c31 => ?_) (fun c31 => ?_)
                                                                  · refine wl_tableIn (v := 31) (tgt := 1066) dL_law_40 c31 (by decide) (by decide) rfl (by decide) ?_
                                                                    refine wl_aload_n 1 dL_law_1066 rfl rfl ?_
                                                                    refine wl_aload_n 0 dL_law_1067 rfl rfl ?_
                                                                    refine wl_iload 4 dL_law_1068 rfl ?_
                                                                    refine wl_iconst (v := 1) dL_law_1070 (by decide) ?_
                                                                    refine wl_iadd dL_law_1071 ?_
                                                                    refine wl_sld dL_law_1072 hi1 ?_
                                                                    have hb := hO.2.2.2.2.2.2.2.2.2.2.2.2.2.2.2.2.2.2.2.2.2.2.2.2.2.2.2.2.2.2.2.1 h (xs (x4 + 1).toNatClampNeg) hI
                                                                    refine wl_callV0 (as := [.int (xs (x4 + 1).toNatClampNeg)]) dL_law_1073 cb_X9_count lk_L_153 im_X9_count se_X9_count (i := 1) (ci := 8) ⟨by decide, rfl⟩ rfl (by decide) rfl (Nat.le_of_ble_eq_true rfl) ⟨by decide, by decide⟩ hc1 hs1 hb (fun r0 h1 hb => ?_)
                                                                    obtain ⟨r, rfl, hb⟩ := hb
                                                                    refine wl_aload_n 2 dL_law_1076 rfl rfl ?_
                                                                    refine wl_aload_n 0 dL_law_1077 rfl rfl ?_
                                                                    refine wl_iload 4 dL_law_1078 rfl ?_
                                                                    refine wl_iconst (v := 1) dL_law_1080 (by decide) ?_
                                                                    refine wl_iadd dL_law_1081 ?_
                                                                    refine wl_sld dL_law_1082 hi1 ?_
                                                                    refine wl_callV0 (as := [.int (xs (x4 + 1).toNatClampNeg)]) dL_law_1083 cb_X12_count lk_L_156 im_X12_count se_X12_count (i := 103) (ci := 11) ⟨by decide, rfl⟩ rfl (by decide) rfl (Nat.le_of_ble_eq_true rfl) ⟨by decide, by decide⟩ hc1 hs1 hb (fun r0 h2 hb => ?_)
                                                                    obtain ⟨r2, rfl, e1, hI2⟩ := hb
                                                                    exact wl_icmp_eq (tgt := 1104) dL_law_1086 (by decide) (fun _ => hgo _ _ _ (by omega) (by omega) hI2) (fun c => absurd e1.symm c)
                                                                  · skip
                                                                    refine wl_case 32 (fun c32 => ?_) (fun c32 => ?_)
                                                                    · refine wl_tableIn (v := 32) (tgt := 1091) dL_law_40 c32 (by decide) (by decide) rfl (by decide) ?_
                                                                      refine wl_aload_n 1 dL_law_1091 rfl rfl ?_
                                                                      have hb := hO.2.2.2.2.2.2.2.2.2.2.2.2.2.2.2.2.2.2.2.2.2.2.2.2.2.2.2.2.2.2.2.2 h  hI
                                                                      refine wl_callV0 (as := []) dL_law_1092 cb_X9_trouble lk_L_157 im_X9_trouble se_X9_trouble (i := 1) (ci := 8) ⟨by decide, rfl⟩ rfl (by decide) rfl (Nat.le_of_ble_eq_true rfl) ⟨by decide, by decide⟩ hc1 hs1 hb (fun r0 h1 hb => ?_)
                                                                      obtain ⟨r, rfl, hb⟩ := hb
                                                                      refine wl_aload_n 2 dL_law_1095 rfl rfl ?_
                                                                      refine wl_callV0 (as := []) dL_law_1096 cb_X12_trouble lk_L_160 im_X12_trouble se_X12_trouble (i := 103) (ci := 11) ⟨by decide, rfl⟩ rfl (by decide) rfl (Nat.le_of_ble_eq_true rfl) ⟨by decide, by decide⟩ hc1 hs1 hb (fun r0 h2 hb => ?_)
                                                                      obtain ⟨r2, rfl, e1, hI2⟩ := hb
                                                                      exact wl_icmp_eq (tgt := 1104) dL_law_1099 (by decide) (fun _ => hgo _ _ _ (by omega) (by omega) hI2) (fun c => absurd e1.symm c)
                                                                    · skip
                                                                      refine wl_tableOut (tgt := 1104) dL_law_40 (by have z0 := lv_neT (k := 0) (a := 0) c0 rfl; have z1 := lv_neT (k := 1) (a := 1) c1 rfl; have z2 := lv_neT (k := 2) (a := 2) c2 rfl; have z3 := lv_neT (k := 3) (a := 3) c3 rfl; have z4 := lv_neT (k := 4) (a := 4) c4 rfl; have z5 := lv_neT (k := 5) (a := 5) c5 rfl; have z6 := lv_neT (k := 6) (a := 6) c6 rfl; have z7 := lv_neT (k := 7) (a := 7) c7 rfl; have z8 := lv_neT (k := 8) (a := 8) c8 rfl; have z9 := lv_neT (k := 9) (a := 9) c9 rfl; have z10 := lv_neT (k := 10) (a := 10) c10 rfl; have z11 := lv_neT (k := 11) (a := 11) c11 rfl; have z12 := lv_neT (k := 12) (a := 12) c12 rfl; have z13 := lv_neT (k := 13) (a := 13) c13 rfl; have z14 := lv_neT (k := 14) (a := 14) c14 rfl; have z15 := lv_neT (k := 15) (a := 15) c15 rfl; have z16 := lv_neT (k := 16) (a := 16) c16 rfl; have z17 := lv_neT (k := 17) (a := 17) c17 rfl; have z18 := lv_neT (k := 18) (a := 18) c18 rfl; have z19 := lv_neT (k := 19) (a := 19) c19 rfl; have z20 := lv_neT (k := 20) (a := 20) c20 rfl; have z21 := lv_neT (k := 21) (a := 21) c21 rfl; have z22 := lv_neT (k := 22) (a := 22) c22 rfl; have z23 := lv_neT (k := 23) (a := 23) c23 rfl; have z24 := lv_neT (k := 24) (a := 24) c24 rfl; have z25 := lv_neT (k := 25) (a := 25) c25 rfl; have z26 := lv_neT (k := 26) (a := 26) c26 rfl; have z27 := lv_neT (k := 27) (a := 27) c27 rfl; have z28 := lv_neT (k := 28) (a := 28) c28 rfl; have z29 := lv_neT (k := 29) (a := 29) c29 rfl; have z30 := lv_neT (k := 30) (a := 30) c30 rfl; have z31 := lv_neT (k := 31) (a := 31) c31 rfl; have z32 := lv_neT (k := 32) (a := 32) c32 rfl; omega) (by decide) ?_
                                                                      exact hgo _ _ _ (by omega) (by omega) hI
