theorem lkc_L_8 : ((Jvm.Cond.classLink "WindowHouseLaw" (8 : Nat) "WindowHouse") : Cond) ∈ ax_G := tw_g (tw_c1 (List.mem_of_getElem? (i := 25) rfl)) rfl
theorem lkc_L_16 : ((Jvm.Cond.classLink "WindowHouseLaw" (16 : Nat) "WindowHouseModel") : Cond) ∈ ax_G := tw_g (tw_c5 (List.mem_of_getElem? (i := 192) rfl)) rfl
section WLN
variable {l : Launch} {g : AG} {M : AM} {Sx : Array Value → State → Prop} {R : Room} {cells slots n pc : Nat} {lv : List (Nat × Value)} {st : List Value} {h : AH} {F : AF}
theorem wl_size {p : Program} {s : State} {m : MethodId} {args : Array Value} {meth : Method} {c : Code} {e : Env} {below : List Frame} {T : State} {H : Heap} {locs : List Loc} (C : ax_C g M 0 p s m args meth c) (hT : T.heap = H) (X : Stand p l e R s m args below meth c T locs cells slots) (hce : cells = n) (hN : n < ax_N) (hP : va_P g.1 vwCl (ax_w g n h) H) (hS : va_S (ax_A g) s.heap H locs) : H.size = g.2.2.1 + n + 1 := by
  have h1 : g.2.2.1 + n < H.size := by
    rcases Nat.eq_zero_or_pos n with h0 | h0
    · have q1 := C.2.2.2.2.2.2.2.2.2.1
      have q2 := hS.1
      omega
    · have q1 := (hP (n - 1) _ (ax_w_get (show n - 1 < n by omega))).lt
      have q2 : g.2.2.1 + (n - 1 + 1) < H.size := q1
      omega
  have q1 := C.2.2.2.2.2.2.2.2.2.2.1 (by decide)
  have q2 : (T.setVm s.vm).heap.size ≤ s.heap.size + cells := X.same.2.2.1
  have q3 : (T.setVm s.vm).heap = T.heap := rfl
  rw [q3, hT] at q2
  omega
theorem wl_new {idx ci N : Nat} {C0 : String} {T0 : u_T} {ty : Nat → FieldType} (hdg : decode M.2.1 pc = .ok (.new idx, 3)) (hcl : Cond.classLink M.1.cls idx C0 ∈ ax_G) (hin : Cond.instantiable C0 N ∈ ax_G) (hini : Cond.initialized C0 ∈ ax_G) (fc : ax_FC ci C0 T0 N ty) (hd : ∀ j, j < N → defaultValue (ty j) = vp_V (ax_fs g (fun _ => 0) (fun _ => 0) (fun _ => 0) ci) j) (hce : cells = n) (r1 : cells + 1 ≤ R.cells) (r2 : slots + N ≤ R.slots) (hs : ax_s (n + 1) = (ci, N)) (hz : Zc h (n + 1)) (kk : Wl l g M Sx R (cells + 1) (slots + N) (n + 1) (pc + 3) lv (.ref (n + 1) :: st) h F) : Wl l g M Sx R cells slots n pc lv st h F := by
  intro p e s m args below meth c C X0 H locs ls hP hS hl T hT X
  have h9 : ci < 20 := fc.2.2.2.2
  have hs1 : (ax_s (n + 1)).1 = ci := by rw [hs]
  have hr := ax_rng hs1 (Nat.lt_trans h9 (by decide))
  have hsz := wl_size (h := h) C hT X hce (Nat.lt_of_succ_le hr.2) hP hS
  have hKn := C.2.2.2.2.2.2.2.2.1.1.1 ci _ fc.1
  have ha : ax_a g (n + 1) = g.2.2.1 + n + 1 := by
    exact if_pos (Nat.lt_of_le_of_lt hr.2 (by decide))
  refine W.newcK (p := p) (l := l) (e := e) (R := R) (s := s) (m := m) (args := args) (below := below) (meth := meth) (c := c) (H := H) (locs := locs) (cells := cells) (slots := slots) (Q := F below args s) (g := F0 m pc ls (st.map (ax_v g))) (n := N) (h := g.2.2.1 + n + 1) C.1 C.2.1 C.2.2.2.2.1 (C.2.2.2.2.2.1 _ hcl) (C.2.2.2.2.2.1 _ hin) (C.2.2.2.2.2.1 _ hini) rfl hdg r1 r2 hKn.2.1 hsz (fun H1 kC hkC e1 z1 o1 => ?_) T hT X
  have K := kk p e s m args below meth c C X0 H1 locs ls (ax_pushP hP (fun q hq => o1 q (by rw [← hsz]; exact hq)) (by
    rw [hz.1, hz.2.1, hz.2.2, ax_e_obj hs1 h9]
    exact ⟨_, fc.1, (u_born ty C.2.2.2.2.2.1 fc.2.1 hKn hkC e1 fc.2.2.1).to hd⟩)) (ax_pushS hS (by rw [z1, hsz]) (fun q hq => o1 q (by rw [← hsz]; exact hq))) hl
  rw [show (Value.ref (n + 1) :: st).map (ax_v g) = .ref (ax_a g (n + 1)) :: st.map (ax_v g) from rfl, ha] at K
  exact K
theorem wl_newa21 {N : Nat} {x : Int32} (hdg : decode M.2.1 pc = .ok (.newarray .long, 2)) (hx : ¬ x < 0) (hN : x.toNatClampNeg = N) (hb : N ≤ 20000) (hce : cells = n) (r1 : cells + 1 ≤ R.cells) (r2 : slots + N ≤ R.slots) (hs : ax_s (n + 1) = (21, N)) (hz : Zc h (n + 1)) (kk : Wl l g M Sx R (cells + 1) (slots + N) (n + 1) (pc + 2) lv (.ref (n + 1) :: st) h F) : Wl l g M Sx R cells slots n pc lv (.int x :: st) h F := by
  intro p e s m args below meth c C X0 H locs ls hP hS hl T hT X
  have hs1 : (ax_s (n + 1)).1 = 21 := by rw [hs]
  have hr := ax_rng hs1 (by decide)
  have hsz := wl_size (h := h) C hT X hce (Nat.lt_of_succ_le hr.2) hP hS
  have ha : ax_a g (n + 1) = g.2.2.1 + n + 1 := by
    exact if_pos (Nat.lt_of_le_of_lt hr.2 (by decide))
  refine va_newaK (p := p) (l := l) (e := e) (R := R) (s := s) (m := m) (args := args) (below := below) (meth := meth) (c := c) (H := H) (locs := locs) (cells := cells) (slots := slots) (Q := F below args s) (g := F0 m pc ls (.int x :: st.map (ax_v g))) (N := N) (h := g.2.2.1 + n + 1) C.1 C.2.1 (atype := .long) (C.2.2.2.2.2.1 _ ac_long) rfl hdg rfl hx hN (Nat.le_trans (Nat.mul_le_mul hb (show componentBytes .long ≤ 8 by decide)) (show 20000 * 8 ≤ 536870912 by decide)) r1 r2 hsz (fun H1 cA e1 z1 o1 hAr hNm => ?_) T hT X
  have hca : g.2.1 1 = cA := Option.some.inj ((C.2.2.2.2.2.2.2.2.1.1.2 1 _ rfl).2.symm.trans hNm)
  have K := kk p e s m args below meth c C X0 H1 locs ls (ax_pushP hP (fun q hq => o1 q (by rw [← hsz]; exact hq)) (by
    rw [hz.1, hz.2.1, hz.2.2, ax_e_21 hs1, hca, hs]
    exact e1)) (ax_pushS hS (by rw [z1, hsz]) (fun q hq => o1 q (by rw [← hsz]; exact hq))) hl
  rw [show (Value.ref (n + 1) :: st).map (ax_v g) = .ref (ax_a g (n + 1)) :: st.map (ax_v g) from rfl, ha] at K
  exact K
theorem wl_ret {L : Nat} {xs : Nat → Int32} (hM2 : M.2.1 = code) (hM3 : M.2.2.2 = ret) (hdg : decode M.2.1 pc = .ok (.ireturn, 1)) (hc : cells ≤ 1219) (hs : slots ≤ 55958) : Wl l g M (ax_Sx g L xs) room_1 cells slots n pc lv [.int 1] h (fun below args s => lw_Z below args s) := by
  intro p e s m args below meth c C X0 H locs ls hP hS hl
  obtain ⟨ea, -⟩ := X0
  subst ea
  refine W.widen hc hs (va_forget (fun q hq => ?_) (lw_ret C.1 (C.2.1.trans hM2) (C.2.2.1.trans hM3) C.2.2.2.2.2.2.1 (by rw [← hM2]; exact hdg)))
  have h1 := hS.2.2 q hq
  have h2 := C.2.2.2.2.2.2.2.2.2.2.1 (by decide)
  have h3 : g.2.2.1 < q.base := h1
  omega
end WLN
set_option maxHeartbeats 4000000 in
set_option maxRecDepth 100000 in
theorem law_start {l : Launch} {g : AG} {Inv : AH → Prop} {L : Nat} {xs : Nat → Int32} (hO : Obl l g Inv) (hI : Inv (h_fin g)) (hL : L ≤ 3072) : Wl l g mL_law0 (ax_Sx g L xs) room_1 0 0 0 0 [(0, .ref 4000)] [] h_zero (fun below args s => lw_Z below args s) := by
  refine wl_new (N := 13) dL_law_0 lkc_L_8 inst_X9 inic_X9 fc_X9 (fun j hj => ax_df_X9 j hj) rfl (by decide) (by decide) rfl ⟨rfl, rfl, rfl⟩ ?_
  refine wl_dup dL_law_3 rfl ?_
  refine wl_callI (as := []) (n := 1) (n1 := 102) dL_law_4 cb_X9_init lk_L_15 im_X9_init rfl rfl rfl (Nat.le_of_ble_eq_true rfl) ⟨by decide, by decide⟩ ⟨by decide +kernel, by decide +kernel⟩ (fun _ => rfl) (init_X9 (Q := fun h1 => h1 = (hi_154 g)) rfl) (fun r0 h1 hb => ?_)
  obtain ⟨rfl, rfl⟩ := hb
  refine wl_astore_n (lv2 := [(1, .ref 1), (0, .ref 4000)]) dL_law_7 rfl (by decide) rfl ?_
  refine wl_new (n := 102) (N := 56) dL_law_8 lkc_L_16 inst_X12 inic_X12 fc_X12 (fun j hj => ax_df_X12 j hj) rfl (by decide +kernel) (by decide +kernel) rfl ⟨rfl, rfl, rfl⟩ ?_
  refine wl_dup dL_law_11 rfl ?_
  refine wl_callI (as := []) (n := 103) (n1 := 193) dL_law_12 cb_X12_init lk_L_18 im_X12_init rfl rfl rfl (Nat.le_of_ble_eq_true rfl) ⟨by decide, by decide⟩ ⟨by decide +kernel, by decide +kernel⟩ (fun _ => rfl) (init_X12 (Q := fun h1 => h1 = h_fin g) rfl) (fun r0 h1 hb => ?_)
  obtain ⟨rfl, rfl⟩ := hb
  refine wl_astore_n (lv2 := [(2, .ref 103), (1, .ref 1), (0, .ref 4000)]) dL_law_15 rfl (by decide) rfl ?_
  refine wl_iconst (v := 1) dL_law_16 (by decide) ?_
  refine wl_newa21 (n := 193) (N := 1) dL_law_17 (by decide) (by decide) (by decide) rfl (by decide +kernel) (by decide +kernel) rfl ⟨rfl, rfl, rfl⟩ ?_
  refine wl_astore_n (lv2 := [(3, .ref 194), (2, .ref 103), (1, .ref 1), (0, .ref 4000)]) dL_law_19 rfl (by decide) rfl ?_
  refine wl_iconst (v := 0) dL_law_20 (by decide) ?_
  refine wl_istore (lv2 := [(4, .int 0), (3, .ref 194), (2, .ref 103), (1, .ref 1), (0, .ref 4000)]) dL_law_21 (by decide) rfl ?_
  refine wl_sub (lv2 := [(0, .ref 4000), (1, .ref 1), (2, .ref 103), (3, .ref 194), (4, .int 0)]) [4, 3, 2, 1, 0] rfl ?_
  refine wl_widen (c2 := 194 + 0) (s2 := 47760 + 6 * 0) (by decide +kernel) (by decide +kernel) ?_
  refine law_loop hO hL (fun cells slots h x4 hc hs => ?_) 513 0 (h_fin g) rfl (Nat.zero_le _) hI 0 rfl
  refine wl_iconst (v := 1) dL_law_1110 (by decide) ?_
  exact wl_ret rfl rfl dL_law_1111 hc hs
