theorem inst_X0 : ((Jvm.Cond.instantiable "WindowHouse$App" (19 : Nat)) : Cond) ∈ ax_G := tw_g (tw_c1 (List.mem_of_getElem? (i := 35) rfl)) rfl
theorem inic_X0 : ((Jvm.Cond.initialized "WindowHouse$App") : Cond) ∈ ax_G := tw_g (tw_c1 (List.mem_of_getElem? (i := 2) rfl)) rfl
theorem inst_X1 : ((Jvm.Cond.instantiable "WindowHouse$Atlas" (9 : Nat)) : Cond) ∈ ax_G := tw_g (tw_c2 (List.mem_of_getElem? (i := 21) rfl)) rfl
theorem inic_X1 : ((Jvm.Cond.initialized "WindowHouse$Atlas") : Cond) ∈ ax_G := tw_g (tw_c1 (List.mem_of_getElem? (i := 7) rfl)) rfl
theorem inst_X2 : ((Jvm.Cond.instantiable "WindowHouse$Beside" (6 : Nat)) : Cond) ∈ ax_G := tw_g (tw_c2 (List.mem_of_getElem? (i := 97) rfl)) rfl
theorem inic_X2 : ((Jvm.Cond.initialized "WindowHouse$Beside") : Cond) ∈ ax_G := tw_g (tw_c1 (List.mem_of_getElem? (i := 9) rfl)) rfl
theorem inst_X4 : ((Jvm.Cond.instantiable "WindowHouse$Conds" (4 : Nat)) : Cond) ∈ ax_G := tw_g (tw_c1 (List.mem_of_getElem? (i := 41) rfl)) rfl
theorem inic_X4 : ((Jvm.Cond.initialized "WindowHouse$Conds") : Cond) ∈ ax_G := tw_g (tw_c1 (List.mem_of_getElem? (i := 3) rfl)) rfl
theorem inst_X5 : ((Jvm.Cond.instantiable "WindowHouse$Deeds" (4 : Nat)) : Cond) ∈ ax_G := tw_g (tw_c1 (List.mem_of_getElem? (i := 65) rfl)) rfl
theorem inic_X5 : ((Jvm.Cond.initialized "WindowHouse$Deeds") : Cond) ∈ ax_G := tw_g (tw_c1 (List.mem_of_getElem? (i := 4) rfl)) rfl
theorem inst_X6 : ((Jvm.Cond.instantiable "WindowHouse$Meetings" (7 : Nat)) : Cond) ∈ ax_G := tw_g (tw_c2 (List.mem_of_getElem? (i := 27) rfl)) rfl
theorem inic_X6 : ((Jvm.Cond.initialized "WindowHouse$Meetings") : Cond) ∈ ax_G := tw_g (tw_c1 (List.mem_of_getElem? (i := 8) rfl)) rfl
theorem inst_X7 : ((Jvm.Cond.instantiable "WindowHouse$Reader" (15 : Nat)) : Cond) ∈ ax_G := tw_g (tw_c1 (List.mem_of_getElem? (i := 175) rfl)) rfl
theorem inic_X7 : ((Jvm.Cond.initialized "WindowHouse$Reader") : Cond) ∈ ax_G := tw_g (tw_c1 (List.mem_of_getElem? (i := 5) rfl)) rfl
theorem inst_X8 : ((Jvm.Cond.instantiable "WindowHouse$Scanner" (7 : Nat)) : Cond) ∈ ax_G := tw_g (tw_c1 (List.mem_of_getElem? (i := 181) rfl)) rfl
theorem inic_X8 : ((Jvm.Cond.initialized "WindowHouse$Scanner") : Cond) ∈ ax_G := tw_g (tw_c1 (List.mem_of_getElem? (i := 6) rfl)) rfl
theorem inst_X9 : ((Jvm.Cond.instantiable "WindowHouse" (13 : Nat)) : Cond) ∈ ax_G := tw_g (tw_c1 (List.mem_of_getElem? (i := 26) rfl)) rfl
theorem inic_X9 : ((Jvm.Cond.initialized "WindowHouse") : Cond) ∈ ax_G := tw_g (tw_c1 (List.mem_of_getElem? (i := 1) rfl)) rfl
theorem inst_X10 : ((Jvm.Cond.instantiable "WindowHouseModel$App" (22 : Nat)) : Cond) ∈ ax_G := tw_g (tw_c5 (List.mem_of_getElem? (i := 200) rfl)) rfl
theorem inic_X10 : ((Jvm.Cond.initialized "WindowHouseModel$App") : Cond) ∈ ax_G := tw_g (tw_c1 (List.mem_of_getElem? (i := 11) rfl)) rfl
theorem inst_X11 : ((Jvm.Cond.instantiable "WindowHouseModel$Stop" (8 : Nat)) : Cond) ∈ ax_G := tw_g (tw_c6 (List.mem_of_getElem? (i := 52) rfl)) rfl
theorem inic_X11 : ((Jvm.Cond.initialized "WindowHouseModel$Stop") : Cond) ∈ ax_G := tw_g (tw_c1 (List.mem_of_getElem? (i := 15) rfl)) rfl
theorem inst_X12 : ((Jvm.Cond.instantiable "WindowHouseModel" (56 : Nat)) : Cond) ∈ ax_G := tw_g (tw_c5 (List.mem_of_getElem? (i := 193) rfl)) rfl
theorem inic_X12 : ((Jvm.Cond.initialized "WindowHouseModel") : Cond) ∈ ax_G := tw_g (tw_c1 (List.mem_of_getElem? (i := 10) rfl)) rfl
theorem ac_int : Cond.arrayClass .int ∈ ax_G := tw_g (tw_c1 (List.mem_of_getElem? (i := 62) rfl)) rfl
theorem ac_long : Cond.arrayClass .long ∈ ax_G := tw_g (tw_c1 (List.mem_of_getElem? (i := 63) rfl)) rfl
theorem ac_byte : Cond.arrayClass .byte ∈ ax_G := tw_g (tw_c3 (List.mem_of_getElem? (i := 219) rfl)) rfl
theorem ac_boolean : Cond.arrayClass .boolean ∈ ax_G := tw_g (tw_c2 (List.mem_of_getElem? (i := 95) rfl)) rfl
theorem im_obj : (Cond.instanceMethod Lib.objectInit : Cond) ∈ ax_G := tw_g (tw_c1 (List.mem_of_getElem? (i := 31) rfl)) rfl
theorem co_obj : (Cond.code Lib.objectInit ⟨#[0xb1]⟩ 1 none : Cond) ∈ ax_G := tw_g (tw_c1 (List.mem_of_getElem? (i := 32) rfl)) rfl
theorem Is.mono {n n2 i c : Nat} (hi : Is n i c) (h : n ≤ n2) : Is n2 i c := ⟨Nat.le_trans hi.1 h, hi.2⟩
/-- nothing has been written to cell i -/
def Zc (h : AH) (i : Nat) : Prop := h.1 i = (fun _ => 0) ∧ h.2.1 i = (fun _ => 0) ∧ h.2.2 i = (fun _ => 0)
theorem ax_z_succ (n : Nat) : ax_z (n + 1) = ax_z n + (ax_s (n + 1)).2 := by
  unfold ax_z ax_s
  rw [List.take_add_one (i := n + 1), List.map_append, List.sum_append, List.getD_eq_getElem?_getD]
  cases ax_sh[n + 1]? <;> simp
theorem ax_w_push (g : AG) (n : Nat) (h : AH) : ax_w g (n + 1) h = ax_w g n h ++ [(g.2.2.1 + (n + 1), ax_e g (h.1 (n + 1)) (h.2.1 (n + 1)) (h.2.2 (n + 1)) (n + 1))] := by
  unfold ax_w
  rw [List.range_succ, List.map_append]
  rfl
section AXN
variable {l : Launch} {g : AG} {M : AM} {f k n0 nE n pc : Nat} {lv : List (Nat × Value)} {st : List Value} {h : AH} {F : AF}
theorem ax_pushP {H H1 : Heap} (hP : va_P g.1 vwCl (ax_w g n h) H) (ho : ∀ q, q < H.size → H1[q]? = H[q]?) (hl : va_at g.1 vwCl (g.2.2.1 + (n + 1), ax_e g (h.1 (n + 1)) (h.2.1 (n + 1)) (h.2.2 (n + 1)) (n + 1)) H1) : va_P g.1 vwCl (ax_w g (n + 1) h) H1 := by
  rw [ax_w_push]
  refine va_P.app (hP.kept (fun j x hx => ho x.1 (hP j x hx).lt)) (fun j x hx => ?_)
  have hz : j < 1 := (List.getElem?_eq_some_iff.mp hx).1
  rw [show j = 0 by omega] at hx
  cases hx
  exact hl
theorem ax_pushS {s : State} {H H1 : Heap} {locs : List Loc} (hS : va_S (ax_A g) s.heap H locs) (hz : H1.size = H.size + 1) (ho : ∀ q, q < H.size → H1[q]? = H[q]?) : va_S (ax_A g) s.heap H1 locs :=
  ⟨Nat.le_trans hS.1 (by omega), fun q h1 h2 => by rw [ho q (Nat.lt_of_lt_of_le h1 hS.1)]; exact hS.2.1 q h1 h2, hS.2.2⟩
theorem ax_room {sz : Nat} (hn0 : n0 ≤ n) (hn1 : n + 1 ≤ nE) (hs : (ax_s (n + 1)).2 = sz) : n - n0 + 1 ≤ (ax_R f k n0 nE).cells ∧ ax_z n - ax_z n0 + sz ≤ (ax_R f k n0 nE).slots ∧ n - n0 + 1 = n + 1 - n0 ∧ ax_z n - ax_z n0 + sz = ax_z (n + 1) - ax_z n0 := by
  have h1 := ax_z_mono hn0
  have h2 := ax_z_mono hn1
  have h3 := ax_z_succ n
  show n - n0 + 1 ≤ nE - n0 ∧ ax_z n - ax_z n0 + sz ≤ ax_z nE - ax_z n0 ∧ _ ∧ _
  omega
theorem wp_new {idx ci N : Nat} {C0 : String} {T0 : u_T} {ty : Nat → FieldType} (hdg : decode M.2.1 pc = .ok (.new idx, 3)) (hcl : Cond.classLink M.1.cls idx C0 ∈ ax_G) (hin : Cond.instantiable C0 N ∈ ax_G) (hini : Cond.initialized C0 ∈ ax_G) (fc : ax_FC ci C0 T0 N ty) (hd : ∀ j, j < N → defaultValue (ty j) = vp_V (ax_fs g (fun _ => 0) (fun _ => 0) (fun _ => 0) ci) j) (hn0 : n0 ≤ n) (hn1 : n + 1 ≤ nE) (hs : ax_s (n + 1) = (ci, N)) (hz : Zc h (n + 1)) (kk : Wp l g M f k n0 nE (n + 1) (pc + 3) lv (.ref (n + 1) :: st) h F) : Wp l g M f k n0 nE n pc lv st h F := by
  intro p e s m args below meth c C H locs ls hP hS hl T hT X
  have h9 : ci < 20 := fc.2.2.2.2
  have hs1 : (ax_s (n + 1)).1 = ci := by rw [hs]
  have hr := ax_rng hs1 (Nat.lt_trans h9 (by decide))
  have hsz := (ax_size C hn0 hT X hP hS).2 (Nat.lt_of_succ_le hr.2)
  obtain ⟨r1, r2, r3, r4⟩ := ax_room (f := f) (k := k) hn0 hn1 (show (ax_s (n + 1)).2 = N by rw [hs])
  have hKn := C.2.2.2.2.2.2.2.2.1.1.1 ci _ fc.1
  have ha : ax_a g (n + 1) = g.2.2.1 + n + 1 := by
    exact if_pos (Nat.lt_of_le_of_lt hr.2 (by decide))
  refine W.newcK (p := p) (l := l) (e := e) (R := ax_R f k n0 nE) (s := s) (m := m) (args := args) (below := below) (meth := meth) (c := c) (H := H) (locs := locs) (cells := n - n0) (slots := ax_z n - ax_z n0) (Q := F below args s) (g := F0 m pc ls (st.map (ax_v g))) (n := N) (h := g.2.2.1 + n + 1) C.1 C.2.1 C.2.2.2.2.1 (C.2.2.2.2.2.1 _ hcl) (C.2.2.2.2.2.1 _ hin) (C.2.2.2.2.2.1 _ hini) rfl hdg r1 r2 hKn.2.1 hsz (fun H1 kC hkC e1 z1 o1 => ?_) T hT X
  rw [r3, r4]
  have K := kk p e s m args below meth c C H1 locs ls (ax_pushP hP (fun q hq => o1 q (by rw [← hsz]; exact hq)) (by
    rw [hz.1, hz.2.1, hz.2.2, ax_e_obj hs1 h9]
    exact ⟨_, fc.1, (u_born ty C.2.2.2.2.2.1 fc.2.1 hKn hkC e1 fc.2.2.1).to hd⟩)) (ax_pushS hS (by rw [z1, hsz]) (fun q hq => o1 q (by rw [← hsz]; exact hq))) hl
  rw [show (Value.ref (n + 1) :: st).map (ax_v g) = .ref (ax_a g (n + 1)) :: st.map (ax_v g) from rfl, ha] at K
  exact K
theorem wp_newa20 {N : Nat} {x : Int32} (hdg : decode M.2.1 pc = .ok (.newarray .int, 2)) (hx : ¬ x < 0) (hN : x.toNatClampNeg = N) (hb : N ≤ 20000) (hn0 : n0 ≤ n) (hn1 : n + 1 ≤ nE) (hs : ax_s (n + 1) = (20, N)) (hz : Zc h (n + 1)) (kk : Wp l g M f k n0 nE (n + 1) (pc + 2) lv (.ref (n + 1) :: st) h F) : Wp l g M f k n0 nE n pc lv (.int x :: st) h F := by
  intro p e s m args below meth c C H locs ls hP hS hl T hT X
  have hs1 : (ax_s (n + 1)).1 = 20 := by rw [hs]
  have hr := ax_rng hs1 (by decide)
  have hsz := (ax_size C hn0 hT X hP hS).2 (Nat.lt_of_succ_le hr.2)
  obtain ⟨r1, r2, r3, r4⟩ := ax_room (f := f) (k := k) hn0 hn1 (show (ax_s (n + 1)).2 = N by rw [hs])
  have ha : ax_a g (n + 1) = g.2.2.1 + n + 1 := by
    exact if_pos (Nat.lt_of_le_of_lt hr.2 (by decide))
  refine va_newaK (p := p) (l := l) (e := e) (R := ax_R f k n0 nE) (s := s) (m := m) (args := args) (below := below) (meth := meth) (c := c) (H := H) (locs := locs) (cells := n - n0) (slots := ax_z n - ax_z n0) (Q := F below args s) (g := F0 m pc ls (.int x :: st.map (ax_v g))) (N := N) (h := g.2.2.1 + n + 1) C.1 C.2.1 (atype := .int) (C.2.2.2.2.2.1 _ ac_int) rfl hdg rfl hx hN (Nat.le_trans (Nat.mul_le_mul hb (show componentBytes .int ≤ 8 by decide)) (show 20000 * 8 ≤ 536870912 by decide)) r1 r2 hsz (fun H1 cA e1 z1 o1 hAr hNm => ?_) T hT X
  rw [r3, r4]
  have hca : g.2.1 0 = cA := Option.some.inj ((C.2.2.2.2.2.2.2.2.1.1.2 0 _ rfl).2.symm.trans hNm)
  have K := kk p e s m args below meth c C H1 locs ls (ax_pushP hP (fun q hq => o1 q (by rw [← hsz]; exact hq)) (by
    rw [hz.1, hz.2.1, hz.2.2, ax_e_20 hs1, hca, hs]
    exact e1)) (ax_pushS hS (by rw [z1, hsz]) (fun q hq => o1 q (by rw [← hsz]; exact hq))) hl
  rw [show (Value.ref (n + 1) :: st).map (ax_v g) = .ref (ax_a g (n + 1)) :: st.map (ax_v g) from rfl, ha] at K
  exact K
theorem wp_newa21 {N : Nat} {x : Int32} (hdg : decode M.2.1 pc = .ok (.newarray .long, 2)) (hx : ¬ x < 0) (hN : x.toNatClampNeg = N) (hb : N ≤ 20000) (hn0 : n0 ≤ n) (hn1 : n + 1 ≤ nE) (hs : ax_s (n + 1) = (21, N)) (hz : Zc h (n + 1)) (kk : Wp l g M f k n0 nE (n + 1) (pc + 2) lv (.ref (n + 1) :: st) h F) : Wp l g M f k n0 nE n pc lv (.int x :: st) h F := by
  intro p e s m args below meth c C H locs ls hP hS hl T hT X
  have hs1 : (ax_s (n + 1)).1 = 21 := by rw [hs]
  have hr := ax_rng hs1 (by decide)
  have hsz := (ax_size C hn0 hT X hP hS).2 (Nat.lt_of_succ_le hr.2)
  obtain ⟨r1, r2, r3, r4⟩ := ax_room (f := f) (k := k) hn0 hn1 (show (ax_s (n + 1)).2 = N by rw [hs])
  have ha : ax_a g (n + 1) = g.2.2.1 + n + 1 := by
    exact if_pos (Nat.lt_of_le_of_lt hr.2 (by decide))
  refine va_newaK (p := p) (l := l) (e := e) (R := ax_R f k n0 nE) (s := s) (m := m) (args := args) (below := below) (meth := meth) (c := c) (H := H) (locs := locs) (cells := n - n0) (slots := ax_z n - ax_z n0) (Q := F below args s) (g := F0 m pc ls (.int x :: st.map (ax_v g))) (N := N) (h := g.2.2.1 + n + 1) C.1 C.2.1 (atype := .long) (C.2.2.2.2.2.1 _ ac_long) rfl hdg rfl hx hN (Nat.le_trans (Nat.mul_le_mul hb (show componentBytes .long ≤ 8 by decide)) (show 20000 * 8 ≤ 536870912 by decide)) r1 r2 hsz (fun H1 cA e1 z1 o1 hAr hNm => ?_) T hT X
  rw [r3, r4]
  have hca : g.2.1 1 = cA := Option.some.inj ((C.2.2.2.2.2.2.2.2.1.1.2 1 _ rfl).2.symm.trans hNm)
  have K := kk p e s m args below meth c C H1 locs ls (ax_pushP hP (fun q hq => o1 q (by rw [← hsz]; exact hq)) (by
    rw [hz.1, hz.2.1, hz.2.2, ax_e_21 hs1, hca, hs]
    exact e1)) (ax_pushS hS (by rw [z1, hsz]) (fun q hq => o1 q (by rw [← hsz]; exact hq))) hl
  rw [show (Value.ref (n + 1) :: st).map (ax_v g) = .ref (ax_a g (n + 1)) :: st.map (ax_v g) from rfl, ha] at K
  exact K
theorem wp_newa22 {N : Nat} {x : Int32} (hdg : decode M.2.1 pc = .ok (.newarray .byte, 2)) (hx : ¬ x < 0) (hN : x.toNatClampNeg = N) (hb : N ≤ 20000) (hn0 : n0 ≤ n) (hn1 : n + 1 ≤ nE) (hs : ax_s (n + 1) = (22, N)) (hz : Zc h (n + 1)) (kk : Wp l g M f k n0 nE (n + 1) (pc + 2) lv (.ref (n + 1) :: st) h F) : Wp l g M f k n0 nE n pc lv (.int x :: st) h F := by
  intro p e s m args below meth c C H locs ls hP hS hl T hT X
  have hs1 : (ax_s (n + 1)).1 = 22 := by rw [hs]
  have hr := ax_rng hs1 (by decide)
  have hsz := (ax_size C hn0 hT X hP hS).2 (Nat.lt_of_succ_le hr.2)
  obtain ⟨r1, r2, r3, r4⟩ := ax_room (f := f) (k := k) hn0 hn1 (show (ax_s (n + 1)).2 = N by rw [hs])
  have ha : ax_a g (n + 1) = g.2.2.1 + n + 1 := by
    exact if_pos (Nat.lt_of_le_of_lt hr.2 (by decide))
  refine va_newaK (p := p) (l := l) (e := e) (R := ax_R f k n0 nE) (s := s) (m := m) (args := args) (below := below) (meth := meth) (c := c) (H := H) (locs := locs) (cells := n - n0) (slots := ax_z n - ax_z n0) (Q := F below args s) (g := F0 m pc ls (.int x :: st.map (ax_v g))) (N := N) (h := g.2.2.1 + n + 1) C.1 C.2.1 (atype := .byte) (C.2.2.2.2.2.1 _ ac_byte) rfl hdg rfl hx hN (Nat.le_trans (Nat.mul_le_mul hb (show componentBytes .byte ≤ 8 by decide)) (show 20000 * 8 ≤ 536870912 by decide)) r1 r2 hsz (fun H1 cA e1 z1 o1 hAr hNm => ?_) T hT X
  rw [r3, r4]
  have hca : g.2.1 2 = cA := Option.some.inj ((C.2.2.2.2.2.2.2.2.1.1.2 2 _ rfl).2.symm.trans hNm)
  have K := kk p e s m args below meth c C H1 locs ls (ax_pushP hP (fun q hq => o1 q (by rw [← hsz]; exact hq)) (by
    rw [hz.1, hz.2.1, hz.2.2, ax_e_22 hs1, hca, hs]
    exact e1)) (ax_pushS hS (by rw [z1, hsz]) (fun q hq => o1 q (by rw [← hsz]; exact hq))) hl
  rw [show (Value.ref (n + 1) :: st).map (ax_v g) = .ref (ax_a g (n + 1)) :: st.map (ax_v g) from rfl, ha] at K
  exact K
theorem wp_newa23 {N : Nat} {x : Int32} (hdg : decode M.2.1 pc = .ok (.newarray .boolean, 2)) (hx : ¬ x < 0) (hN : x.toNatClampNeg = N) (hb : N ≤ 20000) (hn0 : n0 ≤ n) (hn1 : n + 1 ≤ nE) (hs : ax_s (n + 1) = (23, N)) (hz : Zc h (n + 1)) (kk : Wp l g M f k n0 nE (n + 1) (pc + 2) lv (.ref (n + 1) :: st) h F) : Wp l g M f k n0 nE n pc lv (.int x :: st) h F := by
  intro p e s m args below meth c C H locs ls hP hS hl T hT X
  have hs1 : (ax_s (n + 1)).1 = 23 := by rw [hs]
  have hr := ax_rng hs1 (by decide)
  have hsz := (ax_size C hn0 hT X hP hS).2 (Nat.lt_of_succ_le hr.2)
  obtain ⟨r1, r2, r3, r4⟩ := ax_room (f := f) (k := k) hn0 hn1 (show (ax_s (n + 1)).2 = N by rw [hs])
  have ha : ax_a g (n + 1) = g.2.2.1 + n + 1 := by
    exact if_pos (Nat.lt_of_le_of_lt hr.2 (by decide))
  refine va_newaK (p := p) (l := l) (e := e) (R := ax_R f k n0 nE) (s := s) (m := m) (args := args) (below := below) (meth := meth) (c := c) (H := H) (locs := locs) (cells := n - n0) (slots := ax_z n - ax_z n0) (Q := F below args s) (g := F0 m pc ls (.int x :: st.map (ax_v g))) (N := N) (h := g.2.2.1 + n + 1) C.1 C.2.1 (atype := .boolean) (C.2.2.2.2.2.1 _ ac_boolean) rfl hdg rfl hx hN (Nat.le_trans (Nat.mul_le_mul hb (show componentBytes .boolean ≤ 8 by decide)) (show 20000 * 8 ≤ 536870912 by decide)) r1 r2 hsz (fun H1 cA e1 z1 o1 hAr hNm => ?_) T hT X
  rw [r3, r4]
  have hca : g.2.1 3 = cA := Option.some.inj ((C.2.2.2.2.2.2.2.2.1.1.2 3 _ rfl).2.symm.trans hNm)
  have K := kk p e s m args below meth c C H1 locs ls (ax_pushP hP (fun q hq => o1 q (by rw [← hsz]; exact hq)) (by
    rw [hz.1, hz.2.1, hz.2.2, ax_e_23 hs1, hca, hs]
    exact e1)) (ax_pushS hS (by rw [z1, hsz]) (fun q hq => o1 q (by rw [← hsz]; exact hq))) hl
  rw [show (Value.ref (n + 1) :: st).map (ax_v g) = .ref (ax_a g (n + 1)) :: st.map (ax_v g) from rfl, ha] at K
  exact K
theorem wp_anewa24 {N idx : Nat} {x : Int32} (hdg : decode M.2.1 pc = .ok (.anewarray idx, 3)) (hcl : Cond.classLink M.1.cls idx RX0 ∈ ax_G) (hx : ¬ x < 0) (hN : x.toNatClampNeg = N) (hb : N ≤ 20000) (hn0 : n0 ≤ n) (hn1 : n + 1 ≤ nE) (hs : ax_s (n + 1) = (24, N)) (hz : Zc h (n + 1)) (kk : Wp l g M f k n0 nE (n + 1) (pc + 3) lv (.ref (n + 1) :: st) h F) : Wp l g M f k n0 nE n pc lv (.int x :: st) h F := by
  intro p e s m args below meth c C H locs ls hP hS hl T hT X
  have hs1 : (ax_s (n + 1)).1 = 24 := by rw [hs]
  have hr := ax_rng hs1 (by decide)
  have hsz := (ax_size C hn0 hT X hP hS).2 (Nat.lt_of_succ_le hr.2)
  obtain ⟨r1, r2, r3, r4⟩ := ax_room (f := f) (k := k) hn0 hn1 (show (ax_s (n + 1)).2 = N by rw [hs])
  have ha : ax_a g (n + 1) = g.2.2.1 + n + 1 := by
    exact if_pos (Nat.lt_of_le_of_lt hr.2 (by decide))
  subst hN
  refine W.anew (p := p) (l := l) (e := e) (R := ax_R f k n0 nE) (s := s) (m := m) (args := args) (below := below) (meth := meth) (c := c) (H := H) (locs := locs) (cells := n - n0) (slots := ax_z n - ax_z n0) (Q := F below args s) (g := F0 m pc ls (.int x :: st.map (ax_v g))) C.1 C.2.1 C.2.2.2.2.1 (C.2.2.2.2.2.1 _ hcl) (va_AO.use C.2.2.2.2.2.2.2.2.1.2.2.2.2.2.2.2.2.1) rfl hdg rfl hx (Nat.le_trans (Nat.mul_le_mul hb (Nat.le_refl 4)) (by decide)) r1 r2 (fun cA kA comp f1 f2 f3 f4 => ?_) T hT X
  rw [r3, r4]
  generalize hH1 : H.push ({ cls := cA, slots := Array.replicate x.toNatClampNeg .null, vm := .none } : Cell) = H1
  have z1 : H1.size = H.size + 1 := by rw [← hH1, Array.size_push]
  have e1 : H1[H.size]? = some (arrV cA x.toNatClampNeg (fun _ => .null)) := by rw [← hH1, Array.getElem?_push_size, ← arrV_new]
  have o1 : ∀ q : Nat, q < H.size → H1[q]? = H[q]? := fun q hq => by rw [← hH1, Array.getElem?_push, if_neg (Nat.ne_of_lt hq)]
  obtain ⟨-, -, -, -, -, hRA⟩ := (C.2.2.2.2.2.2.2.2.1.1.2 4 _ rfl).2
  have hca : g.2.1 4 = cA := Option.some.inj (hRA.symm.trans f1)
  have K := kk p e s m args below meth c C H1 locs ls (ax_pushP hP o1 (by
    rw [hz.1, hz.2.1, hz.2.2, ax_e_24 hs1, hca, hs, show g.2.2.1 + (n + 1) = H.size from hsz.symm]
    exact e1)) (ax_pushS hS z1 o1) hl
  rw [show (Value.ref (n + 1) :: st).map (ax_v g) = .ref (ax_a g (n + 1)) :: st.map (ax_v g) from rfl, ha, ← hsz] at K
  exact K
theorem wp_anewa25 {N idx : Nat} {x : Int32} (hdg : decode M.2.1 pc = .ok (.anewarray idx, 3)) (hcl : Cond.classLink M.1.cls idx RX10 ∈ ax_G) (hx : ¬ x < 0) (hN : x.toNatClampNeg = N) (hb : N ≤ 20000) (hn0 : n0 ≤ n) (hn1 : n + 1 ≤ nE) (hs : ax_s (n + 1) = (25, N)) (hz : Zc h (n + 1)) (kk : Wp l g M f k n0 nE (n + 1) (pc + 3) lv (.ref (n + 1) :: st) h F) : Wp l g M f k n0 nE n pc lv (.int x :: st) h F := by
  intro p e s m args below meth c C H locs ls hP hS hl T hT X
  have hs1 : (ax_s (n + 1)).1 = 25 := by rw [hs]
  have hr := ax_rng hs1 (by decide)
  have hsz := (ax_size C hn0 hT X hP hS).2 (Nat.lt_of_succ_le hr.2)
  obtain ⟨r1, r2, r3, r4⟩ := ax_room (f := f) (k := k) hn0 hn1 (show (ax_s (n + 1)).2 = N by rw [hs])
  have ha : ax_a g (n + 1) = g.2.2.1 + n + 1 := by
    exact if_pos (Nat.lt_of_le_of_lt hr.2 (by decide))
  subst hN
  refine W.anew (p := p) (l := l) (e := e) (R := ax_R f k n0 nE) (s := s) (m := m) (args := args) (below := below) (meth := meth) (c := c) (H := H) (locs := locs) (cells := n - n0) (slots := ax_z n - ax_z n0) (Q := F below args s) (g := F0 m pc ls (.int x :: st.map (ax_v g))) C.1 C.2.1 C.2.2.2.2.1 (C.2.2.2.2.2.1 _ hcl) (va_AO.use C.2.2.2.2.2.2.2.2.1.2.2.2.2.2.2.2.2.2.1) rfl hdg rfl hx (Nat.le_trans (Nat.mul_le_mul hb (Nat.le_refl 4)) (by decide)) r1 r2 (fun cA kA comp f1 f2 f3 f4 => ?_) T hT X
  rw [r3, r4]
  generalize hH1 : H.push ({ cls := cA, slots := Array.replicate x.toNatClampNeg .null, vm := .none } : Cell) = H1
  have z1 : H1.size = H.size + 1 := by rw [← hH1, Array.size_push]
  have e1 : H1[H.size]? = some (arrV cA x.toNatClampNeg (fun _ => .null)) := by rw [← hH1, Array.getElem?_push_size, ← arrV_new]
  have o1 : ∀ q : Nat, q < H.size → H1[q]? = H[q]? := fun q hq => by rw [← hH1, Array.getElem?_push, if_neg (Nat.ne_of_lt hq)]
  obtain ⟨-, -, -, -, -, hRA⟩ := (C.2.2.2.2.2.2.2.2.1.1.2 5 _ rfl).2
  have hca : g.2.1 5 = cA := Option.some.inj (hRA.symm.trans f1)
  have K := kk p e s m args below meth c C H1 locs ls (ax_pushP hP o1 (by
    rw [hz.1, hz.2.1, hz.2.2, ax_e_25 hs1, hca, hs, show g.2.2.1 + (n + 1) = H.size from hsz.symm]
    exact e1)) (ax_pushS hS z1 o1) hl
  rw [show (Value.ref (n + 1) :: st).map (ax_v g) = .ref (ax_a g (n + 1)) :: st.map (ax_v g) from rfl, ha, ← hsz] at K
  exact K
theorem wp_obj {idx i : Nat} (hdg : decode M.2.1 pc = .ok (.invokespecial idx, 3)) (hlk : Cond.methodLink M.1.cls idx Lib.objectInit ∈ ax_G) (hcat : (st.map (fun v => v.category)).sum ≤ 8) (hf : 1 ≤ f) (hk : 20 ≤ k) (kk : Wp l g M f k n0 nE n (pc + 3) lv st h F) : Wp l g M f k n0 nE n pc lv (.ref i :: st) h F :=
  fun p e s m args below meth c C H locs ls hP hS hl => W.objInit C.1 C.2.1 C.2.2.2.2.1 (C.2.2.2.2.2.1 _ hlk) (C.2.2.2.2.2.1 _ im_obj) (C.2.2.2.2.2.1 _ co_obj) rfl (hl.1.trans C.2.2.2.1.symm) rfl hdg hf (by show 2 * 0 + _ + 12 ≤ k; rw [ax_cats]; omega) (kk p e s m args below meth c C H locs ls hP hS hl)
end AXN
