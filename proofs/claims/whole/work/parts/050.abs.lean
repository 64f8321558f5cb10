/-! an abstract heap: ints, longs, references (0: null), by cell number (1, 2, ..) and place; strings by 1000 + k -/
abbrev AH : Type := (Nat → Nat → Int32) × (Nat → Nat → Int64) × (Nat → Nat → Nat)
def ax_setI (h : AH) (i k : Nat) (v : Int32) : AH := (fun a => if a = i then upd (h.1 i) k v else h.1 a, h.2.1, h.2.2)
def ax_setL (h : AH) (i k : Nat) (v : Int64) : AH := (h.1, fun a => if a = i then vp_updL (h.2.1 i) k v else h.2.1 a, h.2.2)
def ax_setR (h : AH) (i k : Nat) (v : Nat) : AH := (h.1, h.2.1, fun a => if a = i then va_up (h.2.2 i) k v else h.2.2 a)
def ax_sh : List (Nat × Nat) := [(99, 0), (8, 13), (20, 800), (24, 2), (0, 19), (21, 6), (21, 8), (21, 24), (20, 6), (20, 8), (20, 48), (20, 8), (20, 8), (20, 8), (20, 24), (3, 4), (20, 24), (20, 72), (20, 72), (20, 72), (4, 4), (20, 32), (20, 128), (20, 128), (20, 128), (0, 19), (21, 6), (21, 8), (21, 24), (20, 6), (20, 8), (20, 48), (20, 8), (20, 8), (20, 8), (20, 24), (3, 4), (20, 24), (20, 72), (20, 72), (20, 72), (4, 4), (20, 32), (20, 128), (20, 128), (20, 128), (0, 19), (21, 6), (21, 8), (21, 24), (20, 6), (20, 8), (20, 48), (20, 8), (20, 8), (20, 8), (20, 24), (3, 4), (20, 24), (20, 72), (20, 72), (20, 72), (4, 4), (20, 32), (20, 128), (20, 128), (20, 128), (6, 15), (7, 7), (20, 0), (20, 128), (21, 128), (20, 128), (21, 2), (1, 9), (5, 7), (21, 400), (21, 400), (20, 400), (20, 400), (20, 400), (20, 1024), (20, 10800), (5, 7), (21, 400), (21, 400), (20, 400), (20, 400), (20, 400), (20, 1024), (20, 400), (20, 400), (23, 400), (2, 6), (5, 7), (21, 400), (21, 400), (20, 400), (20, 400), (20, 400), (20, 1024), (20, 400), (21, 401), (11, 56), (25, 2), (9, 22), (21, 8), (21, 24), (21, 6), (20, 6), (20, 8), (20, 48), (20, 8), (23, 6), (20, 32), (20, 128), (20, 128), (20, 128), (21, 128), (20, 128), (20, 24), (20, 24), (20, 72), (20, 72), (20, 72), (23, 2), (21, 2), (21, 2), (10, 8), (22, 800), (20, 5), (20, 5), (20, 6), (21, 400), (21, 400), (20, 400), (20, 400), (20, 400), (20, 400), (20, 400), (20, 400), (20, 400), (20, 10800), (21, 400), (23, 400), (20, 400), (21, 400), (21, 400), (21, 400), (21, 400), (20, 400), (20, 400), (20, 6), (21, 24), (9, 22), (21, 8), (21, 24), (21, 6), (20, 6), (20, 8), (20, 48), (20, 8), (23, 6), (20, 32), (20, 128), (20, 128), (20, 128), (21, 128), (20, 128), (20, 24), (20, 24), (20, 72), (20, 72), (20, 72), (9, 22), (21, 8), (21, 24), (21, 6), (20, 6), (20, 8), (20, 48), (20, 8), (23, 6), (20, 32), (20, 128), (20, 128), (20, 128), (21, 128), (20, 128), (20, 24), (20, 24), (20, 72), (20, 72), (20, 72), (21, 1)]
def ax_N : Nat := 194
def ax_s (i : Nat) : Nat × Nat := ax_sh.getD i (99, 0)
def ax_z (n : Nat) : Nat := ((ax_sh.take (n + 1)).map (fun q => q.2)).sum
def ax_ft (c : Nat) : List Nat := ([[0, 0, 0, 0, 0, 0, 1, 2, 2, 2, 2, 2, 2, 2, 2, 2, 2, 2, 2], [0, 2, 2, 2, 2, 0, 2, 2, 2], [2, 2, 2, 3, 0, 0], [2, 2, 2, 2], [2, 2, 2, 2], [0, 2, 2, 2, 2, 2, 2], [2, 2, 0, 0, 0, 1, 3, 0, 0, 0, 0, 0, 2, 2, 2], [2, 0, 0, 0, 0, 1, 0], [2, 0, 2, 2, 2, 2, 2, 2, 2, 0, 2, 0, 0], [0, 0, 0, 2, 2, 2, 2, 2, 2, 2, 2, 2, 2, 2, 2, 2, 2, 2, 2, 2, 2, 2], [2, 2, 2, 2, 2, 0, 0, 0], [0, 0, 0, 0, 2, 2, 2, 2, 2, 2, 2, 0, 0, 0, 0, 0, 0, 0, 1, 0, 0, 2, 2, 2, 0, 0, 2, 2, 2, 2, 2, 2, 2, 2, 2, 2, 0, 2, 2, 2, 0, 0, 0, 0, 2, 2, 2, 2, 2, 2, 0, 0, 0, 1, 2, 2]] : List (List Nat)).getD c []
abbrev AG : Type := va_G × (Nat → ClassId) × Nat × (Nat → Nat) × (Nat → Nat) × (Nat → Bool) × (Nat → Nat)
def ax_a (g : AG) (i : Nat) : Nat := if i < 1000 then g.2.2.1 + i else if i < 2000 then g.2.2.2.1 (i - 1000) else if i < 3000 then g.2.2.2.2.1 (i - 2000) else g.2.2.2.2.2.2 (i - 3000)
def ax_v (g : AG) (v : Value) : Value := match v with
  | .ref i => .ref (ax_a g i)
  | .int x => .int x
  | .long x => .long x
  | .float x => .float x
  | .double x => .double x
  | .null => .null
  | .retAddr x => .retAddr x
theorem ax_v_cat (g : AG) (v : Value) : (ax_v g v).category = v.category := by cases v <;> rfl
/-- three statics of the JDK: some reference, or null -/
def ax_fo (g : AG) (j : Nat) : Value := if g.2.2.2.2.2.1 j then .ref (3000 + j) else .null
def ax_fn (g : AG) (j : Nat) : Nat := if g.2.2.2.2.2.1 j then 3000 + j else 0
def ax_q (g : AG) (q : Nat × Value) : Nat × Value := (q.1, ax_v g q.2)
def ax_ro (g : AG) (r : Nat) : Option Nat := if r = 0 then none else some (ax_a g r)
def ax_fv (g : AG) (a : Nat → Int32) (l : Nat → Int64) (r : Nat → Nat) (k t : Nat) : Value := if t = 1 then .long (l k) else if t = 2 then va_rf (ax_ro g (r k)) else .int (a k)
def ax_fs (g : AG) (a : Nat → Int32) (l : Nat → Int64) (r : Nat → Nat) (c : Nat) : List Value := (ax_ft c).mapIdx (fun k t => ax_fv g a l r k t)
def ax_e (g : AG) (a : Nat → Int32) (l : Nat → Int64) (r : Nat → Nat) (i : Nat) : va_E :=
  if (ax_s i).1 = 20 then .inl (g.2.1 0, (ax_s i).2, .inl a) else if (ax_s i).1 = 21 then .inl (g.2.1 1, (ax_s i).2, .inr (.inl l)) else if (ax_s i).1 = 22 then .inl (g.2.1 2, (ax_s i).2, .inl a) else if (ax_s i).1 = 23 then .inl (g.2.1 3, (ax_s i).2, .inl a) else
  if (ax_s i).1 = 24 then .inl (g.2.1 4, (ax_s i).2, .inr (.inr (.inr (.inr (fun k => ax_ro g (r k)))))) else if (ax_s i).1 = 25 then .inl (g.2.1 5, (ax_s i).2, .inr (.inr (.inr (.inr (fun k => ax_ro g (r k)))))) else .inr ((ax_s i).1, ax_fs g a l r (ax_s i).1)
def ax_w (g : AG) (n : Nat) (h : AH) : va_W := (List.range n).map (fun j => (g.2.2.1 + (j + 1), ax_e g (h.1 (j + 1)) (h.2.1 (j + 1)) (h.2.2 (j + 1)) (j + 1)))
def ax_A (g : AG) : Nat → Prop := fun q => g.2.2.1 < q
def ax_ty (g : AG) : List (ClassId × FieldType) := [(g.2.1 0, .int), (g.2.1 1, .long), (g.2.1 2, .byte), (g.2.1 3, .boolean), (g.2.1 4, .object RX0), (g.2.1 5, .object RX10)]
def ax_G : List Cond := lw_tbl.filter goodWord
def ax_nw (w : Cond) : Bool := match w with
  | .fieldLinkNest _ _ _ _ _ _ => true
  | .methodLinkNest _ _ _ _ => true
  | .castable _ _ => true
  | .declares _ => true
  | _ => false
def ax_NW : List Cond := lw_tbl.filter ax_nw
def ax_sl : List Nat := [3, 5, 3, 6, 5, 2, 5, 2, 4, 4, 3, 4, 3, 6]
def ax_sb : List (List Int32) := [[97, 100, 100], [97, 102, 116, 101, 114], [97, 110, 100], [98, 117, 116, 116, 111, 110], [99, 108, 111, 115, 101], [100, 111], [102, 97, 117, 108, 116], [105, 102], [107, 101, 112, 116], [111, 112, 101, 110], [115, 101, 116], [115, 104, 111, 119], [118, 97, 114], [119, 105, 110, 100, 111, 119]]
def ax_sr : List (String × Nat × String × Nat) := [("WindowHouseModel", 211, "var", 12), ("WindowHouseModel", 212, "kept", 8), ("WindowHouseModel", 227, "window", 13), ("WindowHouseModel", 255, "show", 11), ("WindowHouseModel", 262, "button", 3), ("WindowHouseModel", 273, "if", 7), ("WindowHouseModel", 278, "and", 2), ("WindowHouseModel", 280, "do", 5), ("WindowHouseModel", 289, "after", 1), ("WindowHouseModel", 300, "open", 9), ("WindowHouseModel", 302, "close", 4), ("WindowHouseModel", 304, "set", 10), ("WindowHouseModel", 306, "add", 0), ("WindowHouseModel", 308, "fault", 6), ("WindowHouse$Reader", 125, "if", 7), ("WindowHouse$Reader", 146, "and", 2), ("WindowHouse$Reader", 163, "do", 5), ("WindowHouse$Reader", 175, "window", 13), ("WindowHouse$Reader", 177, "kept", 8), ("WindowHouse$Reader", 178, "var", 12), ("WindowHouse$Reader", 203, "after", 1), ("WindowHouse$Reader", 205, "button", 3), ("WindowHouse$Reader", 216, "show", 11), ("WindowHouse$Reader", 271, "open", 9), ("WindowHouse$Reader", 273, "close", 4), ("WindowHouse$Reader", 275, "set", 10), ("WindowHouse$Reader", 277, "add", 0), ("WindowHouse$Reader", 278, "fault", 6)]
/-- what holds outside our cells: classes, links, the String constants -/
def ax_E (g : AG) (U : State) : Prop := va_K g.1 vwCl (ax_ty g) U ∧ (∀ w ∈ ax_NW, va_Nw w U) ∧ vk_S 14 ax_sl ax_sb g.2.2.2.1 g.2.2.2.2.1 (ax_A g) U U.heap ∧ (∀ q ∈ ax_sr, vk_R q.1 q.2.1 q.2.2.1 (g.2.2.2.1 q.2.2.2) U) ∧ va_Z "java/lang/String" "COMPACT_STRINGS" "Z" (.int 1) (ax_A g) U U.heap ∧ va_Z "jdk/internal/util/Preconditions" "SIOOBE_FORMATTER" "Ljava/util/function/BiFunction;" (ax_v g (ax_fo g 0)) (ax_A g) U U.heap ∧ va_Z "java/lang/Throwable" "UNASSIGNED_STACK" "[Ljava/lang/StackTraceElement;" (ax_v g (ax_fo g 1)) (ax_A g) U U.heap ∧ va_Z "java/lang/Throwable" "SUPPRESSED_SENTINEL" "Ljava/util/List;" (ax_v g (ax_fo g 2)) (ax_A g) U U.heap ∧ va_AO RX0 U ∧ va_AO RX10 U ∧ vx_Zq Bundle.tN "UNASSIGNED_STACK" Bundle.steD (ax_A g) U U.heap ∧ vx_Zq Bundle.tN "SUPPRESSED_SENTINEL" Bundle.listD (ax_A g) U U.heap
theorem ax_nw_on {w : Cond} (h : w ∈ ax_NW) : w.onTables = true := by
  have h2 := (List.mem_filter.mp h).2
  cases w <;> first | rfl | (simp [ax_nw] at h2)
theorem ax_nw_warm {w : Cond} (h : w ∈ ax_NW) {s U : State} (hW : s.WarmedH U.vm) (hZ : va_Nw w s) : va_Nw w U := by
  have h2 := (List.mem_filter.mp h).2
  cases w <;> first | exact va_Nw.warmF hW hZ | exact va_Nw.warmM hW hZ | exact va_Nw.warmC hW hZ | exact va_Nw.warmD hW hZ | (simp [ax_nw] at h2)
/-- the same of a later state, whose other cells are as they were -/
theorem ax_E.on {g : AG} {s U : State} (hE : ax_E g s) (hW : s.WarmedH U.vm) (hq : ∀ a : Nat, a < s.heap.size → ¬ ax_A g a → U.heap[a]? = s.heap[a]?) : ax_E g U :=
  ⟨va_K.moved hW.alike hE.1, fun w hw => ax_nw_warm hw hW (hE.2.1 w hw), (hE.2.2.1.kept hq).moved hW.alike, fun q h => (hE.2.2.2.1 q h).warm hW, va_Z.moved hW.alike (hE.2.2.2.2.1.kept hq), va_Z.moved hW.alike (hE.2.2.2.2.2.1.kept hq), va_Z.moved hW.alike (hE.2.2.2.2.2.2.1.kept hq), va_Z.moved hW.alike (hE.2.2.2.2.2.2.2.1.kept hq), va_AO.moved hW.alike hE.2.2.2.2.2.2.2.2.1, va_AO.moved hW.alike hE.2.2.2.2.2.2.2.2.2.1, vx_Zq.moved hW.alike (hE.2.2.2.2.2.2.2.2.2.2.1.kept hq), vx_Zq.moved hW.alike (hE.2.2.2.2.2.2.2.2.2.2.2.kept hq)⟩
theorem ax_E.calling {g : AG} {U : State} (gf : JFrame) (mk : MethodId) (a : Array Value) (hE : ax_E g U) : ax_E g (U.calling gf mk a) :=
  ⟨va_K.moved (u := U) (U := U.calling gf mk a) (Vm.Alike.refl U.vm) hE.1, fun w hw => va_Nw.same (ax_nw_on hw) (u := U) (U := U.calling gf mk a) rfl (hE.2.1 w hw), vk_S.moved (u := U) (U := U.calling gf mk a) (Vm.Alike.refl U.vm) hE.2.2.1, fun q h => vk_R.same (u := U) (U := U.calling gf mk a) rfl (hE.2.2.2.1 q h), va_Z.moved (u := U) (U := U.calling gf mk a) (Vm.Alike.refl U.vm) hE.2.2.2.2.1, va_Z.moved (u := U) (U := U.calling gf mk a) (Vm.Alike.refl U.vm) hE.2.2.2.2.2.1, va_Z.moved (u := U) (U := U.calling gf mk a) (Vm.Alike.refl U.vm) hE.2.2.2.2.2.2.1, va_Z.moved (u := U) (U := U.calling gf mk a) (Vm.Alike.refl U.vm) hE.2.2.2.2.2.2.2.1, va_AO.moved (u := U) (U := U.calling gf mk a) (Vm.Alike.refl U.vm) hE.2.2.2.2.2.2.2.2.1, va_AO.moved (u := U) (U := U.calling gf mk a) (Vm.Alike.refl U.vm) hE.2.2.2.2.2.2.2.2.2.1, vx_Zq.moved (u := U) (U := U.calling gf mk a) (Vm.Alike.refl U.vm) hE.2.2.2.2.2.2.2.2.2.2.1, vx_Zq.moved (u := U) (U := U.calling gf mk a) (Vm.Alike.refl U.vm) hE.2.2.2.2.2.2.2.2.2.2.2⟩
/-- methods whose tables of handlers matter: those that throw, and those that catch -/
def ax_hh (y : MethodName) : Option (List (Nat × Nat × Nat × Nat)) := if y.cls == "WindowHouseModel" && y.name == "app" then some [(58, 62, 65, 41)] else if y.cls == "WindowHouseLaw" && y.name == "row" then some [(0, 9, 12, 13)] else if y.cls == "WindowHouseModel" && ["need", "needWord", "needNumber", "varHere", "reads", "readWindow", "readCond", "readDeeds"].contains y.name then some [] else none
/-- a method: its name, code, locals, answer -/
abbrev AM : Type := MethodName × ByteArray × Nat × Option FieldType
def ax_C (g : AG) (M : AM) (n0 : Nat) (p : Program) (s : State) (m : MethodId) (args : Array Value) (meth : Method) (c : Code) : Prop :=
  p.tables.exec = Jvm.exec ∧ c.code = M.2.1 ∧ meth.sig.returnType = M.2.2.2 ∧ c.maxLocals = M.2.2.1 ∧ s.vm.findClass M.1.cls = some m.cls ∧ (∀ w ∈ ax_G, w.before args s = true) ∧ meth.locks = false ∧ meth.name = M.1.name ∧ ax_E g s ∧ g.2.2.1 + n0 < s.heap.size ∧ (n0 < ax_N → s.heap.size = g.2.2.1 + n0 + 1) ∧ (∀ hh, ax_hh M.1 = some hh → c.exceptionTable.toList = tableOf hh)
abbrev AF : Type := List Frame → Array Value → State → State → Prop
/-- a room: frames f, words k, the cells from n0 to nE -/
def ax_R (f k n0 nE : Nat) : Room := { frames := f, cells := nE - n0, slots := ax_z nE - ax_z n0, locals := k }
/-- the method M, begun with n0 cells, with n cells now, at pc with locals lv, stack st, heap h, comes to F -/
def Wp (l : Launch) (g : AG) (M : AM) (f k n0 nE n pc : Nat) (lv : List (Nat × Value)) (st : List Value) (h : AH) (F : AF) : Prop :=
  ∀ (p : Program) (e : Env) (s : State) (m : MethodId) (args : Array Value) (below : List Frame) (meth : Method) (c : Code), ax_C g M n0 p s m args meth c →
    ∀ (H : Heap) (locs : List Loc) (ls : Array Slot), va_P g.1 vwCl (ax_w g n h) H → va_S (ax_A g) s.heap H locs → lv_has ls M.2.2.1 (lv.map (ax_q g)) →
      W p l e (ax_R f k n0 nE) s m args below meth c H locs (n - n0) (ax_z n - ax_z n0) (F below args s) (F0 m pc ls (st.map (ax_v g)))
def ax_Q (g : AG) (n1 : Nat) (Q : Option Value → AH → Prop) : Array Value → State → Outcome → State → Prop := fun _ s o t =>
  ∃ (r : Option Value) (h : AH), o = .returned (r.map (ax_v g)) ∧ Q r h ∧ va_P g.1 vwCl (ax_w g n1 h) t.heap ∧ va_F (ax_A g) s t
/-- the end of a method that returns -/
def FM (g : AG) (n0 nE : Nat) (Q : Option Value → AH → Prop) : AF := fun below args s => MQ below (ax_Q g nE Q) args s (nE - n0) (ax_z nE - ax_z n0) (ax_A g)
def ax_P (g : AG) (n0 : Nat) (h : AH) (as : List Value) : Array Value → State → Prop := fun v U => v = (as.map (ax_v g)).toArray ∧ ax_E g U ∧ va_P g.1 vwCl (ax_w g n0 h) U.heap ∧ g.2.2.1 + n0 < U.heap.size ∧ (n0 < ax_N → U.heap.size = g.2.2.1 + n0 + 1)
def ax_ws (M : AM) : List Cond := .code M.1 M.2.1 M.2.2.1 M.2.2.2 :: ax_G
/-- M's contract at one heap and one list of arguments -/
def Ct (l : Launch) (g : AG) (M : AM) (f k n0 nE : Nat) (h : AH) (as : List Value) (Q : Option Value → AH → Prop) : Prop :=
  Met l M.1 (ax_ws M) (ax_R f k n0 nE) (ax_P g n0 h as) (ax_Q g nE Q) (nE - n0) (ax_z nE - ax_z n0) (ax_A g)
theorem ax_args (g : AG) : ∀ (as : List Value) (i : Nat), lv_args i (as.map (ax_v g)) = (lv_args i as).map (ax_q g)
  | [], _ => rfl
  | v :: as, i => by
    show (i, ax_v g v) :: lv_args (if (ax_v g v).category = 2 then i + 2 else i + 1) (as.map (ax_v g)) = (i, ax_v g v) :: (lv_args (if v.category = 2 then i + 2 else i + 1) as).map (ax_q g)
    rw [ax_v_cat, ax_args g as]
theorem ax_sl_len (g : AG) : ∀ as : List Value, (lg_sl (as.map (ax_v g))).length = (lg_sl as).length
  | [] => rfl
  | v :: as => by
    have ih := ax_sl_len g as
    simp only [lg_sl, List.map_cons, List.flatMap_cons, List.length_append] at ih ⊢
    rw [ih, ax_v_cat]
    by_cases h : v.category = 2 <;> simp [h]
theorem ax_met {l : Launch} {g : AG} {M : AM} {f k n0 nE : Nat} {h : AH} {as : List Value} {Q : Option Value → AH → Prop} (hy : plainName M.1.cls = true) (hhh : ax_hh M.1 = none) (hlen : (lg_sl as).length ≤ M.2.2.1)
    (hw : Wp l g M f k n0 nE n0 0 (lv_args 0 as) [] h (FM g n0 nE Q)) : Ct l g M f k n0 nE h as Q := by
  refine Met.ofW (cc := M.2.1) (maxL := M.2.2.1) (ret := M.2.2.2) hy rfl ?_
  intro p e s m args below meth c s₁ B hml hv
  obtain ⟨rfl, hE, hP, hz1, hz2⟩ := hv
  have hts := atoms_spec (ws := ax_ws M) B.pre
  have hl := lv_entry (as.map (ax_v g)) (n := M.2.2.1) (by rw [ax_sl_len]; exact hlen)
  rw [ax_args] at hl
  rw [lg_entry_eq]
  have K := hw p e s m _ below meth c ⟨B.exec, B.bytes, B.returns, hml, findClass_of_methodNamed B.named, fun w hw => hts w (List.mem_cons_of_mem _ hw), B.notSynchronized, (name_of_methodNamed B.named B.method).1, hE, hz1, hz2, fun hh h => by rw [hhh] at h; cases h⟩ s.heap [] _ hP va_S.rf hl
  rw [Nat.sub_self, Nat.sub_self] at K
  exact K
section AXR
variable {l : Launch} {g : AG} {M : AM} {f k n0 nE n pc : Nat} {lv : List (Nat × Value)} {st : List Value} {h : AH} {F : AF}
theorem wp_iconst {z : Int} {v : Int32} (hdg : decode M.2.1 pc = .ok (.iconst z, 1)) (hv : Int32.ofInt z = v) (kk : Wp l g M f k n0 nE n (pc + 1) lv (.int v :: st) h F) : Wp l g M f k n0 nE n pc lv st h F :=
  fun p e s m args below meth c C H locs ls hP hS hl => lv_iconst C.1 C.2.1 hdg hv (kk p e s m args below meth c C H locs ls hP hS hl)
theorem wp_bipush {z : Int} {v : Int32} (hdg : decode M.2.1 pc = .ok (.bipush z, 2)) (hv : (Int8.ofInt z).toInt32 = v) (kk : Wp l g M f k n0 nE n (pc + 2) lv (.int v :: st) h F) : Wp l g M f k n0 nE n pc lv st h F :=
  fun p e s m args below meth c C H locs ls hP hS hl => lv_bipush C.1 C.2.1 hdg hv (kk p e s m args below meth c C H locs ls hP hS hl)
theorem wp_sipush {z : Int} {v : Int32} (hdg : decode M.2.1 pc = .ok (.sipush z, 3)) (hv : (Int16.ofInt z).toInt32 = v) (kk : Wp l g M f k n0 nE n (pc + 3) lv (.int v :: st) h F) : Wp l g M f k n0 nE n pc lv st h F :=
  fun p e s m args below meth c C H locs ls hP hS hl => lv_sipush C.1 C.2.1 hdg hv (kk p e s m args below meth c C H locs ls hP hS hl)
theorem wp_lconst {z : Fin 2} {v : Int64} (hdg : decode M.2.1 pc = .ok (.lconst z, 1)) (hv : Int64.ofNat (z : Nat) = v) (kk : Wp l g M f k n0 nE n (pc + 1) lv (.long v :: st) h F) : Wp l g M f k n0 nE n pc lv st h F :=
  fun p e s m args below meth c C H locs ls hP hS hl => lv_lconst C.1 C.2.1 hdg hv (kk p e s m args below meth c C H locs ls hP hS hl)
theorem ax_at {g : AG} {ls : Array Slot} {nL : Nat} {lv : List (Nat × Value)} (h : lv_has ls nL (lv.map (ax_q g))) (j : Nat) {i : Nat} {v : Value} (hk : lv[j]? = some (i, v)) : ls[i]? = some (.val (ax_v g v)) := lv_at h j (by rw [List.getElem?_map, hk]; rfl)
theorem wp_iload_n {z : Fin 4} {i : Nat} {x : Int32} (j : Nat) (hdg : decode M.2.1 pc = .ok (.iload_n z, 1)) (hi : (z : Nat) = i) (hj : lv[j]? = some (i, .int x)) (kk : Wp l g M f k n0 nE n (pc + 1) lv (.int x :: st) h F) : Wp l g M f k n0 nE n pc lv st h F :=
  fun p e s m args below meth c C H locs ls hP hS hl => lv_iload_n C.1 C.2.1 hdg hi (ax_at hl j hj) (kk p e s m args below meth c C H locs ls hP hS hl)
theorem wp_iload {i : Nat} {x : Int32} (j : Nat) (hdg : decode M.2.1 pc = .ok (.iload i, 2)) (hj : lv[j]? = some (i, .int x)) (kk : Wp l g M f k n0 nE n (pc + 2) lv (.int x :: st) h F) : Wp l g M f k n0 nE n pc lv st h F :=
  fun p e s m args below meth c C H locs ls hP hS hl => lv_iload C.1 C.2.1 hdg (ax_at hl j hj) (kk p e s m args below meth c C H locs ls hP hS hl)
theorem wp_lload_n {z : Fin 4} {i : Nat} {x : Int64} (j : Nat) (hdg : decode M.2.1 pc = .ok (.lload_n z, 1)) (hi : (z : Nat) = i) (hj : lv[j]? = some (i, .long x)) (kk : Wp l g M f k n0 nE n (pc + 1) lv (.long x :: st) h F) : Wp l g M f k n0 nE n pc lv st h F :=
  fun p e s m args below meth c C H locs ls hP hS hl => lv_lload_n C.1 C.2.1 hdg hi (ax_at hl j hj) (kk p e s m args below meth c C H locs ls hP hS hl)
theorem wp_lload {i : Nat} {x : Int64} (j : Nat) (hdg : decode M.2.1 pc = .ok (.lload i, 2)) (hj : lv[j]? = some (i, .long x)) (kk : Wp l g M f k n0 nE n (pc + 2) lv (.long x :: st) h F) : Wp l g M f k n0 nE n pc lv st h F :=
  fun p e s m args below meth c C H locs ls hP hS hl => lv_lload C.1 C.2.1 hdg (ax_at hl j hj) (kk p e s m args below meth c C H locs ls hP hS hl)
theorem wp_aload_n {z : Fin 4} {i : Nat} {x : Nat} (j : Nat) (hdg : decode M.2.1 pc = .ok (.aload_n z, 1)) (hi : (z : Nat) = i) (hj : lv[j]? = some (i, .ref x)) (kk : Wp l g M f k n0 nE n (pc + 1) lv (.ref x :: st) h F) : Wp l g M f k n0 nE n pc lv st h F :=
  fun p e s m args below meth c C H locs ls hP hS hl => lv_aload_n C.1 C.2.1 hdg hi (ax_at hl j hj) (kk p e s m args below meth c C H locs ls hP hS hl)
theorem wp_aload {i : Nat} {x : Nat} (j : Nat) (hdg : decode M.2.1 pc = .ok (.aload i, 2)) (hj : lv[j]? = some (i, .ref x)) (kk : Wp l g M f k n0 nE n (pc + 2) lv (.ref x :: st) h F) : Wp l g M f k n0 nE n pc lv st h F :=
  fun p e s m args below meth c C H locs ls hP hS hl => lv_aload C.1 C.2.1 hdg (ax_at hl j hj) (kk p e s m args below meth c C H locs ls hP hS hl)
theorem ax_flt (g : AG) (lv : List (Nat × Value)) (i : Nat) : (lv.map (ax_q g)).filter (fun q => !(q.1 == i) && !(q.1 + 1 == i && q.2.category == 2)) = (lv.filter (fun q => !(q.1 == i) && !(q.1 + 1 == i && q.2.category == 2))).map (ax_q g) := by
  rw [List.filter_map]
  congr 2
  funext q
  show (!(q.1 == i) && !(q.1 + 1 == i && (ax_v g q.2).category == 2)) = _
  rw [ax_v_cat]
theorem ax_flt2 (g : AG) (lv : List (Nat × Value)) (i : Nat) : (lv.map (ax_q g)).filter (fun q => !(q.1 == i) && (!(q.1 == i + 1) && !(q.1 + 1 == i && q.2.category == 2))) = (lv.filter (fun q => !(q.1 == i) && (!(q.1 == i + 1) && !(q.1 + 1 == i && q.2.category == 2)))).map (ax_q g) := by
  rw [List.filter_map]
  congr 2
  funext q
  show (!(q.1 == i) && (!(q.1 == i + 1) && !(q.1 + 1 == i && (ax_v g q.2).category == 2))) = _
  rw [ax_v_cat]
theorem wp_istore_n {z : Fin 4} {i : Nat} {x : Int32} {lv2 : List (Nat × Value)} (hdg : decode M.2.1 pc = .ok (.istore_n z, 1)) (hi : (z : Nat) = i) (hn : i < M.2.2.1) (hl2 : (i, Value.int x) :: lv.filter (fun q => !(q.1 == i) && !(q.1 + 1 == i && q.2.category == 2)) = lv2) (kk : Wp l g M f k n0 nE n (pc + 1) lv2 st h F) : Wp l g M f k n0 nE n pc lv (.int x :: st) h F :=
  fun p e s m args below meth c C H locs ls hP hS hl => lv_istore_n C.1 C.2.1 hdg hi hl hn (by rw [ax_flt]; exact congrArg (List.map (ax_q g)) hl2) (fun ls2 hl3 => kk p e s m args below meth c C H locs ls2 hP hS hl3)
theorem wp_istore {i : Nat} {x : Int32} {lv2 : List (Nat × Value)} (hdg : decode M.2.1 pc = .ok (.istore i, 2)) (hn : i < M.2.2.1) (hl2 : (i, Value.int x) :: lv.filter (fun q => !(q.1 == i) && !(q.1 + 1 == i && q.2.category == 2)) = lv2) (kk : Wp l g M f k n0 nE n (pc + 2) lv2 st h F) : Wp l g M f k n0 nE n pc lv (.int x :: st) h F :=
  fun p e s m args below meth c C H locs ls hP hS hl => lv_istore C.1 C.2.1 hdg hl hn (by rw [ax_flt]; exact congrArg (List.map (ax_q g)) hl2) (fun ls2 hl3 => kk p e s m args below meth c C H locs ls2 hP hS hl3)
theorem wp_lstore_n {z : Fin 4} {i : Nat} {x : Int64} {lv2 : List (Nat × Value)} (hdg : decode M.2.1 pc = .ok (.lstore_n z, 1)) (hi : (z : Nat) = i) (hn : i + 1 < M.2.2.1) (hl2 : (i, Value.long x) :: lv.filter (fun q => !(q.1 == i) && (!(q.1 == i + 1) && !(q.1 + 1 == i && q.2.category == 2))) = lv2) (kk : Wp l g M f k n0 nE n (pc + 1) lv2 st h F) : Wp l g M f k n0 nE n pc lv (.long x :: st) h F :=
  fun p e s m args below meth c C H locs ls hP hS hl => lv_lstore_n C.1 C.2.1 hdg hi hl hn (by rw [ax_flt2]; exact congrArg (List.map (ax_q g)) hl2) (fun ls2 hl3 => kk p e s m args below meth c C H locs ls2 hP hS hl3)
theorem wp_lstore {i : Nat} {x : Int64} {lv2 : List (Nat × Value)} (hdg : decode M.2.1 pc = .ok (.lstore i, 2)) (hn : i + 1 < M.2.2.1) (hl2 : (i, Value.long x) :: lv.filter (fun q => !(q.1 == i) && (!(q.1 == i + 1) && !(q.1 + 1 == i && q.2.category == 2))) = lv2) (kk : Wp l g M f k n0 nE n (pc + 2) lv2 st h F) : Wp l g M f k n0 nE n pc lv (.long x :: st) h F :=
  fun p e s m args below meth c C H locs ls hP hS hl => lv_lstore C.1 C.2.1 hdg hl hn (by rw [ax_flt2]; exact congrArg (List.map (ax_q g)) hl2) (fun ls2 hl3 => kk p e s m args below meth c C H locs ls2 hP hS hl3)
theorem wp_astore_n {z : Fin 4} {i : Nat} {x : Nat} {lv2 : List (Nat × Value)} (hdg : decode M.2.1 pc = .ok (.astore_n z, 1)) (hi : (z : Nat) = i) (hn : i < M.2.2.1) (hl2 : (i, Value.ref x) :: lv.filter (fun q => !(q.1 == i) && !(q.1 + 1 == i && q.2.category == 2)) = lv2) (kk : Wp l g M f k n0 nE n (pc + 1) lv2 st h F) : Wp l g M f k n0 nE n pc lv (.ref x :: st) h F :=
  fun p e s m args below meth c C H locs ls hP hS hl => lv_astore_n C.1 C.2.1 hdg hi hl hn (by rw [ax_flt]; exact congrArg (List.map (ax_q g)) hl2) (fun ls2 hl3 => kk p e s m args below meth c C H locs ls2 hP hS hl3)
theorem wp_astore {i : Nat} {x : Nat} {lv2 : List (Nat × Value)} (hdg : decode M.2.1 pc = .ok (.astore i, 2)) (hn : i < M.2.2.1) (hl2 : (i, Value.ref x) :: lv.filter (fun q => !(q.1 == i) && !(q.1 + 1 == i && q.2.category == 2)) = lv2) (kk : Wp l g M f k n0 nE n (pc + 2) lv2 st h F) : Wp l g M f k n0 nE n pc lv (.ref x :: st) h F :=
  fun p e s m args below meth c C H locs ls hP hS hl => lv_astore C.1 C.2.1 hdg hl hn (by rw [ax_flt]; exact congrArg (List.map (ax_q g)) hl2) (fun ls2 hl3 => kk p e s m args below meth c C H locs ls2 hP hS hl3)
theorem wp_iinc {i : Nat} {z : Int} {x v : Int32} {lv2 : List (Nat × Value)} (j : Nat) (hdg : decode M.2.1 pc = .ok (.iinc i z, 3)) (hj : lv[j]? = some (i, .int x)) (hv : x + Int32.ofInt z = v) (hn : i < M.2.2.1) (hl2 : (i, Value.int v) :: lv.filter (fun q => !(q.1 == i) && !(q.1 + 1 == i && q.2.category == 2)) = lv2) (kk : Wp l g M f k n0 nE n (pc + 3) lv2 st h F) : Wp l g M f k n0 nE n pc lv st h F :=
  fun p e s m args below meth c C H locs ls hP hS hl => lv_iinc (k := j) C.1 C.2.1 hdg hl (by rw [List.getElem?_map, hj]; rfl) hv hn (by rw [ax_flt]; exact congrArg (List.map (ax_q g)) hl2) (fun ls2 hl3 => kk p e s m args below meth c C H locs ls2 hP hS hl3)
def jirem (x y : Int32) : Int32 := x - x / y * y
def jishl (x y : Int32) : Int32 := x <<< (y &&& 31)
def jishr (x y : Int32) : Int32 := x >>> (y &&& 31)
def jiushr (x y : Int32) : Int32 := (x.toUInt32 >>> (y.toUInt32 &&& Int32.toUInt32 31)).toInt32
def jlshl (x : Int64) (y : Int32) : Int64 := x <<< (y.toInt64 &&& 63)
def jlshr (x : Int64) (y : Int32) : Int64 := x >>> (y.toInt64 &&& 63)
def jlushr (x : Int64) (y : Int32) : Int64 := (x.toUInt64 >>> (y.toInt64.toUInt64 &&& Int64.toUInt64 63)).toInt64
theorem wp_iadd {x y : Int32} (hdg : decode M.2.1 pc = .ok (.iadd, 1)) (kk : Wp l g M f k n0 nE n (pc + 1) lv (.int (x + y) :: st) h F) : Wp l g M f k n0 nE n pc lv (.int y :: .int x :: st) h F :=
  fun p e s m args below meth c C H locs ls hP hS hl => lv_iadd C.1 C.2.1 hdg (kk p e s m args below meth c C H locs ls hP hS hl)
theorem wp_isub {x y : Int32} (hdg : decode M.2.1 pc = .ok (.isub, 1)) (kk : Wp l g M f k n0 nE n (pc + 1) lv (.int (x - y) :: st) h F) : Wp l g M f k n0 nE n pc lv (.int y :: .int x :: st) h F :=
  fun p e s m args below meth c C H locs ls hP hS hl => lv_isub C.1 C.2.1 hdg (kk p e s m args below meth c C H locs ls hP hS hl)
theorem wp_imul {x y : Int32} (hdg : decode M.2.1 pc = .ok (.imul, 1)) (kk : Wp l g M f k n0 nE n (pc + 1) lv (.int (x * y) :: st) h F) : Wp l g M f k n0 nE n pc lv (.int y :: .int x :: st) h F :=
  fun p e s m args below meth c C H locs ls hP hS hl => lv_imul C.1 C.2.1 hdg (kk p e s m args below meth c C H locs ls hP hS hl)
theorem wp_iand {x y : Int32} (hdg : decode M.2.1 pc = .ok (.iand, 1)) (kk : Wp l g M f k n0 nE n (pc + 1) lv (.int (x &&& y) :: st) h F) : Wp l g M f k n0 nE n pc lv (.int y :: .int x :: st) h F :=
  fun p e s m args below meth c C H locs ls hP hS hl => lv_iand C.1 C.2.1 hdg (kk p e s m args below meth c C H locs ls hP hS hl)
theorem wp_ior {x y : Int32} (hdg : decode M.2.1 pc = .ok (.ior, 1)) (kk : Wp l g M f k n0 nE n (pc + 1) lv (.int (x ||| y) :: st) h F) : Wp l g M f k n0 nE n pc lv (.int y :: .int x :: st) h F :=
  fun p e s m args below meth c C H locs ls hP hS hl => lv_ior C.1 C.2.1 hdg (kk p e s m args below meth c C H locs ls hP hS hl)
theorem wp_ixor {x y : Int32} (hdg : decode M.2.1 pc = .ok (.ixor, 1)) (kk : Wp l g M f k n0 nE n (pc + 1) lv (.int (x ^^^ y) :: st) h F) : Wp l g M f k n0 nE n pc lv (.int y :: .int x :: st) h F :=
  fun p e s m args below meth c C H locs ls hP hS hl => lv_ixor C.1 C.2.1 hdg (kk p e s m args below meth c C H locs ls hP hS hl)
theorem wp_ishl {x y : Int32} (hdg : decode M.2.1 pc = .ok (.ishl, 1)) (kk : Wp l g M f k n0 nE n (pc + 1) lv (.int (jishl x y) :: st) h F) : Wp l g M f k n0 nE n pc lv (.int y :: .int x :: st) h F :=
  fun p e s m args below meth c C H locs ls hP hS hl => lv_ishl C.1 C.2.1 hdg (kk p e s m args below meth c C H locs ls hP hS hl)
theorem wp_ishr {x y : Int32} (hdg : decode M.2.1 pc = .ok (.ishr, 1)) (kk : Wp l g M f k n0 nE n (pc + 1) lv (.int (jishr x y) :: st) h F) : Wp l g M f k n0 nE n pc lv (.int y :: .int x :: st) h F :=
  fun p e s m args below meth c C H locs ls hP hS hl => lv_ishr C.1 C.2.1 hdg (kk p e s m args below meth c C H locs ls hP hS hl)
theorem wp_irem {x y : Int32} (hdg : decode M.2.1 pc = .ok (.irem, 1)) (hne : ¬ y = 0) (kk : Wp l g M f k n0 nE n (pc + 1) lv (.int (jirem x y) :: st) h F) : Wp l g M f k n0 nE n pc lv (.int y :: .int x :: st) h F :=
  fun p e s m args below meth c C H locs ls hP hS hl => lv_irem C.1 C.2.1 hdg hne (kk p e s m args below meth c C H locs ls hP hS hl)
theorem wp_ineg {x : Int32} (hdg : decode M.2.1 pc = .ok (.ineg, 1)) (kk : Wp l g M f k n0 nE n (pc + 1) lv (.int (-x) :: st) h F) : Wp l g M f k n0 nE n pc lv (.int x :: st) h F :=
  fun p e s m args below meth c C H locs ls hP hS hl => lv_ineg C.1 C.2.1 hdg (kk p e s m args below meth c C H locs ls hP hS hl)
theorem wp_ladd {x y : Int64} (hdg : decode M.2.1 pc = .ok (.ladd, 1)) (kk : Wp l g M f k n0 nE n (pc + 1) lv (.long (x + y) :: st) h F) : Wp l g M f k n0 nE n pc lv (.long y :: .long x :: st) h F :=
  fun p e s m args below meth c C H locs ls hP hS hl => lv_ladd C.1 C.2.1 hdg (kk p e s m args below meth c C H locs ls hP hS hl)
theorem wp_lsub {x y : Int64} (hdg : decode M.2.1 pc = .ok (.lsub, 1)) (kk : Wp l g M f k n0 nE n (pc + 1) lv (.long (x - y) :: st) h F) : Wp l g M f k n0 nE n pc lv (.long y :: .long x :: st) h F :=
  fun p e s m args below meth c C H locs ls hP hS hl => lv_lsub C.1 C.2.1 hdg (kk p e s m args below meth c C H locs ls hP hS hl)
theorem wp_lmul {x y : Int64} (hdg : decode M.2.1 pc = .ok (.lmul, 1)) (kk : Wp l g M f k n0 nE n (pc + 1) lv (.long (x * y) :: st) h F) : Wp l g M f k n0 nE n pc lv (.long y :: .long x :: st) h F :=
  fun p e s m args below meth c C H locs ls hP hS hl => lv_lmul C.1 C.2.1 hdg (kk p e s m args below meth c C H locs ls hP hS hl)
theorem wp_land {x y : Int64} (hdg : decode M.2.1 pc = .ok (.land, 1)) (kk : Wp l g M f k n0 nE n (pc + 1) lv (.long (x &&& y) :: st) h F) : Wp l g M f k n0 nE n pc lv (.long y :: .long x :: st) h F :=
  fun p e s m args below meth c C H locs ls hP hS hl => lv_land C.1 C.2.1 hdg (kk p e s m args below meth c C H locs ls hP hS hl)
theorem wp_lor {x y : Int64} (hdg : decode M.2.1 pc = .ok (.lor, 1)) (kk : Wp l g M f k n0 nE n (pc + 1) lv (.long (x ||| y) :: st) h F) : Wp l g M f k n0 nE n pc lv (.long y :: .long x :: st) h F :=
  fun p e s m args below meth c C H locs ls hP hS hl => lv_lor C.1 C.2.1 hdg (kk p e s m args below meth c C H locs ls hP hS hl)
theorem wp_lxor {x y : Int64} (hdg : decode M.2.1 pc = .ok (.lxor, 1)) (kk : Wp l g M f k n0 nE n (pc + 1) lv (.long (x ^^^ y) :: st) h F) : Wp l g M f k n0 nE n pc lv (.long y :: .long x :: st) h F :=
  fun p e s m args below meth c C H locs ls hP hS hl => lv_lxor C.1 C.2.1 hdg (kk p e s m args below meth c C H locs ls hP hS hl)
theorem wp_lcmp {x y : Int64} (hdg : decode M.2.1 pc = .ok (.lcmp, 1)) (kk : Wp l g M f k n0 nE n (pc + 1) lv (.int (lg_cmp x y) :: st) h F) : Wp l g M f k n0 nE n pc lv (.long y :: .long x :: st) h F :=
  fun p e s m args below meth c C H locs ls hP hS hl => W.lcmp C.1 C.2.1 hdg (kk p e s m args below meth c C H locs ls hP hS hl)
theorem wp_iushr {x y : Int32} (hdg : decode M.2.1 pc = .ok (.iushr, 1)) (kk : Wp l g M f k n0 nE n (pc + 1) lv (.int (jiushr x y) :: st) h F) : Wp l g M f k n0 nE n pc lv (.int y :: .int x :: st) h F :=
  fun p e s m args below meth c C H locs ls hP hS hl => lv_iushr C.1 C.2.1 hdg rfl (kk p e s m args below meth c C H locs ls hP hS hl)
theorem wp_lshl {x : Int64} {y : Int32} (hdg : decode M.2.1 pc = .ok (.lshl, 1)) (kk : Wp l g M f k n0 nE n (pc + 1) lv (.long (jlshl x y) :: st) h F) : Wp l g M f k n0 nE n pc lv (.int y :: .long x :: st) h F :=
  fun p e s m args below meth c C H locs ls hP hS hl => lv_lshl C.1 C.2.1 hdg rfl (kk p e s m args below meth c C H locs ls hP hS hl)
theorem wp_lshr {x : Int64} {y : Int32} (hdg : decode M.2.1 pc = .ok (.lshr, 1)) (kk : Wp l g M f k n0 nE n (pc + 1) lv (.long (jlshr x y) :: st) h F) : Wp l g M f k n0 nE n pc lv (.int y :: .long x :: st) h F :=
  fun p e s m args below meth c C H locs ls hP hS hl => lv_lshr C.1 C.2.1 hdg rfl (kk p e s m args below meth c C H locs ls hP hS hl)
theorem wp_lushr {x : Int64} {y : Int32} (hdg : decode M.2.1 pc = .ok (.lushr, 1)) (kk : Wp l g M f k n0 nE n (pc + 1) lv (.long (jlushr x y) :: st) h F) : Wp l g M f k n0 nE n pc lv (.int y :: .long x :: st) h F :=
  fun p e s m args below meth c C H locs ls hP hS hl => lv_lushr C.1 C.2.1 hdg rfl (kk p e s m args below meth c C H locs ls hP hS hl)
theorem wp_i2l {x : Int32} (hdg : decode M.2.1 pc = .ok (.i2l, 1)) (kk : Wp l g M f k n0 nE n (pc + 1) lv (.long x.toInt64 :: st) h F) : Wp l g M f k n0 nE n pc lv (.int x :: st) h F :=
  fun p e s m args below meth c C H locs ls hP hS hl => lv_i2l C.1 C.2.1 hdg rfl (kk p e s m args below meth c C H locs ls hP hS hl)
theorem wp_l2i {x : Int64} (hdg : decode M.2.1 pc = .ok (.l2i, 1)) (kk : Wp l g M f k n0 nE n (pc + 1) lv (.int x.toInt32 :: st) h F) : Wp l g M f k n0 nE n pc lv (.long x :: st) h F :=
  fun p e s m args below meth c C H locs ls hP hS hl => lv_l2i C.1 C.2.1 hdg rfl (kk p e s m args below meth c C H locs ls hP hS hl)
theorem wp_i2b {x : Int32} (hdg : decode M.2.1 pc = .ok (.i2b, 1)) (kk : Wp l g M f k n0 nE n (pc + 1) lv (.int x.toInt8.toInt32 :: st) h F) : Wp l g M f k n0 nE n pc lv (.int x :: st) h F :=
  fun p e s m args below meth c C H locs ls hP hS hl => lv_i2b C.1 C.2.1 hdg rfl (kk p e s m args below meth c C H locs ls hP hS hl)
theorem wp_dup {v : Value} (hdg : decode M.2.1 pc = .ok (.dup, 1)) (hv : v.category = 1) (kk : Wp l g M f k n0 nE n (pc + 1) lv (v :: v :: st) h F) : Wp l g M f k n0 nE n pc lv (v :: st) h F :=
  fun p e s m args below meth c C H locs ls hP hS hl => lv_dup C.1 C.2.1 hdg (by rw [ax_v_cat]; exact hv) (kk p e s m args below meth c C H locs ls hP hS hl)
theorem wp_pop {v : Value} (hdg : decode M.2.1 pc = .ok (.pop, 1)) (hv : v.category = 1) (kk : Wp l g M f k n0 nE n (pc + 1) lv st h F) : Wp l g M f k n0 nE n pc lv (v :: st) h F :=
  fun p e s m args below meth c C H locs ls hP hS hl => lv_pop C.1 C.2.1 hdg (by rw [ax_v_cat]; exact hv) (kk p e s m args below meth c C H locs ls hP hS hl)
theorem wp_dup2_11 {v u : Value} (hdg : decode M.2.1 pc = .ok (.dup2, 1)) (hv : v.category = 1) (hu : u.category = 1) (kk : Wp l g M f k n0 nE n (pc + 1) lv (v :: u :: v :: u :: st) h F) : Wp l g M f k n0 nE n pc lv (v :: u :: st) h F :=
  fun p e s m args below meth c C H locs ls hP hS hl => lv_dup2_11 C.1 C.2.1 hdg (by rw [ax_v_cat]; exact hv) (by rw [ax_v_cat]; exact hu) (kk p e s m args below meth c C H locs ls hP hS hl)
theorem wp_dup2_2 {v : Value} (hdg : decode M.2.1 pc = .ok (.dup2, 1)) (hv : v.category = 2) (kk : Wp l g M f k n0 nE n (pc + 1) lv (v :: v :: st) h F) : Wp l g M f k n0 nE n pc lv (v :: st) h F :=
  fun p e s m args below meth c C H locs ls hP hS hl => lv_dup2_2 C.1 C.2.1 hdg (by rw [ax_v_cat]; exact hv) (kk p e s m args below meth c C H locs ls hP hS hl)
theorem wp_if_eq {x : Int32} {off : Int} {tgt : Nat} (hdg : decode M.2.1 pc = .ok (.ifCond .eq off, 3)) (ht : (pc : Int) + off = (tgt : Int)) (kt : x = 0 → Wp l g M f k n0 nE n tgt lv st h F) (kf : ¬ (x = 0) → Wp l g M f k n0 nE n (pc + 3) lv st h F) : Wp l g M f k n0 nE n pc lv (.int x :: st) h F :=
  fun p e s m args below meth c C H locs ls hP hS hl => lv_if_eq C.1 C.2.1 hdg ht (fun q => kt q p e s m args below meth c C H locs ls hP hS hl) (fun q => kf q p e s m args below meth c C H locs ls hP hS hl)
theorem wp_icmp_eq {x y : Int32} {off : Int} {tgt : Nat} (hdg : decode M.2.1 pc = .ok (.if_icmp .eq off, 3)) (ht : (pc : Int) + off = (tgt : Int)) (kt : x = y → Wp l g M f k n0 nE n tgt lv st h F) (kf : ¬ (x = y) → Wp l g M f k n0 nE n (pc + 3) lv st h F) : Wp l g M f k n0 nE n pc lv (.int y :: .int x :: st) h F :=
  fun p e s m args below meth c C H locs ls hP hS hl => lv_icmp_eq C.1 C.2.1 hdg ht (fun q => kt q p e s m args below meth c C H locs ls hP hS hl) (fun q => kf q p e s m args below meth c C H locs ls hP hS hl)
theorem wp_if_ne {x : Int32} {off : Int} {tgt : Nat} (hdg : decode M.2.1 pc = .ok (.ifCond .ne off, 3)) (ht : (pc : Int) + off = (tgt : Int)) (kt : ¬ x = 0 → Wp l g M f k n0 nE n tgt lv st h F) (kf : x = 0 → Wp l g M f k n0 nE n (pc + 3) lv st h F) : Wp l g M f k n0 nE n pc lv (.int x :: st) h F :=
  fun p e s m args below meth c C H locs ls hP hS hl => lv_if_ne C.1 C.2.1 hdg ht (fun q => kt q p e s m args below meth c C H locs ls hP hS hl) (fun q => kf q p e s m args below meth c C H locs ls hP hS hl)
theorem wp_icmp_ne {x y : Int32} {off : Int} {tgt : Nat} (hdg : decode M.2.1 pc = .ok (.if_icmp .ne off, 3)) (ht : (pc : Int) + off = (tgt : Int)) (kt : ¬ x = y → Wp l g M f k n0 nE n tgt lv st h F) (kf : x = y → Wp l g M f k n0 nE n (pc + 3) lv st h F) : Wp l g M f k n0 nE n pc lv (.int y :: .int x :: st) h F :=
  fun p e s m args below meth c C H locs ls hP hS hl => lv_icmp_ne C.1 C.2.1 hdg ht (fun q => kt q p e s m args below meth c C H locs ls hP hS hl) (fun q => kf q p e s m args below meth c C H locs ls hP hS hl)
theorem wp_if_lt {x : Int32} {off : Int} {tgt : Nat} (hdg : decode M.2.1 pc = .ok (.ifCond .lt off, 3)) (ht : (pc : Int) + off = (tgt : Int)) (kt : x < 0 → Wp l g M f k n0 nE n tgt lv st h F) (kf : ¬ (x < 0) → Wp l g M f k n0 nE n (pc + 3) lv st h F) : Wp l g M f k n0 nE n pc lv (.int x :: st) h F :=
  fun p e s m args below meth c C H locs ls hP hS hl => lv_if_lt C.1 C.2.1 hdg ht (fun q => kt q p e s m args below meth c C H locs ls hP hS hl) (fun q => kf q p e s m args below meth c C H locs ls hP hS hl)
theorem wp_icmp_lt {x y : Int32} {off : Int} {tgt : Nat} (hdg : decode M.2.1 pc = .ok (.if_icmp .lt off, 3)) (ht : (pc : Int) + off = (tgt : Int)) (kt : x < y → Wp l g M f k n0 nE n tgt lv st h F) (kf : ¬ (x < y) → Wp l g M f k n0 nE n (pc + 3) lv st h F) : Wp l g M f k n0 nE n pc lv (.int y :: .int x :: st) h F :=
  fun p e s m args below meth c C H locs ls hP hS hl => lv_icmp_lt C.1 C.2.1 hdg ht (fun q => kt q p e s m args below meth c C H locs ls hP hS hl) (fun q => kf q p e s m args below meth c C H locs ls hP hS hl)
theorem wp_if_ge {x : Int32} {off : Int} {tgt : Nat} (hdg : decode M.2.1 pc = .ok (.ifCond .ge off, 3)) (ht : (pc : Int) + off = (tgt : Int)) (kt : 0 ≤ x → Wp l g M f k n0 nE n tgt lv st h F) (kf : ¬ (0 ≤ x) → Wp l g M f k n0 nE n (pc + 3) lv st h F) : Wp l g M f k n0 nE n pc lv (.int x :: st) h F :=
  fun p e s m args below meth c C H locs ls hP hS hl => lv_if_ge C.1 C.2.1 hdg ht (fun q => kt q p e s m args below meth c C H locs ls hP hS hl) (fun q => kf q p e s m args below meth c C H locs ls hP hS hl)
theorem wp_icmp_ge {x y : Int32} {off : Int} {tgt : Nat} (hdg : decode M.2.1 pc = .ok (.if_icmp .ge off, 3)) (ht : (pc : Int) + off = (tgt : Int)) (kt : y ≤ x → Wp l g M f k n0 nE n tgt lv st h F) (kf : ¬ (y ≤ x) → Wp l g M f k n0 nE n (pc + 3) lv st h F) : Wp l g M f k n0 nE n pc lv (.int y :: .int x :: st) h F :=
  fun p e s m args below meth c C H locs ls hP hS hl => lv_icmp_ge C.1 C.2.1 hdg ht (fun q => kt q p e s m args below meth c C H locs ls hP hS hl) (fun q => kf q p e s m args below meth c C H locs ls hP hS hl)
theorem wp_if_gt {x : Int32} {off : Int} {tgt : Nat} (hdg : decode M.2.1 pc = .ok (.ifCond .gt off, 3)) (ht : (pc : Int) + off = (tgt : Int)) (kt : 0 < x → Wp l g M f k n0 nE n tgt lv st h F) (kf : ¬ (0 < x) → Wp l g M f k n0 nE n (pc + 3) lv st h F) : Wp l g M f k n0 nE n pc lv (.int x :: st) h F :=
  fun p e s m args below meth c C H locs ls hP hS hl => lv_if_gt C.1 C.2.1 hdg ht (fun q => kt q p e s m args below meth c C H locs ls hP hS hl) (fun q => kf q p e s m args below meth c C H locs ls hP hS hl)
theorem wp_icmp_gt {x y : Int32} {off : Int} {tgt : Nat} (hdg : decode M.2.1 pc = .ok (.if_icmp .gt off, 3)) (ht : (pc : Int) + off = (tgt : Int)) (kt : y < x → Wp l g M f k n0 nE n tgt lv st h F) (kf : ¬ (y < x) → Wp l g M f k n0 nE n (pc + 3) lv st h F) : Wp l g M f k n0 nE n pc lv (.int y :: .int x :: st) h F :=
  fun p e s m args below meth c C H locs ls hP hS hl => lv_icmp_gt C.1 C.2.1 hdg ht (fun q => kt q p e s m args below meth c C H locs ls hP hS hl) (fun q => kf q p e s m args below meth c C H locs ls hP hS hl)
theorem wp_if_le {x : Int32} {off : Int} {tgt : Nat} (hdg : decode M.2.1 pc = .ok (.ifCond .le off, 3)) (ht : (pc : Int) + off = (tgt : Int)) (kt : x ≤ 0 → Wp l g M f k n0 nE n tgt lv st h F) (kf : ¬ (x ≤ 0) → Wp l g M f k n0 nE n (pc + 3) lv st h F) : Wp l g M f k n0 nE n pc lv (.int x :: st) h F :=
  fun p e s m args below meth c C H locs ls hP hS hl => lv_if_le C.1 C.2.1 hdg ht (fun q => kt q p e s m args below meth c C H locs ls hP hS hl) (fun q => kf q p e s m args below meth c C H locs ls hP hS hl)
theorem wp_icmp_le {x y : Int32} {off : Int} {tgt : Nat} (hdg : decode M.2.1 pc = .ok (.if_icmp .le off, 3)) (ht : (pc : Int) + off = (tgt : Int)) (kt : x ≤ y → Wp l g M f k n0 nE n tgt lv st h F) (kf : ¬ (x ≤ y) → Wp l g M f k n0 nE n (pc + 3) lv st h F) : Wp l g M f k n0 nE n pc lv (.int y :: .int x :: st) h F :=
  fun p e s m args below meth c C H locs ls hP hS hl => lv_icmp_le C.1 C.2.1 hdg ht (fun q => kt q p e s m args below meth c C H locs ls hP hS hl) (fun q => kf q p e s m args below meth c C H locs ls hP hS hl)
theorem wp_goto {off : Int} {tgt : Nat} (hdg : decode M.2.1 pc = .ok (.goto off, 3)) (ht : (pc : Int) + off = (tgt : Int)) (kk : Wp l g M f k n0 nE n tgt lv st h F) : Wp l g M f k n0 nE n pc lv st h F :=
  fun p e s m args below meth c C H locs ls hP hS hl => lv_goto C.1 C.2.1 hdg ht (kk p e s m args below meth c C H locs ls hP hS hl)
theorem wp_tableIn {dflt lo hi : Int} {offs : Array Int} {len : Nat} {x v : Int32} {off : Int} {tgt : Nat} (hdg : decode M.2.1 pc = .ok (.tableswitch dflt lo hi offs, len)) (hx : x = v) (h1 : ¬ v.toInt < lo) (h2 : ¬ hi < v.toInt) (ho : offs[(v.toInt - lo).toNat]? = some off) (ht : (pc : Int) + off = (tgt : Int)) (kk : Wp l g M f k n0 nE n tgt lv st h F) : Wp l g M f k n0 nE n pc lv (.int x :: st) h F :=
  fun p e s m args below meth c C H locs ls hP hS hl => lv_tableIn C.1 C.2.1 hdg (by rw [hx]; exact h1) (by rw [hx]; exact h2) (by rw [hx]; exact ho) ht (kk p e s m args below meth c C H locs ls hP hS hl)
theorem wp_tableOut {dflt lo hi : Int} {offs : Array Int} {len : Nat} {x : Int32} {tgt : Nat} (hdg : decode M.2.1 pc = .ok (.tableswitch dflt lo hi offs, len)) (hx : x.toInt < lo ∨ hi < x.toInt) (ht : (pc : Int) + dflt = (tgt : Int)) (kk : Wp l g M f k n0 nE n tgt lv st h F) : Wp l g M f k n0 nE n pc lv (.int x :: st) h F :=
  fun p e s m args below meth c C H locs ls hP hS hl => lv_tableOut C.1 C.2.1 hdg hx ht (kk p e s m args below meth c C H locs ls hP hS hl)
theorem wp_ldc {index : Nat} {v : Int32} (hdg : decode M.2.1 pc = .ok (.ldc index, 2)) (hw : Cond.constant M.1.cls index v ∈ ax_G) (kk : Wp l g M f k n0 nE n (pc + 2) lv (.int v :: st) h F) : Wp l g M f k n0 nE n pc lv st h F :=
  fun p e s m args below meth c C H locs ls hP hS hl => lv_ldc C.1 C.2.1 C.2.2.2.2.1 (C.2.2.2.2.2.1 _ hw) hdg (kk p e s m args below meth c C H locs ls hP hS hl)
theorem wp_ldc2 {index : Nat} {v : Int64} (hdg : decode M.2.1 pc = .ok (.ldc2_w index, 3)) (hw : Cond.constantLong M.1.cls index v ∈ ax_G) (kk : Wp l g M f k n0 nE n (pc + 3) lv (.long v :: st) h F) : Wp l g M f k n0 nE n pc lv st h F :=
  fun p e s m args below meth c C H locs ls hP hS hl => lv_ldc2 C.1 C.2.1 C.2.2.2.2.1 (C.2.2.2.2.2.1 _ hw) hdg (kk p e s m args below meth c C H locs ls hP hS hl)
theorem ax_pick (g : AG) (lv : List (Nat × Value)) (ks : List Nat) : lv_pick (lv.map (ax_q g)) ks = (lv_pick lv ks).map (ax_q g) := by
  induction ks with
  | nil => rfl
  | cons a t ih =>
    simp only [lv_pick, List.filterMap_cons, List.getElem?_map] at ih ⊢
    cases lv[a]? with
    | none => simpa using ih
    | some q => simp [ih]
theorem wp_sub {lv2 : List (Nat × Value)} (ks : List Nat) (hk : lv_pick lv ks = lv2) (kk : Wp l g M f k n0 nE n pc lv2 st h F) : Wp l g M f k n0 nE n pc lv st h F :=
  fun p e s m args below meth c C H locs ls hP hS hl => kk p e s m args below meth c C H locs ls hP hS (lv_sub hl ks (by rw [← hk]; exact (ax_pick g lv ks)))
theorem wp_iret {Q : Option Value → AH → Prop} {x : Int32} (hr : M.2.2.2 = some .int) (hdg : decode M.2.1 pc = .ok (.ireturn, 1)) (hq : Q (some (.int x)) h) : Wp l g M f k n0 n n pc lv [.int x] h (FM g n0 n Q) :=
  fun p e s m args below meth c C H locs ls hP hS hl => W.iret C.1 C.2.1 (C.2.2.1.trans hr) (fun t ht hW => ⟨(some (.int x)), h, rfl, hq, by rw [ht]; exact hP, hS.F ht⟩) hS.2.2 hdg C.2.2.2.2.2.2.1
theorem wp_lret {Q : Option Value → AH → Prop} {x : Int64} (hr : M.2.2.2 = some .long) (hdg : decode M.2.1 pc = .ok (.lreturn, 1)) (hq : Q (some (.long x)) h) : Wp l g M f k n0 n n pc lv [.long x] h (FM g n0 n Q) :=
  fun p e s m args below meth c C H locs ls hP hS hl => W.lret C.1 C.2.1 (C.2.2.1.trans hr) (fun t ht hW => ⟨(some (.long x)), h, rfl, hq, by rw [ht]; exact hP, hS.F ht⟩) hS.2.2 hdg C.2.2.2.2.2.2.1
theorem wp_zret {Q : Option Value → AH → Prop} {x : Int32} (hr : M.2.2.2 = some .boolean) (hdg : decode M.2.1 pc = .ok (.ireturn, 1)) (hx : x = 0 ∨ x = 1) (hq : Q (some (.int x)) h) : Wp l g M f k n0 n n pc lv [.int x] h (FM g n0 n Q) :=
  fun p e s m args below meth c C H locs ls hP hS hl => W.zret (ty := .boolean) C.1 C.2.1 (C.2.2.1.trans hr) (by rcases hx with rfl | rfl <;> decide) (fun t ht hW => ⟨(some (.int x)), h, rfl, hq, by rw [ht]; exact hP, hS.F ht⟩) hS.2.2 hdg C.2.2.2.2.2.2.1
theorem wp_vret {Q : Option Value → AH → Prop} (hr : M.2.2.2 = none) (hdg : decode M.2.1 pc = .ok (.return_, 1)) (hq : Q none h) : Wp l g M f k n0 n n pc lv [] h (FM g n0 n Q) :=
  fun p e s m args below meth c C H locs ls hP hS hl => W.vret C.1 C.2.1 (C.2.2.1.trans hr) (fun t ht hW => ⟨none, h, rfl, hq, by rw [ht]; exact hP, hS.F ht⟩) hS.2.2 hdg C.2.2.2.2.2.2.1
theorem wp_aret {Q : Option Value → AH → Prop} {C0 : String} {x : Nat} (hr : M.2.2.2 = some (.object C0)) (hdg : decode M.2.1 pc = .ok (.areturn, 1)) (hq : Q (some (.ref x)) h) : Wp l g M f k n0 n n pc lv [.ref x] h (FM g n0 n Q) :=
  fun p e s m args below meth c C H locs ls hP hS hl => W.aret C.1 C.2.1 (C.2.2.1.trans hr) (Or.inl ⟨_, rfl⟩) (Or.inr ⟨_, rfl⟩) (fun t ht hW => ⟨(some (.ref x)), h, rfl, hq, by rw [ht]; exact hP, hS.F ht⟩) hS.2.2 hdg C.2.2.2.2.2.2.1
end AXR
