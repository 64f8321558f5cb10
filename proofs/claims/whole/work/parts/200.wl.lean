/-- as Wp, of any room and any count of cells, with what is known of the start beside ax_C -/
def Wl (l : Launch) (g : AG) (M : AM) (Sx : Array Value → State → Prop) (R : Room) (cells slots n pc : Nat) (lv : List (Nat × Value)) (st : List Value) (h : AH) (F : AF) : Prop :=
  ∀ (p : Program) (e : Env) (s : State) (m : MethodId) (args : Array Value) (below : List Frame) (meth : Method) (c : Code), ax_C g M 0 p s m args meth c → Sx args s →
    ∀ (H : Heap) (locs : List Loc) (ls : Array Slot), va_P g.1 vwCl (ax_w g n h) H → va_S (ax_A g) s.heap H locs → lv_has ls M.2.2.1 (lv.map (ax_q g)) →
      W p l e R s m args below meth c H locs cells slots (F below args s) (F0 m pc ls (st.map (ax_v g)))
section WLR
variable {l : Launch} {g : AG} {M : AM} {Sx : Array Value → State → Prop} {R : Room} {cells slots n pc : Nat} {lv : List (Nat × Value)} {st : List Value} {h : AH} {F : AF}
theorem wl_iconst {z : Int} {v : Int32} (hdg : decode M.2.1 pc = .ok (.iconst z, 1)) (hv : Int32.ofInt z = v) (kk : Wl l g M Sx R cells slots n (pc + 1) lv (.int v :: st) h F) : Wl l g M Sx R cells slots n pc lv st h F :=
  fun p e s m args below meth c C X0 H locs ls hP hS hl => lv_iconst C.1 C.2.1 hdg hv (kk p e s m args below meth c C X0 H locs ls hP hS hl)
theorem wl_bipush {z : Int} {v : Int32} (hdg : decode M.2.1 pc = .ok (.bipush z, 2)) (hv : (Int8.ofInt z).toInt32 = v) (kk : Wl l g M Sx R cells slots n (pc + 2) lv (.int v :: st) h F) : Wl l g M Sx R cells slots n pc lv st h F :=
  fun p e s m args below meth c C X0 H locs ls hP hS hl => lv_bipush C.1 C.2.1 hdg hv (kk p e s m args below meth c C X0 H locs ls hP hS hl)
theorem wl_sipush {z : Int} {v : Int32} (hdg : decode M.2.1 pc = .ok (.sipush z, 3)) (hv : (Int16.ofInt z).toInt32 = v) (kk : Wl l g M Sx R cells slots n (pc + 3) lv (.int v :: st) h F) : Wl l g M Sx R cells slots n pc lv st h F :=
  fun p e s m args below meth c C X0 H locs ls hP hS hl => lv_sipush C.1 C.2.1 hdg hv (kk p e s m args below meth c C X0 H locs ls hP hS hl)
theorem wl_iload {i : Nat} {x : Int32} (j : Nat) (hdg : decode M.2.1 pc = .ok (.iload i, 2)) (hj : lv[j]? = some (i, .int x)) (kk : Wl l g M Sx R cells slots n (pc + 2) lv (.int x :: st) h F) : Wl l g M Sx R cells slots n pc lv st h F :=
  fun p e s m args below meth c C X0 H locs ls hP hS hl => lv_iload C.1 C.2.1 hdg (ax_at hl j hj) (kk p e s m args below meth c C X0 H locs ls hP hS hl)
theorem wl_aload_n {z : Fin 4} {i : Nat} {x : Nat} (j : Nat) (hdg : decode M.2.1 pc = .ok (.aload_n z, 1)) (hi : (z : Nat) = i) (hj : lv[j]? = some (i, .ref x)) (kk : Wl l g M Sx R cells slots n (pc + 1) lv (.ref x :: st) h F) : Wl l g M Sx R cells slots n pc lv st h F :=
  fun p e s m args below meth c C X0 H locs ls hP hS hl => lv_aload_n C.1 C.2.1 hdg hi (ax_at hl j hj) (kk p e s m args below meth c C X0 H locs ls hP hS hl)
theorem wl_istore {i : Nat} {x : Int32} {lv2 : List (Nat × Value)} (hdg : decode M.2.1 pc = .ok (.istore i, 2)) (hn : i < M.2.2.1) (hl2 : (i, Value.int x) :: lv.filter (fun q => !(q.1 == i) && !(q.1 + 1 == i && q.2.category == 2)) = lv2) (kk : Wl l g M Sx R cells slots n (pc + 2) lv2 st h F) : Wl l g M Sx R cells slots n pc lv (.int x :: st) h F :=
  fun p e s m args below meth c C X0 H locs ls hP hS hl => lv_istore C.1 C.2.1 hdg hl hn (by rw [ax_flt]; exact congrArg (List.map (ax_q g)) hl2) (fun ls2 hl3 => kk p e s m args below meth c C X0 H locs ls2 hP hS hl3)
theorem wl_astore_n {z : Fin 4} {i : Nat} {x : Nat} {lv2 : List (Nat × Value)} (hdg : decode M.2.1 pc = .ok (.astore_n z, 1)) (hi : (z : Nat) = i) (hn : i < M.2.2.1) (hl2 : (i, Value.ref x) :: lv.filter (fun q => !(q.1 == i) && !(q.1 + 1 == i && q.2.category == 2)) = lv2) (kk : Wl l g M Sx R cells slots n (pc + 1) lv2 st h F) : Wl l g M Sx R cells slots n pc lv (.ref x :: st) h F :=
  fun p e s m args below meth c C X0 H locs ls hP hS hl => lv_astore_n C.1 C.2.1 hdg hi hl hn (by rw [ax_flt]; exact congrArg (List.map (ax_q g)) hl2) (fun ls2 hl3 => kk p e s m args below meth c C X0 H locs ls2 hP hS hl3)
theorem wl_iinc {i : Nat} {z : Int} {x v : Int32} {lv2 : List (Nat × Value)} (j : Nat) (hdg : decode M.2.1 pc = .ok (.iinc i z, 3)) (hj : lv[j]? = some (i, .int x)) (hv : x + Int32.ofInt z = v) (hn : i < M.2.2.1) (hl2 : (i, Value.int v) :: lv.filter (fun q => !(q.1 == i) && !(q.1 + 1 == i && q.2.category == 2)) = lv2) (kk : Wl l g M Sx R cells slots n (pc + 3) lv2 st h F) : Wl l g M Sx R cells slots n pc lv st h F :=
  fun p e s m args below meth c C X0 H locs ls hP hS hl => lv_iinc (k := j) C.1 C.2.1 hdg hl (by rw [List.getElem?_map, hj]; rfl) hv hn (by rw [ax_flt]; exact congrArg (List.map (ax_q g)) hl2) (fun ls2 hl3 => kk p e s m args below meth c C X0 H locs ls2 hP hS hl3)
theorem wl_iadd {x y : Int32} (hdg : decode M.2.1 pc = .ok (.iadd, 1)) (kk : Wl l g M Sx R cells slots n (pc + 1) lv (.int (x + y) :: st) h F) : Wl l g M Sx R cells slots n pc lv (.int y :: .int x :: st) h F :=
  fun p e s m args below meth c C X0 H locs ls hP hS hl => lv_iadd C.1 C.2.1 hdg (kk p e s m args below meth c C X0 H locs ls hP hS hl)
theorem wl_isub {x y : Int32} (hdg : decode M.2.1 pc = .ok (.isub, 1)) (kk : Wl l g M Sx R cells slots n (pc + 1) lv (.int (x - y) :: st) h F) : Wl l g M Sx R cells slots n pc lv (.int y :: .int x :: st) h F :=
  fun p e s m args below meth c C X0 H locs ls hP hS hl => lv_isub C.1 C.2.1 hdg (kk p e s m args below meth c C X0 H locs ls hP hS hl)
theorem wl_iand {x y : Int32} (hdg : decode M.2.1 pc = .ok (.iand, 1)) (kk : Wl l g M Sx R cells slots n (pc + 1) lv (.int (x &&& y) :: st) h F) : Wl l g M Sx R cells slots n pc lv (.int y :: .int x :: st) h F :=
  fun p e s m args below meth c C X0 H locs ls hP hS hl => lv_iand C.1 C.2.1 hdg (kk p e s m args below meth c C X0 H locs ls hP hS hl)
theorem wl_i2l {x : Int32} (hdg : decode M.2.1 pc = .ok (.i2l, 1)) (kk : Wl l g M Sx R cells slots n (pc + 1) lv (.long x.toInt64 :: st) h F) : Wl l g M Sx R cells slots n pc lv (.int x :: st) h F :=
  fun p e s m args below meth c C X0 H locs ls hP hS hl => lv_i2l C.1 C.2.1 hdg rfl (kk p e s m args below meth c C X0 H locs ls hP hS hl)
theorem wl_lcmp {x y : Int64} (hdg : decode M.2.1 pc = .ok (.lcmp, 1)) (kk : Wl l g M Sx R cells slots n (pc + 1) lv (.int (lg_cmp x y) :: st) h F) : Wl l g M Sx R cells slots n pc lv (.long y :: .long x :: st) h F :=
  fun p e s m args below meth c C X0 H locs ls hP hS hl => W.lcmp C.1 C.2.1 hdg (kk p e s m args below meth c C X0 H locs ls hP hS hl)
theorem wl_dup {v : Value} (hdg : decode M.2.1 pc = .ok (.dup, 1)) (hv : v.category = 1) (kk : Wl l g M Sx R cells slots n (pc + 1) lv (v :: v :: st) h F) : Wl l g M Sx R cells slots n pc lv (v :: st) h F :=
  fun p e s m args below meth c C X0 H locs ls hP hS hl => lv_dup C.1 C.2.1 hdg (by rw [ax_v_cat]; exact hv) (kk p e s m args below meth c C X0 H locs ls hP hS hl)
theorem wl_if_eq {x : Int32} {off : Int} {tgt : Nat} (hdg : decode M.2.1 pc = .ok (.ifCond .eq off, 3)) (ht : (pc : Int) + off = (tgt : Int)) (kt : x = 0 → Wl l g M Sx R cells slots n tgt lv st h F) (kf : ¬ (x = 0) → Wl l g M Sx R cells slots n (pc + 3) lv st h F) : Wl l g M Sx R cells slots n pc lv (.int x :: st) h F :=
  fun p e s m args below meth c C X0 H locs ls hP hS hl => lv_if_eq C.1 C.2.1 hdg ht (fun q => kt q p e s m args below meth c C X0 H locs ls hP hS hl) (fun q => kf q p e s m args below meth c C X0 H locs ls hP hS hl)
theorem wl_if_ne {x : Int32} {off : Int} {tgt : Nat} (hdg : decode M.2.1 pc = .ok (.ifCond .ne off, 3)) (ht : (pc : Int) + off = (tgt : Int)) (kt : ¬ x = 0 → Wl l g M Sx R cells slots n tgt lv st h F) (kf : x = 0 → Wl l g M Sx R cells slots n (pc + 3) lv st h F) : Wl l g M Sx R cells slots n pc lv (.int x :: st) h F :=
  fun p e s m args below meth c C X0 H locs ls hP hS hl => lv_if_ne C.1 C.2.1 hdg ht (fun q => kt q p e s m args below meth c C X0 H locs ls hP hS hl) (fun q => kf q p e s m args below meth c C X0 H locs ls hP hS hl)
theorem wl_icmp_eq {x y : Int32} {off : Int} {tgt : Nat} (hdg : decode M.2.1 pc = .ok (.if_icmp .eq off, 3)) (ht : (pc : Int) + off = (tgt : Int)) (kt : x = y → Wl l g M Sx R cells slots n tgt lv st h F) (kf : ¬ (x = y) → Wl l g M Sx R cells slots n (pc + 3) lv st h F) : Wl l g M Sx R cells slots n pc lv (.int y :: .int x :: st) h F :=
  fun p e s m args below meth c C X0 H locs ls hP hS hl => lv_icmp_eq C.1 C.2.1 hdg ht (fun q => kt q p e s m args below meth c C X0 H locs ls hP hS hl) (fun q => kf q p e s m args below meth c C X0 H locs ls hP hS hl)
theorem wl_icmp_gt {x y : Int32} {off : Int} {tgt : Nat} (hdg : decode M.2.1 pc = .ok (.if_icmp .gt off, 3)) (ht : (pc : Int) + off = (tgt : Int)) (kt : y < x → Wl l g M Sx R cells slots n tgt lv st h F) (kf : ¬ (y < x) → Wl l g M Sx R cells slots n (pc + 3) lv st h F) : Wl l g M Sx R cells slots n pc lv (.int y :: .int x :: st) h F :=
  fun p e s m args below meth c C X0 H locs ls hP hS hl => lv_icmp_gt C.1 C.2.1 hdg ht (fun q => kt q p e s m args below meth c C X0 H locs ls hP hS hl) (fun q => kf q p e s m args below meth c C X0 H locs ls hP hS hl)
theorem wl_goto {off : Int} {tgt : Nat} (hdg : decode M.2.1 pc = .ok (.goto off, 3)) (ht : (pc : Int) + off = (tgt : Int)) (kk : Wl l g M Sx R cells slots n tgt lv st h F) : Wl l g M Sx R cells slots n pc lv st h F :=
  fun p e s m args below meth c C X0 H locs ls hP hS hl => lv_goto C.1 C.2.1 hdg ht (kk p e s m args below meth c C X0 H locs ls hP hS hl)
theorem wl_tableIn {dflt lo hi : Int} {offs : Array Int} {len : Nat} {x v : Int32} {off : Int} {tgt : Nat} (hdg : decode M.2.1 pc = .ok (.tableswitch dflt lo hi offs, len)) (hx : x = v) (h1 : ¬ v.toInt < lo) (h2 : ¬ hi < v.toInt) (ho : offs[(v.toInt - lo).toNat]? = some off) (ht : (pc : Int) + off = (tgt : Int)) (kk : Wl l g M Sx R cells slots n tgt lv st h F) : Wl l g M Sx R cells slots n pc lv (.int x :: st) h F :=
  fun p e s m args below meth c C X0 H locs ls hP hS hl => lv_tableIn C.1 C.2.1 hdg (by rw [hx]; exact h1) (by rw [hx]; exact h2) (by rw [hx]; exact ho) ht (kk p e s m args below meth c C X0 H locs ls hP hS hl)
theorem wl_tableOut {dflt lo hi : Int} {offs : Array Int} {len : Nat} {x : Int32} {tgt : Nat} (hdg : decode M.2.1 pc = .ok (.tableswitch dflt lo hi offs, len)) (hx : x.toInt < lo ∨ hi < x.toInt) (ht : (pc : Int) + dflt = (tgt : Int)) (kk : Wl l g M Sx R cells slots n tgt lv st h F) : Wl l g M Sx R cells slots n pc lv (.int x :: st) h F :=
  fun p e s m args below meth c C X0 H locs ls hP hS hl => lv_tableOut C.1 C.2.1 hdg hx ht (kk p e s m args below meth c C X0 H locs ls hP hS hl)
theorem wl_laload {i : Nat} {x : Int32} (hdg : decode M.2.1 pc = .ok (.laload, 1)) (hi : Is n i 21) (hx : vp_in x (ax_s i).2) (kk : Wl l g M Sx R cells slots n (pc + 1) lv (.long (h.2.1 i x.toNatClampNeg) :: st) h F) : Wl l g M Sx R cells slots n pc lv (.int x :: .ref i :: st) h F :=
  fun p e s m args below meth c C X0 H locs ls hP hS hl => va_lald C.1 C.2.1 C.2.2.2.2.2.2.2.2.1.1 hP (i - 1) 1 (by rw [hi.get (by omega), ax_e_21 hi.2]) rfl hx hdg (kk p e s m args below meth c C X0 H locs ls hP hS hl)
theorem wl_topi {x : Int32} (kk : ∀ y : Int32, y = x → Wl l g M Sx R cells slots n pc lv (.int y :: st) h F) : Wl l g M Sx R cells slots n pc lv (.int x :: st) h F := kk x rfl
theorem wl_topH (kk : ∀ h1 : AH, h1 = h → Wl l g M Sx R cells slots n pc lv st h1 F) : Wl l g M Sx R cells slots n pc lv st h F := kk h rfl
theorem wl_case {x : Int32} (v : Int32) (k1 : x = v → Wl l g M Sx R cells slots n pc lv (.int x :: st) h F) (k2 : ¬ x = v → Wl l g M Sx R cells slots n pc lv (.int x :: st) h F) : Wl l g M Sx R cells slots n pc lv (.int x :: st) h F := by
  by_cases c : x = v
  · exact k1 c
  · exact k2 c
theorem wl_sub {lv2 : List (Nat × Value)} (ks : List Nat) (hk : lv_pick lv ks = lv2) (kk : Wl l g M Sx R cells slots n pc lv2 st h F) : Wl l g M Sx R cells slots n pc lv st h F :=
  fun p e s m args below meth c C X0 H locs ls hP hS hl => kk p e s m args below meth c C X0 H locs ls hP hS (lv_sub hl ks (by rw [← hk]; exact (ax_pick g lv ks)))
theorem wl_widen {c2 s2 : Nat} (h1 : cells ≤ c2) (h2 : slots ≤ s2) (kk : Wl l g M Sx R c2 s2 n pc lv st h F) : Wl l g M Sx R cells slots n pc lv st h F :=
  fun p e s m args below meth c C X0 H locs ls hP hS hl => W.widen h1 h2 (kk p e s m args below meth c C X0 H locs ls hP hS hl)
theorem wl_pre {p : Program} {s : State} {m : MethodId} {args : Array Value} {meth : Method} {c : Code} {e : Env} {below : List Frame} {T : State} {H : Heap} {locs : List Loc} {as : List Value} (C : ax_C g M 0 p s m args meth c) (hT : T.heap = H) (X : Stand p l e R s m args below meth c T locs cells slots) (hce : n < ax_N → cells = n) (hP : va_P g.1 vwCl (ax_w g n h) H) (hS : va_S (ax_A g) s.heap H locs) :
    ∀ U : State, U.heap = H → s.WarmedH U.vm → ax_P g n h as (as.map (ax_v g)).toArray U := fun U hU hW => by
  have hz : g.2.2.1 + n < H.size ∧ (n < ax_N → H.size = g.2.2.1 + n + 1) := by
    have h1 : g.2.2.1 + n < H.size := by
      rcases Nat.eq_zero_or_pos n with h0 | h0
      · have q1 := C.2.2.2.2.2.2.2.2.2.1
        have q2 := hS.1
        omega
      · have q1 := (hP (n - 1) _ (ax_w_get (show n - 1 < n by omega))).lt
        have q2 : g.2.2.1 + (n - 1 + 1) < H.size := q1
        omega
    refine ⟨h1, fun hN => ?_⟩
    have q1 := C.2.2.2.2.2.2.2.2.2.2.1 (by decide)
    have q2 : (T.setVm s.vm).heap.size ≤ s.heap.size + cells := X.same.2.2.1
    have q3 : (T.setVm s.vm).heap = T.heap := rfl
    have q4 := hce hN
    rw [q3, hT] at q2
    omega
  exact ⟨rfl, C.2.2.2.2.2.2.2.2.1.on hW (fun a h1 h2 => by rw [hU]; exact hS.2.1 a h1 h2), by rw [hU]; exact hP, by rw [hU]; exact hz.1, by rw [hU]; exact hz.2⟩
theorem wl_cb {M2 : AM} {own : String} {np idx f2 k2 n1 : Nat} {p : Program} {s : State} {m : MethodId} {args : Array Value} {meth : Method} {c : Code} (C : ax_C g M 0 p s m args meth c) (cb : ax_CB M2 np) (hlk : (Cond.methodLink own idx M2.1).before args s = true) (hf : f2 + 1 ≤ R.frames ∧ 8 + (M2.2.2.1 + 11) + k2 ≤ R.locals) :
    CallB R s args own idx M2.1 M2.2.1 M2.2.2.1 M2.2.2.2 (ax_ws M2) (ax_R f2 k2 n n1) (n1 - n) (ax_z n1 - ax_z n) np :=
  callB_of np C.2.2.2.2.2.1 (ax_ws_good cb.1) rfl rfl rfl (C.2.2.2.2.2.1 _ cb.2.1) hlk ⟨cb.2.2.1, cb.2.2.2.1, cb.2.2.2.2⟩ hf
theorem wl_callI {M2 : AM} {f2 k2 n1 idx np : Nat} {as : List Value} {Q : Option Value → AH → Prop} {i : Nat} (hdg : decode M.2.1 pc = .ok (.invokespecial idx, 3)) (cb : ax_CB M2 np) (hlk : Cond.methodLink M.1.cls idx M2.1 ∈ ax_G) (him : Cond.instanceMethod M2.1 ∈ ax_G) (hnm : M2.1.name = "<init>") (hret : M2.2.2.2 = none) (hn : as.length = np) (hcat : (st.map (fun v => v.category)).sum ≤ 8) (hf : f2 + 1 ≤ R.frames ∧ 8 + (M2.2.2.1 + 11) + k2 ≤ R.locals) (hfit : cells + (n1 - n) ≤ R.cells ∧ slots + (ax_z n1 - ax_z n) ≤ R.slots) (hce : n < ax_N → cells = n)
    (ct : Ct l g M2 f2 k2 n n1 h (.ref i :: as) Q) (kk : ∀ (r : Option Value) (h1 : AH), Q r h1 → Wl l g M Sx R (cells + (n1 - n)) (slots + (ax_z n1 - ax_z n)) n1 (pc + 3) lv (r.toList ++ st) h1 F) : Wl l g M Sx R cells slots n pc lv (as.reverse ++ .ref i :: st) h F := by
  intro p e s m args below meth c C X0 H locs ls hP hS hl T hT X
  have hcb := (⟨by have z := wl_cb (R := R) (n := n) (n1 := n1) C cb (C.2.2.2.2.2.1 _ hlk) hf; rw [hret] at z; exact z, hnm, C.2.2.2.2.2.1 _ him⟩ : CallB R s args M.1.cls idx M2.1 M2.2.1 M2.2.2.1 none (ax_ws M2) (ax_R f2 k2 n n1) (n1 - n) (ax_z n1 - ax_z n) np ∧ _ ∧ _)
  have run := va_runI (e := e) (below := below) (meth := meth) (R := R) (As := as.map (ax_v g)) (rest := st.map (ax_v g)) (Ts := ax_G) (own := M.1.cls) (nL := M.2.2.1) (g := F0 m pc ls ((as.reverse ++ .ref i :: st).map (ax_v g))) (b := ax_a g i) (locs := locs) (cells := cells) (slots := slots) ⟨C.1, C.2.1, C.2.2.2.1, C.2.2.2.2.1, C.2.2.2.2.2.1⟩ ct hcb ⟨ax_blind g n h (.ref i :: as), wl_pre (as := .ref i :: as) C hT X hce hP hS⟩ rfl (by rw [List.length_map]; exact hn) hl.1 (by show List.map _ _ = _; rw [List.map_append, List.map_reverse]; try rfl) (by show 2 * 0 + _ ≤ 8; rw [ax_cats, Nat.mul_zero, Nat.zero_add]; exact hcat) hdg hfit
  refine ax_call run hS (fun r h1 H1 locs1 hq hP1 hS1 => ?_) T hT X
  have K := kk r h1 hq p e s m args below meth c C X0 H1 locs1 ls hP1 hS1 hl
  have e0 : ((r.map (ax_v g)).toList ++ st.map (ax_v g)) = (r.toList ++ st).map (ax_v g) := by cases r <;> simp
  rw [e0]
  exact K
theorem wl_callV {M2 : AM} {f2 k2 n1 idx np : Nat} {as : List Value} {Q : Option Value → AH → Prop} {i : Nat} {ci N : Nat} {TT : u_T} (hdg : decode M.2.1 pc = .ok (.invokevirtual idx, 3)) (cb : ax_CB M2 np) (hlk : Cond.methodLink M.1.cls idx M2.1 ∈ ax_G) (him : Cond.instanceMethod M2.1 ∈ ax_G) (hse : Cond.selects M2.1.cls M2.1 M2.1 ∈ ax_G) (hi : Is n i ci) (hc : vwCl[ci]? = some (M2.1.cls, TT, N)) (h20 : ci < 20) (hn : as.length = np) (hcat : (st.map (fun v => v.category)).sum ≤ 8) (hf : f2 + 1 ≤ R.frames ∧ 8 + (M2.2.2.1 + 11) + k2 ≤ R.locals) (hfit : cells + (n1 - n) ≤ R.cells ∧ slots + (ax_z n1 - ax_z n) ≤ R.slots) (hce : n < ax_N → cells = n)
    (ct : Ct l g M2 f2 k2 n n1 h (.ref i :: as) Q) (kk : ∀ (r : Option Value) (h1 : AH), Q r h1 → Wl l g M Sx R (cells + (n1 - n)) (slots + (ax_z n1 - ax_z n)) n1 (pc + 3) lv (r.toList ++ st) h1 F) : Wl l g M Sx R cells slots n pc lv (as.reverse ++ .ref i :: st) h F := by
  intro p e s m args below meth c C X0 H locs ls hP hS hl T hT X
  have hcb := (⟨wl_cb (R := R) (n := n) (n1 := n1) C cb (C.2.2.2.2.2.1 _ hlk) hf, C.2.2.2.2.2.1 _ him, C.2.2.2.2.2.1 _ hse⟩ : _ ∧ _ ∧ _)
  have run := va_runV (C := M2.1.cls) (e := e) (below := below) (meth := meth) (R := R) (As := as.map (ax_v g)) (rest := st.map (ax_v g)) (Ts := ax_G) (own := M.1.cls) (nL := M.2.2.1) (g := F0 m pc ls ((as.reverse ++ .ref i :: st).map (ax_v g))) (b := ax_a g i) (locs := locs) (cells := cells) (slots := slots) ⟨C.1, C.2.1, C.2.2.2.1, C.2.2.2.2.1, C.2.2.2.2.2.1⟩ ct hcb ⟨ax_blind g n h (.ref i :: as), va_recv (q0 := i - 1) (ci := ci) (q := (M2.1.cls, TT, N)) C.2.2.2.2.2.2.2.2.1.1 hP hc (by rw [hi.get (Nat.lt_trans h20 (by decide)), ax_e_obj hi.2 h20]), wl_pre (as := .ref i :: as) C hT X hce hP hS⟩ rfl (by rw [List.length_map]; exact hn) hl.1 (by show List.map _ _ = _; rw [List.map_append, List.map_reverse]; try rfl) (by show 2 * 0 + _ ≤ 8; rw [ax_cats, Nat.mul_zero, Nat.zero_add]; exact hcat) hdg hfit
  refine ax_call run hS (fun r h1 H1 locs1 hq hP1 hS1 => ?_) T hT X
  have K := kk r h1 hq p e s m args below meth c C X0 H1 locs1 ls hP1 hS1 hl
  have e0 : ((r.map (ax_v g)).toList ++ st.map (ax_v g)) = (r.toList ++ st).map (ax_v g) := by cases r <;> simp
  rw [e0]
  exact K
theorem wl_callW {M2 : AM} {f2 k2 idx np : Nat} {as : List Value} {Q : Option Value → AH → Prop} {i ci N : Nat} {TT : u_T} {hh : List (Nat × Nat × Nat × Nat)} (hhh : ax_hh M2.1 = some hh) (hdg : decode M.2.1 pc = .ok (.invokevirtual idx, 3)) (hcw : Cond.codeWith M2.1 M2.2.1 M2.2.2.1 M2.2.2.2 hh ∈ ax_G) (hini : Cond.initialized M2.1.cls ∈ ax_G) (hnp : M2.1.cls ≠ "java/lang/invoke/MethodHandle" ∧ M2.1.cls ≠ "java/lang/invoke/VarHandle" ∧ (parseMethodDescriptor M2.1.desc).map (fun d => d.parameters.length) = some np) (hlk : Cond.methodLink M.1.cls idx M2.1 ∈ ax_G) (him : Cond.instanceMethod M2.1 ∈ ax_G) (hse : Cond.selects M2.1.cls M2.1 M2.1 ∈ ax_G) (hi : Is n i ci) (hc : vwCl[ci]? = some (M2.1.cls, TT, N)) (h20 : ci < 20) (hn : as.length = np) (hcat : (st.map (fun v => v.category)).sum ≤ 8) (hf : f2 + 1 ≤ R.frames ∧ 8 + (M2.2.2.1 + 11) + k2 ≤ R.locals) (hfit : cells + (n - n) ≤ R.cells ∧ slots + (ax_z n - ax_z n) ≤ R.slots) (hce : n < ax_N → cells = n)
    (ct : Ch l g M2 f2 k2 n n h (.ref i :: as) Q) (kk : ∀ (r : Option Value) (h1 : AH), Q r h1 → Wl l g M Sx R (cells + (n - n)) (slots + (ax_z n - ax_z n)) n (pc + 3) lv (r.toList ++ st) h1 F) : Wl l g M Sx R cells slots n pc lv (as.reverse ++ .ref i :: st) h F := by
  intro p e s m args below meth c C X0 H locs ls hP hS hl T hT X
  have hgd : (ax_hh M2.1).getD [] = hh := by rw [hhh]; rfl
  have hgood : GoodIn ax_G (ax_wsh M2) := fun w hw => by
    rcases List.mem_cons.mp hw with e | e
    · rw [e, hgd]; exact ax_G_good _ hcw
    · exact ax_G_good _ e
  have hwv : GoodIn ax_G (wsV M.1.cls idx M2.1.cls M2.1 (ax_wsh M2)) := fun w hw => by
    rcases List.mem_append.mp hw with e | e
    · simp only [List.mem_cons, List.not_mem_nil, or_false] at e
      rcases e with rfl | rfl | rfl | rfl
      · exact ax_G_good _ hlk
      · exact ax_G_good _ him
      · exact ax_G_good _ hse
      · exact ax_G_good _ hini
    · exact hgood w e
  have hcb := vx_cwVW (R := R) (own := M.1.cls) (C := M2.1.cls) (index := idx) (maxL := M2.2.2.1) (mc := n - n) (ms := ax_z n - ax_z n) (y := M2.1) (bytes := M2.2.1) (ret := M2.2.2.2) (hh := (ax_hh M2.1).getD []) (Ts := ax_G) (ws := ax_wsh M2) (rm := ax_R f2 k2 n n) np C.2.2.2.2.2.1 hwv rfl rfl rfl ⟨rfl, hnp⟩ hf
  have run := vx_runVW (C := M2.1.cls) (e := e) (below := below) (meth := meth) (R := R) (As := as.map (ax_v g)) (rest := st.map (ax_v g)) (Ts := ax_G) (own := M.1.cls) (nL := M.2.2.1) (g := F0 m pc ls ((as.reverse ++ .ref i :: st).map (ax_v g))) (b := ax_a g i) (locs := locs) (cells := cells) (slots := slots) ⟨C.1, C.2.1, C.2.2.2.1, C.2.2.2.2.1, C.2.2.2.2.2.1⟩ ct hcb ⟨ax_blind g n h (.ref i :: as), va_recv (q0 := i - 1) (ci := ci) (q := (M2.1.cls, TT, N)) C.2.2.2.2.2.2.2.2.1.1 hP hc (by rw [hi.get (Nat.lt_trans h20 (by decide)), ax_e_obj hi.2 h20]), wl_pre (as := .ref i :: as) C hT X hce hP hS⟩ rfl (by rw [List.length_map]; exact hn) hl.1 (by show List.map _ _ = _; rw [List.map_append, List.map_reverse]; try rfl) (by show 2 * 0 + _ ≤ 8; rw [ax_cats, Nat.mul_zero, Nat.zero_add]; exact hcat) hdg hfit
  refine ax_call run hS (fun r h1 H1 locs1 hq hP1 hS1 => ?_) T hT X
  have K := kk r h1 hq p e s m args below meth c C X0 H1 locs1 ls hP1 hS1 hl
  have e0 : ((r.map (ax_v g)).toList ++ st.map (ax_v g)) = (r.toList ++ st).map (ax_v g) := by cases r <;> simp
  rw [e0]
  exact K
/-- the script lies outside: id 4000 -/
def ax_Sx (g : AG) (L : Nat) (xs : Nat → Int32) : Array Value → State → Prop := fun args s => args = #[Value.ref (ax_a g 4000)] ∧ va_X (ax_a g 4000) L xs s s.heap ∧ ax_a g 4000 < s.heap.size ∧ ¬ ax_A g (ax_a g 4000)
theorem wl_sld {L : Nat} {xs : Nat → Int32} {x : Int32} (hdg : decode M.2.1 pc = .ok (.iaload, 1)) (hx : vp_in x L) (kk : Wl l g M (ax_Sx g L xs) R cells slots n (pc + 1) lv (.int (xs x.toNatClampNeg) :: st) h F) : Wl l g M (ax_Sx g L xs) R cells slots n pc lv (.int x :: .ref 4000 :: st) h F :=
  fun p e s m args below meth c C X0 H locs ls hP hS hl => va_sld C.1 C.2.1 X0.2.1 X0.2.2.1 X0.2.2.2 hS hx hdg (kk p e s m args below meth c C X0 H locs ls hP hS hl)
theorem wl_slen {L : Nat} {xs : Nat → Int32} (hdg : decode M.2.1 pc = .ok (.arraylength, 1)) (kk : Wl l g M (ax_Sx g L xs) R cells slots n (pc + 1) lv (.int (nI L) :: st) h F) : Wl l g M (ax_Sx g L xs) R cells slots n pc lv (.ref 4000 :: st) h F :=
  fun p e s m args below meth c C X0 H locs ls hP hS hl => va_slen C.1 C.2.1 X0.2.1 X0.2.2.1 X0.2.2.2 hS hdg (kk p e s m args below meth c C X0 H locs ls hP hS hl)
end WLR
