theorem ini_S : ((Jvm.Cond.initialized "java/lang/String") : Cond) ∈ ax_G := tw_g (tw_c1 (List.mem_of_getElem? (i := 17) rfl)) rfl
theorem ini_L1 : ((Jvm.Cond.initialized "java/lang/StringLatin1") : Cond) ∈ ax_G := tw_g (tw_c1 (List.mem_of_getElem? (i := 18) rfl)) rfl
theorem ini_Pr : ((Jvm.Cond.initialized "jdk/internal/util/Preconditions") : Cond) ∈ ax_G := tw_g (tw_c1 (List.mem_of_getElem? (i := 19) rfl)) rfl
def ms_length : AM := (yJ0_length_8abf5, cJ0_length_8abf5, 1, some .int)
theorem co_slength : ((Jvm.Cond.code ({ cls := "java/lang/String", name := "length", desc := "()I" } : Jvm.MethodName) prog_18_method_54_code (1 : Nat) (Option.some Jvm.ClassFile.FieldType.int)) : Cond) ∈ ax_G := tw_g (tw_c3 (List.mem_of_getElem? (i := 12) rfl)) rfl
theorem cb_slength : ax_CB ms_length 0 := ⟨co_slength, ini_S, by decide, by decide, by decide +kernel⟩
theorem im_slength : ((Jvm.Cond.instanceMethod ({ cls := "java/lang/String", name := "length", desc := "()I" } : Jvm.MethodName)) : Cond) ∈ ax_G := tw_g (tw_c3 (List.mem_of_getElem? (i := 10) rfl)) rfl
theorem se_slength : ((Jvm.Cond.selects "java/lang/String" ({ cls := "java/lang/String", name := "length", desc := "()I" } : Jvm.MethodName) ({ cls := "java/lang/String", name := "length", desc := "()I" } : Jvm.MethodName)) : Cond) ∈ ax_G := tw_g (tw_c3 (List.mem_of_getElem? (i := 11) rfl)) rfl
def ms_coder : AM := (yJ0_coder_7d493, cJ0_coder_7d493, 1, some .byte)
theorem co_scoder : ((Jvm.Cond.code ({ cls := "java/lang/String", name := "coder", desc := "()B" } : Jvm.MethodName) prog_18_method_152_code (1 : Nat) (Option.some Jvm.ClassFile.FieldType.byte)) : Cond) ∈ ax_G := tw_g (tw_c3 (List.mem_of_getElem? (i := 16) rfl)) rfl
theorem cb_scoder : ax_CB ms_coder 0 := ⟨co_scoder, ini_S, by decide, by decide, by decide +kernel⟩
theorem im_scoder : ((Jvm.Cond.instanceMethod ({ cls := "java/lang/String", name := "coder", desc := "()B" } : Jvm.MethodName)) : Cond) ∈ ax_G := tw_g (tw_c3 (List.mem_of_getElem? (i := 14) rfl)) rfl
theorem se_scoder : ((Jvm.Cond.selects "java/lang/String" ({ cls := "java/lang/String", name := "coder", desc := "()B" } : Jvm.MethodName) ({ cls := "java/lang/String", name := "coder", desc := "()B" } : Jvm.MethodName)) : Cond) ∈ ax_G := tw_g (tw_c3 (List.mem_of_getElem? (i := 15) rfl)) rfl
def ms_charAt : AM := (yJ0_charAt_5068e, cJ0_charAt_5068e, 2, some .char)
theorem co_scharAt : ((Jvm.Cond.code ({ cls := "java/lang/String", name := "charAt", desc := "(I)C" } : Jvm.MethodName) prog_18_method_56_code (2 : Nat) (Option.some Jvm.ClassFile.FieldType.char)) : Cond) ∈ ax_G := tw_g (tw_c3 (List.mem_of_getElem? (i := 22) rfl)) rfl
theorem cb_scharAt : ax_CB ms_charAt 1 := ⟨co_scharAt, ini_S, by decide, by decide, by decide +kernel⟩
theorem im_scharAt : ((Jvm.Cond.instanceMethod ({ cls := "java/lang/String", name := "charAt", desc := "(I)C" } : Jvm.MethodName)) : Cond) ∈ ax_G := tw_g (tw_c3 (List.mem_of_getElem? (i := 20) rfl)) rfl
theorem se_scharAt : ((Jvm.Cond.selects "java/lang/String" ({ cls := "java/lang/String", name := "charAt", desc := "(I)C" } : Jvm.MethodName) ({ cls := "java/lang/String", name := "charAt", desc := "(I)C" } : Jvm.MethodName)) : Cond) ∈ ax_G := tw_g (tw_c3 (List.mem_of_getElem? (i := 21) rfl)) rfl
def ms_isLatin1 : AM := (yJ0_isLatin1_aae02, cJ0_isLatin1_aae02, 1, some .boolean)
theorem co_sisLatin1 : ((Jvm.Cond.code ({ cls := "java/lang/String", name := "isLatin1", desc := "()Z" } : Jvm.MethodName) prog_18_method_154_code (1 : Nat) (Option.some Jvm.ClassFile.FieldType.boolean)) : Cond) ∈ ax_G := tw_g (tw_c3 (List.mem_of_getElem? (i := 26) rfl)) rfl
theorem cb_sisLatin1 : ax_CB ms_isLatin1 0 := ⟨co_sisLatin1, ini_S, by decide, by decide, by decide +kernel⟩
theorem im_sisLatin1 : ((Jvm.Cond.instanceMethod ({ cls := "java/lang/String", name := "isLatin1", desc := "()Z" } : Jvm.MethodName)) : Cond) ∈ ax_G := tw_g (tw_c3 (List.mem_of_getElem? (i := 24) rfl)) rfl
theorem se_sisLatin1 : ((Jvm.Cond.selects "java/lang/String" ({ cls := "java/lang/String", name := "isLatin1", desc := "()Z" } : Jvm.MethodName) ({ cls := "java/lang/String", name := "isLatin1", desc := "()Z" } : Jvm.MethodName)) : Cond) ∈ ax_G := tw_g (tw_c3 (List.mem_of_getElem? (i := 25) rfl)) rfl
def ms_lcharAt : AM := (yJ1_charAt_3b067, cJ1_charAt_3b067, 2, some .char)
theorem co_slcharAt : ((Jvm.Cond.code ({ cls := "java/lang/StringLatin1", name := "charAt", desc := "([BI)C" } : Jvm.MethodName) prog_19_method_2_code (2 : Nat) (Option.some Jvm.ClassFile.FieldType.char)) : Cond) ∈ ax_G := tw_g (tw_c3 (List.mem_of_getElem? (i := 29) rfl)) rfl
theorem cb_slcharAt : ax_CB ms_lcharAt 2 := ⟨co_slcharAt, ini_L1, by decide, by decide, by decide +kernel⟩
theorem st_slcharAt : ((Jvm.Cond.static ({ cls := "java/lang/StringLatin1", name := "charAt", desc := "([BI)C" } : Jvm.MethodName)) : Cond) ∈ ax_G := tw_g (tw_c3 (List.mem_of_getElem? (i := 28) rfl)) rfl
def ms_checkIndex : AM := (yJ0_checkIndex_df160, cJ0_checkIndex_df160, 2, none)
theorem co_scheckIndex : ((Jvm.Cond.code ({ cls := "java/lang/String", name := "checkIndex", desc := "(II)V" } : Jvm.MethodName) prog_18_method_155_code (2 : Nat) (Option.none : Option Jvm.ClassFile.FieldType)) : Cond) ∈ ax_G := tw_g (tw_c3 (List.mem_of_getElem? (i := 32) rfl)) rfl
theorem cb_scheckIndex : ax_CB ms_checkIndex 2 := ⟨co_scheckIndex, ini_S, by decide, by decide, by decide +kernel⟩
theorem st_scheckIndex : ((Jvm.Cond.static ({ cls := "java/lang/String", name := "checkIndex", desc := "(II)V" } : Jvm.MethodName)) : Cond) ∈ ax_G := tw_g (tw_c3 (List.mem_of_getElem? (i := 31) rfl)) rfl
def ms_pcheck : AM := (yJ3_checkIndex_8e157, cJ3_checkIndex_8e157, 3, some .int)
theorem co_spcheck : ((Jvm.Cond.code ({ cls := "jdk/internal/util/Preconditions", name := "checkIndex", desc := "(IILjava/util/function/BiFunction;)I" } : Jvm.MethodName) prog_25_method_11_code (3 : Nat) (Option.some Jvm.ClassFile.FieldType.int)) : Cond) ∈ ax_G := tw_g (tw_c3 (List.mem_of_getElem? (i := 37) rfl)) rfl
theorem cb_spcheck : ax_CB ms_pcheck 3 := ⟨co_spcheck, ini_Pr, by decide, by decide, by decide +kernel⟩
theorem st_spcheck : ((Jvm.Cond.static ({ cls := "jdk/internal/util/Preconditions", name := "checkIndex", desc := "(IILjava/util/function/BiFunction;)I" } : Jvm.MethodName)) : Cond) ∈ ax_G := tw_g (tw_c3 (List.mem_of_getElem? (i := 36) rfl)) rfl
theorem lk_S335 : ((Jvm.Cond.methodLink "java/lang/String" (335 : Nat) ({ cls := "java/lang/String", name := "coder", desc := "()B" } : Jvm.MethodName)) : Cond) ∈ ax_G := tw_g (tw_c3 (List.mem_of_getElem? (i := 13) rfl)) rfl
theorem lk_S492 : ((Jvm.Cond.methodLink "java/lang/String" (492 : Nat) ({ cls := "java/lang/String", name := "isLatin1", desc := "()Z" } : Jvm.MethodName)) : Cond) ∈ ax_G := tw_g (tw_c3 (List.mem_of_getElem? (i := 23) rfl)) rfl
theorem lk_S495 : ((Jvm.Cond.methodLink "java/lang/String" (495 : Nat) ({ cls := "java/lang/StringLatin1", name := "charAt", desc := "([BI)C" } : Jvm.MethodName)) : Cond) ∈ ax_G := tw_g (tw_c3 (List.mem_of_getElem? (i := 27) rfl)) rfl
theorem lk_L9 : ((Jvm.Cond.methodLink "java/lang/StringLatin1" (9 : Nat) ({ cls := "java/lang/String", name := "checkIndex", desc := "(II)V" } : Jvm.MethodName)) : Cond) ∈ ax_G := tw_g (tw_c3 (List.mem_of_getElem? (i := 30) rfl)) rfl
theorem lk_S1059 : ((Jvm.Cond.methodLink "java/lang/String" (1059 : Nat) ({ cls := "jdk/internal/util/Preconditions", name := "checkIndex", desc := "(IILjava/util/function/BiFunction;)I" } : Jvm.MethodName)) : Cond) ∈ ax_G := tw_g (tw_c3 (List.mem_of_getElem? (i := 35) rfl)) rfl
theorem lk_S9 : ((Jvm.Cond.fieldLink "java/lang/String" (9 : Nat) "java/lang/String" "value" "[B") : Cond) ∈ ax_G := tw_g (tw_c8 (List.mem_of_getElem? (i := 107) rfl)) rfl
theorem lk_S15 : ((Jvm.Cond.fieldLink "java/lang/String" (15 : Nat) "java/lang/String" "coder" "B") : Cond) ∈ ax_G := tw_g (tw_c8 (List.mem_of_getElem? (i := 108) rfl)) rfl
theorem lk_S38 : ((Jvm.Cond.fieldLink "java/lang/String" (38 : Nat) "java/lang/String" "COMPACT_STRINGS" "Z") : Cond) ∈ ax_G := tw_g (tw_c3 (List.mem_of_getElem? (i := 17) rfl)) rfl
theorem lk_S1053 : ((Jvm.Cond.fieldLink "java/lang/String" (1053 : Nat) "jdk/internal/util/Preconditions" "SIOOBE_FORMATTER" "Ljava/util/function/BiFunction;") : Cond) ∈ ax_G := tw_g (tw_c3 (List.mem_of_getElem? (i := 33) rfl)) rfl
section AXS
variable {l : Launch} {g : AG} {M : AM} {f k n0 nE n pc : Nat} {lv : List (Nat × Value)} {st : List Value} {h : AH} {F : AF}
theorem ax_a1 {z : Nat} (hz : 1000 ≤ z ∧ z < 1014) : ax_a g z = g.2.2.2.1 (z - 1000) := by unfold ax_a; rw [if_neg (by omega), if_pos (by omega)]
theorem ax_a2 {z : Nat} (hz : 1000 ≤ z ∧ z < 1014) : ax_a g (z + 1000) = g.2.2.2.2.1 (z - 1000) := by unfold ax_a; rw [if_neg (by omega), if_neg (by omega), if_pos (by omega), show z + 1000 - 2000 = z - 1000 by omega]
theorem ws_val {idx z : Nat} (hdg : decode M.2.1 pc = .ok (.getfield idx, 3)) (hlk : Cond.fieldLink M.1.cls idx "java/lang/String" "value" "[B" ∈ ax_G) (hz : 1000 ≤ z ∧ z < 1014) (kk : Wp l g M f k n0 nE n (pc + 3) lv (.ref (z + 1000) :: st) h F) : Wp l g M f k n0 nE n pc lv (.ref z :: st) h F := by
  intro p e s m args below meth c C H locs ls hP hS hl
  have K := kk p e s m args below meth c C H locs ls hP hS hl
  show W p l e _ s m args below meth c H locs _ _ _ (F0 m pc ls (.ref (ax_a g z) :: st.map (ax_v g)))
  rw [ax_a1 hz]
  refine vk_getf C.1 C.2.1 ((C.2.2.2.2.2.2.2.2.1.2.2.1.1 (z - 1000) (by omega)).2.2.1) hS C.2.2.2.2.1 (C.2.2.2.2.2.1 _ hlk) (fun _ q => q) hdg ?_
  rw [← ax_a2 hz]
  exact K
theorem ws_cod {idx z : Nat} (hdg : decode M.2.1 pc = .ok (.getfield idx, 3)) (hlk : Cond.fieldLink M.1.cls idx "java/lang/String" "coder" "B" ∈ ax_G) (hz : 1000 ≤ z ∧ z < 1014) (kk : Wp l g M f k n0 nE n (pc + 3) lv (.int 0 :: st) h F) : Wp l g M f k n0 nE n pc lv (.ref z :: st) h F := by
  intro p e s m args below meth c C H locs ls hP hS hl
  have K := kk p e s m args below meth c C H locs ls hP hS hl
  show W p l e _ s m args below meth c H locs _ _ _ (F0 m pc ls (.ref (ax_a g z) :: st.map (ax_v g)))
  rw [ax_a1 hz]
  exact vk_getf C.1 C.2.1 ((C.2.2.2.2.2.2.2.2.1.2.2.1.1 (z - 1000) (by omega)).2.1) hS C.2.2.2.2.1 (C.2.2.2.2.2.1 _ hlk) (fun _ q => q) hdg K
theorem ws_cmp {idx : Nat} (hdg : decode M.2.1 pc = .ok (.getstatic idx, 3)) (hlk : Cond.fieldLink M.1.cls idx "java/lang/String" "COMPACT_STRINGS" "Z" ∈ ax_G) (kk : Wp l g M f k n0 nE n (pc + 3) lv (.int 1 :: st) h F) : Wp l g M f k n0 nE n pc lv st h F := by
  intro p e s m args below meth c C H locs ls hP hS hl
  have K := kk p e s m args below meth c C H locs ls hP hS hl
  exact va_gets C.1 C.2.1 C.2.2.2.2.2.2.2.2.1.2.2.2.2.1 hS C.2.2.2.2.1 (C.2.2.2.2.2.1 _ hlk) (fun _ q => q) hdg K
theorem ws_fmt {idx : Nat} (hdg : decode M.2.1 pc = .ok (.getstatic idx, 3)) (hlk : Cond.fieldLink M.1.cls idx "jdk/internal/util/Preconditions" "SIOOBE_FORMATTER" "Ljava/util/function/BiFunction;" ∈ ax_G) (kk : Wp l g M f k n0 nE n (pc + 3) lv (ax_fo g 0 :: st) h F) : Wp l g M f k n0 nE n pc lv st h F := by
  intro p e s m args below meth c C H locs ls hP hS hl
  have K := kk p e s m args below meth c C H locs ls hP hS hl
  exact va_gets C.1 C.2.1 C.2.2.2.2.2.2.2.2.1.2.2.2.2.2.1 hS C.2.2.2.2.1 (C.2.2.2.2.2.1 _ hlk) (fun _ q => q) hdg K
theorem ws_len {z : Nat} (hdg : decode M.2.1 pc = .ok (.arraylength, 1)) (hz : 1000 ≤ z ∧ z < 1014) (kk : Wp l g M f k n0 nE n (pc + 1) lv (.int (nI (ax_sl.getD (z - 1000) 0)) :: st) h F) : Wp l g M f k n0 nE n pc lv (.ref (z + 1000) :: st) h F := by
  intro p e s m args below meth c C H locs ls hP hS hl
  have K := kk p e s m args below meth c C H locs ls hP hS hl
  show W p l e _ s m args below meth c H locs _ _ _ (F0 m pc ls (.ref (ax_a g (z + 1000)) :: st.map (ax_v g)))
  rw [ax_a2 hz]
  exact va_tlen C.1 C.2.1 ((C.2.2.2.2.2.2.2.2.1.2.2.1.1 (z - 1000) (by omega)).2.2.2) hS rfl hdg K
theorem ws_ald {z : Nat} {x : Int32} (hdg : decode M.2.1 pc = .ok (.baload, 1)) (hz : 1000 ≤ z ∧ z < 1014) (hx : vp_in x (ax_sl.getD (z - 1000) 0)) (kk : Wp l g M f k n0 nE n (pc + 1) lv (.int ((ax_sb.getD (z - 1000) []).getD x.toNatClampNeg 0) :: st) h F) : Wp l g M f k n0 nE n pc lv (.int x :: .ref (z + 1000) :: st) h F := by
  intro p e s m args below meth c C H locs ls hP hS hl
  have K := kk p e s m args below meth c C H locs ls hP hS hl
  show W p l e _ s m args below meth c H locs _ _ _ (F0 m pc ls (.int x :: .ref (ax_a g (z + 1000)) :: st.map (ax_v g)))
  rw [ax_a2 hz]
  exact va_tb C.1 C.2.1 ((C.2.2.2.2.2.2.2.2.1.2.2.1.1 (z - 1000) (by omega)).2.2.2) hS hx rfl hdg K
theorem ws_i2c {x v : Int32} (hdg : decode M.2.1 pc = .ok (.i2c, 1)) (hv : (x.toUInt32 % 65536).toInt32 = v) (kk : Wp l g M f k n0 nE n (pc + 1) lv (.int v :: st) h F) : Wp l g M f k n0 nE n pc lv (.int x :: st) h F := by
  intro p e s m args below meth c C H locs ls hP hS hl
  have K := kk p e s m args below meth c C H locs ls hP hS hl
  exact lv_i2c C.1 C.2.1 hdg hv K
theorem wp_nret {Q : Option Value → AH → Prop} {x : Int32} {ty : FieldType} (hr : M.2.2.2 = some ty) (hdg : decode M.2.1 pc = .ok (.ireturn, 1)) (hx : narrow ty (.int x) = .int x) (hq : Q (some (.int x)) h) : Wp l g M f k n0 n n pc lv [.int x] h (FM g n0 n Q) :=
  fun p e s m args below meth c C H locs ls hP hS hl => W.zret (ty := ty) C.1 C.2.1 (C.2.2.1.trans hr) hx (fun t ht hW => ⟨(some (.int x)), h, rfl, hq, by rw [ht]; exact hP, hS.F ht⟩) hS.2.2 hdg C.2.2.2.2.2.2.1
theorem ax_sb_ok : ∀ a, a < 14 → ∀ j, j < ax_sl.getD a 0 → ((ax_sb.getD a []).getD j 0) &&& 255 = (ax_sb.getD a []).getD j 0 := by decide +kernel
theorem ax_sl_ok : ∀ a, a < 14 → ax_sl.getD a 0 < 20 := by decide +kernel
theorem cs_coder {z : Nat} (hz : 1000 ≤ z ∧ z < 1014) {Q : Int32 → AH → Prop} (hq : Q 0 h) : Ct l g ms_coder 0 0 n n h [.ref z] (ax_QI Q) := by
  refine ax_met rfl rfl (Nat.le_of_ble_eq_true rfl) ?_
  refine ws_cmp dJ0_coder_7d493_0 lk_S38 ?_
  refine wp_if_eq (tgt := 13) dJ0_coder_7d493_3 (by decide) (fun c => absurd c (by decide)) (fun _ => ?_)
  refine wp_aload_n 0 dJ0_coder_7d493_6 rfl rfl ?_
  refine ws_cod dJ0_coder_7d493_7 lk_S15 hz ?_
  refine wp_goto (tgt := 14) dJ0_coder_7d493_10 (by decide) ?_
  exact wp_nret rfl dJ0_coder_7d493_14 (by decide) ⟨_, rfl, hq⟩
theorem cs_length {z : Nat} (hz : 1000 ≤ z ∧ z < 1014) {Q : Int32 → AH → Prop} (hq : Q (nI (ax_sl.getD (z - 1000) 0)) h) : Ct l g ms_length 1 20 n n h [.ref z] (ax_QI Q) := by
  refine ax_met rfl rfl (Nat.le_of_ble_eq_true rfl) ?_
  refine wp_aload_n 0 dJ0_length_8abf5_0 rfl rfl ?_
  refine ws_val dJ0_length_8abf5_1 lk_S9 hz ?_
  refine ws_len dJ0_length_8abf5_4 hz ?_
  refine wp_aload_n 0 dJ0_length_8abf5_5 rfl rfl ?_
  refine wp_callVS (as := []) dJ0_length_8abf5_6 cb_scoder lk_S335 im_scoder se_scoder rfl (Nat.le_of_ble_eq_true rfl) ⟨by decide, by decide⟩ ⟨Nat.le_refl _, Nat.le_refl _, Nat.le_refl _⟩ hz rfl (cs_coder (Q := fun x h1 => x = 0 ∧ h1 = h) hz ⟨rfl, rfl⟩) (fun r0 h1 hb => ?_)
  obtain ⟨x, rfl, rfl, rfl⟩ := hb
  refine wp_ishr dJ0_length_8abf5_9 ?_
  refine wp_topi (fun y ey => ?_)
  have e1 : y = nI (ax_sl.getD (z - 1000) 0) := by rw [ey]; exact sc_shr0 (Nat.lt_trans (ax_sl_ok (z - 1000) (by omega)) (by decide))
  rw [e1]
  exact wp_iret rfl dJ0_length_8abf5_10 ⟨_, rfl, hq⟩
theorem cs_isLatin1 {z : Nat} (hz : 1000 ≤ z ∧ z < 1014) {Q : Int32 → AH → Prop} (hq : Q 1 h) : Ct l g ms_isLatin1 0 0 n n h [.ref z] (ax_QI Q) := by
  refine ax_met rfl rfl (Nat.le_of_ble_eq_true rfl) ?_
  refine ws_cmp dJ0_isLatin1_aae02_0 lk_S38 ?_
  refine wp_if_eq (tgt := 17) dJ0_isLatin1_aae02_3 (by decide) (fun c => absurd c (by decide)) (fun _ => ?_)
  refine wp_aload_n 0 dJ0_isLatin1_aae02_6 rfl rfl ?_
  refine ws_cod dJ0_isLatin1_aae02_7 lk_S15 hz ?_
  refine wp_if_ne (tgt := 17) dJ0_isLatin1_aae02_10 (by decide) (fun c => absurd rfl c) (fun _ => ?_)
  refine wp_iconst (v := 1) dJ0_isLatin1_aae02_13 (by decide) ?_
  refine wp_goto (tgt := 18) dJ0_isLatin1_aae02_14 (by decide) ?_
  exact wp_zret rfl dJ0_isLatin1_aae02_18 (Or.inr rfl) ⟨_, rfl, hq⟩
theorem ax_fo_cat {j : Nat} : (ax_fo g j).category = 1 := by unfold ax_fo; split <;> rfl
theorem cs_pcheck {x : Int32} {N : Nat} (hN : N < 20) (hx : vp_in x N) {v : Value} (hv : v.category = 1) {Q : Int32 → AH → Prop} (hq : Q x h) : Ct l g ms_pcheck 0 0 n n h [.int x, .int (nI N), v] (ax_QI Q) := by
  refine ax_met rfl rfl (by show (lg_sl [.int x, .int (nI N), v]).length ≤ 3; cases v <;> first | exact Nat.le_of_ble_eq_true rfl | (simp [Value.category] at hv; done)) ?_
  obtain ⟨j, hj, rfl⟩ := vp_in_of hx (by omega)
  show Wp _ _ _ _ _ _ _ _ _ [(0, .int (nI j)), (1, .int (nI N)), (2, v)] _ _ _
  refine wp_iload_n 0 dJ3_checkIndex_8e157_0 rfl rfl ?_
  refine wp_if_lt (tgt := 9) dJ3_checkIndex_8e157_1 (by decide) (fun c => absurd c (nI_pos (by omega))) (fun _ => ?_)
  refine wp_iload_n 0 dJ3_checkIndex_8e157_4 rfl rfl ?_
  refine wp_iload_n 1 dJ3_checkIndex_8e157_5 rfl rfl ?_
  refine wp_icmp_lt (tgt := 16) dJ3_checkIndex_8e157_6 (by decide) (fun _ => ?_) (fun c => absurd (nI_lt hj (by omega)) c)
  refine wp_iload_n 0 dJ3_checkIndex_8e157_16 rfl rfl ?_
  exact wp_iret rfl dJ3_checkIndex_8e157_17 ⟨_, rfl, hq⟩
theorem cs_checkIndex {x : Int32} {N : Nat} (hN : N < 20) (hx : vp_in x N) {Q : AH → Prop} (hq : Q h) : Ct l g ms_checkIndex 1 22 n n h [.int x, .int (nI N)] (ax_QV Q) := by
  refine ax_met rfl rfl (Nat.le_of_ble_eq_true rfl) ?_
  refine wp_iload_n 0 dJ0_checkIndex_df160_0 rfl rfl ?_
  refine wp_iload_n 1 dJ0_checkIndex_df160_1 rfl rfl ?_
  refine ws_fmt dJ0_checkIndex_df160_2 lk_S1053 ?_
  refine wp_callS (as := [.int x, .int (nI N), ax_fo g 0]) dJ0_checkIndex_df160_5 cb_spcheck lk_S1059 st_spcheck rfl (Nat.le_of_ble_eq_true rfl) ⟨by decide, by decide⟩ ⟨Nat.le_refl _, Nat.le_refl _, Nat.le_refl _⟩ (cs_pcheck (Q := fun y h1 => h1 = h) hN hx ax_fo_cat rfl) (fun r0 h1 hb => ?_)
  obtain ⟨y, rfl, rfl⟩ := hb
  refine wp_pop dJ0_checkIndex_df160_8 rfl ?_
  exact wp_vret rfl dJ0_checkIndex_df160_9 ⟨rfl, hq⟩
theorem cs_lcharAt {z : Nat} {x : Int32} (hz : 1000 ≤ z ∧ z < 1014) (hx : vp_in x (ax_sl.getD (z - 1000) 0)) {Q : Int32 → AH → Prop} (hq : Q ((ax_sb.getD (z - 1000) []).getD x.toNatClampNeg 0) h) : Ct l g ms_lcharAt 2 43 n n h [.ref (z + 1000), .int x] (ax_QI Q) := by
  refine ax_met rfl rfl (Nat.le_of_ble_eq_true rfl) ?_
  refine wp_iload_n 1 dJ1_charAt_3b067_0 rfl rfl ?_
  refine wp_aload_n 0 dJ1_charAt_3b067_1 rfl rfl ?_
  refine ws_len dJ1_charAt_3b067_2 hz ?_
  refine wp_callS (as := [.int x, .int (nI (ax_sl.getD (z - 1000) 0))]) dJ1_charAt_3b067_3 cb_scheckIndex lk_L9 st_scheckIndex rfl (Nat.le_of_ble_eq_true rfl) ⟨by decide, by decide⟩ ⟨Nat.le_refl _, Nat.le_refl _, Nat.le_refl _⟩ (cs_checkIndex (Q := fun h1 => h1 = h) (ax_sl_ok (z - 1000) (by omega)) hx rfl) (fun r0 h1 hb => ?_)
  obtain ⟨rfl, rfl⟩ := hb
  refine wp_aload_n 0 dJ1_charAt_3b067_6 rfl rfl ?_
  refine wp_iload_n 1 dJ1_charAt_3b067_7 rfl rfl ?_
  refine ws_ald dJ1_charAt_3b067_8 hz hx ?_
  refine wp_sipush (v := 255) dJ1_charAt_3b067_9 (by decide) ?_
  refine wp_iand dJ1_charAt_3b067_12 ?_
  have hj : x.toNatClampNeg < ax_sl.getD (z - 1000) 0 := Nat.not_le.mp fun q => hx (Or.inr q)
  refine ws_i2c dJ1_charAt_3b067_13 (sc_c2 _) ?_
  rw [← ax_sb_ok (z - 1000) (by omega) _ hj] at hq
  exact wp_nret rfl dJ1_charAt_3b067_14 (sc_nar _) ⟨_, rfl, hq⟩
theorem cs_charAt {z : Nat} {x : Int32} (hz : 1000 ≤ z ∧ z < 1014) (hx : vp_in x (ax_sl.getD (z - 1000) 0)) {Q : Int32 → AH → Prop} (hq : Q ((ax_sb.getD (z - 1000) []).getD x.toNatClampNeg 0) h) : Ct l g ms_charAt 3 64 n n h [.ref z, .int x] (ax_QI Q) := by
  refine ax_met rfl rfl (Nat.le_of_ble_eq_true rfl) ?_
  refine wp_aload_n 0 dJ0_charAt_5068e_0 rfl rfl ?_
  refine wp_callVS (as := []) dJ0_charAt_5068e_1 cb_sisLatin1 lk_S492 im_sisLatin1 se_sisLatin1 rfl (Nat.le_of_ble_eq_true rfl) ⟨by decide, by decide⟩ ⟨Nat.le_refl _, Nat.le_refl _, Nat.le_refl _⟩ hz rfl (cs_isLatin1 (Q := fun y h1 => y = 1 ∧ h1 = h) hz ⟨rfl, rfl⟩) (fun r0 h1 hb => ?_)
  obtain ⟨y, rfl, rfl, rfl⟩ := hb
  refine wp_if_eq (tgt := 16) dJ0_charAt_5068e_4 (by decide) (fun c => absurd c (by decide)) (fun _ => ?_)
  refine wp_aload_n 0 dJ0_charAt_5068e_7 rfl rfl ?_
  refine ws_val dJ0_charAt_5068e_8 lk_S9 hz ?_
  refine wp_iload_n 1 dJ0_charAt_5068e_11 rfl rfl ?_
  refine wp_callS (as := [.ref (z + 1000), .int x]) dJ0_charAt_5068e_12 cb_slcharAt lk_S495 st_slcharAt rfl (Nat.le_of_ble_eq_true rfl) ⟨by decide, by decide⟩ ⟨Nat.le_refl _, Nat.le_refl _, Nat.le_refl _⟩ (cs_lcharAt (Q := fun y h2 => y = (ax_sb.getD (z - 1000) []).getD x.toNatClampNeg 0 ∧ h2 = h1) hz hx ⟨rfl, rfl⟩) (fun r0 h2 hb => ?_)
  obtain ⟨y, rfl, ey, rfl⟩ := hb
  have hj : x.toNatClampNeg < ax_sl.getD (z - 1000) 0 := Nat.not_le.mp fun q => hx (Or.inr q)
  rw [ey, ← ax_sb_ok (z - 1000) (by omega) _ hj]
  rw [← ax_sb_ok (z - 1000) (by omega) _ hj] at hq
  exact wp_nret rfl dJ0_charAt_5068e_15 (sc_nar _) ⟨_, rfl, hq⟩
theorem wp_slen {idx z : Nat} (hdg : decode M.2.1 pc = .ok (.invokevirtual idx, 3)) (hlk : Cond.methodLink M.1.cls idx ⟨"java/lang/String", "length", "()I"⟩ ∈ ax_G) (hz : 1000 ≤ z ∧ z < 1014) (hcat : (st.map (fun v => v.category)).sum ≤ 8) (hf : 4 ≤ f) (hk : 120 ≤ k) (hnn : n0 ≤ n ∧ n ≤ nE) (kk : Wp l g M f k n0 nE n (pc + 3) lv (.int (nI (ax_sl.getD (z - 1000) 0)) :: st) h F) : Wp l g M f k n0 nE n pc lv (.ref z :: st) h F := by
  refine wp_callVS (as := []) (M2 := ms_length) (n1 := n) (f2 := 1) (k2 := 20) hdg cb_slength hlk im_slength se_slength rfl hcat ⟨by omega, by show 8 + (1 + 11) + 20 ≤ k; omega⟩ ⟨hnn.1, Nat.le_refl _, hnn.2⟩ hz rfl (cs_length (Q := fun y h1 => y = nI (ax_sl.getD (z - 1000) 0) ∧ h1 = h) hz ⟨rfl, rfl⟩) (fun r0 h1 hb => ?_)
  obtain ⟨y, rfl, rfl, rfl⟩ := hb
  exact kk
theorem wp_schar {idx z : Nat} {x : Int32} (hdg : decode M.2.1 pc = .ok (.invokevirtual idx, 3)) (hlk : Cond.methodLink M.1.cls idx ⟨"java/lang/String", "charAt", "(I)C"⟩ ∈ ax_G) (hz : 1000 ≤ z ∧ z < 1014) (hx : vp_in x (ax_sl.getD (z - 1000) 0)) (hcat : (st.map (fun v => v.category)).sum ≤ 8) (hf : 4 ≤ f) (hk : 120 ≤ k) (hnn : n0 ≤ n ∧ n ≤ nE) (kk : Wp l g M f k n0 nE n (pc + 3) lv (.int ((ax_sb.getD (z - 1000) []).getD x.toNatClampNeg 0) :: st) h F) : Wp l g M f k n0 nE n pc lv (.int x :: .ref z :: st) h F := by
  refine wp_callVS (as := [.int x]) (M2 := ms_charAt) (n1 := n) (f2 := 3) (k2 := 64) hdg cb_scharAt hlk im_scharAt se_scharAt rfl hcat ⟨by omega, by show 8 + (2 + 11) + 64 ≤ k; omega⟩ ⟨hnn.1, Nat.le_refl _, hnn.2⟩ hz rfl (cs_charAt (Q := fun y h1 => y = (ax_sb.getD (z - 1000) []).getD x.toNatClampNeg 0 ∧ h1 = h) hz hx ⟨rfl, rfl⟩) (fun r0 h1 hb => ?_)
  obtain ⟨y, rfl, ey, rfl⟩ := hb
  rw [ey]
  exact kk
end AXS
