theorem tw_8 {w : Cond} (h : w ∈ tables_1) : w ∈ lw_tbl := List.mem_append_right _ h
theorem tw_c1 {w : Cond} (h : w ∈ tables_1_1) : w ∈ lw_tbl := tw_8 (List.mem_append_left _ h)
theorem tw_c2 {w : Cond} (h : w ∈ tables_1_2) : w ∈ lw_tbl := tw_8 (List.mem_append_right _ (List.mem_append_left _ h))
theorem tw_c3 {w : Cond} (h : w ∈ tables_1_3) : w ∈ lw_tbl := tw_8 (List.mem_append_right _ (List.mem_append_right _ (List.mem_append_left _ h)))
theorem tw_c4 {w : Cond} (h : w ∈ tables_1_4) : w ∈ lw_tbl := tw_8 (List.mem_append_right _ (List.mem_append_right _ (List.mem_append_right _ (List.mem_append_left _ h))))
theorem tw_c5 {w : Cond} (h : w ∈ tables_1_5) : w ∈ lw_tbl := tw_8 (List.mem_append_right _ (List.mem_append_right _ (List.mem_append_right _ (List.mem_append_right _ (List.mem_append_left _ h)))))
theorem tw_c6 {w : Cond} (h : w ∈ tables_1_6) : w ∈ lw_tbl := tw_8 (List.mem_append_right _ (List.mem_append_right _ (List.mem_append_right _ (List.mem_append_right _ (List.mem_append_right _ (List.mem_append_left _ h))))))
theorem tw_c7 {w : Cond} (h : w ∈ tables_1_7) : w ∈ lw_tbl := tw_8 (List.mem_append_right _ (List.mem_append_right _ (List.mem_append_right _ (List.mem_append_right _ (List.mem_append_right _ (List.mem_append_right _ (List.mem_append_left _ h)))))))
theorem tw_c8 {w : Cond} (h : w ∈ tables_1_8) : w ∈ lw_tbl := tw_8 (List.mem_append_right _ (List.mem_append_right _ (List.mem_append_right _ (List.mem_append_right _ (List.mem_append_right _ (List.mem_append_right _ (List.mem_append_right _ (h))))))))
theorem tw_g {w : Cond} (h : w ∈ lw_tbl) (hg : goodWord w = true) : w ∈ ax_G := List.mem_filter.mpr ⟨h, hg⟩
theorem tw_n {w : Cond} (h : w ∈ lw_tbl) (hg : ax_nw w = true) : w ∈ ax_NW := List.mem_filter.mpr ⟨h, hg⟩
theorem in_X0 : ∀ w ∈ u_ws RX0 TX0 19, w ∈ lw_tbl := by decide +kernel
theorem gX_X0 : ∀ w ∈ u_ws RX0 TX0 19, w ∈ ax_G := fun w h => tw_g (in_X0 w h) (List.all_eq_true.mp (show (u_ws RX0 TX0 19).all goodWord = true from rfl) w h)
theorem fc_X0 : ax_FC 0 RX0 TX0 19 tyX0 := ⟨rfl, gX_X0, tyX0_ok, nmX0, by decide⟩
theorem in_X1 : ∀ w ∈ u_ws RX1 TX1 9, w ∈ lw_tbl := by decide +kernel
theorem gX_X1 : ∀ w ∈ u_ws RX1 TX1 9, w ∈ ax_G := fun w h => tw_g (in_X1 w h) (List.all_eq_true.mp (show (u_ws RX1 TX1 9).all goodWord = true from rfl) w h)
theorem fc_X1 : ax_FC 1 RX1 TX1 9 tyX1 := ⟨rfl, gX_X1, tyX1_ok, nmX1, by decide⟩
theorem in_X2 : ∀ w ∈ u_ws RX2 TX2 6, w ∈ lw_tbl := by decide +kernel
theorem gX_X2 : ∀ w ∈ u_ws RX2 TX2 6, w ∈ ax_G := fun w h => tw_g (in_X2 w h) (List.all_eq_true.mp (show (u_ws RX2 TX2 6).all goodWord = true from rfl) w h)
theorem fc_X2 : ax_FC 2 RX2 TX2 6 tyX2 := ⟨rfl, gX_X2, tyX2_ok, nmX2, by decide⟩
theorem in_X4 : ∀ w ∈ u_ws RX4 TX4 4, w ∈ lw_tbl := by decide +kernel
theorem gX_X4 : ∀ w ∈ u_ws RX4 TX4 4, w ∈ ax_G := fun w h => tw_g (in_X4 w h) (List.all_eq_true.mp (show (u_ws RX4 TX4 4).all goodWord = true from rfl) w h)
theorem fc_X4 : ax_FC 3 RX4 TX4 4 tyX4 := ⟨rfl, gX_X4, tyX4_ok, nmX4, by decide⟩
theorem in_X5 : ∀ w ∈ u_ws RX5 TX5 4, w ∈ lw_tbl := by decide +kernel
theorem gX_X5 : ∀ w ∈ u_ws RX5 TX5 4, w ∈ ax_G := fun w h => tw_g (in_X5 w h) (List.all_eq_true.mp (show (u_ws RX5 TX5 4).all goodWord = true from rfl) w h)
theorem fc_X5 : ax_FC 4 RX5 TX5 4 tyX5 := ⟨rfl, gX_X5, tyX5_ok, nmX5, by decide⟩
theorem in_X6 : ∀ w ∈ u_ws RX6 TX6 7, w ∈ lw_tbl := by decide +kernel
theorem gX_X6 : ∀ w ∈ u_ws RX6 TX6 7, w ∈ ax_G := fun w h => tw_g (in_X6 w h) (List.all_eq_true.mp (show (u_ws RX6 TX6 7).all goodWord = true from rfl) w h)
theorem fc_X6 : ax_FC 5 RX6 TX6 7 tyX6 := ⟨rfl, gX_X6, tyX6_ok, nmX6, by decide⟩
theorem in_X7 : ∀ w ∈ u_ws RX7 TX7 15, w ∈ lw_tbl := by decide +kernel
theorem gX_X7 : ∀ w ∈ u_ws RX7 TX7 15, w ∈ ax_G := fun w h => tw_g (in_X7 w h) (List.all_eq_true.mp (show (u_ws RX7 TX7 15).all goodWord = true from rfl) w h)
theorem fc_X7 : ax_FC 6 RX7 TX7 15 tyX7 := ⟨rfl, gX_X7, tyX7_ok, nmX7, by decide⟩
theorem in_X8 : ∀ w ∈ u_ws RX8 TX8 7, w ∈ lw_tbl := by decide +kernel
theorem gX_X8 : ∀ w ∈ u_ws RX8 TX8 7, w ∈ ax_G := fun w h => tw_g (in_X8 w h) (List.all_eq_true.mp (show (u_ws RX8 TX8 7).all goodWord = true from rfl) w h)
theorem fc_X8 : ax_FC 7 RX8 TX8 7 tyX8 := ⟨rfl, gX_X8, tyX8_ok, nmX8, by decide⟩
theorem in_X9 : ∀ w ∈ u_ws RX9 TX9 13, w ∈ lw_tbl := by decide +kernel
theorem gX_X9 : ∀ w ∈ u_ws RX9 TX9 13, w ∈ ax_G := fun w h => tw_g (in_X9 w h) (List.all_eq_true.mp (show (u_ws RX9 TX9 13).all goodWord = true from rfl) w h)
theorem fc_X9 : ax_FC 8 RX9 TX9 13 tyX9 := ⟨rfl, gX_X9, tyX9_ok, nmX9, by decide⟩
theorem in_X10 : ∀ w ∈ u_ws RX10 TX10 22, w ∈ lw_tbl := by decide +kernel
theorem gX_X10 : ∀ w ∈ u_ws RX10 TX10 22, w ∈ ax_G := fun w h => tw_g (in_X10 w h) (List.all_eq_true.mp (show (u_ws RX10 TX10 22).all goodWord = true from rfl) w h)
theorem fc_X10 : ax_FC 9 RX10 TX10 22 tyX10 := ⟨rfl, gX_X10, tyX10_ok, nmX10, by decide⟩
theorem in_X11 : ∀ w ∈ u_ws RX11 TX11 8, w ∈ lw_tbl := by decide +kernel
theorem gX_X11 : ∀ w ∈ u_ws RX11 TX11 8, w ∈ ax_G := fun w h => tw_g (in_X11 w h) (List.all_eq_true.mp (show (u_ws RX11 TX11 8).all goodWord = true from rfl) w h)
theorem fc_X11 : ax_FC 10 RX11 TX11 8 tyX11 := ⟨rfl, gX_X11, tyX11_ok, nmX11, by decide⟩
theorem in_X12 : ∀ w ∈ u_ws RX12 TX12 56, w ∈ lw_tbl := by decide +kernel
theorem gX_X12 : ∀ w ∈ u_ws RX12 TX12 56, w ∈ ax_G := fun w h => tw_g (in_X12 w h) (List.all_eq_true.mp (show (u_ws RX12 TX12 56).all goodWord = true from rfl) w h)
theorem fc_X12 : ax_FC 11 RX12 TX12 56 tyX12 := ⟨rfl, gX_X12, tyX12_ok, nmX12, by decide⟩
theorem ini_X9 : ((Jvm.Cond.initialized "WindowHouse") : Cond) ∈ ax_G := tw_g (tw_c1 (List.mem_of_getElem? (i := 1) rfl)) rfl
def mX9_init : AM := (yX9_init, cX9_init, 1, none)
theorem co_X9_init : ((Jvm.Cond.code ({ cls := "WindowHouse", name := "<init>", desc := "()V" } : Jvm.MethodName) prog_1_method_1_code (1 : Nat) (Option.none : Option Jvm.ClassFile.FieldType)) : Cond) ∈ ax_G := tw_g (tw_c1 (List.mem_of_getElem? (i := 29) rfl)) rfl
theorem cb_X9_init : ax_CB mX9_init 0 := ⟨co_X9_init, ini_X9, by decide, by decide, by decide +kernel⟩
theorem im_X9_init : ((Jvm.Cond.instanceMethod ({ cls := "WindowHouse", name := "<init>", desc := "()V" } : Jvm.MethodName)) : Cond) ∈ ax_G := tw_g (tw_c1 (List.mem_of_getElem? (i := 28) rfl)) rfl
def mX9_feed : AM := (yX9_feed, cX9_feed, 6, some .int)
theorem co_X9_feed : ((Jvm.Cond.code ({ cls := "WindowHouse", name := "feed", desc := "(IIIII)I" } : Jvm.MethodName) prog_1_method_2_code (6 : Nat) (Option.some Jvm.ClassFile.FieldType.int)) : Cond) ∈ ax_G := tw_g (tw_c2 (List.mem_of_getElem? (i := 169) rfl)) rfl
theorem cb_X9_feed : ax_CB mX9_feed 5 := ⟨co_X9_feed, ini_X9, by decide, by decide, by decide +kernel⟩
theorem im_X9_feed : ((Jvm.Cond.instanceMethod ({ cls := "WindowHouse", name := "feed", desc := "(IIIII)I" } : Jvm.MethodName)) : Cond) ∈ ax_G := tw_g (tw_c2 (List.mem_of_getElem? (i := 167) rfl)) rfl
theorem se_X9_feed : ((Jvm.Cond.selects "WindowHouse" ({ cls := "WindowHouse", name := "feed", desc := "(IIIII)I" } : Jvm.MethodName) ({ cls := "WindowHouse", name := "feed", desc := "(IIIII)I" } : Jvm.MethodName)) : Cond) ∈ ax_G := tw_g (tw_c2 (List.mem_of_getElem? (i := 168) rfl)) rfl
def mX9_app : AM := (yX9_app, cX9_app, 4, some .int)
theorem co_X9_app : ((Jvm.Cond.code ({ cls := "WindowHouse", name := "app", desc := "(II)I" } : Jvm.MethodName) prog_1_method_3_code (4 : Nat) (Option.some Jvm.ClassFile.FieldType.int)) : Cond) ∈ ax_G := tw_g (tw_c2 (List.mem_of_getElem? (i := 177) rfl)) rfl
theorem cb_X9_app : ax_CB mX9_app 2 := ⟨co_X9_app, ini_X9, by decide, by decide, by decide +kernel⟩
theorem im_X9_app : ((Jvm.Cond.instanceMethod ({ cls := "WindowHouse", name := "app", desc := "(II)I" } : Jvm.MethodName)) : Cond) ∈ ax_G := tw_g (tw_c2 (List.mem_of_getElem? (i := 175) rfl)) rfl
theorem se_X9_app : ((Jvm.Cond.selects "WindowHouse" ({ cls := "WindowHouse", name := "app", desc := "(II)I" } : Jvm.MethodName) ({ cls := "WindowHouse", name := "app", desc := "(II)I" } : Jvm.MethodName)) : Cond) ∈ ax_G := tw_g (tw_c2 (List.mem_of_getElem? (i := 176) rfl)) rfl
def mX9_fault : AM := (yX9_fault, cX9_fault, 1, some .int)
theorem co_X9_fault : ((Jvm.Cond.code ({ cls := "WindowHouse", name := "fault", desc := "()I" } : Jvm.MethodName) prog_1_method_4_code (1 : Nat) (Option.some Jvm.ClassFile.FieldType.int)) : Cond) ∈ ax_G := tw_g (tw_c3 (List.mem_of_getElem? (i := 223) rfl)) rfl
theorem cb_X9_fault : ax_CB mX9_fault 0 := ⟨co_X9_fault, ini_X9, by decide, by decide, by decide +kernel⟩
theorem im_X9_fault : ((Jvm.Cond.instanceMethod ({ cls := "WindowHouse", name := "fault", desc := "()I" } : Jvm.MethodName)) : Cond) ∈ ax_G := tw_g (tw_c3 (List.mem_of_getElem? (i := 221) rfl)) rfl
theorem se_X9_fault : ((Jvm.Cond.selects "WindowHouse" ({ cls := "WindowHouse", name := "fault", desc := "()I" } : Jvm.MethodName) ({ cls := "WindowHouse", name := "fault", desc := "()I" } : Jvm.MethodName)) : Cond) ∈ ax_G := tw_g (tw_c3 (List.mem_of_getElem? (i := 222) rfl)) rfl
def mX9_where : AM := (yX9_where, cX9_where, 1, some .int)
theorem co_X9_where : ((Jvm.Cond.code ({ cls := "WindowHouse", name := "where", desc := "()I" } : Jvm.MethodName) prog_1_method_5_code (1 : Nat) (Option.some Jvm.ClassFile.FieldType.int)) : Cond) ∈ ax_G := tw_g (tw_c3 (List.mem_of_getElem? (i := 227) rfl)) rfl
theorem cb_X9_where : ax_CB mX9_where 0 := ⟨co_X9_where, ini_X9, by decide, by decide, by decide +kernel⟩
theorem im_X9_where : ((Jvm.Cond.instanceMethod ({ cls := "WindowHouse", name := "where", desc := "()I" } : Jvm.MethodName)) : Cond) ∈ ax_G := tw_g (tw_c3 (List.mem_of_getElem? (i := 225) rfl)) rfl
theorem se_X9_where : ((Jvm.Cond.selects "WindowHouse" ({ cls := "WindowHouse", name := "where", desc := "()I" } : Jvm.MethodName) ({ cls := "WindowHouse", name := "where", desc := "()I" } : Jvm.MethodName)) : Cond) ∈ ax_G := tw_g (tw_c3 (List.mem_of_getElem? (i := 226) rfl)) rfl
def mX9_about : AM := (yX9_about, cX9_about, 4, some .int)
theorem co_X9_about : ((Jvm.Cond.code ({ cls := "WindowHouse", name := "about", desc := "(II)I" } : Jvm.MethodName) prog_1_method_6_code (4 : Nat) (Option.some Jvm.ClassFile.FieldType.int)) : Cond) ∈ ax_G := tw_g (tw_c3 (List.mem_of_getElem? (i := 231) rfl)) rfl
theorem cb_X9_about : ax_CB mX9_about 2 := ⟨co_X9_about, ini_X9, by decide, by decide, by decide +kernel⟩
theorem im_X9_about : ((Jvm.Cond.instanceMethod ({ cls := "WindowHouse", name := "about", desc := "(II)I" } : Jvm.MethodName)) : Cond) ∈ ax_G := tw_g (tw_c3 (List.mem_of_getElem? (i := 229) rfl)) rfl
theorem se_X9_about : ((Jvm.Cond.selects "WindowHouse" ({ cls := "WindowHouse", name := "about", desc := "(II)I" } : Jvm.MethodName) ({ cls := "WindowHouse", name := "about", desc := "(II)I" } : Jvm.MethodName)) : Cond) ∈ ax_G := tw_g (tw_c3 (List.mem_of_getElem? (i := 230) rfl)) rfl
def mX9_button : AM := (yX9_button, cX9_button, 5, some .int)
theorem co_X9_button : ((Jvm.Cond.code ({ cls := "WindowHouse", name := "button", desc := "(III)I" } : Jvm.MethodName) prog_1_method_7_code (5 : Nat) (Option.some Jvm.ClassFile.FieldType.int)) : Cond) ∈ ax_G := tw_g (tw_c3 (List.mem_of_getElem? (i := 239) rfl)) rfl
theorem cb_X9_button : ax_CB mX9_button 3 := ⟨co_X9_button, ini_X9, by decide, by decide, by decide +kernel⟩
theorem im_X9_button : ((Jvm.Cond.instanceMethod ({ cls := "WindowHouse", name := "button", desc := "(III)I" } : Jvm.MethodName)) : Cond) ∈ ax_G := tw_g (tw_c3 (List.mem_of_getElem? (i := 237) rfl)) rfl
theorem se_X9_button : ((Jvm.Cond.selects "WindowHouse" ({ cls := "WindowHouse", name := "button", desc := "(III)I" } : Jvm.MethodName) ({ cls := "WindowHouse", name := "button", desc := "(III)I" } : Jvm.MethodName)) : Cond) ∈ ax_G := tw_g (tw_c3 (List.mem_of_getElem? (i := 238) rfl)) rfl
def mX9_act : AM := (yX9_act, cX9_act, 3, some .int)
theorem co_X9_act : ((Jvm.Cond.code ({ cls := "WindowHouse", name := "act", desc := "(II)I" } : Jvm.MethodName) prog_1_method_8_code (3 : Nat) (Option.some Jvm.ClassFile.FieldType.int)) : Cond) ∈ ax_G := tw_g (tw_c4 (List.mem_of_getElem? (i := 3) rfl)) rfl
theorem cb_X9_act : ax_CB mX9_act 2 := ⟨co_X9_act, ini_X9, by decide, by decide, by decide +kernel⟩
theorem im_X9_act : ((Jvm.Cond.instanceMethod ({ cls := "WindowHouse", name := "act", desc := "(II)I" } : Jvm.MethodName)) : Cond) ∈ ax_G := tw_g (tw_c4 (List.mem_of_getElem? (i := 1) rfl)) rfl
theorem se_X9_act : ((Jvm.Cond.selects "WindowHouse" ({ cls := "WindowHouse", name := "act", desc := "(II)I" } : Jvm.MethodName) ({ cls := "WindowHouse", name := "act", desc := "(II)I" } : Jvm.MethodName)) : Cond) ∈ ax_G := tw_g (tw_c4 (List.mem_of_getElem? (i := 2) rfl)) rfl
def mX9_state : AM := (yX9_state, cX9_state, 5, some .int)
theorem co_X9_state : ((Jvm.Cond.code ({ cls := "WindowHouse", name := "state", desc := "(II)I" } : Jvm.MethodName) prog_1_method_9_code (5 : Nat) (Option.some Jvm.ClassFile.FieldType.int)) : Cond) ∈ ax_G := tw_g (tw_c4 (List.mem_of_getElem? (i := 54) rfl)) rfl
theorem cb_X9_state : ax_CB mX9_state 2 := ⟨co_X9_state, ini_X9, by decide, by decide, by decide +kernel⟩
theorem im_X9_state : ((Jvm.Cond.instanceMethod ({ cls := "WindowHouse", name := "state", desc := "(II)I" } : Jvm.MethodName)) : Cond) ∈ ax_G := tw_g (tw_c4 (List.mem_of_getElem? (i := 52) rfl)) rfl
theorem se_X9_state : ((Jvm.Cond.selects "WindowHouse" ({ cls := "WindowHouse", name := "state", desc := "(II)I" } : Jvm.MethodName) ({ cls := "WindowHouse", name := "state", desc := "(II)I" } : Jvm.MethodName)) : Cond) ∈ ax_G := tw_g (tw_c4 (List.mem_of_getElem? (i := 53) rfl)) rfl
def mX9_var : AM := (yX9_var, cX9_var, 3, some .int)
theorem co_X9_var : ((Jvm.Cond.code ({ cls := "WindowHouse", name := "var", desc := "(II)I" } : Jvm.MethodName) prog_1_method_10_code (3 : Nat) (Option.some Jvm.ClassFile.FieldType.int)) : Cond) ∈ ax_G := tw_g (tw_c4 (List.mem_of_getElem? (i := 69) rfl)) rfl
theorem cb_X9_var : ax_CB mX9_var 2 := ⟨co_X9_var, ini_X9, by decide, by decide, by decide +kernel⟩
theorem im_X9_var : ((Jvm.Cond.instanceMethod ({ cls := "WindowHouse", name := "var", desc := "(II)I" } : Jvm.MethodName)) : Cond) ∈ ax_G := tw_g (tw_c4 (List.mem_of_getElem? (i := 67) rfl)) rfl
theorem se_X9_var : ((Jvm.Cond.selects "WindowHouse" ({ cls := "WindowHouse", name := "var", desc := "(II)I" } : Jvm.MethodName) ({ cls := "WindowHouse", name := "var", desc := "(II)I" } : Jvm.MethodName)) : Cond) ∈ ax_G := tw_g (tw_c4 (List.mem_of_getElem? (i := 68) rfl)) rfl
def mX9_can : AM := (yX9_can, cX9_can, 3, some .int)
theorem co_X9_can : ((Jvm.Cond.code ({ cls := "WindowHouse", name := "can", desc := "(II)I" } : Jvm.MethodName) prog_1_method_11_code (3 : Nat) (Option.some Jvm.ClassFile.FieldType.int)) : Cond) ∈ ax_G := tw_g (tw_c4 (List.mem_of_getElem? (i := 74) rfl)) rfl
theorem cb_X9_can : ax_CB mX9_can 2 := ⟨co_X9_can, ini_X9, by decide, by decide, by decide +kernel⟩
theorem im_X9_can : ((Jvm.Cond.instanceMethod ({ cls := "WindowHouse", name := "can", desc := "(II)I" } : Jvm.MethodName)) : Cond) ∈ ax_G := tw_g (tw_c4 (List.mem_of_getElem? (i := 72) rfl)) rfl
theorem se_X9_can : ((Jvm.Cond.selects "WindowHouse" ({ cls := "WindowHouse", name := "can", desc := "(II)I" } : Jvm.MethodName) ({ cls := "WindowHouse", name := "can", desc := "(II)I" } : Jvm.MethodName)) : Cond) ∈ ax_G := tw_g (tw_c4 (List.mem_of_getElem? (i := 73) rfl)) rfl
def mX9_begin : AM := (yX9_begin, cX9_begin, 2, some .boolean)
theorem co_X9_begin : ((Jvm.Cond.code ({ cls := "WindowHouse", name := "begin", desc := "(I)Z" } : Jvm.MethodName) prog_1_method_12_code (2 : Nat) (Option.some Jvm.ClassFile.FieldType.boolean)) : Cond) ∈ ax_G := tw_g (tw_c4 (List.mem_of_getElem? (i := 78) rfl)) rfl
theorem cb_X9_begin : ax_CB mX9_begin 1 := ⟨co_X9_begin, ini_X9, by decide, by decide, by decide +kernel⟩
theorem im_X9_begin : ((Jvm.Cond.instanceMethod ({ cls := "WindowHouse", name := "begin", desc := "(I)Z" } : Jvm.MethodName)) : Cond) ∈ ax_G := tw_g (tw_c4 (List.mem_of_getElem? (i := 76) rfl)) rfl
theorem se_X9_begin : ((Jvm.Cond.selects "WindowHouse" ({ cls := "WindowHouse", name := "begin", desc := "(I)Z" } : Jvm.MethodName) ({ cls := "WindowHouse", name := "begin", desc := "(I)Z" } : Jvm.MethodName)) : Cond) ∈ ax_G := tw_g (tw_c4 (List.mem_of_getElem? (i := 77) rfl)) rfl
def mX9_map : AM := (yX9_map, cX9_map, 2, some .int)
theorem co_X9_map : ((Jvm.Cond.code ({ cls := "WindowHouse", name := "map", desc := "(I)I" } : Jvm.MethodName) prog_1_method_13_code (2 : Nat) (Option.some Jvm.ClassFile.FieldType.int)) : Cond) ∈ ax_G := tw_g (tw_c4 (List.mem_of_getElem? (i := 82) rfl)) rfl
theorem cb_X9_map : ax_CB mX9_map 1 := ⟨co_X9_map, ini_X9, by decide, by decide, by decide +kernel⟩
theorem im_X9_map : ((Jvm.Cond.instanceMethod ({ cls := "WindowHouse", name := "map", desc := "(I)I" } : Jvm.MethodName)) : Cond) ∈ ax_G := tw_g (tw_c4 (List.mem_of_getElem? (i := 80) rfl)) rfl
theorem se_X9_map : ((Jvm.Cond.selects "WindowHouse" ({ cls := "WindowHouse", name := "map", desc := "(I)I" } : Jvm.MethodName) ({ cls := "WindowHouse", name := "map", desc := "(I)I" } : Jvm.MethodName)) : Cond) ∈ ax_G := tw_g (tw_c4 (List.mem_of_getElem? (i := 81) rfl)) rfl
def mX9_met : AM := (yX9_met, cX9_met, 5, some .int)
theorem co_X9_met : ((Jvm.Cond.code ({ cls := "WindowHouse", name := "met", desc := "(II)I" } : Jvm.MethodName) prog_1_method_14_code (5 : Nat) (Option.some Jvm.ClassFile.FieldType.int)) : Cond) ∈ ax_G := tw_g (tw_c4 (List.mem_of_getElem? (i := 123) rfl)) rfl
theorem cb_X9_met : ax_CB mX9_met 2 := ⟨co_X9_met, ini_X9, by decide, by decide, by decide +kernel⟩
theorem im_X9_met : ((Jvm.Cond.instanceMethod ({ cls := "WindowHouse", name := "met", desc := "(II)I" } : Jvm.MethodName)) : Cond) ∈ ax_G := tw_g (tw_c4 (List.mem_of_getElem? (i := 121) rfl)) rfl
theorem se_X9_met : ((Jvm.Cond.selects "WindowHouse" ({ cls := "WindowHouse", name := "met", desc := "(II)I" } : Jvm.MethodName) ({ cls := "WindowHouse", name := "met", desc := "(II)I" } : Jvm.MethodName)) : Cond) ∈ ax_G := tw_g (tw_c4 (List.mem_of_getElem? (i := 122) rfl)) rfl
def mX9_leads : AM := (yX9_leads, cX9_leads, 3, some .int)
theorem co_X9_leads : ((Jvm.Cond.code ({ cls := "WindowHouse", name := "leads", desc := "(II)I" } : Jvm.MethodName) prog_1_method_15_code (3 : Nat) (Option.some Jvm.ClassFile.FieldType.int)) : Cond) ∈ ax_G := tw_g (tw_c4 (List.mem_of_getElem? (i := 164) rfl)) rfl
theorem cb_X9_leads : ax_CB mX9_leads 2 := ⟨co_X9_leads, ini_X9, by decide, by decide, by decide +kernel⟩
theorem im_X9_leads : ((Jvm.Cond.instanceMethod ({ cls := "WindowHouse", name := "leads", desc := "(II)I" } : Jvm.MethodName)) : Cond) ∈ ax_G := tw_g (tw_c4 (List.mem_of_getElem? (i := 162) rfl)) rfl
theorem se_X9_leads : ((Jvm.Cond.selects "WindowHouse" ({ cls := "WindowHouse", name := "leads", desc := "(II)I" } : Jvm.MethodName) ({ cls := "WindowHouse", name := "leads", desc := "(II)I" } : Jvm.MethodName)) : Cond) ∈ ax_G := tw_g (tw_c4 (List.mem_of_getElem? (i := 163) rfl)) rfl
def mX9_rowTo : AM := (yX9_rowTo, cX9_rowTo, 2, some .int)
theorem co_X9_rowTo : ((Jvm.Cond.code ({ cls := "WindowHouse", name := "rowTo", desc := "(I)I" } : Jvm.MethodName) prog_1_method_16_code (2 : Nat) (Option.some Jvm.ClassFile.FieldType.int)) : Cond) ∈ ax_G := tw_g (tw_c4 (List.mem_of_getElem? (i := 168) rfl)) rfl
theorem cb_X9_rowTo : ax_CB mX9_rowTo 1 := ⟨co_X9_rowTo, ini_X9, by decide, by decide, by decide +kernel⟩
theorem im_X9_rowTo : ((Jvm.Cond.instanceMethod ({ cls := "WindowHouse", name := "rowTo", desc := "(I)I" } : Jvm.MethodName)) : Cond) ∈ ax_G := tw_g (tw_c4 (List.mem_of_getElem? (i := 166) rfl)) rfl
theorem se_X9_rowTo : ((Jvm.Cond.selects "WindowHouse" ({ cls := "WindowHouse", name := "rowTo", desc := "(I)I" } : Jvm.MethodName) ({ cls := "WindowHouse", name := "rowTo", desc := "(I)I" } : Jvm.MethodName)) : Cond) ∈ ax_G := tw_g (tw_c4 (List.mem_of_getElem? (i := 167) rfl)) rfl
def mX9_faultAt : AM := (yX9_faultAt, cX9_faultAt, 2, some .int)
theorem co_X9_faultAt : ((Jvm.Cond.code ({ cls := "WindowHouse", name := "faultAt", desc := "(I)I" } : Jvm.MethodName) prog_1_method_17_code (2 : Nat) (Option.some Jvm.ClassFile.FieldType.int)) : Cond) ∈ ax_G := tw_g (tw_c4 (List.mem_of_getElem? (i := 177) rfl)) rfl
theorem cb_X9_faultAt : ax_CB mX9_faultAt 1 := ⟨co_X9_faultAt, ini_X9, by decide, by decide, by decide +kernel⟩
theorem im_X9_faultAt : ((Jvm.Cond.instanceMethod ({ cls := "WindowHouse", name := "faultAt", desc := "(I)I" } : Jvm.MethodName)) : Cond) ∈ ax_G := tw_g (tw_c4 (List.mem_of_getElem? (i := 175) rfl)) rfl
theorem se_X9_faultAt : ((Jvm.Cond.selects "WindowHouse" ({ cls := "WindowHouse", name := "faultAt", desc := "(I)I" } : Jvm.MethodName) ({ cls := "WindowHouse", name := "faultAt", desc := "(I)I" } : Jvm.MethodName)) : Cond) ∈ ax_G := tw_g (tw_c4 (List.mem_of_getElem? (i := 176) rfl)) rfl
def mX9_pressedAt : AM := (yX9_pressedAt, cX9_pressedAt, 2, some .int)
theorem co_X9_pressedAt : ((Jvm.Cond.code ({ cls := "WindowHouse", name := "pressedAt", desc := "(I)I" } : Jvm.MethodName) prog_1_method_18_code (2 : Nat) (Option.some Jvm.ClassFile.FieldType.int)) : Cond) ∈ ax_G := tw_g (tw_c4 (List.mem_of_getElem? (i := 186) rfl)) rfl
theorem cb_X9_pressedAt : ax_CB mX9_pressedAt 1 := ⟨co_X9_pressedAt, ini_X9, by decide, by decide, by decide +kernel⟩
theorem im_X9_pressedAt : ((Jvm.Cond.instanceMethod ({ cls := "WindowHouse", name := "pressedAt", desc := "(I)I" } : Jvm.MethodName)) : Cond) ∈ ax_G := tw_g (tw_c4 (List.mem_of_getElem? (i := 184) rfl)) rfl
theorem se_X9_pressedAt : ((Jvm.Cond.selects "WindowHouse" ({ cls := "WindowHouse", name := "pressedAt", desc := "(I)I" } : Jvm.MethodName) ({ cls := "WindowHouse", name := "pressedAt", desc := "(I)I" } : Jvm.MethodName)) : Cond) ∈ ax_G := tw_g (tw_c4 (List.mem_of_getElem? (i := 185) rfl)) rfl
def mX9_never : AM := (yX9_never, cX9_never, 1, some .int)
theorem co_X9_never : ((Jvm.Cond.code ({ cls := "WindowHouse", name := "never", desc := "()I" } : Jvm.MethodName) prog_1_method_19_code (1 : Nat) (Option.some Jvm.ClassFile.FieldType.int)) : Cond) ∈ ax_G := tw_g (tw_c4 (List.mem_of_getElem? (i := 194) rfl)) rfl
theorem cb_X9_never : ax_CB mX9_never 0 := ⟨co_X9_never, ini_X9, by decide, by decide, by decide +kernel⟩
theorem im_X9_never : ((Jvm.Cond.instanceMethod ({ cls := "WindowHouse", name := "never", desc := "()I" } : Jvm.MethodName)) : Cond) ∈ ax_G := tw_g (tw_c4 (List.mem_of_getElem? (i := 192) rfl)) rfl
theorem se_X9_never : ((Jvm.Cond.selects "WindowHouse" ({ cls := "WindowHouse", name := "never", desc := "()I" } : Jvm.MethodName) ({ cls := "WindowHouse", name := "never", desc := "()I" } : Jvm.MethodName)) : Cond) ∈ ax_G := tw_g (tw_c4 (List.mem_of_getElem? (i := 193) rfl)) rfl
def mX9_holdsAt : AM := (yX9_holdsAt, cX9_holdsAt, 3, some .int)
theorem co_X9_holdsAt : ((Jvm.Cond.code ({ cls := "WindowHouse", name := "holdsAt", desc := "(II)I" } : Jvm.MethodName) prog_1_method_20_code (3 : Nat) (Option.some Jvm.ClassFile.FieldType.int)) : Cond) ∈ ax_G := tw_g (tw_c4 (List.mem_of_getElem? (i := 203) rfl)) rfl
theorem cb_X9_holdsAt : ax_CB mX9_holdsAt 2 := ⟨co_X9_holdsAt, ini_X9, by decide, by decide, by decide +kernel⟩
theorem im_X9_holdsAt : ((Jvm.Cond.instanceMethod ({ cls := "WindowHouse", name := "holdsAt", desc := "(II)I" } : Jvm.MethodName)) : Cond) ∈ ax_G := tw_g (tw_c4 (List.mem_of_getElem? (i := 201) rfl)) rfl
theorem se_X9_holdsAt : ((Jvm.Cond.selects "WindowHouse" ({ cls := "WindowHouse", name := "holdsAt", desc := "(II)I" } : Jvm.MethodName) ({ cls := "WindowHouse", name := "holdsAt", desc := "(II)I" } : Jvm.MethodName)) : Cond) ∈ ax_G := tw_g (tw_c4 (List.mem_of_getElem? (i := 202) rfl)) rfl
def mX9_stuck : AM := (yX9_stuck, cX9_stuck, 2, some .int)
theorem co_X9_stuck : ((Jvm.Cond.code ({ cls := "WindowHouse", name := "stuck", desc := "(I)I" } : Jvm.MethodName) prog_1_method_21_code (2 : Nat) (Option.some Jvm.ClassFile.FieldType.int)) : Cond) ∈ ax_G := tw_g (tw_c4 (List.mem_of_getElem? (i := 212) rfl)) rfl
theorem cb_X9_stuck : ax_CB mX9_stuck 1 := ⟨co_X9_stuck, ini_X9, by decide, by decide, by decide +kernel⟩
theorem im_X9_stuck : ((Jvm.Cond.instanceMethod ({ cls := "WindowHouse", name := "stuck", desc := "(I)I" } : Jvm.MethodName)) : Cond) ∈ ax_G := tw_g (tw_c4 (List.mem_of_getElem? (i := 210) rfl)) rfl
theorem se_X9_stuck : ((Jvm.Cond.selects "WindowHouse" ({ cls := "WindowHouse", name := "stuck", desc := "(I)I" } : Jvm.MethodName) ({ cls := "WindowHouse", name := "stuck", desc := "(I)I" } : Jvm.MethodName)) : Cond) ∈ ax_G := tw_g (tw_c4 (List.mem_of_getElem? (i := 211) rfl)) rfl
def mX9_least : AM := (yX9_least, cX9_least, 1, some .int)
theorem co_X9_least : ((Jvm.Cond.code ({ cls := "WindowHouse", name := "least", desc := "()I" } : Jvm.MethodName) prog_1_method_22_code (1 : Nat) (Option.some Jvm.ClassFile.FieldType.int)) : Cond) ∈ ax_G := tw_g (tw_c4 (List.mem_of_getElem? (i := 229) rfl)) rfl
theorem cb_X9_least : ax_CB mX9_least 0 := ⟨co_X9_least, ini_X9, by decide, by decide, by decide +kernel⟩
theorem im_X9_least : ((Jvm.Cond.instanceMethod ({ cls := "WindowHouse", name := "least", desc := "()I" } : Jvm.MethodName)) : Cond) ∈ ax_G := tw_g (tw_c4 (List.mem_of_getElem? (i := 227) rfl)) rfl
theorem se_X9_least : ((Jvm.Cond.selects "WindowHouse" ({ cls := "WindowHouse", name := "least", desc := "()I" } : Jvm.MethodName) ({ cls := "WindowHouse", name := "least", desc := "()I" } : Jvm.MethodName)) : Cond) ∈ ax_G := tw_g (tw_c4 (List.mem_of_getElem? (i := 228) rfl)) rfl
def mX9_views : AM := (yX9_views, cX9_views, 1, some .int)
theorem co_X9_views : ((Jvm.Cond.code ({ cls := "WindowHouse", name := "views", desc := "()I" } : Jvm.MethodName) prog_1_method_23_code (1 : Nat) (Option.some Jvm.ClassFile.FieldType.int)) : Cond) ∈ ax_G := tw_g (tw_c4 (List.mem_of_getElem? (i := 234) rfl)) rfl
theorem cb_X9_views : ax_CB mX9_views 0 := ⟨co_X9_views, ini_X9, by decide, by decide, by decide +kernel⟩
theorem im_X9_views : ((Jvm.Cond.instanceMethod ({ cls := "WindowHouse", name := "views", desc := "()I" } : Jvm.MethodName)) : Cond) ∈ ax_G := tw_g (tw_c4 (List.mem_of_getElem? (i := 232) rfl)) rfl
theorem se_X9_views : ((Jvm.Cond.selects "WindowHouse" ({ cls := "WindowHouse", name := "views", desc := "()I" } : Jvm.MethodName) ({ cls := "WindowHouse", name := "views", desc := "()I" } : Jvm.MethodName)) : Cond) ∈ ax_G := tw_g (tw_c4 (List.mem_of_getElem? (i := 233) rfl)) rfl
def mX9_farthest : AM := (yX9_farthest, cX9_farthest, 1, some .int)
theorem co_X9_farthest : ((Jvm.Cond.code ({ cls := "WindowHouse", name := "farthest", desc := "()I" } : Jvm.MethodName) prog_1_method_24_code (1 : Nat) (Option.some Jvm.ClassFile.FieldType.int)) : Cond) ∈ ax_G := tw_g (tw_c5 (List.mem_of_getElem? (i := 2) rfl)) rfl
theorem cb_X9_farthest : ax_CB mX9_farthest 0 := ⟨co_X9_farthest, ini_X9, by decide, by decide, by decide +kernel⟩
theorem im_X9_farthest : ((Jvm.Cond.instanceMethod ({ cls := "WindowHouse", name := "farthest", desc := "()I" } : Jvm.MethodName)) : Cond) ∈ ax_G := tw_g (tw_c5 (List.mem_of_getElem? (i := 0) rfl)) rfl
theorem se_X9_farthest : ((Jvm.Cond.selects "WindowHouse" ({ cls := "WindowHouse", name := "farthest", desc := "()I" } : Jvm.MethodName) ({ cls := "WindowHouse", name := "farthest", desc := "()I" } : Jvm.MethodName)) : Cond) ∈ ax_G := tw_g (tw_c5 (List.mem_of_getElem? (i := 1) rfl)) rfl
def mX9_ways : AM := (yX9_ways, cX9_ways, 1, some .int)
theorem co_X9_ways : ((Jvm.Cond.code ({ cls := "WindowHouse", name := "ways", desc := "()I" } : Jvm.MethodName) prog_1_method_25_code (1 : Nat) (Option.some Jvm.ClassFile.FieldType.int)) : Cond) ∈ ax_G := tw_g (tw_c5 (List.mem_of_getElem? (i := 13) rfl)) rfl
theorem cb_X9_ways : ax_CB mX9_ways 0 := ⟨co_X9_ways, ini_X9, by decide, by decide, by decide +kernel⟩
theorem im_X9_ways : ((Jvm.Cond.instanceMethod ({ cls := "WindowHouse", name := "ways", desc := "()I" } : Jvm.MethodName)) : Cond) ∈ ax_G := tw_g (tw_c5 (List.mem_of_getElem? (i := 11) rfl)) rfl
theorem se_X9_ways : ((Jvm.Cond.selects "WindowHouse" ({ cls := "WindowHouse", name := "ways", desc := "()I" } : Jvm.MethodName) ({ cls := "WindowHouse", name := "ways", desc := "()I" } : Jvm.MethodName)) : Cond) ∈ ax_G := tw_g (tw_c5 (List.mem_of_getElem? (i := 12) rfl)) rfl
def mX9_push : AM := (yX9_push, cX9_push, 2, some .int)
theorem co_X9_push : ((Jvm.Cond.code ({ cls := "WindowHouse", name := "push", desc := "(I)I" } : Jvm.MethodName) prog_1_method_26_code (2 : Nat) (Option.some Jvm.ClassFile.FieldType.int)) : Cond) ∈ ax_G := tw_g (tw_c5 (List.mem_of_getElem? (i := 22) rfl)) rfl
theorem cb_X9_push : ax_CB mX9_push 1 := ⟨co_X9_push, ini_X9, by decide, by decide, by decide +kernel⟩
theorem im_X9_push : ((Jvm.Cond.instanceMethod ({ cls := "WindowHouse", name := "push", desc := "(I)I" } : Jvm.MethodName)) : Cond) ∈ ax_G := tw_g (tw_c5 (List.mem_of_getElem? (i := 20) rfl)) rfl
theorem se_X9_push : ((Jvm.Cond.selects "WindowHouse" ({ cls := "WindowHouse", name := "push", desc := "(I)I" } : Jvm.MethodName) ({ cls := "WindowHouse", name := "push", desc := "(I)I" } : Jvm.MethodName)) : Cond) ∈ ax_G := tw_g (tw_c5 (List.mem_of_getElem? (i := 21) rfl)) rfl
def mX9_cut : AM := (yX9_cut, cX9_cut, 2, some .boolean)
theorem co_X9_cut : ((Jvm.Cond.code ({ cls := "WindowHouse", name := "cut", desc := "(I)Z" } : Jvm.MethodName) prog_1_method_27_code (2 : Nat) (Option.some Jvm.ClassFile.FieldType.boolean)) : Cond) ∈ ax_G := tw_g (tw_c5 (List.mem_of_getElem? (i := 26) rfl)) rfl
theorem cb_X9_cut : ax_CB mX9_cut 1 := ⟨co_X9_cut, ini_X9, by decide, by decide, by decide +kernel⟩
theorem im_X9_cut : ((Jvm.Cond.instanceMethod ({ cls := "WindowHouse", name := "cut", desc := "(I)Z" } : Jvm.MethodName)) : Cond) ∈ ax_G := tw_g (tw_c5 (List.mem_of_getElem? (i := 24) rfl)) rfl
theorem se_X9_cut : ((Jvm.Cond.selects "WindowHouse" ({ cls := "WindowHouse", name := "cut", desc := "(I)Z" } : Jvm.MethodName) ({ cls := "WindowHouse", name := "cut", desc := "(I)Z" } : Jvm.MethodName)) : Cond) ∈ ax_G := tw_g (tw_c5 (List.mem_of_getElem? (i := 25) rfl)) rfl
def mX9_tryRow : AM := (yX9_tryRow, cX9_tryRow, 2, some .int)
theorem co_X9_tryRow : ((Jvm.Cond.code ({ cls := "WindowHouse", name := "tryRow", desc := "(I)I" } : Jvm.MethodName) prog_1_method_28_code (2 : Nat) (Option.some Jvm.ClassFile.FieldType.int)) : Cond) ∈ ax_G := tw_g (tw_c5 (List.mem_of_getElem? (i := 30) rfl)) rfl
theorem cb_X9_tryRow : ax_CB mX9_tryRow 1 := ⟨co_X9_tryRow, ini_X9, by decide, by decide, by decide +kernel⟩
theorem im_X9_tryRow : ((Jvm.Cond.instanceMethod ({ cls := "WindowHouse", name := "tryRow", desc := "(I)I" } : Jvm.MethodName)) : Cond) ∈ ax_G := tw_g (tw_c5 (List.mem_of_getElem? (i := 28) rfl)) rfl
theorem se_X9_tryRow : ((Jvm.Cond.selects "WindowHouse" ({ cls := "WindowHouse", name := "tryRow", desc := "(I)I" } : Jvm.MethodName) ({ cls := "WindowHouse", name := "tryRow", desc := "(I)I" } : Jvm.MethodName)) : Cond) ∈ ax_G := tw_g (tw_c5 (List.mem_of_getElem? (i := 29) rfl)) rfl
def mX9_tried : AM := (yX9_tried, cX9_tried, 1, some .int)
theorem co_X9_tried : ((Jvm.Cond.code ({ cls := "WindowHouse", name := "tried", desc := "()I" } : Jvm.MethodName) prog_1_method_29_code (1 : Nat) (Option.some Jvm.ClassFile.FieldType.int)) : Cond) ∈ ax_G := tw_g (tw_c5 (List.mem_of_getElem? (i := 43) rfl)) rfl
theorem cb_X9_tried : ax_CB mX9_tried 0 := ⟨co_X9_tried, ini_X9, by decide, by decide, by decide +kernel⟩
theorem im_X9_tried : ((Jvm.Cond.instanceMethod ({ cls := "WindowHouse", name := "tried", desc := "()I" } : Jvm.MethodName)) : Cond) ∈ ax_G := tw_g (tw_c5 (List.mem_of_getElem? (i := 41) rfl)) rfl
theorem se_X9_tried : ((Jvm.Cond.selects "WindowHouse" ({ cls := "WindowHouse", name := "tried", desc := "()I" } : Jvm.MethodName) ({ cls := "WindowHouse", name := "tried", desc := "()I" } : Jvm.MethodName)) : Cond) ∈ ax_G := tw_g (tw_c5 (List.mem_of_getElem? (i := 42) rfl)) rfl
def mX9_shorter : AM := (yX9_shorter, cX9_shorter, 8, some .int)
theorem co_X9_shorter : ((Jvm.Cond.code ({ cls := "WindowHouse", name := "shorter", desc := "(I)I" } : Jvm.MethodName) prog_1_method_30_code (8 : Nat) (Option.some Jvm.ClassFile.FieldType.int)) : Cond) ∈ ax_G := tw_g (tw_c5 (List.mem_of_getElem? (i := 47) rfl)) rfl
theorem cb_X9_shorter : ax_CB mX9_shorter 1 := ⟨co_X9_shorter, ini_X9, by decide, by decide, by decide +kernel⟩
theorem im_X9_shorter : ((Jvm.Cond.instanceMethod ({ cls := "WindowHouse", name := "shorter", desc := "(I)I" } : Jvm.MethodName)) : Cond) ∈ ax_G := tw_g (tw_c5 (List.mem_of_getElem? (i := 45) rfl)) rfl
theorem se_X9_shorter : ((Jvm.Cond.selects "WindowHouse" ({ cls := "WindowHouse", name := "shorter", desc := "(I)I" } : Jvm.MethodName) ({ cls := "WindowHouse", name := "shorter", desc := "(I)I" } : Jvm.MethodName)) : Cond) ∈ ax_G := tw_g (tw_c5 (List.mem_of_getElem? (i := 46) rfl)) rfl
def mX9_row : AM := (yX9_row, cX9_row, 2, some .int)
theorem co_X9_row : ((Jvm.Cond.code ({ cls := "WindowHouse", name := "row", desc := "(I)I" } : Jvm.MethodName) prog_1_method_31_code (2 : Nat) (Option.some Jvm.ClassFile.FieldType.int)) : Cond) ∈ ax_G := tw_g (tw_c5 (List.mem_of_getElem? (i := 124) rfl)) rfl
theorem cb_X9_row : ax_CB mX9_row 1 := ⟨co_X9_row, ini_X9, by decide, by decide, by decide +kernel⟩
theorem im_X9_row : ((Jvm.Cond.instanceMethod ({ cls := "WindowHouse", name := "row", desc := "(I)I" } : Jvm.MethodName)) : Cond) ∈ ax_G := tw_g (tw_c5 (List.mem_of_getElem? (i := 122) rfl)) rfl
theorem se_X9_row : ((Jvm.Cond.selects "WindowHouse" ({ cls := "WindowHouse", name := "row", desc := "(I)I" } : Jvm.MethodName) ({ cls := "WindowHouse", name := "row", desc := "(I)I" } : Jvm.MethodName)) : Cond) ∈ ax_G := tw_g (tw_c5 (List.mem_of_getElem? (i := 123) rfl)) rfl
def mX9_apart : AM := (yX9_apart, cX9_apart, 1, some .int)
theorem co_X9_apart : ((Jvm.Cond.code ({ cls := "WindowHouse", name := "apart", desc := "()I" } : Jvm.MethodName) prog_1_method_32_code (1 : Nat) (Option.some Jvm.ClassFile.FieldType.int)) : Cond) ∈ ax_G := tw_g (tw_c5 (List.mem_of_getElem? (i := 59) rfl)) rfl
theorem cb_X9_apart : ax_CB mX9_apart 0 := ⟨co_X9_apart, ini_X9, by decide, by decide, by decide +kernel⟩
theorem im_X9_apart : ((Jvm.Cond.instanceMethod ({ cls := "WindowHouse", name := "apart", desc := "()I" } : Jvm.MethodName)) : Cond) ∈ ax_G := tw_g (tw_c5 (List.mem_of_getElem? (i := 57) rfl)) rfl
theorem se_X9_apart : ((Jvm.Cond.selects "WindowHouse" ({ cls := "WindowHouse", name := "apart", desc := "()I" } : Jvm.MethodName) ({ cls := "WindowHouse", name := "apart", desc := "()I" } : Jvm.MethodName)) : Cond) ∈ ax_G := tw_g (tw_c5 (List.mem_of_getElem? (i := 58) rfl)) rfl
def mX9_count : AM := (yX9_count, cX9_count, 2, some .int)
theorem co_X9_count : ((Jvm.Cond.code ({ cls := "WindowHouse", name := "count", desc := "(I)I" } : Jvm.MethodName) prog_1_method_33_code (2 : Nat) (Option.some Jvm.ClassFile.FieldType.int)) : Cond) ∈ ax_G := tw_g (tw_c5 (List.mem_of_getElem? (i := 112) rfl)) rfl
theorem cb_X9_count : ax_CB mX9_count 1 := ⟨co_X9_count, ini_X9, by decide, by decide, by decide +kernel⟩
theorem im_X9_count : ((Jvm.Cond.instanceMethod ({ cls := "WindowHouse", name := "count", desc := "(I)I" } : Jvm.MethodName)) : Cond) ∈ ax_G := tw_g (tw_c5 (List.mem_of_getElem? (i := 110) rfl)) rfl
theorem se_X9_count : ((Jvm.Cond.selects "WindowHouse" ({ cls := "WindowHouse", name := "count", desc := "(I)I" } : Jvm.MethodName) ({ cls := "WindowHouse", name := "count", desc := "(I)I" } : Jvm.MethodName)) : Cond) ∈ ax_G := tw_g (tw_c5 (List.mem_of_getElem? (i := 111) rfl)) rfl
def mX9_trouble : AM := (yX9_trouble, cX9_trouble, 1, some .int)
theorem co_X9_trouble : ((Jvm.Cond.code ({ cls := "WindowHouse", name := "trouble", desc := "()I" } : Jvm.MethodName) prog_1_method_34_code (1 : Nat) (Option.some Jvm.ClassFile.FieldType.int)) : Cond) ∈ ax_G := tw_g (tw_c5 (List.mem_of_getElem? (i := 116) rfl)) rfl
theorem cb_X9_trouble : ax_CB mX9_trouble 0 := ⟨co_X9_trouble, ini_X9, by decide, by decide, by decide +kernel⟩
theorem im_X9_trouble : ((Jvm.Cond.instanceMethod ({ cls := "WindowHouse", name := "trouble", desc := "()I" } : Jvm.MethodName)) : Cond) ∈ ax_G := tw_g (tw_c5 (List.mem_of_getElem? (i := 114) rfl)) rfl
theorem se_X9_trouble : ((Jvm.Cond.selects "WindowHouse" ({ cls := "WindowHouse", name := "trouble", desc := "()I" } : Jvm.MethodName) ({ cls := "WindowHouse", name := "trouble", desc := "()I" } : Jvm.MethodName)) : Cond) ∈ ax_G := tw_g (tw_c5 (List.mem_of_getElem? (i := 115) rfl)) rfl
def mX9_has : AM := (yX9_has, cX9_has, 2, some .boolean)
theorem co_X9_has : ((Jvm.Cond.code ({ cls := "WindowHouse", name := "has", desc := "(I)Z" } : Jvm.MethodName) prog_1_method_35_code (2 : Nat) (Option.some Jvm.ClassFile.FieldType.boolean)) : Cond) ∈ ax_G := tw_g (tw_c3 (List.mem_of_getElem? (i := 235) rfl)) rfl
theorem cb_X9_has : ax_CB mX9_has 1 := ⟨co_X9_has, ini_X9, by decide, by decide, by decide +kernel⟩
theorem im_X9_has : ((Jvm.Cond.instanceMethod ({ cls := "WindowHouse", name := "has", desc := "(I)Z" } : Jvm.MethodName)) : Cond) ∈ ax_G := tw_g (tw_c3 (List.mem_of_getElem? (i := 234) rfl)) rfl
theorem se_X9_has : Cond.selects yX9_has.cls yX9_has yX9_has ∈ ax_G := tw_g (List.mem_of_getElem? (i := 47) rfl) rfl
def mX9_refused : AM := (yX9_refused, cX9_refused, 2, some .int)
theorem co_X9_refused : ((Jvm.Cond.code ({ cls := "WindowHouse", name := "refused", desc := "(I)I" } : Jvm.MethodName) prog_1_method_36_code (2 : Nat) (Option.some Jvm.ClassFile.FieldType.int)) : Cond) ∈ ax_G := tw_g (tw_c2 (List.mem_of_getElem? (i := 181) rfl)) rfl
theorem cb_X9_refused : ax_CB mX9_refused 1 := ⟨co_X9_refused, ini_X9, by decide, by decide, by decide +kernel⟩
theorem im_X9_refused : ((Jvm.Cond.instanceMethod ({ cls := "WindowHouse", name := "refused", desc := "(I)I" } : Jvm.MethodName)) : Cond) ∈ ax_G := tw_g (tw_c2 (List.mem_of_getElem? (i := 180) rfl)) rfl
theorem se_X9_refused : Cond.selects yX9_refused.cls yX9_refused yX9_refused ∈ ax_G := tw_g (List.mem_of_getElem? (i := 1) rfl) rfl
def mX9_granted : AM := (yX9_granted, cX9_granted, 2, some .int)
theorem co_X9_granted : ((Jvm.Cond.code ({ cls := "WindowHouse", name := "granted", desc := "(I)I" } : Jvm.MethodName) prog_1_method_37_code (2 : Nat) (Option.some Jvm.ClassFile.FieldType.int)) : Cond) ∈ ax_G := tw_g (tw_c3 (List.mem_of_getElem? (i := 218) rfl)) rfl
theorem cb_X9_granted : ax_CB mX9_granted 1 := ⟨co_X9_granted, ini_X9, by decide, by decide, by decide +kernel⟩
theorem im_X9_granted : ((Jvm.Cond.instanceMethod ({ cls := "WindowHouse", name := "granted", desc := "(I)I" } : Jvm.MethodName)) : Cond) ∈ ax_G := tw_g (tw_c3 (List.mem_of_getElem? (i := 217) rfl)) rfl
theorem se_X9_granted : Cond.selects yX9_granted.cls yX9_granted yX9_granted ∈ ax_G := tw_g (List.mem_of_getElem? (i := 46) rfl) rfl
def mX9_wind : AM := (yX9_wind, cX9_wind, 3, none)
theorem co_X9_wind : ((Jvm.Cond.code ({ cls := "WindowHouse", name := "wind", desc := "(I)V" } : Jvm.MethodName) prog_1_method_38_code (3 : Nat) (Option.none : Option Jvm.ClassFile.FieldType)) : Cond) ∈ ax_G := tw_g (tw_c2 (List.mem_of_getElem? (i := 173) rfl)) rfl
theorem cb_X9_wind : ax_CB mX9_wind 1 := ⟨co_X9_wind, ini_X9, by decide, by decide, by decide +kernel⟩
theorem im_X9_wind : ((Jvm.Cond.instanceMethod ({ cls := "WindowHouse", name := "wind", desc := "(I)V" } : Jvm.MethodName)) : Cond) ∈ ax_G := tw_g (tw_c2 (List.mem_of_getElem? (i := 172) rfl)) rfl
theorem se_X9_wind : Cond.selects yX9_wind.cls yX9_wind yX9_wind ∈ ax_G := tw_g (List.mem_of_getElem? (i := 0) rfl) rfl
def mX9_actsToFault : AM := (yX9_actsToFault, cX9_actsToFault, 3, some .int)
theorem co_X9_actsToFault : ((Jvm.Cond.code ({ cls := "WindowHouse", name := "actsToFault", desc := "(LWindowHouse$App;)I" } : Jvm.MethodName) prog_1_method_39_code (3 : Nat) (Option.some Jvm.ClassFile.FieldType.int)) : Cond) ∈ ax_G := tw_g (tw_c5 (List.mem_of_getElem? (i := 34) rfl)) rfl
theorem cb_X9_actsToFault : ax_CB mX9_actsToFault 1 := ⟨co_X9_actsToFault, ini_X9, by decide, by decide, by decide +kernel⟩
theorem im_X9_actsToFault : ((Jvm.Cond.instanceMethod ({ cls := "WindowHouse", name := "actsToFault", desc := "(LWindowHouse$App;)I" } : Jvm.MethodName)) : Cond) ∈ ax_G := tw_g (tw_c5 (List.mem_of_getElem? (i := 33) rfl)) rfl
theorem se_X9_actsToFault : Cond.selects yX9_actsToFault.cls yX9_actsToFault yX9_actsToFault ∈ ax_G := tw_g (List.mem_of_getElem? (i := 80) rfl) rfl
def mX9_comesWithout : AM := (yX9_comesWithout, cX9_comesWithout, 7, some .boolean)
theorem co_X9_comesWithout : ((Jvm.Cond.code ({ cls := "WindowHouse", name := "comesWithout", desc := "(LWindowHouse$App;II)Z" } : Jvm.MethodName) prog_1_method_40_code (7 : Nat) (Option.some Jvm.ClassFile.FieldType.boolean)) : Cond) ∈ ax_G := tw_g (tw_c5 (List.mem_of_getElem? (i := 51) rfl)) rfl
theorem cb_X9_comesWithout : ax_CB mX9_comesWithout 3 := ⟨co_X9_comesWithout, ini_X9, by decide, by decide, by decide +kernel⟩
theorem im_X9_comesWithout : ((Jvm.Cond.instanceMethod ({ cls := "WindowHouse", name := "comesWithout", desc := "(LWindowHouse$App;II)Z" } : Jvm.MethodName)) : Cond) ∈ ax_G := tw_g (tw_c5 (List.mem_of_getElem? (i := 50) rfl)) rfl
theorem se_X9_comesWithout : Cond.selects yX9_comesWithout.cls yX9_comesWithout yX9_comesWithout ∈ ax_G := tw_g (List.mem_of_getElem? (i := 82) rfl) rfl
def mX9_leaveOut : AM := (yX9_leaveOut, cX9_leaveOut, 4, none)
theorem co_X9_leaveOut : ((Jvm.Cond.code ({ cls := "WindowHouse", name := "leaveOut", desc := "(LWindowHouse$App;I)V" } : Jvm.MethodName) prog_1_method_41_code (4 : Nat) (Option.none : Option Jvm.ClassFile.FieldType)) : Cond) ∈ ax_G := tw_g (tw_c5 (List.mem_of_getElem? (i := 55) rfl)) rfl
theorem cb_X9_leaveOut : ax_CB mX9_leaveOut 2 := ⟨co_X9_leaveOut, ini_X9, by decide, by decide, by decide +kernel⟩
theorem im_X9_leaveOut : ((Jvm.Cond.instanceMethod ({ cls := "WindowHouse", name := "leaveOut", desc := "(LWindowHouse$App;I)V" } : Jvm.MethodName)) : Cond) ∈ ax_G := tw_g (tw_c5 (List.mem_of_getElem? (i := 54) rfl)) rfl
theorem se_X9_leaveOut : Cond.selects yX9_leaveOut.cls yX9_leaveOut yX9_leaveOut ∈ ax_G := tw_g (List.mem_of_getElem? (i := 83) rfl) rfl
theorem ini_X12 : ((Jvm.Cond.initialized "WindowHouseModel") : Cond) ∈ ax_G := tw_g (tw_c1 (List.mem_of_getElem? (i := 10) rfl)) rfl
def mX12_thrown : AM := (yX12_thrown, cX12_thrown, 1, some .int)
theorem co_X12_thrown : ((Jvm.Cond.code ({ cls := "WindowHouseModel", name := "thrown", desc := "()I" } : Jvm.MethodName) prog_12_method_1_code (1 : Nat) (Option.some Jvm.ClassFile.FieldType.int)) : Cond) ∈ ax_G := tw_g (tw_c5 (List.mem_of_getElem? (i := 191) rfl)) rfl
theorem cb_X12_thrown : ax_CB mX12_thrown 0 := ⟨co_X12_thrown, ini_X12, by decide, by decide, by decide +kernel⟩
theorem im_X12_thrown : ((Jvm.Cond.instanceMethod ({ cls := "WindowHouseModel", name := "thrown", desc := "()I" } : Jvm.MethodName)) : Cond) ∈ ax_G := tw_g (tw_c5 (List.mem_of_getElem? (i := 189) rfl)) rfl
theorem se_X12_thrown : ((Jvm.Cond.selects "WindowHouseModel" ({ cls := "WindowHouseModel", name := "thrown", desc := "()I" } : Jvm.MethodName) ({ cls := "WindowHouseModel", name := "thrown", desc := "()I" } : Jvm.MethodName)) : Cond) ∈ ax_G := tw_g (tw_c5 (List.mem_of_getElem? (i := 190) rfl)) rfl
def mX12_refused : AM := (yX12_refused, cX12_refused, 2, some .int)
theorem co_X12_refused : ((Jvm.Cond.code ({ cls := "WindowHouseModel", name := "refused", desc := "(I)I" } : Jvm.MethodName) prog_12_method_2_code (2 : Nat) (Option.some Jvm.ClassFile.FieldType.int)) : Cond) ∈ ax_G := tw_g (tw_c7 (List.mem_of_getElem? (i := 20) rfl)) rfl
theorem cb_X12_refused : ax_CB mX12_refused 1 := ⟨co_X12_refused, ini_X12, by decide, by decide, by decide +kernel⟩
theorem im_X12_refused : ((Jvm.Cond.instanceMethod ({ cls := "WindowHouseModel", name := "refused", desc := "(I)I" } : Jvm.MethodName)) : Cond) ∈ ax_G := tw_g (tw_c7 (List.mem_of_getElem? (i := 19) rfl)) rfl
theorem se_X12_refused : Cond.selects yX12_refused.cls yX12_refused yX12_refused ∈ ax_G := tw_g (List.mem_of_getElem? (i := 93) rfl) rfl
def mX12_done : AM := (yX12_done, cX12_done, 2, some .int)
theorem co_X12_done : ((Jvm.Cond.code ({ cls := "WindowHouseModel", name := "done", desc := "(I)I" } : Jvm.MethodName) prog_12_method_3_code (2 : Nat) (Option.some Jvm.ClassFile.FieldType.int)) : Cond) ∈ ax_G := tw_g (tw_c7 (List.mem_of_getElem? (i := 117) rfl)) rfl
theorem cb_X12_done : ax_CB mX12_done 1 := ⟨co_X12_done, ini_X12, by decide, by decide, by decide +kernel⟩
theorem im_X12_done : ((Jvm.Cond.instanceMethod ({ cls := "WindowHouseModel", name := "done", desc := "(I)I" } : Jvm.MethodName)) : Cond) ∈ ax_G := tw_g (tw_c7 (List.mem_of_getElem? (i := 116) rfl)) rfl
theorem se_X12_done : Cond.selects yX12_done.cls yX12_done yX12_done ∈ ax_G := tw_g (List.mem_of_getElem? (i := 110) rfl) rfl
def mX12_init : AM := (yX12_init, cX12_init, 1, none)
theorem co_X12_init : ((Jvm.Cond.code ({ cls := "WindowHouseModel", name := "<init>", desc := "()V" } : Jvm.MethodName) prog_12_method_4_code (1 : Nat) (Option.none : Option Jvm.ClassFile.FieldType)) : Cond) ∈ ax_G := tw_g (tw_c5 (List.mem_of_getElem? (i := 196) rfl)) rfl
theorem cb_X12_init : ax_CB mX12_init 0 := ⟨co_X12_init, ini_X12, by decide, by decide, by decide +kernel⟩
theorem im_X12_init : ((Jvm.Cond.instanceMethod ({ cls := "WindowHouseModel", name := "<init>", desc := "()V" } : Jvm.MethodName)) : Cond) ∈ ax_G := tw_g (tw_c5 (List.mem_of_getElem? (i := 195) rfl)) rfl
def mX12_isApp : AM := (yX12_isApp, cX12_isApp, 2, some .boolean)
theorem co_X12_isApp : ((Jvm.Cond.code ({ cls := "WindowHouseModel", name := "isApp", desc := "(I)Z" } : Jvm.MethodName) prog_12_method_5_code (2 : Nat) (Option.some Jvm.ClassFile.FieldType.boolean)) : Cond) ∈ ax_G := tw_g (tw_c7 (List.mem_of_getElem? (i := 133) rfl)) rfl
theorem cb_X12_isApp : ax_CB mX12_isApp 1 := ⟨co_X12_isApp, ini_X12, by decide, by decide, by decide +kernel⟩
theorem im_X12_isApp : ((Jvm.Cond.instanceMethod ({ cls := "WindowHouseModel", name := "isApp", desc := "(I)Z" } : Jvm.MethodName)) : Cond) ∈ ax_G := tw_g (tw_c7 (List.mem_of_getElem? (i := 132) rfl)) rfl
theorem se_X12_isApp : Cond.selects yX12_isApp.cls yX12_isApp yX12_isApp ∈ ax_G := tw_g (List.mem_of_getElem? (i := 111) rfl) rfl
def mX12_stop : AM := (yX12_stop, cX12_stop, 3, some (.object "WindowHouseModel$Stop"))
theorem co_X12_stop : ((Jvm.Cond.code ({ cls := "WindowHouseModel", name := "stop", desc := "(II)LWindowHouseModel$Stop;" } : Jvm.MethodName) prog_12_method_6_code (3 : Nat) (Option.some (Jvm.ClassFile.FieldType.object "WindowHouseModel$Stop"))) : Cond) ∈ ax_G := tw_g (tw_c7 (List.mem_of_getElem? (i := 54) rfl)) rfl
theorem cb_X12_stop : ax_CB mX12_stop 2 := ⟨co_X12_stop, ini_X12, by decide, by decide, by decide +kernel⟩
theorem im_X12_stop : ((Jvm.Cond.instanceMethod ({ cls := "WindowHouseModel", name := "stop", desc := "(II)LWindowHouseModel$Stop;" } : Jvm.MethodName)) : Cond) ∈ ax_G := tw_g (tw_c7 (List.mem_of_getElem? (i := 53) rfl)) rfl
theorem se_X12_stop : Cond.selects yX12_stop.cls yX12_stop yX12_stop ∈ ax_G := tw_g (List.mem_of_getElem? (i := 98) rfl) rfl
def mX12_byteAt : AM := (yX12_byteAt, cX12_byteAt, 2, some .int)
theorem co_X12_byteAt : ((Jvm.Cond.code ({ cls := "WindowHouseModel", name := "byteAt", desc := "(I)I" } : Jvm.MethodName) prog_12_method_7_code (2 : Nat) (Option.some Jvm.ClassFile.FieldType.int)) : Cond) ∈ ax_G := tw_g (tw_c7 (List.mem_of_getElem? (i := 32) rfl)) rfl
theorem cb_X12_byteAt : ax_CB mX12_byteAt 1 := ⟨co_X12_byteAt, ini_X12, by decide, by decide, by decide +kernel⟩
theorem im_X12_byteAt : ((Jvm.Cond.instanceMethod ({ cls := "WindowHouseModel", name := "byteAt", desc := "(I)I" } : Jvm.MethodName)) : Cond) ∈ ax_G := tw_g (tw_c7 (List.mem_of_getElem? (i := 31) rfl)) rfl
theorem se_X12_byteAt : Cond.selects yX12_byteAt.cls yX12_byteAt yX12_byteAt ∈ ax_G := tw_g (List.mem_of_getElem? (i := 96) rfl) rfl
def mX12_isLetter : AM := (yX12_isLetter, cX12_isLetter, 1, some .boolean)
theorem co_X12_isLetter : ((Jvm.Cond.code ({ cls := "WindowHouseModel", name := "isLetter", desc := "(I)Z" } : Jvm.MethodName) prog_12_method_8_code (1 : Nat) (Option.some Jvm.ClassFile.FieldType.boolean)) : Cond) ∈ ax_G := tw_g (tw_c7 (List.mem_of_getElem? (i := 35) rfl)) rfl
theorem cb_X12_isLetter : ax_CB mX12_isLetter 1 := ⟨co_X12_isLetter, ini_X12, by decide, by decide, by decide +kernel⟩
theorem st_X12_isLetter : ((Jvm.Cond.static ({ cls := "WindowHouseModel", name := "isLetter", desc := "(I)Z" } : Jvm.MethodName)) : Cond) ∈ ax_G := tw_g (tw_c7 (List.mem_of_getElem? (i := 34) rfl)) rfl
def mX12_isDigit : AM := (yX12_isDigit, cX12_isDigit, 1, some .boolean)
theorem co_X12_isDigit : ((Jvm.Cond.code ({ cls := "WindowHouseModel", name := "isDigit", desc := "(I)Z" } : Jvm.MethodName) prog_12_method_9_code (1 : Nat) (Option.some Jvm.ClassFile.FieldType.boolean)) : Cond) ∈ ax_G := tw_g (tw_c7 (List.mem_of_getElem? (i := 39) rfl)) rfl
theorem cb_X12_isDigit : ax_CB mX12_isDigit 1 := ⟨co_X12_isDigit, ini_X12, by decide, by decide, by decide +kernel⟩
theorem st_X12_isDigit : ((Jvm.Cond.static ({ cls := "WindowHouseModel", name := "isDigit", desc := "(I)Z" } : Jvm.MethodName)) : Cond) ∈ ax_G := tw_g (tw_c7 (List.mem_of_getElem? (i := 38) rfl)) rfl
def mX12_wordOf : AM := (yX12_wordOf, cX12_wordOf, 4, some .long)
theorem co_X12_wordOf : ((Jvm.Cond.code ({ cls := "WindowHouseModel", name := "wordOf", desc := "(Ljava/lang/String;)J" } : Jvm.MethodName) prog_12_method_10_code (4 : Nat) (Option.some Jvm.ClassFile.FieldType.long)) : Cond) ∈ ax_G := tw_g (tw_c7 (List.mem_of_getElem? (i := 47) rfl)) rfl
theorem cb_X12_wordOf : ax_CB mX12_wordOf 1 := ⟨co_X12_wordOf, ini_X12, by decide, by decide, by decide +kernel⟩
theorem st_X12_wordOf : ((Jvm.Cond.static ({ cls := "WindowHouseModel", name := "wordOf", desc := "(Ljava/lang/String;)J" } : Jvm.MethodName)) : Cond) ∈ ax_G := tw_g (tw_c7 (List.mem_of_getElem? (i := 46) rfl)) rfl
def mX12_next : AM := (yX12_next, cX12_next, 3, none)
theorem co_X12_next : ((Jvm.Cond.code ({ cls := "WindowHouseModel", name := "next", desc := "()V" } : Jvm.MethodName) prog_12_method_11_code (3 : Nat) (Option.none : Option Jvm.ClassFile.FieldType)) : Cond) ∈ ax_G := tw_g (tw_c7 (List.mem_of_getElem? (i := 28) rfl)) rfl
theorem cb_X12_next : ax_CB mX12_next 0 := ⟨co_X12_next, ini_X12, by decide, by decide, by decide +kernel⟩
theorem im_X12_next : ((Jvm.Cond.instanceMethod ({ cls := "WindowHouseModel", name := "next", desc := "()V" } : Jvm.MethodName)) : Cond) ∈ ax_G := tw_g (tw_c7 (List.mem_of_getElem? (i := 27) rfl)) rfl
theorem se_X12_next : Cond.selects yX12_next.cls yX12_next yX12_next ∈ ax_G := tw_g (List.mem_of_getElem? (i := 95) rfl) rfl
def mX12_isWord : AM := (yX12_isWord, cX12_isWord, 2, some .boolean)
theorem co_X12_isWord : ((Jvm.Cond.code ({ cls := "WindowHouseModel", name := "isWord", desc := "(Ljava/lang/String;)Z" } : Jvm.MethodName) prog_12_method_12_code (2 : Nat) (Option.some Jvm.ClassFile.FieldType.boolean)) : Cond) ∈ ax_G := tw_g (tw_c7 (List.mem_of_getElem? (i := 44) rfl)) rfl
theorem cb_X12_isWord : ax_CB mX12_isWord 1 := ⟨co_X12_isWord, ini_X12, by decide, by decide, by decide +kernel⟩
theorem im_X12_isWord : ((Jvm.Cond.instanceMethod ({ cls := "WindowHouseModel", name := "isWord", desc := "(Ljava/lang/String;)Z" } : Jvm.MethodName)) : Cond) ∈ ax_G := tw_g (tw_c7 (List.mem_of_getElem? (i := 43) rfl)) rfl
theorem se_X12_isWord : Cond.selects yX12_isWord.cls yX12_isWord yX12_isWord ∈ ax_G := tw_g (List.mem_of_getElem? (i := 97) rfl) rfl
def mX12_is : AM := (yX12_is, cX12_is, 2, some .boolean)
theorem co_X12_is : ((Jvm.Cond.code ({ cls := "WindowHouseModel", name := "is", desc := "(I)Z" } : Jvm.MethodName) prog_12_method_13_code (2 : Nat) (Option.some Jvm.ClassFile.FieldType.boolean)) : Cond) ∈ ax_G := tw_g (tw_c7 (List.mem_of_getElem? (i := 69) rfl)) rfl
theorem cb_X12_is : ax_CB mX12_is 1 := ⟨co_X12_is, ini_X12, by decide, by decide, by decide +kernel⟩
theorem im_X12_is : ((Jvm.Cond.instanceMethod ({ cls := "WindowHouseModel", name := "is", desc := "(I)Z" } : Jvm.MethodName)) : Cond) ∈ ax_G := tw_g (tw_c7 (List.mem_of_getElem? (i := 68) rfl)) rfl
theorem se_X12_is : Cond.selects yX12_is.cls yX12_is yX12_is ∈ ax_G := tw_g (List.mem_of_getElem? (i := 101) rfl) rfl
def mX12_need : AM := (yX12_need, cX12_need, 2, none)
theorem co_X12_need : ((Jvm.Cond.code ({ cls := "WindowHouseModel", name := "need", desc := "(I)V" } : Jvm.MethodName) prog_12_method_14_code (2 : Nat) (Option.none : Option Jvm.ClassFile.FieldType)) : Cond) ∈ ax_G := tw_g (tw_c7 (List.mem_of_getElem? (i := 65) rfl)) rfl
theorem cb_X12_need : ax_CB mX12_need 1 := ⟨co_X12_need, ini_X12, by decide, by decide, by decide +kernel⟩
theorem im_X12_need : ((Jvm.Cond.instanceMethod ({ cls := "WindowHouseModel", name := "need", desc := "(I)V" } : Jvm.MethodName)) : Cond) ∈ ax_G := tw_g (tw_c7 (List.mem_of_getElem? (i := 64) rfl)) rfl
theorem se_X12_need : Cond.selects yX12_need.cls yX12_need yX12_need ∈ ax_G := tw_g (List.mem_of_getElem? (i := 100) rfl) rfl
def mX12_needWord : AM := (yX12_needWord, cX12_needWord, 2, none)
theorem co_X12_needWord : ((Jvm.Cond.code ({ cls := "WindowHouseModel", name := "needWord", desc := "(Ljava/lang/String;)V" } : Jvm.MethodName) prog_12_method_15_code (2 : Nat) (Option.none : Option Jvm.ClassFile.FieldType)) : Cond) ∈ ax_G := tw_g (tw_c7 (List.mem_of_getElem? (i := 91) rfl)) rfl
theorem cb_X12_needWord : ax_CB mX12_needWord 1 := ⟨co_X12_needWord, ini_X12, by decide, by decide, by decide +kernel⟩
theorem im_X12_needWord : ((Jvm.Cond.instanceMethod ({ cls := "WindowHouseModel", name := "needWord", desc := "(Ljava/lang/String;)V" } : Jvm.MethodName)) : Cond) ∈ ax_G := tw_g (tw_c7 (List.mem_of_getElem? (i := 90) rfl)) rfl
theorem se_X12_needWord : Cond.selects yX12_needWord.cls yX12_needWord yX12_needWord ∈ ax_G := tw_g (List.mem_of_getElem? (i := 105) rfl) rfl
def mX12_needNumber : AM := (yX12_needNumber, cX12_needNumber, 4, some .int)
theorem co_X12_needNumber : ((Jvm.Cond.code ({ cls := "WindowHouseModel", name := "needNumber", desc := "(II)I" } : Jvm.MethodName) prog_12_method_16_code (4 : Nat) (Option.some Jvm.ClassFile.FieldType.int)) : Cond) ∈ ax_G := tw_g (tw_c7 (List.mem_of_getElem? (i := 61) rfl)) rfl
theorem cb_X12_needNumber : ax_CB mX12_needNumber 2 := ⟨co_X12_needNumber, ini_X12, by decide, by decide, by decide +kernel⟩
theorem im_X12_needNumber : ((Jvm.Cond.instanceMethod ({ cls := "WindowHouseModel", name := "needNumber", desc := "(II)I" } : Jvm.MethodName)) : Cond) ∈ ax_G := tw_g (tw_c7 (List.mem_of_getElem? (i := 60) rfl)) rfl
theorem se_X12_needNumber : Cond.selects yX12_needNumber.cls yX12_needNumber yX12_needNumber ∈ ax_G := tw_g (List.mem_of_getElem? (i := 99) rfl) rfl
def mX12_find : AM := (yX12_find, cX12_find, 6, some .int)
theorem co_X12_find : ((Jvm.Cond.code ({ cls := "WindowHouseModel", name := "find", desc := "([JIIJ)I" } : Jvm.MethodName) prog_12_method_17_code (6 : Nat) (Option.some Jvm.ClassFile.FieldType.int)) : Cond) ∈ ax_G := tw_g (tw_c7 (List.mem_of_getElem? (i := 57) rfl)) rfl
theorem cb_X12_find : ax_CB mX12_find 4 := ⟨co_X12_find, ini_X12, by decide, by decide, by decide +kernel⟩
theorem st_X12_find : ((Jvm.Cond.static ({ cls := "WindowHouseModel", name := "find", desc := "([JIIJ)I" } : Jvm.MethodName)) : Cond) ∈ ax_G := tw_g (tw_c7 (List.mem_of_getElem? (i := 56) rfl)) rfl
def mX12_varHere : AM := (yX12_varHere, cX12_varHere, 2, some .int)
theorem co_X12_varHere : ((Jvm.Cond.code ({ cls := "WindowHouseModel", name := "varHere", desc := "()I" } : Jvm.MethodName) prog_12_method_18_code (2 : Nat) (Option.some Jvm.ClassFile.FieldType.int)) : Cond) ∈ ax_G := tw_g (tw_c7 (List.mem_of_getElem? (i := 79) rfl)) rfl
theorem cb_X12_varHere : ax_CB mX12_varHere 0 := ⟨co_X12_varHere, ini_X12, by decide, by decide, by decide +kernel⟩
theorem im_X12_varHere : ((Jvm.Cond.instanceMethod ({ cls := "WindowHouseModel", name := "varHere", desc := "()I" } : Jvm.MethodName)) : Cond) ∈ ax_G := tw_g (tw_c7 (List.mem_of_getElem? (i := 78) rfl)) rfl
theorem se_X12_varHere : Cond.selects yX12_varHere.cls yX12_varHere yX12_varHere ∈ ax_G := tw_g (List.mem_of_getElem? (i := 103) rfl) rfl
def mX12_reads : AM := (yX12_reads, cX12_reads, 6, none)
theorem co_X12_reads : ((Jvm.Cond.code ({ cls := "WindowHouseModel", name := "reads", desc := "()V" } : Jvm.MethodName) prog_12_method_19_code (6 : Nat) (Option.none : Option Jvm.ClassFile.FieldType)) : Cond) ∈ ax_G := tw_g (tw_c7 (List.mem_of_getElem? (i := 24) rfl)) rfl
theorem cb_X12_reads : ax_CB mX12_reads 0 := ⟨co_X12_reads, ini_X12, by decide, by decide, by decide +kernel⟩
theorem im_X12_reads : ((Jvm.Cond.instanceMethod ({ cls := "WindowHouseModel", name := "reads", desc := "()V" } : Jvm.MethodName)) : Cond) ∈ ax_G := tw_g (tw_c7 (List.mem_of_getElem? (i := 23) rfl)) rfl
theorem se_X12_reads : Cond.selects yX12_reads.cls yX12_reads yX12_reads ∈ ax_G := tw_g (List.mem_of_getElem? (i := 94) rfl) rfl
def mX12_readWindow : AM := (yX12_readWindow, cX12_readWindow, 6, none)
theorem co_X12_readWindow : ((Jvm.Cond.code ({ cls := "WindowHouseModel", name := "readWindow", desc := "(I)V" } : Jvm.MethodName) prog_12_method_20_code (6 : Nat) (Option.none : Option Jvm.ClassFile.FieldType)) : Cond) ∈ ax_G := tw_g (tw_c7 (List.mem_of_getElem? (i := 74) rfl)) rfl
theorem cb_X12_readWindow : ax_CB mX12_readWindow 1 := ⟨co_X12_readWindow, ini_X12, by decide, by decide, by decide +kernel⟩
theorem im_X12_readWindow : ((Jvm.Cond.instanceMethod ({ cls := "WindowHouseModel", name := "readWindow", desc := "(I)V" } : Jvm.MethodName)) : Cond) ∈ ax_G := tw_g (tw_c7 (List.mem_of_getElem? (i := 73) rfl)) rfl
theorem se_X12_readWindow : Cond.selects yX12_readWindow.cls yX12_readWindow yX12_readWindow ∈ ax_G := tw_g (List.mem_of_getElem? (i := 102) rfl) rfl
def mX12_readCond : AM := (yX12_readCond, cX12_readCond, 5, none)
theorem co_X12_readCond : ((Jvm.Cond.code ({ cls := "WindowHouseModel", name := "readCond", desc := "(I)V" } : Jvm.MethodName) prog_12_method_21_code (5 : Nat) (Option.none : Option Jvm.ClassFile.FieldType)) : Cond) ∈ ax_G := tw_g (tw_c7 (List.mem_of_getElem? (i := 85) rfl)) rfl
theorem cb_X12_readCond : ax_CB mX12_readCond 1 := ⟨co_X12_readCond, ini_X12, by decide, by decide, by decide +kernel⟩
theorem im_X12_readCond : ((Jvm.Cond.instanceMethod ({ cls := "WindowHouseModel", name := "readCond", desc := "(I)V" } : Jvm.MethodName)) : Cond) ∈ ax_G := tw_g (tw_c7 (List.mem_of_getElem? (i := 84) rfl)) rfl
theorem se_X12_readCond : Cond.selects yX12_readCond.cls yX12_readCond yX12_readCond ∈ ax_G := tw_g (List.mem_of_getElem? (i := 104) rfl) rfl
def mX12_readDeeds : AM := (yX12_readDeeds, cX12_readDeeds, 7, none)
theorem co_X12_readDeeds : ((Jvm.Cond.code ({ cls := "WindowHouseModel", name := "readDeeds", desc := "(I)V" } : Jvm.MethodName) prog_12_method_22_code (7 : Nat) (Option.none : Option Jvm.ClassFile.FieldType)) : Cond) ∈ ax_G := tw_g (tw_c7 (List.mem_of_getElem? (i := 95) rfl)) rfl
theorem cb_X12_readDeeds : ax_CB mX12_readDeeds 1 := ⟨co_X12_readDeeds, ini_X12, by decide, by decide, by decide +kernel⟩
theorem im_X12_readDeeds : ((Jvm.Cond.instanceMethod ({ cls := "WindowHouseModel", name := "readDeeds", desc := "(I)V" } : Jvm.MethodName)) : Cond) ∈ ax_G := tw_g (tw_c7 (List.mem_of_getElem? (i := 94) rfl)) rfl
theorem se_X12_readDeeds : Cond.selects yX12_readDeeds.cls yX12_readDeeds yX12_readDeeds ∈ ax_G := tw_g (List.mem_of_getElem? (i := 106) rfl) rfl
def mX12_feed : AM := (yX12_feed, cX12_feed, 8, some .int)
theorem co_X12_feed : ((Jvm.Cond.code ({ cls := "WindowHouseModel", name := "feed", desc := "(IIIII)I" } : Jvm.MethodName) prog_12_method_23_code (8 : Nat) (Option.some Jvm.ClassFile.FieldType.int)) : Cond) ∈ ax_G := tw_g (tw_c7 (List.mem_of_getElem? (i := 12) rfl)) rfl
theorem cb_X12_feed : ax_CB mX12_feed 5 := ⟨co_X12_feed, ini_X12, by decide, by decide, by decide +kernel⟩
theorem im_X12_feed : ((Jvm.Cond.instanceMethod ({ cls := "WindowHouseModel", name := "feed", desc := "(IIIII)I" } : Jvm.MethodName)) : Cond) ∈ ax_G := tw_g (tw_c7 (List.mem_of_getElem? (i := 10) rfl)) rfl
theorem se_X12_feed : ((Jvm.Cond.selects "WindowHouseModel" ({ cls := "WindowHouseModel", name := "feed", desc := "(IIIII)I" } : Jvm.MethodName) ({ cls := "WindowHouseModel", name := "feed", desc := "(IIIII)I" } : Jvm.MethodName)) : Cond) ∈ ax_G := tw_g (tw_c7 (List.mem_of_getElem? (i := 11) rfl)) rfl
def mX12_app : AM := (yX12_app, cX12_app, 4, some .int)
theorem im_X12_app : ((Jvm.Cond.instanceMethod ({ cls := "WindowHouseModel", name := "app", desc := "(II)I" } : Jvm.MethodName)) : Cond) ∈ ax_G := tw_g (tw_c7 (List.mem_of_getElem? (i := 14) rfl)) rfl
theorem se_X12_app : ((Jvm.Cond.selects "WindowHouseModel" ({ cls := "WindowHouseModel", name := "app", desc := "(II)I" } : Jvm.MethodName) ({ cls := "WindowHouseModel", name := "app", desc := "(II)I" } : Jvm.MethodName)) : Cond) ∈ ax_G := tw_g (tw_c7 (List.mem_of_getElem? (i := 15) rfl)) rfl
def mX12_fault : AM := (yX12_fault, cX12_fault, 1, some .int)
theorem co_X12_fault : ((Jvm.Cond.code ({ cls := "WindowHouseModel", name := "fault", desc := "()I" } : Jvm.MethodName) prog_12_method_25_code (1 : Nat) (Option.some Jvm.ClassFile.FieldType.int)) : Cond) ∈ ax_G := tw_g (tw_c7 (List.mem_of_getElem? (i := 121) rfl)) rfl
theorem cb_X12_fault : ax_CB mX12_fault 0 := ⟨co_X12_fault, ini_X12, by decide, by decide, by decide +kernel⟩
theorem im_X12_fault : ((Jvm.Cond.instanceMethod ({ cls := "WindowHouseModel", name := "fault", desc := "()I" } : Jvm.MethodName)) : Cond) ∈ ax_G := tw_g (tw_c7 (List.mem_of_getElem? (i := 119) rfl)) rfl
theorem se_X12_fault : ((Jvm.Cond.selects "WindowHouseModel" ({ cls := "WindowHouseModel", name := "fault", desc := "()I" } : Jvm.MethodName) ({ cls := "WindowHouseModel", name := "fault", desc := "()I" } : Jvm.MethodName)) : Cond) ∈ ax_G := tw_g (tw_c7 (List.mem_of_getElem? (i := 120) rfl)) rfl
def mX12_where : AM := (yX12_where, cX12_where, 1, some .int)
theorem co_X12_where : ((Jvm.Cond.code ({ cls := "WindowHouseModel", name := "where", desc := "()I" } : Jvm.MethodName) prog_12_method_26_code (1 : Nat) (Option.some Jvm.ClassFile.FieldType.int)) : Cond) ∈ ax_G := tw_g (tw_c7 (List.mem_of_getElem? (i := 125) rfl)) rfl
theorem cb_X12_where : ax_CB mX12_where 0 := ⟨co_X12_where, ini_X12, by decide, by decide, by decide +kernel⟩
theorem im_X12_where : ((Jvm.Cond.instanceMethod ({ cls := "WindowHouseModel", name := "where", desc := "()I" } : Jvm.MethodName)) : Cond) ∈ ax_G := tw_g (tw_c7 (List.mem_of_getElem? (i := 123) rfl)) rfl
theorem se_X12_where : ((Jvm.Cond.selects "WindowHouseModel" ({ cls := "WindowHouseModel", name := "where", desc := "()I" } : Jvm.MethodName) ({ cls := "WindowHouseModel", name := "where", desc := "()I" } : Jvm.MethodName)) : Cond) ∈ ax_G := tw_g (tw_c7 (List.mem_of_getElem? (i := 124) rfl)) rfl
def mX12_about : AM := (yX12_about, cX12_about, 6, some .int)
theorem co_X12_about : ((Jvm.Cond.code ({ cls := "WindowHouseModel", name := "about", desc := "(II)I" } : Jvm.MethodName) prog_12_method_27_code (6 : Nat) (Option.some Jvm.ClassFile.FieldType.int)) : Cond) ∈ ax_G := tw_g (tw_c7 (List.mem_of_getElem? (i := 129) rfl)) rfl
theorem cb_X12_about : ax_CB mX12_about 2 := ⟨co_X12_about, ini_X12, by decide, by decide, by decide +kernel⟩
theorem im_X12_about : ((Jvm.Cond.instanceMethod ({ cls := "WindowHouseModel", name := "about", desc := "(II)I" } : Jvm.MethodName)) : Cond) ∈ ax_G := tw_g (tw_c7 (List.mem_of_getElem? (i := 127) rfl)) rfl
theorem se_X12_about : ((Jvm.Cond.selects "WindowHouseModel" ({ cls := "WindowHouseModel", name := "about", desc := "(II)I" } : Jvm.MethodName) ({ cls := "WindowHouseModel", name := "about", desc := "(II)I" } : Jvm.MethodName)) : Cond) ∈ ax_G := tw_g (tw_c7 (List.mem_of_getElem? (i := 128) rfl)) rfl
def mX12_button : AM := (yX12_button, cX12_button, 5, some .int)
theorem co_X12_button : ((Jvm.Cond.code ({ cls := "WindowHouseModel", name := "button", desc := "(III)I" } : Jvm.MethodName) prog_12_method_28_code (5 : Nat) (Option.some Jvm.ClassFile.FieldType.int)) : Cond) ∈ ax_G := tw_g (tw_c7 (List.mem_of_getElem? (i := 137) rfl)) rfl
theorem cb_X12_button : ax_CB mX12_button 3 := ⟨co_X12_button, ini_X12, by decide, by decide, by decide +kernel⟩
theorem im_X12_button : ((Jvm.Cond.instanceMethod ({ cls := "WindowHouseModel", name := "button", desc := "(III)I" } : Jvm.MethodName)) : Cond) ∈ ax_G := tw_g (tw_c7 (List.mem_of_getElem? (i := 135) rfl)) rfl
theorem se_X12_button : ((Jvm.Cond.selects "WindowHouseModel" ({ cls := "WindowHouseModel", name := "button", desc := "(III)I" } : Jvm.MethodName) ({ cls := "WindowHouseModel", name := "button", desc := "(III)I" } : Jvm.MethodName)) : Cond) ∈ ax_G := tw_g (tw_c7 (List.mem_of_getElem? (i := 136) rfl)) rfl
def mX12_packed : AM := (yX12_packed, cX12_packed, 4, some .long)
theorem co_X12_packed : ((Jvm.Cond.code ({ cls := "WindowHouseModel", name := "packed", desc := "()J" } : Jvm.MethodName) prog_12_method_29_code (4 : Nat) (Option.some Jvm.ClassFile.FieldType.long)) : Cond) ∈ ax_G := tw_g (tw_c7 (List.mem_of_getElem? (i := 109) rfl)) rfl
theorem cb_X12_packed : ax_CB mX12_packed 0 := ⟨co_X12_packed, ini_X12, by decide, by decide, by decide +kernel⟩
theorem im_X12_packed : ((Jvm.Cond.instanceMethod ({ cls := "WindowHouseModel", name := "packed", desc := "()J" } : Jvm.MethodName)) : Cond) ∈ ax_G := tw_g (tw_c7 (List.mem_of_getElem? (i := 108) rfl)) rfl
theorem se_X12_packed : Cond.selects yX12_packed.cls yX12_packed yX12_packed ∈ ax_G := tw_g (List.mem_of_getElem? (i := 108) rfl) rfl
def mX12_packedVars : AM := (yX12_packedVars, cX12_packedVars, 4, some .long)
theorem co_X12_packedVars : ((Jvm.Cond.code ({ cls := "WindowHouseModel", name := "packedVars", desc := "()J" } : Jvm.MethodName) prog_12_method_30_code (4 : Nat) (Option.some Jvm.ClassFile.FieldType.long)) : Cond) ∈ ax_G := tw_g (tw_c7 (List.mem_of_getElem? (i := 113) rfl)) rfl
theorem cb_X12_packedVars : ax_CB mX12_packedVars 0 := ⟨co_X12_packedVars, ini_X12, by decide, by decide, by decide +kernel⟩
theorem im_X12_packedVars : ((Jvm.Cond.instanceMethod ({ cls := "WindowHouseModel", name := "packedVars", desc := "()J" } : Jvm.MethodName)) : Cond) ∈ ax_G := tw_g (tw_c7 (List.mem_of_getElem? (i := 112) rfl)) rfl
theorem se_X12_packedVars : Cond.selects yX12_packedVars.cls yX12_packedVars yX12_packedVars ∈ ax_G := tw_g (List.mem_of_getElem? (i := 109) rfl) rfl
def mX12_unpack : AM := (yX12_unpack, cX12_unpack, 7, none)
theorem co_X12_unpack : ((Jvm.Cond.code ({ cls := "WindowHouseModel", name := "unpack", desc := "(JJ)V" } : Jvm.MethodName) prog_12_method_31_code (7 : Nat) (Option.none : Option Jvm.ClassFile.FieldType)) : Cond) ∈ ax_G := tw_g (tw_c7 (List.mem_of_getElem? (i := 148) rfl)) rfl
theorem cb_X12_unpack : ax_CB mX12_unpack 2 := ⟨co_X12_unpack, ini_X12, by decide, by decide, by decide +kernel⟩
theorem im_X12_unpack : ((Jvm.Cond.instanceMethod ({ cls := "WindowHouseModel", name := "unpack", desc := "(JJ)V" } : Jvm.MethodName)) : Cond) ∈ ax_G := tw_g (tw_c7 (List.mem_of_getElem? (i := 147) rfl)) rfl
theorem se_X12_unpack : Cond.selects yX12_unpack.cls yX12_unpack yX12_unpack ∈ ax_G := tw_g (List.mem_of_getElem? (i := 112) rfl) rfl
def mX12_begins : AM := (yX12_begins, cX12_begins, 2, none)
theorem co_X12_begins : ((Jvm.Cond.code ({ cls := "WindowHouseModel", name := "begins", desc := "()V" } : Jvm.MethodName) prog_12_method_32_code (2 : Nat) (Option.none : Option Jvm.ClassFile.FieldType)) : Cond) ∈ ax_G := tw_g (tw_c7 (List.mem_of_getElem? (i := 105) rfl)) rfl
theorem cb_X12_begins : ax_CB mX12_begins 0 := ⟨co_X12_begins, ini_X12, by decide, by decide, by decide +kernel⟩
theorem im_X12_begins : ((Jvm.Cond.instanceMethod ({ cls := "WindowHouseModel", name := "begins", desc := "()V" } : Jvm.MethodName)) : Cond) ∈ ax_G := tw_g (tw_c7 (List.mem_of_getElem? (i := 104) rfl)) rfl
theorem se_X12_begins : Cond.selects yX12_begins.cls yX12_begins yX12_begins ∈ ax_G := tw_g (List.mem_of_getElem? (i := 107) rfl) rfl
def mX12_pressed : AM := (yX12_pressed, cX12_pressed, 8, some .int)
theorem co_X12_pressed : ((Jvm.Cond.code ({ cls := "WindowHouseModel", name := "pressed", desc := "(LWindowHouseModel$App;)I" } : Jvm.MethodName) prog_12_method_33_code (8 : Nat) (Option.some Jvm.ClassFile.FieldType.int)) : Cond) ∈ ax_G := tw_g (tw_c7 (List.mem_of_getElem? (i := 159) rfl)) rfl
theorem cb_X12_pressed : ax_CB mX12_pressed 1 := ⟨co_X12_pressed, ini_X12, by decide, by decide, by decide +kernel⟩
theorem im_X12_pressed : ((Jvm.Cond.instanceMethod ({ cls := "WindowHouseModel", name := "pressed", desc := "(LWindowHouseModel$App;)I" } : Jvm.MethodName)) : Cond) ∈ ax_G := tw_g (tw_c7 (List.mem_of_getElem? (i := 158) rfl)) rfl
theorem se_X12_pressed : Cond.selects yX12_pressed.cls yX12_pressed yX12_pressed ∈ ax_G := tw_g (List.mem_of_getElem? (i := 114) rfl) rfl
def mX12_possible : AM := (yX12_possible, cX12_possible, 2, some .int)
theorem co_X12_possible : ((Jvm.Cond.code ({ cls := "WindowHouseModel", name := "possible", desc := "(LWindowHouseModel$App;)I" } : Jvm.MethodName) prog_12_method_34_code (2 : Nat) (Option.some Jvm.ClassFile.FieldType.int)) : Cond) ∈ ax_G := tw_g (tw_c7 (List.mem_of_getElem? (i := 155) rfl)) rfl
theorem cb_X12_possible : ax_CB mX12_possible 1 := ⟨co_X12_possible, ini_X12, by decide, by decide, by decide +kernel⟩
theorem im_X12_possible : ((Jvm.Cond.instanceMethod ({ cls := "WindowHouseModel", name := "possible", desc := "(LWindowHouseModel$App;)I" } : Jvm.MethodName)) : Cond) ∈ ax_G := tw_g (tw_c7 (List.mem_of_getElem? (i := 154) rfl)) rfl
theorem se_X12_possible : Cond.selects yX12_possible.cls yX12_possible yX12_possible ∈ ax_G := tw_g (List.mem_of_getElem? (i := 113) rfl) rfl
def mX12_does : AM := (yX12_does, cX12_does, 5, none)
theorem co_X12_does : ((Jvm.Cond.code ({ cls := "WindowHouseModel", name := "does", desc := "(LWindowHouseModel$App;I)V" } : Jvm.MethodName) prog_12_method_35_code (5 : Nat) (Option.none : Option Jvm.ClassFile.FieldType)) : Cond) ∈ ax_G := tw_g (tw_c7 (List.mem_of_getElem? (i := 170) rfl)) rfl
theorem cb_X12_does : ax_CB mX12_does 2 := ⟨co_X12_does, ini_X12, by decide, by decide, by decide +kernel⟩
theorem im_X12_does : ((Jvm.Cond.instanceMethod ({ cls := "WindowHouseModel", name := "does", desc := "(LWindowHouseModel$App;I)V" } : Jvm.MethodName)) : Cond) ∈ ax_G := tw_g (tw_c7 (List.mem_of_getElem? (i := 169) rfl)) rfl
theorem se_X12_does : Cond.selects yX12_does.cls yX12_does yX12_does ∈ ax_G := tw_g (List.mem_of_getElem? (i := 116) rfl) rfl
def mX12_forgets : AM := (yX12_forgets, cX12_forgets, 3, none)
theorem co_X12_forgets : ((Jvm.Cond.code ({ cls := "WindowHouseModel", name := "forgets", desc := "(LWindowHouseModel$App;)V" } : Jvm.MethodName) prog_12_method_36_code (3 : Nat) (Option.none : Option Jvm.ClassFile.FieldType)) : Cond) ∈ ax_G := tw_g (tw_c7 (List.mem_of_getElem? (i := 175) rfl)) rfl
theorem cb_X12_forgets : ax_CB mX12_forgets 1 := ⟨co_X12_forgets, ini_X12, by decide, by decide, by decide +kernel⟩
theorem im_X12_forgets : ((Jvm.Cond.instanceMethod ({ cls := "WindowHouseModel", name := "forgets", desc := "(LWindowHouseModel$App;)V" } : Jvm.MethodName)) : Cond) ∈ ax_G := tw_g (tw_c7 (List.mem_of_getElem? (i := 174) rfl)) rfl
theorem se_X12_forgets : Cond.selects yX12_forgets.cls yX12_forgets yX12_forgets ∈ ax_G := tw_g (List.mem_of_getElem? (i := 117) rfl) rfl
def mX12_acts : AM := (yX12_acts, cX12_acts, 4, none)
theorem co_X12_acts : ((Jvm.Cond.code ({ cls := "WindowHouseModel", name := "acts", desc := "(LWindowHouseModel$App;I)V" } : Jvm.MethodName) prog_12_method_37_code (4 : Nat) (Option.none : Option Jvm.ClassFile.FieldType)) : Cond) ∈ ax_G := tw_g (tw_c7 (List.mem_of_getElem? (i := 166) rfl)) rfl
theorem cb_X12_acts : ax_CB mX12_acts 2 := ⟨co_X12_acts, ini_X12, by decide, by decide, by decide +kernel⟩
theorem im_X12_acts : ((Jvm.Cond.instanceMethod ({ cls := "WindowHouseModel", name := "acts", desc := "(LWindowHouseModel$App;I)V" } : Jvm.MethodName)) : Cond) ∈ ax_G := tw_g (tw_c7 (List.mem_of_getElem? (i := 165) rfl)) rfl
theorem se_X12_acts : Cond.selects yX12_acts.cls yX12_acts yX12_acts ∈ ax_G := tw_g (List.mem_of_getElem? (i := 115) rfl) rfl
def mX12_isAct : AM := (yX12_isAct, cX12_isAct, 1, some .boolean)
theorem co_X12_isAct : ((Jvm.Cond.code ({ cls := "WindowHouseModel", name := "isAct", desc := "(I)Z" } : Jvm.MethodName) prog_12_method_38_code (1 : Nat) (Option.some Jvm.ClassFile.FieldType.boolean)) : Cond) ∈ ax_G := tw_g (tw_c7 (List.mem_of_getElem? (i := 144) rfl)) rfl
theorem cb_X12_isAct : ax_CB mX12_isAct 1 := ⟨co_X12_isAct, ini_X12, by decide, by decide, by decide +kernel⟩
theorem st_X12_isAct : ((Jvm.Cond.static ({ cls := "WindowHouseModel", name := "isAct", desc := "(I)Z" } : Jvm.MethodName)) : Cond) ∈ ax_G := tw_g (tw_c7 (List.mem_of_getElem? (i := 143) rfl)) rfl
def mX12_act : AM := (yX12_act, cX12_act, 3, some .int)
theorem co_X12_act : ((Jvm.Cond.code ({ cls := "WindowHouseModel", name := "act", desc := "(II)I" } : Jvm.MethodName) prog_12_method_39_code (3 : Nat) (Option.some Jvm.ClassFile.FieldType.int)) : Cond) ∈ ax_G := tw_g (tw_c7 (List.mem_of_getElem? (i := 141) rfl)) rfl
theorem cb_X12_act : ax_CB mX12_act 2 := ⟨co_X12_act, ini_X12, by decide, by decide, by decide +kernel⟩
theorem im_X12_act : ((Jvm.Cond.instanceMethod ({ cls := "WindowHouseModel", name := "act", desc := "(II)I" } : Jvm.MethodName)) : Cond) ∈ ax_G := tw_g (tw_c7 (List.mem_of_getElem? (i := 139) rfl)) rfl
theorem se_X12_act : ((Jvm.Cond.selects "WindowHouseModel" ({ cls := "WindowHouseModel", name := "act", desc := "(II)I" } : Jvm.MethodName) ({ cls := "WindowHouseModel", name := "act", desc := "(II)I" } : Jvm.MethodName)) : Cond) ∈ ax_G := tw_g (tw_c7 (List.mem_of_getElem? (i := 140) rfl)) rfl
def mX12_bits : AM := (yX12_bits, cX12_bits, 3, some .int)
theorem co_X12_bits : ((Jvm.Cond.code ({ cls := "WindowHouseModel", name := "bits", desc := "(I)I" } : Jvm.MethodName) prog_12_method_40_code (3 : Nat) (Option.some Jvm.ClassFile.FieldType.int)) : Cond) ∈ ax_G := tw_g (tw_c7 (List.mem_of_getElem? (i := 182) rfl)) rfl
theorem cb_X12_bits : ax_CB mX12_bits 1 := ⟨co_X12_bits, ini_X12, by decide, by decide, by decide +kernel⟩
theorem st_X12_bits : ((Jvm.Cond.static ({ cls := "WindowHouseModel", name := "bits", desc := "(I)I" } : Jvm.MethodName)) : Cond) ∈ ax_G := tw_g (tw_c7 (List.mem_of_getElem? (i := 181) rfl)) rfl
def mX12_state : AM := (yX12_state, cX12_state, 3, some .int)
theorem co_X12_state : ((Jvm.Cond.code ({ cls := "WindowHouseModel", name := "state", desc := "(II)I" } : Jvm.MethodName) prog_12_method_41_code (3 : Nat) (Option.some Jvm.ClassFile.FieldType.int)) : Cond) ∈ ax_G := tw_g (tw_c7 (List.mem_of_getElem? (i := 179) rfl)) rfl
theorem cb_X12_state : ax_CB mX12_state 2 := ⟨co_X12_state, ini_X12, by decide, by decide, by decide +kernel⟩
theorem im_X12_state : ((Jvm.Cond.instanceMethod ({ cls := "WindowHouseModel", name := "state", desc := "(II)I" } : Jvm.MethodName)) : Cond) ∈ ax_G := tw_g (tw_c7 (List.mem_of_getElem? (i := 177) rfl)) rfl
theorem se_X12_state : ((Jvm.Cond.selects "WindowHouseModel" ({ cls := "WindowHouseModel", name := "state", desc := "(II)I" } : Jvm.MethodName) ({ cls := "WindowHouseModel", name := "state", desc := "(II)I" } : Jvm.MethodName)) : Cond) ∈ ax_G := tw_g (tw_c7 (List.mem_of_getElem? (i := 178) rfl)) rfl
def mX12_var : AM := (yX12_var, cX12_var, 3, some .int)
theorem co_X12_var : ((Jvm.Cond.code ({ cls := "WindowHouseModel", name := "var", desc := "(II)I" } : Jvm.MethodName) prog_12_method_42_code (3 : Nat) (Option.some Jvm.ClassFile.FieldType.int)) : Cond) ∈ ax_G := tw_g (tw_c7 (List.mem_of_getElem? (i := 186) rfl)) rfl
theorem cb_X12_var : ax_CB mX12_var 2 := ⟨co_X12_var, ini_X12, by decide, by decide, by decide +kernel⟩
theorem im_X12_var : ((Jvm.Cond.instanceMethod ({ cls := "WindowHouseModel", name := "var", desc := "(II)I" } : Jvm.MethodName)) : Cond) ∈ ax_G := tw_g (tw_c7 (List.mem_of_getElem? (i := 184) rfl)) rfl
theorem se_X12_var : ((Jvm.Cond.selects "WindowHouseModel" ({ cls := "WindowHouseModel", name := "var", desc := "(II)I" } : Jvm.MethodName) ({ cls := "WindowHouseModel", name := "var", desc := "(II)I" } : Jvm.MethodName)) : Cond) ∈ ax_G := tw_g (tw_c7 (List.mem_of_getElem? (i := 185) rfl)) rfl
def mX12_can : AM := (yX12_can, cX12_can, 3, some .int)
theorem co_X12_can : ((Jvm.Cond.code ({ cls := "WindowHouseModel", name := "can", desc := "(II)I" } : Jvm.MethodName) prog_12_method_43_code (3 : Nat) (Option.some Jvm.ClassFile.FieldType.int)) : Cond) ∈ ax_G := tw_g (tw_c7 (List.mem_of_getElem? (i := 190) rfl)) rfl
theorem cb_X12_can : ax_CB mX12_can 2 := ⟨co_X12_can, ini_X12, by decide, by decide, by decide +kernel⟩
theorem im_X12_can : ((Jvm.Cond.instanceMethod ({ cls := "WindowHouseModel", name := "can", desc := "(II)I" } : Jvm.MethodName)) : Cond) ∈ ax_G := tw_g (tw_c7 (List.mem_of_getElem? (i := 188) rfl)) rfl
theorem se_X12_can : ((Jvm.Cond.selects "WindowHouseModel" ({ cls := "WindowHouseModel", name := "can", desc := "(II)I" } : Jvm.MethodName) ({ cls := "WindowHouseModel", name := "can", desc := "(II)I" } : Jvm.MethodName)) : Cond) ∈ ax_G := tw_g (tw_c7 (List.mem_of_getElem? (i := 189) rfl)) rfl
def mX12_begin : AM := (yX12_begin, cX12_begin, 2, some .boolean)
theorem co_X12_begin : ((Jvm.Cond.code ({ cls := "WindowHouseModel", name := "begin", desc := "(I)Z" } : Jvm.MethodName) prog_12_method_44_code (2 : Nat) (Option.some Jvm.ClassFile.FieldType.boolean)) : Cond) ∈ ax_G := tw_g (tw_c7 (List.mem_of_getElem? (i := 194) rfl)) rfl
theorem cb_X12_begin : ax_CB mX12_begin 1 := ⟨co_X12_begin, ini_X12, by decide, by decide, by decide +kernel⟩
theorem im_X12_begin : ((Jvm.Cond.instanceMethod ({ cls := "WindowHouseModel", name := "begin", desc := "(I)Z" } : Jvm.MethodName)) : Cond) ∈ ax_G := tw_g (tw_c7 (List.mem_of_getElem? (i := 192) rfl)) rfl
theorem se_X12_begin : ((Jvm.Cond.selects "WindowHouseModel" ({ cls := "WindowHouseModel", name := "begin", desc := "(I)Z" } : Jvm.MethodName) ({ cls := "WindowHouseModel", name := "begin", desc := "(I)Z" } : Jvm.MethodName)) : Cond) ∈ ax_G := tw_g (tw_c7 (List.mem_of_getElem? (i := 193) rfl)) rfl
def mX12_stateOf : AM := (yX12_stateOf, cX12_stateOf, 6, some .int)
theorem co_X12_stateOf : ((Jvm.Cond.code ({ cls := "WindowHouseModel", name := "stateOf", desc := "(JJ)I" } : Jvm.MethodName) prog_12_method_45_code (6 : Nat) (Option.some Jvm.ClassFile.FieldType.int)) : Cond) ∈ ax_G := tw_g (tw_c7 (List.mem_of_getElem? (i := 206) rfl)) rfl
theorem cb_X12_stateOf : ax_CB mX12_stateOf 2 := ⟨co_X12_stateOf, ini_X12, by decide, by decide, by decide +kernel⟩
theorem im_X12_stateOf : ((Jvm.Cond.instanceMethod ({ cls := "WindowHouseModel", name := "stateOf", desc := "(JJ)I" } : Jvm.MethodName)) : Cond) ∈ ax_G := tw_g (tw_c7 (List.mem_of_getElem? (i := 205) rfl)) rfl
theorem se_X12_stateOf : Cond.selects yX12_stateOf.cls yX12_stateOf yX12_stateOf ∈ ax_G := tw_g (List.mem_of_getElem? (i := 119) rfl) rfl
def mX12_meets : AM := (yX12_meets, cX12_meets, 3, none)
theorem co_X12_meets : ((Jvm.Cond.code ({ cls := "WindowHouseModel", name := "meets", desc := "(II)V" } : Jvm.MethodName) prog_12_method_46_code (3 : Nat) (Option.none : Option Jvm.ClassFile.FieldType)) : Cond) ∈ ax_G := tw_g (tw_c7 (List.mem_of_getElem? (i := 202) rfl)) rfl
theorem cb_X12_meets : ax_CB mX12_meets 2 := ⟨co_X12_meets, ini_X12, by decide, by decide, by decide +kernel⟩
theorem im_X12_meets : ((Jvm.Cond.instanceMethod ({ cls := "WindowHouseModel", name := "meets", desc := "(II)V" } : Jvm.MethodName)) : Cond) ∈ ax_G := tw_g (tw_c7 (List.mem_of_getElem? (i := 201) rfl)) rfl
theorem se_X12_meets : Cond.selects yX12_meets.cls yX12_meets yX12_meets ∈ ax_G := tw_g (List.mem_of_getElem? (i := 118) rfl) rfl
def mX12_map : AM := (yX12_map, cX12_map, 6, some .int)
theorem co_X12_map : ((Jvm.Cond.code ({ cls := "WindowHouseModel", name := "map", desc := "(I)I" } : Jvm.MethodName) prog_12_method_47_code (6 : Nat) (Option.some Jvm.ClassFile.FieldType.int)) : Cond) ∈ ax_G := tw_g (tw_c7 (List.mem_of_getElem? (i := 198) rfl)) rfl
theorem cb_X12_map : ax_CB mX12_map 1 := ⟨co_X12_map, ini_X12, by decide, by decide, by decide +kernel⟩
theorem im_X12_map : ((Jvm.Cond.instanceMethod ({ cls := "WindowHouseModel", name := "map", desc := "(I)I" } : Jvm.MethodName)) : Cond) ∈ ax_G := tw_g (tw_c7 (List.mem_of_getElem? (i := 196) rfl)) rfl
theorem se_X12_map : ((Jvm.Cond.selects "WindowHouseModel" ({ cls := "WindowHouseModel", name := "map", desc := "(I)I" } : Jvm.MethodName) ({ cls := "WindowHouseModel", name := "map", desc := "(I)I" } : Jvm.MethodName)) : Cond) ∈ ax_G := tw_g (tw_c7 (List.mem_of_getElem? (i := 197) rfl)) rfl
def mX12_view : AM := (yX12_view, cX12_view, 7, some .long)
theorem co_X12_view : ((Jvm.Cond.code ({ cls := "WindowHouseModel", name := "view", desc := "(LWindowHouseModel$App;I)J" } : Jvm.MethodName) prog_12_method_48_code (7 : Nat) (Option.some Jvm.ClassFile.FieldType.long)) : Cond) ∈ ax_G := tw_g (tw_c7 (List.mem_of_getElem? (i := 214) rfl)) rfl
theorem cb_X12_view : ax_CB mX12_view 2 := ⟨co_X12_view, ini_X12, by decide, by decide, by decide +kernel⟩
theorem im_X12_view : ((Jvm.Cond.instanceMethod ({ cls := "WindowHouseModel", name := "view", desc := "(LWindowHouseModel$App;I)J" } : Jvm.MethodName)) : Cond) ∈ ax_G := tw_g (tw_c7 (List.mem_of_getElem? (i := 213) rfl)) rfl
theorem se_X12_view : Cond.selects yX12_view.cls yX12_view yX12_view ∈ ax_G := tw_g (List.mem_of_getElem? (i := 121) rfl) rfl
def mX12_parts : AM := (yX12_parts, cX12_parts, 5, none)
theorem co_X12_parts : ((Jvm.Cond.code ({ cls := "WindowHouseModel", name := "parts", desc := "()V" } : Jvm.MethodName) prog_12_method_49_code (5 : Nat) (Option.none : Option Jvm.ClassFile.FieldType)) : Cond) ∈ ax_G := tw_g (tw_c7 (List.mem_of_getElem? (i := 210) rfl)) rfl
theorem cb_X12_parts : ax_CB mX12_parts 0 := ⟨co_X12_parts, ini_X12, by decide, by decide, by decide +kernel⟩
theorem im_X12_parts : ((Jvm.Cond.instanceMethod ({ cls := "WindowHouseModel", name := "parts", desc := "()V" } : Jvm.MethodName)) : Cond) ∈ ax_G := tw_g (tw_c7 (List.mem_of_getElem? (i := 209) rfl)) rfl
theorem se_X12_parts : Cond.selects yX12_parts.cls yX12_parts yX12_parts ∈ ax_G := tw_g (List.mem_of_getElem? (i := 120) rfl) rfl
def mX12_isLike : AM := (yX12_isLike, cX12_isLike, 5, some .boolean)
theorem co_X12_isLike : ((Jvm.Cond.code ({ cls := "WindowHouseModel", name := "isLike", desc := "(II)Z" } : Jvm.MethodName) prog_12_method_50_code (5 : Nat) (Option.some Jvm.ClassFile.FieldType.boolean)) : Cond) ∈ ax_G := tw_g (tw_c7 (List.mem_of_getElem? (i := 218) rfl)) rfl
theorem cb_X12_isLike : ax_CB mX12_isLike 2 := ⟨co_X12_isLike, ini_X12, by decide, by decide, by decide +kernel⟩
theorem im_X12_isLike : ((Jvm.Cond.instanceMethod ({ cls := "WindowHouseModel", name := "isLike", desc := "(II)Z" } : Jvm.MethodName)) : Cond) ∈ ax_G := tw_g (tw_c7 (List.mem_of_getElem? (i := 217) rfl)) rfl
theorem se_X12_isLike : Cond.selects yX12_isLike.cls yX12_isLike yX12_isLike ∈ ax_G := tw_g (List.mem_of_getElem? (i := 122) rfl) rfl
def mX12_isState : AM := (yX12_isState, cX12_isState, 2, some .boolean)
theorem co_X12_isState : ((Jvm.Cond.code ({ cls := "WindowHouseModel", name := "isState", desc := "(I)Z" } : Jvm.MethodName) prog_12_method_51_code (2 : Nat) (Option.some Jvm.ClassFile.FieldType.boolean)) : Cond) ∈ ax_G := tw_g (tw_c7 (List.mem_of_getElem? (i := 226) rfl)) rfl
theorem cb_X12_isState : ax_CB mX12_isState 1 := ⟨co_X12_isState, ini_X12, by decide, by decide, by decide +kernel⟩
theorem im_X12_isState : ((Jvm.Cond.instanceMethod ({ cls := "WindowHouseModel", name := "isState", desc := "(I)Z" } : Jvm.MethodName)) : Cond) ∈ ax_G := tw_g (tw_c7 (List.mem_of_getElem? (i := 225) rfl)) rfl
theorem se_X12_isState : Cond.selects yX12_isState.cls yX12_isState yX12_isState ∈ ax_G := tw_g (List.mem_of_getElem? (i := 123) rfl) rfl
def mX12_met : AM := (yX12_met, cX12_met, 3, some .int)
theorem co_X12_met : ((Jvm.Cond.code ({ cls := "WindowHouseModel", name := "met", desc := "(II)I" } : Jvm.MethodName) prog_12_method_52_code (3 : Nat) (Option.some Jvm.ClassFile.FieldType.int)) : Cond) ∈ ax_G := tw_g (tw_c7 (List.mem_of_getElem? (i := 222) rfl)) rfl
theorem cb_X12_met : ax_CB mX12_met 2 := ⟨co_X12_met, ini_X12, by decide, by decide, by decide +kernel⟩
theorem im_X12_met : ((Jvm.Cond.instanceMethod ({ cls := "WindowHouseModel", name := "met", desc := "(II)I" } : Jvm.MethodName)) : Cond) ∈ ax_G := tw_g (tw_c7 (List.mem_of_getElem? (i := 220) rfl)) rfl
theorem se_X12_met : ((Jvm.Cond.selects "WindowHouseModel" ({ cls := "WindowHouseModel", name := "met", desc := "(II)I" } : Jvm.MethodName) ({ cls := "WindowHouseModel", name := "met", desc := "(II)I" } : Jvm.MethodName)) : Cond) ∈ ax_G := tw_g (tw_c7 (List.mem_of_getElem? (i := 221) rfl)) rfl
def mX12_leads : AM := (yX12_leads, cX12_leads, 3, some .int)
theorem co_X12_leads : ((Jvm.Cond.code ({ cls := "WindowHouseModel", name := "leads", desc := "(II)I" } : Jvm.MethodName) prog_12_method_53_code (3 : Nat) (Option.some Jvm.ClassFile.FieldType.int)) : Cond) ∈ ax_G := tw_g (tw_c7 (List.mem_of_getElem? (i := 230) rfl)) rfl
theorem cb_X12_leads : ax_CB mX12_leads 2 := ⟨co_X12_leads, ini_X12, by decide, by decide, by decide +kernel⟩
theorem im_X12_leads : ((Jvm.Cond.instanceMethod ({ cls := "WindowHouseModel", name := "leads", desc := "(II)I" } : Jvm.MethodName)) : Cond) ∈ ax_G := tw_g (tw_c7 (List.mem_of_getElem? (i := 228) rfl)) rfl
theorem se_X12_leads : ((Jvm.Cond.selects "WindowHouseModel" ({ cls := "WindowHouseModel", name := "leads", desc := "(II)I" } : Jvm.MethodName) ({ cls := "WindowHouseModel", name := "leads", desc := "(II)I" } : Jvm.MethodName)) : Cond) ∈ ax_G := tw_g (tw_c7 (List.mem_of_getElem? (i := 229) rfl)) rfl
def mX12_rowTo : AM := (yX12_rowTo, cX12_rowTo, 4, some .int)
theorem co_X12_rowTo : ((Jvm.Cond.code ({ cls := "WindowHouseModel", name := "rowTo", desc := "(I)I" } : Jvm.MethodName) prog_12_method_54_code (4 : Nat) (Option.some Jvm.ClassFile.FieldType.int)) : Cond) ∈ ax_G := tw_g (tw_c7 (List.mem_of_getElem? (i := 234) rfl)) rfl
theorem cb_X12_rowTo : ax_CB mX12_rowTo 1 := ⟨co_X12_rowTo, ini_X12, by decide, by decide, by decide +kernel⟩
theorem im_X12_rowTo : ((Jvm.Cond.instanceMethod ({ cls := "WindowHouseModel", name := "rowTo", desc := "(I)I" } : Jvm.MethodName)) : Cond) ∈ ax_G := tw_g (tw_c7 (List.mem_of_getElem? (i := 232) rfl)) rfl
theorem se_X12_rowTo : ((Jvm.Cond.selects "WindowHouseModel" ({ cls := "WindowHouseModel", name := "rowTo", desc := "(I)I" } : Jvm.MethodName) ({ cls := "WindowHouseModel", name := "rowTo", desc := "(I)I" } : Jvm.MethodName)) : Cond) ∈ ax_G := tw_g (tw_c7 (List.mem_of_getElem? (i := 233) rfl)) rfl
def mX12_faultAt : AM := (yX12_faultAt, cX12_faultAt, 3, some .int)
theorem co_X12_faultAt : ((Jvm.Cond.code ({ cls := "WindowHouseModel", name := "faultAt", desc := "(I)I" } : Jvm.MethodName) prog_12_method_55_code (3 : Nat) (Option.some Jvm.ClassFile.FieldType.int)) : Cond) ∈ ax_G := tw_g (tw_c7 (List.mem_of_getElem? (i := 238) rfl)) rfl
theorem cb_X12_faultAt : ax_CB mX12_faultAt 1 := ⟨co_X12_faultAt, ini_X12, by decide, by decide, by decide +kernel⟩
theorem im_X12_faultAt : ((Jvm.Cond.instanceMethod ({ cls := "WindowHouseModel", name := "faultAt", desc := "(I)I" } : Jvm.MethodName)) : Cond) ∈ ax_G := tw_g (tw_c7 (List.mem_of_getElem? (i := 236) rfl)) rfl
theorem se_X12_faultAt : ((Jvm.Cond.selects "WindowHouseModel" ({ cls := "WindowHouseModel", name := "faultAt", desc := "(I)I" } : Jvm.MethodName) ({ cls := "WindowHouseModel", name := "faultAt", desc := "(I)I" } : Jvm.MethodName)) : Cond) ∈ ax_G := tw_g (tw_c7 (List.mem_of_getElem? (i := 237) rfl)) rfl
def mX12_pressedAt : AM := (yX12_pressedAt, cX12_pressedAt, 3, some .int)
theorem co_X12_pressedAt : ((Jvm.Cond.code ({ cls := "WindowHouseModel", name := "pressedAt", desc := "(I)I" } : Jvm.MethodName) prog_12_method_56_code (3 : Nat) (Option.some Jvm.ClassFile.FieldType.int)) : Cond) ∈ ax_G := tw_g (tw_c8 (List.mem_of_getElem? (i := 2) rfl)) rfl
theorem cb_X12_pressedAt : ax_CB mX12_pressedAt 1 := ⟨co_X12_pressedAt, ini_X12, by decide, by decide, by decide +kernel⟩
theorem im_X12_pressedAt : ((Jvm.Cond.instanceMethod ({ cls := "WindowHouseModel", name := "pressedAt", desc := "(I)I" } : Jvm.MethodName)) : Cond) ∈ ax_G := tw_g (tw_c8 (List.mem_of_getElem? (i := 0) rfl)) rfl
theorem se_X12_pressedAt : ((Jvm.Cond.selects "WindowHouseModel" ({ cls := "WindowHouseModel", name := "pressedAt", desc := "(I)I" } : Jvm.MethodName) ({ cls := "WindowHouseModel", name := "pressedAt", desc := "(I)I" } : Jvm.MethodName)) : Cond) ∈ ax_G := tw_g (tw_c8 (List.mem_of_getElem? (i := 1) rfl)) rfl
def mX12_never : AM := (yX12_never, cX12_never, 4, some .int)
theorem co_X12_never : ((Jvm.Cond.code ({ cls := "WindowHouseModel", name := "never", desc := "()I" } : Jvm.MethodName) prog_12_method_57_code (4 : Nat) (Option.some Jvm.ClassFile.FieldType.int)) : Cond) ∈ ax_G := tw_g (tw_c8 (List.mem_of_getElem? (i := 6) rfl)) rfl
theorem cb_X12_never : ax_CB mX12_never 0 := ⟨co_X12_never, ini_X12, by decide, by decide, by decide +kernel⟩
theorem im_X12_never : ((Jvm.Cond.instanceMethod ({ cls := "WindowHouseModel", name := "never", desc := "()I" } : Jvm.MethodName)) : Cond) ∈ ax_G := tw_g (tw_c8 (List.mem_of_getElem? (i := 4) rfl)) rfl
theorem se_X12_never : ((Jvm.Cond.selects "WindowHouseModel" ({ cls := "WindowHouseModel", name := "never", desc := "()I" } : Jvm.MethodName) ({ cls := "WindowHouseModel", name := "never", desc := "()I" } : Jvm.MethodName)) : Cond) ∈ ax_G := tw_g (tw_c8 (List.mem_of_getElem? (i := 5) rfl)) rfl
def mX12_holdsAt : AM := (yX12_holdsAt, cX12_holdsAt, 4, some .int)
theorem co_X12_holdsAt : ((Jvm.Cond.code ({ cls := "WindowHouseModel", name := "holdsAt", desc := "(II)I" } : Jvm.MethodName) prog_12_method_58_code (4 : Nat) (Option.some Jvm.ClassFile.FieldType.int)) : Cond) ∈ ax_G := tw_g (tw_c8 (List.mem_of_getElem? (i := 10) rfl)) rfl
theorem cb_X12_holdsAt : ax_CB mX12_holdsAt 2 := ⟨co_X12_holdsAt, ini_X12, by decide, by decide, by decide +kernel⟩
theorem im_X12_holdsAt : ((Jvm.Cond.instanceMethod ({ cls := "WindowHouseModel", name := "holdsAt", desc := "(II)I" } : Jvm.MethodName)) : Cond) ∈ ax_G := tw_g (tw_c8 (List.mem_of_getElem? (i := 8) rfl)) rfl
theorem se_X12_holdsAt : ((Jvm.Cond.selects "WindowHouseModel" ({ cls := "WindowHouseModel", name := "holdsAt", desc := "(II)I" } : Jvm.MethodName) ({ cls := "WindowHouseModel", name := "holdsAt", desc := "(II)I" } : Jvm.MethodName)) : Cond) ∈ ax_G := tw_g (tw_c8 (List.mem_of_getElem? (i := 9) rfl)) rfl
def mX12_stuck : AM := (yX12_stuck, cX12_stuck, 5, some .int)
theorem co_X12_stuck : ((Jvm.Cond.code ({ cls := "WindowHouseModel", name := "stuck", desc := "(I)I" } : Jvm.MethodName) prog_12_method_59_code (5 : Nat) (Option.some Jvm.ClassFile.FieldType.int)) : Cond) ∈ ax_G := tw_g (tw_c8 (List.mem_of_getElem? (i := 14) rfl)) rfl
theorem cb_X12_stuck : ax_CB mX12_stuck 1 := ⟨co_X12_stuck, ini_X12, by decide, by decide, by decide +kernel⟩
theorem im_X12_stuck : ((Jvm.Cond.instanceMethod ({ cls := "WindowHouseModel", name := "stuck", desc := "(I)I" } : Jvm.MethodName)) : Cond) ∈ ax_G := tw_g (tw_c8 (List.mem_of_getElem? (i := 12) rfl)) rfl
theorem se_X12_stuck : ((Jvm.Cond.selects "WindowHouseModel" ({ cls := "WindowHouseModel", name := "stuck", desc := "(I)I" } : Jvm.MethodName) ({ cls := "WindowHouseModel", name := "stuck", desc := "(I)I" } : Jvm.MethodName)) : Cond) ∈ ax_G := tw_g (tw_c8 (List.mem_of_getElem? (i := 13) rfl)) rfl
def mX12_least : AM := (yX12_least, cX12_least, 1, some .int)
theorem co_X12_least : ((Jvm.Cond.code ({ cls := "WindowHouseModel", name := "least", desc := "()I" } : Jvm.MethodName) prog_12_method_60_code (1 : Nat) (Option.some Jvm.ClassFile.FieldType.int)) : Cond) ∈ ax_G := tw_g (tw_c8 (List.mem_of_getElem? (i := 18) rfl)) rfl
theorem cb_X12_least : ax_CB mX12_least 0 := ⟨co_X12_least, ini_X12, by decide, by decide, by decide +kernel⟩
theorem im_X12_least : ((Jvm.Cond.instanceMethod ({ cls := "WindowHouseModel", name := "least", desc := "()I" } : Jvm.MethodName)) : Cond) ∈ ax_G := tw_g (tw_c8 (List.mem_of_getElem? (i := 16) rfl)) rfl
theorem se_X12_least : ((Jvm.Cond.selects "WindowHouseModel" ({ cls := "WindowHouseModel", name := "least", desc := "()I" } : Jvm.MethodName) ({ cls := "WindowHouseModel", name := "least", desc := "()I" } : Jvm.MethodName)) : Cond) ∈ ax_G := tw_g (tw_c8 (List.mem_of_getElem? (i := 17) rfl)) rfl
def mX12_views : AM := (yX12_views, cX12_views, 3, some .int)
theorem co_X12_views : ((Jvm.Cond.code ({ cls := "WindowHouseModel", name := "views", desc := "()I" } : Jvm.MethodName) prog_12_method_61_code (3 : Nat) (Option.some Jvm.ClassFile.FieldType.int)) : Cond) ∈ ax_G := tw_g (tw_c8 (List.mem_of_getElem? (i := 22) rfl)) rfl
theorem cb_X12_views : ax_CB mX12_views 0 := ⟨co_X12_views, ini_X12, by decide, by decide, by decide +kernel⟩
theorem im_X12_views : ((Jvm.Cond.instanceMethod ({ cls := "WindowHouseModel", name := "views", desc := "()I" } : Jvm.MethodName)) : Cond) ∈ ax_G := tw_g (tw_c8 (List.mem_of_getElem? (i := 20) rfl)) rfl
theorem se_X12_views : ((Jvm.Cond.selects "WindowHouseModel" ({ cls := "WindowHouseModel", name := "views", desc := "()I" } : Jvm.MethodName) ({ cls := "WindowHouseModel", name := "views", desc := "()I" } : Jvm.MethodName)) : Cond) ∈ ax_G := tw_g (tw_c8 (List.mem_of_getElem? (i := 21) rfl)) rfl
def mX12_farthest : AM := (yX12_farthest, cX12_farthest, 3, some .int)
theorem co_X12_farthest : ((Jvm.Cond.code ({ cls := "WindowHouseModel", name := "farthest", desc := "()I" } : Jvm.MethodName) prog_12_method_62_code (3 : Nat) (Option.some Jvm.ClassFile.FieldType.int)) : Cond) ∈ ax_G := tw_g (tw_c8 (List.mem_of_getElem? (i := 26) rfl)) rfl
theorem cb_X12_farthest : ax_CB mX12_farthest 0 := ⟨co_X12_farthest, ini_X12, by decide, by decide, by decide +kernel⟩
theorem im_X12_farthest : ((Jvm.Cond.instanceMethod ({ cls := "WindowHouseModel", name := "farthest", desc := "()I" } : Jvm.MethodName)) : Cond) ∈ ax_G := tw_g (tw_c8 (List.mem_of_getElem? (i := 24) rfl)) rfl
theorem se_X12_farthest : ((Jvm.Cond.selects "WindowHouseModel" ({ cls := "WindowHouseModel", name := "farthest", desc := "()I" } : Jvm.MethodName) ({ cls := "WindowHouseModel", name := "farthest", desc := "()I" } : Jvm.MethodName)) : Cond) ∈ ax_G := tw_g (tw_c8 (List.mem_of_getElem? (i := 25) rfl)) rfl
def mX12_ways : AM := (yX12_ways, cX12_ways, 3, some .int)
theorem co_X12_ways : ((Jvm.Cond.code ({ cls := "WindowHouseModel", name := "ways", desc := "()I" } : Jvm.MethodName) prog_12_method_63_code (3 : Nat) (Option.some Jvm.ClassFile.FieldType.int)) : Cond) ∈ ax_G := tw_g (tw_c8 (List.mem_of_getElem? (i := 30) rfl)) rfl
theorem cb_X12_ways : ax_CB mX12_ways 0 := ⟨co_X12_ways, ini_X12, by decide, by decide, by decide +kernel⟩
theorem im_X12_ways : ((Jvm.Cond.instanceMethod ({ cls := "WindowHouseModel", name := "ways", desc := "()I" } : Jvm.MethodName)) : Cond) ∈ ax_G := tw_g (tw_c8 (List.mem_of_getElem? (i := 28) rfl)) rfl
theorem se_X12_ways : ((Jvm.Cond.selects "WindowHouseModel" ({ cls := "WindowHouseModel", name := "ways", desc := "()I" } : Jvm.MethodName) ({ cls := "WindowHouseModel", name := "ways", desc := "()I" } : Jvm.MethodName)) : Cond) ∈ ax_G := tw_g (tw_c8 (List.mem_of_getElem? (i := 29) rfl)) rfl
def mX12_push : AM := (yX12_push, cX12_push, 2, some .int)
theorem co_X12_push : ((Jvm.Cond.code ({ cls := "WindowHouseModel", name := "push", desc := "(I)I" } : Jvm.MethodName) prog_12_method_64_code (2 : Nat) (Option.some Jvm.ClassFile.FieldType.int)) : Cond) ∈ ax_G := tw_g (tw_c8 (List.mem_of_getElem? (i := 34) rfl)) rfl
theorem cb_X12_push : ax_CB mX12_push 1 := ⟨co_X12_push, ini_X12, by decide, by decide, by decide +kernel⟩
theorem im_X12_push : ((Jvm.Cond.instanceMethod ({ cls := "WindowHouseModel", name := "push", desc := "(I)I" } : Jvm.MethodName)) : Cond) ∈ ax_G := tw_g (tw_c8 (List.mem_of_getElem? (i := 32) rfl)) rfl
theorem se_X12_push : ((Jvm.Cond.selects "WindowHouseModel" ({ cls := "WindowHouseModel", name := "push", desc := "(I)I" } : Jvm.MethodName) ({ cls := "WindowHouseModel", name := "push", desc := "(I)I" } : Jvm.MethodName)) : Cond) ∈ ax_G := tw_g (tw_c8 (List.mem_of_getElem? (i := 33) rfl)) rfl
def mX12_cut : AM := (yX12_cut, cX12_cut, 2, some .boolean)
theorem co_X12_cut : ((Jvm.Cond.code ({ cls := "WindowHouseModel", name := "cut", desc := "(I)Z" } : Jvm.MethodName) prog_12_method_65_code (2 : Nat) (Option.some Jvm.ClassFile.FieldType.boolean)) : Cond) ∈ ax_G := tw_g (tw_c8 (List.mem_of_getElem? (i := 38) rfl)) rfl
theorem cb_X12_cut : ax_CB mX12_cut 1 := ⟨co_X12_cut, ini_X12, by decide, by decide, by decide +kernel⟩
theorem im_X12_cut : ((Jvm.Cond.instanceMethod ({ cls := "WindowHouseModel", name := "cut", desc := "(I)Z" } : Jvm.MethodName)) : Cond) ∈ ax_G := tw_g (tw_c8 (List.mem_of_getElem? (i := 36) rfl)) rfl
theorem se_X12_cut : ((Jvm.Cond.selects "WindowHouseModel" ({ cls := "WindowHouseModel", name := "cut", desc := "(I)Z" } : Jvm.MethodName) ({ cls := "WindowHouseModel", name := "cut", desc := "(I)Z" } : Jvm.MethodName)) : Cond) ∈ ax_G := tw_g (tw_c8 (List.mem_of_getElem? (i := 37) rfl)) rfl
def mX12_comes : AM := (yX12_comes, cX12_comes, 4, some .int)
theorem co_X12_comes : ((Jvm.Cond.code ({ cls := "WindowHouseModel", name := "comes", desc := "(LWindowHouseModel$App;I)I" } : Jvm.MethodName) prog_12_method_66_code (4 : Nat) (Option.some Jvm.ClassFile.FieldType.int)) : Cond) ∈ ax_G := tw_g (tw_c8 (List.mem_of_getElem? (i := 46) rfl)) rfl
theorem cb_X12_comes : ax_CB mX12_comes 2 := ⟨co_X12_comes, ini_X12, by decide, by decide, by decide +kernel⟩
theorem im_X12_comes : ((Jvm.Cond.instanceMethod ({ cls := "WindowHouseModel", name := "comes", desc := "(LWindowHouseModel$App;I)I" } : Jvm.MethodName)) : Cond) ∈ ax_G := tw_g (tw_c8 (List.mem_of_getElem? (i := 45) rfl)) rfl
theorem se_X12_comes : Cond.selects yX12_comes.cls yX12_comes yX12_comes ∈ ax_G := tw_g (List.mem_of_getElem? (i := 124) rfl) rfl
def mX12_tryRow : AM := (yX12_tryRow, cX12_tryRow, 3, some .int)
theorem co_X12_tryRow : ((Jvm.Cond.code ({ cls := "WindowHouseModel", name := "tryRow", desc := "(I)I" } : Jvm.MethodName) prog_12_method_67_code (3 : Nat) (Option.some Jvm.ClassFile.FieldType.int)) : Cond) ∈ ax_G := tw_g (tw_c8 (List.mem_of_getElem? (i := 42) rfl)) rfl
theorem cb_X12_tryRow : ax_CB mX12_tryRow 1 := ⟨co_X12_tryRow, ini_X12, by decide, by decide, by decide +kernel⟩
theorem im_X12_tryRow : ((Jvm.Cond.instanceMethod ({ cls := "WindowHouseModel", name := "tryRow", desc := "(I)I" } : Jvm.MethodName)) : Cond) ∈ ax_G := tw_g (tw_c8 (List.mem_of_getElem? (i := 40) rfl)) rfl
theorem se_X12_tryRow : ((Jvm.Cond.selects "WindowHouseModel" ({ cls := "WindowHouseModel", name := "tryRow", desc := "(I)I" } : Jvm.MethodName) ({ cls := "WindowHouseModel", name := "tryRow", desc := "(I)I" } : Jvm.MethodName)) : Cond) ∈ ax_G := tw_g (tw_c8 (List.mem_of_getElem? (i := 41) rfl)) rfl
def mX12_tried : AM := (yX12_tried, cX12_tried, 1, some .int)
theorem co_X12_tried : ((Jvm.Cond.code ({ cls := "WindowHouseModel", name := "tried", desc := "()I" } : Jvm.MethodName) prog_12_method_68_code (1 : Nat) (Option.some Jvm.ClassFile.FieldType.int)) : Cond) ∈ ax_G := tw_g (tw_c8 (List.mem_of_getElem? (i := 50) rfl)) rfl
theorem cb_X12_tried : ax_CB mX12_tried 0 := ⟨co_X12_tried, ini_X12, by decide, by decide, by decide +kernel⟩
theorem im_X12_tried : ((Jvm.Cond.instanceMethod ({ cls := "WindowHouseModel", name := "tried", desc := "()I" } : Jvm.MethodName)) : Cond) ∈ ax_G := tw_g (tw_c8 (List.mem_of_getElem? (i := 48) rfl)) rfl
theorem se_X12_tried : ((Jvm.Cond.selects "WindowHouseModel" ({ cls := "WindowHouseModel", name := "tried", desc := "()I" } : Jvm.MethodName) ({ cls := "WindowHouseModel", name := "tried", desc := "()I" } : Jvm.MethodName)) : Cond) ∈ ax_G := tw_g (tw_c8 (List.mem_of_getElem? (i := 49) rfl)) rfl
def mX12_shorter : AM := (yX12_shorter, cX12_shorter, 6, some .int)
theorem co_X12_shorter : ((Jvm.Cond.code ({ cls := "WindowHouseModel", name := "shorter", desc := "(I)I" } : Jvm.MethodName) prog_12_method_69_code (6 : Nat) (Option.some Jvm.ClassFile.FieldType.int)) : Cond) ∈ ax_G := tw_g (tw_c8 (List.mem_of_getElem? (i := 54) rfl)) rfl
theorem cb_X12_shorter : ax_CB mX12_shorter 1 := ⟨co_X12_shorter, ini_X12, by decide, by decide, by decide +kernel⟩
theorem im_X12_shorter : ((Jvm.Cond.instanceMethod ({ cls := "WindowHouseModel", name := "shorter", desc := "(I)I" } : Jvm.MethodName)) : Cond) ∈ ax_G := tw_g (tw_c8 (List.mem_of_getElem? (i := 52) rfl)) rfl
theorem se_X12_shorter : ((Jvm.Cond.selects "WindowHouseModel" ({ cls := "WindowHouseModel", name := "shorter", desc := "(I)I" } : Jvm.MethodName) ({ cls := "WindowHouseModel", name := "shorter", desc := "(I)I" } : Jvm.MethodName)) : Cond) ∈ ax_G := tw_g (tw_c8 (List.mem_of_getElem? (i := 53) rfl)) rfl
def mX12_row : AM := (yX12_row, cX12_row, 2, some .int)
theorem co_X12_row : ((Jvm.Cond.code ({ cls := "WindowHouseModel", name := "row", desc := "(I)I" } : Jvm.MethodName) prog_12_method_70_code (2 : Nat) (Option.some Jvm.ClassFile.FieldType.int)) : Cond) ∈ ax_G := tw_g (tw_c8 (List.mem_of_getElem? (i := 58) rfl)) rfl
theorem cb_X12_row : ax_CB mX12_row 1 := ⟨co_X12_row, ini_X12, by decide, by decide, by decide +kernel⟩
theorem im_X12_row : ((Jvm.Cond.instanceMethod ({ cls := "WindowHouseModel", name := "row", desc := "(I)I" } : Jvm.MethodName)) : Cond) ∈ ax_G := tw_g (tw_c8 (List.mem_of_getElem? (i := 56) rfl)) rfl
theorem se_X12_row : ((Jvm.Cond.selects "WindowHouseModel" ({ cls := "WindowHouseModel", name := "row", desc := "(I)I" } : Jvm.MethodName) ({ cls := "WindowHouseModel", name := "row", desc := "(I)I" } : Jvm.MethodName)) : Cond) ∈ ax_G := tw_g (tw_c8 (List.mem_of_getElem? (i := 57) rfl)) rfl
def mX12_sameAct : AM := (yX12_sameAct, cX12_sameAct, 6, some .int)
theorem co_X12_sameAct : ((Jvm.Cond.code ({ cls := "WindowHouseModel", name := "sameAct", desc := "(LWindowHouseModel$App;LWindowHouseModel$App;I)I" } : Jvm.MethodName) prog_12_method_71_code (6 : Nat) (Option.some Jvm.ClassFile.FieldType.int)) : Cond) ∈ ax_G := tw_g (tw_c8 (List.mem_of_getElem? (i := 82) rfl)) rfl
theorem cb_X12_sameAct : ax_CB mX12_sameAct 3 := ⟨co_X12_sameAct, ini_X12, by decide, by decide, by decide +kernel⟩
theorem im_X12_sameAct : ((Jvm.Cond.instanceMethod ({ cls := "WindowHouseModel", name := "sameAct", desc := "(LWindowHouseModel$App;LWindowHouseModel$App;I)I" } : Jvm.MethodName)) : Cond) ∈ ax_G := tw_g (tw_c8 (List.mem_of_getElem? (i := 81) rfl)) rfl
theorem se_X12_sameAct : Cond.selects yX12_sameAct.cls yX12_sameAct yX12_sameAct ∈ ax_G := tw_g (List.mem_of_getElem? (i := 129) rfl) rfl
def mX12_sees : AM := (yX12_sees, cX12_sees, 5, none)
theorem co_X12_sees : ((Jvm.Cond.code ({ cls := "WindowHouseModel", name := "sees", desc := "(LWindowHouseModel$App;)V" } : Jvm.MethodName) prog_12_method_72_code (5 : Nat) (Option.none : Option Jvm.ClassFile.FieldType)) : Cond) ∈ ax_G := tw_g (tw_c8 (List.mem_of_getElem? (i := 70) rfl)) rfl
theorem cb_X12_sees : ax_CB mX12_sees 1 := ⟨co_X12_sees, ini_X12, by decide, by decide, by decide +kernel⟩
theorem im_X12_sees : ((Jvm.Cond.instanceMethod ({ cls := "WindowHouseModel", name := "sees", desc := "(LWindowHouseModel$App;)V" } : Jvm.MethodName)) : Cond) ∈ ax_G := tw_g (tw_c8 (List.mem_of_getElem? (i := 69) rfl)) rfl
theorem se_X12_sees : Cond.selects yX12_sees.cls yX12_sees yX12_sees ∈ ax_G := tw_g (List.mem_of_getElem? (i := 126) rfl) rfl
def mX12_isSeen : AM := (yX12_isSeen, cX12_isSeen, 7, some .boolean)
theorem co_X12_isSeen : ((Jvm.Cond.code ({ cls := "WindowHouseModel", name := "isSeen", desc := "(LWindowHouseModel$App;)Z" } : Jvm.MethodName) prog_12_method_73_code (7 : Nat) (Option.some Jvm.ClassFile.FieldType.boolean)) : Cond) ∈ ax_G := tw_g (tw_c8 (List.mem_of_getElem? (i := 74) rfl)) rfl
theorem cb_X12_isSeen : ax_CB mX12_isSeen 1 := ⟨co_X12_isSeen, ini_X12, by decide, by decide, by decide +kernel⟩
theorem im_X12_isSeen : ((Jvm.Cond.instanceMethod ({ cls := "WindowHouseModel", name := "isSeen", desc := "(LWindowHouseModel$App;)Z" } : Jvm.MethodName)) : Cond) ∈ ax_G := tw_g (tw_c8 (List.mem_of_getElem? (i := 73) rfl)) rfl
theorem se_X12_isSeen : Cond.selects yX12_isSeen.cls yX12_isSeen yX12_isSeen ∈ ax_G := tw_g (List.mem_of_getElem? (i := 127) rfl) rfl
def mX12_isAlike : AM := (yX12_isAlike, cX12_isAlike, 2, some .boolean)
theorem co_X12_isAlike : ((Jvm.Cond.code ({ cls := "WindowHouseModel", name := "isAlike", desc := "(I)Z" } : Jvm.MethodName) prog_12_method_74_code (2 : Nat) (Option.some Jvm.ClassFile.FieldType.boolean)) : Cond) ∈ ax_G := tw_g (tw_c8 (List.mem_of_getElem? (i := 66) rfl)) rfl
theorem cb_X12_isAlike : ax_CB mX12_isAlike 1 := ⟨co_X12_isAlike, ini_X12, by decide, by decide, by decide +kernel⟩
theorem im_X12_isAlike : ((Jvm.Cond.instanceMethod ({ cls := "WindowHouseModel", name := "isAlike", desc := "(I)Z" } : Jvm.MethodName)) : Cond) ∈ ax_G := tw_g (tw_c8 (List.mem_of_getElem? (i := 65) rfl)) rfl
theorem se_X12_isAlike : Cond.selects yX12_isAlike.cls yX12_isAlike yX12_isAlike ∈ ax_G := tw_g (List.mem_of_getElem? (i := 125) rfl) rfl
def mX12_rowOf : AM := (yX12_rowOf, cX12_rowOf, 5, some .int)
theorem co_X12_rowOf : ((Jvm.Cond.code ({ cls := "WindowHouseModel", name := "rowOf", desc := "(II)I" } : Jvm.MethodName) prog_12_method_75_code (5 : Nat) (Option.some Jvm.ClassFile.FieldType.int)) : Cond) ∈ ax_G := tw_g (tw_c8 (List.mem_of_getElem? (i := 78) rfl)) rfl
theorem cb_X12_rowOf : ax_CB mX12_rowOf 2 := ⟨co_X12_rowOf, ini_X12, by decide, by decide, by decide +kernel⟩
theorem im_X12_rowOf : ((Jvm.Cond.instanceMethod ({ cls := "WindowHouseModel", name := "rowOf", desc := "(II)I" } : Jvm.MethodName)) : Cond) ∈ ax_G := tw_g (tw_c8 (List.mem_of_getElem? (i := 77) rfl)) rfl
theorem se_X12_rowOf : Cond.selects yX12_rowOf.cls yX12_rowOf yX12_rowOf ∈ ax_G := tw_g (List.mem_of_getElem? (i := 128) rfl) rfl
def mX12_apart : AM := (yX12_apart, cX12_apart, 14, some .int)
theorem co_X12_apart : ((Jvm.Cond.code ({ cls := "WindowHouseModel", name := "apart", desc := "()I" } : Jvm.MethodName) prog_12_method_76_code (14 : Nat) (Option.some Jvm.ClassFile.FieldType.int)) : Cond) ∈ ax_G := tw_g (tw_c8 (List.mem_of_getElem? (i := 62) rfl)) rfl
theorem cb_X12_apart : ax_CB mX12_apart 0 := ⟨co_X12_apart, ini_X12, by decide, by decide, by decide +kernel⟩
theorem im_X12_apart : ((Jvm.Cond.instanceMethod ({ cls := "WindowHouseModel", name := "apart", desc := "()I" } : Jvm.MethodName)) : Cond) ∈ ax_G := tw_g (tw_c8 (List.mem_of_getElem? (i := 60) rfl)) rfl
theorem se_X12_apart : ((Jvm.Cond.selects "WindowHouseModel" ({ cls := "WindowHouseModel", name := "apart", desc := "()I" } : Jvm.MethodName) ({ cls := "WindowHouseModel", name := "apart", desc := "()I" } : Jvm.MethodName)) : Cond) ∈ ax_G := tw_g (tw_c8 (List.mem_of_getElem? (i := 61) rfl)) rfl
def mX12_count : AM := (yX12_count, cX12_count, 2, some .int)
theorem co_X12_count : ((Jvm.Cond.code ({ cls := "WindowHouseModel", name := "count", desc := "(I)I" } : Jvm.MethodName) prog_12_method_77_code (2 : Nat) (Option.some Jvm.ClassFile.FieldType.int)) : Cond) ∈ ax_G := tw_g (tw_c8 (List.mem_of_getElem? (i := 86) rfl)) rfl
theorem cb_X12_count : ax_CB mX12_count 1 := ⟨co_X12_count, ini_X12, by decide, by decide, by decide +kernel⟩
theorem im_X12_count : ((Jvm.Cond.instanceMethod ({ cls := "WindowHouseModel", name := "count", desc := "(I)I" } : Jvm.MethodName)) : Cond) ∈ ax_G := tw_g (tw_c8 (List.mem_of_getElem? (i := 84) rfl)) rfl
theorem se_X12_count : ((Jvm.Cond.selects "WindowHouseModel" ({ cls := "WindowHouseModel", name := "count", desc := "(I)I" } : Jvm.MethodName) ({ cls := "WindowHouseModel", name := "count", desc := "(I)I" } : Jvm.MethodName)) : Cond) ∈ ax_G := tw_g (tw_c8 (List.mem_of_getElem? (i := 85) rfl)) rfl
def mX12_trouble : AM := (yX12_trouble, cX12_trouble, 1, some .int)
theorem co_X12_trouble : ((Jvm.Cond.code ({ cls := "WindowHouseModel", name := "trouble", desc := "()I" } : Jvm.MethodName) prog_12_method_78_code (1 : Nat) (Option.some Jvm.ClassFile.FieldType.int)) : Cond) ∈ ax_G := tw_g (tw_c8 (List.mem_of_getElem? (i := 90) rfl)) rfl
theorem cb_X12_trouble : ax_CB mX12_trouble 0 := ⟨co_X12_trouble, ini_X12, by decide, by decide, by decide +kernel⟩
theorem im_X12_trouble : ((Jvm.Cond.instanceMethod ({ cls := "WindowHouseModel", name := "trouble", desc := "()I" } : Jvm.MethodName)) : Cond) ∈ ax_G := tw_g (tw_c8 (List.mem_of_getElem? (i := 88) rfl)) rfl
theorem se_X12_trouble : ((Jvm.Cond.selects "WindowHouseModel" ({ cls := "WindowHouseModel", name := "trouble", desc := "()I" } : Jvm.MethodName) ({ cls := "WindowHouseModel", name := "trouble", desc := "()I" } : Jvm.MethodName)) : Cond) ∈ ax_G := tw_g (tw_c8 (List.mem_of_getElem? (i := 89) rfl)) rfl
theorem ini_X0 : ((Jvm.Cond.initialized "WindowHouse$App") : Cond) ∈ ax_G := tw_g (tw_c1 (List.mem_of_getElem? (i := 2) rfl)) rfl
def mX0_init : AM := (yX0_init, cX0_init, 1, none)
theorem co_X0_init : ((Jvm.Cond.code ({ cls := "WindowHouse$App", name := "<init>", desc := "()V" } : Jvm.MethodName) prog_2_method_1_code (1 : Nat) (Option.none : Option Jvm.ClassFile.FieldType)) : Cond) ∈ ax_G := tw_g (tw_c1 (List.mem_of_getElem? (i := 38) rfl)) rfl
theorem cb_X0_init : ax_CB mX0_init 0 := ⟨co_X0_init, ini_X0, by decide, by decide, by decide +kernel⟩
theorem im_X0_init : ((Jvm.Cond.instanceMethod ({ cls := "WindowHouse$App", name := "<init>", desc := "()V" } : Jvm.MethodName)) : Cond) ∈ ax_G := tw_g (tw_c1 (List.mem_of_getElem? (i := 37) rfl)) rfl
def mX0_clear : AM := (yX0_clear, cX0_clear, 1, none)
theorem co_X0_clear : ((Jvm.Cond.code ({ cls := "WindowHouse$App", name := "clear", desc := "()V" } : Jvm.MethodName) prog_2_method_2_code (1 : Nat) (Option.none : Option Jvm.ClassFile.FieldType)) : Cond) ∈ ax_G := tw_g (tw_c2 (List.mem_of_getElem? (i := 189) rfl)) rfl
theorem cb_X0_clear : ax_CB mX0_clear 0 := ⟨co_X0_clear, ini_X0, by decide, by decide, by decide +kernel⟩
theorem im_X0_clear : ((Jvm.Cond.instanceMethod ({ cls := "WindowHouse$App", name := "clear", desc := "()V" } : Jvm.MethodName)) : Cond) ∈ ax_G := tw_g (tw_c2 (List.mem_of_getElem? (i := 188) rfl)) rfl
theorem se_X0_clear : Cond.selects yX0_clear.cls yX0_clear yX0_clear ∈ ax_G := tw_g (List.mem_of_getElem? (i := 3) rfl) rfl
def mX0_addVar : AM := (yX0_addVar, cX0_addVar, 5, none)
theorem co_X0_addVar : ((Jvm.Cond.code ({ cls := "WindowHouse$App", name := "addVar", desc := "(JIZ)V" } : Jvm.MethodName) prog_2_method_3_code (5 : Nat) (Option.none : Option Jvm.ClassFile.FieldType)) : Cond) ∈ ax_G := tw_g (tw_c3 (List.mem_of_getElem? (i := 86) rfl)) rfl
theorem cb_X0_addVar : ax_CB mX0_addVar 3 := ⟨co_X0_addVar, ini_X0, by decide, by decide, by decide +kernel⟩
theorem im_X0_addVar : ((Jvm.Cond.instanceMethod ({ cls := "WindowHouse$App", name := "addVar", desc := "(JIZ)V" } : Jvm.MethodName)) : Cond) ∈ ax_G := tw_g (tw_c3 (List.mem_of_getElem? (i := 85) rfl)) rfl
theorem se_X0_addVar : Cond.selects yX0_addVar.cls yX0_addVar yX0_addVar ∈ ax_G := tw_g (List.mem_of_getElem? (i := 20) rfl) rfl
def mX0_addWindow : AM := (yX0_addWindow, cX0_addWindow, 3, none)
theorem co_X0_addWindow : ((Jvm.Cond.code ({ cls := "WindowHouse$App", name := "addWindow", desc := "(J)V" } : Jvm.MethodName) prog_2_method_4_code (3 : Nat) (Option.none : Option Jvm.ClassFile.FieldType)) : Cond) ∈ ax_G := tw_g (tw_c3 (List.mem_of_getElem? (i := 103) rfl)) rfl
theorem cb_X0_addWindow : ax_CB mX0_addWindow 1 := ⟨co_X0_addWindow, ini_X0, by decide, by decide, by decide +kernel⟩
theorem im_X0_addWindow : ((Jvm.Cond.instanceMethod ({ cls := "WindowHouse$App", name := "addWindow", desc := "(J)V" } : Jvm.MethodName)) : Cond) ∈ ax_G := tw_g (tw_c3 (List.mem_of_getElem? (i := 102) rfl)) rfl
theorem se_X0_addWindow : Cond.selects yX0_addWindow.cls yX0_addWindow yX0_addWindow ∈ ax_G := tw_g (List.mem_of_getElem? (i := 23) rfl) rfl
def mX0_addShow : AM := (yX0_addShow, cX0_addShow, 3, none)
theorem co_X0_addShow : ((Jvm.Cond.code ({ cls := "WindowHouse$App", name := "addShow", desc := "(II)V" } : Jvm.MethodName) prog_2_method_5_code (3 : Nat) (Option.none : Option Jvm.ClassFile.FieldType)) : Cond) ∈ ax_G := tw_g (tw_c3 (List.mem_of_getElem? (i := 125) rfl)) rfl
theorem cb_X0_addShow : ax_CB mX0_addShow 2 := ⟨co_X0_addShow, ini_X0, by decide, by decide, by decide +kernel⟩
theorem im_X0_addShow : ((Jvm.Cond.instanceMethod ({ cls := "WindowHouse$App", name := "addShow", desc := "(II)V" } : Jvm.MethodName)) : Cond) ∈ ax_G := tw_g (tw_c3 (List.mem_of_getElem? (i := 124) rfl)) rfl
theorem se_X0_addShow : Cond.selects yX0_addShow.cls yX0_addShow yX0_addShow ∈ ax_G := tw_g (List.mem_of_getElem? (i := 27) rfl) rfl
def mX0_addButton : AM := (yX0_addButton, cX0_addButton, 4, none)
theorem co_X0_addButton : ((Jvm.Cond.code ({ cls := "WindowHouse$App", name := "addButton", desc := "(IJ)V" } : Jvm.MethodName) prog_2_method_6_code (4 : Nat) (Option.none : Option Jvm.ClassFile.FieldType)) : Cond) ∈ ax_G := tw_g (tw_c3 (List.mem_of_getElem? (i := 137) rfl)) rfl
theorem cb_X0_addButton : ax_CB mX0_addButton 2 := ⟨co_X0_addButton, ini_X0, by decide, by decide, by decide +kernel⟩
theorem im_X0_addButton : ((Jvm.Cond.instanceMethod ({ cls := "WindowHouse$App", name := "addButton", desc := "(IJ)V" } : Jvm.MethodName)) : Cond) ∈ ax_G := tw_g (tw_c3 (List.mem_of_getElem? (i := 136) rfl)) rfl
theorem se_X0_addButton : Cond.selects yX0_addButton.cls yX0_addButton yX0_addButton ∈ ax_G := tw_g (List.mem_of_getElem? (i := 30) rfl) rfl
def mX0_addTimer : AM := (yX0_addTimer, cX0_addTimer, 3, none)
theorem co_X0_addTimer : ((Jvm.Cond.code ({ cls := "WindowHouse$App", name := "addTimer", desc := "(II)V" } : Jvm.MethodName) prog_2_method_7_code (3 : Nat) (Option.none : Option Jvm.ClassFile.FieldType)) : Cond) ∈ ax_G := tw_g (tw_c3 (List.mem_of_getElem? (i := 170) rfl)) rfl
theorem cb_X0_addTimer : ax_CB mX0_addTimer 2 := ⟨co_X0_addTimer, ini_X0, by decide, by decide, by decide +kernel⟩
theorem im_X0_addTimer : ((Jvm.Cond.instanceMethod ({ cls := "WindowHouse$App", name := "addTimer", desc := "(II)V" } : Jvm.MethodName)) : Cond) ∈ ax_G := tw_g (tw_c3 (List.mem_of_getElem? (i := 169) rfl)) rfl
theorem se_X0_addTimer : Cond.selects yX0_addTimer.cls yX0_addTimer yX0_addTimer ∈ ax_G := tw_g (List.mem_of_getElem? (i := 37) rfl) rfl
def mX0_varNamed : AM := (yX0_varNamed, cX0_varNamed, 3, some .int)
theorem co_X0_varNamed : ((Jvm.Cond.code ({ cls := "WindowHouse$App", name := "varNamed", desc := "(J)I" } : Jvm.MethodName) prog_2_method_8_code (3 : Nat) (Option.some Jvm.ClassFile.FieldType.int)) : Cond) ∈ ax_G := tw_g (tw_c3 (List.mem_of_getElem? (i := 70) rfl)) rfl
theorem cb_X0_varNamed : ax_CB mX0_varNamed 1 := ⟨co_X0_varNamed, ini_X0, by decide, by decide, by decide +kernel⟩
theorem im_X0_varNamed : ((Jvm.Cond.instanceMethod ({ cls := "WindowHouse$App", name := "varNamed", desc := "(J)I" } : Jvm.MethodName)) : Cond) ∈ ax_G := tw_g (tw_c3 (List.mem_of_getElem? (i := 69) rfl)) rfl
theorem se_X0_varNamed : Cond.selects yX0_varNamed.cls yX0_varNamed yX0_varNamed ∈ ax_G := tw_g (List.mem_of_getElem? (i := 16) rfl) rfl
def mX0_windowNamed : AM := (yX0_windowNamed, cX0_windowNamed, 3, some .int)
theorem co_X0_windowNamed : ((Jvm.Cond.code ({ cls := "WindowHouse$App", name := "windowNamed", desc := "(J)I" } : Jvm.MethodName) prog_2_method_9_code (3 : Nat) (Option.some Jvm.ClassFile.FieldType.int)) : Cond) ∈ ax_G := tw_g (tw_c2 (List.mem_of_getElem? (i := 228) rfl)) rfl
theorem cb_X0_windowNamed : ax_CB mX0_windowNamed 1 := ⟨co_X0_windowNamed, ini_X0, by decide, by decide, by decide +kernel⟩
theorem im_X0_windowNamed : ((Jvm.Cond.instanceMethod ({ cls := "WindowHouse$App", name := "windowNamed", desc := "(J)I" } : Jvm.MethodName)) : Cond) ∈ ax_G := tw_g (tw_c2 (List.mem_of_getElem? (i := 227) rfl)) rfl
theorem se_X0_windowNamed : Cond.selects yX0_windowNamed.cls yX0_windowNamed yX0_windowNamed ∈ ax_G := tw_g (List.mem_of_getElem? (i := 9) rfl) rfl
def mX0_buttonNamed : AM := (yX0_buttonNamed, cX0_buttonNamed, 4, some .int)
theorem co_X0_buttonNamed : ((Jvm.Cond.code ({ cls := "WindowHouse$App", name := "buttonNamed", desc := "(IJ)I" } : Jvm.MethodName) prog_2_method_10_code (4 : Nat) (Option.some Jvm.ClassFile.FieldType.int)) : Cond) ∈ ax_G := tw_g (tw_c3 (List.mem_of_getElem? (i := 133) rfl)) rfl
theorem cb_X0_buttonNamed : ax_CB mX0_buttonNamed 2 := ⟨co_X0_buttonNamed, ini_X0, by decide, by decide, by decide +kernel⟩
theorem im_X0_buttonNamed : ((Jvm.Cond.instanceMethod ({ cls := "WindowHouse$App", name := "buttonNamed", desc := "(IJ)I" } : Jvm.MethodName)) : Cond) ∈ ax_G := tw_g (tw_c3 (List.mem_of_getElem? (i := 132) rfl)) rfl
theorem se_X0_buttonNamed : Cond.selects yX0_buttonNamed.cls yX0_buttonNamed yX0_buttonNamed ∈ ax_G := tw_g (List.mem_of_getElem? (i := 29) rfl) rfl
def mX0_placeOf : AM := (yX0_placeOf, cX0_placeOf, 6, some .int)
theorem co_X0_placeOf : ((Jvm.Cond.code ({ cls := "WindowHouse$App", name := "placeOf", desc := "(J[JII)I" } : Jvm.MethodName) prog_2_method_11_code (6 : Nat) (Option.some Jvm.ClassFile.FieldType.int)) : Cond) ∈ ax_G := tw_g (tw_c2 (List.mem_of_getElem? (i := 231) rfl)) rfl
theorem cb_X0_placeOf : ax_CB mX0_placeOf 4 := ⟨co_X0_placeOf, ini_X0, by decide, by decide, by decide +kernel⟩
theorem st_X0_placeOf : ((Jvm.Cond.static ({ cls := "WindowHouse$App", name := "placeOf", desc := "(J[JII)I" } : Jvm.MethodName)) : Cond) ∈ ax_G := tw_g (tw_c2 (List.mem_of_getElem? (i := 230) rfl)) rfl
def mX0_beginning : AM := (yX0_beginning, cX0_beginning, 1, some .long)
theorem co_X0_beginning : ((Jvm.Cond.code ({ cls := "WindowHouse$App", name := "beginning", desc := "()J" } : Jvm.MethodName) prog_2_method_12_code (1 : Nat) (Option.some Jvm.ClassFile.FieldType.long)) : Cond) ∈ ax_G := tw_g (tw_c3 (List.mem_of_getElem? (i := 203) rfl)) rfl
theorem cb_X0_beginning : ax_CB mX0_beginning 0 := ⟨co_X0_beginning, ini_X0, by decide, by decide, by decide +kernel⟩
theorem im_X0_beginning : ((Jvm.Cond.instanceMethod ({ cls := "WindowHouse$App", name := "beginning", desc := "()J" } : Jvm.MethodName)) : Cond) ∈ ax_G := tw_g (tw_c3 (List.mem_of_getElem? (i := 202) rfl)) rfl
theorem se_X0_beginning : Cond.selects yX0_beginning.cls yX0_beginning yX0_beginning ∈ ax_G := tw_g (List.mem_of_getElem? (i := 44) rfl) rfl
def mX0_possible : AM := (yX0_possible, cX0_possible, 5, some .boolean)
theorem co_X0_possible : ((Jvm.Cond.code ({ cls := "WindowHouse$App", name := "possible", desc := "(JI)Z" } : Jvm.MethodName) prog_2_method_13_code (5 : Nat) (Option.some Jvm.ClassFile.FieldType.boolean)) : Cond) ∈ ax_G := tw_g (tw_c4 (List.mem_of_getElem? (i := 7) rfl)) rfl
theorem cb_X0_possible : ax_CB mX0_possible 2 := ⟨co_X0_possible, ini_X0, by decide, by decide, by decide +kernel⟩
theorem im_X0_possible : ((Jvm.Cond.instanceMethod ({ cls := "WindowHouse$App", name := "possible", desc := "(JI)Z" } : Jvm.MethodName)) : Cond) ∈ ax_G := tw_g (tw_c4 (List.mem_of_getElem? (i := 6) rfl)) rfl
theorem se_X0_possible : Cond.selects yX0_possible.cls yX0_possible yX0_possible ∈ ax_G := tw_g (List.mem_of_getElem? (i := 48) rfl) rfl
def mX0_possibleMany : AM := (yX0_possibleMany, cX0_possibleMany, 5, some .int)
theorem co_X0_possibleMany : ((Jvm.Cond.code ({ cls := "WindowHouse$App", name := "possibleMany", desc := "(J)I" } : Jvm.MethodName) prog_2_method_14_code (5 : Nat) (Option.some Jvm.ClassFile.FieldType.int)) : Cond) ∈ ax_G := tw_g (tw_c4 (List.mem_of_getElem? (i := 64) rfl)) rfl
theorem cb_X0_possibleMany : ax_CB mX0_possibleMany 1 := ⟨co_X0_possibleMany, ini_X0, by decide, by decide, by decide +kernel⟩
theorem im_X0_possibleMany : ((Jvm.Cond.instanceMethod ({ cls := "WindowHouse$App", name := "possibleMany", desc := "(J)I" } : Jvm.MethodName)) : Cond) ∈ ax_G := tw_g (tw_c4 (List.mem_of_getElem? (i := 63) rfl)) rfl
theorem se_X0_possibleMany : Cond.selects yX0_possibleMany.cls yX0_possibleMany yX0_possibleMany ∈ ax_G := tw_g (List.mem_of_getElem? (i := 53) rfl) rfl
def mX0_after : AM := (yX0_after, cX0_after, 6, some .long)
theorem co_X0_after : ((Jvm.Cond.code ({ cls := "WindowHouse$App", name := "after", desc := "(JI)J" } : Jvm.MethodName) prog_2_method_15_code (6 : Nat) (Option.some Jvm.ClassFile.FieldType.long)) : Cond) ∈ ax_G := tw_g (tw_c4 (List.mem_of_getElem? (i := 25) rfl)) rfl
theorem cb_X0_after : ax_CB mX0_after 2 := ⟨co_X0_after, ini_X0, by decide, by decide, by decide +kernel⟩
theorem im_X0_after : ((Jvm.Cond.instanceMethod ({ cls := "WindowHouse$App", name := "after", desc := "(JI)J" } : Jvm.MethodName)) : Cond) ∈ ax_G := tw_g (tw_c4 (List.mem_of_getElem? (i := 24) rfl)) rfl
theorem se_X0_after : Cond.selects yX0_after.cls yX0_after yX0_after ∈ ax_G := tw_g (List.mem_of_getElem? (i := 50) rfl) rfl
def mX0_tryAct : AM := (yX0_tryAct, cX0_tryAct, 4, some .long)
theorem co_X0_tryAct : ((Jvm.Cond.code ({ cls := "WindowHouse$App", name := "tryAct", desc := "(JI)J" } : Jvm.MethodName) prog_2_method_16_code (4 : Nat) (Option.some Jvm.ClassFile.FieldType.long)) : Cond) ∈ ax_G := tw_g (tw_c5 (List.mem_of_getElem? (i := 38) rfl)) rfl
theorem cb_X0_tryAct : ax_CB mX0_tryAct 2 := ⟨co_X0_tryAct, ini_X0, by decide, by decide, by decide +kernel⟩
theorem im_X0_tryAct : ((Jvm.Cond.instanceMethod ({ cls := "WindowHouse$App", name := "tryAct", desc := "(JI)J" } : Jvm.MethodName)) : Cond) ∈ ax_G := tw_g (tw_c5 (List.mem_of_getElem? (i := 37) rfl)) rfl
theorem se_X0_tryAct : Cond.selects yX0_tryAct.cls yX0_tryAct yX0_tryAct ∈ ax_G := tw_g (List.mem_of_getElem? (i := 81) rfl) rfl
def mX0_afterDeeds : AM := (yX0_afterDeeds, cX0_afterDeeds, 10, some .long)
theorem co_X0_afterDeeds : ((Jvm.Cond.code ({ cls := "WindowHouse$App", name := "afterDeeds", desc := "(JI)J" } : Jvm.MethodName) prog_2_method_17_code (10 : Nat) (Option.some Jvm.ClassFile.FieldType.long)) : Cond) ∈ ax_G := tw_g (tw_c4 (List.mem_of_getElem? (i := 32) rfl)) rfl
theorem cb_X0_afterDeeds : ax_CB mX0_afterDeeds 2 := ⟨co_X0_afterDeeds, ini_X0, by decide, by decide, by decide +kernel⟩
theorem im_X0_afterDeeds : ((Jvm.Cond.instanceMethod ({ cls := "WindowHouse$App", name := "afterDeeds", desc := "(JI)J" } : Jvm.MethodName)) : Cond) ∈ ax_G := tw_g (tw_c4 (List.mem_of_getElem? (i := 31) rfl)) rfl
theorem se_X0_afterDeeds : Cond.selects yX0_afterDeeds.cls yX0_afterDeeds yX0_afterDeeds ∈ ax_G := tw_g (List.mem_of_getElem? (i := 51) rfl) rfl
def mX0_sumIn : AM := (yX0_sumIn, cX0_sumIn, 4, some .int)
theorem co_X0_sumIn : ((Jvm.Cond.code ({ cls := "WindowHouse$App", name := "sumIn", desc := "(II)I" } : Jvm.MethodName) prog_2_method_18_code (4 : Nat) (Option.some Jvm.ClassFile.FieldType.int)) : Cond) ∈ ax_G := tw_g (tw_c4 (List.mem_of_getElem? (i := 40) rfl)) rfl
theorem cb_X0_sumIn : ax_CB mX0_sumIn 2 := ⟨co_X0_sumIn, ini_X0, by decide, by decide, by decide +kernel⟩
theorem im_X0_sumIn : ((Jvm.Cond.instanceMethod ({ cls := "WindowHouse$App", name := "sumIn", desc := "(II)I" } : Jvm.MethodName)) : Cond) ∈ ax_G := tw_g (tw_c4 (List.mem_of_getElem? (i := 39) rfl)) rfl
theorem se_X0_sumIn : Cond.selects yX0_sumIn.cls yX0_sumIn yX0_sumIn ∈ ax_G := tw_g (List.mem_of_getElem? (i := 52) rfl) rfl
def mX0_viewOf : AM := (yX0_viewOf, cX0_viewOf, 7, some .long)
theorem co_X0_viewOf : ((Jvm.Cond.code ({ cls := "WindowHouse$App", name := "viewOf", desc := "(J)J" } : Jvm.MethodName) prog_2_method_19_code (7 : Nat) (Option.some Jvm.ClassFile.FieldType.long)) : Cond) ∈ ax_G := tw_g (tw_c4 (List.mem_of_getElem? (i := 143) rfl)) rfl
theorem cb_X0_viewOf : ax_CB mX0_viewOf 1 := ⟨co_X0_viewOf, ini_X0, by decide, by decide, by decide +kernel⟩
theorem im_X0_viewOf : ((Jvm.Cond.instanceMethod ({ cls := "WindowHouse$App", name := "viewOf", desc := "(J)J" } : Jvm.MethodName)) : Cond) ∈ ax_G := tw_g (tw_c4 (List.mem_of_getElem? (i := 142) rfl)) rfl
theorem se_X0_viewOf : Cond.selects yX0_viewOf.cls yX0_viewOf yX0_viewOf ∈ ax_G := tw_g (List.mem_of_getElem? (i := 65) rfl) rfl
def mX0_shownIn : AM := (yX0_shownIn, cX0_shownIn, 5, some .int)
theorem co_X0_shownIn : ((Jvm.Cond.code ({ cls := "WindowHouse$App", name := "shownIn", desc := "(JII)I" } : Jvm.MethodName) prog_2_method_20_code (5 : Nat) (Option.some Jvm.ClassFile.FieldType.int)) : Cond) ∈ ax_G := tw_g (tw_c4 (List.mem_of_getElem? (i := 148) rfl)) rfl
theorem cb_X0_shownIn : ax_CB mX0_shownIn 3 := ⟨co_X0_shownIn, ini_X0, by decide, by decide, by decide +kernel⟩
theorem im_X0_shownIn : ((Jvm.Cond.instanceMethod ({ cls := "WindowHouse$App", name := "shownIn", desc := "(JII)I" } : Jvm.MethodName)) : Cond) ∈ ax_G := tw_g (tw_c4 (List.mem_of_getElem? (i := 147) rfl)) rfl
theorem se_X0_shownIn : Cond.selects yX0_shownIn.cls yX0_shownIn yX0_shownIn ∈ ax_G := tw_g (List.mem_of_getElem? (i := 66) rfl) rfl
theorem ini_X1 : ((Jvm.Cond.initialized "WindowHouse$Atlas") : Cond) ∈ ax_G := tw_g (tw_c1 (List.mem_of_getElem? (i := 7) rfl)) rfl
def mX1_init : AM := (yX1_init, cX1_init, 2, none)
theorem co_X1_init : ((Jvm.Cond.code ({ cls := "WindowHouse$Atlas", name := "<init>", desc := "(LWindowHouse$App;)V" } : Jvm.MethodName) prog_3_method_1_code (2 : Nat) (Option.none : Option Jvm.ClassFile.FieldType)) : Cond) ∈ ax_G := tw_g (tw_c2 (List.mem_of_getElem? (i := 24) rfl)) rfl
theorem cb_X1_init : ax_CB mX1_init 1 := ⟨co_X1_init, ini_X1, by decide, by decide, by decide +kernel⟩
theorem im_X1_init : ((Jvm.Cond.instanceMethod ({ cls := "WindowHouse$Atlas", name := "<init>", desc := "(LWindowHouse$App;)V" } : Jvm.MethodName)) : Cond) ∈ ax_G := tw_g (tw_c2 (List.mem_of_getElem? (i := 23) rfl)) rfl
def mX1_drop : AM := (yX1_drop, cX1_drop, 1, none)
theorem co_X1_drop : ((Jvm.Cond.code ({ cls := "WindowHouse$Atlas", name := "drop", desc := "()V" } : Jvm.MethodName) prog_3_method_2_code (1 : Nat) (Option.none : Option Jvm.ClassFile.FieldType)) : Cond) ∈ ax_G := tw_g (tw_c3 (List.mem_of_getElem? (i := 214) rfl)) rfl
theorem cb_X1_drop : ax_CB mX1_drop 0 := ⟨co_X1_drop, ini_X1, by decide, by decide, by decide +kernel⟩
theorem im_X1_drop : ((Jvm.Cond.instanceMethod ({ cls := "WindowHouse$Atlas", name := "drop", desc := "()V" } : Jvm.MethodName)) : Cond) ∈ ax_G := tw_g (tw_c3 (List.mem_of_getElem? (i := 213) rfl)) rfl
theorem se_X1_drop : Cond.selects yX1_drop.cls yX1_drop yX1_drop ∈ ax_G := tw_g (List.mem_of_getElem? (i := 45) rfl) rfl
def mX1_stands : AM := (yX1_stands, cX1_stands, 1, some .boolean)
theorem co_X1_stands : ((Jvm.Cond.code ({ cls := "WindowHouse$Atlas", name := "stands", desc := "()Z" } : Jvm.MethodName) prog_3_method_3_code (1 : Nat) (Option.some Jvm.ClassFile.FieldType.boolean)) : Cond) ∈ ax_G := tw_g (tw_c4 (List.mem_of_getElem? (i := 119) rfl)) rfl
theorem cb_X1_stands : ax_CB mX1_stands 0 := ⟨co_X1_stands, ini_X1, by decide, by decide, by decide +kernel⟩
theorem im_X1_stands : ((Jvm.Cond.instanceMethod ({ cls := "WindowHouse$Atlas", name := "stands", desc := "()Z" } : Jvm.MethodName)) : Cond) ∈ ax_G := tw_g (tw_c4 (List.mem_of_getElem? (i := 118) rfl)) rfl
theorem se_X1_stands : Cond.selects yX1_stands.cls yX1_stands yX1_stands ∈ ax_G := tw_g (List.mem_of_getElem? (i := 60) rfl) rfl
def mX1_many : AM := (yX1_many, cX1_many, 1, some .int)
theorem co_X1_many : ((Jvm.Cond.code ({ cls := "WindowHouse$Atlas", name := "many", desc := "()I" } : Jvm.MethodName) prog_3_method_4_code (1 : Nat) (Option.some Jvm.ClassFile.FieldType.int)) : Cond) ∈ ax_G := tw_g (tw_c4 (List.mem_of_getElem? (i := 115) rfl)) rfl
theorem cb_X1_many : ax_CB mX1_many 0 := ⟨co_X1_many, ini_X1, by decide, by decide, by decide +kernel⟩
theorem im_X1_many : ((Jvm.Cond.instanceMethod ({ cls := "WindowHouse$Atlas", name := "many", desc := "()I" } : Jvm.MethodName)) : Cond) ∈ ax_G := tw_g (tw_c4 (List.mem_of_getElem? (i := 114) rfl)) rfl
theorem se_X1_many : Cond.selects yX1_many.cls yX1_many yX1_many ∈ ax_G := tw_g (List.mem_of_getElem? (i := 59) rfl) rfl
def mX1_made : AM := (yX1_made, cX1_made, 4, some .boolean)
theorem co_X1_made : ((Jvm.Cond.code ({ cls := "WindowHouse$Atlas", name := "made", desc := "(LWindowHouse$App;I)Z" } : Jvm.MethodName) prog_3_method_5_code (4 : Nat) (Option.some Jvm.ClassFile.FieldType.boolean)) : Cond) ∈ ax_G := tw_g (tw_c4 (List.mem_of_getElem? (i := 86) rfl)) rfl
theorem cb_X1_made : ax_CB mX1_made 2 := ⟨co_X1_made, ini_X1, by decide, by decide, by decide +kernel⟩
theorem im_X1_made : ((Jvm.Cond.instanceMethod ({ cls := "WindowHouse$Atlas", name := "made", desc := "(LWindowHouse$App;I)Z" } : Jvm.MethodName)) : Cond) ∈ ax_G := tw_g (tw_c4 (List.mem_of_getElem? (i := 85) rfl)) rfl
theorem se_X1_made : Cond.selects yX1_made.cls yX1_made yX1_made ∈ ax_G := tw_g (List.mem_of_getElem? (i := 54) rfl) rfl
def mX1_goneFrom : AM := (yX1_goneFrom, cX1_goneFrom, 7, some .boolean)
theorem co_X1_goneFrom : ((Jvm.Cond.code ({ cls := "WindowHouse$Atlas", name := "goneFrom", desc := "(LWindowHouse$App;I)Z" } : Jvm.MethodName) prog_3_method_6_code (7 : Nat) (Option.some Jvm.ClassFile.FieldType.boolean)) : Cond) ∈ ax_G := tw_g (tw_c4 (List.mem_of_getElem? (i := 109) rfl)) rfl
theorem cb_X1_goneFrom : ax_CB mX1_goneFrom 2 := ⟨co_X1_goneFrom, ini_X1, by decide, by decide, by decide +kernel⟩
theorem im_X1_goneFrom : ((Jvm.Cond.instanceMethod ({ cls := "WindowHouse$Atlas", name := "goneFrom", desc := "(LWindowHouse$App;I)Z" } : Jvm.MethodName)) : Cond) ∈ ax_G := tw_g (tw_c4 (List.mem_of_getElem? (i := 108) rfl)) rfl
theorem se_X1_goneFrom : Cond.selects yX1_goneFrom.cls yX1_goneFrom yX1_goneFrom ∈ ax_G := tw_g (List.mem_of_getElem? (i := 58) rfl) rfl
def mX1_waysFrom : AM := (yX1_waysFrom, cX1_waysFrom, 4, some .int)
theorem co_X1_waysFrom : ((Jvm.Cond.code ({ cls := "WindowHouse$Atlas", name := "waysFrom", desc := "(I)I" } : Jvm.MethodName) prog_3_method_7_code (4 : Nat) (Option.some Jvm.ClassFile.FieldType.int)) : Cond) ∈ ax_G := tw_g (tw_c4 (List.mem_of_getElem? (i := 127) rfl)) rfl
theorem cb_X1_waysFrom : ax_CB mX1_waysFrom 1 := ⟨co_X1_waysFrom, ini_X1, by decide, by decide, by decide +kernel⟩
theorem im_X1_waysFrom : ((Jvm.Cond.instanceMethod ({ cls := "WindowHouse$Atlas", name := "waysFrom", desc := "(I)I" } : Jvm.MethodName)) : Cond) ∈ ax_G := tw_g (tw_c4 (List.mem_of_getElem? (i := 126) rfl)) rfl
theorem se_X1_waysFrom : Cond.selects yX1_waysFrom.cls yX1_waysFrom yX1_waysFrom ∈ ax_G := tw_g (List.mem_of_getElem? (i := 61) rfl) rfl
def mX1_waysMany : AM := (yX1_waysMany, cX1_waysMany, 3, some .int)
theorem co_X1_waysMany : ((Jvm.Cond.code ({ cls := "WindowHouse$Atlas", name := "waysMany", desc := "()I" } : Jvm.MethodName) prog_3_method_8_code (3 : Nat) (Option.some Jvm.ClassFile.FieldType.int)) : Cond) ∈ ax_G := tw_g (tw_c5 (List.mem_of_getElem? (i := 17) rfl)) rfl
theorem cb_X1_waysMany : ax_CB mX1_waysMany 0 := ⟨co_X1_waysMany, ini_X1, by decide, by decide, by decide +kernel⟩
theorem im_X1_waysMany : ((Jvm.Cond.instanceMethod ({ cls := "WindowHouse$Atlas", name := "waysMany", desc := "()I" } : Jvm.MethodName)) : Cond) ∈ ax_G := tw_g (tw_c5 (List.mem_of_getElem? (i := 16) rfl)) rfl
theorem se_X1_waysMany : Cond.selects yX1_waysMany.cls yX1_waysMany yX1_waysMany ∈ ax_G := tw_g (List.mem_of_getElem? (i := 79) rfl) rfl
def mX1_deepest : AM := (yX1_deepest, cX1_deepest, 3, some .int)
theorem co_X1_deepest : ((Jvm.Cond.code ({ cls := "WindowHouse$Atlas", name := "deepest", desc := "()I" } : Jvm.MethodName) prog_3_method_9_code (3 : Nat) (Option.some Jvm.ClassFile.FieldType.int)) : Cond) ∈ ax_G := tw_g (tw_c5 (List.mem_of_getElem? (i := 6) rfl)) rfl
theorem cb_X1_deepest : ax_CB mX1_deepest 0 := ⟨co_X1_deepest, ini_X1, by decide, by decide, by decide +kernel⟩
theorem im_X1_deepest : ((Jvm.Cond.instanceMethod ({ cls := "WindowHouse$Atlas", name := "deepest", desc := "()I" } : Jvm.MethodName)) : Cond) ∈ ax_G := tw_g (tw_c5 (List.mem_of_getElem? (i := 5) rfl)) rfl
theorem se_X1_deepest : Cond.selects yX1_deepest.cls yX1_deepest yX1_deepest ∈ ax_G := tw_g (List.mem_of_getElem? (i := 78) rfl) rfl
def mX1_firstOfFault : AM := (yX1_firstOfFault, cX1_firstOfFault, 3, some .int)
theorem co_X1_firstOfFault : ((Jvm.Cond.code ({ cls := "WindowHouse$Atlas", name := "firstOfFault", desc := "(I)I" } : Jvm.MethodName) prog_3_method_10_code (3 : Nat) (Option.some Jvm.ClassFile.FieldType.int)) : Cond) ∈ ax_G := tw_g (tw_c4 (List.mem_of_getElem? (i := 181) rfl)) rfl
theorem cb_X1_firstOfFault : ax_CB mX1_firstOfFault 1 := ⟨co_X1_firstOfFault, ini_X1, by decide, by decide, by decide +kernel⟩
theorem im_X1_firstOfFault : ((Jvm.Cond.instanceMethod ({ cls := "WindowHouse$Atlas", name := "firstOfFault", desc := "(I)I" } : Jvm.MethodName)) : Cond) ∈ ax_G := tw_g (tw_c4 (List.mem_of_getElem? (i := 180) rfl)) rfl
theorem se_X1_firstOfFault : Cond.selects yX1_firstOfFault.cls yX1_firstOfFault yX1_firstOfFault ∈ ax_G := tw_g (List.mem_of_getElem? (i := 70) rfl) rfl
def mX1_firstOfPressed : AM := (yX1_firstOfPressed, cX1_firstOfPressed, 3, some .int)
theorem co_X1_firstOfPressed : ((Jvm.Cond.code ({ cls := "WindowHouse$Atlas", name := "firstOfPressed", desc := "(I)I" } : Jvm.MethodName) prog_3_method_11_code (3 : Nat) (Option.some Jvm.ClassFile.FieldType.int)) : Cond) ∈ ax_G := tw_g (tw_c4 (List.mem_of_getElem? (i := 190) rfl)) rfl
theorem cb_X1_firstOfPressed : ax_CB mX1_firstOfPressed 1 := ⟨co_X1_firstOfPressed, ini_X1, by decide, by decide, by decide +kernel⟩
theorem im_X1_firstOfPressed : ((Jvm.Cond.instanceMethod ({ cls := "WindowHouse$Atlas", name := "firstOfPressed", desc := "(I)I" } : Jvm.MethodName)) : Cond) ∈ ax_G := tw_g (tw_c4 (List.mem_of_getElem? (i := 189) rfl)) rfl
theorem se_X1_firstOfPressed : Cond.selects yX1_firstOfPressed.cls yX1_firstOfPressed yX1_firstOfPressed ∈ ax_G := tw_g (List.mem_of_getElem? (i := 71) rfl) rfl
def mX1_neverMany : AM := (yX1_neverMany, cX1_neverMany, 3, some .int)
theorem co_X1_neverMany : ((Jvm.Cond.code ({ cls := "WindowHouse$Atlas", name := "neverMany", desc := "()I" } : Jvm.MethodName) prog_3_method_12_code (3 : Nat) (Option.some Jvm.ClassFile.FieldType.int)) : Cond) ∈ ax_G := tw_g (tw_c4 (List.mem_of_getElem? (i := 198) rfl)) rfl
theorem cb_X1_neverMany : ax_CB mX1_neverMany 0 := ⟨co_X1_neverMany, ini_X1, by decide, by decide, by decide +kernel⟩
theorem im_X1_neverMany : ((Jvm.Cond.instanceMethod ({ cls := "WindowHouse$Atlas", name := "neverMany", desc := "()I" } : Jvm.MethodName)) : Cond) ∈ ax_G := tw_g (tw_c4 (List.mem_of_getElem? (i := 197) rfl)) rfl
theorem se_X1_neverMany : Cond.selects yX1_neverMany.cls yX1_neverMany yX1_neverMany ∈ ax_G := tw_g (List.mem_of_getElem? (i := 72) rfl) rfl
def mX1_firstOfValue : AM := (yX1_firstOfValue, cX1_firstOfValue, 4, some .int)
theorem co_X1_firstOfValue : ((Jvm.Cond.code ({ cls := "WindowHouse$Atlas", name := "firstOfValue", desc := "(II)I" } : Jvm.MethodName) prog_3_method_13_code (4 : Nat) (Option.some Jvm.ClassFile.FieldType.int)) : Cond) ∈ ax_G := tw_g (tw_c4 (List.mem_of_getElem? (i := 207) rfl)) rfl
theorem cb_X1_firstOfValue : ax_CB mX1_firstOfValue 2 := ⟨co_X1_firstOfValue, ini_X1, by decide, by decide, by decide +kernel⟩
theorem im_X1_firstOfValue : ((Jvm.Cond.instanceMethod ({ cls := "WindowHouse$Atlas", name := "firstOfValue", desc := "(II)I" } : Jvm.MethodName)) : Cond) ∈ ax_G := tw_g (tw_c4 (List.mem_of_getElem? (i := 206) rfl)) rfl
theorem se_X1_firstOfValue : Cond.selects yX1_firstOfValue.cls yX1_firstOfValue yX1_firstOfValue ∈ ax_G := tw_g (List.mem_of_getElem? (i := 73) rfl) rfl
def mX1_firstWithoutWayTo : AM := (yX1_firstWithoutWayTo, cX1_firstWithoutWayTo, 4, some .int)
theorem co_X1_firstWithoutWayTo : ((Jvm.Cond.code ({ cls := "WindowHouse$Atlas", name := "firstWithoutWayTo", desc := "(I)I" } : Jvm.MethodName) prog_3_method_14_code (4 : Nat) (Option.some Jvm.ClassFile.FieldType.int)) : Cond) ∈ ax_G := tw_g (tw_c4 (List.mem_of_getElem? (i := 216) rfl)) rfl
theorem cb_X1_firstWithoutWayTo : ax_CB mX1_firstWithoutWayTo 1 := ⟨co_X1_firstWithoutWayTo, ini_X1, by decide, by decide, by decide +kernel⟩
theorem im_X1_firstWithoutWayTo : ((Jvm.Cond.instanceMethod ({ cls := "WindowHouse$Atlas", name := "firstWithoutWayTo", desc := "(I)I" } : Jvm.MethodName)) : Cond) ∈ ax_G := tw_g (tw_c4 (List.mem_of_getElem? (i := 215) rfl)) rfl
theorem se_X1_firstWithoutWayTo : Cond.selects yX1_firstWithoutWayTo.cls yX1_firstWithoutWayTo yX1_firstWithoutWayTo ∈ ax_G := tw_g (List.mem_of_getElem? (i := 74) rfl) rfl
def mX1_markMore : AM := (yX1_markMore, cX1_markMore, 3, some .boolean)
theorem co_X1_markMore : ((Jvm.Cond.code ({ cls := "WindowHouse$Atlas", name := "markMore", desc := "()Z" } : Jvm.MethodName) prog_3_method_15_code (3 : Nat) (Option.some Jvm.ClassFile.FieldType.boolean)) : Cond) ∈ ax_G := tw_g (tw_c4 (List.mem_of_getElem? (i := 221) rfl)) rfl
theorem cb_X1_markMore : ax_CB mX1_markMore 0 := ⟨co_X1_markMore, ini_X1, by decide, by decide, by decide +kernel⟩
theorem im_X1_markMore : ((Jvm.Cond.instanceMethod ({ cls := "WindowHouse$Atlas", name := "markMore", desc := "()Z" } : Jvm.MethodName)) : Cond) ∈ ax_G := tw_g (tw_c4 (List.mem_of_getElem? (i := 220) rfl)) rfl
theorem se_X1_markMore : Cond.selects yX1_markMore.cls yX1_markMore yX1_markMore ∈ ax_G := tw_g (List.mem_of_getElem? (i := 75) rfl) rfl
def mX1_leadsToMarked : AM := (yX1_leadsToMarked, cX1_leadsToMarked, 4, some .boolean)
theorem co_X1_leadsToMarked : ((Jvm.Cond.code ({ cls := "WindowHouse$Atlas", name := "leadsToMarked", desc := "(I)Z" } : Jvm.MethodName) prog_3_method_16_code (4 : Nat) (Option.some Jvm.ClassFile.FieldType.boolean)) : Cond) ∈ ax_G := tw_g (tw_c4 (List.mem_of_getElem? (i := 225) rfl)) rfl
theorem cb_X1_leadsToMarked : ax_CB mX1_leadsToMarked 1 := ⟨co_X1_leadsToMarked, ini_X1, by decide, by decide, by decide +kernel⟩
theorem im_X1_leadsToMarked : ((Jvm.Cond.instanceMethod ({ cls := "WindowHouse$Atlas", name := "leadsToMarked", desc := "(I)Z" } : Jvm.MethodName)) : Cond) ∈ ax_G := tw_g (tw_c4 (List.mem_of_getElem? (i := 224) rfl)) rfl
theorem se_X1_leadsToMarked : Cond.selects yX1_leadsToMarked.cls yX1_leadsToMarked yX1_leadsToMarked ∈ ax_G := tw_g (List.mem_of_getElem? (i := 76) rfl) rfl
def mX1_viewsMany : AM := (yX1_viewsMany, cX1_viewsMany, 2, some .int)
theorem co_X1_viewsMany : ((Jvm.Cond.code ({ cls := "WindowHouse$Atlas", name := "viewsMany", desc := "()I" } : Jvm.MethodName) prog_3_method_17_code (2 : Nat) (Option.some Jvm.ClassFile.FieldType.int)) : Cond) ∈ ax_G := tw_g (tw_c4 (List.mem_of_getElem? (i := 238) rfl)) rfl
theorem cb_X1_viewsMany : ax_CB mX1_viewsMany 0 := ⟨co_X1_viewsMany, ini_X1, by decide, by decide, by decide +kernel⟩
theorem im_X1_viewsMany : ((Jvm.Cond.instanceMethod ({ cls := "WindowHouse$Atlas", name := "viewsMany", desc := "()I" } : Jvm.MethodName)) : Cond) ∈ ax_G := tw_g (tw_c4 (List.mem_of_getElem? (i := 237) rfl)) rfl
theorem se_X1_viewsMany : Cond.selects yX1_viewsMany.cls yX1_viewsMany yX1_viewsMany ∈ ax_G := tw_g (List.mem_of_getElem? (i := 77) rfl) rfl
def mX1_kindsMany : AM := (yX1_kindsMany, cX1_kindsMany, 1, some .int)
theorem co_X1_kindsMany : ((Jvm.Cond.code ({ cls := "WindowHouse$Atlas", name := "kindsMany", desc := "()I" } : Jvm.MethodName) prog_3_method_18_code (1 : Nat) (Option.some Jvm.ClassFile.FieldType.int)) : Cond) ∈ ax_G := tw_g (tw_c4 (List.mem_of_getElem? (i := 135) rfl)) rfl
theorem cb_X1_kindsMany : ax_CB mX1_kindsMany 0 := ⟨co_X1_kindsMany, ini_X1, by decide, by decide, by decide +kernel⟩
theorem im_X1_kindsMany : ((Jvm.Cond.instanceMethod ({ cls := "WindowHouse$Atlas", name := "kindsMany", desc := "()I" } : Jvm.MethodName)) : Cond) ∈ ax_G := tw_g (tw_c4 (List.mem_of_getElem? (i := 134) rfl)) rfl
theorem se_X1_kindsMany : Cond.selects yX1_kindsMany.cls yX1_kindsMany yX1_kindsMany ∈ ax_G := tw_g (List.mem_of_getElem? (i := 63) rfl) rfl
def mX1_kindOf : AM := (yX1_kindOf, cX1_kindOf, 2, some .int)
theorem co_X1_kindOf : ((Jvm.Cond.code ({ cls := "WindowHouse$Atlas", name := "kindOf", desc := "(I)I" } : Jvm.MethodName) prog_3_method_19_code (2 : Nat) (Option.some Jvm.ClassFile.FieldType.int)) : Cond) ∈ ax_G := tw_g (tw_c4 (List.mem_of_getElem? (i := 131) rfl)) rfl
theorem cb_X1_kindOf : ax_CB mX1_kindOf 1 := ⟨co_X1_kindOf, ini_X1, by decide, by decide, by decide +kernel⟩
theorem im_X1_kindOf : ((Jvm.Cond.instanceMethod ({ cls := "WindowHouse$Atlas", name := "kindOf", desc := "(I)I" } : Jvm.MethodName)) : Cond) ∈ ax_G := tw_g (tw_c4 (List.mem_of_getElem? (i := 130) rfl)) rfl
theorem se_X1_kindOf : Cond.selects yX1_kindOf.cls yX1_kindOf yX1_kindOf ∈ ax_G := tw_g (List.mem_of_getElem? (i := 62) rfl) rfl
def mX1_partByViews : AM := (yX1_partByViews, cX1_partByViews, 5, none)
theorem co_X1_partByViews : ((Jvm.Cond.code ({ cls := "WindowHouse$Atlas", name := "partByViews", desc := "()V" } : Jvm.MethodName) prog_3_method_20_code (5 : Nat) (Option.none : Option Jvm.ClassFile.FieldType)) : Cond) ∈ ax_G := tw_g (tw_c4 (List.mem_of_getElem? (i := 139) rfl)) rfl
theorem cb_X1_partByViews : ax_CB mX1_partByViews 0 := ⟨co_X1_partByViews, ini_X1, by decide, by decide, by decide +kernel⟩
theorem im_X1_partByViews : ((Jvm.Cond.instanceMethod ({ cls := "WindowHouse$Atlas", name := "partByViews", desc := "()V" } : Jvm.MethodName)) : Cond) ∈ ax_G := tw_g (tw_c4 (List.mem_of_getElem? (i := 138) rfl)) rfl
theorem se_X1_partByViews : Cond.selects yX1_partByViews.cls yX1_partByViews yX1_partByViews ∈ ax_G := tw_g (List.mem_of_getElem? (i := 64) rfl) rfl
def mX1_partByWays : AM := (yX1_partByWays, cX1_partByWays, 3, none)
theorem co_X1_partByWays : ((Jvm.Cond.code ({ cls := "WindowHouse$Atlas", name := "partByWays", desc := "()V" } : Jvm.MethodName) prog_3_method_21_code (3 : Nat) (Option.none : Option Jvm.ClassFile.FieldType)) : Cond) ∈ ax_G := tw_g (tw_c4 (List.mem_of_getElem? (i := 152) rfl)) rfl
theorem cb_X1_partByWays : ax_CB mX1_partByWays 0 := ⟨co_X1_partByWays, ini_X1, by decide, by decide, by decide +kernel⟩
theorem im_X1_partByWays : ((Jvm.Cond.instanceMethod ({ cls := "WindowHouse$Atlas", name := "partByWays", desc := "()V" } : Jvm.MethodName)) : Cond) ∈ ax_G := tw_g (tw_c4 (List.mem_of_getElem? (i := 151) rfl)) rfl
theorem se_X1_partByWays : Cond.selects yX1_partByWays.cls yX1_partByWays yX1_partByWays ∈ ax_G := tw_g (List.mem_of_getElem? (i := 67) rfl) rfl
def mX1_partedBy : AM := (yX1_partedBy, cX1_partedBy, 4, some .boolean)
theorem co_X1_partedBy : ((Jvm.Cond.code ({ cls := "WindowHouse$Atlas", name := "partedBy", desc := "(I)Z" } : Jvm.MethodName) prog_3_method_22_code (4 : Nat) (Option.some Jvm.ClassFile.FieldType.boolean)) : Cond) ∈ ax_G := tw_g (tw_c4 (List.mem_of_getElem? (i := 156) rfl)) rfl
theorem cb_X1_partedBy : ax_CB mX1_partedBy 1 := ⟨co_X1_partedBy, ini_X1, by decide, by decide, by decide +kernel⟩
theorem im_X1_partedBy : ((Jvm.Cond.instanceMethod ({ cls := "WindowHouse$Atlas", name := "partedBy", desc := "(I)Z" } : Jvm.MethodName)) : Cond) ∈ ax_G := tw_g (tw_c4 (List.mem_of_getElem? (i := 155) rfl)) rfl
theorem se_X1_partedBy : Cond.selects yX1_partedBy.cls yX1_partedBy yX1_partedBy ∈ ax_G := tw_g (List.mem_of_getElem? (i := 68) rfl) rfl
theorem ini_X2 : ((Jvm.Cond.initialized "WindowHouse$Beside") : Cond) ∈ ax_G := tw_g (tw_c1 (List.mem_of_getElem? (i := 9) rfl)) rfl
def mX2_init : AM := (yX2_init, cX2_init, 3, none)
theorem co_X2_init : ((Jvm.Cond.code ({ cls := "WindowHouse$Beside", name := "<init>", desc := "(LWindowHouse$App;LWindowHouse$App;)V" } : Jvm.MethodName) prog_4_method_1_code (3 : Nat) (Option.none : Option Jvm.ClassFile.FieldType)) : Cond) ∈ ax_G := tw_g (tw_c2 (List.mem_of_getElem? (i := 100) rfl)) rfl
theorem cb_X2_init : ax_CB mX2_init 2 := ⟨co_X2_init, ini_X2, by decide, by decide, by decide +kernel⟩
theorem im_X2_init : ((Jvm.Cond.instanceMethod ({ cls := "WindowHouse$Beside", name := "<init>", desc := "(LWindowHouse$App;LWindowHouse$App;)V" } : Jvm.MethodName)) : Cond) ∈ ax_G := tw_g (tw_c2 (List.mem_of_getElem? (i := 99) rfl)) rfl
def mX2_goThrough : AM := (yX2_goThrough, cX2_goThrough, 6, none)
theorem co_X2_goThrough : ((Jvm.Cond.code ({ cls := "WindowHouse$Beside", name := "goThrough", desc := "(LWindowHouse$App;LWindowHouse$App;)V" } : Jvm.MethodName) prog_4_method_2_code (6 : Nat) (Option.none : Option Jvm.ClassFile.FieldType)) : Cond) ∈ ax_G := tw_g (tw_c5 (List.mem_of_getElem? (i := 63) rfl)) rfl
theorem cb_X2_goThrough : ax_CB mX2_goThrough 2 := ⟨co_X2_goThrough, ini_X2, by decide, by decide, by decide +kernel⟩
theorem im_X2_goThrough : ((Jvm.Cond.instanceMethod ({ cls := "WindowHouse$Beside", name := "goThrough", desc := "(LWindowHouse$App;LWindowHouse$App;)V" } : Jvm.MethodName)) : Cond) ∈ ax_G := tw_g (tw_c5 (List.mem_of_getElem? (i := 62) rfl)) rfl
theorem se_X2_goThrough : Cond.selects yX2_goThrough.cls yX2_goThrough yX2_goThrough ∈ ax_G := tw_g (List.mem_of_getElem? (i := 84) rfl) rfl
def mX2_ended : AM := (yX2_ended, cX2_ended, 1, some .boolean)
theorem co_X2_ended : ((Jvm.Cond.code ({ cls := "WindowHouse$Beside", name := "ended", desc := "()Z" } : Jvm.MethodName) prog_4_method_3_code (1 : Nat) (Option.some Jvm.ClassFile.FieldType.boolean)) : Cond) ∈ ax_G := tw_g (tw_c5 (List.mem_of_getElem? (i := 90) rfl)) rfl
theorem cb_X2_ended : ax_CB mX2_ended 0 := ⟨co_X2_ended, ini_X2, by decide, by decide, by decide +kernel⟩
theorem im_X2_ended : ((Jvm.Cond.instanceMethod ({ cls := "WindowHouse$Beside", name := "ended", desc := "()Z" } : Jvm.MethodName)) : Cond) ∈ ax_G := tw_g (tw_c5 (List.mem_of_getElem? (i := 89) rfl)) rfl
theorem se_X2_ended : Cond.selects yX2_ended.cls yX2_ended yX2_ended ∈ ax_G := tw_g (List.mem_of_getElem? (i := 88) rfl) rfl
def mX2_goByFirst : AM := (yX2_goByFirst, cX2_goByFirst, 9, none)
theorem co_X2_goByFirst : ((Jvm.Cond.code ({ cls := "WindowHouse$Beside", name := "goByFirst", desc := "(II)V" } : Jvm.MethodName) prog_4_method_4_code (9 : Nat) (Option.none : Option Jvm.ClassFile.FieldType)) : Cond) ∈ ax_G := tw_g (tw_c5 (List.mem_of_getElem? (i := 94) rfl)) rfl
theorem cb_X2_goByFirst : ax_CB mX2_goByFirst 2 := ⟨co_X2_goByFirst, ini_X2, by decide, by decide, by decide +kernel⟩
theorem im_X2_goByFirst : ((Jvm.Cond.instanceMethod ({ cls := "WindowHouse$Beside", name := "goByFirst", desc := "(II)V" } : Jvm.MethodName)) : Cond) ∈ ax_G := tw_g (tw_c5 (List.mem_of_getElem? (i := 93) rfl)) rfl
theorem se_X2_goByFirst : Cond.selects yX2_goByFirst.cls yX2_goByFirst yX2_goByFirst ∈ ax_G := tw_g (List.mem_of_getElem? (i := 89) rfl) rfl
def mX2_findAloneInSecond : AM := (yX2_findAloneInSecond, cX2_findAloneInSecond, 3, none)
theorem co_X2_findAloneInSecond : ((Jvm.Cond.code ({ cls := "WindowHouse$Beside", name := "findAloneInSecond", desc := "(I)V" } : Jvm.MethodName) prog_4_method_5_code (3 : Nat) (Option.none : Option Jvm.ClassFile.FieldType)) : Cond) ∈ ax_G := tw_g (tw_c5 (List.mem_of_getElem? (i := 103) rfl)) rfl
theorem cb_X2_findAloneInSecond : ax_CB mX2_findAloneInSecond 1 := ⟨co_X2_findAloneInSecond, ini_X2, by decide, by decide, by decide +kernel⟩
theorem im_X2_findAloneInSecond : ((Jvm.Cond.instanceMethod ({ cls := "WindowHouse$Beside", name := "findAloneInSecond", desc := "(I)V" } : Jvm.MethodName)) : Cond) ∈ ax_G := tw_g (tw_c5 (List.mem_of_getElem? (i := 102) rfl)) rfl
theorem se_X2_findAloneInSecond : Cond.selects yX2_findAloneInSecond.cls yX2_findAloneInSecond yX2_findAloneInSecond ∈ ax_G := tw_g (List.mem_of_getElem? (i := 90) rfl) rfl
def mX2_lookAt : AM := (yX2_lookAt, cX2_lookAt, 2, none)
theorem co_X2_lookAt : ((Jvm.Cond.code ({ cls := "WindowHouse$Beside", name := "lookAt", desc := "(I)V" } : Jvm.MethodName) prog_4_method_6_code (2 : Nat) (Option.none : Option Jvm.ClassFile.FieldType)) : Cond) ∈ ax_G := tw_g (tw_c5 (List.mem_of_getElem? (i := 70) rfl)) rfl
theorem cb_X2_lookAt : ax_CB mX2_lookAt 1 := ⟨co_X2_lookAt, ini_X2, by decide, by decide, by decide +kernel⟩
theorem im_X2_lookAt : ((Jvm.Cond.instanceMethod ({ cls := "WindowHouse$Beside", name := "lookAt", desc := "(I)V" } : Jvm.MethodName)) : Cond) ∈ ax_G := tw_g (tw_c5 (List.mem_of_getElem? (i := 69) rfl)) rfl
theorem se_X2_lookAt : Cond.selects yX2_lookAt.cls yX2_lookAt yX2_lookAt ∈ ax_G := tw_g (List.mem_of_getElem? (i := 85) rfl) rfl
def mX2_twin : AM := (yX2_twin, cX2_twin, 6, some .int)
theorem co_X2_twin : ((Jvm.Cond.code ({ cls := "WindowHouse$Beside", name := "twin", desc := "(LWindowHouse$App;ILWindowHouse$App;J)I" } : Jvm.MethodName) prog_4_method_7_code (6 : Nat) (Option.some Jvm.ClassFile.FieldType.int)) : Cond) ∈ ax_G := tw_g (tw_c5 (List.mem_of_getElem? (i := 98) rfl)) rfl
theorem cb_X2_twin : ax_CB mX2_twin 4 := ⟨co_X2_twin, ini_X2, by decide, by decide, by decide +kernel⟩
theorem st_X2_twin : ((Jvm.Cond.static ({ cls := "WindowHouse$Beside", name := "twin", desc := "(LWindowHouse$App;ILWindowHouse$App;J)I" } : Jvm.MethodName)) : Cond) ∈ ax_G := tw_g (tw_c5 (List.mem_of_getElem? (i := 97) rfl)) rfl
def mX2_showUnlike : AM := (yX2_showUnlike, cX2_showUnlike, 7, some .boolean)
theorem co_X2_showUnlike : ((Jvm.Cond.code ({ cls := "WindowHouse$Beside", name := "showUnlike", desc := "(JJ)Z" } : Jvm.MethodName) prog_4_method_8_code (7 : Nat) (Option.some Jvm.ClassFile.FieldType.boolean)) : Cond) ∈ ax_G := tw_g (tw_c5 (List.mem_of_getElem? (i := 74) rfl)) rfl
theorem cb_X2_showUnlike : ax_CB mX2_showUnlike 2 := ⟨co_X2_showUnlike, ini_X2, by decide, by decide, by decide +kernel⟩
theorem im_X2_showUnlike : ((Jvm.Cond.instanceMethod ({ cls := "WindowHouse$Beside", name := "showUnlike", desc := "(JJ)Z" } : Jvm.MethodName)) : Cond) ∈ ax_G := tw_g (tw_c5 (List.mem_of_getElem? (i := 73) rfl)) rfl
theorem se_X2_showUnlike : Cond.selects yX2_showUnlike.cls yX2_showUnlike yX2_showUnlike ∈ ax_G := tw_g (List.mem_of_getElem? (i := 86) rfl) rfl
def mX2_numbersUnlike : AM := (yX2_numbersUnlike, cX2_numbersUnlike, 9, some .boolean)
theorem co_X2_numbersUnlike : ((Jvm.Cond.code ({ cls := "WindowHouse$Beside", name := "numbersUnlike", desc := "(JIJI)Z" } : Jvm.MethodName) prog_4_method_9_code (9 : Nat) (Option.some Jvm.ClassFile.FieldType.boolean)) : Cond) ∈ ax_G := tw_g (tw_c5 (List.mem_of_getElem? (i := 80) rfl)) rfl
theorem cb_X2_numbersUnlike : ax_CB mX2_numbersUnlike 4 := ⟨co_X2_numbersUnlike, ini_X2, by decide, by decide, by decide +kernel⟩
theorem im_X2_numbersUnlike : ((Jvm.Cond.instanceMethod ({ cls := "WindowHouse$Beside", name := "numbersUnlike", desc := "(JIJI)Z" } : Jvm.MethodName)) : Cond) ∈ ax_G := tw_g (tw_c5 (List.mem_of_getElem? (i := 79) rfl)) rfl
theorem se_X2_numbersUnlike : Cond.selects yX2_numbersUnlike.cls yX2_numbersUnlike yX2_numbersUnlike ∈ ax_G := tw_g (List.mem_of_getElem? (i := 87) rfl) rfl
def mX2_oneMorePressed : AM := (yX2_oneMorePressed, cX2_oneMorePressed, 10, some .boolean)
theorem co_X2_oneMorePressed : ((Jvm.Cond.code ({ cls := "WindowHouse$Beside", name := "oneMorePressed", desc := "(LWindowHouse$App;JLWindowHouse$App;J)Z" } : Jvm.MethodName) prog_4_method_10_code (10 : Nat) (Option.some Jvm.ClassFile.FieldType.boolean)) : Cond) ∈ ax_G := tw_g (tw_c5 (List.mem_of_getElem? (i := 84) rfl)) rfl
theorem cb_X2_oneMorePressed : ax_CB mX2_oneMorePressed 4 := ⟨co_X2_oneMorePressed, ini_X2, by decide, by decide, by decide +kernel⟩
theorem st_X2_oneMorePressed : ((Jvm.Cond.static ({ cls := "WindowHouse$Beside", name := "oneMorePressed", desc := "(LWindowHouse$App;JLWindowHouse$App;J)Z" } : Jvm.MethodName)) : Cond) ∈ ax_G := tw_g (tw_c5 (List.mem_of_getElem? (i := 83) rfl)) rfl
def mX2_rowInto : AM := (yX2_rowInto, cX2_rowInto, 3, some .int)
theorem co_X2_rowInto : ((Jvm.Cond.code ({ cls := "WindowHouse$Beside", name := "rowInto", desc := "([I)I" } : Jvm.MethodName) prog_4_method_11_code (3 : Nat) (Option.some Jvm.ClassFile.FieldType.int)) : Cond) ∈ ax_G := tw_g (tw_c5 (List.mem_of_getElem? (i := 107) rfl)) rfl
theorem cb_X2_rowInto : ax_CB mX2_rowInto 1 := ⟨co_X2_rowInto, ini_X2, by decide, by decide, by decide +kernel⟩
theorem im_X2_rowInto : ((Jvm.Cond.instanceMethod ({ cls := "WindowHouse$Beside", name := "rowInto", desc := "([I)I" } : Jvm.MethodName)) : Cond) ∈ ax_G := tw_g (tw_c5 (List.mem_of_getElem? (i := 106) rfl)) rfl
theorem se_X2_rowInto : Cond.selects yX2_rowInto.cls yX2_rowInto yX2_rowInto ∈ ax_G := tw_g (List.mem_of_getElem? (i := 91) rfl) rfl
theorem ini_X3 : ((Jvm.Cond.initialized "WindowHouse$Bits") : Cond) ∈ ax_G := tw_g (tw_c1 (List.mem_of_getElem? (i := 21) rfl)) rfl
def mX3_packed : AM := (yX3_packed, cX3_packed, 5, some .long)
theorem co_X3_packed : ((Jvm.Cond.code ({ cls := "WindowHouse$Bits", name := "packed", desc := "(JIJ)J" } : Jvm.MethodName) prog_5_method_2_code (5 : Nat) (Option.some Jvm.ClassFile.FieldType.long)) : Cond) ∈ ax_G := tw_g (tw_c3 (List.mem_of_getElem? (i := 209) rfl)) rfl
theorem cb_X3_packed : ax_CB mX3_packed 3 := ⟨co_X3_packed, ini_X3, by decide, by decide, by decide +kernel⟩
theorem st_X3_packed : ((Jvm.Cond.static ({ cls := "WindowHouse$Bits", name := "packed", desc := "(JIJ)J" } : Jvm.MethodName)) : Cond) ∈ ax_G := tw_g (tw_c3 (List.mem_of_getElem? (i := 208) rfl)) rfl
def mX3_alone : AM := (yX3_alone, cX3_alone, 3, some .long)
theorem co_X3_alone : ((Jvm.Cond.code ({ cls := "WindowHouse$Bits", name := "alone", desc := "(IJ)J" } : Jvm.MethodName) prog_5_method_3_code (3 : Nat) (Option.some Jvm.ClassFile.FieldType.long)) : Cond) ∈ ax_G := tw_g (tw_c3 (List.mem_of_getElem? (i := 206) rfl)) rfl
theorem cb_X3_alone : ax_CB mX3_alone 2 := ⟨co_X3_alone, ini_X3, by decide, by decide, by decide +kernel⟩
theorem st_X3_alone : ((Jvm.Cond.static ({ cls := "WindowHouse$Bits", name := "alone", desc := "(IJ)J" } : Jvm.MethodName)) : Cond) ∈ ax_G := tw_g (tw_c3 (List.mem_of_getElem? (i := 205) rfl)) rfl
def mX3_faulted : AM := (yX3_faulted, cX3_faulted, 3, some .long)
theorem co_X3_faulted : ((Jvm.Cond.code ({ cls := "WindowHouse$Bits", name := "faulted", desc := "(IJ)J" } : Jvm.MethodName) prog_5_method_4_code (3 : Nat) (Option.some Jvm.ClassFile.FieldType.long)) : Cond) ∈ ax_G := tw_g (tw_c4 (List.mem_of_getElem? (i := 43) rfl)) rfl
theorem cb_X3_faulted : ax_CB mX3_faulted 2 := ⟨co_X3_faulted, ini_X3, by decide, by decide, by decide +kernel⟩
theorem st_X3_faulted : ((Jvm.Cond.static ({ cls := "WindowHouse$Bits", name := "faulted", desc := "(IJ)J" } : Jvm.MethodName)) : Cond) ∈ ax_G := tw_g (tw_c4 (List.mem_of_getElem? (i := 42) rfl)) rfl
def mX3_openOf : AM := (yX3_openOf, cX3_openOf, 2, some .int)
theorem co_X3_openOf : ((Jvm.Cond.code ({ cls := "WindowHouse$Bits", name := "openOf", desc := "(J)I" } : Jvm.MethodName) prog_5_method_5_code (2 : Nat) (Option.some Jvm.ClassFile.FieldType.int)) : Cond) ∈ ax_G := tw_g (tw_c4 (List.mem_of_getElem? (i := 13) rfl)) rfl
theorem cb_X3_openOf : ax_CB mX3_openOf 1 := ⟨co_X3_openOf, ini_X3, by decide, by decide, by decide +kernel⟩
theorem st_X3_openOf : ((Jvm.Cond.static ({ cls := "WindowHouse$Bits", name := "openOf", desc := "(J)I" } : Jvm.MethodName)) : Cond) ∈ ax_G := tw_g (tw_c4 (List.mem_of_getElem? (i := 12) rfl)) rfl
def mX3_faultOf : AM := (yX3_faultOf, cX3_faultOf, 2, some .int)
theorem co_X3_faultOf : ((Jvm.Cond.code ({ cls := "WindowHouse$Bits", name := "faultOf", desc := "(J)I" } : Jvm.MethodName) prog_5_method_6_code (2 : Nat) (Option.some Jvm.ClassFile.FieldType.int)) : Cond) ∈ ax_G := tw_g (tw_c4 (List.mem_of_getElem? (i := 57) rfl)) rfl
theorem cb_X3_faultOf : ax_CB mX3_faultOf 1 := ⟨co_X3_faultOf, ini_X3, by decide, by decide, by decide +kernel⟩
theorem st_X3_faultOf : ((Jvm.Cond.static ({ cls := "WindowHouse$Bits", name := "faultOf", desc := "(J)I" } : Jvm.MethodName)) : Cond) ∈ ax_G := tw_g (tw_c4 (List.mem_of_getElem? (i := 56) rfl)) rfl
def mX3_topOf : AM := (yX3_topOf, cX3_topOf, 2, some .int)
theorem co_X3_topOf : ((Jvm.Cond.code ({ cls := "WindowHouse$Bits", name := "topOf", desc := "(J)I" } : Jvm.MethodName) prog_5_method_7_code (2 : Nat) (Option.some Jvm.ClassFile.FieldType.int)) : Cond) ∈ ax_G := tw_g (tw_c4 (List.mem_of_getElem? (i := 10) rfl)) rfl
theorem cb_X3_topOf : ax_CB mX3_topOf 1 := ⟨co_X3_topOf, ini_X3, by decide, by decide, by decide +kernel⟩
theorem st_X3_topOf : ((Jvm.Cond.static ({ cls := "WindowHouse$Bits", name := "topOf", desc := "(J)I" } : Jvm.MethodName)) : Cond) ∈ ax_G := tw_g (tw_c4 (List.mem_of_getElem? (i := 9) rfl)) rfl
def mX3_ticksOf : AM := (yX3_ticksOf, cX3_ticksOf, 2, some .int)
theorem co_X3_ticksOf : ((Jvm.Cond.code ({ cls := "WindowHouse$Bits", name := "ticksOf", desc := "(J)I" } : Jvm.MethodName) prog_5_method_8_code (2 : Nat) (Option.some Jvm.ClassFile.FieldType.int)) : Cond) ∈ ax_G := tw_g (tw_c4 (List.mem_of_getElem? (i := 46) rfl)) rfl
theorem cb_X3_ticksOf : ax_CB mX3_ticksOf 1 := ⟨co_X3_ticksOf, ini_X3, by decide, by decide, by decide +kernel⟩
theorem st_X3_ticksOf : ((Jvm.Cond.static ({ cls := "WindowHouse$Bits", name := "ticksOf", desc := "(J)I" } : Jvm.MethodName)) : Cond) ∈ ax_G := tw_g (tw_c4 (List.mem_of_getElem? (i := 45) rfl)) rfl
def mX3_valueOf : AM := (yX3_valueOf, cX3_valueOf, 3, some .int)
theorem co_X3_valueOf : ((Jvm.Cond.code ({ cls := "WindowHouse$Bits", name := "valueOf", desc := "(JI)I" } : Jvm.MethodName) prog_5_method_9_code (3 : Nat) (Option.some Jvm.ClassFile.FieldType.int)) : Cond) ∈ ax_G := tw_g (tw_c4 (List.mem_of_getElem? (i := 21) rfl)) rfl
theorem cb_X3_valueOf : ax_CB mX3_valueOf 2 := ⟨co_X3_valueOf, ini_X3, by decide, by decide, by decide +kernel⟩
theorem st_X3_valueOf : ((Jvm.Cond.static ({ cls := "WindowHouse$Bits", name := "valueOf", desc := "(JI)I" } : Jvm.MethodName)) : Cond) ∈ ax_G := tw_g (tw_c4 (List.mem_of_getElem? (i := 20) rfl)) rfl
def mX3_withValue : AM := (yX3_withValue, cX3_withValue, 4, some .long)
theorem co_X3_withValue : ((Jvm.Cond.code ({ cls := "WindowHouse$Bits", name := "withValue", desc := "(JII)J" } : Jvm.MethodName) prog_5_method_10_code (4 : Nat) (Option.some Jvm.ClassFile.FieldType.long)) : Cond) ∈ ax_G := tw_g (tw_c3 (List.mem_of_getElem? (i := 89) rfl)) rfl
theorem cb_X3_withValue : ax_CB mX3_withValue 3 := ⟨co_X3_withValue, ini_X3, by decide, by decide, by decide +kernel⟩
theorem st_X3_withValue : ((Jvm.Cond.static ({ cls := "WindowHouse$Bits", name := "withValue", desc := "(JII)J" } : Jvm.MethodName)) : Cond) ∈ ax_G := tw_g (tw_c3 (List.mem_of_getElem? (i := 88) rfl)) rfl
def mX3_withTicks : AM := (yX3_withTicks, cX3_withTicks, 3, some .long)
theorem co_X3_withTicks : ((Jvm.Cond.code ({ cls := "WindowHouse$Bits", name := "withTicks", desc := "(JI)J" } : Jvm.MethodName) prog_5_method_11_code (3 : Nat) (Option.some Jvm.ClassFile.FieldType.long)) : Cond) ∈ ax_G := tw_g (tw_c4 (List.mem_of_getElem? (i := 49) rfl)) rfl
theorem cb_X3_withTicks : ax_CB mX3_withTicks 2 := ⟨co_X3_withTicks, ini_X3, by decide, by decide, by decide +kernel⟩
theorem st_X3_withTicks : ((Jvm.Cond.static ({ cls := "WindowHouse$Bits", name := "withTicks", desc := "(JI)J" } : Jvm.MethodName)) : Cond) ∈ ax_G := tw_g (tw_c4 (List.mem_of_getElem? (i := 48) rfl)) rfl
def mX3_opened : AM := (yX3_opened, cX3_opened, 4, some .long)
theorem co_X3_opened : ((Jvm.Cond.code ({ cls := "WindowHouse$Bits", name := "opened", desc := "(JI)J" } : Jvm.MethodName) prog_5_method_12_code (4 : Nat) (Option.some Jvm.ClassFile.FieldType.long)) : Cond) ∈ ax_G := tw_g (tw_c4 (List.mem_of_getElem? (i := 35) rfl)) rfl
theorem cb_X3_opened : ax_CB mX3_opened 2 := ⟨co_X3_opened, ini_X3, by decide, by decide, by decide +kernel⟩
theorem st_X3_opened : ((Jvm.Cond.static ({ cls := "WindowHouse$Bits", name := "opened", desc := "(JI)J" } : Jvm.MethodName)) : Cond) ∈ ax_G := tw_g (tw_c4 (List.mem_of_getElem? (i := 34) rfl)) rfl
def mX3_closed : AM := (yX3_closed, cX3_closed, 3, some .long)
theorem co_X3_closed : ((Jvm.Cond.code ({ cls := "WindowHouse$Bits", name := "closed", desc := "(J)J" } : Jvm.MethodName) prog_5_method_13_code (3 : Nat) (Option.some Jvm.ClassFile.FieldType.long)) : Cond) ∈ ax_G := tw_g (tw_c4 (List.mem_of_getElem? (i := 28) rfl)) rfl
theorem cb_X3_closed : ax_CB mX3_closed 1 := ⟨co_X3_closed, ini_X3, by decide, by decide, by decide +kernel⟩
theorem st_X3_closed : ((Jvm.Cond.static ({ cls := "WindowHouse$Bits", name := "closed", desc := "(J)J" } : Jvm.MethodName)) : Cond) ∈ ax_G := tw_g (tw_c4 (List.mem_of_getElem? (i := 27) rfl)) rfl
theorem ini_X4 : ((Jvm.Cond.initialized "WindowHouse$Conds") : Cond) ∈ ax_G := tw_g (tw_c1 (List.mem_of_getElem? (i := 3) rfl)) rfl
def mX4_init : AM := (yX4_init, cX4_init, 1, none)
theorem co_X4_init : ((Jvm.Cond.code ({ cls := "WindowHouse$Conds", name := "<init>", desc := "()V" } : Jvm.MethodName) prog_6_method_1_code (1 : Nat) (Option.none : Option Jvm.ClassFile.FieldType)) : Cond) ∈ ax_G := tw_g (tw_c1 (List.mem_of_getElem? (i := 44) rfl)) rfl
theorem cb_X4_init : ax_CB mX4_init 0 := ⟨co_X4_init, ini_X4, by decide, by decide, by decide +kernel⟩
theorem im_X4_init : ((Jvm.Cond.instanceMethod ({ cls := "WindowHouse$Conds", name := "<init>", desc := "()V" } : Jvm.MethodName)) : Cond) ∈ ax_G := tw_g (tw_c1 (List.mem_of_getElem? (i := 43) rfl)) rfl
def mX4_add : AM := (yX4_add, cX4_add, 6, none)
theorem co_X4_add : ((Jvm.Cond.code ({ cls := "WindowHouse$Conds", name := "add", desc := "(IIII)V" } : Jvm.MethodName) prog_6_method_2_code (6 : Nat) (Option.none : Option Jvm.ClassFile.FieldType)) : Cond) ∈ ax_G := tw_g (tw_c3 (List.mem_of_getElem? (i := 160) rfl)) rfl
theorem cb_X4_add : ax_CB mX4_add 4 := ⟨co_X4_add, ini_X4, by decide, by decide, by decide +kernel⟩
theorem im_X4_add : ((Jvm.Cond.instanceMethod ({ cls := "WindowHouse$Conds", name := "add", desc := "(IIII)V" } : Jvm.MethodName)) : Cond) ∈ ax_G := tw_g (tw_c3 (List.mem_of_getElem? (i := 159) rfl)) rfl
theorem se_X4_add : Cond.selects yX4_add.cls yX4_add yX4_add ∈ ax_G := tw_g (List.mem_of_getElem? (i := 35) rfl) rfl
def mX4_hold : AM := (yX4_hold, cX4_hold, 7, some .boolean)
theorem co_X4_hold : ((Jvm.Cond.code ({ cls := "WindowHouse$Conds", name := "hold", desc := "(IJ)Z" } : Jvm.MethodName) prog_6_method_3_code (7 : Nat) (Option.some Jvm.ClassFile.FieldType.boolean)) : Cond) ∈ ax_G := tw_g (tw_c4 (List.mem_of_getElem? (i := 18) rfl)) rfl
theorem cb_X4_hold : ax_CB mX4_hold 2 := ⟨co_X4_hold, ini_X4, by decide, by decide, by decide +kernel⟩
theorem im_X4_hold : ((Jvm.Cond.instanceMethod ({ cls := "WindowHouse$Conds", name := "hold", desc := "(IJ)Z" } : Jvm.MethodName)) : Cond) ∈ ax_G := tw_g (tw_c4 (List.mem_of_getElem? (i := 17) rfl)) rfl
theorem se_X4_hold : Cond.selects yX4_hold.cls yX4_hold yX4_hold ∈ ax_G := tw_g (List.mem_of_getElem? (i := 49) rfl) rfl
theorem ini_X5 : ((Jvm.Cond.initialized "WindowHouse$Deeds") : Cond) ∈ ax_G := tw_g (tw_c1 (List.mem_of_getElem? (i := 4) rfl)) rfl
def mX5_init : AM := (yX5_init, cX5_init, 1, none)
theorem co_X5_init : ((Jvm.Cond.code ({ cls := "WindowHouse$Deeds", name := "<init>", desc := "()V" } : Jvm.MethodName) prog_7_method_1_code (1 : Nat) (Option.none : Option Jvm.ClassFile.FieldType)) : Cond) ∈ ax_G := tw_g (tw_c1 (List.mem_of_getElem? (i := 68) rfl)) rfl
theorem cb_X5_init : ax_CB mX5_init 0 := ⟨co_X5_init, ini_X5, by decide, by decide, by decide +kernel⟩
theorem im_X5_init : ((Jvm.Cond.instanceMethod ({ cls := "WindowHouse$Deeds", name := "<init>", desc := "()V" } : Jvm.MethodName)) : Cond) ∈ ax_G := tw_g (tw_c1 (List.mem_of_getElem? (i := 67) rfl)) rfl
def mX5_ofTimer : AM := (yX5_ofTimer, cX5_ofTimer, 1, some .int)
theorem co_X5_ofTimer : ((Jvm.Cond.code ({ cls := "WindowHouse$Deeds", name := "ofTimer", desc := "(I)I" } : Jvm.MethodName) prog_7_method_2_code (1 : Nat) (Option.some Jvm.ClassFile.FieldType.int)) : Cond) ∈ ax_G := tw_g (tw_c3 (List.mem_of_getElem? (i := 106) rfl)) rfl
theorem cb_X5_ofTimer : ax_CB mX5_ofTimer 1 := ⟨co_X5_ofTimer, ini_X5, by decide, by decide, by decide +kernel⟩
theorem st_X5_ofTimer : ((Jvm.Cond.static ({ cls := "WindowHouse$Deeds", name := "ofTimer", desc := "(I)I" } : Jvm.MethodName)) : Cond) ∈ ax_G := tw_g (tw_c3 (List.mem_of_getElem? (i := 105) rfl)) rfl
def mX5_add : AM := (yX5_add, cX5_add, 6, some .int)
theorem co_X5_add : ((Jvm.Cond.code ({ cls := "WindowHouse$Deeds", name := "add", desc := "(IIII)I" } : Jvm.MethodName) prog_7_method_3_code (6 : Nat) (Option.some Jvm.ClassFile.FieldType.int)) : Cond) ∈ ax_G := tw_g (tw_c3 (List.mem_of_getElem? (i := 187) rfl)) rfl
theorem cb_X5_add : ax_CB mX5_add 4 := ⟨co_X5_add, ini_X5, by decide, by decide, by decide +kernel⟩
theorem im_X5_add : ((Jvm.Cond.instanceMethod ({ cls := "WindowHouse$Deeds", name := "add", desc := "(IIII)I" } : Jvm.MethodName)) : Cond) ∈ ax_G := tw_g (tw_c3 (List.mem_of_getElem? (i := 186) rfl)) rfl
theorem se_X5_add : Cond.selects yX5_add.cls yX5_add yX5_add ∈ ax_G := tw_g (List.mem_of_getElem? (i := 40) rfl) rfl
theorem ini_X6 : ((Jvm.Cond.initialized "WindowHouse$Meetings") : Cond) ∈ ax_G := tw_g (tw_c1 (List.mem_of_getElem? (i := 8) rfl)) rfl
def mX6_init : AM := (yX6_init, cX6_init, 1, none)
theorem co_X6_init : ((Jvm.Cond.code ({ cls := "WindowHouse$Meetings", name := "<init>", desc := "()V" } : Jvm.MethodName) prog_8_method_1_code (1 : Nat) (Option.none : Option Jvm.ClassFile.FieldType)) : Cond) ∈ ax_G := tw_g (tw_c2 (List.mem_of_getElem? (i := 30) rfl)) rfl
theorem cb_X6_init : ax_CB mX6_init 0 := ⟨co_X6_init, ini_X6, by decide, by decide, by decide +kernel⟩
theorem im_X6_init : ((Jvm.Cond.instanceMethod ({ cls := "WindowHouse$Meetings", name := "<init>", desc := "()V" } : Jvm.MethodName)) : Cond) ∈ ax_G := tw_g (tw_c2 (List.mem_of_getElem? (i := 29) rfl)) rfl
def mX6_clear : AM := (yX6_clear, cX6_clear, 1, none)
theorem co_X6_clear : ((Jvm.Cond.code ({ cls := "WindowHouse$Meetings", name := "clear", desc := "()V" } : Jvm.MethodName) prog_8_method_2_code (1 : Nat) (Option.none : Option Jvm.ClassFile.FieldType)) : Cond) ∈ ax_G := tw_g (tw_c4 (List.mem_of_getElem? (i := 91) rfl)) rfl
theorem cb_X6_clear : ax_CB mX6_clear 0 := ⟨co_X6_clear, ini_X6, by decide, by decide, by decide +kernel⟩
theorem im_X6_clear : ((Jvm.Cond.instanceMethod ({ cls := "WindowHouse$Meetings", name := "clear", desc := "()V" } : Jvm.MethodName)) : Cond) ∈ ax_G := tw_g (tw_c4 (List.mem_of_getElem? (i := 90) rfl)) rfl
theorem se_X6_clear : Cond.selects yX6_clear.cls yX6_clear yX6_clear ∈ ax_G := tw_g (List.mem_of_getElem? (i := 55) rfl) rfl
def mX6_meet : AM := (yX6_meet, cX6_meet, 11, some .int)
theorem co_X6_meet : ((Jvm.Cond.code ({ cls := "WindowHouse$Meetings", name := "meet", desc := "(JJII)I" } : Jvm.MethodName) prog_8_method_3_code (11 : Nat) (Option.some Jvm.ClassFile.FieldType.int)) : Cond) ∈ ax_G := tw_g (tw_c4 (List.mem_of_getElem? (i := 99) rfl)) rfl
theorem cb_X6_meet : ax_CB mX6_meet 4 := ⟨co_X6_meet, ini_X6, by decide, by decide, by decide +kernel⟩
theorem im_X6_meet : ((Jvm.Cond.instanceMethod ({ cls := "WindowHouse$Meetings", name := "meet", desc := "(JJII)I" } : Jvm.MethodName)) : Cond) ∈ ax_G := tw_g (tw_c4 (List.mem_of_getElem? (i := 98) rfl)) rfl
theorem se_X6_meet : Cond.selects yX6_meet.cls yX6_meet yX6_meet ∈ ax_G := tw_g (List.mem_of_getElem? (i := 56) rfl) rfl
def mX6_keep : AM := (yX6_keep, cX6_keep, 9, some .int)
theorem co_X6_keep : ((Jvm.Cond.code ({ cls := "WindowHouse$Meetings", name := "keep", desc := "(IJJII)I" } : Jvm.MethodName) prog_8_method_4_code (9 : Nat) (Option.some Jvm.ClassFile.FieldType.int)) : Cond) ∈ ax_G := tw_g (tw_c4 (List.mem_of_getElem? (i := 105) rfl)) rfl
theorem cb_X6_keep : ax_CB mX6_keep 5 := ⟨co_X6_keep, ini_X6, by decide, by decide, by decide +kernel⟩
theorem im_X6_keep : ((Jvm.Cond.instanceMethod ({ cls := "WindowHouse$Meetings", name := "keep", desc := "(IJJII)I" } : Jvm.MethodName)) : Cond) ∈ ax_G := tw_g (tw_c4 (List.mem_of_getElem? (i := 104) rfl)) rfl
theorem se_X6_keep : Cond.selects yX6_keep.cls yX6_keep yX6_keep ∈ ax_G := tw_g (List.mem_of_getElem? (i := 57) rfl) rfl
def mX6_traced : AM := (yX6_traced, cX6_traced, 5, some .int)
theorem co_X6_traced : ((Jvm.Cond.code ({ cls := "WindowHouse$Meetings", name := "traced", desc := "(I[I)I" } : Jvm.MethodName) prog_8_method_5_code (5 : Nat) (Option.some Jvm.ClassFile.FieldType.int)) : Cond) ∈ ax_G := tw_g (tw_c4 (List.mem_of_getElem? (i := 173) rfl)) rfl
theorem cb_X6_traced : ax_CB mX6_traced 2 := ⟨co_X6_traced, ini_X6, by decide, by decide, by decide +kernel⟩
theorem im_X6_traced : ((Jvm.Cond.instanceMethod ({ cls := "WindowHouse$Meetings", name := "traced", desc := "(I[I)I" } : Jvm.MethodName)) : Cond) ∈ ax_G := tw_g (tw_c4 (List.mem_of_getElem? (i := 172) rfl)) rfl
theorem se_X6_traced : Cond.selects yX6_traced.cls yX6_traced yX6_traced ∈ ax_G := tw_g (List.mem_of_getElem? (i := 69) rfl) rfl
theorem ini_X7 : ((Jvm.Cond.initialized "WindowHouse$Reader") : Cond) ∈ ax_G := tw_g (tw_c1 (List.mem_of_getElem? (i := 5) rfl)) rfl
def mX7_init : AM := (yX7_init, cX7_init, 2, none)
theorem co_X7_init : ((Jvm.Cond.code ({ cls := "WindowHouse$Reader", name := "<init>", desc := "(LWindowHouse$App;)V" } : Jvm.MethodName) prog_9_method_1_code (2 : Nat) (Option.none : Option Jvm.ClassFile.FieldType)) : Cond) ∈ ax_G := tw_g (tw_c1 (List.mem_of_getElem? (i := 178) rfl)) rfl
theorem cb_X7_init : ax_CB mX7_init 1 := ⟨co_X7_init, ini_X7, by decide, by decide, by decide +kernel⟩
theorem im_X7_init : ((Jvm.Cond.instanceMethod ({ cls := "WindowHouse$Reader", name := "<init>", desc := "(LWindowHouse$App;)V" } : Jvm.MethodName)) : Cond) ∈ ax_G := tw_g (tw_c1 (List.mem_of_getElem? (i := 177) rfl)) rfl
def mX7_reads : AM := (yX7_reads, cX7_reads, 5, some .boolean)
theorem co_X7_reads : ((Jvm.Cond.code ({ cls := "WindowHouse$Reader", name := "reads", desc := "([IILWindowHouse$App;)Z" } : Jvm.MethodName) prog_9_method_2_code (5 : Nat) (Option.some Jvm.ClassFile.FieldType.boolean)) : Cond) ∈ ax_G := tw_g (tw_c2 (List.mem_of_getElem? (i := 185) rfl)) rfl
theorem cb_X7_reads : ax_CB mX7_reads 3 := ⟨co_X7_reads, ini_X7, by decide, by decide, by decide +kernel⟩
theorem im_X7_reads : ((Jvm.Cond.instanceMethod ({ cls := "WindowHouse$Reader", name := "reads", desc := "([IILWindowHouse$App;)Z" } : Jvm.MethodName)) : Cond) ∈ ax_G := tw_g (tw_c2 (List.mem_of_getElem? (i := 184) rfl)) rfl
theorem se_X7_reads : Cond.selects yX7_reads.cls yX7_reads yX7_reads ∈ ax_G := tw_g (List.mem_of_getElem? (i := 2) rfl) rfl
def mX7_faulty : AM := (yX7_faulty, cX7_faulty, 2, some .boolean)
theorem co_X7_faulty : ((Jvm.Cond.code ({ cls := "WindowHouse$Reader", name := "faulty", desc := "(I)Z" } : Jvm.MethodName) prog_9_method_3_code (2 : Nat) (Option.some Jvm.ClassFile.FieldType.boolean)) : Cond) ∈ ax_G := tw_g (tw_c2 (List.mem_of_getElem? (i := 235) rfl)) rfl
theorem cb_X7_faulty : ax_CB mX7_faulty 1 := ⟨co_X7_faulty, ini_X7, by decide, by decide, by decide +kernel⟩
theorem im_X7_faulty : ((Jvm.Cond.instanceMethod ({ cls := "WindowHouse$Reader", name := "faulty", desc := "(I)Z" } : Jvm.MethodName)) : Cond) ∈ ax_G := tw_g (tw_c2 (List.mem_of_getElem? (i := 234) rfl)) rfl
theorem se_X7_faulty : Cond.selects yX7_faulty.cls yX7_faulty yX7_faulty ∈ ax_G := tw_g (List.mem_of_getElem? (i := 10) rfl) rfl
def mX7_awaits : AM := (yX7_awaits, cX7_awaits, 2, some .boolean)
theorem co_X7_awaits : ((Jvm.Cond.code ({ cls := "WindowHouse$Reader", name := "awaits", desc := "(I)Z" } : Jvm.MethodName) prog_9_method_4_code (2 : Nat) (Option.some Jvm.ClassFile.FieldType.boolean)) : Cond) ∈ ax_G := tw_g (tw_c3 (List.mem_of_getElem? (i := 60) rfl)) rfl
theorem cb_X7_awaits : ax_CB mX7_awaits 1 := ⟨co_X7_awaits, ini_X7, by decide, by decide, by decide +kernel⟩
theorem im_X7_awaits : ((Jvm.Cond.instanceMethod ({ cls := "WindowHouse$Reader", name := "awaits", desc := "(I)Z" } : Jvm.MethodName)) : Cond) ∈ ax_G := tw_g (tw_c3 (List.mem_of_getElem? (i := 59) rfl)) rfl
theorem se_X7_awaits : Cond.selects yX7_awaits.cls yX7_awaits yX7_awaits ∈ ax_G := tw_g (List.mem_of_getElem? (i := 14) rfl) rfl
def mX7_taken : AM := (yX7_taken, cX7_taken, 1, some .boolean)
theorem co_X7_taken : ((Jvm.Cond.code ({ cls := "WindowHouse$Reader", name := "taken", desc := "()Z" } : Jvm.MethodName) prog_9_method_5_code (1 : Nat) (Option.some Jvm.ClassFile.FieldType.boolean)) : Cond) ∈ ax_G := tw_g (tw_c2 (List.mem_of_getElem? (i := 239) rfl)) rfl
theorem cb_X7_taken : ax_CB mX7_taken 0 := ⟨co_X7_taken, ini_X7, by decide, by decide, by decide +kernel⟩
theorem im_X7_taken : ((Jvm.Cond.instanceMethod ({ cls := "WindowHouse$Reader", name := "taken", desc := "()Z" } : Jvm.MethodName)) : Cond) ∈ ax_G := tw_g (tw_c2 (List.mem_of_getElem? (i := 238) rfl)) rfl
theorem se_X7_taken : Cond.selects yX7_taken.cls yX7_taken yX7_taken ∈ ax_G := tw_g (List.mem_of_getElem? (i := 11) rfl) rfl
def mX7_takeSign : AM := (yX7_takeSign, cX7_takeSign, 3, some .boolean)
theorem co_X7_takeSign : ((Jvm.Cond.code ({ cls := "WindowHouse$Reader", name := "takeSign", desc := "(II)Z" } : Jvm.MethodName) prog_9_method_6_code (3 : Nat) (Option.some Jvm.ClassFile.FieldType.boolean)) : Cond) ∈ ax_G := tw_g (tw_c3 (List.mem_of_getElem? (i := 95) rfl)) rfl
theorem cb_X7_takeSign : ax_CB mX7_takeSign 2 := ⟨co_X7_takeSign, ini_X7, by decide, by decide, by decide +kernel⟩
theorem im_X7_takeSign : ((Jvm.Cond.instanceMethod ({ cls := "WindowHouse$Reader", name := "takeSign", desc := "(II)Z" } : Jvm.MethodName)) : Cond) ∈ ax_G := tw_g (tw_c3 (List.mem_of_getElem? (i := 94) rfl)) rfl
theorem se_X7_takeSign : Cond.selects yX7_takeSign.cls yX7_takeSign yX7_takeSign ∈ ax_G := tw_g (List.mem_of_getElem? (i := 21) rfl) rfl
def mX7_takeDo : AM := (yX7_takeDo, cX7_takeDo, 1, some .boolean)
theorem co_X7_takeDo : ((Jvm.Cond.code ({ cls := "WindowHouse$Reader", name := "takeDo", desc := "()Z" } : Jvm.MethodName) prog_9_method_7_code (1 : Nat) (Option.some Jvm.ClassFile.FieldType.boolean)) : Cond) ∈ ax_G := tw_g (tw_c3 (List.mem_of_getElem? (i := 142) rfl)) rfl
theorem cb_X7_takeDo : ax_CB mX7_takeDo 0 := ⟨co_X7_takeDo, ini_X7, by decide, by decide, by decide +kernel⟩
theorem im_X7_takeDo : ((Jvm.Cond.instanceMethod ({ cls := "WindowHouse$Reader", name := "takeDo", desc := "()Z" } : Jvm.MethodName)) : Cond) ∈ ax_G := tw_g (tw_c3 (List.mem_of_getElem? (i := 141) rfl)) rfl
theorem se_X7_takeDo : Cond.selects yX7_takeDo.cls yX7_takeDo yX7_takeDo ∈ ax_G := tw_g (List.mem_of_getElem? (i := 31) rfl) rfl
def mX7_isNumber : AM := (yX7_isNumber, cX7_isNumber, 3, some .boolean)
theorem co_X7_isNumber : ((Jvm.Cond.code ({ cls := "WindowHouse$Reader", name := "isNumber", desc := "(II)Z" } : Jvm.MethodName) prog_9_method_8_code (3 : Nat) (Option.some Jvm.ClassFile.FieldType.boolean)) : Cond) ∈ ax_G := tw_g (tw_c3 (List.mem_of_getElem? (i := 82) rfl)) rfl
theorem cb_X7_isNumber : ax_CB mX7_isNumber 2 := ⟨co_X7_isNumber, ini_X7, by decide, by decide, by decide +kernel⟩
theorem im_X7_isNumber : ((Jvm.Cond.instanceMethod ({ cls := "WindowHouse$Reader", name := "isNumber", desc := "(II)Z" } : Jvm.MethodName)) : Cond) ∈ ax_G := tw_g (tw_c3 (List.mem_of_getElem? (i := 81) rfl)) rfl
theorem se_X7_isNumber : Cond.selects yX7_isNumber.cls yX7_isNumber yX7_isNumber ∈ ax_G := tw_g (List.mem_of_getElem? (i := 19) rfl) rfl
def mX7_isNewName : AM := (yX7_isNewName, cX7_isNewName, 2, some .boolean)
theorem co_X7_isNewName : ((Jvm.Cond.code ({ cls := "WindowHouse$Reader", name := "isNewName", desc := "(I)Z" } : Jvm.MethodName) prog_9_method_9_code (2 : Nat) (Option.some Jvm.ClassFile.FieldType.boolean)) : Cond) ∈ ax_G := tw_g (tw_c3 (List.mem_of_getElem? (i := 74) rfl)) rfl
theorem cb_X7_isNewName : ax_CB mX7_isNewName 1 := ⟨co_X7_isNewName, ini_X7, by decide, by decide, by decide +kernel⟩
theorem im_X7_isNewName : ((Jvm.Cond.instanceMethod ({ cls := "WindowHouse$Reader", name := "isNewName", desc := "(I)Z" } : Jvm.MethodName)) : Cond) ∈ ax_G := tw_g (tw_c3 (List.mem_of_getElem? (i := 73) rfl)) rfl
theorem se_X7_isNewName : Cond.selects yX7_isNewName.cls yX7_isNewName yX7_isNewName ∈ ax_G := tw_g (List.mem_of_getElem? (i := 17) rfl) rfl
def mX7_isVar : AM := (yX7_isVar, cX7_isVar, 1, some .boolean)
theorem co_X7_isVar : ((Jvm.Cond.code ({ cls := "WindowHouse$Reader", name := "isVar", desc := "()Z" } : Jvm.MethodName) prog_9_method_10_code (1 : Nat) (Option.some Jvm.ClassFile.FieldType.boolean)) : Cond) ∈ ax_G := tw_g (tw_c3 (List.mem_of_getElem? (i := 121) rfl)) rfl
theorem cb_X7_isVar : ax_CB mX7_isVar 0 := ⟨co_X7_isVar, ini_X7, by decide, by decide, by decide +kernel⟩
theorem im_X7_isVar : ((Jvm.Cond.instanceMethod ({ cls := "WindowHouse$Reader", name := "isVar", desc := "()Z" } : Jvm.MethodName)) : Cond) ∈ ax_G := tw_g (tw_c3 (List.mem_of_getElem? (i := 120) rfl)) rfl
theorem se_X7_isVar : Cond.selects yX7_isVar.cls yX7_isVar yX7_isVar ∈ ax_G := tw_g (List.mem_of_getElem? (i := 26) rfl) rfl
def mX7_takeTop : AM := (yX7_takeTop, cX7_takeTop, 1, some .boolean)
theorem co_X7_takeTop : ((Jvm.Cond.code ({ cls := "WindowHouse$Reader", name := "takeTop", desc := "()Z" } : Jvm.MethodName) prog_9_method_11_code (1 : Nat) (Option.some Jvm.ClassFile.FieldType.boolean)) : Cond) ∈ ax_G := tw_g (tw_c3 (List.mem_of_getElem? (i := 3) rfl)) rfl
theorem cb_X7_takeTop : ax_CB mX7_takeTop 0 := ⟨co_X7_takeTop, ini_X7, by decide, by decide, by decide +kernel⟩
theorem im_X7_takeTop : ((Jvm.Cond.instanceMethod ({ cls := "WindowHouse$Reader", name := "takeTop", desc := "()Z" } : Jvm.MethodName)) : Cond) ∈ ax_G := tw_g (tw_c3 (List.mem_of_getElem? (i := 2) rfl)) rfl
theorem se_X7_takeTop : Cond.selects yX7_takeTop.cls yX7_takeTop yX7_takeTop ∈ ax_G := tw_g (List.mem_of_getElem? (i := 12) rfl) rfl
def mX7_takeVarName : AM := (yX7_takeVarName, cX7_takeVarName, 1, some .boolean)
theorem co_X7_takeVarName : ((Jvm.Cond.code ({ cls := "WindowHouse$Reader", name := "takeVarName", desc := "()Z" } : Jvm.MethodName) prog_9_method_12_code (1 : Nat) (Option.some Jvm.ClassFile.FieldType.boolean)) : Cond) ∈ ax_G := tw_g (tw_c3 (List.mem_of_getElem? (i := 66) rfl)) rfl
theorem cb_X7_takeVarName : ax_CB mX7_takeVarName 0 := ⟨co_X7_takeVarName, ini_X7, by decide, by decide, by decide +kernel⟩
theorem im_X7_takeVarName : ((Jvm.Cond.instanceMethod ({ cls := "WindowHouse$Reader", name := "takeVarName", desc := "()Z" } : Jvm.MethodName)) : Cond) ∈ ax_G := tw_g (tw_c3 (List.mem_of_getElem? (i := 65) rfl)) rfl
theorem se_X7_takeVarName : Cond.selects yX7_takeVarName.cls yX7_takeVarName yX7_takeVarName ∈ ax_G := tw_g (List.mem_of_getElem? (i := 15) rfl) rfl
def mX7_takeVarMost : AM := (yX7_takeVarMost, cX7_takeVarMost, 1, some .boolean)
theorem co_X7_takeVarMost : ((Jvm.Cond.code ({ cls := "WindowHouse$Reader", name := "takeVarMost", desc := "()Z" } : Jvm.MethodName) prog_9_method_13_code (1 : Nat) (Option.some Jvm.ClassFile.FieldType.boolean)) : Cond) ∈ ax_G := tw_g (tw_c3 (List.mem_of_getElem? (i := 78) rfl)) rfl
theorem cb_X7_takeVarMost : ax_CB mX7_takeVarMost 0 := ⟨co_X7_takeVarMost, ini_X7, by decide, by decide, by decide +kernel⟩
theorem im_X7_takeVarMost : ((Jvm.Cond.instanceMethod ({ cls := "WindowHouse$Reader", name := "takeVarMost", desc := "()Z" } : Jvm.MethodName)) : Cond) ∈ ax_G := tw_g (tw_c3 (List.mem_of_getElem? (i := 77) rfl)) rfl
theorem se_X7_takeVarMost : Cond.selects yX7_takeVarMost.cls yX7_takeVarMost yX7_takeVarMost ∈ ax_G := tw_g (List.mem_of_getElem? (i := 18) rfl) rfl
def mX7_takeWindowName : AM := (yX7_takeWindowName, cX7_takeWindowName, 1, some .boolean)
theorem co_X7_takeWindowName : ((Jvm.Cond.code ({ cls := "WindowHouse$Reader", name := "takeWindowName", desc := "()Z" } : Jvm.MethodName) prog_9_method_14_code (1 : Nat) (Option.some Jvm.ClassFile.FieldType.boolean)) : Cond) ∈ ax_G := tw_g (tw_c3 (List.mem_of_getElem? (i := 99) rfl)) rfl
theorem cb_X7_takeWindowName : ax_CB mX7_takeWindowName 0 := ⟨co_X7_takeWindowName, ini_X7, by decide, by decide, by decide +kernel⟩
theorem im_X7_takeWindowName : ((Jvm.Cond.instanceMethod ({ cls := "WindowHouse$Reader", name := "takeWindowName", desc := "()Z" } : Jvm.MethodName)) : Cond) ∈ ax_G := tw_g (tw_c3 (List.mem_of_getElem? (i := 98) rfl)) rfl
theorem se_X7_takeWindowName : Cond.selects yX7_takeWindowName.cls yX7_takeWindowName yX7_takeWindowName ∈ ax_G := tw_g (List.mem_of_getElem? (i := 22) rfl) rfl
def mX7_takePart : AM := (yX7_takePart, cX7_takePart, 2, some .boolean)
theorem co_X7_takePart : ((Jvm.Cond.code ({ cls := "WindowHouse$Reader", name := "takePart", desc := "()Z" } : Jvm.MethodName) prog_9_method_15_code (2 : Nat) (Option.some Jvm.ClassFile.FieldType.boolean)) : Cond) ∈ ax_G := tw_g (tw_c3 (List.mem_of_getElem? (i := 110) rfl)) rfl
theorem cb_X7_takePart : ax_CB mX7_takePart 0 := ⟨co_X7_takePart, ini_X7, by decide, by decide, by decide +kernel⟩
theorem im_X7_takePart : ((Jvm.Cond.instanceMethod ({ cls := "WindowHouse$Reader", name := "takePart", desc := "()Z" } : Jvm.MethodName)) : Cond) ∈ ax_G := tw_g (tw_c3 (List.mem_of_getElem? (i := 109) rfl)) rfl
theorem se_X7_takePart : Cond.selects yX7_takePart.cls yX7_takePart yX7_takePart ∈ ax_G := tw_g (List.mem_of_getElem? (i := 24) rfl) rfl
def mX7_takeShowName : AM := (yX7_takeShowName, cX7_takeShowName, 1, some .boolean)
theorem co_X7_takeShowName : ((Jvm.Cond.code ({ cls := "WindowHouse$Reader", name := "takeShowName", desc := "()Z" } : Jvm.MethodName) prog_9_method_16_code (1 : Nat) (Option.some Jvm.ClassFile.FieldType.boolean)) : Cond) ∈ ax_G := tw_g (tw_c3 (List.mem_of_getElem? (i := 117) rfl)) rfl
theorem cb_X7_takeShowName : ax_CB mX7_takeShowName 0 := ⟨co_X7_takeShowName, ini_X7, by decide, by decide, by decide +kernel⟩
theorem im_X7_takeShowName : ((Jvm.Cond.instanceMethod ({ cls := "WindowHouse$Reader", name := "takeShowName", desc := "()Z" } : Jvm.MethodName)) : Cond) ∈ ax_G := tw_g (tw_c3 (List.mem_of_getElem? (i := 116) rfl)) rfl
theorem se_X7_takeShowName : Cond.selects yX7_takeShowName.cls yX7_takeShowName yX7_takeShowName ∈ ax_G := tw_g (List.mem_of_getElem? (i := 25) rfl) rfl
def mX7_takeButtonName : AM := (yX7_takeButtonName, cX7_takeButtonName, 2, some .boolean)
theorem co_X7_takeButtonName : ((Jvm.Cond.code ({ cls := "WindowHouse$Reader", name := "takeButtonName", desc := "()Z" } : Jvm.MethodName) prog_9_method_17_code (2 : Nat) (Option.some Jvm.ClassFile.FieldType.boolean)) : Cond) ∈ ax_G := tw_g (tw_c3 (List.mem_of_getElem? (i := 129) rfl)) rfl
theorem cb_X7_takeButtonName : ax_CB mX7_takeButtonName 0 := ⟨co_X7_takeButtonName, ini_X7, by decide, by decide, by decide +kernel⟩
theorem im_X7_takeButtonName : ((Jvm.Cond.instanceMethod ({ cls := "WindowHouse$Reader", name := "takeButtonName", desc := "()Z" } : Jvm.MethodName)) : Cond) ∈ ax_G := tw_g (tw_c3 (List.mem_of_getElem? (i := 128) rfl)) rfl
theorem se_X7_takeButtonName : Cond.selects yX7_takeButtonName.cls yX7_takeButtonName yX7_takeButtonName ∈ ax_G := tw_g (List.mem_of_getElem? (i := 28) rfl) rfl
def mX7_takeCondName : AM := (yX7_takeCondName, cX7_takeCondName, 1, some .boolean)
theorem co_X7_takeCondName : ((Jvm.Cond.code ({ cls := "WindowHouse$Reader", name := "takeCondName", desc := "()Z" } : Jvm.MethodName) prog_9_method_18_code (1 : Nat) (Option.some Jvm.ClassFile.FieldType.boolean)) : Cond) ∈ ax_G := tw_g (tw_c3 (List.mem_of_getElem? (i := 147) rfl)) rfl
theorem cb_X7_takeCondName : ax_CB mX7_takeCondName 0 := ⟨co_X7_takeCondName, ini_X7, by decide, by decide, by decide +kernel⟩
theorem im_X7_takeCondName : ((Jvm.Cond.instanceMethod ({ cls := "WindowHouse$Reader", name := "takeCondName", desc := "()Z" } : Jvm.MethodName)) : Cond) ∈ ax_G := tw_g (tw_c3 (List.mem_of_getElem? (i := 146) rfl)) rfl
theorem se_X7_takeCondName : Cond.selects yX7_takeCondName.cls yX7_takeCondName yX7_takeCondName ∈ ax_G := tw_g (List.mem_of_getElem? (i := 32) rfl) rfl
def mX7_takeCondSign : AM := (yX7_takeCondSign, cX7_takeCondSign, 1, some .boolean)
theorem co_X7_takeCondSign : ((Jvm.Cond.code ({ cls := "WindowHouse$Reader", name := "takeCondSign", desc := "()Z" } : Jvm.MethodName) prog_9_method_19_code (1 : Nat) (Option.some Jvm.ClassFile.FieldType.boolean)) : Cond) ∈ ax_G := tw_g (tw_c3 (List.mem_of_getElem? (i := 151) rfl)) rfl
theorem cb_X7_takeCondSign : ax_CB mX7_takeCondSign 0 := ⟨co_X7_takeCondSign, ini_X7, by decide, by decide, by decide +kernel⟩
theorem im_X7_takeCondSign : ((Jvm.Cond.instanceMethod ({ cls := "WindowHouse$Reader", name := "takeCondSign", desc := "()Z" } : Jvm.MethodName)) : Cond) ∈ ax_G := tw_g (tw_c3 (List.mem_of_getElem? (i := 150) rfl)) rfl
theorem se_X7_takeCondSign : Cond.selects yX7_takeCondSign.cls yX7_takeCondSign yX7_takeCondSign ∈ ax_G := tw_g (List.mem_of_getElem? (i := 33) rfl) rfl
def mX7_takeCondNumber : AM := (yX7_takeCondNumber, cX7_takeCondNumber, 1, some .boolean)
theorem co_X7_takeCondNumber : ((Jvm.Cond.code ({ cls := "WindowHouse$Reader", name := "takeCondNumber", desc := "()Z" } : Jvm.MethodName) prog_9_method_20_code (1 : Nat) (Option.some Jvm.ClassFile.FieldType.boolean)) : Cond) ∈ ax_G := tw_g (tw_c3 (List.mem_of_getElem? (i := 156) rfl)) rfl
theorem cb_X7_takeCondNumber : ax_CB mX7_takeCondNumber 0 := ⟨co_X7_takeCondNumber, ini_X7, by decide, by decide, by decide +kernel⟩
theorem im_X7_takeCondNumber : ((Jvm.Cond.instanceMethod ({ cls := "WindowHouse$Reader", name := "takeCondNumber", desc := "()Z" } : Jvm.MethodName)) : Cond) ∈ ax_G := tw_g (tw_c3 (List.mem_of_getElem? (i := 155) rfl)) rfl
theorem se_X7_takeCondNumber : Cond.selects yX7_takeCondNumber.cls yX7_takeCondNumber yX7_takeCondNumber ∈ ax_G := tw_g (List.mem_of_getElem? (i := 34) rfl) rfl
def mX7_takeTimerTicks : AM := (yX7_takeTimerTicks, cX7_takeTimerTicks, 2, some .boolean)
theorem co_X7_takeTimerTicks : ((Jvm.Cond.code ({ cls := "WindowHouse$Reader", name := "takeTimerTicks", desc := "()Z" } : Jvm.MethodName) prog_9_method_21_code (2 : Nat) (Option.some Jvm.ClassFile.FieldType.boolean)) : Cond) ∈ ax_G := tw_g (tw_c3 (List.mem_of_getElem? (i := 165) rfl)) rfl
theorem cb_X7_takeTimerTicks : ax_CB mX7_takeTimerTicks 0 := ⟨co_X7_takeTimerTicks, ini_X7, by decide, by decide, by decide +kernel⟩
theorem im_X7_takeTimerTicks : ((Jvm.Cond.instanceMethod ({ cls := "WindowHouse$Reader", name := "takeTimerTicks", desc := "()Z" } : Jvm.MethodName)) : Cond) ∈ ax_G := tw_g (tw_c3 (List.mem_of_getElem? (i := 164) rfl)) rfl
theorem se_X7_takeTimerTicks : Cond.selects yX7_takeTimerTicks.cls yX7_takeTimerTicks yX7_takeTimerTicks ∈ ax_G := tw_g (List.mem_of_getElem? (i := 36) rfl) rfl
def mX7_takeDeed : AM := (yX7_takeDeed, cX7_takeDeed, 1, some .boolean)
theorem co_X7_takeDeed : ((Jvm.Cond.code ({ cls := "WindowHouse$Reader", name := "takeDeed", desc := "()Z" } : Jvm.MethodName) prog_9_method_22_code (1 : Nat) (Option.some Jvm.ClassFile.FieldType.boolean)) : Cond) ∈ ax_G := tw_g (tw_c3 (List.mem_of_getElem? (i := 174) rfl)) rfl
theorem cb_X7_takeDeed : ax_CB mX7_takeDeed 0 := ⟨co_X7_takeDeed, ini_X7, by decide, by decide, by decide +kernel⟩
theorem im_X7_takeDeed : ((Jvm.Cond.instanceMethod ({ cls := "WindowHouse$Reader", name := "takeDeed", desc := "()Z" } : Jvm.MethodName)) : Cond) ∈ ax_G := tw_g (tw_c3 (List.mem_of_getElem? (i := 173) rfl)) rfl
theorem se_X7_takeDeed : Cond.selects yX7_takeDeed.cls yX7_takeDeed yX7_takeDeed ∈ ax_G := tw_g (List.mem_of_getElem? (i := 38) rfl) rfl
def mX7_deedSaid : AM := (yX7_deedSaid, cX7_deedSaid, 1, some .int)
theorem co_X7_deedSaid : ((Jvm.Cond.code ({ cls := "WindowHouse$Reader", name := "deedSaid", desc := "()I" } : Jvm.MethodName) prog_9_method_23_code (1 : Nat) (Option.some Jvm.ClassFile.FieldType.int)) : Cond) ∈ ax_G := tw_g (tw_c3 (List.mem_of_getElem? (i := 178) rfl)) rfl
theorem cb_X7_deedSaid : ax_CB mX7_deedSaid 0 := ⟨co_X7_deedSaid, ini_X7, by decide, by decide, by decide +kernel⟩
theorem im_X7_deedSaid : ((Jvm.Cond.instanceMethod ({ cls := "WindowHouse$Reader", name := "deedSaid", desc := "()I" } : Jvm.MethodName)) : Cond) ∈ ax_G := tw_g (tw_c3 (List.mem_of_getElem? (i := 177) rfl)) rfl
theorem se_X7_deedSaid : Cond.selects yX7_deedSaid.cls yX7_deedSaid yX7_deedSaid ∈ ax_G := tw_g (List.mem_of_getElem? (i := 39) rfl) rfl
def mX7_takeDeedWindow : AM := (yX7_takeDeedWindow, cX7_takeDeedWindow, 1, some .boolean)
theorem co_X7_takeDeedWindow : ((Jvm.Cond.code ({ cls := "WindowHouse$Reader", name := "takeDeedWindow", desc := "()Z" } : Jvm.MethodName) prog_9_method_24_code (1 : Nat) (Option.some Jvm.ClassFile.FieldType.boolean)) : Cond) ∈ ax_G := tw_g (tw_c3 (List.mem_of_getElem? (i := 191) rfl)) rfl
theorem cb_X7_takeDeedWindow : ax_CB mX7_takeDeedWindow 0 := ⟨co_X7_takeDeedWindow, ini_X7, by decide, by decide, by decide +kernel⟩
theorem im_X7_takeDeedWindow : ((Jvm.Cond.instanceMethod ({ cls := "WindowHouse$Reader", name := "takeDeedWindow", desc := "()Z" } : Jvm.MethodName)) : Cond) ∈ ax_G := tw_g (tw_c3 (List.mem_of_getElem? (i := 190) rfl)) rfl
theorem se_X7_takeDeedWindow : Cond.selects yX7_takeDeedWindow.cls yX7_takeDeedWindow yX7_takeDeedWindow ∈ ax_G := tw_g (List.mem_of_getElem? (i := 41) rfl) rfl
def mX7_takeDeedVar : AM := (yX7_takeDeedVar, cX7_takeDeedVar, 1, some .boolean)
theorem co_X7_takeDeedVar : ((Jvm.Cond.code ({ cls := "WindowHouse$Reader", name := "takeDeedVar", desc := "()Z" } : Jvm.MethodName) prog_9_method_25_code (1 : Nat) (Option.some Jvm.ClassFile.FieldType.boolean)) : Cond) ∈ ax_G := tw_g (tw_c3 (List.mem_of_getElem? (i := 195) rfl)) rfl
theorem cb_X7_takeDeedVar : ax_CB mX7_takeDeedVar 0 := ⟨co_X7_takeDeedVar, ini_X7, by decide, by decide, by decide +kernel⟩
theorem im_X7_takeDeedVar : ((Jvm.Cond.instanceMethod ({ cls := "WindowHouse$Reader", name := "takeDeedVar", desc := "()Z" } : Jvm.MethodName)) : Cond) ∈ ax_G := tw_g (tw_c3 (List.mem_of_getElem? (i := 194) rfl)) rfl
theorem se_X7_takeDeedVar : Cond.selects yX7_takeDeedVar.cls yX7_takeDeedVar yX7_takeDeedVar ∈ ax_G := tw_g (List.mem_of_getElem? (i := 42) rfl) rfl
def mX7_takeDeedNumber : AM := (yX7_takeDeedNumber, cX7_takeDeedNumber, 3, some .boolean)
theorem co_X7_takeDeedNumber : ((Jvm.Cond.code ({ cls := "WindowHouse$Reader", name := "takeDeedNumber", desc := "()Z" } : Jvm.MethodName) prog_9_method_26_code (3 : Nat) (Option.some Jvm.ClassFile.FieldType.boolean)) : Cond) ∈ ax_G := tw_g (tw_c3 (List.mem_of_getElem? (i := 199) rfl)) rfl
theorem cb_X7_takeDeedNumber : ax_CB mX7_takeDeedNumber 0 := ⟨co_X7_takeDeedNumber, ini_X7, by decide, by decide, by decide +kernel⟩
theorem im_X7_takeDeedNumber : ((Jvm.Cond.instanceMethod ({ cls := "WindowHouse$Reader", name := "takeDeedNumber", desc := "()Z" } : Jvm.MethodName)) : Cond) ∈ ax_G := tw_g (tw_c3 (List.mem_of_getElem? (i := 198) rfl)) rfl
theorem se_X7_takeDeedNumber : Cond.selects yX7_takeDeedNumber.cls yX7_takeDeedNumber yX7_takeDeedNumber ∈ ax_G := tw_g (List.mem_of_getElem? (i := 43) rfl) rfl
def mX7_findOpened : AM := (yX7_findOpened, cX7_findOpened, 3, some .boolean)
theorem co_X7_findOpened : ((Jvm.Cond.code ({ cls := "WindowHouse$Reader", name := "findOpened", desc := "()Z" } : Jvm.MethodName) prog_9_method_27_code (3 : Nat) (Option.some Jvm.ClassFile.FieldType.boolean)) : Cond) ∈ ax_G := tw_g (tw_c2 (List.mem_of_getElem? (i := 224) rfl)) rfl
theorem cb_X7_findOpened : ax_CB mX7_findOpened 0 := ⟨co_X7_findOpened, ini_X7, by decide, by decide, by decide +kernel⟩
theorem im_X7_findOpened : ((Jvm.Cond.instanceMethod ({ cls := "WindowHouse$Reader", name := "findOpened", desc := "()Z" } : Jvm.MethodName)) : Cond) ∈ ax_G := tw_g (tw_c2 (List.mem_of_getElem? (i := 223) rfl)) rfl
theorem se_X7_findOpened : Cond.selects yX7_findOpened.cls yX7_findOpened yX7_findOpened ∈ ax_G := tw_g (List.mem_of_getElem? (i := 8) rfl) rfl
theorem ini_X8 : ((Jvm.Cond.initialized "WindowHouse$Scanner") : Cond) ∈ ax_G := tw_g (tw_c1 (List.mem_of_getElem? (i := 6) rfl)) rfl
def mX8_init : AM := (yX8_init, cX8_init, 1, none)
theorem co_X8_init : ((Jvm.Cond.code ({ cls := "WindowHouse$Scanner", name := "<init>", desc := "()V" } : Jvm.MethodName) prog_10_method_1_code (1 : Nat) (Option.none : Option Jvm.ClassFile.FieldType)) : Cond) ∈ ax_G := tw_g (tw_c1 (List.mem_of_getElem? (i := 184) rfl)) rfl
theorem cb_X8_init : ax_CB mX8_init 0 := ⟨co_X8_init, ini_X8, by decide, by decide, by decide +kernel⟩
theorem im_X8_init : ((Jvm.Cond.instanceMethod ({ cls := "WindowHouse$Scanner", name := "<init>", desc := "()V" } : Jvm.MethodName)) : Cond) ∈ ax_G := tw_g (tw_c1 (List.mem_of_getElem? (i := 183) rfl)) rfl
def mX8_start : AM := (yX8_start, cX8_start, 3, none)
theorem co_X8_start : ((Jvm.Cond.code ({ cls := "WindowHouse$Scanner", name := "start", desc := "([II)V" } : Jvm.MethodName) prog_10_method_2_code (3 : Nat) (Option.none : Option Jvm.ClassFile.FieldType)) : Cond) ∈ ax_G := tw_g (tw_c2 (List.mem_of_getElem? (i := 193) rfl)) rfl
theorem cb_X8_start : ax_CB mX8_start 2 := ⟨co_X8_start, ini_X8, by decide, by decide, by decide +kernel⟩
theorem im_X8_start : ((Jvm.Cond.instanceMethod ({ cls := "WindowHouse$Scanner", name := "start", desc := "([II)V" } : Jvm.MethodName)) : Cond) ∈ ax_G := tw_g (tw_c2 (List.mem_of_getElem? (i := 192) rfl)) rfl
theorem se_X8_start : Cond.selects yX8_start.cls yX8_start yX8_start ∈ ax_G := tw_g (List.mem_of_getElem? (i := 4) rfl) rfl
def mX8_goOn : AM := (yX8_goOn, cX8_goOn, 1, none)
theorem co_X8_goOn : ((Jvm.Cond.code ({ cls := "WindowHouse$Scanner", name := "goOn", desc := "()V" } : Jvm.MethodName) prog_10_method_3_code (1 : Nat) (Option.none : Option Jvm.ClassFile.FieldType)) : Cond) ∈ ax_G := tw_g (tw_c2 (List.mem_of_getElem? (i := 200) rfl)) rfl
theorem cb_X8_goOn : ax_CB mX8_goOn 0 := ⟨co_X8_goOn, ini_X8, by decide, by decide, by decide +kernel⟩
theorem im_X8_goOn : ((Jvm.Cond.instanceMethod ({ cls := "WindowHouse$Scanner", name := "goOn", desc := "()V" } : Jvm.MethodName)) : Cond) ∈ ax_G := tw_g (tw_c2 (List.mem_of_getElem? (i := 199) rfl)) rfl
theorem se_X8_goOn : Cond.selects yX8_goOn.cls yX8_goOn yX8_goOn ∈ ax_G := tw_g (List.mem_of_getElem? (i := 5) rfl) rfl
def mX8_goOverWord : AM := (yX8_goOverWord, cX8_goOverWord, 1, none)
theorem co_X8_goOverWord : ((Jvm.Cond.code ({ cls := "WindowHouse$Scanner", name := "goOverWord", desc := "()V" } : Jvm.MethodName) prog_10_method_4_code (1 : Nat) (Option.none : Option Jvm.ClassFile.FieldType)) : Cond) ∈ ax_G := tw_g (tw_c2 (List.mem_of_getElem? (i := 207) rfl)) rfl
theorem cb_X8_goOverWord : ax_CB mX8_goOverWord 0 := ⟨co_X8_goOverWord, ini_X8, by decide, by decide, by decide +kernel⟩
theorem im_X8_goOverWord : ((Jvm.Cond.instanceMethod ({ cls := "WindowHouse$Scanner", name := "goOverWord", desc := "()V" } : Jvm.MethodName)) : Cond) ∈ ax_G := tw_g (tw_c2 (List.mem_of_getElem? (i := 206) rfl)) rfl
theorem se_X8_goOverWord : Cond.selects yX8_goOverWord.cls yX8_goOverWord yX8_goOverWord ∈ ax_G := tw_g (List.mem_of_getElem? (i := 6) rfl) rfl
def mX8_goOverNumber : AM := (yX8_goOverNumber, cX8_goOverNumber, 1, none)
theorem co_X8_goOverNumber : ((Jvm.Cond.code ({ cls := "WindowHouse$Scanner", name := "goOverNumber", desc := "()V" } : Jvm.MethodName) prog_10_method_5_code (1 : Nat) (Option.none : Option Jvm.ClassFile.FieldType)) : Cond) ∈ ax_G := tw_g (tw_c2 (List.mem_of_getElem? (i := 214) rfl)) rfl
theorem cb_X8_goOverNumber : ax_CB mX8_goOverNumber 0 := ⟨co_X8_goOverNumber, ini_X8, by decide, by decide, by decide +kernel⟩
theorem im_X8_goOverNumber : ((Jvm.Cond.instanceMethod ({ cls := "WindowHouse$Scanner", name := "goOverNumber", desc := "()V" } : Jvm.MethodName)) : Cond) ∈ ax_G := tw_g (tw_c2 (List.mem_of_getElem? (i := 213) rfl)) rfl
theorem se_X8_goOverNumber : Cond.selects yX8_goOverNumber.cls yX8_goOverNumber yX8_goOverNumber ∈ ax_G := tw_g (List.mem_of_getElem? (i := 7) rfl) rfl
def mX8_says : AM := (yX8_says, cX8_says, 3, some .boolean)
theorem co_X8_says : ((Jvm.Cond.code ({ cls := "WindowHouse$Scanner", name := "says", desc := "(Ljava/lang/String;)Z" } : Jvm.MethodName) prog_10_method_6_code (3 : Nat) (Option.some Jvm.ClassFile.FieldType.boolean)) : Cond) ∈ ax_G := tw_g (tw_c3 (List.mem_of_getElem? (i := 8) rfl)) rfl
theorem cb_X8_says : ax_CB mX8_says 1 := ⟨co_X8_says, ini_X8, by decide, by decide, by decide +kernel⟩
theorem im_X8_says : ((Jvm.Cond.instanceMethod ({ cls := "WindowHouse$Scanner", name := "says", desc := "(Ljava/lang/String;)Z" } : Jvm.MethodName)) : Cond) ∈ ax_G := tw_g (tw_c3 (List.mem_of_getElem? (i := 7) rfl)) rfl
theorem se_X8_says : Cond.selects yX8_says.cls yX8_says yX8_says ∈ ax_G := tw_g (List.mem_of_getElem? (i := 13) rfl) rfl
def mX8_isLetter : AM := (yX8_isLetter, cX8_isLetter, 1, some .boolean)
theorem co_X8_isLetter : ((Jvm.Cond.code ({ cls := "WindowHouse$Scanner", name := "isLetter", desc := "(I)Z" } : Jvm.MethodName) prog_10_method_7_code (1 : Nat) (Option.some Jvm.ClassFile.FieldType.boolean)) : Cond) ∈ ax_G := tw_g (tw_c2 (List.mem_of_getElem? (i := 203) rfl)) rfl
theorem cb_X8_isLetter : ax_CB mX8_isLetter 1 := ⟨co_X8_isLetter, ini_X8, by decide, by decide, by decide +kernel⟩
theorem st_X8_isLetter : ((Jvm.Cond.static ({ cls := "WindowHouse$Scanner", name := "isLetter", desc := "(I)Z" } : Jvm.MethodName)) : Cond) ∈ ax_G := tw_g (tw_c2 (List.mem_of_getElem? (i := 202) rfl)) rfl
def mX8_isDigit : AM := (yX8_isDigit, cX8_isDigit, 1, some .boolean)
theorem co_X8_isDigit : ((Jvm.Cond.code ({ cls := "WindowHouse$Scanner", name := "isDigit", desc := "(I)Z" } : Jvm.MethodName) prog_10_method_8_code (1 : Nat) (Option.some Jvm.ClassFile.FieldType.boolean)) : Cond) ∈ ax_G := tw_g (tw_c2 (List.mem_of_getElem? (i := 210) rfl)) rfl
theorem cb_X8_isDigit : ax_CB mX8_isDigit 1 := ⟨co_X8_isDigit, ini_X8, by decide, by decide, by decide +kernel⟩
theorem st_X8_isDigit : ((Jvm.Cond.static ({ cls := "WindowHouse$Scanner", name := "isDigit", desc := "(I)Z" } : Jvm.MethodName)) : Cond) ∈ ax_G := tw_g (tw_c2 (List.mem_of_getElem? (i := 209) rfl)) rfl
def mX8_isSign : AM := (yX8_isSign, cX8_isSign, 1, some .boolean)
theorem co_X8_isSign : ((Jvm.Cond.code ({ cls := "WindowHouse$Scanner", name := "isSign", desc := "(I)Z" } : Jvm.MethodName) prog_10_method_9_code (1 : Nat) (Option.some Jvm.ClassFile.FieldType.boolean)) : Cond) ∈ ax_G := tw_g (tw_c2 (List.mem_of_getElem? (i := 217) rfl)) rfl
theorem cb_X8_isSign : ax_CB mX8_isSign 1 := ⟨co_X8_isSign, ini_X8, by decide, by decide, by decide +kernel⟩
theorem st_X8_isSign : ((Jvm.Cond.static ({ cls := "WindowHouse$Scanner", name := "isSign", desc := "(I)Z" } : Jvm.MethodName)) : Cond) ∈ ax_G := tw_g (tw_c2 (List.mem_of_getElem? (i := 216) rfl)) rfl
def mX8_isComparison : AM := (yX8_isComparison, cX8_isComparison, 1, some .boolean)
theorem co_X8_isComparison : ((Jvm.Cond.code ({ cls := "WindowHouse$Scanner", name := "isComparison", desc := "(I)Z" } : Jvm.MethodName) prog_10_method_10_code (1 : Nat) (Option.some Jvm.ClassFile.FieldType.boolean)) : Cond) ∈ ax_G := tw_g (tw_c2 (List.mem_of_getElem? (i := 220) rfl)) rfl
theorem cb_X8_isComparison : ax_CB mX8_isComparison 1 := ⟨co_X8_isComparison, ini_X8, by decide, by decide, by decide +kernel⟩
theorem st_X8_isComparison : ((Jvm.Cond.static ({ cls := "WindowHouse$Scanner", name := "isComparison", desc := "(I)Z" } : Jvm.MethodName)) : Cond) ∈ ax_G := tw_g (tw_c2 (List.mem_of_getElem? (i := 219) rfl)) rfl
theorem ini_X10 : ((Jvm.Cond.initialized "WindowHouseModel$App") : Cond) ∈ ax_G := tw_g (tw_c1 (List.mem_of_getElem? (i := 11) rfl)) rfl
def mX10_init : AM := (yX10_init, cX10_init, 1, none)
theorem co_X10_init : ((Jvm.Cond.code ({ cls := "WindowHouseModel$App", name := "<init>", desc := "()V" } : Jvm.MethodName) prog_13_method_1_code (1 : Nat) (Option.none : Option Jvm.ClassFile.FieldType)) : Cond) ∈ ax_G := tw_g (tw_c5 (List.mem_of_getElem? (i := 203) rfl)) rfl
theorem cb_X10_init : ax_CB mX10_init 0 := ⟨co_X10_init, ini_X10, by decide, by decide, by decide +kernel⟩
theorem im_X10_init : ((Jvm.Cond.instanceMethod ({ cls := "WindowHouseModel$App", name := "<init>", desc := "()V" } : Jvm.MethodName)) : Cond) ∈ ax_G := tw_g (tw_c5 (List.mem_of_getElem? (i := 202) rfl)) rfl
theorem ini_X11 : ((Jvm.Cond.initialized "WindowHouseModel$Stop") : Cond) ∈ ax_G := tw_g (tw_c1 (List.mem_of_getElem? (i := 15) rfl)) rfl
def mX11_init : AM := (yX11_init, cX11_init, 1, none)
theorem co_X11_init : ((Jvm.Cond.code ({ cls := "WindowHouseModel$Stop", name := "<init>", desc := "()V" } : Jvm.MethodName) prog_14_method_1_code (1 : Nat) (Option.none : Option Jvm.ClassFile.FieldType)) : Cond) ∈ ax_G := tw_g (tw_c6 (List.mem_of_getElem? (i := 62) rfl)) rfl
theorem cb_X11_init : ax_CB mX11_init 0 := ⟨co_X11_init, ini_X11, by decide, by decide, by decide +kernel⟩
theorem im_X11_init : ((Jvm.Cond.instanceMethod ({ cls := "WindowHouseModel$Stop", name := "<init>", desc := "()V" } : Jvm.MethodName)) : Cond) ∈ ax_G := tw_g (tw_c6 (List.mem_of_getElem? (i := 61) rfl)) rfl
def mL_row : AM := (yL_row, cL_row, 4, some .int)
theorem st_L_row : ((Jvm.Cond.static ({ cls := "WindowHouseLaw", name := "row", desc := "(LWindowHouse;I[J)I" } : Jvm.MethodName)) : Cond) ∈ ax_G := tw_g (tw_c5 (List.mem_of_getElem? (i := 118) rfl)) rfl
theorem ini_J7 : ((Jvm.Cond.initialized "java/util/Arrays") : Cond) ∈ ax_G := tw_g (tw_c1 (List.mem_of_getElem? (i := 22) rfl)) rfl
def mJ7_fill_53178 : AM := (yJ7_fill_53178, cJ7_fill_53178, 4, none)
theorem co_J7_fill_53178 : ((Jvm.Cond.code ({ cls := "java/util/Arrays", name := "fill", desc := "([II)V" } : Jvm.MethodName) prog_23_method_103_code (4 : Nat) (Option.none : Option Jvm.ClassFile.FieldType)) : Cond) ∈ ax_G := tw_g (tw_c4 (List.mem_of_getElem? (i := 94) rfl)) rfl
theorem cb_J7_fill_53178 : ax_CB mJ7_fill_53178 2 := ⟨co_J7_fill_53178, ini_J7, by decide, by decide, by decide +kernel⟩
theorem st_J7_fill_53178 : ((Jvm.Cond.static ({ cls := "java/util/Arrays", name := "fill", desc := "([II)V" } : Jvm.MethodName)) : Cond) ∈ ax_G := tw_g (tw_c4 (List.mem_of_getElem? (i := 93) rfl)) rfl
theorem lk_X9_1 : ((Jvm.Cond.methodLink "WindowHouse" (1 : Nat) ({ cls := "java/lang/Object", name := "<init>", desc := "()V" } : Jvm.MethodName)) : Cond) ∈ ax_G := tw_g (tw_c1 (List.mem_of_getElem? (i := 30) rfl)) rfl
theorem lk_X9_9 : ((Jvm.Cond.fieldLink "WindowHouse" (9 : Nat) "WindowHouse" "tape" "[I") : Cond) ∈ ax_G := tw_g (tw_c2 (List.mem_of_getElem? (i := 126) rfl)) rfl
theorem fl_X9_9 : ax_FL RX9 9 8 0 2 true false := ⟨RX9, TX9, 13, tyX9, fc_X9, by decide, Or.inl ⟨rfl, lk_X9_9, fun _ => rfl⟩, rfl, Or.inr (Or.inr (Or.inr ⟨rfl, Or.inr ⟨_, rfl⟩⟩)), rfl⟩
theorem lk_X9_13 : ((Jvm.Cond.fieldLink "WindowHouse" (13 : Nat) "WindowHouse" "tapeLength" "I") : Cond) ∈ ax_G := tw_g (tw_c2 (List.mem_of_getElem? (i := 127) rfl)) rfl
theorem fl_X9_13 : ax_FL RX9 13 8 1 0 false false := ⟨RX9, TX9, 13, tyX9, fc_X9, by decide, Or.inl ⟨rfl, lk_X9_13, fun _ => rfl⟩, rfl, Or.inl ⟨rfl, rfl⟩, rfl⟩
theorem lk_X9_17 : ((Jvm.Cond.classLink "WindowHouse" (17 : Nat) "WindowHouse$App") : Cond) ∈ ax_G := tw_g (tw_c1 (List.mem_of_getElem? (i := 33) rfl)) rfl
theorem lk_X9_19 : ((Jvm.Cond.methodLinkNest "WindowHouse" (19 : Nat) ({ cls := "WindowHouse$App", name := "<init>", desc := "()V" } : Jvm.MethodName) "WindowHouse") : Cond) ∈ ax_NW := tw_n (tw_c1 (List.mem_of_getElem? (i := 36) rfl)) rfl
theorem lk_X9_20 : ((Jvm.Cond.fieldLink "WindowHouse" (20 : Nat) "WindowHouse" "apps" "[LWindowHouse$App;") : Cond) ∈ ax_G := tw_g (tw_c2 (List.mem_of_getElem? (i := 128) rfl)) rfl
theorem fl_X9_20 : ax_FL RX9 20 8 2 2 true false := ⟨RX9, TX9, 13, tyX9, fc_X9, by decide, Or.inl ⟨rfl, lk_X9_20, fun _ => rfl⟩, rfl, Or.inr (Or.inr (Or.inr ⟨rfl, Or.inr ⟨_, rfl⟩⟩)), rfl⟩
theorem lk_X9_24 : ((Jvm.Cond.fieldLink "WindowHouse" (24 : Nat) "WindowHouse" "spare" "LWindowHouse$App;") : Cond) ∈ ax_G := tw_g (tw_c2 (List.mem_of_getElem? (i := 129) rfl)) rfl
theorem fl_X9_24 : ax_FL RX9 24 8 3 2 false false := ⟨RX9, TX9, 13, tyX9, fc_X9, by decide, Or.inl ⟨rfl, lk_X9_24, fun _ => rfl⟩, rfl, Or.inr (Or.inr (Or.inr ⟨rfl, Or.inl ⟨_, rfl⟩⟩)), rfl⟩
theorem lk_X9_28 : ((Jvm.Cond.classLink "WindowHouse" (28 : Nat) "WindowHouse$Reader") : Cond) ∈ ax_G := tw_g (tw_c1 (List.mem_of_getElem? (i := 174) rfl)) rfl
theorem lk_X9_30 : ((Jvm.Cond.methodLinkNest "WindowHouse" (30 : Nat) ({ cls := "WindowHouse$Reader", name := "<init>", desc := "(LWindowHouse$App;)V" } : Jvm.MethodName) "WindowHouse") : Cond) ∈ ax_NW := tw_n (tw_c1 (List.mem_of_getElem? (i := 176) rfl)) rfl
theorem lk_X9_33 : ((Jvm.Cond.fieldLink "WindowHouse" (33 : Nat) "WindowHouse" "reader" "LWindowHouse$Reader;") : Cond) ∈ ax_G := tw_g (tw_c2 (List.mem_of_getElem? (i := 130) rfl)) rfl
theorem fl_X9_33 : ax_FL RX9 33 8 4 2 true false := ⟨RX9, TX9, 13, tyX9, fc_X9, by decide, Or.inl ⟨rfl, lk_X9_33, fun _ => rfl⟩, rfl, Or.inr (Or.inr (Or.inr ⟨rfl, Or.inl ⟨_, rfl⟩⟩)), rfl⟩
theorem lk_X9_37 : ((Jvm.Cond.fieldLink "WindowHouse" (37 : Nat) "WindowHouse" "hand" "[J") : Cond) ∈ ax_G := tw_g (tw_c2 (List.mem_of_getElem? (i := 131) rfl)) rfl
theorem fl_X9_37 : ax_FL RX9 37 8 5 2 true false := ⟨RX9, TX9, 13, tyX9, fc_X9, by decide, Or.inl ⟨rfl, lk_X9_37, fun _ => rfl⟩, rfl, Or.inr (Or.inr (Or.inr ⟨rfl, Or.inr ⟨_, rfl⟩⟩)), rfl⟩
theorem lk_X9_41 : ((Jvm.Cond.classLink "WindowHouse" (41 : Nat) "WindowHouse$Atlas") : Cond) ∈ ax_G := tw_g (tw_c2 (List.mem_of_getElem? (i := 20) rfl)) rfl
theorem lk_X9_43 : ((Jvm.Cond.methodLinkNest "WindowHouse" (43 : Nat) ({ cls := "WindowHouse$Atlas", name := "<init>", desc := "(LWindowHouse$App;)V" } : Jvm.MethodName) "WindowHouse") : Cond) ∈ ax_NW := tw_n (tw_c2 (List.mem_of_getElem? (i := 22) rfl)) rfl
theorem lk_X9_44 : ((Jvm.Cond.fieldLink "WindowHouse" (44 : Nat) "WindowHouse" "atlas" "LWindowHouse$Atlas;") : Cond) ∈ ax_G := tw_g (tw_c2 (List.mem_of_getElem? (i := 132) rfl)) rfl
theorem fl_X9_44 : ax_FL RX9 44 8 6 2 true false := ⟨RX9, TX9, 13, tyX9, fc_X9, by decide, Or.inl ⟨rfl, lk_X9_44, fun _ => rfl⟩, rfl, Or.inr (Or.inr (Or.inr ⟨rfl, Or.inl ⟨_, rfl⟩⟩)), rfl⟩
theorem lk_X9_48 : ((Jvm.Cond.classLink "WindowHouse" (48 : Nat) "WindowHouse$Beside") : Cond) ∈ ax_G := tw_g (tw_c2 (List.mem_of_getElem? (i := 96) rfl)) rfl
theorem lk_X9_50 : ((Jvm.Cond.methodLinkNest "WindowHouse" (50 : Nat) ({ cls := "WindowHouse$Beside", name := "<init>", desc := "(LWindowHouse$App;LWindowHouse$App;)V" } : Jvm.MethodName) "WindowHouse") : Cond) ∈ ax_NW := tw_n (tw_c2 (List.mem_of_getElem? (i := 98) rfl)) rfl
theorem lk_X9_53 : ((Jvm.Cond.fieldLink "WindowHouse" (53 : Nat) "WindowHouse" "beside" "LWindowHouse$Beside;") : Cond) ∈ ax_G := tw_g (tw_c2 (List.mem_of_getElem? (i := 133) rfl)) rfl
theorem fl_X9_53 : ax_FL RX9 53 8 7 2 true false := ⟨RX9, TX9, 13, tyX9, fc_X9, by decide, Or.inl ⟨rfl, lk_X9_53, fun _ => rfl⟩, rfl, Or.inr (Or.inr (Or.inr ⟨rfl, Or.inl ⟨_, rfl⟩⟩)), rfl⟩
theorem lk_X9_57 : ((Jvm.Cond.fieldLink "WindowHouse" (57 : Nat) "WindowHouse" "acts" "[I") : Cond) ∈ ax_G := tw_g (tw_c2 (List.mem_of_getElem? (i := 134) rfl)) rfl
theorem fl_X9_57 : ax_FL RX9 57 8 8 2 true false := ⟨RX9, TX9, 13, tyX9, fc_X9, by decide, Or.inl ⟨rfl, lk_X9_57, fun _ => rfl⟩, rfl, Or.inr (Or.inr (Or.inr ⟨rfl, Or.inr ⟨_, rfl⟩⟩)), rfl⟩
theorem lk_X9_60 : ((Jvm.Cond.fieldLink "WindowHouse" (60 : Nat) "WindowHouse" "actsMany" "I") : Cond) ∈ ax_G := tw_g (tw_c2 (List.mem_of_getElem? (i := 135) rfl)) rfl
theorem fl_X9_60 : ax_FL RX9 60 8 9 0 false false := ⟨RX9, TX9, 13, tyX9, fc_X9, by decide, Or.inl ⟨rfl, lk_X9_60, fun _ => rfl⟩, rfl, Or.inl ⟨rfl, rfl⟩, rfl⟩
theorem lk_X9_63 : ((Jvm.Cond.fieldLink "WindowHouse" (63 : Nat) "WindowHouse" "trail" "[J") : Cond) ∈ ax_G := tw_g (tw_c2 (List.mem_of_getElem? (i := 136) rfl)) rfl
theorem fl_X9_63 : ax_FL RX9 63 8 10 2 true false := ⟨RX9, TX9, 13, tyX9, fc_X9, by decide, Or.inl ⟨rfl, lk_X9_63, fun _ => rfl⟩, rfl, Or.inr (Or.inr (Or.inr ⟨rfl, Or.inr ⟨_, rfl⟩⟩)), rfl⟩
theorem lk_X9_66 : ((Jvm.Cond.fieldLink "WindowHouse" (66 : Nat) "WindowHouse" "triedMany" "I") : Cond) ∈ ax_G := tw_g (tw_c2 (List.mem_of_getElem? (i := 137) rfl)) rfl
theorem fl_X9_66 : ax_FL RX9 66 8 11 0 false false := ⟨RX9, TX9, 13, tyX9, fc_X9, by decide, Or.inl ⟨rfl, lk_X9_66, fun _ => rfl⟩, rfl, Or.inl ⟨rfl, rfl⟩, rfl⟩
theorem lk_X9_69 : ((Jvm.Cond.fieldLink "WindowHouse" (69 : Nat) "WindowHouse" "latestTrouble" "I") : Cond) ∈ ax_G := tw_g (tw_c2 (List.mem_of_getElem? (i := 138) rfl)) rfl
theorem fl_X9_69 : ax_FL RX9 69 8 12 0 false false := ⟨RX9, TX9, 13, tyX9, fc_X9, by decide, Or.inl ⟨rfl, lk_X9_69, fun _ => rfl⟩, rfl, Or.inl ⟨rfl, rfl⟩, rfl⟩
theorem lk_X9_72 : ((Jvm.Cond.methodLink "WindowHouse" (72 : Nat) ({ cls := "WindowHouse", name := "wind", desc := "(I)V" } : Jvm.MethodName)) : Cond) ∈ ax_G := tw_g (tw_c2 (List.mem_of_getElem? (i := 170) rfl)) rfl
theorem lk_X9_76 : ((Jvm.Cond.methodLink "WindowHouse" (76 : Nat) ({ cls := "WindowHouse", name := "refused", desc := "(I)I" } : Jvm.MethodName)) : Cond) ∈ ax_G := tw_g (tw_c2 (List.mem_of_getElem? (i := 178) rfl)) rfl
theorem lk_X9_80 : ((Jvm.Cond.methodLinkNest "WindowHouse" (80 : Nat) ({ cls := "WindowHouse$Reader", name := "reads", desc := "([IILWindowHouse$App;)Z" } : Jvm.MethodName) "WindowHouse") : Cond) ∈ ax_NW := tw_n (tw_c2 (List.mem_of_getElem? (i := 182) rfl)) rfl
theorem lk_X9_84 : ((Jvm.Cond.methodLinkNest "WindowHouse" (84 : Nat) ({ cls := "WindowHouse$App", name := "beginning", desc := "()J" } : Jvm.MethodName) "WindowHouse") : Cond) ∈ ax_NW := tw_n (tw_c3 (List.mem_of_getElem? (i := 200) rfl)) rfl
theorem lk_X9_88 : ((Jvm.Cond.fieldLinkNest "WindowHouse" (88 : Nat) "WindowHouse$Atlas" "whose" "I" "WindowHouse") : Cond) ∈ ax_NW := tw_n (tw_c2 (List.mem_of_getElem? (i := 64) rfl)) rfl
theorem fl_X9_88 : ax_FL RX9 88 1 0 0 false true := ⟨RX1, TX1, 9, tyX1, fc_X1, by decide, Or.inr ⟨rfl, _, lk_X9_88⟩, rfl, Or.inl ⟨rfl, rfl⟩, rfl⟩
theorem lk_X9_91 : ((Jvm.Cond.methodLinkNest "WindowHouse" (91 : Nat) ({ cls := "WindowHouse$Atlas", name := "drop", desc := "()V" } : Jvm.MethodName) "WindowHouse") : Cond) ∈ ax_NW := tw_n (tw_c3 (List.mem_of_getElem? (i := 211) rfl)) rfl
theorem lk_X9_94 : ((Jvm.Cond.fieldLinkNest "WindowHouse" (94 : Nat) "WindowHouse$App" "windows" "I" "WindowHouse") : Cond) ∈ ax_NW := tw_n (tw_c1 (List.mem_of_getElem? (i := 92) rfl)) rfl
theorem fl_X9_94 : ax_FL RX9 94 0 0 0 false true := ⟨RX0, TX0, 19, tyX0, fc_X0, by decide, Or.inr ⟨rfl, _, lk_X9_94⟩, rfl, Or.inl ⟨rfl, rfl⟩, rfl⟩
theorem lk_X9_97 : ((Jvm.Cond.methodLink "WindowHouse" (97 : Nat) ({ cls := "WindowHouse", name := "granted", desc := "(I)I" } : Jvm.MethodName)) : Cond) ∈ ax_G := tw_g (tw_c3 (List.mem_of_getElem? (i := 215) rfl)) rfl
theorem lk_X9_100 : ((Jvm.Cond.fieldLinkNest "WindowHouse" (100 : Nat) "WindowHouse$Reader" "fault" "I" "WindowHouse") : Cond) ∈ ax_NW := tw_n (tw_c1 (List.mem_of_getElem? (i := 216) rfl)) rfl
theorem fl_X9_100 : ax_FL RX9 100 6 3 0 false true := ⟨RX7, TX7, 15, tyX7, fc_X7, by decide, Or.inr ⟨rfl, _, lk_X9_100⟩, rfl, Or.inl ⟨rfl, rfl⟩, rfl⟩
theorem lk_X9_103 : ((Jvm.Cond.fieldLinkNest "WindowHouse" (103 : Nat) "WindowHouse$Reader" "faultPlace" "I" "WindowHouse") : Cond) ∈ ax_NW := tw_n (tw_c1 (List.mem_of_getElem? (i := 218) rfl)) rfl
theorem fl_X9_103 : ax_FL RX9 103 6 4 0 false true := ⟨RX7, TX7, 15, tyX7, fc_X7, by decide, Or.inr ⟨rfl, _, lk_X9_103⟩, rfl, Or.inl ⟨rfl, rfl⟩, rfl⟩
theorem lk_X9_106 : ((Jvm.Cond.methodLink "WindowHouse" (106 : Nat) ({ cls := "WindowHouse", name := "has", desc := "(I)Z" } : Jvm.MethodName)) : Cond) ∈ ax_G := tw_g (tw_c3 (List.mem_of_getElem? (i := 232) rfl)) rfl
theorem lk_X9_110 : ((Jvm.Cond.fieldLinkNest "WindowHouse" (110 : Nat) "WindowHouse$App" "buttons" "I" "WindowHouse") : Cond) ∈ ax_NW := tw_n (tw_c1 (List.mem_of_getElem? (i := 94) rfl)) rfl
theorem fl_X9_110 : ax_FL RX9 110 0 1 0 false true := ⟨RX0, TX0, 19, tyX0, fc_X0, by decide, Or.inr ⟨rfl, _, lk_X9_110⟩, rfl, Or.inl ⟨rfl, rfl⟩, rfl⟩
theorem lk_X9_113 : ((Jvm.Cond.fieldLinkNest "WindowHouse" (113 : Nat) "WindowHouse$App" "vars" "I" "WindowHouse") : Cond) ∈ ax_NW := tw_n (tw_c1 (List.mem_of_getElem? (i := 98) rfl)) rfl
theorem fl_X9_113 : ax_FL RX9 113 0 2 0 false true := ⟨RX0, TX0, 19, tyX0, fc_X0, by decide, Or.inr ⟨rfl, _, lk_X9_113⟩, rfl, Or.inl ⟨rfl, rfl⟩, rfl⟩
theorem lk_X9_116 : ((Jvm.Cond.fieldLinkNest "WindowHouse" (116 : Nat) "WindowHouse$App" "keptMany" "I" "WindowHouse") : Cond) ∈ ax_NW := tw_n (tw_c1 (List.mem_of_getElem? (i := 101) rfl)) rfl
theorem fl_X9_116 : ax_FL RX9 116 0 3 0 false true := ⟨RX0, TX0, 19, tyX0, fc_X0, by decide, Or.inr ⟨rfl, _, lk_X9_116⟩, rfl, Or.inl ⟨rfl, rfl⟩, rfl⟩
theorem lk_X9_119 : ((Jvm.Cond.fieldLinkNest "WindowHouse" (119 : Nat) "WindowHouse$App" "shows" "I" "WindowHouse") : Cond) ∈ ax_NW := tw_n (tw_c1 (List.mem_of_getElem? (i := 103) rfl)) rfl
theorem fl_X9_119 : ax_FL RX9 119 0 4 0 false true := ⟨RX0, TX0, 19, tyX0, fc_X0, by decide, Or.inr ⟨rfl, _, lk_X9_119⟩, rfl, Or.inl ⟨rfl, rfl⟩, rfl⟩
theorem lk_X9_122 : ((Jvm.Cond.fieldLinkNest "WindowHouse" (122 : Nat) "WindowHouse$App" "timers" "I" "WindowHouse") : Cond) ∈ ax_NW := tw_n (tw_c1 (List.mem_of_getElem? (i := 105) rfl)) rfl
theorem fl_X9_122 : ax_FL RX9 122 0 5 0 false true := ⟨RX0, TX0, 19, tyX0, fc_X0, by decide, Or.inr ⟨rfl, _, lk_X9_122⟩, rfl, Or.inl ⟨rfl, rfl⟩, rfl⟩
theorem lk_X9_125 : ((Jvm.Cond.fieldLinkNest "WindowHouse" (125 : Nat) "WindowHouse$App" "home" "[I" "WindowHouse") : Cond) ∈ ax_NW := tw_n (tw_c1 (List.mem_of_getElem? (i := 127) rfl)) rfl
theorem fl_X9_125 : ax_FL RX9 125 0 16 2 true true := ⟨RX0, TX0, 19, tyX0, fc_X0, by decide, Or.inr ⟨rfl, _, lk_X9_125⟩, rfl, Or.inr (Or.inr (Or.inr ⟨rfl, Or.inr ⟨_, rfl⟩⟩)), rfl⟩
theorem lk_X9_128 : ((Jvm.Cond.fieldLinkNest "WindowHouse" (128 : Nat) "WindowHouse$App" "conds" "LWindowHouse$Conds;" "WindowHouse") : Cond) ∈ ax_NW := tw_n (tw_c1 (List.mem_of_getElem? (i := 129) rfl)) rfl
theorem fl_X9_128 : ax_FL RX9 128 0 17 2 true true := ⟨RX0, TX0, 19, tyX0, fc_X0, by decide, Or.inr ⟨rfl, _, lk_X9_128⟩, rfl, Or.inr (Or.inr (Or.inr ⟨rfl, Or.inl ⟨_, rfl⟩⟩)), rfl⟩
theorem lk_X9_132 : ((Jvm.Cond.fieldLinkNest "WindowHouse" (132 : Nat) "WindowHouse$Conds" "many" "[I" "WindowHouse") : Cond) ∈ ax_NW := tw_n (tw_c1 (List.mem_of_getElem? (i := 48) rfl)) rfl
theorem fl_X9_132 : ax_FL RX9 132 3 0 2 true true := ⟨RX4, TX4, 4, tyX4, fc_X4, by decide, Or.inr ⟨rfl, _, lk_X9_132⟩, rfl, Or.inr (Or.inr (Or.inr ⟨rfl, Or.inr ⟨_, rfl⟩⟩)), rfl⟩
theorem lk_X9_137 : ((Jvm.Cond.fieldLinkNest "WindowHouse" (137 : Nat) "WindowHouse$App" "deeds" "LWindowHouse$Deeds;" "WindowHouse") : Cond) ∈ ax_NW := tw_n (tw_c1 (List.mem_of_getElem? (i := 133) rfl)) rfl
theorem fl_X9_137 : ax_FL RX9 137 0 18 2 true true := ⟨RX0, TX0, 19, tyX0, fc_X0, by decide, Or.inr ⟨rfl, _, lk_X9_137⟩, rfl, Or.inr (Or.inr (Or.inr ⟨rfl, Or.inl ⟨_, rfl⟩⟩)), rfl⟩
theorem lk_X9_141 : ((Jvm.Cond.fieldLinkNest "WindowHouse" (141 : Nat) "WindowHouse$Deeds" "many" "[I" "WindowHouse") : Cond) ∈ ax_NW := tw_n (tw_c1 (List.mem_of_getElem? (i := 72) rfl)) rfl
theorem fl_X9_141 : ax_FL RX9 141 4 0 2 true true := ⟨RX5, TX5, 4, tyX5, fc_X5, by decide, Or.inr ⟨rfl, _, lk_X9_141⟩, rfl, Or.inr (Or.inr (Or.inr ⟨rfl, Or.inr ⟨_, rfl⟩⟩)), rfl⟩
theorem lk_X9_144 : ((Jvm.Cond.methodLinkNest "WindowHouse" (144 : Nat) ({ cls := "WindowHouse$App", name := "possible", desc := "(JI)Z" } : Jvm.MethodName) "WindowHouse") : Cond) ∈ ax_NW := tw_n (tw_c4 (List.mem_of_getElem? (i := 4) rfl)) rfl
theorem lk_X9_148 : ((Jvm.Cond.methodLinkNest "WindowHouse" (148 : Nat) ({ cls := "WindowHouse$App", name := "after", desc := "(JI)J" } : Jvm.MethodName) "WindowHouse") : Cond) ∈ ax_NW := tw_n (tw_c4 (List.mem_of_getElem? (i := 22) rfl)) rfl
theorem lk_X9_152 : ((Jvm.Cond.methodLinkNest "WindowHouse" (152 : Nat) ({ cls := "WindowHouse$Bits", name := "faultOf", desc := "(J)I" } : Jvm.MethodName) "WindowHouse") : Cond) ∈ ax_NW := tw_n (tw_c4 (List.mem_of_getElem? (i := 55) rfl)) rfl
theorem lk_X9_158 : ((Jvm.Cond.methodLinkNest "WindowHouse" (158 : Nat) ({ cls := "WindowHouse$Bits", name := "openOf", desc := "(J)I" } : Jvm.MethodName) "WindowHouse") : Cond) ∈ ax_NW := tw_n (tw_c4 (List.mem_of_getElem? (i := 58) rfl)) rfl
theorem lk_X9_161 : ((Jvm.Cond.methodLinkNest "WindowHouse" (161 : Nat) ({ cls := "WindowHouse$Bits", name := "topOf", desc := "(J)I" } : Jvm.MethodName) "WindowHouse") : Cond) ∈ ax_NW := tw_n (tw_c4 (List.mem_of_getElem? (i := 59) rfl)) rfl
theorem lk_X9_164 : ((Jvm.Cond.methodLinkNest "WindowHouse" (164 : Nat) ({ cls := "WindowHouse$Bits", name := "ticksOf", desc := "(J)I" } : Jvm.MethodName) "WindowHouse") : Cond) ∈ ax_NW := tw_n (tw_c4 (List.mem_of_getElem? (i := 60) rfl)) rfl
theorem lk_X9_167 : ((Jvm.Cond.methodLinkNest "WindowHouse" (167 : Nat) ({ cls := "WindowHouse$App", name := "possibleMany", desc := "(J)I" } : Jvm.MethodName) "WindowHouse") : Cond) ∈ ax_NW := tw_n (tw_c4 (List.mem_of_getElem? (i := 61) rfl)) rfl
theorem lk_X9_170 : ((Jvm.Cond.methodLinkNest "WindowHouse" (170 : Nat) ({ cls := "WindowHouse$Bits", name := "valueOf", desc := "(JI)I" } : Jvm.MethodName) "WindowHouse") : Cond) ∈ ax_NW := tw_n (tw_c4 (List.mem_of_getElem? (i := 70) rfl)) rfl
theorem lk_X9_174 : ((Jvm.Cond.methodLinkNest "WindowHouse" (174 : Nat) ({ cls := "WindowHouse$Atlas", name := "made", desc := "(LWindowHouse$App;I)Z" } : Jvm.MethodName) "WindowHouse") : Cond) ∈ ax_NW := tw_n (tw_c4 (List.mem_of_getElem? (i := 83) rfl)) rfl
theorem lk_X9_178 : ((Jvm.Cond.methodLinkNest "WindowHouse" (178 : Nat) ({ cls := "WindowHouse$Atlas", name := "many", desc := "()I" } : Jvm.MethodName) "WindowHouse") : Cond) ∈ ax_NW := tw_n (tw_c4 (List.mem_of_getElem? (i := 112) rfl)) rfl
theorem lk_X9_181 : ((Jvm.Cond.fieldLinkNest "WindowHouse" (181 : Nat) "WindowHouse$Atlas" "states" "LWindowHouse$Meetings;" "WindowHouse") : Cond) ∈ ax_NW := tw_n (tw_c2 (List.mem_of_getElem? (i := 68) rfl)) rfl
theorem fl_X9_181 : ax_FL RX9 181 1 2 2 true true := ⟨RX1, TX1, 9, tyX1, fc_X1, by decide, Or.inr ⟨rfl, _, lk_X9_181⟩, rfl, Or.inr (Or.inr (Or.inr ⟨rfl, Or.inl ⟨_, rfl⟩⟩)), rfl⟩
theorem lk_X9_185 : ((Jvm.Cond.fieldLinkNest "WindowHouse" (185 : Nat) "WindowHouse$Meetings" "left" "[J" "WindowHouse") : Cond) ∈ ax_NW := tw_n (tw_c2 (List.mem_of_getElem? (i := 39) rfl)) rfl
theorem fl_X9_185 : ax_FL RX9 185 5 1 2 true true := ⟨RX6, TX6, 7, tyX6, fc_X6, by decide, Or.inr ⟨rfl, _, lk_X9_185⟩, rfl, Or.inr (Or.inr (Or.inr ⟨rfl, Or.inr ⟨_, rfl⟩⟩)), rfl⟩
theorem lk_X9_190 : ((Jvm.Cond.fieldLinkNest "WindowHouse" (190 : Nat) "WindowHouse$Meetings" "deep" "[I" "WindowHouse") : Cond) ∈ ax_NW := tw_n (tw_c2 (List.mem_of_getElem? (i := 46) rfl)) rfl
theorem fl_X9_190 : ax_FL RX9 190 5 5 2 true true := ⟨RX6, TX6, 7, tyX6, fc_X6, by decide, Or.inr ⟨rfl, _, lk_X9_190⟩, rfl, Or.inr (Or.inr (Or.inr ⟨rfl, Or.inr ⟨_, rfl⟩⟩)), rfl⟩
theorem lk_X9_193 : ((Jvm.Cond.methodLinkNest "WindowHouse" (193 : Nat) ({ cls := "WindowHouse$Atlas", name := "waysFrom", desc := "(I)I" } : Jvm.MethodName) "WindowHouse") : Cond) ∈ ax_NW := tw_n (tw_c4 (List.mem_of_getElem? (i := 124) rfl)) rfl
theorem lk_X9_196 : ((Jvm.Cond.methodLinkNest "WindowHouse" (196 : Nat) ({ cls := "WindowHouse$Atlas", name := "kindOf", desc := "(I)I" } : Jvm.MethodName) "WindowHouse") : Cond) ∈ ax_NW := tw_n (tw_c4 (List.mem_of_getElem? (i := 128) rfl)) rfl
theorem lk_X9_199 : ((Jvm.Cond.fieldLinkNest "WindowHouse" (199 : Nat) "WindowHouse$Atlas" "to" "[I" "WindowHouse") : Cond) ∈ ax_NW := tw_n (tw_c2 (List.mem_of_getElem? (i := 70) rfl)) rfl
theorem fl_X9_199 : ax_FL RX9 199 1 3 2 true true := ⟨RX1, TX1, 9, tyX1, fc_X1, by decide, Or.inr ⟨rfl, _, lk_X9_199⟩, rfl, Or.inr (Or.inr (Or.inr ⟨rfl, Or.inr ⟨_, rfl⟩⟩)), rfl⟩
theorem lk_X9_202 : ((Jvm.Cond.methodLinkNest "WindowHouse" (202 : Nat) ({ cls := "WindowHouse$Atlas", name := "stands", desc := "()Z" } : Jvm.MethodName) "WindowHouse") : Cond) ∈ ax_NW := tw_n (tw_c4 (List.mem_of_getElem? (i := 169) rfl)) rfl
theorem lk_X9_206 : ((Jvm.Cond.methodLinkNest "WindowHouse" (206 : Nat) ({ cls := "WindowHouse$Meetings", name := "traced", desc := "(I[I)I" } : Jvm.MethodName) "WindowHouse") : Cond) ∈ ax_NW := tw_n (tw_c4 (List.mem_of_getElem? (i := 170) rfl)) rfl
theorem lk_X9_210 : ((Jvm.Cond.methodLinkNest "WindowHouse" (210 : Nat) ({ cls := "WindowHouse$Atlas", name := "firstOfFault", desc := "(I)I" } : Jvm.MethodName) "WindowHouse") : Cond) ∈ ax_NW := tw_n (tw_c4 (List.mem_of_getElem? (i := 178) rfl)) rfl
theorem lk_X9_213 : ((Jvm.Cond.fieldLinkNest "WindowHouse" (213 : Nat) "WindowHouse$Atlas" "app" "LWindowHouse$App;" "WindowHouse") : Cond) ∈ ax_NW := tw_n (tw_c2 (List.mem_of_getElem? (i := 66) rfl)) rfl
theorem fl_X9_213 : ax_FL RX9 213 1 1 2 false true := ⟨RX1, TX1, 9, tyX1, fc_X1, by decide, Or.inr ⟨rfl, _, lk_X9_213⟩, rfl, Or.inr (Or.inr (Or.inr ⟨rfl, Or.inl ⟨_, rfl⟩⟩)), rfl⟩
theorem lk_X9_216 : ((Jvm.Cond.methodLinkNest "WindowHouse" (216 : Nat) ({ cls := "WindowHouse$Atlas", name := "firstOfPressed", desc := "(I)I" } : Jvm.MethodName) "WindowHouse") : Cond) ∈ ax_NW := tw_n (tw_c4 (List.mem_of_getElem? (i := 187) rfl)) rfl
theorem lk_X9_219 : ((Jvm.Cond.methodLinkNest "WindowHouse" (219 : Nat) ({ cls := "WindowHouse$Atlas", name := "neverMany", desc := "()I" } : Jvm.MethodName) "WindowHouse") : Cond) ∈ ax_NW := tw_n (tw_c4 (List.mem_of_getElem? (i := 195) rfl)) rfl
theorem lk_X9_222 : ((Jvm.Cond.methodLinkNest "WindowHouse" (222 : Nat) ({ cls := "WindowHouse$Atlas", name := "firstOfValue", desc := "(II)I" } : Jvm.MethodName) "WindowHouse") : Cond) ∈ ax_NW := tw_n (tw_c4 (List.mem_of_getElem? (i := 204) rfl)) rfl
theorem lk_X9_226 : ((Jvm.Cond.methodLinkNest "WindowHouse" (226 : Nat) ({ cls := "WindowHouse$Atlas", name := "firstWithoutWayTo", desc := "(I)I" } : Jvm.MethodName) "WindowHouse") : Cond) ∈ ax_NW := tw_n (tw_c4 (List.mem_of_getElem? (i := 213) rfl)) rfl
theorem lk_X9_229 : ((Jvm.Cond.methodLinkNest "WindowHouse" (229 : Nat) ({ cls := "WindowHouse$Atlas", name := "kindsMany", desc := "()I" } : Jvm.MethodName) "WindowHouse") : Cond) ∈ ax_NW := tw_n (tw_c4 (List.mem_of_getElem? (i := 230) rfl)) rfl
theorem lk_X9_232 : ((Jvm.Cond.methodLinkNest "WindowHouse" (232 : Nat) ({ cls := "WindowHouse$Atlas", name := "viewsMany", desc := "()I" } : Jvm.MethodName) "WindowHouse") : Cond) ∈ ax_NW := tw_n (tw_c4 (List.mem_of_getElem? (i := 235) rfl)) rfl
theorem lk_X9_235 : ((Jvm.Cond.methodLinkNest "WindowHouse" (235 : Nat) ({ cls := "WindowHouse$Atlas", name := "deepest", desc := "()I" } : Jvm.MethodName) "WindowHouse") : Cond) ∈ ax_NW := tw_n (tw_c5 (List.mem_of_getElem? (i := 3) rfl)) rfl
theorem lk_X9_238 : ((Jvm.Cond.methodLinkNest "WindowHouse" (238 : Nat) ({ cls := "WindowHouse$Atlas", name := "waysMany", desc := "()I" } : Jvm.MethodName) "WindowHouse") : Cond) ∈ ax_NW := tw_n (tw_c5 (List.mem_of_getElem? (i := 14) rfl)) rfl
theorem lk_X9_241 : ((Jvm.Cond.methodLink "WindowHouse" (241 : Nat) ({ cls := "WindowHouse", name := "actsToFault", desc := "(LWindowHouse$App;)I" } : Jvm.MethodName)) : Cond) ∈ ax_G := tw_g (tw_c5 (List.mem_of_getElem? (i := 31) rfl)) rfl
theorem lk_X9_245 : ((Jvm.Cond.methodLink "WindowHouse" (245 : Nat) ({ cls := "WindowHouse", name := "comesWithout", desc := "(LWindowHouse$App;II)Z" } : Jvm.MethodName)) : Cond) ∈ ax_G := tw_g (tw_c5 (List.mem_of_getElem? (i := 48) rfl)) rfl
theorem lk_X9_249 : ((Jvm.Cond.methodLink "WindowHouse" (249 : Nat) ({ cls := "WindowHouse", name := "leaveOut", desc := "(LWindowHouse$App;I)V" } : Jvm.MethodName)) : Cond) ∈ ax_G := tw_g (tw_c5 (List.mem_of_getElem? (i := 52) rfl)) rfl
theorem lk_X9_253 : ((Jvm.Cond.classLink "WindowHouse" (253 : Nat) "java/util/NoSuchElementException") : Cond) ∈ ax_G := tw_g (tw_c5 (List.mem_of_getElem? (i := 125) rfl)) rfl
theorem lk_X9_255 : ((Jvm.Cond.methodLink "WindowHouse" (255 : Nat) ({ cls := "java/util/NoSuchElementException", name := "<init>", desc := "()V" } : Jvm.MethodName)) : Cond) ∈ ax_G := tw_g (tw_c5 (List.mem_of_getElem? (i := 165) rfl)) rfl
theorem lk_X9_256 : ((Jvm.Cond.methodLinkNest "WindowHouse" (256 : Nat) ({ cls := "WindowHouse$Beside", name := "goThrough", desc := "(LWindowHouse$App;LWindowHouse$App;)V" } : Jvm.MethodName) "WindowHouse") : Cond) ∈ ax_NW := tw_n (tw_c5 (List.mem_of_getElem? (i := 60) rfl)) rfl
theorem lk_X9_259 : ((Jvm.Cond.fieldLinkNest "WindowHouse" (259 : Nat) "WindowHouse$Beside" "tooMany" "Z" "WindowHouse") : Cond) ∈ ax_NW := tw_n (tw_c2 (List.mem_of_getElem? (i := 109) rfl)) rfl
theorem fl_X9_259 : ax_FL RX9 259 2 3 3 false true := ⟨RX2, TX2, 6, tyX2, fc_X2, by decide, Or.inr ⟨rfl, _, lk_X9_259⟩, rfl, Or.inr (Or.inr (Or.inl ⟨rfl, rfl⟩)), rfl⟩
theorem lk_X9_263 : ((Jvm.Cond.fieldLinkNest "WindowHouse" (263 : Nat) "WindowHouse$Beside" "unlikeAt" "I" "WindowHouse") : Cond) ∈ ax_NW := tw_n (tw_c2 (List.mem_of_getElem? (i := 111) rfl)) rfl
theorem fl_X9_263 : ax_FL RX9 263 2 4 0 false true := ⟨RX2, TX2, 6, tyX2, fc_X2, by decide, Or.inr ⟨rfl, _, lk_X9_263⟩, rfl, Or.inl ⟨rfl, rfl⟩, rfl⟩
theorem lk_X9_266 : ((Jvm.Cond.methodLinkNest "WindowHouse" (266 : Nat) ({ cls := "WindowHouse$Beside", name := "rowInto", desc := "([I)I" } : Jvm.MethodName) "WindowHouse") : Cond) ∈ ax_NW := tw_n (tw_c5 (List.mem_of_getElem? (i := 104) rfl)) rfl
theorem lk_X9_270 : ((Jvm.Cond.fieldLinkNest "WindowHouse" (270 : Nat) "WindowHouse$Beside" "pairs" "LWindowHouse$Meetings;" "WindowHouse") : Cond) ∈ ax_NW := tw_n (tw_c2 (List.mem_of_getElem? (i := 107) rfl)) rfl
theorem fl_X9_270 : ax_FL RX9 270 2 2 2 true true := ⟨RX2, TX2, 6, tyX2, fc_X2, by decide, Or.inr ⟨rfl, _, lk_X9_270⟩, rfl, Or.inr (Or.inr (Or.inr ⟨rfl, Or.inl ⟨_, rfl⟩⟩)), rfl⟩
theorem lk_X9_273 : ((Jvm.Cond.fieldLinkNest "WindowHouse" (273 : Nat) "WindowHouse$Meetings" "many" "I" "WindowHouse") : Cond) ∈ ax_NW := tw_n (tw_c2 (List.mem_of_getElem? (i := 35) rfl)) rfl
theorem fl_X9_273 : ax_FL RX9 273 5 0 0 false true := ⟨RX6, TX6, 7, tyX6, fc_X6, by decide, Or.inr ⟨rfl, _, lk_X9_273⟩, rfl, Or.inl ⟨rfl, rfl⟩, rfl⟩
theorem lk_X9_275 : ((Jvm.Cond.methodLinkNest "WindowHouse" (275 : Nat) ({ cls := "WindowHouse$App", name := "tryAct", desc := "(JI)J" } : Jvm.MethodName) "WindowHouse") : Cond) ∈ ax_NW := tw_n (tw_c5 (List.mem_of_getElem? (i := 35) rfl)) rfl
theorem lk_X12_1 : ((Jvm.Cond.fieldLink "WindowHouseModel" (1 : Nat) "WindowHouseModel" "thrown" "I") : Cond) ∈ ax_G := tw_g (tw_c6 (List.mem_of_getElem? (i := 80) rfl)) rfl
theorem fl_X12_1 : ax_FL RX12 1 11 0 0 false false := ⟨RX12, TX12, 56, tyX12, fc_X12, by decide, Or.inl ⟨rfl, lk_X12_1, fun _ => rfl⟩, rfl, Or.inl ⟨rfl, rfl⟩, rfl⟩
theorem lk_X12_7 : ((Jvm.Cond.fieldLink "WindowHouseModel" (7 : Nat) "WindowHouseModel" "trouble" "I") : Cond) ∈ ax_G := tw_g (tw_c6 (List.mem_of_getElem? (i := 81) rfl)) rfl
theorem fl_X12_7 : ax_FL RX12 7 11 1 0 false false := ⟨RX12, TX12, 56, tyX12, fc_X12, by decide, Or.inl ⟨rfl, lk_X12_7, fun _ => rfl⟩, rfl, Or.inl ⟨rfl, rfl⟩, rfl⟩
theorem lk_X12_10 : ((Jvm.Cond.fieldLink "WindowHouseModel" (10 : Nat) "WindowHouseModel" "where" "I") : Cond) ∈ ax_G := tw_g (tw_c6 (List.mem_of_getElem? (i := 82) rfl)) rfl
theorem fl_X12_10 : ax_FL RX12 10 11 2 0 false false := ⟨RX12, TX12, 56, tyX12, fc_X12, by decide, Or.inl ⟨rfl, lk_X12_10, fun _ => rfl⟩, rfl, Or.inl ⟨rfl, rfl⟩, rfl⟩
theorem lk_X12_13 : ((Jvm.Cond.methodLink "WindowHouseModel" (13 : Nat) ({ cls := "java/lang/Object", name := "<init>", desc := "()V" } : Jvm.MethodName)) : Cond) ∈ ax_G := tw_g (tw_c5 (List.mem_of_getElem? (i := 197) rfl)) rfl
theorem lk_X12_19 : ((Jvm.Cond.classLink "WindowHouseModel" (19 : Nat) "WindowHouseModel$App") : Cond) ∈ ax_G := tw_g (tw_c5 (List.mem_of_getElem? (i := 198) rfl)) rfl
theorem lk_X12_21 : ((Jvm.Cond.fieldLink "WindowHouseModel" (21 : Nat) "WindowHouseModel" "apps" "[LWindowHouseModel$App;") : Cond) ∈ ax_G := tw_g (tw_c6 (List.mem_of_getElem? (i := 84) rfl)) rfl
theorem fl_X12_21 : ax_FL RX12 21 11 4 2 true false := ⟨RX12, TX12, 56, tyX12, fc_X12, by decide, Or.inl ⟨rfl, lk_X12_21, fun _ => rfl⟩, rfl, Or.inr (Or.inr (Or.inr ⟨rfl, Or.inr ⟨_, rfl⟩⟩)), rfl⟩
theorem lk_X12_25 : ((Jvm.Cond.methodLinkNest "WindowHouseModel" (25 : Nat) ({ cls := "WindowHouseModel$App", name := "<init>", desc := "()V" } : Jvm.MethodName) "WindowHouseModel") : Cond) ∈ ax_NW := tw_n (tw_c5 (List.mem_of_getElem? (i := 201) rfl)) rfl
theorem lk_X12_26 : ((Jvm.Cond.fieldLink "WindowHouseModel" (26 : Nat) "WindowHouseModel" "spare" "LWindowHouseModel$App;") : Cond) ∈ ax_G := tw_g (tw_c6 (List.mem_of_getElem? (i := 85) rfl)) rfl
theorem fl_X12_26 : ax_FL RX12 26 11 5 2 false false := ⟨RX12, TX12, 56, tyX12, fc_X12, by decide, Or.inl ⟨rfl, lk_X12_26, fun _ => rfl⟩, rfl, Or.inr (Or.inr (Or.inr ⟨rfl, Or.inl ⟨_, rfl⟩⟩)), rfl⟩
theorem lk_X12_30 : ((Jvm.Cond.fieldLink "WindowHouseModel" (30 : Nat) "WindowHouseModel" "is" "[Z") : Cond) ∈ ax_G := tw_g (tw_c6 (List.mem_of_getElem? (i := 86) rfl)) rfl
theorem fl_X12_30 : ax_FL RX12 30 11 6 2 true false := ⟨RX12, TX12, 56, tyX12, fc_X12, by decide, Or.inl ⟨rfl, lk_X12_30, fun _ => rfl⟩, rfl, Or.inr (Or.inr (Or.inr ⟨rfl, Or.inr ⟨_, rfl⟩⟩)), rfl⟩
theorem lk_X12_34 : ((Jvm.Cond.fieldLink "WindowHouseModel" (34 : Nat) "WindowHouseModel" "handA" "[J") : Cond) ∈ ax_G := tw_g (tw_c6 (List.mem_of_getElem? (i := 87) rfl)) rfl
theorem fl_X12_34 : ax_FL RX12 34 11 7 2 true false := ⟨RX12, TX12, 56, tyX12, fc_X12, by decide, Or.inl ⟨rfl, lk_X12_34, fun _ => rfl⟩, rfl, Or.inr (Or.inr (Or.inr ⟨rfl, Or.inr ⟨_, rfl⟩⟩)), rfl⟩
theorem lk_X12_38 : ((Jvm.Cond.fieldLink "WindowHouseModel" (38 : Nat) "WindowHouseModel" "handB" "[J") : Cond) ∈ ax_G := tw_g (tw_c6 (List.mem_of_getElem? (i := 88) rfl)) rfl
theorem fl_X12_38 : ax_FL RX12 38 11 8 2 true false := ⟨RX12, TX12, 56, tyX12, fc_X12, by decide, Or.inl ⟨rfl, lk_X12_38, fun _ => rfl⟩, rfl, Or.inr (Or.inr (Or.inr ⟨rfl, Or.inr ⟨_, rfl⟩⟩)), rfl⟩
theorem lk_X12_41 : ((Jvm.Cond.classLink "WindowHouseModel" (41 : Nat) "WindowHouseModel$Stop") : Cond) ∈ ax_G := tw_g (tw_c6 (List.mem_of_getElem? (i := 51) rfl)) rfl
theorem lk_X12_43 : ((Jvm.Cond.methodLink "WindowHouseModel" (43 : Nat) ({ cls := "WindowHouseModel$Stop", name := "<init>", desc := "()V" } : Jvm.MethodName)) : Cond) ∈ ax_G := tw_g (tw_c6 (List.mem_of_getElem? (i := 60) rfl)) rfl
theorem lk_X12_44 : ((Jvm.Cond.fieldLink "WindowHouseModel" (44 : Nat) "WindowHouseModel" "stop" "LWindowHouseModel$Stop;") : Cond) ∈ ax_G := tw_g (tw_c6 (List.mem_of_getElem? (i := 89) rfl)) rfl
theorem fl_X12_44 : ax_FL RX12 44 11 9 2 true false := ⟨RX12, TX12, 56, tyX12, fc_X12, by decide, Or.inl ⟨rfl, lk_X12_44, fun _ => rfl⟩, rfl, Or.inr (Or.inr (Or.inr ⟨rfl, Or.inl ⟨_, rfl⟩⟩)), rfl⟩
theorem lk_X12_48 : ((Jvm.Cond.fieldLink "WindowHouseModel" (48 : Nat) "WindowHouseModel" "tape" "[B") : Cond) ∈ ax_G := tw_g (tw_c6 (List.mem_of_getElem? (i := 90) rfl)) rfl
theorem fl_X12_48 : ax_FL RX12 48 11 10 2 true false := ⟨RX12, TX12, 56, tyX12, fc_X12, by decide, Or.inl ⟨rfl, lk_X12_48, fun _ => rfl⟩, rfl, Or.inr (Or.inr (Or.inr ⟨rfl, Or.inr ⟨_, rfl⟩⟩)), rfl⟩
theorem lk_X12_52 : ((Jvm.Cond.fieldLink "WindowHouseModel" (52 : Nat) "WindowHouseModel" "window" "[I") : Cond) ∈ ax_G := tw_g (tw_c6 (List.mem_of_getElem? (i := 101) rfl)) rfl
theorem fl_X12_52 : ax_FL RX12 52 11 21 2 true false := ⟨RX12, TX12, 56, tyX12, fc_X12, by decide, Or.inl ⟨rfl, lk_X12_52, fun _ => rfl⟩, rfl, Or.inr (Or.inr (Or.inr ⟨rfl, Or.inr ⟨_, rfl⟩⟩)), rfl⟩
theorem lk_X12_56 : ((Jvm.Cond.fieldLink "WindowHouseModel" (56 : Nat) "WindowHouseModel" "ticks" "[I") : Cond) ∈ ax_G := tw_g (tw_c6 (List.mem_of_getElem? (i := 102) rfl)) rfl
theorem fl_X12_56 : ax_FL RX12 56 11 22 2 true false := ⟨RX12, TX12, 56, tyX12, fc_X12, by decide, Or.inl ⟨rfl, lk_X12_56, fun _ => rfl⟩, rfl, Or.inr (Or.inr (Or.inr ⟨rfl, Or.inr ⟨_, rfl⟩⟩)), rfl⟩
theorem lk_X12_59 : ((Jvm.Cond.fieldLink "WindowHouseModel" (59 : Nat) "WindowHouseModel" "var" "[I") : Cond) ∈ ax_G := tw_g (tw_c6 (List.mem_of_getElem? (i := 103) rfl)) rfl
theorem fl_X12_59 : ax_FL RX12 59 11 23 2 true false := ⟨RX12, TX12, 56, tyX12, fc_X12, by decide, Or.inl ⟨rfl, lk_X12_59, fun _ => rfl⟩, rfl, Or.inr (Or.inr (Or.inr ⟨rfl, Or.inr ⟨_, rfl⟩⟩)), rfl⟩
theorem lk_X12_62 : ((Jvm.Cond.fieldLink "WindowHouseModel" (62 : Nat) "WindowHouseModel" "mapOf" "I") : Cond) ∈ ax_G := tw_g (tw_c6 (List.mem_of_getElem? (i := 104) rfl)) rfl
theorem fl_X12_62 : ax_FL RX12 62 11 24 0 false false := ⟨RX12, TX12, 56, tyX12, fc_X12, by decide, Or.inl ⟨rfl, lk_X12_62, fun _ => rfl⟩, rfl, Or.inl ⟨rfl, rfl⟩, rfl⟩
theorem lk_X12_65 : ((Jvm.Cond.fieldLink "WindowHouseModel" (65 : Nat) "WindowHouseModel" "stateA" "[J") : Cond) ∈ ax_G := tw_g (tw_c6 (List.mem_of_getElem? (i := 106) rfl)) rfl
theorem fl_X12_65 : ax_FL RX12 65 11 26 2 true false := ⟨RX12, TX12, 56, tyX12, fc_X12, by decide, Or.inl ⟨rfl, lk_X12_65, fun _ => rfl⟩, rfl, Or.inr (Or.inr (Or.inr ⟨rfl, Or.inr ⟨_, rfl⟩⟩)), rfl⟩
theorem lk_X12_68 : ((Jvm.Cond.fieldLink "WindowHouseModel" (68 : Nat) "WindowHouseModel" "stateB" "[J") : Cond) ∈ ax_G := tw_g (tw_c6 (List.mem_of_getElem? (i := 107) rfl)) rfl
theorem fl_X12_68 : ax_FL RX12 68 11 27 2 true false := ⟨RX12, TX12, 56, tyX12, fc_X12, by decide, Or.inl ⟨rfl, lk_X12_68, fun _ => rfl⟩, rfl, Or.inr (Or.inr (Or.inr ⟨rfl, Or.inr ⟨_, rfl⟩⟩)), rfl⟩
theorem lk_X12_71 : ((Jvm.Cond.fieldLink "WindowHouseModel" (71 : Nat) "WindowHouseModel" "from" "[I") : Cond) ∈ ax_G := tw_g (tw_c6 (List.mem_of_getElem? (i := 108) rfl)) rfl
theorem fl_X12_71 : ax_FL RX12 71 11 28 2 true false := ⟨RX12, TX12, 56, tyX12, fc_X12, by decide, Or.inl ⟨rfl, lk_X12_71, fun _ => rfl⟩, rfl, Or.inr (Or.inr (Or.inr ⟨rfl, Or.inr ⟨_, rfl⟩⟩)), rfl⟩
theorem lk_X12_74 : ((Jvm.Cond.fieldLink "WindowHouseModel" (74 : Nat) "WindowHouseModel" "by" "[I") : Cond) ∈ ax_G := tw_g (tw_c6 (List.mem_of_getElem? (i := 109) rfl)) rfl
theorem fl_X12_74 : ax_FL RX12 74 11 29 2 true false := ⟨RX12, TX12, 56, tyX12, fc_X12, by decide, Or.inl ⟨rfl, lk_X12_74, fun _ => rfl⟩, rfl, Or.inr (Or.inr (Or.inr ⟨rfl, Or.inr ⟨_, rfl⟩⟩)), rfl⟩
theorem lk_X12_77 : ((Jvm.Cond.fieldLink "WindowHouseModel" (77 : Nat) "WindowHouseModel" "far" "[I") : Cond) ∈ ax_G := tw_g (tw_c6 (List.mem_of_getElem? (i := 110) rfl)) rfl
theorem fl_X12_77 : ax_FL RX12 77 11 30 2 true false := ⟨RX12, TX12, 56, tyX12, fc_X12, by decide, Or.inl ⟨rfl, lk_X12_77, fun _ => rfl⟩, rfl, Or.inr (Or.inr (Or.inr ⟨rfl, Or.inr ⟨_, rfl⟩⟩)), rfl⟩
theorem lk_X12_80 : ((Jvm.Cond.fieldLink "WindowHouseModel" (80 : Nat) "WindowHouseModel" "can" "[I") : Cond) ∈ ax_G := tw_g (tw_c6 (List.mem_of_getElem? (i := 111) rfl)) rfl
theorem fl_X12_80 : ax_FL RX12 80 11 31 2 true false := ⟨RX12, TX12, 56, tyX12, fc_X12, by decide, Or.inl ⟨rfl, lk_X12_80, fun _ => rfl⟩, rfl, Or.inr (Or.inr (Or.inr ⟨rfl, Or.inr ⟨_, rfl⟩⟩)), rfl⟩
theorem lk_X12_83 : ((Jvm.Cond.fieldLink "WindowHouseModel" (83 : Nat) "WindowHouseModel" "kind" "[I") : Cond) ∈ ax_G := tw_g (tw_c6 (List.mem_of_getElem? (i := 112) rfl)) rfl
theorem fl_X12_83 : ax_FL RX12 83 11 32 2 true false := ⟨RX12, TX12, 56, tyX12, fc_X12, by decide, Or.inl ⟨rfl, lk_X12_83, fun _ => rfl⟩, rfl, Or.inr (Or.inr (Or.inr ⟨rfl, Or.inr ⟨_, rfl⟩⟩)), rfl⟩
theorem lk_X12_86 : ((Jvm.Cond.fieldLink "WindowHouseModel" (86 : Nat) "WindowHouseModel" "nextKind" "[I") : Cond) ∈ ax_G := tw_g (tw_c6 (List.mem_of_getElem? (i := 113) rfl)) rfl
theorem fl_X12_86 : ax_FL RX12 86 11 33 2 true false := ⟨RX12, TX12, 56, tyX12, fc_X12, by decide, Or.inl ⟨rfl, lk_X12_86, fun _ => rfl⟩, rfl, Or.inr (Or.inr (Or.inr ⟨rfl, Or.inr ⟨_, rfl⟩⟩)), rfl⟩
theorem lk_X12_89 : ((Jvm.Cond.fieldLink "WindowHouseModel" (89 : Nat) "WindowHouseModel" "firstOf" "[I") : Cond) ∈ ax_G := tw_g (tw_c6 (List.mem_of_getElem? (i := 114) rfl)) rfl
theorem fl_X12_89 : ax_FL RX12 89 11 34 2 true false := ⟨RX12, TX12, 56, tyX12, fc_X12, by decide, Or.inl ⟨rfl, lk_X12_89, fun _ => rfl⟩, rfl, Or.inr (Or.inr (Or.inr ⟨rfl, Or.inr ⟨_, rfl⟩⟩)), rfl⟩
theorem lk_X12_92 : ((Jvm.Cond.fieldLink "WindowHouseModel" (92 : Nat) "WindowHouseModel" "lead" "[I") : Cond) ∈ ax_G := tw_g (tw_c6 (List.mem_of_getElem? (i := 115) rfl)) rfl
theorem fl_X12_92 : ax_FL RX12 92 11 35 2 true false := ⟨RX12, TX12, 56, tyX12, fc_X12, by decide, Or.inl ⟨rfl, lk_X12_92, fun _ => rfl⟩, rfl, Or.inr (Or.inr (Or.inr ⟨rfl, Or.inr ⟨_, rfl⟩⟩)), rfl⟩
theorem lk_X12_95 : ((Jvm.Cond.fieldLink "WindowHouseModel" (95 : Nat) "WindowHouseModel" "views" "[J") : Cond) ∈ ax_G := tw_g (tw_c6 (List.mem_of_getElem? (i := 117) rfl)) rfl
theorem fl_X12_95 : ax_FL RX12 95 11 37 2 true false := ⟨RX12, TX12, 56, tyX12, fc_X12, by decide, Or.inl ⟨rfl, lk_X12_95, fun _ => rfl⟩, rfl, Or.inr (Or.inr (Or.inr ⟨rfl, Or.inr ⟨_, rfl⟩⟩)), rfl⟩
theorem lk_X12_98 : ((Jvm.Cond.fieldLink "WindowHouseModel" (98 : Nat) "WindowHouseModel" "good" "[Z") : Cond) ∈ ax_G := tw_g (tw_c6 (List.mem_of_getElem? (i := 118) rfl)) rfl
theorem fl_X12_98 : ax_FL RX12 98 11 38 2 true false := ⟨RX12, TX12, 56, tyX12, fc_X12, by decide, Or.inl ⟨rfl, lk_X12_98, fun _ => rfl⟩, rfl, Or.inr (Or.inr (Or.inr ⟨rfl, Or.inr ⟨_, rfl⟩⟩)), rfl⟩
theorem lk_X12_101 : ((Jvm.Cond.fieldLink "WindowHouseModel" (101 : Nat) "WindowHouseModel" "row" "[I") : Cond) ∈ ax_G := tw_g (tw_c6 (List.mem_of_getElem? (i := 119) rfl)) rfl
theorem fl_X12_101 : ax_FL RX12 101 11 39 2 true false := ⟨RX12, TX12, 56, tyX12, fc_X12, by decide, Or.inl ⟨rfl, lk_X12_101, fun _ => rfl⟩, rfl, Or.inr (Or.inr (Or.inr ⟨rfl, Or.inr ⟨_, rfl⟩⟩)), rfl⟩
theorem lk_X12_104 : ((Jvm.Cond.fieldLink "WindowHouseModel" (104 : Nat) "WindowHouseModel" "triedActs" "I") : Cond) ∈ ax_G := tw_g (tw_c6 (List.mem_of_getElem? (i := 121) rfl)) rfl
theorem fl_X12_104 : ax_FL RX12 104 11 41 0 false false := ⟨RX12, TX12, 56, tyX12, fc_X12, by decide, Or.inl ⟨rfl, lk_X12_104, fun _ => rfl⟩, rfl, Or.inl ⟨rfl, rfl⟩, rfl⟩
theorem lk_X12_107 : ((Jvm.Cond.fieldLink "WindowHouseModel" (107 : Nat) "WindowHouseModel" "zeroA" "[J") : Cond) ∈ ax_G := tw_g (tw_c6 (List.mem_of_getElem? (i := 124) rfl)) rfl
theorem fl_X12_107 : ax_FL RX12 107 11 44 2 true false := ⟨RX12, TX12, 56, tyX12, fc_X12, by decide, Or.inl ⟨rfl, lk_X12_107, fun _ => rfl⟩, rfl, Or.inr (Or.inr (Or.inr ⟨rfl, Or.inr ⟨_, rfl⟩⟩)), rfl⟩
theorem lk_X12_110 : ((Jvm.Cond.fieldLink "WindowHouseModel" (110 : Nat) "WindowHouseModel" "zeroB" "[J") : Cond) ∈ ax_G := tw_g (tw_c6 (List.mem_of_getElem? (i := 125) rfl)) rfl
theorem fl_X12_110 : ax_FL RX12 110 11 45 2 true false := ⟨RX12, TX12, 56, tyX12, fc_X12, by decide, Or.inl ⟨rfl, lk_X12_110, fun _ => rfl⟩, rfl, Or.inr (Or.inr (Or.inr ⟨rfl, Or.inr ⟨_, rfl⟩⟩)), rfl⟩
theorem lk_X12_113 : ((Jvm.Cond.fieldLink "WindowHouseModel" (113 : Nat) "WindowHouseModel" "oneA" "[J") : Cond) ∈ ax_G := tw_g (tw_c6 (List.mem_of_getElem? (i := 126) rfl)) rfl
theorem fl_X12_113 : ax_FL RX12 113 11 46 2 true false := ⟨RX12, TX12, 56, tyX12, fc_X12, by decide, Or.inl ⟨rfl, lk_X12_113, fun _ => rfl⟩, rfl, Or.inr (Or.inr (Or.inr ⟨rfl, Or.inr ⟨_, rfl⟩⟩)), rfl⟩
theorem lk_X12_116 : ((Jvm.Cond.fieldLink "WindowHouseModel" (116 : Nat) "WindowHouseModel" "oneB" "[J") : Cond) ∈ ax_G := tw_g (tw_c6 (List.mem_of_getElem? (i := 127) rfl)) rfl
theorem fl_X12_116 : ax_FL RX12 116 11 47 2 true false := ⟨RX12, TX12, 56, tyX12, fc_X12, by decide, Or.inl ⟨rfl, lk_X12_116, fun _ => rfl⟩, rfl, Or.inr (Or.inr (Or.inr ⟨rfl, Or.inr ⟨_, rfl⟩⟩)), rfl⟩
theorem lk_X12_119 : ((Jvm.Cond.fieldLink "WindowHouseModel" (119 : Nat) "WindowHouseModel" "pairFrom" "[I") : Cond) ∈ ax_G := tw_g (tw_c6 (List.mem_of_getElem? (i := 128) rfl)) rfl
theorem fl_X12_119 : ax_FL RX12 119 11 48 2 true false := ⟨RX12, TX12, 56, tyX12, fc_X12, by decide, Or.inl ⟨rfl, lk_X12_119, fun _ => rfl⟩, rfl, Or.inr (Or.inr (Or.inr ⟨rfl, Or.inr ⟨_, rfl⟩⟩)), rfl⟩
theorem lk_X12_122 : ((Jvm.Cond.fieldLink "WindowHouseModel" (122 : Nat) "WindowHouseModel" "pairBy" "[I") : Cond) ∈ ax_G := tw_g (tw_c6 (List.mem_of_getElem? (i := 129) rfl)) rfl
theorem fl_X12_122 : ax_FL RX12 122 11 49 2 true false := ⟨RX12, TX12, 56, tyX12, fc_X12, by decide, Or.inl ⟨rfl, lk_X12_122, fun _ => rfl⟩, rfl, Or.inr (Or.inr (Or.inr ⟨rfl, Or.inr ⟨_, rfl⟩⟩)), rfl⟩
theorem lk_X12_125 : ((Jvm.Cond.fieldLink "WindowHouseModel" (125 : Nat) "WindowHouseModel" "seen" "[I") : Cond) ∈ ax_G := tw_g (tw_c6 (List.mem_of_getElem? (i := 134) rfl)) rfl
theorem fl_X12_125 : ax_FL RX12 125 11 54 2 true false := ⟨RX12, TX12, 56, tyX12, fc_X12, by decide, Or.inl ⟨rfl, lk_X12_125, fun _ => rfl⟩, rfl, Or.inr (Or.inr (Or.inr ⟨rfl, Or.inr ⟨_, rfl⟩⟩)), rfl⟩
theorem lk_X12_128 : ((Jvm.Cond.fieldLink "WindowHouseModel" (128 : Nat) "WindowHouseModel" "seenButton" "[J") : Cond) ∈ ax_G := tw_g (tw_c6 (List.mem_of_getElem? (i := 135) rfl)) rfl
theorem fl_X12_128 : ax_FL RX12 128 11 55 2 true false := ⟨RX12, TX12, 56, tyX12, fc_X12, by decide, Or.inl ⟨rfl, lk_X12_128, fun _ => rfl⟩, rfl, Or.inr (Or.inr (Or.inr ⟨rfl, Or.inr ⟨_, rfl⟩⟩)), rfl⟩
theorem lk_X12_131 : ((Jvm.Cond.fieldLinkNest "WindowHouseModel" (131 : Nat) "WindowHouseModel$Stop" "kind" "I" "WindowHouseModel") : Cond) ∈ ax_NW := tw_n (tw_c6 (List.mem_of_getElem? (i := 72) rfl)) rfl
theorem fl_X12_131 : ax_FL RX12 131 10 6 0 false true := ⟨RX11, TX11, 8, tyX11, fc_X11, by decide, Or.inr ⟨rfl, _, lk_X12_131⟩, rfl, Or.inl ⟨rfl, rfl⟩, rfl⟩
theorem lk_X12_133 : ((Jvm.Cond.fieldLinkNest "WindowHouseModel" (133 : Nat) "WindowHouseModel$Stop" "place" "I" "WindowHouseModel") : Cond) ∈ ax_NW := tw_n (tw_c6 (List.mem_of_getElem? (i := 73) rfl)) rfl
theorem fl_X12_133 : ax_FL RX12 133 10 7 0 false true := ⟨RX11, TX11, 8, tyX11, fc_X11, by decide, Or.inr ⟨rfl, _, lk_X12_133⟩, rfl, Or.inl ⟨rfl, rfl⟩, rfl⟩
theorem lk_X12_136 : ((Jvm.Cond.fieldLink "WindowHouseModel" (136 : Nat) "WindowHouseModel" "size" "I") : Cond) ∈ ax_G := tw_g (tw_c6 (List.mem_of_getElem? (i := 92) rfl)) rfl
theorem fl_X12_136 : ax_FL RX12 136 11 12 0 false false := ⟨RX12, TX12, 56, tyX12, fc_X12, by decide, Or.inl ⟨rfl, lk_X12_136, fun _ => rfl⟩, rfl, Or.inl ⟨rfl, rfl⟩, rfl⟩
theorem lk_X12_139 : ((Jvm.Cond.methodLink "WindowHouseModel" (139 : Nat) ({ cls := "java/lang/String", name := "length", desc := "()I" } : Jvm.MethodName)) : Cond) ∈ ax_G := tw_g (tw_c7 (List.mem_of_getElem? (i := 48) rfl)) rfl
theorem lk_X12_145 : ((Jvm.Cond.constantLong "WindowHouseModel" (145 : Nat) (32 : Int64)) : Cond) ∈ ax_G := tw_g (tw_c7 (List.mem_of_getElem? (i := 36) rfl)) rfl
theorem lk_X12_147 : ((Jvm.Cond.methodLink "WindowHouseModel" (147 : Nat) ({ cls := "java/lang/String", name := "charAt", desc := "(I)C" } : Jvm.MethodName)) : Cond) ∈ ax_G := tw_g (tw_c7 (List.mem_of_getElem? (i := 49) rfl)) rfl
theorem lk_X12_151 : ((Jvm.Cond.fieldLink "WindowHouseModel" (151 : Nat) "WindowHouseModel" "at" "I") : Cond) ∈ ax_G := tw_g (tw_c6 (List.mem_of_getElem? (i := 93) rfl)) rfl
theorem fl_X12_151 : ax_FL RX12 151 11 13 0 false false := ⟨RX12, TX12, 56, tyX12, fc_X12, by decide, Or.inl ⟨rfl, lk_X12_151, fun _ => rfl⟩, rfl, Or.inl ⟨rfl, rfl⟩, rfl⟩
theorem lk_X12_154 : ((Jvm.Cond.methodLink "WindowHouseModel" (154 : Nat) ({ cls := "WindowHouseModel", name := "byteAt", desc := "(I)I" } : Jvm.MethodName)) : Cond) ∈ ax_G := tw_g (tw_c7 (List.mem_of_getElem? (i := 29) rfl)) rfl
theorem lk_X12_158 : ((Jvm.Cond.fieldLink "WindowHouseModel" (158 : Nat) "WindowHouseModel" "place" "I") : Cond) ∈ ax_G := tw_g (tw_c6 (List.mem_of_getElem? (i := 95) rfl)) rfl
theorem fl_X12_158 : ax_FL RX12 158 11 15 0 false false := ⟨RX12, TX12, 56, tyX12, fc_X12, by decide, Or.inl ⟨rfl, lk_X12_158, fun _ => rfl⟩, rfl, Or.inl ⟨rfl, rfl⟩, rfl⟩
theorem lk_X12_159 : ((Jvm.Cond.fieldLink "WindowHouseModel" (159 : Nat) "WindowHouseModel" "sort" "I") : Cond) ∈ ax_G := tw_g (tw_c6 (List.mem_of_getElem? (i := 94) rfl)) rfl
theorem fl_X12_159 : ax_FL RX12 159 11 14 0 false false := ⟨RX12, TX12, 56, tyX12, fc_X12, by decide, Or.inl ⟨rfl, lk_X12_159, fun _ => rfl⟩, rfl, Or.inl ⟨rfl, rfl⟩, rfl⟩
theorem lk_X12_162 : ((Jvm.Cond.fieldLink "WindowHouseModel" (162 : Nat) "WindowHouseModel" "sign" "I") : Cond) ∈ ax_G := tw_g (tw_c6 (List.mem_of_getElem? (i := 96) rfl)) rfl
theorem fl_X12_162 : ax_FL RX12 162 11 16 0 false false := ⟨RX12, TX12, 56, tyX12, fc_X12, by decide, Or.inl ⟨rfl, lk_X12_162, fun _ => rfl⟩, rfl, Or.inl ⟨rfl, rfl⟩, rfl⟩
theorem lk_X12_165 : ((Jvm.Cond.methodLink "WindowHouseModel" (165 : Nat) ({ cls := "WindowHouseModel", name := "isLetter", desc := "(I)Z" } : Jvm.MethodName)) : Cond) ∈ ax_G := tw_g (tw_c7 (List.mem_of_getElem? (i := 33) rfl)) rfl
theorem lk_X12_169 : ((Jvm.Cond.fieldLink "WindowHouseModel" (169 : Nat) "WindowHouseModel" "word" "J") : Cond) ∈ ax_G := tw_g (tw_c6 (List.mem_of_getElem? (i := 98) rfl)) rfl
theorem fl_X12_169 : ax_FL RX12 169 11 18 1 false false := ⟨RX12, TX12, 56, tyX12, fc_X12, by decide, Or.inl ⟨rfl, lk_X12_169, fun _ => rfl⟩, rfl, Or.inr (Or.inl ⟨rfl, rfl⟩), rfl⟩
theorem lk_X12_173 : ((Jvm.Cond.methodLink "WindowHouseModel" (173 : Nat) ({ cls := "WindowHouseModel", name := "isDigit", desc := "(I)Z" } : Jvm.MethodName)) : Cond) ∈ ax_G := tw_g (tw_c7 (List.mem_of_getElem? (i := 37) rfl)) rfl
theorem lk_X12_176 : ((Jvm.Cond.fieldLink "WindowHouseModel" (176 : Nat) "WindowHouseModel" "number" "I") : Cond) ∈ ax_G := tw_g (tw_c6 (List.mem_of_getElem? (i := 97) rfl)) rfl
theorem fl_X12_176 : ax_FL RX12 176 11 17 0 false false := ⟨RX12, TX12, 56, tyX12, fc_X12, by decide, Or.inl ⟨rfl, lk_X12_176, fun _ => rfl⟩, rfl, Or.inl ⟨rfl, rfl⟩, rfl⟩
theorem lk_X12_179 : ((Jvm.Cond.methodLink "WindowHouseModel" (179 : Nat) ({ cls := "WindowHouseModel", name := "wordOf", desc := "(Ljava/lang/String;)J" } : Jvm.MethodName)) : Cond) ∈ ax_G := tw_g (tw_c7 (List.mem_of_getElem? (i := 45) rfl)) rfl
theorem lk_X12_183 : ((Jvm.Cond.methodLink "WindowHouseModel" (183 : Nat) ({ cls := "WindowHouseModel", name := "is", desc := "(I)Z" } : Jvm.MethodName)) : Cond) ∈ ax_G := tw_g (tw_c7 (List.mem_of_getElem? (i := 66) rfl)) rfl
theorem lk_X12_185 : ((Jvm.Cond.methodLink "WindowHouseModel" (185 : Nat) ({ cls := "WindowHouseModel", name := "stop", desc := "(II)LWindowHouseModel$Stop;" } : Jvm.MethodName)) : Cond) ∈ ax_G := tw_g (tw_c7 (List.mem_of_getElem? (i := 51) rfl)) rfl
theorem lk_X12_188 : ((Jvm.Cond.methodLink "WindowHouseModel" (188 : Nat) ({ cls := "WindowHouseModel", name := "next", desc := "()V" } : Jvm.MethodName)) : Cond) ∈ ax_G := tw_g (tw_c7 (List.mem_of_getElem? (i := 25) rfl)) rfl
theorem lk_X12_191 : ((Jvm.Cond.methodLink "WindowHouseModel" (191 : Nat) ({ cls := "WindowHouseModel", name := "isWord", desc := "(Ljava/lang/String;)Z" } : Jvm.MethodName)) : Cond) ∈ ax_G := tw_g (tw_c7 (List.mem_of_getElem? (i := 41) rfl)) rfl
theorem lk_X12_195 : ((Jvm.Cond.fieldLinkNest "WindowHouseModel" (195 : Nat) "WindowHouseModel$App" "varName" "[J" "WindowHouseModel") : Cond) ∈ ax_NW := tw_n (tw_c5 (List.mem_of_getElem? (i := 213) rfl)) rfl
theorem fl_X12_195 : ax_FL RX12 195 9 5 2 true true := ⟨RX10, TX10, 22, tyX10, fc_X10, by decide, Or.inr ⟨rfl, _, lk_X12_195⟩, rfl, Or.inr (Or.inr (Or.inr ⟨rfl, Or.inr ⟨_, rfl⟩⟩)), rfl⟩
theorem lk_X12_198 : ((Jvm.Cond.fieldLinkNest "WindowHouseModel" (198 : Nat) "WindowHouseModel$App" "vars" "I" "WindowHouseModel") : Cond) ∈ ax_NW := tw_n (tw_c5 (List.mem_of_getElem? (i := 207) rfl)) rfl
theorem fl_X12_198 : ax_FL RX12 198 9 2 0 false true := ⟨RX10, TX10, 22, tyX10, fc_X10, by decide, Or.inr ⟨rfl, _, lk_X12_198⟩, rfl, Or.inl ⟨rfl, rfl⟩, rfl⟩
theorem lk_X12_201 : ((Jvm.Cond.methodLink "WindowHouseModel" (201 : Nat) ({ cls := "WindowHouseModel", name := "find", desc := "([JIIJ)I" } : Jvm.MethodName)) : Cond) ∈ ax_G := tw_g (tw_c7 (List.mem_of_getElem? (i := 55) rfl)) rfl
theorem lk_X12_205 : ((Jvm.Cond.fieldLinkNest "WindowHouseModel" (205 : Nat) "WindowHouseModel$App" "windows" "I" "WindowHouseModel") : Cond) ∈ ax_NW := tw_n (tw_c5 (List.mem_of_getElem? (i := 205) rfl)) rfl
theorem fl_X12_205 : ax_FL RX12 205 9 0 0 false true := ⟨RX10, TX10, 22, tyX10, fc_X10, by decide, Or.inr ⟨rfl, _, lk_X12_205⟩, rfl, Or.inl ⟨rfl, rfl⟩, rfl⟩
theorem lk_X12_208 : ((Jvm.Cond.fieldLinkNest "WindowHouseModel" (208 : Nat) "WindowHouseModel$App" "buttons" "I" "WindowHouseModel") : Cond) ∈ ax_NW := tw_n (tw_c5 (List.mem_of_getElem? (i := 206) rfl)) rfl
theorem fl_X12_208 : ax_FL RX12 208 9 1 0 false true := ⟨RX10, TX10, 22, tyX10, fc_X10, by decide, Or.inr ⟨rfl, _, lk_X12_208⟩, rfl, Or.inl ⟨rfl, rfl⟩, rfl⟩
theorem lk_X12_214 : ((Jvm.Cond.fieldLinkNest "WindowHouseModel" (214 : Nat) "WindowHouseModel$App" "kept" "[Z" "WindowHouseModel") : Cond) ∈ ax_NW := tw_n (tw_c5 (List.mem_of_getElem? (i := 223) rfl)) rfl
theorem fl_X12_214 : ax_FL RX12 214 9 10 2 true true := ⟨RX10, TX10, 22, tyX10, fc_X10, by decide, Or.inr ⟨rfl, _, lk_X12_214⟩, rfl, Or.inr (Or.inr (Or.inr ⟨rfl, Or.inr ⟨_, rfl⟩⟩)), rfl⟩
theorem lk_X12_216 : ((Jvm.Cond.fieldLinkNest "WindowHouseModel" (216 : Nat) "WindowHouseModel$App" "most" "[I" "WindowHouseModel") : Cond) ∈ ax_NW := tw_n (tw_c5 (List.mem_of_getElem? (i := 215) rfl)) rfl
theorem fl_X12_216 : ax_FL RX12 216 9 6 2 true true := ⟨RX10, TX10, 22, tyX10, fc_X10, by decide, Or.inr ⟨rfl, _, lk_X12_216⟩, rfl, Or.inr (Or.inr (Or.inr ⟨rfl, Or.inr ⟨_, rfl⟩⟩)), rfl⟩
theorem lk_X12_219 : ((Jvm.Cond.methodLink "WindowHouseModel" (219 : Nat) ({ cls := "WindowHouseModel", name := "needNumber", desc := "(II)I" } : Jvm.MethodName)) : Cond) ∈ ax_G := tw_g (tw_c7 (List.mem_of_getElem? (i := 58) rfl)) rfl
theorem lk_X12_223 : ((Jvm.Cond.methodLink "WindowHouseModel" (223 : Nat) ({ cls := "WindowHouseModel", name := "need", desc := "(I)V" } : Jvm.MethodName)) : Cond) ∈ ax_G := tw_g (tw_c7 (List.mem_of_getElem? (i := 62) rfl)) rfl
theorem lk_X12_228 : ((Jvm.Cond.fieldLinkNest "WindowHouseModel" (228 : Nat) "WindowHouseModel$App" "windowName" "[J" "WindowHouseModel") : Cond) ∈ ax_NW := tw_n (tw_c5 (List.mem_of_getElem? (i := 209) rfl)) rfl
theorem fl_X12_228 : ax_FL RX12 228 9 3 2 true true := ⟨RX10, TX10, 22, tyX10, fc_X10, by decide, Or.inr ⟨rfl, _, lk_X12_228⟩, rfl, Or.inr (Or.inr (Or.inr ⟨rfl, Or.inr ⟨_, rfl⟩⟩)), rfl⟩
theorem lk_X12_231 : ((Jvm.Cond.methodLink "WindowHouseModel" (231 : Nat) ({ cls := "WindowHouseModel", name := "readWindow", desc := "(I)V" } : Jvm.MethodName)) : Cond) ∈ ax_G := tw_g (tw_c7 (List.mem_of_getElem? (i := 71) rfl)) rfl
theorem lk_X12_234 : ((Jvm.Cond.fieldLinkNest "WindowHouseModel" (234 : Nat) "WindowHouseModel$App" "timer" "[I" "WindowHouseModel") : Cond) ∈ ax_NW := tw_n (tw_c5 (List.mem_of_getElem? (i := 221) rfl)) rfl
theorem fl_X12_234 : ax_FL RX12 234 9 9 2 true true := ⟨RX10, TX10, 22, tyX10, fc_X10, by decide, Or.inr ⟨rfl, _, lk_X12_234⟩, rfl, Or.inr (Or.inr (Or.inr ⟨rfl, Or.inr ⟨_, rfl⟩⟩)), rfl⟩
theorem lk_X12_237 : ((Jvm.Cond.fieldLinkNest "WindowHouseModel" (237 : Nat) "WindowHouseModel$App" "deeds" "[I" "WindowHouseModel") : Cond) ∈ ax_NW := tw_n (tw_c5 (List.mem_of_getElem? (i := 225) rfl)) rfl
theorem fl_X12_237 : ax_FL RX12 237 9 11 2 true true := ⟨RX10, TX10, 22, tyX10, fc_X10, by decide, Or.inr ⟨rfl, _, lk_X12_237⟩, rfl, Or.inr (Or.inr (Or.inr ⟨rfl, Or.inr ⟨_, rfl⟩⟩)), rfl⟩
theorem lk_X12_240 : ((Jvm.Cond.fieldLinkNest "WindowHouseModel" (240 : Nat) "WindowHouseModel$App" "deed" "[I" "WindowHouseModel") : Cond) ∈ ax_NW := tw_n (tw_c5 (List.mem_of_getElem? (i := 227) rfl)) rfl
theorem fl_X12_240 : ax_FL RX12 240 9 12 2 true true := ⟨RX10, TX10, 22, tyX10, fc_X10, by decide, Or.inr ⟨rfl, _, lk_X12_240⟩, rfl, Or.inr (Or.inr (Or.inr ⟨rfl, Or.inr ⟨_, rfl⟩⟩)), rfl⟩
theorem lk_X12_243 : ((Jvm.Cond.fieldLinkNest "WindowHouseModel" (243 : Nat) "WindowHouseModel$App" "one" "[I" "WindowHouseModel") : Cond) ∈ ax_NW := tw_n (tw_c5 (List.mem_of_getElem? (i := 229) rfl)) rfl
theorem fl_X12_243 : ax_FL RX12 243 9 13 2 true true := ⟨RX10, TX10, 22, tyX10, fc_X10, by decide, Or.inr ⟨rfl, _, lk_X12_243⟩, rfl, Or.inr (Or.inr (Or.inr ⟨rfl, Or.inr ⟨_, rfl⟩⟩)), rfl⟩
theorem lk_X12_246 : ((Jvm.Cond.fieldLinkNest "WindowHouseModel" (246 : Nat) "WindowHouseModel$App" "opens" "[J" "WindowHouseModel") : Cond) ∈ ax_NW := tw_n (tw_c5 (List.mem_of_getElem? (i := 233) rfl)) rfl
theorem fl_X12_246 : ax_FL RX12 246 9 15 2 true true := ⟨RX10, TX10, 22, tyX10, fc_X10, by decide, Or.inr ⟨rfl, _, lk_X12_246⟩, rfl, Or.inr (Or.inr (Or.inr ⟨rfl, Or.inr ⟨_, rfl⟩⟩)), rfl⟩
theorem lk_X12_249 : ((Jvm.Cond.fieldLinkNest "WindowHouseModel" (249 : Nat) "WindowHouseModel$App" "placeOf" "[I" "WindowHouseModel") : Cond) ∈ ax_NW := tw_n (tw_c5 (List.mem_of_getElem? (i := 235) rfl)) rfl
theorem fl_X12_249 : ax_FL RX12 249 9 16 2 true true := ⟨RX10, TX10, 22, tyX10, fc_X10, by decide, Or.inr ⟨rfl, _, lk_X12_249⟩, rfl, Or.inr (Or.inr (Or.inr ⟨rfl, Or.inr ⟨_, rfl⟩⟩)), rfl⟩
theorem lk_X12_252 : ((Jvm.Cond.fieldLinkNest "WindowHouseModel" (252 : Nat) "WindowHouseModel$App" "shows" "[I" "WindowHouseModel") : Cond) ∈ ax_NW := tw_n (tw_c5 (List.mem_of_getElem? (i := 217) rfl)) rfl
theorem fl_X12_252 : ax_FL RX12 252 9 7 2 true true := ⟨RX10, TX10, 22, tyX10, fc_X10, by decide, Or.inr ⟨rfl, _, lk_X12_252⟩, rfl, Or.inr (Or.inr (Or.inr ⟨rfl, Or.inr ⟨_, rfl⟩⟩)), rfl⟩
theorem lk_X12_257 : ((Jvm.Cond.fieldLinkNest "WindowHouseModel" (257 : Nat) "WindowHouseModel$App" "show" "[I" "WindowHouseModel") : Cond) ∈ ax_NW := tw_n (tw_c5 (List.mem_of_getElem? (i := 219) rfl)) rfl
theorem fl_X12_257 : ax_FL RX12 257 9 8 2 true true := ⟨RX10, TX10, 22, tyX10, fc_X10, by decide, Or.inr ⟨rfl, _, lk_X12_257⟩, rfl, Or.inr (Or.inr (Or.inr ⟨rfl, Or.inr ⟨_, rfl⟩⟩)), rfl⟩
theorem lk_X12_259 : ((Jvm.Cond.methodLink "WindowHouseModel" (259 : Nat) ({ cls := "WindowHouseModel", name := "varHere", desc := "()I" } : Jvm.MethodName)) : Cond) ∈ ax_G := tw_g (tw_c7 (List.mem_of_getElem? (i := 76) rfl)) rfl
theorem lk_X12_264 : ((Jvm.Cond.fieldLinkNest "WindowHouseModel" (264 : Nat) "WindowHouseModel$App" "buttonName" "[J" "WindowHouseModel") : Cond) ∈ ax_NW := tw_n (tw_c5 (List.mem_of_getElem? (i := 211) rfl)) rfl
theorem fl_X12_264 : ax_FL RX12 264 9 4 2 true true := ⟨RX10, TX10, 22, tyX10, fc_X10, by decide, Or.inr ⟨rfl, _, lk_X12_264⟩, rfl, Or.inr (Or.inr (Or.inr ⟨rfl, Or.inr ⟨_, rfl⟩⟩)), rfl⟩
theorem lk_X12_267 : ((Jvm.Cond.fieldLinkNest "WindowHouseModel" (267 : Nat) "WindowHouseModel$App" "windowOf" "[I" "WindowHouseModel") : Cond) ∈ ax_NW := tw_n (tw_c5 (List.mem_of_getElem? (i := 237) rfl)) rfl
theorem fl_X12_267 : ax_FL RX12 267 9 17 2 true true := ⟨RX10, TX10, 22, tyX10, fc_X10, by decide, Or.inr ⟨rfl, _, lk_X12_267⟩, rfl, Or.inr (Or.inr (Or.inr ⟨rfl, Or.inr ⟨_, rfl⟩⟩)), rfl⟩
theorem lk_X12_270 : ((Jvm.Cond.fieldLinkNest "WindowHouseModel" (270 : Nat) "WindowHouseModel$App" "conds" "[I" "WindowHouseModel") : Cond) ∈ ax_NW := tw_n (tw_c5 (List.mem_of_getElem? (i := 239) rfl)) rfl
theorem fl_X12_270 : ax_FL RX12 270 9 18 2 true true := ⟨RX10, TX10, 22, tyX10, fc_X10, by decide, Or.inr ⟨rfl, _, lk_X12_270⟩, rfl, Or.inr (Or.inr (Or.inr ⟨rfl, Or.inr ⟨_, rfl⟩⟩)), rfl⟩
theorem lk_X12_275 : ((Jvm.Cond.methodLink "WindowHouseModel" (275 : Nat) ({ cls := "WindowHouseModel", name := "readCond", desc := "(I)V" } : Jvm.MethodName)) : Cond) ∈ ax_G := tw_g (tw_c7 (List.mem_of_getElem? (i := 82) rfl)) rfl
theorem lk_X12_282 : ((Jvm.Cond.methodLink "WindowHouseModel" (282 : Nat) ({ cls := "WindowHouseModel", name := "needWord", desc := "(Ljava/lang/String;)V" } : Jvm.MethodName)) : Cond) ∈ ax_G := tw_g (tw_c7 (List.mem_of_getElem? (i := 88) rfl)) rfl
theorem lk_X12_286 : ((Jvm.Cond.methodLink "WindowHouseModel" (286 : Nat) ({ cls := "WindowHouseModel", name := "readDeeds", desc := "(I)V" } : Jvm.MethodName)) : Cond) ∈ ax_G := tw_g (tw_c7 (List.mem_of_getElem? (i := 92) rfl)) rfl
theorem lk_X12_291 : ((Jvm.Cond.fieldLinkNest "WindowHouseModel" (291 : Nat) "WindowHouseModel$App" "condVar" "[I" "WindowHouseModel") : Cond) ∈ ax_NW := tw_n (tw_c6 (List.mem_of_getElem? (i := 1) rfl)) rfl
theorem fl_X12_291 : ax_FL RX12 291 9 19 2 true true := ⟨RX10, TX10, 22, tyX10, fc_X10, by decide, Or.inr ⟨rfl, _, lk_X12_291⟩, rfl, Or.inr (Or.inr (Or.inr ⟨rfl, Or.inr ⟨_, rfl⟩⟩)), rfl⟩
theorem lk_X12_294 : ((Jvm.Cond.fieldLinkNest "WindowHouseModel" (294 : Nat) "WindowHouseModel$App" "condSign" "[I" "WindowHouseModel") : Cond) ∈ ax_NW := tw_n (tw_c6 (List.mem_of_getElem? (i := 3) rfl)) rfl
theorem fl_X12_294 : ax_FL RX12 294 9 20 2 true true := ⟨RX10, TX10, 22, tyX10, fc_X10, by decide, Or.inr ⟨rfl, _, lk_X12_294⟩, rfl, Or.inr (Or.inr (Or.inr ⟨rfl, Or.inr ⟨_, rfl⟩⟩)), rfl⟩
theorem lk_X12_297 : ((Jvm.Cond.fieldLinkNest "WindowHouseModel" (297 : Nat) "WindowHouseModel$App" "condNumber" "[I" "WindowHouseModel") : Cond) ∈ ax_NW := tw_n (tw_c6 (List.mem_of_getElem? (i := 5) rfl)) rfl
theorem fl_X12_297 : ax_FL RX12 297 9 21 2 true true := ⟨RX10, TX10, 22, tyX10, fc_X10, by decide, Or.inr ⟨rfl, _, lk_X12_297⟩, rfl, Or.inr (Or.inr (Or.inr ⟨rfl, Or.inr ⟨_, rfl⟩⟩)), rfl⟩
theorem lk_X12_310 : ((Jvm.Cond.fieldLinkNest "WindowHouseModel" (310 : Nat) "WindowHouseModel$App" "two" "[I" "WindowHouseModel") : Cond) ∈ ax_NW := tw_n (tw_c5 (List.mem_of_getElem? (i := 231) rfl)) rfl
theorem fl_X12_310 : ax_FL RX12 310 9 14 2 true true := ⟨RX10, TX10, 22, tyX10, fc_X10, by decide, Or.inr ⟨rfl, _, lk_X12_310⟩, rfl, Or.inr (Or.inr (Or.inr ⟨rfl, Or.inr ⟨_, rfl⟩⟩)), rfl⟩
theorem lk_X12_313 : ((Jvm.Cond.fieldLink "WindowHouseModel" (313 : Nat) "WindowHouseModel" "taped" "I") : Cond) ∈ ax_G := tw_g (tw_c6 (List.mem_of_getElem? (i := 91) rfl)) rfl
theorem fl_X12_313 : ax_FL RX12 313 11 11 0 false false := ⟨RX12, TX12, 56, tyX12, fc_X12, by decide, Or.inl ⟨rfl, lk_X12_313, fun _ => rfl⟩, rfl, Or.inl ⟨rfl, rfl⟩, rfl⟩
theorem lk_X12_316 : ((Jvm.Cond.methodLink "WindowHouseModel" (316 : Nat) ({ cls := "WindowHouseModel", name := "refused", desc := "(I)I" } : Jvm.MethodName)) : Cond) ∈ ax_G := tw_g (tw_c7 (List.mem_of_getElem? (i := 17) rfl)) rfl
theorem lk_X12_319 : ((Jvm.Cond.fieldLink "WindowHouseModel" (319 : Nat) "WindowHouseModel" "fault" "I") : Cond) ∈ ax_G := tw_g (tw_c6 (List.mem_of_getElem? (i := 83) rfl)) rfl
theorem fl_X12_319 : ax_FL RX12 319 11 3 0 false false := ⟨RX12, TX12, 56, tyX12, fc_X12, by decide, Or.inl ⟨rfl, lk_X12_319, fun _ => rfl⟩, rfl, Or.inl ⟨rfl, rfl⟩, rfl⟩
theorem lk_X12_321 : ((Jvm.Cond.methodLink "WindowHouseModel" (321 : Nat) ({ cls := "WindowHouseModel", name := "reads", desc := "()V" } : Jvm.MethodName)) : Cond) ∈ ax_G := tw_g (tw_c7 (List.mem_of_getElem? (i := 21) rfl)) rfl
theorem lk_X12_324 : ((Jvm.Cond.methodLink "WindowHouseModel" (324 : Nat) ({ cls := "WindowHouseModel", name := "begins", desc := "()V" } : Jvm.MethodName)) : Cond) ∈ ax_G := tw_g (tw_c7 (List.mem_of_getElem? (i := 102) rfl)) rfl
theorem lk_X12_327 : ((Jvm.Cond.methodLink "WindowHouseModel" (327 : Nat) ({ cls := "WindowHouseModel", name := "packed", desc := "()J" } : Jvm.MethodName)) : Cond) ∈ ax_G := tw_g (tw_c7 (List.mem_of_getElem? (i := 106) rfl)) rfl
theorem lk_X12_331 : ((Jvm.Cond.methodLink "WindowHouseModel" (331 : Nat) ({ cls := "WindowHouseModel", name := "packedVars", desc := "()J" } : Jvm.MethodName)) : Cond) ∈ ax_G := tw_g (tw_c7 (List.mem_of_getElem? (i := 110) rfl)) rfl
theorem lk_X12_334 : ((Jvm.Cond.fieldLink "WindowHouseModel" (334 : Nat) "WindowHouseModel" "states" "I") : Cond) ∈ ax_G := tw_g (tw_c6 (List.mem_of_getElem? (i := 105) rfl)) rfl
theorem fl_X12_334 : ax_FL RX12 334 11 25 0 false false := ⟨RX12, TX12, 56, tyX12, fc_X12, by decide, Or.inl ⟨rfl, lk_X12_334, fun _ => rfl⟩, rfl, Or.inl ⟨rfl, rfl⟩, rfl⟩
theorem lk_X12_337 : ((Jvm.Cond.methodLink "WindowHouseModel" (337 : Nat) ({ cls := "WindowHouseModel", name := "done", desc := "(I)I" } : Jvm.MethodName)) : Cond) ∈ ax_G := tw_g (tw_c7 (List.mem_of_getElem? (i := 114) rfl)) rfl
theorem lk_X12_340 : ((Jvm.Cond.methodLink "WindowHouseModel" (340 : Nat) ({ cls := "WindowHouseModel", name := "isApp", desc := "(I)Z" } : Jvm.MethodName)) : Cond) ∈ ax_G := tw_g (tw_c7 (List.mem_of_getElem? (i := 130) rfl)) rfl
theorem lk_X12_343 : ((Jvm.Cond.fieldLink "WindowHouseModel" (343 : Nat) "WindowHouseModel" "broken" "I") : Cond) ∈ ax_G := tw_g (tw_c6 (List.mem_of_getElem? (i := 99) rfl)) rfl
theorem fl_X12_343 : ax_FL RX12 343 11 19 0 false false := ⟨RX12, TX12, 56, tyX12, fc_X12, by decide, Or.inl ⟨rfl, lk_X12_343, fun _ => rfl⟩, rfl, Or.inl ⟨rfl, rfl⟩, rfl⟩
theorem lk_X12_346 : ((Jvm.Cond.fieldLink "WindowHouseModel" (346 : Nat) "WindowHouseModel" "open" "I") : Cond) ∈ ax_G := tw_g (tw_c6 (List.mem_of_getElem? (i := 100) rfl)) rfl
theorem fl_X12_346 : ax_FL RX12 346 11 20 0 false false := ⟨RX12, TX12, 56, tyX12, fc_X12, by decide, Or.inl ⟨rfl, lk_X12_346, fun _ => rfl⟩, rfl, Or.inl ⟨rfl, rfl⟩, rfl⟩
theorem lk_X12_348 : ((Jvm.Cond.constantLong "WindowHouseModel" (348 : Nat) (7 : Int64)) : Cond) ∈ ax_G := tw_g (tw_c7 (List.mem_of_getElem? (i := 149) rfl)) rfl
theorem lk_X12_350 : ((Jvm.Cond.constantLong "WindowHouseModel" (350 : Nat) (127 : Int64)) : Cond) ∈ ax_G := tw_g (tw_c7 (List.mem_of_getElem? (i := 150) rfl)) rfl
theorem lk_X12_352 : ((Jvm.Cond.constantLong "WindowHouseModel" (352 : Nat) (15 : Int64)) : Cond) ∈ ax_G := tw_g (tw_c7 (List.mem_of_getElem? (i := 151) rfl)) rfl
theorem lk_X12_354 : ((Jvm.Cond.methodLink "WindowHouseModel" (354 : Nat) ({ cls := "WindowHouseModel", name := "pressed", desc := "(LWindowHouseModel$App;)I" } : Jvm.MethodName)) : Cond) ∈ ax_G := tw_g (tw_c7 (List.mem_of_getElem? (i := 156) rfl)) rfl
theorem lk_X12_358 : ((Jvm.Cond.constant "WindowHouseModel" (358 : Nat) (67108864 : Int32)) : Cond) ∈ ax_G := tw_g (tw_c7 (List.mem_of_getElem? (i := 160) rfl)) rfl
theorem lk_X12_359 : ((Jvm.Cond.constant "WindowHouseModel" (359 : Nat) (16777216 : Int32)) : Cond) ∈ ax_G := tw_g (tw_c7 (List.mem_of_getElem? (i := 161) rfl)) rfl
theorem lk_X12_360 : ((Jvm.Cond.constant "WindowHouseModel" (360 : Nat) (33554432 : Int32)) : Cond) ∈ ax_G := tw_g (tw_c7 (List.mem_of_getElem? (i := 162) rfl)) rfl
theorem lk_X12_361 : ((Jvm.Cond.methodLink "WindowHouseModel" (361 : Nat) ({ cls := "java/lang/Math", name := "max", desc := "(II)I" } : Jvm.MethodName)) : Cond) ∈ ax_G := tw_g (tw_c7 (List.mem_of_getElem? (i := 171) rfl)) rfl
theorem lk_X12_366 : ((Jvm.Cond.methodLink "WindowHouseModel" (366 : Nat) ({ cls := "WindowHouseModel", name := "forgets", desc := "(LWindowHouseModel$App;)V" } : Jvm.MethodName)) : Cond) ∈ ax_G := tw_g (tw_c7 (List.mem_of_getElem? (i := 172) rfl)) rfl
theorem lk_X12_370 : ((Jvm.Cond.methodLink "WindowHouseModel" (370 : Nat) ({ cls := "WindowHouseModel", name := "does", desc := "(LWindowHouseModel$App;I)V" } : Jvm.MethodName)) : Cond) ∈ ax_G := tw_g (tw_c7 (List.mem_of_getElem? (i := 167) rfl)) rfl
theorem lk_X12_374 : ((Jvm.Cond.methodLink "WindowHouseModel" (374 : Nat) ({ cls := "WindowHouseModel", name := "isAct", desc := "(I)Z" } : Jvm.MethodName)) : Cond) ∈ ax_G := tw_g (tw_c7 (List.mem_of_getElem? (i := 142) rfl)) rfl
theorem lk_X12_377 : ((Jvm.Cond.methodLink "WindowHouseModel" (377 : Nat) ({ cls := "WindowHouseModel", name := "unpack", desc := "(JJ)V" } : Jvm.MethodName)) : Cond) ∈ ax_G := tw_g (tw_c7 (List.mem_of_getElem? (i := 145) rfl)) rfl
theorem lk_X12_381 : ((Jvm.Cond.methodLink "WindowHouseModel" (381 : Nat) ({ cls := "WindowHouseModel", name := "possible", desc := "(LWindowHouseModel$App;)I" } : Jvm.MethodName)) : Cond) ∈ ax_G := tw_g (tw_c7 (List.mem_of_getElem? (i := 152) rfl)) rfl
theorem lk_X12_384 : ((Jvm.Cond.methodLink "WindowHouseModel" (384 : Nat) ({ cls := "WindowHouseModel", name := "acts", desc := "(LWindowHouseModel$App;I)V" } : Jvm.MethodName)) : Cond) ∈ ax_G := tw_g (tw_c7 (List.mem_of_getElem? (i := 163) rfl)) rfl
theorem lk_X12_387 : ((Jvm.Cond.methodLink "WindowHouseModel" (387 : Nat) ({ cls := "WindowHouseModel", name := "bits", desc := "(I)I" } : Jvm.MethodName)) : Cond) ∈ ax_G := tw_g (tw_c7 (List.mem_of_getElem? (i := 180) rfl)) rfl
theorem lk_X12_390 : ((Jvm.Cond.methodLink "WindowHouseModel" (390 : Nat) ({ cls := "WindowHouseModel", name := "meets", desc := "(II)V" } : Jvm.MethodName)) : Cond) ∈ ax_G := tw_g (tw_c7 (List.mem_of_getElem? (i := 199) rfl)) rfl
theorem lk_X12_394 : ((Jvm.Cond.methodLink "WindowHouseModel" (394 : Nat) ({ cls := "WindowHouseModel", name := "stateOf", desc := "(JJ)I" } : Jvm.MethodName)) : Cond) ∈ ax_G := tw_g (tw_c7 (List.mem_of_getElem? (i := 203) rfl)) rfl
theorem lk_X12_398 : ((Jvm.Cond.methodLink "WindowHouseModel" (398 : Nat) ({ cls := "WindowHouseModel", name := "parts", desc := "()V" } : Jvm.MethodName)) : Cond) ∈ ax_G := tw_g (tw_c7 (List.mem_of_getElem? (i := 207) rfl)) rfl
theorem lk_X12_401 : ((Jvm.Cond.methodLink "WindowHouseModel" (401 : Nat) ({ cls := "WindowHouseModel", name := "view", desc := "(LWindowHouseModel$App;I)J" } : Jvm.MethodName)) : Cond) ∈ ax_G := tw_g (tw_c7 (List.mem_of_getElem? (i := 211) rfl)) rfl
theorem lk_X12_405 : ((Jvm.Cond.fieldLink "WindowHouseModel" (405 : Nat) "WindowHouseModel" "kinds" "I") : Cond) ∈ ax_G := tw_g (tw_c6 (List.mem_of_getElem? (i := 116) rfl)) rfl
theorem fl_X12_405 : ax_FL RX12 405 11 36 0 false false := ⟨RX12, TX12, 56, tyX12, fc_X12, by decide, Or.inl ⟨rfl, lk_X12_405, fun _ => rfl⟩, rfl, Or.inl ⟨rfl, rfl⟩, rfl⟩
theorem lk_X12_408 : ((Jvm.Cond.methodLink "WindowHouseModel" (408 : Nat) ({ cls := "WindowHouseModel", name := "isLike", desc := "(II)Z" } : Jvm.MethodName)) : Cond) ∈ ax_G := tw_g (tw_c7 (List.mem_of_getElem? (i := 215) rfl)) rfl
theorem lk_X12_412 : ((Jvm.Cond.methodLink "WindowHouseModel" (412 : Nat) ({ cls := "WindowHouseModel", name := "isState", desc := "(I)Z" } : Jvm.MethodName)) : Cond) ∈ ax_G := tw_g (tw_c7 (List.mem_of_getElem? (i := 223) rfl)) rfl
theorem lk_X12_415 : ((Jvm.Cond.fieldLink "WindowHouseModel" (415 : Nat) "WindowHouseModel" "rows" "I") : Cond) ∈ ax_G := tw_g (tw_c6 (List.mem_of_getElem? (i := 120) rfl)) rfl
theorem fl_X12_415 : ax_FL RX12 415 11 40 0 false false := ⟨RX12, TX12, 56, tyX12, fc_X12, by decide, Or.inl ⟨rfl, lk_X12_415, fun _ => rfl⟩, rfl, Or.inl ⟨rfl, rfl⟩, rfl⟩
theorem lk_X12_418 : ((Jvm.Cond.fieldLink "WindowHouseModel" (418 : Nat) "WindowHouseModel" "tries" "I") : Cond) ∈ ax_G := tw_g (tw_c6 (List.mem_of_getElem? (i := 122) rfl)) rfl
theorem fl_X12_418 : ax_FL RX12 418 11 42 0 false false := ⟨RX12, TX12, 56, tyX12, fc_X12, by decide, Or.inl ⟨rfl, lk_X12_418, fun _ => rfl⟩, rfl, Or.inl ⟨rfl, rfl⟩, rfl⟩
theorem lk_X12_421 : ((Jvm.Cond.methodLink "WindowHouseModel" (421 : Nat) ({ cls := "WindowHouseModel", name := "comes", desc := "(LWindowHouseModel$App;I)I" } : Jvm.MethodName)) : Cond) ∈ ax_G := tw_g (tw_c8 (List.mem_of_getElem? (i := 43) rfl)) rfl
theorem lk_X12_425 : ((Jvm.Cond.fieldLink "WindowHouseModel" (425 : Nat) "WindowHouseModel" "seenFault" "I") : Cond) ∈ ax_G := tw_g (tw_c6 (List.mem_of_getElem? (i := 130) rfl)) rfl
theorem fl_X12_425 : ax_FL RX12 425 11 50 0 false false := ⟨RX12, TX12, 56, tyX12, fc_X12, by decide, Or.inl ⟨rfl, lk_X12_425, fun _ => rfl⟩, rfl, Or.inl ⟨rfl, rfl⟩, rfl⟩
theorem lk_X12_428 : ((Jvm.Cond.fieldLink "WindowHouseModel" (428 : Nat) "WindowHouseModel" "seenMany" "I") : Cond) ∈ ax_G := tw_g (tw_c6 (List.mem_of_getElem? (i := 131) rfl)) rfl
theorem fl_X12_428 : ax_FL RX12 428 11 51 0 false false := ⟨RX12, TX12, 56, tyX12, fc_X12, by decide, Or.inl ⟨rfl, lk_X12_428, fun _ => rfl⟩, rfl, Or.inl ⟨rfl, rfl⟩, rfl⟩
theorem lk_X12_431 : ((Jvm.Cond.fieldLink "WindowHouseModel" (431 : Nat) "WindowHouseModel" "seenButtons" "I") : Cond) ∈ ax_G := tw_g (tw_c6 (List.mem_of_getElem? (i := 132) rfl)) rfl
theorem fl_X12_431 : ax_FL RX12 431 11 52 0 false false := ⟨RX12, TX12, 56, tyX12, fc_X12, by decide, Or.inl ⟨rfl, lk_X12_431, fun _ => rfl⟩, rfl, Or.inl ⟨rfl, rfl⟩, rfl⟩
theorem lk_X12_434 : ((Jvm.Cond.fieldLink "WindowHouseModel" (434 : Nat) "WindowHouseModel" "seenName" "J") : Cond) ∈ ax_G := tw_g (tw_c6 (List.mem_of_getElem? (i := 133) rfl)) rfl
theorem fl_X12_434 : ax_FL RX12 434 11 53 1 false false := ⟨RX12, TX12, 56, tyX12, fc_X12, by decide, Or.inl ⟨rfl, lk_X12_434, fun _ => rfl⟩, rfl, Or.inr (Or.inl ⟨rfl, rfl⟩), rfl⟩
theorem lk_X12_437 : ((Jvm.Cond.methodLink "WindowHouseModel" (437 : Nat) ({ cls := "WindowHouseModel", name := "sees", desc := "(LWindowHouseModel$App;)V" } : Jvm.MethodName)) : Cond) ∈ ax_G := tw_g (tw_c8 (List.mem_of_getElem? (i := 67) rfl)) rfl
theorem lk_X12_440 : ((Jvm.Cond.methodLink "WindowHouseModel" (440 : Nat) ({ cls := "WindowHouseModel", name := "isSeen", desc := "(LWindowHouseModel$App;)Z" } : Jvm.MethodName)) : Cond) ∈ ax_G := tw_g (tw_c8 (List.mem_of_getElem? (i := 71) rfl)) rfl
theorem lk_X12_444 : ((Jvm.Cond.fieldLink "WindowHouseModel" (444 : Nat) "WindowHouseModel" "pairs" "I") : Cond) ∈ ax_G := tw_g (tw_c6 (List.mem_of_getElem? (i := 123) rfl)) rfl
theorem fl_X12_444 : ax_FL RX12 444 11 43 0 false false := ⟨RX12, TX12, 56, tyX12, fc_X12, by decide, Or.inl ⟨rfl, lk_X12_444, fun _ => rfl⟩, rfl, Or.inl ⟨rfl, rfl⟩, rfl⟩
theorem lk_X12_447 : ((Jvm.Cond.methodLink "WindowHouseModel" (447 : Nat) ({ cls := "WindowHouseModel", name := "isAlike", desc := "(I)Z" } : Jvm.MethodName)) : Cond) ∈ ax_G := tw_g (tw_c8 (List.mem_of_getElem? (i := 63) rfl)) rfl
theorem lk_X12_450 : ((Jvm.Cond.methodLink "WindowHouseModel" (450 : Nat) ({ cls := "WindowHouseModel", name := "rowOf", desc := "(II)I" } : Jvm.MethodName)) : Cond) ∈ ax_G := tw_g (tw_c8 (List.mem_of_getElem? (i := 75) rfl)) rfl
theorem lk_X12_453 : ((Jvm.Cond.methodLink "WindowHouseModel" (453 : Nat) ({ cls := "WindowHouseModel", name := "sameAct", desc := "(LWindowHouseModel$App;LWindowHouseModel$App;I)I" } : Jvm.MethodName)) : Cond) ∈ ax_G := tw_g (tw_c8 (List.mem_of_getElem? (i := 79) rfl)) rfl
theorem lk_X0_3 : ((Jvm.Cond.methodLink "WindowHouse$App" (3 : Nat) ({ cls := "java/lang/Object", name := "<init>", desc := "()V" } : Jvm.MethodName)) : Cond) ∈ ax_G := tw_g (tw_c1 (List.mem_of_getElem? (i := 39) rfl)) rfl
theorem lk_X0_9 : ((Jvm.Cond.fieldLink "WindowHouse$App" (9 : Nat) "WindowHouse$App" "windows" "I") : Cond) ∈ ax_G := tw_g (tw_c1 (List.mem_of_getElem? (i := 90) rfl)) rfl
theorem fl_X0_9 : ax_FL RX0 9 0 0 0 false false := ⟨RX0, TX0, 19, tyX0, fc_X0, by decide, Or.inl ⟨rfl, lk_X0_9, fun _ => rfl⟩, rfl, Or.inl ⟨rfl, rfl⟩, rfl⟩
theorem lk_X0_15 : ((Jvm.Cond.fieldLink "WindowHouse$App" (15 : Nat) "WindowHouse$App" "buttons" "I") : Cond) ∈ ax_G := tw_g (tw_c1 (List.mem_of_getElem? (i := 93) rfl)) rfl
theorem fl_X0_15 : ax_FL RX0 15 0 1 0 false false := ⟨RX0, TX0, 19, tyX0, fc_X0, by decide, Or.inl ⟨rfl, lk_X0_15, fun _ => rfl⟩, rfl, Or.inl ⟨rfl, rfl⟩, rfl⟩
theorem lk_X0_18 : ((Jvm.Cond.fieldLink "WindowHouse$App" (18 : Nat) "WindowHouse$App" "vars" "I") : Cond) ∈ ax_G := tw_g (tw_c1 (List.mem_of_getElem? (i := 97) rfl)) rfl
theorem fl_X0_18 : ax_FL RX0 18 0 2 0 false false := ⟨RX0, TX0, 19, tyX0, fc_X0, by decide, Or.inl ⟨rfl, lk_X0_18, fun _ => rfl⟩, rfl, Or.inl ⟨rfl, rfl⟩, rfl⟩
theorem lk_X0_21 : ((Jvm.Cond.fieldLink "WindowHouse$App" (21 : Nat) "WindowHouse$App" "keptMany" "I") : Cond) ∈ ax_G := tw_g (tw_c1 (List.mem_of_getElem? (i := 100) rfl)) rfl
theorem fl_X0_21 : ax_FL RX0 21 0 3 0 false false := ⟨RX0, TX0, 19, tyX0, fc_X0, by decide, Or.inl ⟨rfl, lk_X0_21, fun _ => rfl⟩, rfl, Or.inl ⟨rfl, rfl⟩, rfl⟩
theorem lk_X0_24 : ((Jvm.Cond.fieldLink "WindowHouse$App" (24 : Nat) "WindowHouse$App" "shows" "I") : Cond) ∈ ax_G := tw_g (tw_c1 (List.mem_of_getElem? (i := 102) rfl)) rfl
theorem fl_X0_24 : ax_FL RX0 24 0 4 0 false false := ⟨RX0, TX0, 19, tyX0, fc_X0, by decide, Or.inl ⟨rfl, lk_X0_24, fun _ => rfl⟩, rfl, Or.inl ⟨rfl, rfl⟩, rfl⟩
theorem lk_X0_27 : ((Jvm.Cond.fieldLink "WindowHouse$App" (27 : Nat) "WindowHouse$App" "timers" "I") : Cond) ∈ ax_G := tw_g (tw_c1 (List.mem_of_getElem? (i := 104) rfl)) rfl
theorem fl_X0_27 : ax_FL RX0 27 0 5 0 false false := ⟨RX0, TX0, 19, tyX0, fc_X0, by decide, Or.inl ⟨rfl, lk_X0_27, fun _ => rfl⟩, rfl, Or.inl ⟨rfl, rfl⟩, rfl⟩
theorem lk_X0_30 : ((Jvm.Cond.fieldLink "WindowHouse$App" (30 : Nat) "WindowHouse$App" "keptBits" "J") : Cond) ∈ ax_G := tw_g (tw_c1 (List.mem_of_getElem? (i := 106) rfl)) rfl
theorem fl_X0_30 : ax_FL RX0 30 0 6 1 false false := ⟨RX0, TX0, 19, tyX0, fc_X0, by decide, Or.inl ⟨rfl, lk_X0_30, fun _ => rfl⟩, rfl, Or.inr (Or.inl ⟨rfl, rfl⟩), rfl⟩
theorem lk_X0_34 : ((Jvm.Cond.fieldLink "WindowHouse$App" (34 : Nat) "WindowHouse$App" "varNames" "[J") : Cond) ∈ ax_G := tw_g (tw_c1 (List.mem_of_getElem? (i := 107) rfl)) rfl
theorem fl_X0_34 : ax_FL RX0 34 0 7 2 true false := ⟨RX0, TX0, 19, tyX0, fc_X0, by decide, Or.inl ⟨rfl, lk_X0_34, fun _ => rfl⟩, rfl, Or.inr (Or.inr (Or.inr ⟨rfl, Or.inr ⟨_, rfl⟩⟩)), rfl⟩
theorem lk_X0_38 : ((Jvm.Cond.fieldLink "WindowHouse$App" (38 : Nat) "WindowHouse$App" "windowNames" "[J") : Cond) ∈ ax_G := tw_g (tw_c1 (List.mem_of_getElem? (i := 108) rfl)) rfl
theorem fl_X0_38 : ax_FL RX0 38 0 8 2 true false := ⟨RX0, TX0, 19, tyX0, fc_X0, by decide, Or.inl ⟨rfl, lk_X0_38, fun _ => rfl⟩, rfl, Or.inr (Or.inr (Or.inr ⟨rfl, Or.inr ⟨_, rfl⟩⟩)), rfl⟩
theorem lk_X0_41 : ((Jvm.Cond.fieldLink "WindowHouse$App" (41 : Nat) "WindowHouse$App" "buttonNames" "[J") : Cond) ∈ ax_G := tw_g (tw_c1 (List.mem_of_getElem? (i := 110) rfl)) rfl
theorem fl_X0_41 : ax_FL RX0 41 0 9 2 true false := ⟨RX0, TX0, 19, tyX0, fc_X0, by decide, Or.inl ⟨rfl, lk_X0_41, fun _ => rfl⟩, rfl, Or.inr (Or.inr (Or.inr ⟨rfl, Or.inr ⟨_, rfl⟩⟩)), rfl⟩
theorem lk_X0_44 : ((Jvm.Cond.fieldLink "WindowHouse$App" (44 : Nat) "WindowHouse$App" "greatest" "[I") : Cond) ∈ ax_G := tw_g (tw_c1 (List.mem_of_getElem? (i := 112) rfl)) rfl
theorem fl_X0_44 : ax_FL RX0 44 0 10 2 true false := ⟨RX0, TX0, 19, tyX0, fc_X0, by decide, Or.inl ⟨rfl, lk_X0_44, fun _ => rfl⟩, rfl, Or.inr (Or.inr (Or.inr ⟨rfl, Or.inr ⟨_, rfl⟩⟩)), rfl⟩
theorem lk_X0_48 : ((Jvm.Cond.fieldLink "WindowHouse$App" (48 : Nat) "WindowHouse$App" "showMany" "[I") : Cond) ∈ ax_G := tw_g (tw_c1 (List.mem_of_getElem? (i := 114) rfl)) rfl
theorem fl_X0_48 : ax_FL RX0 48 0 11 2 true false := ⟨RX0, TX0, 19, tyX0, fc_X0, by decide, Or.inl ⟨rfl, lk_X0_48, fun _ => rfl⟩, rfl, Or.inr (Or.inr (Or.inr ⟨rfl, Or.inr ⟨_, rfl⟩⟩)), rfl⟩
theorem lk_X0_51 : ((Jvm.Cond.fieldLink "WindowHouse$App" (51 : Nat) "WindowHouse$App" "shown" "[I") : Cond) ∈ ax_G := tw_g (tw_c1 (List.mem_of_getElem? (i := 117) rfl)) rfl
theorem fl_X0_51 : ax_FL RX0 51 0 12 2 true false := ⟨RX0, TX0, 19, tyX0, fc_X0, by decide, Or.inl ⟨rfl, lk_X0_51, fun _ => rfl⟩, rfl, Or.inr (Or.inr (Or.inr ⟨rfl, Or.inr ⟨_, rfl⟩⟩)), rfl⟩
theorem lk_X0_54 : ((Jvm.Cond.fieldLink "WindowHouse$App" (54 : Nat) "WindowHouse$App" "timer" "[I") : Cond) ∈ ax_G := tw_g (tw_c1 (List.mem_of_getElem? (i := 118) rfl)) rfl
theorem fl_X0_54 : ax_FL RX0 54 0 13 2 true false := ⟨RX0, TX0, 19, tyX0, fc_X0, by decide, Or.inl ⟨rfl, lk_X0_54, fun _ => rfl⟩, rfl, Or.inr (Or.inr (Or.inr ⟨rfl, Or.inr ⟨_, rfl⟩⟩)), rfl⟩
theorem lk_X0_57 : ((Jvm.Cond.fieldLink "WindowHouse$App" (57 : Nat) "WindowHouse$App" "firstButton" "[I") : Cond) ∈ ax_G := tw_g (tw_c1 (List.mem_of_getElem? (i := 120) rfl)) rfl
theorem fl_X0_57 : ax_FL RX0 57 0 14 2 true false := ⟨RX0, TX0, 19, tyX0, fc_X0, by decide, Or.inl ⟨rfl, lk_X0_57, fun _ => rfl⟩, rfl, Or.inr (Or.inr (Or.inr ⟨rfl, Or.inr ⟨_, rfl⟩⟩)), rfl⟩
theorem lk_X0_60 : ((Jvm.Cond.fieldLink "WindowHouse$App" (60 : Nat) "WindowHouse$App" "endButton" "[I") : Cond) ∈ ax_G := tw_g (tw_c1 (List.mem_of_getElem? (i := 123) rfl)) rfl
theorem fl_X0_60 : ax_FL RX0 60 0 15 2 true false := ⟨RX0, TX0, 19, tyX0, fc_X0, by decide, Or.inl ⟨rfl, lk_X0_60, fun _ => rfl⟩, rfl, Or.inr (Or.inr (Or.inr ⟨rfl, Or.inr ⟨_, rfl⟩⟩)), rfl⟩
theorem lk_X0_63 : ((Jvm.Cond.fieldLink "WindowHouse$App" (63 : Nat) "WindowHouse$App" "home" "[I") : Cond) ∈ ax_G := tw_g (tw_c1 (List.mem_of_getElem? (i := 126) rfl)) rfl
theorem fl_X0_63 : ax_FL RX0 63 0 16 2 true false := ⟨RX0, TX0, 19, tyX0, fc_X0, by decide, Or.inl ⟨rfl, lk_X0_63, fun _ => rfl⟩, rfl, Or.inr (Or.inr (Or.inr ⟨rfl, Or.inr ⟨_, rfl⟩⟩)), rfl⟩
theorem lk_X0_66 : ((Jvm.Cond.classLink "WindowHouse$App" (66 : Nat) "WindowHouse$Conds") : Cond) ∈ ax_G := tw_g (tw_c1 (List.mem_of_getElem? (i := 40) rfl)) rfl
theorem lk_X0_68 : ((Jvm.Cond.methodLinkNest "WindowHouse$App" (68 : Nat) ({ cls := "WindowHouse$Conds", name := "<init>", desc := "()V" } : Jvm.MethodName) "WindowHouse") : Cond) ∈ ax_NW := tw_n (tw_c1 (List.mem_of_getElem? (i := 42) rfl)) rfl
theorem lk_X0_69 : ((Jvm.Cond.fieldLink "WindowHouse$App" (69 : Nat) "WindowHouse$App" "conds" "LWindowHouse$Conds;") : Cond) ∈ ax_G := tw_g (tw_c1 (List.mem_of_getElem? (i := 128) rfl)) rfl
theorem fl_X0_69 : ax_FL RX0 69 0 17 2 true false := ⟨RX0, TX0, 19, tyX0, fc_X0, by decide, Or.inl ⟨rfl, lk_X0_69, fun _ => rfl⟩, rfl, Or.inr (Or.inr (Or.inr ⟨rfl, Or.inl ⟨_, rfl⟩⟩)), rfl⟩
theorem lk_X0_73 : ((Jvm.Cond.classLink "WindowHouse$App" (73 : Nat) "WindowHouse$Deeds") : Cond) ∈ ax_G := tw_g (tw_c1 (List.mem_of_getElem? (i := 64) rfl)) rfl
theorem lk_X0_75 : ((Jvm.Cond.methodLinkNest "WindowHouse$App" (75 : Nat) ({ cls := "WindowHouse$Deeds", name := "<init>", desc := "()V" } : Jvm.MethodName) "WindowHouse") : Cond) ∈ ax_NW := tw_n (tw_c1 (List.mem_of_getElem? (i := 66) rfl)) rfl
theorem lk_X0_76 : ((Jvm.Cond.fieldLink "WindowHouse$App" (76 : Nat) "WindowHouse$App" "deeds" "LWindowHouse$Deeds;") : Cond) ∈ ax_G := tw_g (tw_c1 (List.mem_of_getElem? (i := 132) rfl)) rfl
theorem fl_X0_76 : ax_FL RX0 76 0 18 2 true false := ⟨RX0, TX0, 19, tyX0, fc_X0, by decide, Or.inl ⟨rfl, lk_X0_76, fun _ => rfl⟩, rfl, Or.inr (Or.inr (Or.inr ⟨rfl, Or.inl ⟨_, rfl⟩⟩)), rfl⟩
theorem lk_X0_80 : ((Jvm.Cond.methodLinkNest "WindowHouse$App" (80 : Nat) ({ cls := "WindowHouse$Bits", name := "withValue", desc := "(JII)J" } : Jvm.MethodName) "WindowHouse") : Cond) ∈ ax_NW := tw_n (tw_c3 (List.mem_of_getElem? (i := 87) rfl)) rfl
theorem lk_X0_86 : ((Jvm.Cond.fieldLinkNest "WindowHouse$App" (86 : Nat) "WindowHouse$Deeds" "many" "[I" "WindowHouse") : Cond) ∈ ax_NW := tw_n (tw_c1 (List.mem_of_getElem? (i := 71) rfl)) rfl
theorem fl_X0_86 : ax_FL RX0 86 4 0 2 true true := ⟨RX5, TX5, 4, tyX5, fc_X5, by decide, Or.inr ⟨rfl, _, lk_X0_86⟩, rfl, Or.inr (Or.inr (Or.inr ⟨rfl, Or.inr ⟨_, rfl⟩⟩)), rfl⟩
theorem lk_X0_89 : ((Jvm.Cond.methodLinkNest "WindowHouse$App" (89 : Nat) ({ cls := "WindowHouse$Deeds", name := "ofTimer", desc := "(I)I" } : Jvm.MethodName) "WindowHouse") : Cond) ∈ ax_NW := tw_n (tw_c3 (List.mem_of_getElem? (i := 104) rfl)) rfl
theorem lk_X0_93 : ((Jvm.Cond.fieldLinkNest "WindowHouse$App" (93 : Nat) "WindowHouse$Conds" "many" "[I" "WindowHouse") : Cond) ∈ ax_NW := tw_n (tw_c1 (List.mem_of_getElem? (i := 47) rfl)) rfl
theorem fl_X0_93 : ax_FL RX0 93 3 0 2 true true := ⟨RX4, TX4, 4, tyX4, fc_X4, by decide, Or.inr ⟨rfl, _, lk_X0_93⟩, rfl, Or.inr (Or.inr (Or.inr ⟨rfl, Or.inr ⟨_, rfl⟩⟩)), rfl⟩
theorem lk_X0_94 : ((Jvm.Cond.methodLink "WindowHouse$App" (94 : Nat) ({ cls := "WindowHouse$App", name := "placeOf", desc := "(J[JII)I" } : Jvm.MethodName)) : Cond) ∈ ax_G := tw_g (tw_c2 (List.mem_of_getElem? (i := 229) rfl)) rfl
theorem lk_X0_98 : ((Jvm.Cond.methodLinkNest "WindowHouse$App" (98 : Nat) ({ cls := "WindowHouse$Bits", name := "alone", desc := "(IJ)J" } : Jvm.MethodName) "WindowHouse") : Cond) ∈ ax_NW := tw_n (tw_c3 (List.mem_of_getElem? (i := 204) rfl)) rfl
theorem lk_X0_102 : ((Jvm.Cond.methodLinkNest "WindowHouse$App" (102 : Nat) ({ cls := "WindowHouse$Bits", name := "topOf", desc := "(J)I" } : Jvm.MethodName) "WindowHouse") : Cond) ∈ ax_NW := tw_n (tw_c4 (List.mem_of_getElem? (i := 8) rfl)) rfl
theorem lk_X0_106 : ((Jvm.Cond.methodLinkNest "WindowHouse$App" (106 : Nat) ({ cls := "WindowHouse$Bits", name := "openOf", desc := "(J)I" } : Jvm.MethodName) "WindowHouse") : Cond) ∈ ax_NW := tw_n (tw_c4 (List.mem_of_getElem? (i := 14) rfl)) rfl
theorem lk_X0_109 : ((Jvm.Cond.methodLinkNest "WindowHouse$App" (109 : Nat) ({ cls := "WindowHouse$Conds", name := "hold", desc := "(IJ)Z" } : Jvm.MethodName) "WindowHouse") : Cond) ∈ ax_NW := tw_n (tw_c4 (List.mem_of_getElem? (i := 15) rfl)) rfl
theorem lk_X0_113 : ((Jvm.Cond.methodLink "WindowHouse$App" (113 : Nat) ({ cls := "WindowHouse$App", name := "possible", desc := "(JI)Z" } : Jvm.MethodName)) : Cond) ∈ ax_G := tw_g (tw_c4 (List.mem_of_getElem? (i := 65) rfl)) rfl
theorem lk_X0_117 : ((Jvm.Cond.methodLinkNest "WindowHouse$App" (117 : Nat) ({ cls := "WindowHouse$Bits", name := "closed", desc := "(J)J" } : Jvm.MethodName) "WindowHouse") : Cond) ∈ ax_NW := tw_n (tw_c4 (List.mem_of_getElem? (i := 26) rfl)) rfl
theorem lk_X0_121 : ((Jvm.Cond.methodLink "WindowHouse$App" (121 : Nat) ({ cls := "WindowHouse$App", name := "afterDeeds", desc := "(JI)J" } : Jvm.MethodName)) : Cond) ∈ ax_G := tw_g (tw_c4 (List.mem_of_getElem? (i := 29) rfl)) rfl
theorem lk_X0_125 : ((Jvm.Cond.methodLinkNest "WindowHouse$App" (125 : Nat) ({ cls := "WindowHouse$Bits", name := "ticksOf", desc := "(J)I" } : Jvm.MethodName) "WindowHouse") : Cond) ∈ ax_NW := tw_n (tw_c4 (List.mem_of_getElem? (i := 44) rfl)) rfl
theorem lk_X0_128 : ((Jvm.Cond.methodLinkNest "WindowHouse$App" (128 : Nat) ({ cls := "WindowHouse$Bits", name := "withTicks", desc := "(JI)J" } : Jvm.MethodName) "WindowHouse") : Cond) ∈ ax_NW := tw_n (tw_c4 (List.mem_of_getElem? (i := 47) rfl)) rfl
theorem lk_X0_131 : ((Jvm.Cond.methodLinkNest "WindowHouse$App" (131 : Nat) ({ cls := "WindowHouse$Bits", name := "faultOf", desc := "(J)I" } : Jvm.MethodName) "WindowHouse") : Cond) ∈ ax_NW := tw_n (tw_c4 (List.mem_of_getElem? (i := 144) rfl)) rfl
theorem lk_X0_134 : ((Jvm.Cond.methodLink "WindowHouse$App" (134 : Nat) ({ cls := "WindowHouse$App", name := "after", desc := "(JI)J" } : Jvm.MethodName)) : Cond) ∈ ax_G := tw_g (tw_c5 (List.mem_of_getElem? (i := 39) rfl)) rfl
theorem lk_X0_137 : ((Jvm.Cond.fieldLinkNest "WindowHouse$App" (137 : Nat) "WindowHouse$Deeds" "on" "[I" "WindowHouse") : Cond) ∈ ax_NW := tw_n (tw_c1 (List.mem_of_getElem? (i := 77) rfl)) rfl
theorem fl_X0_137 : ax_FL RX0 137 4 2 2 true true := ⟨RX5, TX5, 4, tyX5, fc_X5, by decide, Or.inr ⟨rfl, _, lk_X0_137⟩, rfl, Or.inr (Or.inr (Or.inr ⟨rfl, Or.inr ⟨_, rfl⟩⟩)), rfl⟩
theorem lk_X0_140 : ((Jvm.Cond.fieldLinkNest "WindowHouse$App" (140 : Nat) "WindowHouse$Deeds" "number" "[I" "WindowHouse") : Cond) ∈ ax_NW := tw_n (tw_c1 (List.mem_of_getElem? (i := 80) rfl)) rfl
theorem fl_X0_140 : ax_FL RX0 140 4 3 2 true true := ⟨RX5, TX5, 4, tyX5, fc_X5, by decide, Or.inr ⟨rfl, _, lk_X0_140⟩, rfl, Or.inr (Or.inr (Or.inr ⟨rfl, Or.inr ⟨_, rfl⟩⟩)), rfl⟩
theorem lk_X0_143 : ((Jvm.Cond.fieldLinkNest "WindowHouse$App" (143 : Nat) "WindowHouse$Deeds" "kind" "[I" "WindowHouse") : Cond) ∈ ax_NW := tw_n (tw_c1 (List.mem_of_getElem? (i := 75) rfl)) rfl
theorem fl_X0_143 : ax_FL RX0 143 4 1 2 true true := ⟨RX5, TX5, 4, tyX5, fc_X5, by decide, Or.inr ⟨rfl, _, lk_X0_143⟩, rfl, Or.inr (Or.inr (Or.inr ⟨rfl, Or.inr ⟨_, rfl⟩⟩)), rfl⟩
theorem lk_X0_146 : ((Jvm.Cond.methodLinkNest "WindowHouse$App" (146 : Nat) ({ cls := "WindowHouse$Bits", name := "opened", desc := "(JI)J" } : Jvm.MethodName) "WindowHouse") : Cond) ∈ ax_NW := tw_n (tw_c4 (List.mem_of_getElem? (i := 33) rfl)) rfl
theorem lk_X0_149 : ((Jvm.Cond.methodLinkNest "WindowHouse$App" (149 : Nat) ({ cls := "WindowHouse$Bits", name := "valueOf", desc := "(JI)I" } : Jvm.MethodName) "WindowHouse") : Cond) ∈ ax_NW := tw_n (tw_c4 (List.mem_of_getElem? (i := 36) rfl)) rfl
theorem lk_X0_153 : ((Jvm.Cond.methodLink "WindowHouse$App" (153 : Nat) ({ cls := "WindowHouse$App", name := "sumIn", desc := "(II)I" } : Jvm.MethodName)) : Cond) ∈ ax_G := tw_g (tw_c4 (List.mem_of_getElem? (i := 37) rfl)) rfl
theorem lk_X0_157 : ((Jvm.Cond.methodLinkNest "WindowHouse$App" (157 : Nat) ({ cls := "WindowHouse$Bits", name := "faulted", desc := "(IJ)J" } : Jvm.MethodName) "WindowHouse") : Cond) ∈ ax_NW := tw_n (tw_c4 (List.mem_of_getElem? (i := 41) rfl)) rfl
theorem lk_X0_160 : ((Jvm.Cond.methodLink "WindowHouse$App" (160 : Nat) ({ cls := "WindowHouse$App", name := "shownIn", desc := "(JII)I" } : Jvm.MethodName)) : Cond) ∈ ax_G := tw_g (tw_c4 (List.mem_of_getElem? (i := 145) rfl)) rfl
theorem lk_X1_3 : ((Jvm.Cond.methodLink "WindowHouse$Atlas" (3 : Nat) ({ cls := "java/lang/Object", name := "<init>", desc := "()V" } : Jvm.MethodName)) : Cond) ∈ ax_G := tw_g (tw_c2 (List.mem_of_getElem? (i := 25) rfl)) rfl
theorem lk_X1_9 : ((Jvm.Cond.fieldLink "WindowHouse$Atlas" (9 : Nat) "WindowHouse$Atlas" "whose" "I") : Cond) ∈ ax_G := tw_g (tw_c2 (List.mem_of_getElem? (i := 63) rfl)) rfl
theorem fl_X1_9 : ax_FL RX1 9 1 0 0 false false := ⟨RX1, TX1, 9, tyX1, fc_X1, by decide, Or.inl ⟨rfl, lk_X1_9, fun _ => rfl⟩, rfl, Or.inl ⟨rfl, rfl⟩, rfl⟩
theorem lk_X1_15 : ((Jvm.Cond.classLink "WindowHouse$Atlas" (15 : Nat) "WindowHouse$Meetings") : Cond) ∈ ax_G := tw_g (tw_c2 (List.mem_of_getElem? (i := 26) rfl)) rfl
theorem lk_X1_17 : ((Jvm.Cond.methodLinkNest "WindowHouse$Atlas" (17 : Nat) ({ cls := "WindowHouse$Meetings", name := "<init>", desc := "()V" } : Jvm.MethodName) "WindowHouse") : Cond) ∈ ax_NW := tw_n (tw_c2 (List.mem_of_getElem? (i := 28) rfl)) rfl
theorem lk_X1_18 : ((Jvm.Cond.fieldLink "WindowHouse$Atlas" (18 : Nat) "WindowHouse$Atlas" "states" "LWindowHouse$Meetings;") : Cond) ∈ ax_G := tw_g (tw_c2 (List.mem_of_getElem? (i := 67) rfl)) rfl
theorem fl_X1_18 : ax_FL RX1 18 1 2 2 true false := ⟨RX1, TX1, 9, tyX1, fc_X1, by decide, Or.inl ⟨rfl, lk_X1_18, fun _ => rfl⟩, rfl, Or.inr (Or.inr (Or.inr ⟨rfl, Or.inl ⟨_, rfl⟩⟩)), rfl⟩
theorem lk_X1_22 : ((Jvm.Cond.fieldLink "WindowHouse$Atlas" (22 : Nat) "WindowHouse$Atlas" "to" "[I") : Cond) ∈ ax_G := tw_g (tw_c2 (List.mem_of_getElem? (i := 69) rfl)) rfl
theorem fl_X1_22 : ax_FL RX1 22 1 3 2 true false := ⟨RX1, TX1, 9, tyX1, fc_X1, by decide, Or.inl ⟨rfl, lk_X1_22, fun _ => rfl⟩, rfl, Or.inr (Or.inr (Or.inr ⟨rfl, Or.inr ⟨_, rfl⟩⟩)), rfl⟩
theorem lk_X1_26 : ((Jvm.Cond.fieldLink "WindowHouse$Atlas" (26 : Nat) "WindowHouse$Atlas" "sorter" "LWindowHouse$Meetings;") : Cond) ∈ ax_G := tw_g (tw_c2 (List.mem_of_getElem? (i := 71) rfl)) rfl
theorem fl_X1_26 : ax_FL RX1 26 1 4 2 true false := ⟨RX1, TX1, 9, tyX1, fc_X1, by decide, Or.inl ⟨rfl, lk_X1_26, fun _ => rfl⟩, rfl, Or.inr (Or.inr (Or.inr ⟨rfl, Or.inl ⟨_, rfl⟩⟩)), rfl⟩
theorem lk_X1_29 : ((Jvm.Cond.fieldLink "WindowHouse$Atlas" (29 : Nat) "WindowHouse$Atlas" "kinds" "I") : Cond) ∈ ax_G := tw_g (tw_c2 (List.mem_of_getElem? (i := 72) rfl)) rfl
theorem fl_X1_29 : ax_FL RX1 29 1 5 0 false false := ⟨RX1, TX1, 9, tyX1, fc_X1, by decide, Or.inl ⟨rfl, lk_X1_29, fun _ => rfl⟩, rfl, Or.inl ⟨rfl, rfl⟩, rfl⟩
theorem lk_X1_32 : ((Jvm.Cond.fieldLink "WindowHouse$Atlas" (32 : Nat) "WindowHouse$Atlas" "kind" "[I") : Cond) ∈ ax_G := tw_g (tw_c2 (List.mem_of_getElem? (i := 73) rfl)) rfl
theorem fl_X1_32 : ax_FL RX1 32 1 6 2 true false := ⟨RX1, TX1, 9, tyX1, fc_X1, by decide, Or.inl ⟨rfl, lk_X1_32, fun _ => rfl⟩, rfl, Or.inr (Or.inr (Or.inr ⟨rfl, Or.inr ⟨_, rfl⟩⟩)), rfl⟩
theorem lk_X1_35 : ((Jvm.Cond.fieldLink "WindowHouse$Atlas" (35 : Nat) "WindowHouse$Atlas" "newKind" "[I") : Cond) ∈ ax_G := tw_g (tw_c2 (List.mem_of_getElem? (i := 74) rfl)) rfl
theorem fl_X1_35 : ax_FL RX1 35 1 7 2 true false := ⟨RX1, TX1, 9, tyX1, fc_X1, by decide, Or.inl ⟨rfl, lk_X1_35, fun _ => rfl⟩, rfl, Or.inr (Or.inr (Or.inr ⟨rfl, Or.inr ⟨_, rfl⟩⟩)), rfl⟩
theorem lk_X1_38 : ((Jvm.Cond.fieldLink "WindowHouse$Atlas" (38 : Nat) "WindowHouse$Atlas" "leadsThere" "[Z") : Cond) ∈ ax_G := tw_g (tw_c2 (List.mem_of_getElem? (i := 75) rfl)) rfl
theorem fl_X1_38 : ax_FL RX1 38 1 8 2 true false := ⟨RX1, TX1, 9, tyX1, fc_X1, by decide, Or.inl ⟨rfl, lk_X1_38, fun _ => rfl⟩, rfl, Or.inr (Or.inr (Or.inr ⟨rfl, Or.inr ⟨_, rfl⟩⟩)), rfl⟩
theorem lk_X1_42 : ((Jvm.Cond.fieldLink "WindowHouse$Atlas" (42 : Nat) "WindowHouse$Atlas" "app" "LWindowHouse$App;") : Cond) ∈ ax_G := tw_g (tw_c2 (List.mem_of_getElem? (i := 65) rfl)) rfl
theorem fl_X1_42 : ax_FL RX1 42 1 1 2 false false := ⟨RX1, TX1, 9, tyX1, fc_X1, by decide, Or.inl ⟨rfl, lk_X1_42, fun _ => rfl⟩, rfl, Or.inr (Or.inr (Or.inr ⟨rfl, Or.inl ⟨_, rfl⟩⟩)), rfl⟩
theorem lk_X1_46 : ((Jvm.Cond.methodLink "WindowHouse$Atlas" (46 : Nat) ({ cls := "WindowHouse$Atlas", name := "stands", desc := "()Z" } : Jvm.MethodName)) : Cond) ∈ ax_G := tw_g (tw_c4 (List.mem_of_getElem? (i := 116) rfl)) rfl
theorem lk_X1_50 : ((Jvm.Cond.fieldLinkNest "WindowHouse$Atlas" (50 : Nat) "WindowHouse$Meetings" "many" "I" "WindowHouse") : Cond) ∈ ax_NW := tw_n (tw_c2 (List.mem_of_getElem? (i := 34) rfl)) rfl
theorem fl_X1_50 : ax_FL RX1 50 5 0 0 false true := ⟨RX6, TX6, 7, tyX6, fc_X6, by decide, Or.inr ⟨rfl, _, lk_X1_50⟩, rfl, Or.inl ⟨rfl, rfl⟩, rfl⟩
theorem lk_X1_53 : ((Jvm.Cond.methodLink "WindowHouse$Atlas" (53 : Nat) ({ cls := "WindowHouse$Atlas", name := "drop", desc := "()V" } : Jvm.MethodName)) : Cond) ∈ ax_G := tw_g (tw_c4 (List.mem_of_getElem? (i := 87) rfl)) rfl
theorem lk_X1_56 : ((Jvm.Cond.methodLinkNest "WindowHouse$Atlas" (56 : Nat) ({ cls := "WindowHouse$Meetings", name := "clear", desc := "()V" } : Jvm.MethodName) "WindowHouse") : Cond) ∈ ax_NW := tw_n (tw_c4 (List.mem_of_getElem? (i := 88) rfl)) rfl
theorem lk_X1_59 : ((Jvm.Cond.methodLinkNest "WindowHouse$Atlas" (59 : Nat) ({ cls := "WindowHouse$App", name := "beginning", desc := "()J" } : Jvm.MethodName) "WindowHouse") : Cond) ∈ ax_NW := tw_n (tw_c4 (List.mem_of_getElem? (i := 95) rfl)) rfl
theorem lk_X1_65 : ((Jvm.Cond.methodLinkNest "WindowHouse$Atlas" (65 : Nat) ({ cls := "WindowHouse$Meetings", name := "meet", desc := "(JJII)I" } : Jvm.MethodName) "WindowHouse") : Cond) ∈ ax_NW := tw_n (tw_c4 (List.mem_of_getElem? (i := 96) rfl)) rfl
theorem lk_X1_69 : ((Jvm.Cond.methodLink "WindowHouse$Atlas" (69 : Nat) ({ cls := "WindowHouse$Atlas", name := "goneFrom", desc := "(LWindowHouse$App;I)Z" } : Jvm.MethodName)) : Cond) ∈ ax_G := tw_g (tw_c4 (List.mem_of_getElem? (i := 106) rfl)) rfl
theorem lk_X1_73 : ((Jvm.Cond.fieldLinkNest "WindowHouse$Atlas" (73 : Nat) "WindowHouse$Meetings" "left" "[J" "WindowHouse") : Cond) ∈ ax_NW := tw_n (tw_c2 (List.mem_of_getElem? (i := 38) rfl)) rfl
theorem fl_X1_73 : ax_FL RX1 73 5 1 2 true true := ⟨RX6, TX6, 7, tyX6, fc_X6, by decide, Or.inr ⟨rfl, _, lk_X1_73⟩, rfl, Or.inr (Or.inr (Or.inr ⟨rfl, Or.inr ⟨_, rfl⟩⟩)), rfl⟩
theorem lk_X1_77 : ((Jvm.Cond.methodLinkNest "WindowHouse$Atlas" (77 : Nat) ({ cls := "WindowHouse$App", name := "possible", desc := "(JI)Z" } : Jvm.MethodName) "WindowHouse") : Cond) ∈ ax_NW := tw_n (tw_c4 (List.mem_of_getElem? (i := 110) rfl)) rfl
theorem lk_X1_81 : ((Jvm.Cond.methodLinkNest "WindowHouse$Atlas" (81 : Nat) ({ cls := "WindowHouse$App", name := "after", desc := "(JI)J" } : Jvm.MethodName) "WindowHouse") : Cond) ∈ ax_NW := tw_n (tw_c4 (List.mem_of_getElem? (i := 111) rfl)) rfl
theorem lk_X1_85 : ((Jvm.Cond.methodLink "WindowHouse$Atlas" (85 : Nat) ({ cls := "WindowHouse$Atlas", name := "waysFrom", desc := "(I)I" } : Jvm.MethodName)) : Cond) ∈ ax_G := tw_g (tw_c5 (List.mem_of_getElem? (i := 18) rfl)) rfl
theorem lk_X1_89 : ((Jvm.Cond.fieldLinkNest "WindowHouse$Atlas" (89 : Nat) "WindowHouse$Meetings" "deep" "[I" "WindowHouse") : Cond) ∈ ax_NW := tw_n (tw_c2 (List.mem_of_getElem? (i := 45) rfl)) rfl
theorem fl_X1_89 : ax_FL RX1 89 5 5 2 true true := ⟨RX6, TX6, 7, tyX6, fc_X6, by decide, Or.inr ⟨rfl, _, lk_X1_89⟩, rfl, Or.inr (Or.inr (Or.inr ⟨rfl, Or.inr ⟨_, rfl⟩⟩)), rfl⟩
theorem lk_X1_92 : ((Jvm.Cond.methodLink "WindowHouse$Atlas" (92 : Nat) ({ cls := "java/lang/Math", name := "max", desc := "(II)I" } : Jvm.MethodName)) : Cond) ∈ ax_G := tw_g (tw_c5 (List.mem_of_getElem? (i := 7) rfl)) rfl
theorem lk_X1_98 : ((Jvm.Cond.methodLinkNest "WindowHouse$Atlas" (98 : Nat) ({ cls := "WindowHouse$Bits", name := "faultOf", desc := "(J)I" } : Jvm.MethodName) "WindowHouse") : Cond) ∈ ax_NW := tw_n (tw_c4 (List.mem_of_getElem? (i := 182) rfl)) rfl
theorem lk_X1_104 : ((Jvm.Cond.fieldLinkNest "WindowHouse$Atlas" (104 : Nat) "WindowHouse$App" "buttons" "I" "WindowHouse") : Cond) ∈ ax_NW := tw_n (tw_c1 (List.mem_of_getElem? (i := 95) rfl)) rfl
theorem fl_X1_104 : ax_FL RX1 104 0 1 0 false true := ⟨RX0, TX0, 19, tyX0, fc_X0, by decide, Or.inr ⟨rfl, _, lk_X1_104⟩, rfl, Or.inl ⟨rfl, rfl⟩, rfl⟩
theorem lk_X1_107 : ((Jvm.Cond.methodLink "WindowHouse$Atlas" (107 : Nat) ({ cls := "WindowHouse$Atlas", name := "firstOfPressed", desc := "(I)I" } : Jvm.MethodName)) : Cond) ∈ ax_G := tw_g (tw_c4 (List.mem_of_getElem? (i := 199) rfl)) rfl
theorem lk_X1_110 : ((Jvm.Cond.methodLinkNest "WindowHouse$Atlas" (110 : Nat) ({ cls := "WindowHouse$Bits", name := "valueOf", desc := "(JI)I" } : Jvm.MethodName) "WindowHouse") : Cond) ∈ ax_NW := tw_n (tw_c4 (List.mem_of_getElem? (i := 208) rfl)) rfl
theorem lk_X1_114 : ((Jvm.Cond.methodLinkNest "WindowHouse$Atlas" (114 : Nat) ({ cls := "WindowHouse$Bits", name := "topOf", desc := "(J)I" } : Jvm.MethodName) "WindowHouse") : Cond) ∈ ax_NW := tw_n (tw_c4 (List.mem_of_getElem? (i := 217) rfl)) rfl
theorem lk_X1_117 : ((Jvm.Cond.methodLink "WindowHouse$Atlas" (117 : Nat) ({ cls := "WindowHouse$Atlas", name := "markMore", desc := "()Z" } : Jvm.MethodName)) : Cond) ∈ ax_G := tw_g (tw_c4 (List.mem_of_getElem? (i := 218) rfl)) rfl
theorem lk_X1_120 : ((Jvm.Cond.methodLink "WindowHouse$Atlas" (120 : Nat) ({ cls := "WindowHouse$Atlas", name := "leadsToMarked", desc := "(I)Z" } : Jvm.MethodName)) : Cond) ∈ ax_G := tw_g (tw_c4 (List.mem_of_getElem? (i := 222) rfl)) rfl
theorem lk_X1_124 : ((Jvm.Cond.methodLinkNest "WindowHouse$Atlas" (124 : Nat) ({ cls := "WindowHouse$App", name := "viewOf", desc := "(J)J" } : Jvm.MethodName) "WindowHouse") : Cond) ∈ ax_NW := tw_n (tw_c4 (List.mem_of_getElem? (i := 140) rfl)) rfl
theorem lk_X1_128 : ((Jvm.Cond.methodLink "WindowHouse$Atlas" (128 : Nat) ({ cls := "WindowHouse$Atlas", name := "partByViews", desc := "()V" } : Jvm.MethodName)) : Cond) ∈ ax_G := tw_g (tw_c4 (List.mem_of_getElem? (i := 136) rfl)) rfl
theorem lk_X1_131 : ((Jvm.Cond.methodLink "WindowHouse$Atlas" (131 : Nat) ({ cls := "WindowHouse$Atlas", name := "partByWays", desc := "()V" } : Jvm.MethodName)) : Cond) ∈ ax_G := tw_g (tw_c4 (List.mem_of_getElem? (i := 149) rfl)) rfl
theorem lk_X1_134 : ((Jvm.Cond.methodLink "WindowHouse$Atlas" (134 : Nat) ({ cls := "WindowHouse$Atlas", name := "kindsMany", desc := "()I" } : Jvm.MethodName)) : Cond) ∈ ax_G := tw_g (tw_c4 (List.mem_of_getElem? (i := 132) rfl)) rfl
theorem lk_X1_138 : ((Jvm.Cond.methodLink "WindowHouse$Atlas" (138 : Nat) ({ cls := "WindowHouse$Atlas", name := "partedBy", desc := "(I)Z" } : Jvm.MethodName)) : Cond) ∈ ax_G := tw_g (tw_c4 (List.mem_of_getElem? (i := 153) rfl)) rfl
theorem lk_X1_141 : ((Jvm.Cond.constantLong "WindowHouse$Atlas" (141 : Nat) (-1 : Int64)) : Cond) ∈ ax_G := tw_g (tw_c4 (List.mem_of_getElem? (i := 157) rfl)) rfl
theorem lk_X1_143 : ((Jvm.Cond.methodLink "WindowHouse$Atlas" (143 : Nat) ({ cls := "java/lang/System", name := "arraycopy", desc := "(Ljava/lang/Object;ILjava/lang/Object;II)V" } : Jvm.MethodName)) : Cond) ∈ ax_G := tw_g (tw_c4 (List.mem_of_getElem? (i := 158) rfl)) rfl
theorem lk_X2_3 : ((Jvm.Cond.methodLink "WindowHouse$Beside" (3 : Nat) ({ cls := "java/lang/Object", name := "<init>", desc := "()V" } : Jvm.MethodName)) : Cond) ∈ ax_G := tw_g (tw_c2 (List.mem_of_getElem? (i := 101) rfl)) rfl
theorem lk_X2_9 : ((Jvm.Cond.classLink "WindowHouse$Beside" (9 : Nat) "WindowHouse$Meetings") : Cond) ∈ ax_G := tw_g (tw_c2 (List.mem_of_getElem? (i := 102) rfl)) rfl
theorem lk_X2_11 : ((Jvm.Cond.methodLinkNest "WindowHouse$Beside" (11 : Nat) ({ cls := "WindowHouse$Meetings", name := "<init>", desc := "()V" } : Jvm.MethodName) "WindowHouse") : Cond) ∈ ax_NW := tw_n (tw_c2 (List.mem_of_getElem? (i := 103) rfl)) rfl
theorem lk_X2_12 : ((Jvm.Cond.fieldLink "WindowHouse$Beside" (12 : Nat) "WindowHouse$Beside" "pairs" "LWindowHouse$Meetings;") : Cond) ∈ ax_G := tw_g (tw_c2 (List.mem_of_getElem? (i := 106) rfl)) rfl
theorem fl_X2_12 : ax_FL RX2 12 2 2 2 true false := ⟨RX2, TX2, 6, tyX2, fc_X2, by decide, Or.inl ⟨rfl, lk_X2_12, fun _ => rfl⟩, rfl, Or.inr (Or.inr (Or.inr ⟨rfl, Or.inl ⟨_, rfl⟩⟩)), rfl⟩
theorem lk_X2_18 : ((Jvm.Cond.fieldLink "WindowHouse$Beside" (18 : Nat) "WindowHouse$Beside" "tooMany" "Z") : Cond) ∈ ax_G := tw_g (tw_c2 (List.mem_of_getElem? (i := 108) rfl)) rfl
theorem fl_X2_18 : ax_FL RX2 18 2 3 3 false false := ⟨RX2, TX2, 6, tyX2, fc_X2, by decide, Or.inl ⟨rfl, lk_X2_18, fun _ => rfl⟩, rfl, Or.inr (Or.inr (Or.inl ⟨rfl, rfl⟩)), rfl⟩
theorem lk_X2_22 : ((Jvm.Cond.fieldLink "WindowHouse$Beside" (22 : Nat) "WindowHouse$Beside" "unlikeAt" "I") : Cond) ∈ ax_G := tw_g (tw_c2 (List.mem_of_getElem? (i := 110) rfl)) rfl
theorem fl_X2_22 : ax_FL RX2 22 2 4 0 false false := ⟨RX2, TX2, 6, tyX2, fc_X2, by decide, Or.inl ⟨rfl, lk_X2_22, fun _ => rfl⟩, rfl, Or.inl ⟨rfl, rfl⟩, rfl⟩
theorem lk_X2_26 : ((Jvm.Cond.fieldLink "WindowHouse$Beside" (26 : Nat) "WindowHouse$Beside" "lastAct" "I") : Cond) ∈ ax_G := tw_g (tw_c2 (List.mem_of_getElem? (i := 112) rfl)) rfl
theorem fl_X2_26 : ax_FL RX2 26 2 5 0 false false := ⟨RX2, TX2, 6, tyX2, fc_X2, by decide, Or.inl ⟨rfl, lk_X2_26, fun _ => rfl⟩, rfl, Or.inl ⟨rfl, rfl⟩, rfl⟩
theorem lk_X2_29 : ((Jvm.Cond.fieldLink "WindowHouse$Beside" (29 : Nat) "WindowHouse$Beside" "first" "LWindowHouse$App;") : Cond) ∈ ax_G := tw_g (tw_c2 (List.mem_of_getElem? (i := 104) rfl)) rfl
theorem fl_X2_29 : ax_FL RX2 29 2 0 2 false false := ⟨RX2, TX2, 6, tyX2, fc_X2, by decide, Or.inl ⟨rfl, lk_X2_29, fun _ => rfl⟩, rfl, Or.inr (Or.inr (Or.inr ⟨rfl, Or.inl ⟨_, rfl⟩⟩)), rfl⟩
theorem lk_X2_33 : ((Jvm.Cond.fieldLink "WindowHouse$Beside" (33 : Nat) "WindowHouse$Beside" "second" "LWindowHouse$App;") : Cond) ∈ ax_G := tw_g (tw_c2 (List.mem_of_getElem? (i := 105) rfl)) rfl
theorem fl_X2_33 : ax_FL RX2 33 2 1 2 false false := ⟨RX2, TX2, 6, tyX2, fc_X2, by decide, Or.inl ⟨rfl, lk_X2_33, fun _ => rfl⟩, rfl, Or.inr (Or.inr (Or.inr ⟨rfl, Or.inl ⟨_, rfl⟩⟩)), rfl⟩
theorem lk_X2_36 : ((Jvm.Cond.methodLinkNest "WindowHouse$Beside" (36 : Nat) ({ cls := "WindowHouse$Meetings", name := "clear", desc := "()V" } : Jvm.MethodName) "WindowHouse") : Cond) ∈ ax_NW := tw_n (tw_c5 (List.mem_of_getElem? (i := 64) rfl)) rfl
theorem lk_X2_39 : ((Jvm.Cond.methodLinkNest "WindowHouse$Beside" (39 : Nat) ({ cls := "WindowHouse$App", name := "beginning", desc := "()J" } : Jvm.MethodName) "WindowHouse") : Cond) ∈ ax_NW := tw_n (tw_c5 (List.mem_of_getElem? (i := 65) rfl)) rfl
theorem lk_X2_45 : ((Jvm.Cond.methodLinkNest "WindowHouse$Beside" (45 : Nat) ({ cls := "WindowHouse$Meetings", name := "meet", desc := "(JJII)I" } : Jvm.MethodName) "WindowHouse") : Cond) ∈ ax_NW := tw_n (tw_c5 (List.mem_of_getElem? (i := 66) rfl)) rfl
theorem lk_X2_49 : ((Jvm.Cond.methodLink "WindowHouse$Beside" (49 : Nat) ({ cls := "WindowHouse$Beside", name := "lookAt", desc := "(I)V" } : Jvm.MethodName)) : Cond) ∈ ax_G := tw_g (tw_c5 (List.mem_of_getElem? (i := 67) rfl)) rfl
theorem lk_X2_53 : ((Jvm.Cond.fieldLinkNest "WindowHouse$Beside" (53 : Nat) "WindowHouse$Meetings" "many" "I" "WindowHouse") : Cond) ∈ ax_NW := tw_n (tw_c2 (List.mem_of_getElem? (i := 33) rfl)) rfl
theorem fl_X2_53 : ax_FL RX2 53 5 0 0 false true := ⟨RX6, TX6, 7, tyX6, fc_X6, by decide, Or.inr ⟨rfl, _, lk_X2_53⟩, rfl, Or.inl ⟨rfl, rfl⟩, rfl⟩
theorem lk_X2_56 : ((Jvm.Cond.methodLink "WindowHouse$Beside" (56 : Nat) ({ cls := "WindowHouse$Beside", name := "ended", desc := "()Z" } : Jvm.MethodName)) : Cond) ∈ ax_G := tw_g (tw_c5 (List.mem_of_getElem? (i := 87) rfl)) rfl
theorem lk_X2_60 : ((Jvm.Cond.methodLink "WindowHouse$Beside" (60 : Nat) ({ cls := "WindowHouse$Beside", name := "goByFirst", desc := "(II)V" } : Jvm.MethodName)) : Cond) ∈ ax_G := tw_g (tw_c5 (List.mem_of_getElem? (i := 91) rfl)) rfl
theorem lk_X2_64 : ((Jvm.Cond.methodLink "WindowHouse$Beside" (64 : Nat) ({ cls := "WindowHouse$Beside", name := "findAloneInSecond", desc := "(I)V" } : Jvm.MethodName)) : Cond) ∈ ax_G := tw_g (tw_c5 (List.mem_of_getElem? (i := 100) rfl)) rfl
theorem lk_X2_67 : ((Jvm.Cond.fieldLinkNest "WindowHouse$Beside" (67 : Nat) "WindowHouse$Meetings" "left" "[J" "WindowHouse") : Cond) ∈ ax_NW := tw_n (tw_c2 (List.mem_of_getElem? (i := 37) rfl)) rfl
theorem fl_X2_67 : ax_FL RX2 67 5 1 2 true true := ⟨RX6, TX6, 7, tyX6, fc_X6, by decide, Or.inr ⟨rfl, _, lk_X2_67⟩, rfl, Or.inr (Or.inr (Or.inr ⟨rfl, Or.inr ⟨_, rfl⟩⟩)), rfl⟩
theorem lk_X2_71 : ((Jvm.Cond.fieldLinkNest "WindowHouse$Beside" (71 : Nat) "WindowHouse$Meetings" "right" "[J" "WindowHouse") : Cond) ∈ ax_NW := tw_n (tw_c2 (List.mem_of_getElem? (i := 41) rfl)) rfl
theorem fl_X2_71 : ax_FL RX2 71 5 2 2 true true := ⟨RX6, TX6, 7, tyX6, fc_X6, by decide, Or.inr ⟨rfl, _, lk_X2_71⟩, rfl, Or.inr (Or.inr (Or.inr ⟨rfl, Or.inr ⟨_, rfl⟩⟩)), rfl⟩
theorem lk_X2_74 : ((Jvm.Cond.methodLinkNest "WindowHouse$Beside" (74 : Nat) ({ cls := "WindowHouse$App", name := "possible", desc := "(JI)Z" } : Jvm.MethodName) "WindowHouse") : Cond) ∈ ax_NW := tw_n (tw_c5 (List.mem_of_getElem? (i := 95) rfl)) rfl
theorem lk_X2_78 : ((Jvm.Cond.methodLink "WindowHouse$Beside" (78 : Nat) ({ cls := "WindowHouse$Beside", name := "twin", desc := "(LWindowHouse$App;ILWindowHouse$App;J)I" } : Jvm.MethodName)) : Cond) ∈ ax_G := tw_g (tw_c5 (List.mem_of_getElem? (i := 96) rfl)) rfl
theorem lk_X2_82 : ((Jvm.Cond.methodLinkNest "WindowHouse$Beside" (82 : Nat) ({ cls := "WindowHouse$App", name := "after", desc := "(JI)J" } : Jvm.MethodName) "WindowHouse") : Cond) ∈ ax_NW := tw_n (tw_c5 (List.mem_of_getElem? (i := 99) rfl)) rfl
theorem lk_X2_86 : ((Jvm.Cond.methodLink "WindowHouse$Beside" (86 : Nat) ({ cls := "WindowHouse$Beside", name := "showUnlike", desc := "(JJ)Z" } : Jvm.MethodName)) : Cond) ∈ ax_G := tw_g (tw_c5 (List.mem_of_getElem? (i := 71) rfl)) rfl
theorem lk_X2_90 : ((Jvm.Cond.methodLinkNest "WindowHouse$Beside" (90 : Nat) ({ cls := "WindowHouse$Bits", name := "topOf", desc := "(J)I" } : Jvm.MethodName) "WindowHouse") : Cond) ∈ ax_NW := tw_n (tw_c5 (List.mem_of_getElem? (i := 75) rfl)) rfl
theorem lk_X2_96 : ((Jvm.Cond.fieldLinkNest "WindowHouse$Beside" (96 : Nat) "WindowHouse$App" "buttonNames" "[J" "WindowHouse") : Cond) ∈ ax_NW := tw_n (tw_c1 (List.mem_of_getElem? (i := 111) rfl)) rfl
theorem fl_X2_96 : ax_FL RX2 96 0 9 2 true true := ⟨RX0, TX0, 19, tyX0, fc_X0, by decide, Or.inr ⟨rfl, _, lk_X2_96⟩, rfl, Or.inr (Or.inr (Or.inr ⟨rfl, Or.inr ⟨_, rfl⟩⟩)), rfl⟩
theorem lk_X2_99 : ((Jvm.Cond.methodLinkNest "WindowHouse$Beside" (99 : Nat) ({ cls := "WindowHouse$App", name := "buttonNamed", desc := "(IJ)I" } : Jvm.MethodName) "WindowHouse") : Cond) ∈ ax_NW := tw_n (tw_c5 (List.mem_of_getElem? (i := 86) rfl)) rfl
theorem lk_X2_103 : ((Jvm.Cond.methodLinkNest "WindowHouse$Beside" (103 : Nat) ({ cls := "WindowHouse$Bits", name := "faultOf", desc := "(J)I" } : Jvm.MethodName) "WindowHouse") : Cond) ∈ ax_NW := tw_n (tw_c5 (List.mem_of_getElem? (i := 76) rfl)) rfl
theorem lk_X2_106 : ((Jvm.Cond.fieldLinkNest "WindowHouse$Beside" (106 : Nat) "WindowHouse$App" "windowNames" "[J" "WindowHouse") : Cond) ∈ ax_NW := tw_n (tw_c1 (List.mem_of_getElem? (i := 109) rfl)) rfl
theorem fl_X2_106 : ax_FL RX2 106 0 8 2 true true := ⟨RX0, TX0, 19, tyX0, fc_X0, by decide, Or.inr ⟨rfl, _, lk_X2_106⟩, rfl, Or.inr (Or.inr (Or.inr ⟨rfl, Or.inr ⟨_, rfl⟩⟩)), rfl⟩
theorem lk_X2_109 : ((Jvm.Cond.methodLink "WindowHouse$Beside" (109 : Nat) ({ cls := "WindowHouse$Beside", name := "numbersUnlike", desc := "(JIJI)Z" } : Jvm.MethodName)) : Cond) ∈ ax_G := tw_g (tw_c5 (List.mem_of_getElem? (i := 77) rfl)) rfl
theorem lk_X2_113 : ((Jvm.Cond.methodLink "WindowHouse$Beside" (113 : Nat) ({ cls := "WindowHouse$Beside", name := "oneMorePressed", desc := "(LWindowHouse$App;JLWindowHouse$App;J)Z" } : Jvm.MethodName)) : Cond) ∈ ax_G := tw_g (tw_c5 (List.mem_of_getElem? (i := 82) rfl)) rfl
theorem lk_X2_117 : ((Jvm.Cond.fieldLinkNest "WindowHouse$Beside" (117 : Nat) "WindowHouse$App" "showMany" "[I" "WindowHouse") : Cond) ∈ ax_NW := tw_n (tw_c1 (List.mem_of_getElem? (i := 115) rfl)) rfl
theorem fl_X2_117 : ax_FL RX2 117 0 11 2 true true := ⟨RX0, TX0, 19, tyX0, fc_X0, by decide, Or.inr ⟨rfl, _, lk_X2_117⟩, rfl, Or.inr (Or.inr (Or.inr ⟨rfl, Or.inr ⟨_, rfl⟩⟩)), rfl⟩
theorem lk_X2_121 : ((Jvm.Cond.methodLinkNest "WindowHouse$Beside" (121 : Nat) ({ cls := "WindowHouse$App", name := "shownIn", desc := "(JII)I" } : Jvm.MethodName) "WindowHouse") : Cond) ∈ ax_NW := tw_n (tw_c5 (List.mem_of_getElem? (i := 81) rfl)) rfl
theorem lk_X2_125 : ((Jvm.Cond.fieldLinkNest "WindowHouse$Beside" (125 : Nat) "WindowHouse$App" "firstButton" "[I" "WindowHouse") : Cond) ∈ ax_NW := tw_n (tw_c1 (List.mem_of_getElem? (i := 121) rfl)) rfl
theorem fl_X2_125 : ax_FL RX2 125 0 14 2 true true := ⟨RX0, TX0, 19, tyX0, fc_X0, by decide, Or.inr ⟨rfl, _, lk_X2_125⟩, rfl, Or.inr (Or.inr (Or.inr ⟨rfl, Or.inr ⟨_, rfl⟩⟩)), rfl⟩
theorem lk_X2_128 : ((Jvm.Cond.fieldLinkNest "WindowHouse$Beside" (128 : Nat) "WindowHouse$App" "endButton" "[I" "WindowHouse") : Cond) ∈ ax_NW := tw_n (tw_c1 (List.mem_of_getElem? (i := 124) rfl)) rfl
theorem fl_X2_128 : ax_FL RX2 128 0 15 2 true true := ⟨RX0, TX0, 19, tyX0, fc_X0, by decide, Or.inr ⟨rfl, _, lk_X2_128⟩, rfl, Or.inr (Or.inr (Or.inr ⟨rfl, Or.inr ⟨_, rfl⟩⟩)), rfl⟩
theorem lk_X2_131 : ((Jvm.Cond.fieldLinkNest "WindowHouse$Beside" (131 : Nat) "WindowHouse$App" "conds" "LWindowHouse$Conds;" "WindowHouse") : Cond) ∈ ax_NW := tw_n (tw_c1 (List.mem_of_getElem? (i := 130) rfl)) rfl
theorem fl_X2_131 : ax_FL RX2 131 0 17 2 true true := ⟨RX0, TX0, 19, tyX0, fc_X0, by decide, Or.inr ⟨rfl, _, lk_X2_131⟩, rfl, Or.inr (Or.inr (Or.inr ⟨rfl, Or.inl ⟨_, rfl⟩⟩)), rfl⟩
theorem lk_X2_135 : ((Jvm.Cond.methodLinkNest "WindowHouse$Beside" (135 : Nat) ({ cls := "WindowHouse$Conds", name := "hold", desc := "(IJ)Z" } : Jvm.MethodName) "WindowHouse") : Cond) ∈ ax_NW := tw_n (tw_c5 (List.mem_of_getElem? (i := 85) rfl)) rfl
theorem lk_X2_141 : ((Jvm.Cond.methodLinkNest "WindowHouse$Beside" (141 : Nat) ({ cls := "WindowHouse$Meetings", name := "traced", desc := "(I[I)I" } : Jvm.MethodName) "WindowHouse") : Cond) ∈ ax_NW := tw_n (tw_c5 (List.mem_of_getElem? (i := 108) rfl)) rfl
theorem lk_X3_11 : ((Jvm.Cond.constantLong "WindowHouse$Bits" (11 : Nat) (16777215 : Int64)) : Cond) ∈ ax_G := tw_g (tw_c3 (List.mem_of_getElem? (i := 210) rfl)) rfl
theorem lk_X3_13 : ((Jvm.Cond.methodLink "WindowHouse$Bits" (13 : Nat) ({ cls := "WindowHouse$Bits", name := "packed", desc := "(JIJ)J" } : Jvm.MethodName)) : Cond) ∈ ax_G := tw_g (tw_c3 (List.mem_of_getElem? (i := 207) rfl)) rfl
theorem lk_X3_17 : ((Jvm.Cond.methodLink "WindowHouse$Bits" (17 : Nat) ({ cls := "WindowHouse$Bits", name := "openOf", desc := "(J)I" } : Jvm.MethodName)) : Cond) ∈ ax_G := tw_g (tw_c4 (List.mem_of_getElem? (i := 11) rfl)) rfl
theorem lk_X3_21 : ((Jvm.Cond.constantLong "WindowHouse$Bits" (21 : Nat) (15 : Int64)) : Cond) ∈ ax_G := tw_g (tw_c3 (List.mem_of_getElem? (i := 90) rfl)) rfl
theorem lk_X3_23 : ((Jvm.Cond.constantLong "WindowHouse$Bits" (23 : Nat) (-1 : Int64)) : Cond) ∈ ax_G := tw_g (tw_c3 (List.mem_of_getElem? (i := 91) rfl)) rfl
theorem lk_X3_25 : ((Jvm.Cond.constantLong "WindowHouse$Bits" (25 : Nat) (-2013265921 : Int64)) : Cond) ∈ ax_G := tw_g (tw_c4 (List.mem_of_getElem? (i := 50) rfl)) rfl
theorem lk_X4_3 : ((Jvm.Cond.methodLink "WindowHouse$Conds" (3 : Nat) ({ cls := "java/lang/Object", name := "<init>", desc := "()V" } : Jvm.MethodName)) : Cond) ∈ ax_G := tw_g (tw_c1 (List.mem_of_getElem? (i := 45) rfl)) rfl
theorem lk_X4_9 : ((Jvm.Cond.fieldLink "WindowHouse$Conds" (9 : Nat) "WindowHouse$Conds" "many" "[I") : Cond) ∈ ax_G := tw_g (tw_c1 (List.mem_of_getElem? (i := 46) rfl)) rfl
theorem fl_X4_9 : ax_FL RX4 9 3 0 2 true false := ⟨RX4, TX4, 4, tyX4, fc_X4, by decide, Or.inl ⟨rfl, lk_X4_9, fun _ => rfl⟩, rfl, Or.inr (Or.inr (Or.inr ⟨rfl, Or.inr ⟨_, rfl⟩⟩)), rfl⟩
theorem lk_X4_15 : ((Jvm.Cond.fieldLink "WindowHouse$Conds" (15 : Nat) "WindowHouse$Conds" "of" "[I") : Cond) ∈ ax_G := tw_g (tw_c1 (List.mem_of_getElem? (i := 50) rfl)) rfl
theorem fl_X4_15 : ax_FL RX4 15 3 1 2 true false := ⟨RX4, TX4, 4, tyX4, fc_X4, by decide, Or.inl ⟨rfl, lk_X4_15, fun _ => rfl⟩, rfl, Or.inr (Or.inr (Or.inr ⟨rfl, Or.inr ⟨_, rfl⟩⟩)), rfl⟩
theorem lk_X4_18 : ((Jvm.Cond.fieldLink "WindowHouse$Conds" (18 : Nat) "WindowHouse$Conds" "least" "[I") : Cond) ∈ ax_G := tw_g (tw_c1 (List.mem_of_getElem? (i := 51) rfl)) rfl
theorem fl_X4_18 : ax_FL RX4 18 3 2 2 true false := ⟨RX4, TX4, 4, tyX4, fc_X4, by decide, Or.inl ⟨rfl, lk_X4_18, fun _ => rfl⟩, rfl, Or.inr (Or.inr (Or.inr ⟨rfl, Or.inr ⟨_, rfl⟩⟩)), rfl⟩
theorem lk_X4_21 : ((Jvm.Cond.fieldLink "WindowHouse$Conds" (21 : Nat) "WindowHouse$Conds" "most" "[I") : Cond) ∈ ax_G := tw_g (tw_c1 (List.mem_of_getElem? (i := 52) rfl)) rfl
theorem fl_X4_21 : ax_FL RX4 21 3 3 2 true false := ⟨RX4, TX4, 4, tyX4, fc_X4, by decide, Or.inl ⟨rfl, lk_X4_21, fun _ => rfl⟩, rfl, Or.inr (Or.inr (Or.inr ⟨rfl, Or.inr ⟨_, rfl⟩⟩)), rfl⟩
theorem lk_X4_24 : ((Jvm.Cond.methodLinkNest "WindowHouse$Conds" (24 : Nat) ({ cls := "WindowHouse$Bits", name := "valueOf", desc := "(JI)I" } : Jvm.MethodName) "WindowHouse") : Cond) ∈ ax_NW := tw_n (tw_c4 (List.mem_of_getElem? (i := 19) rfl)) rfl
theorem lk_X5_5 : ((Jvm.Cond.methodLink "WindowHouse$Deeds" (5 : Nat) ({ cls := "java/lang/Object", name := "<init>", desc := "()V" } : Jvm.MethodName)) : Cond) ∈ ax_G := tw_g (tw_c1 (List.mem_of_getElem? (i := 69) rfl)) rfl
theorem lk_X5_11 : ((Jvm.Cond.fieldLink "WindowHouse$Deeds" (11 : Nat) "WindowHouse$Deeds" "many" "[I") : Cond) ∈ ax_G := tw_g (tw_c1 (List.mem_of_getElem? (i := 70) rfl)) rfl
theorem fl_X5_11 : ax_FL RX5 11 4 0 2 true false := ⟨RX5, TX5, 4, tyX5, fc_X5, by decide, Or.inl ⟨rfl, lk_X5_11, fun _ => rfl⟩, rfl, Or.inr (Or.inr (Or.inr ⟨rfl, Or.inr ⟨_, rfl⟩⟩)), rfl⟩
theorem lk_X5_15 : ((Jvm.Cond.fieldLink "WindowHouse$Deeds" (15 : Nat) "WindowHouse$Deeds" "kind" "[I") : Cond) ∈ ax_G := tw_g (tw_c1 (List.mem_of_getElem? (i := 74) rfl)) rfl
theorem fl_X5_15 : ax_FL RX5 15 4 1 2 true false := ⟨RX5, TX5, 4, tyX5, fc_X5, by decide, Or.inl ⟨rfl, lk_X5_15, fun _ => rfl⟩, rfl, Or.inr (Or.inr (Or.inr ⟨rfl, Or.inr ⟨_, rfl⟩⟩)), rfl⟩
theorem lk_X5_18 : ((Jvm.Cond.fieldLink "WindowHouse$Deeds" (18 : Nat) "WindowHouse$Deeds" "on" "[I") : Cond) ∈ ax_G := tw_g (tw_c1 (List.mem_of_getElem? (i := 76) rfl)) rfl
theorem fl_X5_18 : ax_FL RX5 18 4 2 2 true false := ⟨RX5, TX5, 4, tyX5, fc_X5, by decide, Or.inl ⟨rfl, lk_X5_18, fun _ => rfl⟩, rfl, Or.inr (Or.inr (Or.inr ⟨rfl, Or.inr ⟨_, rfl⟩⟩)), rfl⟩
theorem lk_X5_21 : ((Jvm.Cond.fieldLink "WindowHouse$Deeds" (21 : Nat) "WindowHouse$Deeds" "number" "[I") : Cond) ∈ ax_G := tw_g (tw_c1 (List.mem_of_getElem? (i := 79) rfl)) rfl
theorem fl_X5_21 : ax_FL RX5 21 4 3 2 true false := ⟨RX5, TX5, 4, tyX5, fc_X5, by decide, Or.inl ⟨rfl, lk_X5_21, fun _ => rfl⟩, rfl, Or.inr (Or.inr (Or.inr ⟨rfl, Or.inr ⟨_, rfl⟩⟩)), rfl⟩
theorem lk_X6_3 : ((Jvm.Cond.methodLink "WindowHouse$Meetings" (3 : Nat) ({ cls := "java/lang/Object", name := "<init>", desc := "()V" } : Jvm.MethodName)) : Cond) ∈ ax_G := tw_g (tw_c2 (List.mem_of_getElem? (i := 31) rfl)) rfl
theorem lk_X6_9 : ((Jvm.Cond.fieldLink "WindowHouse$Meetings" (9 : Nat) "WindowHouse$Meetings" "many" "I") : Cond) ∈ ax_G := tw_g (tw_c2 (List.mem_of_getElem? (i := 32) rfl)) rfl
theorem fl_X6_9 : ax_FL RX6 9 5 0 0 false false := ⟨RX6, TX6, 7, tyX6, fc_X6, by decide, Or.inl ⟨rfl, lk_X6_9, fun _ => rfl⟩, rfl, Or.inl ⟨rfl, rfl⟩, rfl⟩
theorem lk_X6_15 : ((Jvm.Cond.fieldLink "WindowHouse$Meetings" (15 : Nat) "WindowHouse$Meetings" "left" "[J") : Cond) ∈ ax_G := tw_g (tw_c2 (List.mem_of_getElem? (i := 36) rfl)) rfl
theorem fl_X6_15 : ax_FL RX6 15 5 1 2 true false := ⟨RX6, TX6, 7, tyX6, fc_X6, by decide, Or.inl ⟨rfl, lk_X6_15, fun _ => rfl⟩, rfl, Or.inr (Or.inr (Or.inr ⟨rfl, Or.inr ⟨_, rfl⟩⟩)), rfl⟩
theorem lk_X6_19 : ((Jvm.Cond.fieldLink "WindowHouse$Meetings" (19 : Nat) "WindowHouse$Meetings" "right" "[J") : Cond) ∈ ax_G := tw_g (tw_c2 (List.mem_of_getElem? (i := 40) rfl)) rfl
theorem fl_X6_19 : ax_FL RX6 19 5 2 2 true false := ⟨RX6, TX6, 7, tyX6, fc_X6, by decide, Or.inl ⟨rfl, lk_X6_19, fun _ => rfl⟩, rfl, Or.inr (Or.inr (Or.inr ⟨rfl, Or.inr ⟨_, rfl⟩⟩)), rfl⟩
theorem lk_X6_22 : ((Jvm.Cond.fieldLink "WindowHouse$Meetings" (22 : Nat) "WindowHouse$Meetings" "from" "[I") : Cond) ∈ ax_G := tw_g (tw_c2 (List.mem_of_getElem? (i := 42) rfl)) rfl
theorem fl_X6_22 : ax_FL RX6 22 5 3 2 true false := ⟨RX6, TX6, 7, tyX6, fc_X6, by decide, Or.inl ⟨rfl, lk_X6_22, fun _ => rfl⟩, rfl, Or.inr (Or.inr (Or.inr ⟨rfl, Or.inr ⟨_, rfl⟩⟩)), rfl⟩
theorem lk_X6_26 : ((Jvm.Cond.fieldLink "WindowHouse$Meetings" (26 : Nat) "WindowHouse$Meetings" "by" "[I") : Cond) ∈ ax_G := tw_g (tw_c2 (List.mem_of_getElem? (i := 43) rfl)) rfl
theorem fl_X6_26 : ax_FL RX6 26 5 4 2 true false := ⟨RX6, TX6, 7, tyX6, fc_X6, by decide, Or.inl ⟨rfl, lk_X6_26, fun _ => rfl⟩, rfl, Or.inr (Or.inr (Or.inr ⟨rfl, Or.inr ⟨_, rfl⟩⟩)), rfl⟩
theorem lk_X6_29 : ((Jvm.Cond.fieldLink "WindowHouse$Meetings" (29 : Nat) "WindowHouse$Meetings" "deep" "[I") : Cond) ∈ ax_G := tw_g (tw_c2 (List.mem_of_getElem? (i := 44) rfl)) rfl
theorem fl_X6_29 : ax_FL RX6 29 5 5 2 true false := ⟨RX6, TX6, 7, tyX6, fc_X6, by decide, Or.inl ⟨rfl, lk_X6_29, fun _ => rfl⟩, rfl, Or.inr (Or.inr (Or.inr ⟨rfl, Or.inr ⟨_, rfl⟩⟩)), rfl⟩
theorem lk_X6_32 : ((Jvm.Cond.fieldLink "WindowHouse$Meetings" (32 : Nat) "WindowHouse$Meetings" "slots" "[I") : Cond) ∈ ax_G := tw_g (tw_c2 (List.mem_of_getElem? (i := 47) rfl)) rfl
theorem fl_X6_32 : ax_FL RX6 32 5 6 2 true false := ⟨RX6, TX6, 7, tyX6, fc_X6, by decide, Or.inl ⟨rfl, lk_X6_32, fun _ => rfl⟩, rfl, Or.inr (Or.inr (Or.inr ⟨rfl, Or.inr ⟨_, rfl⟩⟩)), rfl⟩
theorem lk_X6_35 : ((Jvm.Cond.methodLink "WindowHouse$Meetings" (35 : Nat) ({ cls := "java/util/Arrays", name := "fill", desc := "([II)V" } : Jvm.MethodName)) : Cond) ∈ ax_G := tw_g (tw_c4 (List.mem_of_getElem? (i := 92) rfl)) rfl
theorem lk_X6_41 : ((Jvm.Cond.constantLong "WindowHouse$Meetings" (41 : Nat) (-7046029254386353131 : Int64)) : Cond) ∈ ax_G := tw_g (tw_c4 (List.mem_of_getElem? (i := 100) rfl)) rfl
theorem lk_X6_43 : ((Jvm.Cond.constantLong "WindowHouse$Meetings" (43 : Nat) (-4417276706812531889 : Int64)) : Cond) ∈ ax_G := tw_g (tw_c4 (List.mem_of_getElem? (i := 101) rfl)) rfl
theorem lk_X6_45 : ((Jvm.Cond.methodLink "WindowHouse$Meetings" (45 : Nat) ({ cls := "WindowHouse$Meetings", name := "keep", desc := "(IJJII)I" } : Jvm.MethodName)) : Cond) ∈ ax_G := tw_g (tw_c4 (List.mem_of_getElem? (i := 102) rfl)) rfl
theorem lk_X7_3 : ((Jvm.Cond.methodLink "WindowHouse$Reader" (3 : Nat) ({ cls := "java/lang/Object", name := "<init>", desc := "()V" } : Jvm.MethodName)) : Cond) ∈ ax_G := tw_g (tw_c1 (List.mem_of_getElem? (i := 179) rfl)) rfl
theorem lk_X7_9 : ((Jvm.Cond.classLink "WindowHouse$Reader" (9 : Nat) "WindowHouse$Scanner") : Cond) ∈ ax_G := tw_g (tw_c1 (List.mem_of_getElem? (i := 180) rfl)) rfl
theorem lk_X7_11 : ((Jvm.Cond.methodLinkNest "WindowHouse$Reader" (11 : Nat) ({ cls := "WindowHouse$Scanner", name := "<init>", desc := "()V" } : Jvm.MethodName) "WindowHouse") : Cond) ∈ ax_NW := tw_n (tw_c1 (List.mem_of_getElem? (i := 182) rfl)) rfl
theorem lk_X7_12 : ((Jvm.Cond.fieldLink "WindowHouse$Reader" (12 : Nat) "WindowHouse$Reader" "token" "LWindowHouse$Scanner;") : Cond) ∈ ax_G := tw_g (tw_c1 (List.mem_of_getElem? (i := 212) rfl)) rfl
theorem fl_X7_12 : ax_FL RX7 12 6 0 2 true false := ⟨RX7, TX7, 15, tyX7, fc_X7, by decide, Or.inl ⟨rfl, lk_X7_12, fun _ => rfl⟩, rfl, Or.inr (Or.inr (Or.inr ⟨rfl, Or.inl ⟨_, rfl⟩⟩)), rfl⟩
theorem lk_X7_18 : ((Jvm.Cond.fieldLink "WindowHouse$Reader" (18 : Nat) "WindowHouse$Reader" "awaited" "I") : Cond) ∈ ax_G := tw_g (tw_c1 (List.mem_of_getElem? (i := 214) rfl)) rfl
theorem fl_X7_18 : ax_FL RX7 18 6 2 0 false false := ⟨RX7, TX7, 15, tyX7, fc_X7, by decide, Or.inl ⟨rfl, lk_X7_18, fun _ => rfl⟩, rfl, Or.inl ⟨rfl, rfl⟩, rfl⟩
theorem lk_X7_22 : ((Jvm.Cond.fieldLink "WindowHouse$Reader" (22 : Nat) "WindowHouse$Reader" "fault" "I") : Cond) ∈ ax_G := tw_g (tw_c1 (List.mem_of_getElem? (i := 215) rfl)) rfl
theorem fl_X7_22 : ax_FL RX7 22 6 3 0 false false := ⟨RX7, TX7, 15, tyX7, fc_X7, by decide, Or.inl ⟨rfl, lk_X7_22, fun _ => rfl⟩, rfl, Or.inl ⟨rfl, rfl⟩, rfl⟩
theorem lk_X7_25 : ((Jvm.Cond.fieldLink "WindowHouse$Reader" (25 : Nat) "WindowHouse$Reader" "faultPlace" "I") : Cond) ∈ ax_G := tw_g (tw_c1 (List.mem_of_getElem? (i := 217) rfl)) rfl
theorem fl_X7_25 : ax_FL RX7 25 6 4 0 false false := ⟨RX7, TX7, 15, tyX7, fc_X7, by decide, Or.inl ⟨rfl, lk_X7_25, fun _ => rfl⟩, rfl, Or.inl ⟨rfl, rfl⟩, rfl⟩
theorem lk_X7_28 : ((Jvm.Cond.fieldLink "WindowHouse$Reader" (28 : Nat) "WindowHouse$Reader" "name" "J") : Cond) ∈ ax_G := tw_g (tw_c1 (List.mem_of_getElem? (i := 219) rfl)) rfl
theorem fl_X7_28 : ax_FL RX7 28 6 5 1 false false := ⟨RX7, TX7, 15, tyX7, fc_X7, by decide, Or.inl ⟨rfl, lk_X7_28, fun _ => rfl⟩, rfl, Or.inr (Or.inl ⟨rfl, rfl⟩), rfl⟩
theorem lk_X7_32 : ((Jvm.Cond.fieldLink "WindowHouse$Reader" (32 : Nat) "WindowHouse$Reader" "kept" "Z") : Cond) ∈ ax_G := tw_g (tw_c1 (List.mem_of_getElem? (i := 220) rfl)) rfl
theorem fl_X7_32 : ax_FL RX7 32 6 6 3 false false := ⟨RX7, TX7, 15, tyX7, fc_X7, by decide, Or.inl ⟨rfl, lk_X7_32, fun _ => rfl⟩, rfl, Or.inr (Or.inr (Or.inl ⟨rfl, rfl⟩)), rfl⟩
theorem lk_X7_36 : ((Jvm.Cond.fieldLink "WindowHouse$Reader" (36 : Nat) "WindowHouse$Reader" "v" "I") : Cond) ∈ ax_G := tw_g (tw_c1 (List.mem_of_getElem? (i := 221) rfl)) rfl
theorem fl_X7_36 : ax_FL RX7 36 6 7 0 false false := ⟨RX7, TX7, 15, tyX7, fc_X7, by decide, Or.inl ⟨rfl, lk_X7_36, fun _ => rfl⟩, rfl, Or.inl ⟨rfl, rfl⟩, rfl⟩
theorem lk_X7_39 : ((Jvm.Cond.fieldLink "WindowHouse$Reader" (39 : Nat) "WindowHouse$Reader" "sign" "I") : Cond) ∈ ax_G := tw_g (tw_c1 (List.mem_of_getElem? (i := 222) rfl)) rfl
theorem fl_X7_39 : ax_FL RX7 39 6 8 0 false false := ⟨RX7, TX7, 15, tyX7, fc_X7, by decide, Or.inl ⟨rfl, lk_X7_39, fun _ => rfl⟩, rfl, Or.inl ⟨rfl, rfl⟩, rfl⟩
theorem lk_X7_42 : ((Jvm.Cond.fieldLink "WindowHouse$Reader" (42 : Nat) "WindowHouse$Reader" "deed" "I") : Cond) ∈ ax_G := tw_g (tw_c1 (List.mem_of_getElem? (i := 223) rfl)) rfl
theorem fl_X7_42 : ax_FL RX7 42 6 9 0 false false := ⟨RX7, TX7, 15, tyX7, fc_X7, by decide, Or.inl ⟨rfl, lk_X7_42, fun _ => rfl⟩, rfl, Or.inl ⟨rfl, rfl⟩, rfl⟩
theorem lk_X7_45 : ((Jvm.Cond.fieldLink "WindowHouse$Reader" (45 : Nat) "WindowHouse$Reader" "list" "I") : Cond) ∈ ax_G := tw_g (tw_c1 (List.mem_of_getElem? (i := 224) rfl)) rfl
theorem fl_X7_45 : ax_FL RX7 45 6 10 0 false false := ⟨RX7, TX7, 15, tyX7, fc_X7, by decide, Or.inl ⟨rfl, lk_X7_45, fun _ => rfl⟩, rfl, Or.inl ⟨rfl, rfl⟩, rfl⟩
theorem lk_X7_48 : ((Jvm.Cond.fieldLink "WindowHouse$Reader" (48 : Nat) "WindowHouse$Reader" "opens" "I") : Cond) ∈ ax_G := tw_g (tw_c1 (List.mem_of_getElem? (i := 225) rfl)) rfl
theorem fl_X7_48 : ax_FL RX7 48 6 11 0 false false := ⟨RX7, TX7, 15, tyX7, fc_X7, by decide, Or.inl ⟨rfl, lk_X7_48, fun _ => rfl⟩, rfl, Or.inl ⟨rfl, rfl⟩, rfl⟩
theorem lk_X7_53 : ((Jvm.Cond.fieldLink "WindowHouse$Reader" (53 : Nat) "WindowHouse$Reader" "openDeed" "[I") : Cond) ∈ ax_G := tw_g (tw_c1 (List.mem_of_getElem? (i := 226) rfl)) rfl
theorem fl_X7_53 : ax_FL RX7 53 6 12 2 true false := ⟨RX7, TX7, 15, tyX7, fc_X7, by decide, Or.inl ⟨rfl, lk_X7_53, fun _ => rfl⟩, rfl, Or.inr (Or.inr (Or.inr ⟨rfl, Or.inr ⟨_, rfl⟩⟩)), rfl⟩
theorem lk_X7_57 : ((Jvm.Cond.fieldLink "WindowHouse$Reader" (57 : Nat) "WindowHouse$Reader" "openName" "[J") : Cond) ∈ ax_G := tw_g (tw_c1 (List.mem_of_getElem? (i := 227) rfl)) rfl
theorem fl_X7_57 : ax_FL RX7 57 6 13 2 true false := ⟨RX7, TX7, 15, tyX7, fc_X7, by decide, Or.inl ⟨rfl, lk_X7_57, fun _ => rfl⟩, rfl, Or.inr (Or.inr (Or.inr ⟨rfl, Or.inr ⟨_, rfl⟩⟩)), rfl⟩
theorem lk_X7_61 : ((Jvm.Cond.fieldLink "WindowHouse$Reader" (61 : Nat) "WindowHouse$Reader" "openPlace" "[I") : Cond) ∈ ax_G := tw_g (tw_c1 (List.mem_of_getElem? (i := 228) rfl)) rfl
theorem fl_X7_61 : ax_FL RX7 61 6 14 2 true false := ⟨RX7, TX7, 15, tyX7, fc_X7, by decide, Or.inl ⟨rfl, lk_X7_61, fun _ => rfl⟩, rfl, Or.inr (Or.inr (Or.inr ⟨rfl, Or.inr ⟨_, rfl⟩⟩)), rfl⟩
theorem lk_X7_64 : ((Jvm.Cond.fieldLink "WindowHouse$Reader" (64 : Nat) "WindowHouse$Reader" "app" "LWindowHouse$App;") : Cond) ∈ ax_G := tw_g (tw_c1 (List.mem_of_getElem? (i := 213) rfl)) rfl
theorem fl_X7_64 : ax_FL RX7 64 6 1 2 false false := ⟨RX7, TX7, 15, tyX7, fc_X7, by decide, Or.inl ⟨rfl, lk_X7_64, fun _ => rfl⟩, rfl, Or.inr (Or.inr (Or.inr ⟨rfl, Or.inl ⟨_, rfl⟩⟩)), rfl⟩
theorem lk_X7_68 : ((Jvm.Cond.methodLinkNest "WindowHouse$Reader" (68 : Nat) ({ cls := "WindowHouse$App", name := "clear", desc := "()V" } : Jvm.MethodName) "WindowHouse") : Cond) ∈ ax_NW := tw_n (tw_c2 (List.mem_of_getElem? (i := 186) rfl)) rfl
theorem lk_X7_73 : ((Jvm.Cond.methodLinkNest "WindowHouse$Reader" (73 : Nat) ({ cls := "WindowHouse$Scanner", name := "start", desc := "([II)V" } : Jvm.MethodName) "WindowHouse") : Cond) ∈ ax_NW := tw_n (tw_c2 (List.mem_of_getElem? (i := 190) rfl)) rfl
theorem lk_X7_77 : ((Jvm.Cond.methodLinkNest "WindowHouse$Reader" (77 : Nat) ({ cls := "WindowHouse$Scanner", name := "goOn", desc := "()V" } : Jvm.MethodName) "WindowHouse") : Cond) ∈ ax_NW := tw_n (tw_c2 (List.mem_of_getElem? (i := 197) rfl)) rfl
theorem lk_X7_80 : ((Jvm.Cond.fieldLinkNest "WindowHouse$Reader" (80 : Nat) "WindowHouse$Scanner" "kind" "I" "WindowHouse") : Cond) ∈ ax_NW := tw_n (tw_c1 (List.mem_of_getElem? (i := 190) rfl)) rfl
theorem fl_X7_80 : ax_FL RX7 80 7 3 0 false true := ⟨RX8, TX8, 7, tyX8, fc_X8, by decide, Or.inr ⟨rfl, _, lk_X7_80⟩, rfl, Or.inl ⟨rfl, rfl⟩, rfl⟩
theorem lk_X7_83 : ((Jvm.Cond.fieldLinkNest "WindowHouse$Reader" (83 : Nat) "WindowHouse$App" "windows" "I" "WindowHouse") : Cond) ∈ ax_NW := tw_n (tw_c1 (List.mem_of_getElem? (i := 91) rfl)) rfl
theorem fl_X7_83 : ax_FL RX7 83 0 0 0 false true := ⟨RX0, TX0, 19, tyX0, fc_X0, by decide, Or.inr ⟨rfl, _, lk_X7_83⟩, rfl, Or.inl ⟨rfl, rfl⟩, rfl⟩
theorem lk_X7_86 : ((Jvm.Cond.methodLink "WindowHouse$Reader" (86 : Nat) ({ cls := "WindowHouse$Reader", name := "findOpened", desc := "()Z" } : Jvm.MethodName)) : Cond) ∈ ax_G := tw_g (tw_c2 (List.mem_of_getElem? (i := 221) rfl)) rfl
theorem lk_X7_90 : ((Jvm.Cond.methodLink "WindowHouse$Reader" (90 : Nat) ({ cls := "WindowHouse$Reader", name := "faulty", desc := "(I)Z" } : Jvm.MethodName)) : Cond) ∈ ax_G := tw_g (tw_c2 (List.mem_of_getElem? (i := 232) rfl)) rfl
theorem lk_X7_94 : ((Jvm.Cond.methodLink "WindowHouse$Reader" (94 : Nat) ({ cls := "WindowHouse$Reader", name := "taken", desc := "()Z" } : Jvm.MethodName)) : Cond) ∈ ax_G := tw_g (tw_c2 (List.mem_of_getElem? (i := 236) rfl)) rfl
theorem lk_X7_97 : ((Jvm.Cond.fieldLinkNest "WindowHouse$Reader" (97 : Nat) "WindowHouse$Scanner" "place" "I" "WindowHouse") : Cond) ∈ ax_NW := tw_n (tw_c1 (List.mem_of_getElem? (i := 192) rfl)) rfl
theorem fl_X7_97 : ax_FL RX7 97 7 4 0 false true := ⟨RX8, TX8, 7, tyX8, fc_X8, by decide, Or.inr ⟨rfl, _, lk_X7_97⟩, rfl, Or.inl ⟨rfl, rfl⟩, rfl⟩
theorem lk_X7_100 : ((Jvm.Cond.methodLink "WindowHouse$Reader" (100 : Nat) ({ cls := "WindowHouse$Reader", name := "takeTop", desc := "()Z" } : Jvm.MethodName)) : Cond) ∈ ax_G := tw_g (tw_c3 (List.mem_of_getElem? (i := 0) rfl)) rfl
theorem lk_X7_103 : ((Jvm.Cond.methodLink "WindowHouse$Reader" (103 : Nat) ({ cls := "WindowHouse$Reader", name := "takeVarName", desc := "()Z" } : Jvm.MethodName)) : Cond) ∈ ax_G := tw_g (tw_c3 (List.mem_of_getElem? (i := 63) rfl)) rfl
theorem lk_X7_106 : ((Jvm.Cond.methodLink "WindowHouse$Reader" (106 : Nat) ({ cls := "WindowHouse$Reader", name := "takeVarMost", desc := "()Z" } : Jvm.MethodName)) : Cond) ∈ ax_G := tw_g (tw_c3 (List.mem_of_getElem? (i := 75) rfl)) rfl
theorem lk_X7_109 : ((Jvm.Cond.methodLink "WindowHouse$Reader" (109 : Nat) ({ cls := "WindowHouse$Reader", name := "takeSign", desc := "(II)Z" } : Jvm.MethodName)) : Cond) ∈ ax_G := tw_g (tw_c3 (List.mem_of_getElem? (i := 92) rfl)) rfl
theorem lk_X7_113 : ((Jvm.Cond.methodLink "WindowHouse$Reader" (113 : Nat) ({ cls := "WindowHouse$Reader", name := "takeWindowName", desc := "()Z" } : Jvm.MethodName)) : Cond) ∈ ax_G := tw_g (tw_c3 (List.mem_of_getElem? (i := 96) rfl)) rfl
theorem lk_X7_116 : ((Jvm.Cond.methodLink "WindowHouse$Reader" (116 : Nat) ({ cls := "WindowHouse$Reader", name := "takePart", desc := "()Z" } : Jvm.MethodName)) : Cond) ∈ ax_G := tw_g (tw_c3 (List.mem_of_getElem? (i := 107) rfl)) rfl
theorem lk_X7_119 : ((Jvm.Cond.methodLink "WindowHouse$Reader" (119 : Nat) ({ cls := "WindowHouse$Reader", name := "takeShowName", desc := "()Z" } : Jvm.MethodName)) : Cond) ∈ ax_G := tw_g (tw_c3 (List.mem_of_getElem? (i := 114) rfl)) rfl
theorem lk_X7_122 : ((Jvm.Cond.methodLink "WindowHouse$Reader" (122 : Nat) ({ cls := "WindowHouse$Reader", name := "takeButtonName", desc := "()Z" } : Jvm.MethodName)) : Cond) ∈ ax_G := tw_g (tw_c3 (List.mem_of_getElem? (i := 126) rfl)) rfl
theorem lk_X7_127 : ((Jvm.Cond.methodLinkNest "WindowHouse$Reader" (127 : Nat) ({ cls := "WindowHouse$Scanner", name := "says", desc := "(Ljava/lang/String;)Z" } : Jvm.MethodName) "WindowHouse") : Cond) ∈ ax_NW := tw_n (tw_c3 (List.mem_of_getElem? (i := 5) rfl)) rfl
theorem lk_X7_131 : ((Jvm.Cond.methodLink "WindowHouse$Reader" (131 : Nat) ({ cls := "WindowHouse$Reader", name := "awaits", desc := "(I)Z" } : Jvm.MethodName)) : Cond) ∈ ax_G := tw_g (tw_c3 (List.mem_of_getElem? (i := 57) rfl)) rfl
theorem lk_X7_134 : ((Jvm.Cond.methodLink "WindowHouse$Reader" (134 : Nat) ({ cls := "WindowHouse$Reader", name := "takeDo", desc := "()Z" } : Jvm.MethodName)) : Cond) ∈ ax_G := tw_g (tw_c3 (List.mem_of_getElem? (i := 139) rfl)) rfl
theorem lk_X7_137 : ((Jvm.Cond.methodLink "WindowHouse$Reader" (137 : Nat) ({ cls := "WindowHouse$Reader", name := "takeCondName", desc := "()Z" } : Jvm.MethodName)) : Cond) ∈ ax_G := tw_g (tw_c3 (List.mem_of_getElem? (i := 144) rfl)) rfl
theorem lk_X7_140 : ((Jvm.Cond.methodLink "WindowHouse$Reader" (140 : Nat) ({ cls := "WindowHouse$Reader", name := "takeCondSign", desc := "()Z" } : Jvm.MethodName)) : Cond) ∈ ax_G := tw_g (tw_c3 (List.mem_of_getElem? (i := 148) rfl)) rfl
theorem lk_X7_143 : ((Jvm.Cond.methodLink "WindowHouse$Reader" (143 : Nat) ({ cls := "WindowHouse$Reader", name := "takeCondNumber", desc := "()Z" } : Jvm.MethodName)) : Cond) ∈ ax_G := tw_g (tw_c3 (List.mem_of_getElem? (i := 153) rfl)) rfl
theorem lk_X7_148 : ((Jvm.Cond.methodLink "WindowHouse$Reader" (148 : Nat) ({ cls := "WindowHouse$Reader", name := "takeTimerTicks", desc := "()Z" } : Jvm.MethodName)) : Cond) ∈ ax_G := tw_g (tw_c3 (List.mem_of_getElem? (i := 162) rfl)) rfl
theorem lk_X7_151 : ((Jvm.Cond.methodLink "WindowHouse$Reader" (151 : Nat) ({ cls := "WindowHouse$Reader", name := "takeDeed", desc := "()Z" } : Jvm.MethodName)) : Cond) ∈ ax_G := tw_g (tw_c3 (List.mem_of_getElem? (i := 171) rfl)) rfl
theorem lk_X7_154 : ((Jvm.Cond.methodLink "WindowHouse$Reader" (154 : Nat) ({ cls := "WindowHouse$Reader", name := "takeDeedWindow", desc := "()Z" } : Jvm.MethodName)) : Cond) ∈ ax_G := tw_g (tw_c3 (List.mem_of_getElem? (i := 188) rfl)) rfl
theorem lk_X7_157 : ((Jvm.Cond.methodLink "WindowHouse$Reader" (157 : Nat) ({ cls := "WindowHouse$Reader", name := "takeDeedVar", desc := "()Z" } : Jvm.MethodName)) : Cond) ∈ ax_G := tw_g (tw_c3 (List.mem_of_getElem? (i := 192) rfl)) rfl
theorem lk_X7_160 : ((Jvm.Cond.methodLink "WindowHouse$Reader" (160 : Nat) ({ cls := "WindowHouse$Reader", name := "takeDeedNumber", desc := "()Z" } : Jvm.MethodName)) : Cond) ∈ ax_G := tw_g (tw_c3 (List.mem_of_getElem? (i := 196) rfl)) rfl
theorem lk_X7_165 : ((Jvm.Cond.fieldLinkNest "WindowHouse$Reader" (165 : Nat) "WindowHouse$Scanner" "number" "I" "WindowHouse") : Cond) ∈ ax_NW := tw_n (tw_c1 (List.mem_of_getElem? (i := 196) rfl)) rfl
theorem fl_X7_165 : ax_FL RX7 165 7 6 0 false true := ⟨RX8, TX8, 7, tyX8, fc_X8, by decide, Or.inr ⟨rfl, _, lk_X7_165⟩, rfl, Or.inl ⟨rfl, rfl⟩, rfl⟩
theorem lk_X7_168 : ((Jvm.Cond.fieldLinkNest "WindowHouse$Reader" (168 : Nat) "WindowHouse$Scanner" "word" "J" "WindowHouse") : Cond) ∈ ax_NW := tw_n (tw_c1 (List.mem_of_getElem? (i := 194) rfl)) rfl
theorem fl_X7_168 : ax_FL RX7 168 7 5 1 false true := ⟨RX8, TX8, 7, tyX8, fc_X8, by decide, Or.inr ⟨rfl, _, lk_X7_168⟩, rfl, Or.inr (Or.inl ⟨rfl, rfl⟩), rfl⟩
theorem lk_X7_171 : ((Jvm.Cond.methodLinkNest "WindowHouse$Reader" (171 : Nat) ({ cls := "WindowHouse$App", name := "varNamed", desc := "(J)I" } : Jvm.MethodName) "WindowHouse") : Cond) ∈ ax_NW := tw_n (tw_c3 (List.mem_of_getElem? (i := 67) rfl)) rfl
theorem lk_X7_180 : ((Jvm.Cond.fieldLinkNest "WindowHouse$Reader" (180 : Nat) "WindowHouse$App" "vars" "I" "WindowHouse") : Cond) ∈ ax_NW := tw_n (tw_c1 (List.mem_of_getElem? (i := 99) rfl)) rfl
theorem fl_X7_180 : ax_FL RX7 180 0 2 0 false true := ⟨RX0, TX0, 19, tyX0, fc_X0, by decide, Or.inr ⟨rfl, _, lk_X7_180⟩, rfl, Or.inl ⟨rfl, rfl⟩, rfl⟩
theorem lk_X7_183 : ((Jvm.Cond.methodLink "WindowHouse$Reader" (183 : Nat) ({ cls := "WindowHouse$Reader", name := "isNewName", desc := "(I)Z" } : Jvm.MethodName)) : Cond) ∈ ax_G := tw_g (tw_c3 (List.mem_of_getElem? (i := 71) rfl)) rfl
theorem lk_X7_186 : ((Jvm.Cond.methodLink "WindowHouse$Reader" (186 : Nat) ({ cls := "WindowHouse$Reader", name := "isNumber", desc := "(II)Z" } : Jvm.MethodName)) : Cond) ∈ ax_G := tw_g (tw_c3 (List.mem_of_getElem? (i := 79) rfl)) rfl
theorem lk_X7_189 : ((Jvm.Cond.methodLinkNest "WindowHouse$Reader" (189 : Nat) ({ cls := "WindowHouse$App", name := "addVar", desc := "(JIZ)V" } : Jvm.MethodName) "WindowHouse") : Cond) ∈ ax_NW := tw_n (tw_c3 (List.mem_of_getElem? (i := 83) rfl)) rfl
theorem lk_X7_193 : ((Jvm.Cond.methodLinkNest "WindowHouse$Reader" (193 : Nat) ({ cls := "WindowHouse$App", name := "windowNamed", desc := "(J)I" } : Jvm.MethodName) "WindowHouse") : Cond) ∈ ax_NW := tw_n (tw_c2 (List.mem_of_getElem? (i := 225) rfl)) rfl
theorem lk_X7_196 : ((Jvm.Cond.methodLinkNest "WindowHouse$Reader" (196 : Nat) ({ cls := "WindowHouse$App", name := "addWindow", desc := "(J)V" } : Jvm.MethodName) "WindowHouse") : Cond) ∈ ax_NW := tw_n (tw_c3 (List.mem_of_getElem? (i := 100) rfl)) rfl
theorem lk_X7_200 : ((Jvm.Cond.fieldLinkNest "WindowHouse$Reader" (200 : Nat) "WindowHouse$App" "timer" "[I" "WindowHouse") : Cond) ∈ ax_NW := tw_n (tw_c1 (List.mem_of_getElem? (i := 119) rfl)) rfl
theorem fl_X7_200 : ax_FL RX7 200 0 13 2 true true := ⟨RX0, TX0, 19, tyX0, fc_X0, by decide, Or.inr ⟨rfl, _, lk_X7_200⟩, rfl, Or.inr (Or.inr (Or.inr ⟨rfl, Or.inr ⟨_, rfl⟩⟩)), rfl⟩
theorem lk_X7_207 : ((Jvm.Cond.fieldLinkNest "WindowHouse$Reader" (207 : Nat) "WindowHouse$App" "buttons" "I" "WindowHouse") : Cond) ∈ ax_NW := tw_n (tw_c1 (List.mem_of_getElem? (i := 96) rfl)) rfl
theorem fl_X7_207 : ax_FL RX7 207 0 1 0 false true := ⟨RX0, TX0, 19, tyX0, fc_X0, by decide, Or.inr ⟨rfl, _, lk_X7_207⟩, rfl, Or.inl ⟨rfl, rfl⟩, rfl⟩
theorem lk_X7_210 : ((Jvm.Cond.fieldLinkNest "WindowHouse$Reader" (210 : Nat) "WindowHouse$App" "endButton" "[I" "WindowHouse") : Cond) ∈ ax_NW := tw_n (tw_c1 (List.mem_of_getElem? (i := 125) rfl)) rfl
theorem fl_X7_210 : ax_FL RX7 210 0 15 2 true true := ⟨RX0, TX0, 19, tyX0, fc_X0, by decide, Or.inr ⟨rfl, _, lk_X7_210⟩, rfl, Or.inr (Or.inr (Or.inr ⟨rfl, Or.inr ⟨_, rfl⟩⟩)), rfl⟩
theorem lk_X7_213 : ((Jvm.Cond.fieldLinkNest "WindowHouse$Reader" (213 : Nat) "WindowHouse$App" "firstButton" "[I" "WindowHouse") : Cond) ∈ ax_NW := tw_n (tw_c1 (List.mem_of_getElem? (i := 122) rfl)) rfl
theorem fl_X7_213 : ax_FL RX7 213 0 14 2 true true := ⟨RX0, TX0, 19, tyX0, fc_X0, by decide, Or.inr ⟨rfl, _, lk_X7_213⟩, rfl, Or.inr (Or.inr (Or.inr ⟨rfl, Or.inr ⟨_, rfl⟩⟩)), rfl⟩
theorem lk_X7_218 : ((Jvm.Cond.fieldLinkNest "WindowHouse$Reader" (218 : Nat) "WindowHouse$App" "showMany" "[I" "WindowHouse") : Cond) ∈ ax_NW := tw_n (tw_c1 (List.mem_of_getElem? (i := 116) rfl)) rfl
theorem fl_X7_218 : ax_FL RX7 218 0 11 2 true true := ⟨RX0, TX0, 19, tyX0, fc_X0, by decide, Or.inr ⟨rfl, _, lk_X7_218⟩, rfl, Or.inr (Or.inr (Or.inr ⟨rfl, Or.inr ⟨_, rfl⟩⟩)), rfl⟩
theorem lk_X7_221 : ((Jvm.Cond.methodLink "WindowHouse$Reader" (221 : Nat) ({ cls := "WindowHouse$Reader", name := "isVar", desc := "()Z" } : Jvm.MethodName)) : Cond) ∈ ax_G := tw_g (tw_c3 (List.mem_of_getElem? (i := 118) rfl)) rfl
theorem lk_X7_224 : ((Jvm.Cond.methodLinkNest "WindowHouse$Reader" (224 : Nat) ({ cls := "WindowHouse$App", name := "addShow", desc := "(II)V" } : Jvm.MethodName) "WindowHouse") : Cond) ∈ ax_NW := tw_n (tw_c3 (List.mem_of_getElem? (i := 122) rfl)) rfl
theorem lk_X7_228 : ((Jvm.Cond.methodLinkNest "WindowHouse$Reader" (228 : Nat) ({ cls := "WindowHouse$App", name := "buttonNamed", desc := "(IJ)I" } : Jvm.MethodName) "WindowHouse") : Cond) ∈ ax_NW := tw_n (tw_c3 (List.mem_of_getElem? (i := 130) rfl)) rfl
theorem lk_X7_232 : ((Jvm.Cond.methodLinkNest "WindowHouse$Reader" (232 : Nat) ({ cls := "WindowHouse$App", name := "addButton", desc := "(IJ)V" } : Jvm.MethodName) "WindowHouse") : Cond) ∈ ax_NW := tw_n (tw_c3 (List.mem_of_getElem? (i := 134) rfl)) rfl
theorem lk_X7_236 : ((Jvm.Cond.fieldLinkNest "WindowHouse$Reader" (236 : Nat) "WindowHouse$App" "conds" "LWindowHouse$Conds;" "WindowHouse") : Cond) ∈ ax_NW := tw_n (tw_c1 (List.mem_of_getElem? (i := 131) rfl)) rfl
theorem fl_X7_236 : ax_FL RX7 236 0 17 2 true true := ⟨RX0, TX0, 19, tyX0, fc_X0, by decide, Or.inr ⟨rfl, _, lk_X7_236⟩, rfl, Or.inr (Or.inr (Or.inr ⟨rfl, Or.inl ⟨_, rfl⟩⟩)), rfl⟩
theorem lk_X7_240 : ((Jvm.Cond.fieldLinkNest "WindowHouse$Reader" (240 : Nat) "WindowHouse$Conds" "many" "[I" "WindowHouse") : Cond) ∈ ax_NW := tw_n (tw_c1 (List.mem_of_getElem? (i := 49) rfl)) rfl
theorem fl_X7_240 : ax_FL RX7 240 3 0 2 true true := ⟨RX4, TX4, 4, tyX4, fc_X4, by decide, Or.inr ⟨rfl, _, lk_X7_240⟩, rfl, Or.inr (Or.inr (Or.inr ⟨rfl, Or.inr ⟨_, rfl⟩⟩)), rfl⟩
theorem lk_X7_245 : ((Jvm.Cond.methodLinkNest "WindowHouse$Reader" (245 : Nat) ({ cls := "WindowHouse$Scanner", name := "isComparison", desc := "(I)Z" } : Jvm.MethodName) "WindowHouse") : Cond) ∈ ax_NW := tw_n (tw_c3 (List.mem_of_getElem? (i := 152) rfl)) rfl
theorem lk_X7_248 : ((Jvm.Cond.methodLinkNest "WindowHouse$Reader" (248 : Nat) ({ cls := "WindowHouse$Conds", name := "add", desc := "(IIII)V" } : Jvm.MethodName) "WindowHouse") : Cond) ∈ ax_NW := tw_n (tw_c3 (List.mem_of_getElem? (i := 157) rfl)) rfl
theorem lk_X7_252 : ((Jvm.Cond.methodLinkNest "WindowHouse$Reader" (252 : Nat) ({ cls := "WindowHouse$Deeds", name := "ofTimer", desc := "(I)I" } : Jvm.MethodName) "WindowHouse") : Cond) ∈ ax_NW := tw_n (tw_c3 (List.mem_of_getElem? (i := 166) rfl)) rfl
theorem lk_X7_256 : ((Jvm.Cond.methodLinkNest "WindowHouse$Reader" (256 : Nat) ({ cls := "WindowHouse$App", name := "addTimer", desc := "(II)V" } : Jvm.MethodName) "WindowHouse") : Cond) ∈ ax_NW := tw_n (tw_c3 (List.mem_of_getElem? (i := 167) rfl)) rfl
theorem lk_X7_259 : ((Jvm.Cond.methodLink "WindowHouse$Reader" (259 : Nat) ({ cls := "WindowHouse$Reader", name := "deedSaid", desc := "()I" } : Jvm.MethodName)) : Cond) ∈ ax_G := tw_g (tw_c3 (List.mem_of_getElem? (i := 175) rfl)) rfl
theorem lk_X7_263 : ((Jvm.Cond.fieldLinkNest "WindowHouse$Reader" (263 : Nat) "WindowHouse$App" "deeds" "LWindowHouse$Deeds;" "WindowHouse") : Cond) ∈ ax_NW := tw_n (tw_c1 (List.mem_of_getElem? (i := 134) rfl)) rfl
theorem fl_X7_263 : ax_FL RX7 263 0 18 2 true true := ⟨RX0, TX0, 19, tyX0, fc_X0, by decide, Or.inr ⟨rfl, _, lk_X7_263⟩, rfl, Or.inr (Or.inr (Or.inr ⟨rfl, Or.inl ⟨_, rfl⟩⟩)), rfl⟩
theorem lk_X7_267 : ((Jvm.Cond.fieldLinkNest "WindowHouse$Reader" (267 : Nat) "WindowHouse$Deeds" "many" "[I" "WindowHouse") : Cond) ∈ ax_NW := tw_n (tw_c1 (List.mem_of_getElem? (i := 73) rfl)) rfl
theorem fl_X7_267 : ax_FL RX7 267 4 0 2 true true := ⟨RX5, TX5, 4, tyX5, fc_X5, by decide, Or.inr ⟨rfl, _, lk_X7_267⟩, rfl, Or.inr (Or.inr (Or.inr ⟨rfl, Or.inr ⟨_, rfl⟩⟩)), rfl⟩
theorem lk_X7_268 : ((Jvm.Cond.methodLinkNest "WindowHouse$Reader" (268 : Nat) ({ cls := "WindowHouse$Deeds", name := "add", desc := "(IIII)I" } : Jvm.MethodName) "WindowHouse") : Cond) ∈ ax_NW := tw_n (tw_c3 (List.mem_of_getElem? (i := 184) rfl)) rfl
theorem lk_X7_279 : ((Jvm.Cond.fieldLinkNest "WindowHouse$Reader" (279 : Nat) "WindowHouse$App" "greatest" "[I" "WindowHouse") : Cond) ∈ ax_NW := tw_n (tw_c1 (List.mem_of_getElem? (i := 113) rfl)) rfl
theorem fl_X7_279 : ax_FL RX7 279 0 10 2 true true := ⟨RX0, TX0, 19, tyX0, fc_X0, by decide, Or.inr ⟨rfl, _, lk_X7_279⟩, rfl, Or.inr (Or.inr (Or.inr ⟨rfl, Or.inr ⟨_, rfl⟩⟩)), rfl⟩
theorem lk_X7_282 : ((Jvm.Cond.fieldLinkNest "WindowHouse$Reader" (282 : Nat) "WindowHouse$Deeds" "on" "[I" "WindowHouse") : Cond) ∈ ax_NW := tw_n (tw_c1 (List.mem_of_getElem? (i := 78) rfl)) rfl
theorem fl_X7_282 : ax_FL RX7 282 4 2 2 true true := ⟨RX5, TX5, 4, tyX5, fc_X5, by decide, Or.inr ⟨rfl, _, lk_X7_282⟩, rfl, Or.inr (Or.inr (Or.inr ⟨rfl, Or.inr ⟨_, rfl⟩⟩)), rfl⟩
theorem lk_X8_3 : ((Jvm.Cond.methodLink "WindowHouse$Scanner" (3 : Nat) ({ cls := "java/lang/Object", name := "<init>", desc := "()V" } : Jvm.MethodName)) : Cond) ∈ ax_G := tw_g (tw_c1 (List.mem_of_getElem? (i := 185) rfl)) rfl
theorem lk_X8_9 : ((Jvm.Cond.fieldLink "WindowHouse$Scanner" (9 : Nat) "WindowHouse$Scanner" "text" "[I") : Cond) ∈ ax_G := tw_g (tw_c1 (List.mem_of_getElem? (i := 186) rfl)) rfl
theorem fl_X8_9 : ax_FL RX8 9 7 0 2 false false := ⟨RX8, TX8, 7, tyX8, fc_X8, by decide, Or.inl ⟨rfl, lk_X8_9, fun _ => rfl⟩, rfl, Or.inr (Or.inr (Or.inr ⟨rfl, Or.inr ⟨_, rfl⟩⟩)), rfl⟩
theorem lk_X8_15 : ((Jvm.Cond.fieldLink "WindowHouse$Scanner" (15 : Nat) "WindowHouse$Scanner" "length" "I") : Cond) ∈ ax_G := tw_g (tw_c1 (List.mem_of_getElem? (i := 187) rfl)) rfl
theorem fl_X8_15 : ax_FL RX8 15 7 1 0 false false := ⟨RX8, TX8, 7, tyX8, fc_X8, by decide, Or.inl ⟨rfl, lk_X8_15, fun _ => rfl⟩, rfl, Or.inl ⟨rfl, rfl⟩, rfl⟩
theorem lk_X8_19 : ((Jvm.Cond.fieldLink "WindowHouse$Scanner" (19 : Nat) "WindowHouse$Scanner" "at" "I") : Cond) ∈ ax_G := tw_g (tw_c1 (List.mem_of_getElem? (i := 188) rfl)) rfl
theorem fl_X8_19 : ax_FL RX8 19 7 2 0 false false := ⟨RX8, TX8, 7, tyX8, fc_X8, by decide, Or.inl ⟨rfl, lk_X8_19, fun _ => rfl⟩, rfl, Or.inl ⟨rfl, rfl⟩, rfl⟩
theorem lk_X8_22 : ((Jvm.Cond.fieldLink "WindowHouse$Scanner" (22 : Nat) "WindowHouse$Scanner" "kind" "I") : Cond) ∈ ax_G := tw_g (tw_c1 (List.mem_of_getElem? (i := 189) rfl)) rfl
theorem fl_X8_22 : ax_FL RX8 22 7 3 0 false false := ⟨RX8, TX8, 7, tyX8, fc_X8, by decide, Or.inl ⟨rfl, lk_X8_22, fun _ => rfl⟩, rfl, Or.inl ⟨rfl, rfl⟩, rfl⟩
theorem lk_X8_25 : ((Jvm.Cond.fieldLink "WindowHouse$Scanner" (25 : Nat) "WindowHouse$Scanner" "place" "I") : Cond) ∈ ax_G := tw_g (tw_c1 (List.mem_of_getElem? (i := 191) rfl)) rfl
theorem fl_X8_25 : ax_FL RX8 25 7 4 0 false false := ⟨RX8, TX8, 7, tyX8, fc_X8, by decide, Or.inl ⟨rfl, lk_X8_25, fun _ => rfl⟩, rfl, Or.inl ⟨rfl, rfl⟩, rfl⟩
theorem lk_X8_28 : ((Jvm.Cond.fieldLink "WindowHouse$Scanner" (28 : Nat) "WindowHouse$Scanner" "word" "J") : Cond) ∈ ax_G := tw_g (tw_c1 (List.mem_of_getElem? (i := 193) rfl)) rfl
theorem fl_X8_28 : ax_FL RX8 28 7 5 1 false false := ⟨RX8, TX8, 7, tyX8, fc_X8, by decide, Or.inl ⟨rfl, lk_X8_28, fun _ => rfl⟩, rfl, Or.inr (Or.inl ⟨rfl, rfl⟩), rfl⟩
theorem lk_X8_32 : ((Jvm.Cond.fieldLink "WindowHouse$Scanner" (32 : Nat) "WindowHouse$Scanner" "number" "I") : Cond) ∈ ax_G := tw_g (tw_c1 (List.mem_of_getElem? (i := 195) rfl)) rfl
theorem fl_X8_32 : ax_FL RX8 32 7 6 0 false false := ⟨RX8, TX8, 7, tyX8, fc_X8, by decide, Or.inl ⟨rfl, lk_X8_32, fun _ => rfl⟩, rfl, Or.inl ⟨rfl, rfl⟩, rfl⟩
theorem lk_X8_35 : ((Jvm.Cond.methodLink "WindowHouse$Scanner" (35 : Nat) ({ cls := "java/lang/Math", name := "min", desc := "(II)I" } : Jvm.MethodName)) : Cond) ∈ ax_G := tw_g (tw_c2 (List.mem_of_getElem? (i := 194) rfl)) rfl
theorem lk_X8_41 : ((Jvm.Cond.methodLink "WindowHouse$Scanner" (41 : Nat) ({ cls := "WindowHouse$Scanner", name := "isLetter", desc := "(I)Z" } : Jvm.MethodName)) : Cond) ∈ ax_G := tw_g (tw_c2 (List.mem_of_getElem? (i := 201) rfl)) rfl
theorem lk_X8_45 : ((Jvm.Cond.methodLink "WindowHouse$Scanner" (45 : Nat) ({ cls := "WindowHouse$Scanner", name := "goOverWord", desc := "()V" } : Jvm.MethodName)) : Cond) ∈ ax_G := tw_g (tw_c2 (List.mem_of_getElem? (i := 204) rfl)) rfl
theorem lk_X8_48 : ((Jvm.Cond.methodLink "WindowHouse$Scanner" (48 : Nat) ({ cls := "WindowHouse$Scanner", name := "isDigit", desc := "(I)Z" } : Jvm.MethodName)) : Cond) ∈ ax_G := tw_g (tw_c2 (List.mem_of_getElem? (i := 208) rfl)) rfl
theorem lk_X8_51 : ((Jvm.Cond.methodLink "WindowHouse$Scanner" (51 : Nat) ({ cls := "WindowHouse$Scanner", name := "goOverNumber", desc := "()V" } : Jvm.MethodName)) : Cond) ∈ ax_G := tw_g (tw_c2 (List.mem_of_getElem? (i := 211) rfl)) rfl
theorem lk_X8_54 : ((Jvm.Cond.methodLink "WindowHouse$Scanner" (54 : Nat) ({ cls := "WindowHouse$Scanner", name := "isSign", desc := "(I)Z" } : Jvm.MethodName)) : Cond) ∈ ax_G := tw_g (tw_c2 (List.mem_of_getElem? (i := 215) rfl)) rfl
theorem lk_X8_57 : ((Jvm.Cond.methodLink "WindowHouse$Scanner" (57 : Nat) ({ cls := "java/lang/String", name := "length", desc := "()I" } : Jvm.MethodName)) : Cond) ∈ ax_G := tw_g (tw_c3 (List.mem_of_getElem? (i := 9) rfl)) rfl
theorem lk_X8_62 : ((Jvm.Cond.methodLink "WindowHouse$Scanner" (62 : Nat) ({ cls := "java/lang/String", name := "charAt", desc := "(I)C" } : Jvm.MethodName)) : Cond) ∈ ax_G := tw_g (tw_c3 (List.mem_of_getElem? (i := 19) rfl)) rfl
theorem lk_X8_66 : ((Jvm.Cond.methodLink "WindowHouse$Scanner" (66 : Nat) ({ cls := "WindowHouse$Scanner", name := "isComparison", desc := "(I)Z" } : Jvm.MethodName)) : Cond) ∈ ax_G := tw_g (tw_c2 (List.mem_of_getElem? (i := 218) rfl)) rfl
theorem lk_X10_3 : ((Jvm.Cond.methodLink "WindowHouseModel$App" (3 : Nat) ({ cls := "java/lang/Object", name := "<init>", desc := "()V" } : Jvm.MethodName)) : Cond) ∈ ax_G := tw_g (tw_c5 (List.mem_of_getElem? (i := 204) rfl)) rfl
theorem lk_X10_9 : ((Jvm.Cond.fieldLink "WindowHouseModel$App" (9 : Nat) "WindowHouseModel$App" "windowName" "[J") : Cond) ∈ ax_G := tw_g (tw_c5 (List.mem_of_getElem? (i := 208) rfl)) rfl
theorem fl_X10_9 : ax_FL RX10 9 9 3 2 true false := ⟨RX10, TX10, 22, tyX10, fc_X10, by decide, Or.inl ⟨rfl, lk_X10_9, fun _ => rfl⟩, rfl, Or.inr (Or.inr (Or.inr ⟨rfl, Or.inr ⟨_, rfl⟩⟩)), rfl⟩
theorem lk_X10_15 : ((Jvm.Cond.fieldLink "WindowHouseModel$App" (15 : Nat) "WindowHouseModel$App" "buttonName" "[J") : Cond) ∈ ax_G := tw_g (tw_c5 (List.mem_of_getElem? (i := 210) rfl)) rfl
theorem fl_X10_15 : ax_FL RX10 15 9 4 2 true false := ⟨RX10, TX10, 22, tyX10, fc_X10, by decide, Or.inl ⟨rfl, lk_X10_15, fun _ => rfl⟩, rfl, Or.inr (Or.inr (Or.inr ⟨rfl, Or.inr ⟨_, rfl⟩⟩)), rfl⟩
theorem lk_X10_18 : ((Jvm.Cond.fieldLink "WindowHouseModel$App" (18 : Nat) "WindowHouseModel$App" "varName" "[J") : Cond) ∈ ax_G := tw_g (tw_c5 (List.mem_of_getElem? (i := 212) rfl)) rfl
theorem fl_X10_18 : ax_FL RX10 18 9 5 2 true false := ⟨RX10, TX10, 22, tyX10, fc_X10, by decide, Or.inl ⟨rfl, lk_X10_18, fun _ => rfl⟩, rfl, Or.inr (Or.inr (Or.inr ⟨rfl, Or.inr ⟨_, rfl⟩⟩)), rfl⟩
theorem lk_X10_21 : ((Jvm.Cond.fieldLink "WindowHouseModel$App" (21 : Nat) "WindowHouseModel$App" "most" "[I") : Cond) ∈ ax_G := tw_g (tw_c5 (List.mem_of_getElem? (i := 214) rfl)) rfl
theorem fl_X10_21 : ax_FL RX10 21 9 6 2 true false := ⟨RX10, TX10, 22, tyX10, fc_X10, by decide, Or.inl ⟨rfl, lk_X10_21, fun _ => rfl⟩, rfl, Or.inr (Or.inr (Or.inr ⟨rfl, Or.inr ⟨_, rfl⟩⟩)), rfl⟩
theorem lk_X10_25 : ((Jvm.Cond.fieldLink "WindowHouseModel$App" (25 : Nat) "WindowHouseModel$App" "shows" "[I") : Cond) ∈ ax_G := tw_g (tw_c5 (List.mem_of_getElem? (i := 216) rfl)) rfl
theorem fl_X10_25 : ax_FL RX10 25 9 7 2 true false := ⟨RX10, TX10, 22, tyX10, fc_X10, by decide, Or.inl ⟨rfl, lk_X10_25, fun _ => rfl⟩, rfl, Or.inr (Or.inr (Or.inr ⟨rfl, Or.inr ⟨_, rfl⟩⟩)), rfl⟩
theorem lk_X10_28 : ((Jvm.Cond.fieldLink "WindowHouseModel$App" (28 : Nat) "WindowHouseModel$App" "show" "[I") : Cond) ∈ ax_G := tw_g (tw_c5 (List.mem_of_getElem? (i := 218) rfl)) rfl
theorem fl_X10_28 : ax_FL RX10 28 9 8 2 true false := ⟨RX10, TX10, 22, tyX10, fc_X10, by decide, Or.inl ⟨rfl, lk_X10_28, fun _ => rfl⟩, rfl, Or.inr (Or.inr (Or.inr ⟨rfl, Or.inr ⟨_, rfl⟩⟩)), rfl⟩
theorem lk_X10_31 : ((Jvm.Cond.fieldLink "WindowHouseModel$App" (31 : Nat) "WindowHouseModel$App" "timer" "[I") : Cond) ∈ ax_G := tw_g (tw_c5 (List.mem_of_getElem? (i := 220) rfl)) rfl
theorem fl_X10_31 : ax_FL RX10 31 9 9 2 true false := ⟨RX10, TX10, 22, tyX10, fc_X10, by decide, Or.inl ⟨rfl, lk_X10_31, fun _ => rfl⟩, rfl, Or.inr (Or.inr (Or.inr ⟨rfl, Or.inr ⟨_, rfl⟩⟩)), rfl⟩
theorem lk_X10_34 : ((Jvm.Cond.fieldLink "WindowHouseModel$App" (34 : Nat) "WindowHouseModel$App" "kept" "[Z") : Cond) ∈ ax_G := tw_g (tw_c5 (List.mem_of_getElem? (i := 222) rfl)) rfl
theorem fl_X10_34 : ax_FL RX10 34 9 10 2 true false := ⟨RX10, TX10, 22, tyX10, fc_X10, by decide, Or.inl ⟨rfl, lk_X10_34, fun _ => rfl⟩, rfl, Or.inr (Or.inr (Or.inr ⟨rfl, Or.inr ⟨_, rfl⟩⟩)), rfl⟩
theorem lk_X10_38 : ((Jvm.Cond.fieldLink "WindowHouseModel$App" (38 : Nat) "WindowHouseModel$App" "deeds" "[I") : Cond) ∈ ax_G := tw_g (tw_c5 (List.mem_of_getElem? (i := 224) rfl)) rfl
theorem fl_X10_38 : ax_FL RX10 38 9 11 2 true false := ⟨RX10, TX10, 22, tyX10, fc_X10, by decide, Or.inl ⟨rfl, lk_X10_38, fun _ => rfl⟩, rfl, Or.inr (Or.inr (Or.inr ⟨rfl, Or.inr ⟨_, rfl⟩⟩)), rfl⟩
theorem lk_X10_41 : ((Jvm.Cond.fieldLink "WindowHouseModel$App" (41 : Nat) "WindowHouseModel$App" "deed" "[I") : Cond) ∈ ax_G := tw_g (tw_c5 (List.mem_of_getElem? (i := 226) rfl)) rfl
theorem fl_X10_41 : ax_FL RX10 41 9 12 2 true false := ⟨RX10, TX10, 22, tyX10, fc_X10, by decide, Or.inl ⟨rfl, lk_X10_41, fun _ => rfl⟩, rfl, Or.inr (Or.inr (Or.inr ⟨rfl, Or.inr ⟨_, rfl⟩⟩)), rfl⟩
theorem lk_X10_44 : ((Jvm.Cond.fieldLink "WindowHouseModel$App" (44 : Nat) "WindowHouseModel$App" "one" "[I") : Cond) ∈ ax_G := tw_g (tw_c5 (List.mem_of_getElem? (i := 228) rfl)) rfl
theorem fl_X10_44 : ax_FL RX10 44 9 13 2 true false := ⟨RX10, TX10, 22, tyX10, fc_X10, by decide, Or.inl ⟨rfl, lk_X10_44, fun _ => rfl⟩, rfl, Or.inr (Or.inr (Or.inr ⟨rfl, Or.inr ⟨_, rfl⟩⟩)), rfl⟩
theorem lk_X10_47 : ((Jvm.Cond.fieldLink "WindowHouseModel$App" (47 : Nat) "WindowHouseModel$App" "two" "[I") : Cond) ∈ ax_G := tw_g (tw_c5 (List.mem_of_getElem? (i := 230) rfl)) rfl
theorem fl_X10_47 : ax_FL RX10 47 9 14 2 true false := ⟨RX10, TX10, 22, tyX10, fc_X10, by decide, Or.inl ⟨rfl, lk_X10_47, fun _ => rfl⟩, rfl, Or.inr (Or.inr (Or.inr ⟨rfl, Or.inr ⟨_, rfl⟩⟩)), rfl⟩
theorem lk_X10_50 : ((Jvm.Cond.fieldLink "WindowHouseModel$App" (50 : Nat) "WindowHouseModel$App" "opens" "[J") : Cond) ∈ ax_G := tw_g (tw_c5 (List.mem_of_getElem? (i := 232) rfl)) rfl
theorem fl_X10_50 : ax_FL RX10 50 9 15 2 true false := ⟨RX10, TX10, 22, tyX10, fc_X10, by decide, Or.inl ⟨rfl, lk_X10_50, fun _ => rfl⟩, rfl, Or.inr (Or.inr (Or.inr ⟨rfl, Or.inr ⟨_, rfl⟩⟩)), rfl⟩
theorem lk_X10_53 : ((Jvm.Cond.fieldLink "WindowHouseModel$App" (53 : Nat) "WindowHouseModel$App" "placeOf" "[I") : Cond) ∈ ax_G := tw_g (tw_c5 (List.mem_of_getElem? (i := 234) rfl)) rfl
theorem fl_X10_53 : ax_FL RX10 53 9 16 2 true false := ⟨RX10, TX10, 22, tyX10, fc_X10, by decide, Or.inl ⟨rfl, lk_X10_53, fun _ => rfl⟩, rfl, Or.inr (Or.inr (Or.inr ⟨rfl, Or.inr ⟨_, rfl⟩⟩)), rfl⟩
theorem lk_X10_56 : ((Jvm.Cond.fieldLink "WindowHouseModel$App" (56 : Nat) "WindowHouseModel$App" "windowOf" "[I") : Cond) ∈ ax_G := tw_g (tw_c5 (List.mem_of_getElem? (i := 236) rfl)) rfl
theorem fl_X10_56 : ax_FL RX10 56 9 17 2 true false := ⟨RX10, TX10, 22, tyX10, fc_X10, by decide, Or.inl ⟨rfl, lk_X10_56, fun _ => rfl⟩, rfl, Or.inr (Or.inr (Or.inr ⟨rfl, Or.inr ⟨_, rfl⟩⟩)), rfl⟩
theorem lk_X10_59 : ((Jvm.Cond.fieldLink "WindowHouseModel$App" (59 : Nat) "WindowHouseModel$App" "conds" "[I") : Cond) ∈ ax_G := tw_g (tw_c5 (List.mem_of_getElem? (i := 238) rfl)) rfl
theorem fl_X10_59 : ax_FL RX10 59 9 18 2 true false := ⟨RX10, TX10, 22, tyX10, fc_X10, by decide, Or.inl ⟨rfl, lk_X10_59, fun _ => rfl⟩, rfl, Or.inr (Or.inr (Or.inr ⟨rfl, Or.inr ⟨_, rfl⟩⟩)), rfl⟩
theorem lk_X10_62 : ((Jvm.Cond.fieldLink "WindowHouseModel$App" (62 : Nat) "WindowHouseModel$App" "condVar" "[I") : Cond) ∈ ax_G := tw_g (tw_c6 (List.mem_of_getElem? (i := 0) rfl)) rfl
theorem fl_X10_62 : ax_FL RX10 62 9 19 2 true false := ⟨RX10, TX10, 22, tyX10, fc_X10, by decide, Or.inl ⟨rfl, lk_X10_62, fun _ => rfl⟩, rfl, Or.inr (Or.inr (Or.inr ⟨rfl, Or.inr ⟨_, rfl⟩⟩)), rfl⟩
theorem lk_X10_65 : ((Jvm.Cond.fieldLink "WindowHouseModel$App" (65 : Nat) "WindowHouseModel$App" "condSign" "[I") : Cond) ∈ ax_G := tw_g (tw_c6 (List.mem_of_getElem? (i := 2) rfl)) rfl
theorem fl_X10_65 : ax_FL RX10 65 9 20 2 true false := ⟨RX10, TX10, 22, tyX10, fc_X10, by decide, Or.inl ⟨rfl, lk_X10_65, fun _ => rfl⟩, rfl, Or.inr (Or.inr (Or.inr ⟨rfl, Or.inr ⟨_, rfl⟩⟩)), rfl⟩
theorem lk_X10_68 : ((Jvm.Cond.fieldLink "WindowHouseModel$App" (68 : Nat) "WindowHouseModel$App" "condNumber" "[I") : Cond) ∈ ax_G := tw_g (tw_c6 (List.mem_of_getElem? (i := 4) rfl)) rfl
theorem fl_X10_68 : ax_FL RX10 68 9 21 2 true false := ⟨RX10, TX10, 22, tyX10, fc_X10, by decide, Or.inl ⟨rfl, lk_X10_68, fun _ => rfl⟩, rfl, Or.inr (Or.inr (Or.inr ⟨rfl, Or.inr ⟨_, rfl⟩⟩)), rfl⟩
theorem lk_X11_1 : ((Jvm.Cond.methodLink "WindowHouseModel$Stop" (1 : Nat) ({ cls := "java/lang/RuntimeException", name := "<init>", desc := "(Ljava/lang/String;Ljava/lang/Throwable;ZZ)V" } : Jvm.MethodName)) : Cond) ∈ ax_G := tw_g (tw_c6 (List.mem_of_getElem? (i := 63) rfl)) rfl
theorem lk_L_7 : ((Jvm.Cond.methodLink "WindowHouseLaw" (7 : Nat) ({ cls := "WindowHouse", name := "row", desc := "(I)I" } : Jvm.MethodName)) : Cond) ∈ ax_G := tw_g (tw_c5 (List.mem_of_getElem? (i := 121) rfl)) rfl
theorem lk_L_8 : ((Jvm.Cond.classLink "WindowHouseLaw" (8 : Nat) "WindowHouse") : Cond) ∈ ax_G := tw_g (tw_c1 (List.mem_of_getElem? (i := 25) rfl)) rfl
theorem lk_L_15 : ((Jvm.Cond.methodLink "WindowHouseLaw" (15 : Nat) ({ cls := "WindowHouse", name := "<init>", desc := "()V" } : Jvm.MethodName)) : Cond) ∈ ax_G := tw_g (tw_c1 (List.mem_of_getElem? (i := 27) rfl)) rfl
theorem lk_L_16 : ((Jvm.Cond.classLink "WindowHouseLaw" (16 : Nat) "WindowHouseModel") : Cond) ∈ ax_G := tw_g (tw_c5 (List.mem_of_getElem? (i := 192) rfl)) rfl
theorem lk_L_18 : ((Jvm.Cond.methodLink "WindowHouseLaw" (18 : Nat) ({ cls := "WindowHouseModel", name := "<init>", desc := "()V" } : Jvm.MethodName)) : Cond) ∈ ax_G := tw_g (tw_c5 (List.mem_of_getElem? (i := 194) rfl)) rfl
theorem lk_L_19 : ((Jvm.Cond.methodLink "WindowHouseLaw" (19 : Nat) ({ cls := "WindowHouse", name := "feed", desc := "(IIIII)I" } : Jvm.MethodName)) : Cond) ∈ ax_G := tw_g (tw_c2 (List.mem_of_getElem? (i := 166) rfl)) rfl
theorem lk_L_23 : ((Jvm.Cond.methodLink "WindowHouseLaw" (23 : Nat) ({ cls := "WindowHouseModel", name := "feed", desc := "(IIIII)I" } : Jvm.MethodName)) : Cond) ∈ ax_G := tw_g (tw_c7 (List.mem_of_getElem? (i := 9) rfl)) rfl
theorem lk_L_24 : ((Jvm.Cond.methodLink "WindowHouseLaw" (24 : Nat) ({ cls := "WindowHouse", name := "app", desc := "(II)I" } : Jvm.MethodName)) : Cond) ∈ ax_G := tw_g (tw_c2 (List.mem_of_getElem? (i := 174) rfl)) rfl
theorem lk_L_28 : ((Jvm.Cond.methodLink "WindowHouseLaw" (28 : Nat) ({ cls := "WindowHouseModel", name := "app", desc := "(II)I" } : Jvm.MethodName)) : Cond) ∈ ax_G := tw_g (tw_c7 (List.mem_of_getElem? (i := 13) rfl)) rfl
theorem lk_L_29 : ((Jvm.Cond.methodLink "WindowHouseLaw" (29 : Nat) ({ cls := "WindowHouse", name := "fault", desc := "()I" } : Jvm.MethodName)) : Cond) ∈ ax_G := tw_g (tw_c3 (List.mem_of_getElem? (i := 220) rfl)) rfl
theorem lk_L_33 : ((Jvm.Cond.methodLink "WindowHouseLaw" (33 : Nat) ({ cls := "WindowHouseModel", name := "fault", desc := "()I" } : Jvm.MethodName)) : Cond) ∈ ax_G := tw_g (tw_c7 (List.mem_of_getElem? (i := 118) rfl)) rfl
theorem lk_L_34 : ((Jvm.Cond.methodLink "WindowHouseLaw" (34 : Nat) ({ cls := "WindowHouse", name := "where", desc := "()I" } : Jvm.MethodName)) : Cond) ∈ ax_G := tw_g (tw_c3 (List.mem_of_getElem? (i := 224) rfl)) rfl
theorem lk_L_37 : ((Jvm.Cond.methodLink "WindowHouseLaw" (37 : Nat) ({ cls := "WindowHouseModel", name := "where", desc := "()I" } : Jvm.MethodName)) : Cond) ∈ ax_G := tw_g (tw_c7 (List.mem_of_getElem? (i := 122) rfl)) rfl
theorem lk_L_38 : ((Jvm.Cond.methodLink "WindowHouseLaw" (38 : Nat) ({ cls := "WindowHouse", name := "about", desc := "(II)I" } : Jvm.MethodName)) : Cond) ∈ ax_G := tw_g (tw_c3 (List.mem_of_getElem? (i := 228) rfl)) rfl
theorem lk_L_41 : ((Jvm.Cond.methodLink "WindowHouseLaw" (41 : Nat) ({ cls := "WindowHouseModel", name := "about", desc := "(II)I" } : Jvm.MethodName)) : Cond) ∈ ax_G := tw_g (tw_c7 (List.mem_of_getElem? (i := 126) rfl)) rfl
theorem lk_L_42 : ((Jvm.Cond.methodLink "WindowHouseLaw" (42 : Nat) ({ cls := "WindowHouse", name := "button", desc := "(III)I" } : Jvm.MethodName)) : Cond) ∈ ax_G := tw_g (tw_c3 (List.mem_of_getElem? (i := 236) rfl)) rfl
theorem lk_L_46 : ((Jvm.Cond.methodLink "WindowHouseLaw" (46 : Nat) ({ cls := "WindowHouseModel", name := "button", desc := "(III)I" } : Jvm.MethodName)) : Cond) ∈ ax_G := tw_g (tw_c7 (List.mem_of_getElem? (i := 134) rfl)) rfl
theorem lk_L_47 : ((Jvm.Cond.methodLink "WindowHouseLaw" (47 : Nat) ({ cls := "WindowHouse", name := "act", desc := "(II)I" } : Jvm.MethodName)) : Cond) ∈ ax_G := tw_g (tw_c4 (List.mem_of_getElem? (i := 0) rfl)) rfl
theorem lk_L_50 : ((Jvm.Cond.methodLink "WindowHouseLaw" (50 : Nat) ({ cls := "WindowHouseModel", name := "act", desc := "(II)I" } : Jvm.MethodName)) : Cond) ∈ ax_G := tw_g (tw_c7 (List.mem_of_getElem? (i := 138) rfl)) rfl
theorem lk_L_51 : ((Jvm.Cond.methodLink "WindowHouseLaw" (51 : Nat) ({ cls := "WindowHouse", name := "state", desc := "(II)I" } : Jvm.MethodName)) : Cond) ∈ ax_G := tw_g (tw_c4 (List.mem_of_getElem? (i := 51) rfl)) rfl
theorem lk_L_54 : ((Jvm.Cond.methodLink "WindowHouseLaw" (54 : Nat) ({ cls := "WindowHouseModel", name := "state", desc := "(II)I" } : Jvm.MethodName)) : Cond) ∈ ax_G := tw_g (tw_c7 (List.mem_of_getElem? (i := 176) rfl)) rfl
theorem lk_L_55 : ((Jvm.Cond.methodLink "WindowHouseLaw" (55 : Nat) ({ cls := "WindowHouse", name := "var", desc := "(II)I" } : Jvm.MethodName)) : Cond) ∈ ax_G := tw_g (tw_c4 (List.mem_of_getElem? (i := 66) rfl)) rfl
theorem lk_L_58 : ((Jvm.Cond.methodLink "WindowHouseLaw" (58 : Nat) ({ cls := "WindowHouseModel", name := "var", desc := "(II)I" } : Jvm.MethodName)) : Cond) ∈ ax_G := tw_g (tw_c7 (List.mem_of_getElem? (i := 183) rfl)) rfl
theorem lk_L_59 : ((Jvm.Cond.methodLink "WindowHouseLaw" (59 : Nat) ({ cls := "WindowHouse", name := "can", desc := "(II)I" } : Jvm.MethodName)) : Cond) ∈ ax_G := tw_g (tw_c4 (List.mem_of_getElem? (i := 71) rfl)) rfl
theorem lk_L_62 : ((Jvm.Cond.methodLink "WindowHouseLaw" (62 : Nat) ({ cls := "WindowHouseModel", name := "can", desc := "(II)I" } : Jvm.MethodName)) : Cond) ∈ ax_G := tw_g (tw_c7 (List.mem_of_getElem? (i := 187) rfl)) rfl
theorem lk_L_63 : ((Jvm.Cond.methodLink "WindowHouseLaw" (63 : Nat) ({ cls := "WindowHouse", name := "begin", desc := "(I)Z" } : Jvm.MethodName)) : Cond) ∈ ax_G := tw_g (tw_c4 (List.mem_of_getElem? (i := 75) rfl)) rfl
theorem lk_L_67 : ((Jvm.Cond.methodLink "WindowHouseLaw" (67 : Nat) ({ cls := "WindowHouseModel", name := "begin", desc := "(I)Z" } : Jvm.MethodName)) : Cond) ∈ ax_G := tw_g (tw_c7 (List.mem_of_getElem? (i := 191) rfl)) rfl
theorem lk_L_68 : ((Jvm.Cond.methodLink "WindowHouseLaw" (68 : Nat) ({ cls := "WindowHouse", name := "map", desc := "(I)I" } : Jvm.MethodName)) : Cond) ∈ ax_G := tw_g (tw_c4 (List.mem_of_getElem? (i := 79) rfl)) rfl
theorem lk_L_71 : ((Jvm.Cond.methodLink "WindowHouseLaw" (71 : Nat) ({ cls := "WindowHouseModel", name := "map", desc := "(I)I" } : Jvm.MethodName)) : Cond) ∈ ax_G := tw_g (tw_c7 (List.mem_of_getElem? (i := 195) rfl)) rfl
theorem lk_L_72 : ((Jvm.Cond.methodLink "WindowHouseLaw" (72 : Nat) ({ cls := "WindowHouse", name := "met", desc := "(II)I" } : Jvm.MethodName)) : Cond) ∈ ax_G := tw_g (tw_c4 (List.mem_of_getElem? (i := 120) rfl)) rfl
theorem lk_L_75 : ((Jvm.Cond.methodLink "WindowHouseLaw" (75 : Nat) ({ cls := "WindowHouseModel", name := "met", desc := "(II)I" } : Jvm.MethodName)) : Cond) ∈ ax_G := tw_g (tw_c7 (List.mem_of_getElem? (i := 219) rfl)) rfl
theorem lk_L_76 : ((Jvm.Cond.methodLink "WindowHouseLaw" (76 : Nat) ({ cls := "WindowHouse", name := "leads", desc := "(II)I" } : Jvm.MethodName)) : Cond) ∈ ax_G := tw_g (tw_c4 (List.mem_of_getElem? (i := 161) rfl)) rfl
theorem lk_L_79 : ((Jvm.Cond.methodLink "WindowHouseLaw" (79 : Nat) ({ cls := "WindowHouseModel", name := "leads", desc := "(II)I" } : Jvm.MethodName)) : Cond) ∈ ax_G := tw_g (tw_c7 (List.mem_of_getElem? (i := 227) rfl)) rfl
theorem lk_L_80 : ((Jvm.Cond.methodLink "WindowHouseLaw" (80 : Nat) ({ cls := "WindowHouse", name := "rowTo", desc := "(I)I" } : Jvm.MethodName)) : Cond) ∈ ax_G := tw_g (tw_c4 (List.mem_of_getElem? (i := 165) rfl)) rfl
theorem lk_L_83 : ((Jvm.Cond.methodLink "WindowHouseLaw" (83 : Nat) ({ cls := "WindowHouseModel", name := "rowTo", desc := "(I)I" } : Jvm.MethodName)) : Cond) ∈ ax_G := tw_g (tw_c7 (List.mem_of_getElem? (i := 231) rfl)) rfl
theorem lk_L_84 : ((Jvm.Cond.methodLink "WindowHouseLaw" (84 : Nat) ({ cls := "WindowHouse", name := "faultAt", desc := "(I)I" } : Jvm.MethodName)) : Cond) ∈ ax_G := tw_g (tw_c4 (List.mem_of_getElem? (i := 174) rfl)) rfl
theorem lk_L_87 : ((Jvm.Cond.methodLink "WindowHouseLaw" (87 : Nat) ({ cls := "WindowHouseModel", name := "faultAt", desc := "(I)I" } : Jvm.MethodName)) : Cond) ∈ ax_G := tw_g (tw_c7 (List.mem_of_getElem? (i := 235) rfl)) rfl
theorem lk_L_88 : ((Jvm.Cond.methodLink "WindowHouseLaw" (88 : Nat) ({ cls := "WindowHouse", name := "pressedAt", desc := "(I)I" } : Jvm.MethodName)) : Cond) ∈ ax_G := tw_g (tw_c4 (List.mem_of_getElem? (i := 183) rfl)) rfl
theorem lk_L_91 : ((Jvm.Cond.methodLink "WindowHouseLaw" (91 : Nat) ({ cls := "WindowHouseModel", name := "pressedAt", desc := "(I)I" } : Jvm.MethodName)) : Cond) ∈ ax_G := tw_g (tw_c7 (List.mem_of_getElem? (i := 239) rfl)) rfl
theorem lk_L_92 : ((Jvm.Cond.methodLink "WindowHouseLaw" (92 : Nat) ({ cls := "WindowHouse", name := "never", desc := "()I" } : Jvm.MethodName)) : Cond) ∈ ax_G := tw_g (tw_c4 (List.mem_of_getElem? (i := 191) rfl)) rfl
theorem lk_L_95 : ((Jvm.Cond.methodLink "WindowHouseLaw" (95 : Nat) ({ cls := "WindowHouseModel", name := "never", desc := "()I" } : Jvm.MethodName)) : Cond) ∈ ax_G := tw_g (tw_c8 (List.mem_of_getElem? (i := 3) rfl)) rfl
theorem lk_L_96 : ((Jvm.Cond.methodLink "WindowHouseLaw" (96 : Nat) ({ cls := "WindowHouse", name := "holdsAt", desc := "(II)I" } : Jvm.MethodName)) : Cond) ∈ ax_G := tw_g (tw_c4 (List.mem_of_getElem? (i := 200) rfl)) rfl
theorem lk_L_99 : ((Jvm.Cond.methodLink "WindowHouseLaw" (99 : Nat) ({ cls := "WindowHouseModel", name := "holdsAt", desc := "(II)I" } : Jvm.MethodName)) : Cond) ∈ ax_G := tw_g (tw_c8 (List.mem_of_getElem? (i := 7) rfl)) rfl
theorem lk_L_100 : ((Jvm.Cond.methodLink "WindowHouseLaw" (100 : Nat) ({ cls := "WindowHouse", name := "stuck", desc := "(I)I" } : Jvm.MethodName)) : Cond) ∈ ax_G := tw_g (tw_c4 (List.mem_of_getElem? (i := 209) rfl)) rfl
theorem lk_L_103 : ((Jvm.Cond.methodLink "WindowHouseLaw" (103 : Nat) ({ cls := "WindowHouseModel", name := "stuck", desc := "(I)I" } : Jvm.MethodName)) : Cond) ∈ ax_G := tw_g (tw_c8 (List.mem_of_getElem? (i := 11) rfl)) rfl
theorem lk_L_104 : ((Jvm.Cond.methodLink "WindowHouseLaw" (104 : Nat) ({ cls := "WindowHouse", name := "least", desc := "()I" } : Jvm.MethodName)) : Cond) ∈ ax_G := tw_g (tw_c4 (List.mem_of_getElem? (i := 226) rfl)) rfl
theorem lk_L_107 : ((Jvm.Cond.methodLink "WindowHouseLaw" (107 : Nat) ({ cls := "WindowHouseModel", name := "least", desc := "()I" } : Jvm.MethodName)) : Cond) ∈ ax_G := tw_g (tw_c8 (List.mem_of_getElem? (i := 15) rfl)) rfl
theorem lk_L_108 : ((Jvm.Cond.methodLink "WindowHouseLaw" (108 : Nat) ({ cls := "WindowHouse", name := "views", desc := "()I" } : Jvm.MethodName)) : Cond) ∈ ax_G := tw_g (tw_c4 (List.mem_of_getElem? (i := 231) rfl)) rfl
theorem lk_L_111 : ((Jvm.Cond.methodLink "WindowHouseLaw" (111 : Nat) ({ cls := "WindowHouseModel", name := "views", desc := "()I" } : Jvm.MethodName)) : Cond) ∈ ax_G := tw_g (tw_c8 (List.mem_of_getElem? (i := 19) rfl)) rfl
theorem lk_L_112 : ((Jvm.Cond.methodLink "WindowHouseLaw" (112 : Nat) ({ cls := "WindowHouse", name := "farthest", desc := "()I" } : Jvm.MethodName)) : Cond) ∈ ax_G := tw_g (tw_c4 (List.mem_of_getElem? (i := 239) rfl)) rfl
theorem lk_L_115 : ((Jvm.Cond.methodLink "WindowHouseLaw" (115 : Nat) ({ cls := "WindowHouseModel", name := "farthest", desc := "()I" } : Jvm.MethodName)) : Cond) ∈ ax_G := tw_g (tw_c8 (List.mem_of_getElem? (i := 23) rfl)) rfl
theorem lk_L_116 : ((Jvm.Cond.methodLink "WindowHouseLaw" (116 : Nat) ({ cls := "WindowHouse", name := "ways", desc := "()I" } : Jvm.MethodName)) : Cond) ∈ ax_G := tw_g (tw_c5 (List.mem_of_getElem? (i := 10) rfl)) rfl
theorem lk_L_119 : ((Jvm.Cond.methodLink "WindowHouseLaw" (119 : Nat) ({ cls := "WindowHouseModel", name := "ways", desc := "()I" } : Jvm.MethodName)) : Cond) ∈ ax_G := tw_g (tw_c8 (List.mem_of_getElem? (i := 27) rfl)) rfl
theorem lk_L_120 : ((Jvm.Cond.methodLink "WindowHouseLaw" (120 : Nat) ({ cls := "WindowHouse", name := "push", desc := "(I)I" } : Jvm.MethodName)) : Cond) ∈ ax_G := tw_g (tw_c5 (List.mem_of_getElem? (i := 19) rfl)) rfl
theorem lk_L_123 : ((Jvm.Cond.methodLink "WindowHouseLaw" (123 : Nat) ({ cls := "WindowHouseModel", name := "push", desc := "(I)I" } : Jvm.MethodName)) : Cond) ∈ ax_G := tw_g (tw_c8 (List.mem_of_getElem? (i := 31) rfl)) rfl
theorem lk_L_124 : ((Jvm.Cond.methodLink "WindowHouseLaw" (124 : Nat) ({ cls := "WindowHouse", name := "cut", desc := "(I)Z" } : Jvm.MethodName)) : Cond) ∈ ax_G := tw_g (tw_c5 (List.mem_of_getElem? (i := 23) rfl)) rfl
theorem lk_L_127 : ((Jvm.Cond.methodLink "WindowHouseLaw" (127 : Nat) ({ cls := "WindowHouseModel", name := "cut", desc := "(I)Z" } : Jvm.MethodName)) : Cond) ∈ ax_G := tw_g (tw_c8 (List.mem_of_getElem? (i := 35) rfl)) rfl
theorem lk_L_128 : ((Jvm.Cond.methodLink "WindowHouseLaw" (128 : Nat) ({ cls := "WindowHouse", name := "tryRow", desc := "(I)I" } : Jvm.MethodName)) : Cond) ∈ ax_G := tw_g (tw_c5 (List.mem_of_getElem? (i := 27) rfl)) rfl
theorem lk_L_131 : ((Jvm.Cond.methodLink "WindowHouseLaw" (131 : Nat) ({ cls := "WindowHouseModel", name := "tryRow", desc := "(I)I" } : Jvm.MethodName)) : Cond) ∈ ax_G := tw_g (tw_c8 (List.mem_of_getElem? (i := 39) rfl)) rfl
theorem lk_L_132 : ((Jvm.Cond.methodLink "WindowHouseLaw" (132 : Nat) ({ cls := "WindowHouse", name := "tried", desc := "()I" } : Jvm.MethodName)) : Cond) ∈ ax_G := tw_g (tw_c5 (List.mem_of_getElem? (i := 40) rfl)) rfl
theorem lk_L_135 : ((Jvm.Cond.methodLink "WindowHouseLaw" (135 : Nat) ({ cls := "WindowHouseModel", name := "tried", desc := "()I" } : Jvm.MethodName)) : Cond) ∈ ax_G := tw_g (tw_c8 (List.mem_of_getElem? (i := 47) rfl)) rfl
theorem lk_L_136 : ((Jvm.Cond.methodLink "WindowHouseLaw" (136 : Nat) ({ cls := "WindowHouse", name := "shorter", desc := "(I)I" } : Jvm.MethodName)) : Cond) ∈ ax_G := tw_g (tw_c5 (List.mem_of_getElem? (i := 44) rfl)) rfl
theorem lk_L_139 : ((Jvm.Cond.methodLink "WindowHouseLaw" (139 : Nat) ({ cls := "WindowHouseModel", name := "shorter", desc := "(I)I" } : Jvm.MethodName)) : Cond) ∈ ax_G := tw_g (tw_c8 (List.mem_of_getElem? (i := 51) rfl)) rfl
theorem lk_L_140 : ((Jvm.Cond.methodLink "WindowHouseLaw" (140 : Nat) ({ cls := "WindowHouseLaw", name := "row", desc := "(LWindowHouse;I[J)I" } : Jvm.MethodName)) : Cond) ∈ ax_G := tw_g (tw_c5 (List.mem_of_getElem? (i := 117) rfl)) rfl
theorem lk_L_145 : ((Jvm.Cond.methodLink "WindowHouseLaw" (145 : Nat) ({ cls := "WindowHouseModel", name := "row", desc := "(I)I" } : Jvm.MethodName)) : Cond) ∈ ax_G := tw_g (tw_c8 (List.mem_of_getElem? (i := 55) rfl)) rfl
theorem lk_L_146 : ((Jvm.Cond.methodLink "WindowHouseLaw" (146 : Nat) ({ cls := "WindowHouseModel", name := "thrown", desc := "()I" } : Jvm.MethodName)) : Cond) ∈ ax_G := tw_g (tw_c5 (List.mem_of_getElem? (i := 188) rfl)) rfl
theorem lk_L_149 : ((Jvm.Cond.methodLink "WindowHouseLaw" (149 : Nat) ({ cls := "WindowHouse", name := "apart", desc := "()I" } : Jvm.MethodName)) : Cond) ∈ ax_G := tw_g (tw_c5 (List.mem_of_getElem? (i := 56) rfl)) rfl
theorem lk_L_152 : ((Jvm.Cond.methodLink "WindowHouseLaw" (152 : Nat) ({ cls := "WindowHouseModel", name := "apart", desc := "()I" } : Jvm.MethodName)) : Cond) ∈ ax_G := tw_g (tw_c8 (List.mem_of_getElem? (i := 59) rfl)) rfl
theorem lk_L_153 : ((Jvm.Cond.methodLink "WindowHouseLaw" (153 : Nat) ({ cls := "WindowHouse", name := "count", desc := "(I)I" } : Jvm.MethodName)) : Cond) ∈ ax_G := tw_g (tw_c5 (List.mem_of_getElem? (i := 109) rfl)) rfl
theorem lk_L_156 : ((Jvm.Cond.methodLink "WindowHouseLaw" (156 : Nat) ({ cls := "WindowHouseModel", name := "count", desc := "(I)I" } : Jvm.MethodName)) : Cond) ∈ ax_G := tw_g (tw_c8 (List.mem_of_getElem? (i := 83) rfl)) rfl
theorem lk_L_157 : ((Jvm.Cond.methodLink "WindowHouseLaw" (157 : Nat) ({ cls := "WindowHouse", name := "trouble", desc := "()I" } : Jvm.MethodName)) : Cond) ∈ ax_G := tw_g (tw_c5 (List.mem_of_getElem? (i := 113) rfl)) rfl
theorem lk_L_160 : ((Jvm.Cond.methodLink "WindowHouseLaw" (160 : Nat) ({ cls := "WindowHouseModel", name := "trouble", desc := "()I" } : Jvm.MethodName)) : Cond) ∈ ax_G := tw_g (tw_c8 (List.mem_of_getElem? (i := 87) rfl)) rfl
