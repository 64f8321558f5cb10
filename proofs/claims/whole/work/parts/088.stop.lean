abbrev cz_Re : ByteArray := prog_17_method_5_code
def mz_Re : AM := (⟨"java/lang/RuntimeException", "<init>", "(Ljava/lang/String;Ljava/lang/Throwable;ZZ)V"⟩, cz_Re, 5, none)
theorem coz_Re : ((Jvm.Cond.code ({ cls := "java/lang/RuntimeException", name := "<init>", desc := "(Ljava/lang/String;Ljava/lang/Throwable;ZZ)V" } : Jvm.MethodName) prog_17_method_5_code (5 : Nat) (Option.none : Option Jvm.ClassFile.FieldType)) : Cond) ∈ ax_G := tw_g (tw_c6 (List.mem_of_getElem? (i := 65) rfl)) rfl
theorem iniz_Re : ((Jvm.Cond.initialized "java/lang/RuntimeException") : Cond) ∈ ax_G := tw_g (tw_c1 (List.mem_of_getElem? (i := 14) rfl)) rfl
theorem imz_Re : ((Jvm.Cond.instanceMethod ({ cls := "java/lang/RuntimeException", name := "<init>", desc := "(Ljava/lang/String;Ljava/lang/Throwable;ZZ)V" } : Jvm.MethodName)) : Cond) ∈ ax_G := tw_g (tw_c6 (List.mem_of_getElem? (i := 64) rfl)) rfl
theorem cbz_Re : ax_CB mz_Re 4 := ⟨coz_Re, iniz_Re, by decide, by decide, by decide +kernel⟩
abbrev cz_Ex : ByteArray := prog_15_method_5_code
def mz_Ex : AM := (⟨"java/lang/Exception", "<init>", "(Ljava/lang/String;Ljava/lang/Throwable;ZZ)V"⟩, cz_Ex, 5, none)
theorem coz_Ex : ((Jvm.Cond.code ({ cls := "java/lang/Exception", name := "<init>", desc := "(Ljava/lang/String;Ljava/lang/Throwable;ZZ)V" } : Jvm.MethodName) prog_15_method_5_code (5 : Nat) (Option.none : Option Jvm.ClassFile.FieldType)) : Cond) ∈ ax_G := tw_g (tw_c6 (List.mem_of_getElem? (i := 68) rfl)) rfl
theorem iniz_Ex : ((Jvm.Cond.initialized "java/lang/Exception") : Cond) ∈ ax_G := tw_g (tw_c1 (List.mem_of_getElem? (i := 13) rfl)) rfl
theorem imz_Ex : ((Jvm.Cond.instanceMethod ({ cls := "java/lang/Exception", name := "<init>", desc := "(Ljava/lang/String;Ljava/lang/Throwable;ZZ)V" } : Jvm.MethodName)) : Cond) ∈ ax_G := tw_g (tw_c6 (List.mem_of_getElem? (i := 67) rfl)) rfl
theorem cbz_Ex : ax_CB mz_Ex 4 := ⟨coz_Ex, iniz_Ex, by decide, by decide, by decide +kernel⟩
abbrev cz_Th : ByteArray := prog_22_method_5_code
def mz_Th : AM := (⟨"java/lang/Throwable", "<init>", "(Ljava/lang/String;Ljava/lang/Throwable;ZZ)V"⟩, cz_Th, 5, none)
theorem coz_Th : ((Jvm.Cond.code ({ cls := "java/lang/Throwable", name := "<init>", desc := "(Ljava/lang/String;Ljava/lang/Throwable;ZZ)V" } : Jvm.MethodName) prog_22_method_5_code (5 : Nat) (Option.none : Option Jvm.ClassFile.FieldType)) : Cond) ∈ ax_G := tw_g (tw_c6 (List.mem_of_getElem? (i := 71) rfl)) rfl
theorem iniz_Th : ((Jvm.Cond.initialized "java/lang/Throwable") : Cond) ∈ ax_G := tw_g (tw_c1 (List.mem_of_getElem? (i := 12) rfl)) rfl
theorem imz_Th : ((Jvm.Cond.instanceMethod ({ cls := "java/lang/Throwable", name := "<init>", desc := "(Ljava/lang/String;Ljava/lang/Throwable;ZZ)V" } : Jvm.MethodName)) : Cond) ∈ ax_G := tw_g (tw_c6 (List.mem_of_getElem? (i := 70) rfl)) rfl
theorem cbz_Th : ax_CB mz_Th 4 := ⟨coz_Th, iniz_Th, by decide, by decide, by decide +kernel⟩
theorem lkz_Re : ((Jvm.Cond.methodLink "java/lang/RuntimeException" (16 : Nat) ({ cls := "java/lang/Exception", name := "<init>", desc := "(Ljava/lang/String;Ljava/lang/Throwable;ZZ)V" } : Jvm.MethodName)) : Cond) ∈ ax_G := tw_g (tw_c6 (List.mem_of_getElem? (i := 66) rfl)) rfl
theorem lkz_Ex : ((Jvm.Cond.methodLink "java/lang/Exception" (16 : Nat) ({ cls := "java/lang/Throwable", name := "<init>", desc := "(Ljava/lang/String;Ljava/lang/Throwable;ZZ)V" } : Jvm.MethodName)) : Cond) ∈ ax_G := tw_g (tw_c6 (List.mem_of_getElem? (i := 69) rfl)) rfl
theorem lkz_Th : (Cond.methodLink "java/lang/Throwable" 1 Lib.objectInit : Cond) ∈ ax_G := tw_g (tw_c5 (List.mem_of_getElem? (i := 150) rfl)) rfl
theorem lkf_7 : ((Jvm.Cond.fieldLink "java/lang/Throwable" (7 : Nat) "java/lang/Throwable" "cause" "Ljava/lang/Throwable;") : Cond) ∈ ax_G := tw_g (tw_c5 (List.mem_of_getElem? (i := 177) rfl)) rfl
theorem lkf_13 : ((Jvm.Cond.fieldLink "java/lang/Throwable" (13 : Nat) "java/lang/Throwable" "UNASSIGNED_STACK" "[Ljava/lang/StackTraceElement;") : Cond) ∈ ax_G := tw_g (tw_c5 (List.mem_of_getElem? (i := 151) rfl)) rfl
theorem lkf_17 : ((Jvm.Cond.fieldLink "java/lang/Throwable" (17 : Nat) "java/lang/Throwable" "stackTrace" "[Ljava/lang/StackTraceElement;") : Cond) ∈ ax_G := tw_g (tw_c5 (List.mem_of_getElem? (i := 178) rfl)) rfl
theorem lkf_20 : ((Jvm.Cond.fieldLink "java/lang/Throwable" (20 : Nat) "java/lang/Throwable" "SUPPRESSED_SENTINEL" "Ljava/util/List;") : Cond) ∈ ax_G := tw_g (tw_c5 (List.mem_of_getElem? (i := 153) rfl)) rfl
theorem lkf_24 : ((Jvm.Cond.fieldLink "java/lang/Throwable" (24 : Nat) "java/lang/Throwable" "suppressedExceptions" "Ljava/util/List;") : Cond) ∈ ax_G := tw_g (tw_c5 (List.mem_of_getElem? (i := 179) rfl)) rfl
theorem lkf_31 : ((Jvm.Cond.fieldLink "java/lang/Throwable" (31 : Nat) "java/lang/Throwable" "detailMessage" "Ljava/lang/String;") : Cond) ∈ ax_G := tw_g (tw_c5 (List.mem_of_getElem? (i := 176) rfl)) rfl
theorem flz_7 : ax_FL "java/lang/Throwable" 7 10 0 2 false false := ⟨RX11, TX11, 8, tyX11, fc_X11, by decide, Or.inl ⟨rfl, lkf_7, fun h => by cases h⟩, rfl, Or.inr (Or.inr (Or.inr ⟨rfl, Or.inl ⟨_, rfl⟩⟩)), rfl⟩
theorem flz_17 : ax_FL "java/lang/Throwable" 17 10 1 2 false false := ⟨RX11, TX11, 8, tyX11, fc_X11, by decide, Or.inl ⟨rfl, lkf_17, fun h => by cases h⟩, rfl, Or.inr (Or.inr (Or.inr ⟨rfl, Or.inr ⟨_, rfl⟩⟩)), rfl⟩
theorem flz_24 : ax_FL "java/lang/Throwable" 24 10 2 2 false false := ⟨RX11, TX11, 8, tyX11, fc_X11, by decide, Or.inl ⟨rfl, lkf_24, fun h => by cases h⟩, rfl, Or.inr (Or.inr (Or.inr ⟨rfl, Or.inl ⟨_, rfl⟩⟩)), rfl⟩
theorem flz_31 : ax_FL "java/lang/Throwable" 31 10 3 2 false false := ⟨RX11, TX11, 8, tyX11, fc_X11, by decide, Or.inl ⟨rfl, lkf_31, fun h => by cases h⟩, rfl, Or.inr (Or.inr (Or.inr ⟨rfl, Or.inl ⟨_, rfl⟩⟩)), rfl⟩
theorem dz_Re_0 : decode cz_Re 0 = .ok (.aload_n 0, 1) := by decide +kernel
theorem dz_Re_1 : decode cz_Re 1 = .ok (.aload_n 1, 1) := by decide +kernel
theorem dz_Re_2 : decode cz_Re 2 = .ok (.aload_n 2, 1) := by decide +kernel
theorem dz_Re_3 : decode cz_Re 3 = .ok (.iload_n 3, 1) := by decide +kernel
theorem dz_Re_4 : decode cz_Re 4 = .ok (.iload 4, 2) := by decide +kernel
theorem dz_Re_6 : decode cz_Re 6 = .ok (.invokespecial 16, 3) := by decide +kernel
theorem dz_Re_9 : decode cz_Re 9 = .ok (.return_, 1) := by decide +kernel
theorem dz_Ex_0 : decode cz_Ex 0 = .ok (.aload_n 0, 1) := by decide +kernel
theorem dz_Ex_1 : decode cz_Ex 1 = .ok (.aload_n 1, 1) := by decide +kernel
theorem dz_Ex_2 : decode cz_Ex 2 = .ok (.aload_n 2, 1) := by decide +kernel
theorem dz_Ex_3 : decode cz_Ex 3 = .ok (.iload_n 3, 1) := by decide +kernel
theorem dz_Ex_4 : decode cz_Ex 4 = .ok (.iload 4, 2) := by decide +kernel
theorem dz_Ex_6 : decode cz_Ex 6 = .ok (.invokespecial 16, 3) := by decide +kernel
theorem dz_Ex_9 : decode cz_Ex 9 = .ok (.return_, 1) := by decide +kernel
theorem dz_Th_0 : decode cz_Th 0 = .ok (.aload_n 0, 1) := by decide +kernel
theorem dz_Th_1 : decode cz_Th 1 = .ok (.invokespecial 1, 3) := by decide +kernel
theorem dz_Th_4 : decode cz_Th 4 = .ok (.aload_n 0, 1) := by decide +kernel
theorem dz_Th_5 : decode cz_Th 5 = .ok (.aload_n 0, 1) := by decide +kernel
theorem dz_Th_6 : decode cz_Th 6 = .ok (.putfield 7, 3) := by decide +kernel
theorem dz_Th_9 : decode cz_Th 9 = .ok (.aload_n 0, 1) := by decide +kernel
theorem dz_Th_10 : decode cz_Th 10 = .ok (.getstatic 13, 3) := by decide +kernel
theorem dz_Th_13 : decode cz_Th 13 = .ok (.putfield 17, 3) := by decide +kernel
theorem dz_Th_16 : decode cz_Th 16 = .ok (.aload_n 0, 1) := by decide +kernel
theorem dz_Th_17 : decode cz_Th 17 = .ok (.getstatic 20, 3) := by decide +kernel
theorem dz_Th_20 : decode cz_Th 20 = .ok (.putfield 24, 3) := by decide +kernel
theorem dz_Th_23 : decode cz_Th 23 = .ok (.iload 4, 2) := by decide +kernel
theorem dz_Th_25 : decode cz_Th 25 = .ok (.ifCond .eq 11, 3) := by decide +kernel
theorem dz_Th_36 : decode cz_Th 36 = .ok (.aload_n 0, 1) := by decide +kernel
theorem dz_Th_37 : decode cz_Th 37 = .ok (.aconst_null, 1) := by decide +kernel
theorem dz_Th_38 : decode cz_Th 38 = .ok (.putfield 17, 3) := by decide +kernel
theorem dz_Th_41 : decode cz_Th 41 = .ok (.aload_n 0, 1) := by decide +kernel
theorem dz_Th_42 : decode cz_Th 42 = .ok (.aload_n 1, 1) := by decide +kernel
theorem dz_Th_43 : decode cz_Th 43 = .ok (.putfield 31, 3) := by decide +kernel
theorem dz_Th_46 : decode cz_Th 46 = .ok (.aload_n 0, 1) := by decide +kernel
theorem dz_Th_47 : decode cz_Th 47 = .ok (.aload_n 2, 1) := by decide +kernel
theorem dz_Th_48 : decode cz_Th 48 = .ok (.putfield 7, 3) := by decide +kernel
theorem dz_Th_51 : decode cz_Th 51 = .ok (.iload_n 3, 1) := by decide +kernel
theorem dz_Th_52 : decode cz_Th 52 = .ok (.ifCond .ne 8, 3) := by decide +kernel
theorem dz_Th_55 : decode cz_Th 55 = .ok (.aload_n 0, 1) := by decide +kernel
theorem dz_Th_56 : decode cz_Th 56 = .ok (.aconst_null, 1) := by decide +kernel
theorem dz_Th_57 : decode cz_Th 57 = .ok (.putfield 24, 3) := by decide +kernel
theorem dz_Th_60 : decode cz_Th 60 = .ok (.return_, 1) := by decide +kernel
section AXZ
variable {l : Launch} {g : AG} {M : AM} {f k n0 nE n pc : Nat} {lv : List (Nat × Value)} {st : List Value} {h : AH} {F : AF}
theorem wp_null (hdg : decode M.2.1 pc = .ok (.aconst_null, 1)) (kk : Wp l g M f k n0 nE n (pc + 1) lv (.null :: st) h F) : Wp l g M f k n0 nE n pc lv st h F :=
  fun p e s m args below meth c C H locs ls hP hS hl => lv_null C.1 C.2.1 hdg (kk p e s m args below meth c C H locs ls hP hS hl)
theorem wp_aload_nN {z : Fin 4} {i : Nat} (j : Nat) (hdg : decode M.2.1 pc = .ok (.aload_n z, 1)) (hi : (z : Nat) = i) (hj : lv[j]? = some (i, .null)) (kk : Wp l g M f k n0 nE n (pc + 1) lv (.null :: st) h F) : Wp l g M f k n0 nE n pc lv st h F :=
  fun p e s m args below meth c C H locs ls hP hS hl => lv_aload_nN C.1 C.2.1 hdg hi (ax_at hl j hj) (kk p e s m args below meth c C H locs ls hP hS hl)
theorem wp_putN {idx ci j i : Nat} {nb : Bool} (hdg : decode M.2.1 pc = .ok (.putfield idx, 3)) (fl : ax_FL M.1.cls idx ci j 2 false nb) (hi : Is n i ci) (kk : Wp l g M f k n0 nE n (pc + 3) lv st (ax_setR h i j 0) F) : Wp l g M f k n0 nE n pc lv (.null :: .ref i :: st) h F :=
  fun p e s m args below meth c C H locs ls hP hS hl => ax_putW (h2 := ax_setR h i j 0) (v := .null) C fl (Or.inl rfl) hi hP hS hdg (by
    rintro ty (⟨h1, h2⟩ | ⟨h1, h2⟩ | ⟨h1, h2⟩ | ⟨h1, h2⟩) <;> first | (exfalso; omega) | skip
    rcases h2 with ⟨c0, rfl⟩ | ⟨c0, rfl⟩ <;> exact ⟨rfl, rfl⟩) (by simp [ax_fv, ax_setR_at, va_up, ax_ro, va_rf]) (ax_setR_o i j 0) (fun q hq => by simp [ax_setR, va_up, hq]) (fun H1 locs1 hP1 hS1 => kk p e s m args below meth c C H1 locs1 ls hP1 hS1 hl)
theorem ax_fo_ro (g : AG) (j : Nat) : va_rf (ax_ro g (ax_fn g j)) = ax_v g (ax_fo g j) := by
  unfold ax_fn ax_fo
  cases g.2.2.2.2.2.1 j <;> simp [ax_ro, va_rf, ax_v]
theorem wp_putE {idx ci j i d : Nat} {nb : Bool} (hdg : decode M.2.1 pc = .ok (.putfield idx, 3)) (fl : ax_FL M.1.cls idx ci j 2 false nb) (hi : Is n i ci) (kk : Wp l g M f k n0 nE n (pc + 3) lv st (ax_setR h i j (ax_fn g d)) F) : Wp l g M f k n0 nE n pc lv (ax_fo g d :: .ref i :: st) h F :=
  fun p e s m args below meth c C H locs ls hP hS hl => ax_putW (h2 := ax_setR h i j (ax_fn g d)) (v := ax_v g (ax_fo g d)) C fl (Or.inl rfl) hi hP hS hdg (by
    rintro ty (⟨h1, h2⟩ | ⟨h1, h2⟩ | ⟨h1, h2⟩ | ⟨h1, h2⟩) <;> first | (exfalso; omega) | skip
    unfold ax_fo
    cases g.2.2.2.2.2.1 d <;> rcases h2 with ⟨c0, rfl⟩ | ⟨c0, rfl⟩ <;> exact ⟨rfl, rfl⟩) (by rw [← ax_fo_ro]; simp [ax_fv, ax_setR_at, va_up]) (ax_setR_o i j _) (fun q hq => by simp [ax_setR, va_up, hq]) (fun H1 locs1 hP1 hS1 => kk p e s m args below meth c C H1 locs1 ls hP1 hS1 hl)
theorem ws_ext1 {idx : Nat} (hdg : decode M.2.1 pc = .ok (.getstatic idx, 3)) (hlk : Cond.fieldLink M.1.cls idx "java/lang/Throwable" "UNASSIGNED_STACK" "[Ljava/lang/StackTraceElement;" ∈ ax_G) (kk : Wp l g M f k n0 nE n (pc + 3) lv (ax_fo g 1 :: st) h F) : Wp l g M f k n0 nE n pc lv st h F :=
  fun p e s m args below meth c C H locs ls hP hS hl => va_gets C.1 C.2.1 C.2.2.2.2.2.2.2.2.1.2.2.2.2.2.2.1 hS C.2.2.2.2.1 (C.2.2.2.2.2.1 _ hlk) (fun _ q => q) hdg (kk p e s m args below meth c C H locs ls hP hS hl)
theorem ws_ext2 {idx : Nat} (hdg : decode M.2.1 pc = .ok (.getstatic idx, 3)) (hlk : Cond.fieldLink M.1.cls idx "java/lang/Throwable" "SUPPRESSED_SENTINEL" "Ljava/util/List;" ∈ ax_G) (kk : Wp l g M f k n0 nE n (pc + 3) lv (ax_fo g 2 :: st) h F) : Wp l g M f k n0 nE n pc lv st h F :=
  fun p e s m args below meth c C H locs ls hP hS hl => va_gets C.1 C.2.1 C.2.2.2.2.2.2.2.2.1.2.2.2.2.2.2.2.1 hS C.2.2.2.2.1 (C.2.2.2.2.2.1 _ hlk) (fun _ q => q) hdg (kk p e s m args below meth c C H locs ls hP hS hl)
/-- what Throwable's constructor leaves of the cell -/
def ax_thr0 (g : AG) (h : AH) (i : Nat) : AH := ax_setR (ax_setR (ax_setR (ax_setR (ax_setR (ax_setR (ax_setR h i 0 i) i 1 (ax_fn g 1)) i 2 (ax_fn g 2)) i 1 0) i 3 0) i 0 0) i 2 0
theorem cz_Th_ok {i : Nat} (hi : Is n i 10) {Q : AH → Prop} (hq : Q (ax_thr0 g h i)) : Ct l g mz_Th 1 20 n n h [.ref i, .null, .null, .int 0, .int 0] (ax_QV Q) := by
  refine ax_met rfl rfl (Nat.le_of_ble_eq_true rfl) ?_
  refine wp_aload_n 0 dz_Th_0 rfl rfl ?_
  refine wp_obj dz_Th_1 lkz_Th (Nat.le_of_ble_eq_true rfl) (by decide) (by decide) ?_
  refine wp_aload_n 0 dz_Th_4 rfl rfl ?_
  refine wp_aload_n 0 dz_Th_5 rfl rfl ?_
  refine wp_putR dz_Th_6 flz_7 (Or.inl rfl) hi (hi.ne (by decide)) ?_
  refine wp_aload_n 0 dz_Th_9 rfl rfl ?_
  refine ws_ext1 dz_Th_10 lkf_13 ?_
  refine wp_putE dz_Th_13 flz_17 hi ?_
  refine wp_aload_n 0 dz_Th_16 rfl rfl ?_
  refine ws_ext2 dz_Th_17 lkf_20 ?_
  refine wp_putE dz_Th_20 flz_24 hi ?_
  refine wp_iload 4 dz_Th_23 rfl ?_
  refine wp_if_eq (tgt := 36) dz_Th_25 (by decide) (fun _ => ?_) (fun c => absurd rfl c)
  refine wp_aload_n 0 dz_Th_36 rfl rfl ?_
  refine wp_null dz_Th_37 ?_
  refine wp_putN dz_Th_38 flz_17 hi ?_
  refine wp_aload_n 0 dz_Th_41 rfl rfl ?_
  refine wp_aload_nN 1 dz_Th_42 rfl rfl ?_
  refine wp_putN dz_Th_43 flz_31 hi ?_
  refine wp_aload_n 0 dz_Th_46 rfl rfl ?_
  refine wp_aload_nN 2 dz_Th_47 rfl rfl ?_
  refine wp_putN dz_Th_48 flz_7 hi ?_
  refine wp_iload_n 3 dz_Th_51 rfl rfl ?_
  refine wp_if_ne (tgt := 60) dz_Th_52 (by decide) (fun c => absurd rfl c) (fun _ => ?_)
  refine wp_aload_n 0 dz_Th_55 rfl rfl ?_
  refine wp_null dz_Th_56 ?_
  refine wp_putN dz_Th_57 flz_24 hi ?_
  exact wp_vret rfl dz_Th_60 ⟨rfl, hq⟩
theorem cz_Ex_ok {i : Nat} (hi : Is n i 10) {Q : AH → Prop} (hq : Q (ax_thr0 g h i)) : Ct l g mz_Ex 2 44 n n h [.ref i, .null, .null, .int 0, .int 0] (ax_QV Q) := by
  refine ax_met rfl rfl (Nat.le_of_ble_eq_true rfl) ?_
  refine wp_aload_n 0 dz_Ex_0 rfl rfl ?_
  refine wp_aload_nN 1 dz_Ex_1 rfl rfl ?_
  refine wp_aload_nN 2 dz_Ex_2 rfl rfl ?_
  refine wp_iload_n 3 dz_Ex_3 rfl rfl ?_
  refine wp_iload 4 dz_Ex_4 rfl ?_
  refine wp_callI (as := [.null, .null, .int 0, .int 0]) (n1 := n) dz_Ex_6 cbz_Th lkz_Ex rfl imz_Th rfl rfl (Nat.le_of_ble_eq_true rfl) ⟨by decide, by decide⟩ ⟨Nat.le_refl _, Nat.le_refl _, Nat.le_refl _⟩ (cz_Th_ok (Q := fun h1 => h1 = ax_thr0 g h i) hi rfl) (fun r0 h1 hb => ?_)
  obtain ⟨rfl, rfl⟩ := hb
  exact wp_vret rfl dz_Ex_9 ⟨rfl, hq⟩
theorem cz_Re_ok {i : Nat} (hi : Is n i 10) {Q : AH → Prop} (hq : Q (ax_thr0 g h i)) : Ct l g mz_Re 3 68 n n h [.ref i, .null, .null, .int 0, .int 0] (ax_QV Q) := by
  refine ax_met rfl rfl (Nat.le_of_ble_eq_true rfl) ?_
  refine wp_aload_n 0 dz_Re_0 rfl rfl ?_
  refine wp_aload_nN 1 dz_Re_1 rfl rfl ?_
  refine wp_aload_nN 2 dz_Re_2 rfl rfl ?_
  refine wp_iload_n 3 dz_Re_3 rfl rfl ?_
  refine wp_iload 4 dz_Re_4 rfl ?_
  refine wp_callI (as := [.null, .null, .int 0, .int 0]) (n1 := n) dz_Re_6 cbz_Ex lkz_Re rfl imz_Ex rfl rfl (Nat.le_of_ble_eq_true rfl) ⟨by decide, by decide⟩ ⟨Nat.le_refl _, Nat.le_refl _, Nat.le_refl _⟩ (cz_Ex_ok (Q := fun h1 => h1 = ax_thr0 g h i) hi rfl) (fun r0 h1 hb => ?_)
  obtain ⟨rfl, rfl⟩ := hb
  exact wp_vret rfl dz_Re_9 ⟨rfl, hq⟩
end AXZ
def C_X11_init (l : Launch) (g : AG) (n : Nat) (h : AH) (x0 : Nat) (Q : AH → Prop) : Prop := Ct l g mX11_init 4 120 n n h [.ref x0] (ax_QV Q)
theorem c_X11_init {l : Launch} {g : AG} {n : Nat} {h : AH} {x0 : Nat} {Q : AH → Prop} (hb : Is n x0 10 ∧ Q (ax_thr0 g h x0)) : C_X11_init l g n h x0 Q := by
  obtain ⟨hi, hq⟩ := hb
  refine ax_met rfl rfl (Nat.le_of_ble_eq_true rfl) ?_
  refine wp_aload_n 0 dX11_init_0 rfl rfl ?_
  refine wp_null dX11_init_1 ?_
  refine wp_null dX11_init_2 ?_
  refine wp_iconst (v := 0) dX11_init_3 (by decide) ?_
  refine wp_iconst (v := 0) dX11_init_4 (by decide) ?_
  refine wp_callI (as := [.null, .null, .int 0, .int 0]) (n1 := n) dX11_init_5 cbz_Re lk_X11_1 rfl imz_Re rfl rfl (Nat.le_of_ble_eq_true rfl) ⟨by decide, by decide⟩ ⟨Nat.le_refl _, Nat.le_refl _, Nat.le_refl _⟩ (cz_Re_ok (Q := fun h1 => h1 = ax_thr0 g h x0) hi rfl) (fun r0 h1 hb => ?_)
  obtain ⟨rfl, rfl⟩ := hb
  exact wp_vret rfl dX11_init_8 ⟨rfl, hq⟩
