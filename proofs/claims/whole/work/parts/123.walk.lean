def C_X6_clear (l : Launch) (g : AG) (h : AH) (x0 : Nat)  (Q : AH → Prop) : Prop := Ct l g mX6_clear 1 23 194 194 h [.ref x0] (ax_QV Q)
def L_X6_clear_0 (l : Launch) (g : AG) (h : AH) (x0 : Nat)  (Q : AH → Prop) : Prop := Wp l g mX6_clear 1 23 194 194 194 0 [(0, .ref x0)] [] h (FM g 194 194 (ax_QV Q))
set_option maxRecDepth 100000 in
set_option maxHeartbeats 4000000 in
theorem s_X6_clear_0 {l : Launch} {g : AG} {h : AH} {x0 : Nat}  {Q : AH → Prop} (hb : (Is 194 x0 5) ∧ ( ∀ h2 : AH, h2 = ax_setI h x0 0 0 → ( (Is 194 (h2.2.2 x0 6) 20) ∧ ( C_J7_fill_53178 l g h2 (h2.2.2 x0 6) 0 (fun h6 => ( Q h6)))))) : L_X6_clear_0 l g h x0  Q := by
  obtain ⟨i1, hb⟩ := hb
  refine wp_aload_n 0 dX6_clear_0 rfl rfl ?_
  refine wp_iconst (v := 0) dX6_clear_1 (by decide) ?_
  refine wp_putI dX6_clear_2 fl_X6_9 (Or.inl rfl) i1 ?_
  refine wp_topH (fun h2 e3 => ?_)
  have hb := hb h2 e3
  refine wp_aload_n 0 dX6_clear_5 rfl rfl ?_
  obtain ⟨i4, hb⟩ := hb
  refine wp_getR dX6_clear_6 fl_X6_32 i1 (i4.ne (by decide)) ?_
  refine wp_iconst (v := 0) dX6_clear_9 (by decide) ?_
  refine wp_callS (as := [.ref (h2.2.2 x0 6), .int 0]) dX6_clear_10 cb_J7_fill_53178 lk_X6_35 st_J7_fill_53178 rfl (Nat.le_of_ble_eq_true rfl) ⟨by decide, by decide⟩ ⟨Nat.le_refl _, Nat.le_refl _, Nat.le_refl _⟩ hb (fun r0 h6 hb => ?_)
  obtain ⟨rfl, hb⟩ := hb
  exact wp_vret rfl dX6_clear_13 ⟨rfl, hb⟩
theorem c_X6_clear {l : Launch} {g : AG} {h : AH} {x0 : Nat}  {Q : AH → Prop} (hb : L_X6_clear_0 l g h x0  Q) : C_X6_clear l g h x0  Q := ax_met rfl (Nat.le_of_ble_eq_true rfl) hb
def C_X6_keep (l : Launch) (g : AG) (h : AH) (x0 : Nat) (x1 : Int32) (x2 : Int64) (x4 : Int64) (x6 : Int32) (x7 : Int32)  (Q : Int32 → AH → Prop) : Prop := Ct l g mX6_keep 0 0 194 194 h [.ref x0, .int x1, .long x2, .long x4, .int x6, .int x7] (ax_QI Q)
def L_X6_keep_0 (l : Launch) (g : AG) (h : AH) (x0 : Nat) (x1 : Int32) (x2 : Int64) (x4 : Int64) (x6 : Int32) (x7 : Int32)  (Q : Int32 → AH → Prop) : Prop := Wp l g mX6_keep 0 0 194 194 194 0 [(0, .ref x0), (1, .int x1), (2, .long x2), (4, .long x4), (6, .int x6), (7, .int x7)] [] h (FM g 194 194 (ax_QI Q))
def L_X6_keep_65 (l : Launch) (g : AG) (h : AH) (x0 : Nat) (x1 : Int32) (x8 : Int32) (s0 : Int32) (s1 : Int32) (s2 : Nat) (Q : Int32 → AH → Prop) : Prop := Wp l g mX6_keep 0 0 194 194 194 65 [(0, .ref x0), (1, .int x1), (8, .int x8)] [.int s0, .int s1, .ref s2] h (FM g 194 194 (ax_QI Q))
set_option maxRecDepth 100000 in
set_option maxHeartbeats 4000000 in
theorem s_X6_keep_0 {l : Launch} {g : AG} {h : AH} {x0 : Nat} {x1 : Int32} {x2 : Int64} {x4 : Int64} {x6 : Int32} {x7 : Int32}  {Q : Int32 → AH → Prop} (hb : (Is 194 x0 5) ∧ ( ∀ v2 : Int32, v2 = (h.1 x0 0) → ( (Is 194 (h.2.2 x0 1) 21) ∧ ( (vp_in v2 (ax_s (h.2.2 x0 1)).2) ∧ ( ∀ h6 : AH, h6 = ax_setL h (h.2.2 x0 1) v2.toNatClampNeg x2 → ( (Is 194 (h6.2.2 x0 2) 21) ∧ ( (vp_in v2 (ax_s (h6.2.2 x0 2)).2) ∧ ( ∀ h10 : AH, h10 = ax_setL h6 (h6.2.2 x0 2) v2.toNatClampNeg x4 → ( (Is 194 (h10.2.2 x0 3) 20) ∧ ( (vp_in v2 (ax_s (h10.2.2 x0 3)).2) ∧ ( ∀ h14 : AH, h14 = ax_setI h10 (h10.2.2 x0 3) v2.toNatClampNeg x6 → ( (Is 194 (h14.2.2 x0 4) 20) ∧ ( (vp_in v2 (ax_s (h14.2.2 x0 4)).2) ∧ ( ∀ h18 : AH, h18 = ax_setI h14 (h14.2.2 x0 4) v2.toNatClampNeg x7 → ( (Is 194 (h18.2.2 x0 5) 20) ∧ ( ((0 ≤ x6 → ((Is 194 (h18.2.2 x0 5) 20) ∧ ( (vp_in x6 (ax_s (h18.2.2 x0 5)).2) ∧ ( L_X6_keep_65 l g h18 x0 x1 v2 ((h18.1 (h18.2.2 x0 5) x6.toNatClampNeg) + 1) v2 (h18.2.2 x0 5) Q)))) ∧ (¬ (0 ≤ x6) → (L_X6_keep_65 l g h18 x0 x1 v2 0 v2 (h18.2.2 x0 5) Q))))))))))))))))))) : L_X6_keep_0 l g h x0 x1 x2 x4 x6 x7  Q := by
  obtain ⟨i1, hb⟩ := hb
  refine wp_aload_n 0 dX6_keep_0 rfl rfl ?_
  refine wp_getI dX6_keep_1 fl_X6_9 i1 ?_
  refine wp_topi (fun v2 e3 => ?_)
  have hb := hb v2 e3
  refine wp_istore (lv2 := [(8, .int v2), (0, .ref x0), (1, .int x1), (2, .long x2), (4, .long x4), (6, .int x6), (7, .int x7)]) dX6_keep_4 (by decide) rfl ?_
  refine wp_aload_n 1 dX6_keep_6 rfl rfl ?_
  obtain ⟨i4, hb⟩ := hb
  refine wp_getR dX6_keep_7 fl_X6_15 i1 (i4.ne (by decide)) ?_
  refine wp_iload 0 dX6_keep_10 rfl ?_
  refine wp_lload_n 3 dX6_keep_12 rfl rfl ?_
  obtain ⟨b5, hb⟩ := hb
  refine wp_lastore dX6_keep_13 i4 b5 ?_
  refine wp_topH (fun h6 e7 => ?_)
  have hb := hb h6 e7
  refine wp_aload_n 1 dX6_keep_14 rfl rfl ?_
  obtain ⟨i8, hb⟩ := hb
  refine wp_getR dX6_keep_15 fl_X6_19 i1 (i8.ne (by decide)) ?_
  refine wp_iload 0 dX6_keep_18 rfl ?_
  refine wp_lload 4 dX6_keep_20 rfl ?_
  obtain ⟨b9, hb⟩ := hb
  refine wp_lastore dX6_keep_22 i8 b9 ?_
  refine wp_topH (fun h10 e11 => ?_)
  have hb := hb h10 e11
  refine wp_aload_n 1 dX6_keep_23 rfl rfl ?_
  obtain ⟨i12, hb⟩ := hb
  refine wp_getR dX6_keep_24 fl_X6_22 i1 (i12.ne (by decide)) ?_
  refine wp_iload 0 dX6_keep_27 rfl ?_
  refine wp_iload 5 dX6_keep_29 rfl ?_
  obtain ⟨b13, hb⟩ := hb
  refine wp_iastore dX6_keep_31 i12 b13 ?_
  refine wp_topH (fun h14 e15 => ?_)
  have hb := hb h14 e15
  refine wp_aload_n 1 dX6_keep_32 rfl rfl ?_
  obtain ⟨i16, hb⟩ := hb
  refine wp_getR dX6_keep_33 fl_X6_26 i1 (i16.ne (by decide)) ?_
  refine wp_iload 0 dX6_keep_36 rfl ?_
  refine wp_iload 6 dX6_keep_38 rfl ?_
  obtain ⟨b17, hb⟩ := hb
  refine wp_iastore dX6_keep_40 i16 b17 ?_
  refine wp_topH (fun h18 e19 => ?_)
  have hb := hb h18 e19
  refine wp_aload_n 1 dX6_keep_41 rfl rfl ?_
  obtain ⟨i20, hb⟩ := hb
  refine wp_getR dX6_keep_42 fl_X6_29 i1 (i20.ne (by decide)) ?_
  refine wp_iload 0 dX6_keep_45 rfl ?_
  refine wp_iload 5 dX6_keep_47 rfl ?_
  refine wp_if_ge (tgt := 56) dX6_keep_49 (by decide) (fun c21 => ?_) (fun c21 => ?_)
  · have hb := hb.1 c21
    refine wp_aload_n 1 dX6_keep_56 rfl rfl ?_
    obtain ⟨i22, hb⟩ := hb
    refine wp_getR dX6_keep_57 fl_X6_29 i1 (i22.ne (by decide)) ?_
    refine wp_iload 5 dX6_keep_60 rfl ?_
    obtain ⟨b23, hb⟩ := hb
    refine wp_iaload dX6_keep_62 i22 b23 ?_
    refine wp_iconst (v := 1) dX6_keep_63 (by decide) ?_
    refine wp_iadd dX6_keep_64 ?_
    exact wp_sub [1, 2, 0] rfl hb
  · have hb := hb.2 c21
    refine wp_iconst (v := 0) dX6_keep_52 (by decide) ?_
    refine wp_goto (tgt := 65) dX6_keep_53 (by decide) ?_
    exact wp_sub [1, 2, 0] rfl hb
set_option maxRecDepth 100000 in
set_option maxHeartbeats 4000000 in
theorem s_X6_keep_65 {l : Launch} {g : AG} {h : AH} {x0 : Nat} {x1 : Int32} {x8 : Int32} {s0 : Int32} {s1 : Int32} {s2 : Nat} {Q : Int32 → AH → Prop} (hb : (Is 194 s2 20) ∧ ( (vp_in s1 (ax_s s2).2) ∧ ( ∀ h26 : AH, h26 = ax_setI h s2 s1.toNatClampNeg s0 → ( (Is 194 x0 5) ∧ ( ∀ h29 : AH, h29 = ax_setI h26 x0 0 ((h26.1 x0 0) + 1) → ( (Is 194 (h29.2.2 x0 6) 20) ∧ ( (vp_in x1 (ax_s (h29.2.2 x0 6)).2) ∧ ( ∀ h33 : AH, h33 = ax_setI h29 (h29.2.2 x0 6) x1.toNatClampNeg (h29.1 x0 0) → ( Q x8 h33))))))))) : L_X6_keep_65 l g h x0 x1 x8 s0 s1 s2 Q := by
  obtain ⟨i24, hb⟩ := hb
  obtain ⟨b25, hb⟩ := hb
  refine wp_iastore dX6_keep_65 i24 b25 ?_
  refine wp_topH (fun h26 e27 => ?_)
  have hb := hb h26 e27
  obtain ⟨i28, hb⟩ := hb
  refine wp_aload_n 0 dX6_keep_66 rfl rfl ?_
  refine wp_dup dX6_keep_67 rfl ?_
  refine wp_getI dX6_keep_68 fl_X6_9 i28 ?_
  refine wp_iconst (v := 1) dX6_keep_71 (by decide) ?_
  refine wp_iadd dX6_keep_72 ?_
  refine wp_putI dX6_keep_73 fl_X6_9 (Or.inl rfl) i28 ?_
  refine wp_topH (fun h29 e30 => ?_)
  have hb := hb h29 e30
  refine wp_aload_n 0 dX6_keep_76 rfl rfl ?_
  obtain ⟨i31, hb⟩ := hb
  refine wp_getR dX6_keep_77 fl_X6_32 i28 (i31.ne (by decide)) ?_
  refine wp_iload_n 1 dX6_keep_80 rfl rfl ?_
  refine wp_aload_n 0 dX6_keep_81 rfl rfl ?_
  refine wp_getI dX6_keep_82 fl_X6_9 i28 ?_
  obtain ⟨b32, hb⟩ := hb
  refine wp_iastore dX6_keep_85 i31 b32 ?_
  refine wp_topH (fun h33 e34 => ?_)
  have hb := hb h33 e34
  refine wp_iload 2 dX6_keep_86 rfl ?_
  exact wp_iret rfl dX6_keep_88 ⟨_, rfl, hb⟩
theorem c_X6_keep {l : Launch} {g : AG} {h : AH} {x0 : Nat} {x1 : Int32} {x2 : Int64} {x4 : Int64} {x6 : Int32} {x7 : Int32}  {Q : Int32 → AH → Prop} (hb : L_X6_keep_0 l g h x0 x1 x2 x4 x6 x7  Q) : C_X6_keep l g h x0 x1 x2 x4 x6 x7  Q := ax_met rfl (Nat.le_of_ble_eq_true rfl) hb
def C_X6_meet (l : Launch) (g : AG) (h : AH) (x0 : Nat) (x1 : Int64) (x3 : Int64) (x5 : Int32) (x6 : Int32)  (Q : Int32 → AH → Prop) : Prop := Ct l g mX6_meet 1 28 194 194 h [.ref x0, .long x1, .long x3, .int x5, .int x6] (ax_QI Q)
def L_X6_meet_0 (l : Launch) (g : AG) (h : AH) (x0 : Nat) (x1 : Int64) (x3 : Int64) (x5 : Int32) (x6 : Int32)  (Q : Int32 → AH → Prop) : Prop := Wp l g mX6_meet 1 28 194 194 194 0 [(0, .ref x0), (1, .long x1), (3, .long x3), (5, .int x5), (6, .int x6)] [] h (FM g 194 194 (ax_QI Q))
def L_X6_meet_20 (l : Launch) (g : AG) (h : AH) (x0 : Nat) (x1 : Int64) (x3 : Int64) (x5 : Int32) (x6 : Int32) (x7 : Int32) (x8 : Int32)  (Q : Int32 → AH → Prop) : Prop := Wp l g mX6_meet 1 28 194 194 194 20 [(0, .ref x0), (1, .long x1), (3, .long x3), (5, .int x5), (6, .int x6), (7, .int x7), (8, .int x8)] [] h (FM g 194 194 (ax_QI Q))
set_option maxRecDepth 100000 in
set_option maxHeartbeats 4000000 in
theorem s_X6_meet_0 {l : Launch} {g : AG} {h : AH} {x0 : Nat} {x1 : Int64} {x3 : Int64} {x5 : Int32} {x6 : Int32}  {Q : Int32 → AH → Prop} (hb : ∀ v1 : Int64, v1 = ((x1 * (-7046029254386353131)) + (x3 * (-4417276706812531889))) → ( ∀ v3 : Int32, v3 = ((jlushr v1 54).toInt32) → ( L_X6_meet_20 l g h x0 x1 x3 x5 x6 v3 0  Q))) : L_X6_meet_0 l g h x0 x1 x3 x5 x6  Q := by
  refine wp_lload_n 1 dX6_meet_0 rfl rfl ?_
  refine wp_ldc2 (v := (-7046029254386353131)) dX6_meet_1 lk_X6_41 ?_
  refine wp_lmul dX6_meet_4 ?_
  refine wp_lload_n 2 dX6_meet_5 rfl rfl ?_
  refine wp_ldc2 (v := (-4417276706812531889)) dX6_meet_6 lk_X6_43 ?_
  refine wp_lmul dX6_meet_9 ?_
  refine wp_ladd dX6_meet_10 ?_
  refine wp_topl (fun v1 e2 => ?_)
  have hb := hb v1 e2
  refine wp_bipush (v := 54) dX6_meet_11 (by decide) ?_
  refine wp_lushr dX6_meet_13 ?_
  refine wp_l2i dX6_meet_14 ?_
  refine wp_topi (fun v3 e4 => ?_)
  have hb := hb v3 e4
  refine wp_istore (lv2 := [(7, .int v3), (0, .ref x0), (1, .long x1), (3, .long x3), (5, .int x5), (6, .int x6)]) dX6_meet_15 (by decide) rfl ?_
  refine wp_iconst (v := 0) dX6_meet_17 (by decide) ?_
  refine wp_istore (lv2 := [(8, .int 0), (7, .int v3), (0, .ref x0), (1, .long x1), (3, .long x3), (5, .int x5), (6, .int x6)]) dX6_meet_18 (by decide) rfl ?_
  exact wp_sub [2, 3, 4, 5, 6, 1, 0] rfl hb
set_option maxRecDepth 100000 in
set_option maxHeartbeats 4000000 in
theorem s_X6_meet_20 {l : Launch} {g : AG} {h : AH} {x0 : Nat} {x1 : Int64} {x3 : Int64} {x5 : Int32} {x6 : Int32} {x7 : Int32} {x8 : Int32}  {Q : Int32 → AH → Prop} (hb : ((1024 ≤ x8 → (Q (-1) h)) ∧ (¬ (1024 ≤ x8) → (∀ v6 : Int32, v6 = ((x7 + x8) &&& 1023) → ( (Is 194 x0 5) ∧ ( (Is 194 (h.2.2 x0 6) 20) ∧ ( (vp_in v6 (ax_s (h.2.2 x0 6)).2) ∧ ( ∀ v11 : Int32, v11 = ((h.1 (h.2.2 x0 6) v6.toNatClampNeg) - 1) → ( ((0 ≤ v11 → ((Is 194 (h.2.2 x0 1) 21) ∧ ( (vp_in v11 (ax_s (h.2.2 x0 1)).2) ∧ ( ((¬ lg_cmp (h.2.1 (h.2.2 x0 1) v11.toNatClampNeg) x1 = 0 → (∀ v17 : Int32, v17 = x8 + (1) → ( L_X6_meet_20 l g h x0 x1 x3 x5 x6 x7 v17  Q))) ∧ (lg_cmp (h.2.1 (h.2.2 x0 1) v11.toNatClampNeg) x1 = 0 → ((Is 194 (h.2.2 x0 2) 21) ∧ ( (vp_in v11 (ax_s (h.2.2 x0 2)).2) ∧ ( ((¬ lg_cmp (h.2.1 (h.2.2 x0 2) v11.toNatClampNeg) x3 = 0 → (∀ v22 : Int32, v22 = x8 + (1) → ( L_X6_meet_20 l g h x0 x1 x3 x5 x6 x7 v22  Q))) ∧ (lg_cmp (h.2.1 (h.2.2 x0 2) v11.toNatClampNeg) x3 = 0 → (Q v11 h)))))))))))) ∧ (¬ (0 ≤ v11) → (((400 ≤ h.1 x0 0 → (Q (-1) h)) ∧ (¬ (400 ≤ h.1 x0 0) → (C_X6_keep l g h x0 v6 x1 x3 x5 x6 (fun r27 h26 => ( Q r27 h26))))))))))))))))) : L_X6_meet_20 l g h x0 x1 x3 x5 x6 x7 x8  Q := by
  refine wp_iload 6 dX6_meet_20 rfl ?_
  refine wp_sipush (v := 1024) dX6_meet_22 (by decide) ?_
  refine wp_icmp_ge (tgt := 115) dX6_meet_25 (by decide) (fun c5 => ?_) (fun c5 => ?_)
  · have hb := hb.1 c5
    refine wp_iconst (v := (-1)) dX6_meet_115 (by decide) ?_
    exact wp_iret rfl dX6_meet_116 ⟨_, rfl, hb⟩
  · have hb := hb.2 c5
    refine wp_iload 5 dX6_meet_28 rfl ?_
    refine wp_iload 6 dX6_meet_30 rfl ?_
    refine wp_iadd dX6_meet_32 ?_
    refine wp_sipush (v := 1023) dX6_meet_33 (by decide) ?_
    refine wp_iand dX6_meet_36 ?_
    refine wp_topi (fun v6 e7 => ?_)
    have hb := hb v6 e7
    refine wp_istore (lv2 := [(9, .int v6), (0, .ref x0), (1, .long x1), (3, .long x3), (5, .int x5), (6, .int x6), (7, .int x7), (8, .int x8)]) dX6_meet_37 (by decide) rfl ?_
    obtain ⟨i8, hb⟩ := hb
    refine wp_aload_n 1 dX6_meet_39 rfl rfl ?_
    obtain ⟨i9, hb⟩ := hb
    refine wp_getR dX6_meet_40 fl_X6_32 i8 (i9.ne (by decide)) ?_
    refine wp_iload 0 dX6_meet_43 rfl ?_
    obtain ⟨b10, hb⟩ := hb
    refine wp_iaload dX6_meet_45 i9 b10 ?_
    refine wp_iconst (v := 1) dX6_meet_46 (by decide) ?_
    refine wp_isub dX6_meet_47 ?_
    refine wp_topi (fun v11 e12 => ?_)
    have hb := hb v11 e12
    refine wp_istore (lv2 := [(10, .int v11), (9, .int v6), (0, .ref x0), (1, .long x1), (3, .long x3), (5, .int x5), (6, .int x6), (7, .int x7), (8, .int x8)]) dX6_meet_48 (by decide) rfl ?_
    refine wp_iload 0 dX6_meet_50 rfl ?_
    refine wp_if_ge (tgt := 82) dX6_meet_52 (by decide) (fun c13 => ?_) (fun c13 => ?_)
    · have hb := hb.1 c13
      refine wp_aload_n 2 dX6_meet_82 rfl rfl ?_
      obtain ⟨i14, hb⟩ := hb
      refine wp_getR dX6_meet_83 fl_X6_15 i8 (i14.ne (by decide)) ?_
      refine wp_iload 0 dX6_meet_86 rfl ?_
      obtain ⟨b15, hb⟩ := hb
      refine wp_laload dX6_meet_88 i14 b15 ?_
      refine wp_lload_n 3 dX6_meet_89 rfl rfl ?_
      refine wp_lcmp dX6_meet_90 ?_
      refine wp_if_ne (tgt := 109) dX6_meet_91 (by decide) (fun c16 => ?_) (fun c16 => ?_)
      · have hb := hb.1 c16
        obtain ⟨v17, e18⟩ : ∃ y : Int32, y = x8 + (1) := ⟨_, rfl⟩
        have hb := hb v17 e18
        refine wp_iinc (v := v17) (lv2 := [(8, .int v17), (10, .int v11), (9, .int v6), (0, .ref x0), (1, .long x1), (3, .long x3), (5, .int x5), (6, .int x6), (7, .int x7)]) 8 dX6_meet_109 rfl (by rw [e18]; rfl) (by decide) rfl ?_
        refine wp_goto (tgt := 20) dX6_meet_112 (by decide) ?_
        exact wp_sub [3, 4, 5, 6, 7, 8, 0] rfl hb
      · have hb := hb.2 c16
        refine wp_aload_n 2 dX6_meet_94 rfl rfl ?_
        obtain ⟨i19, hb⟩ := hb
        refine wp_getR dX6_meet_95 fl_X6_19 i8 (i19.ne (by decide)) ?_
        refine wp_iload 0 dX6_meet_98 rfl ?_
        obtain ⟨b20, hb⟩ := hb
        refine wp_laload dX6_meet_100 i19 b20 ?_
        refine wp_lload_n 4 dX6_meet_101 rfl rfl ?_
        refine wp_lcmp dX6_meet_102 ?_
        refine wp_if_ne (tgt := 109) dX6_meet_103 (by decide) (fun c21 => ?_) (fun c21 => ?_)
        · have hb := hb.1 c21
          obtain ⟨v22, e23⟩ : ∃ y : Int32, y = x8 + (1) := ⟨_, rfl⟩
          have hb := hb v22 e23
          refine wp_iinc (v := v22) (lv2 := [(8, .int v22), (10, .int v11), (9, .int v6), (0, .ref x0), (1, .long x1), (3, .long x3), (5, .int x5), (6, .int x6), (7, .int x7)]) 8 dX6_meet_109 rfl (by rw [e23]; rfl) (by decide) rfl ?_
          refine wp_goto (tgt := 20) dX6_meet_112 (by decide) ?_
          exact wp_sub [3, 4, 5, 6, 7, 8, 0] rfl hb
        · have hb := hb.2 c21
          refine wp_iload 0 dX6_meet_106 rfl ?_
          exact wp_iret rfl dX6_meet_108 ⟨_, rfl, hb⟩
    · have hb := hb.2 c13
      refine wp_aload_n 2 dX6_meet_55 rfl rfl ?_
      refine wp_getI dX6_meet_56 fl_X6_9 i8 ?_
      refine wp_sipush (v := 400) dX6_meet_59 (by decide) ?_
      refine wp_icmp_ge (tgt := 80) dX6_meet_62 (by decide) (fun c24 => ?_) (fun c24 => ?_)
      · have hb := hb.1 c24
        refine wp_iconst (v := (-1)) dX6_meet_80 (by decide) ?_
        exact wp_iret rfl dX6_meet_81 ⟨_, rfl, hb⟩
      · have hb := hb.2 c24
        refine wp_aload_n 2 dX6_meet_65 rfl rfl ?_
        refine wp_iload 1 dX6_meet_66 rfl ?_
        refine wp_lload_n 3 dX6_meet_68 rfl rfl ?_
        refine wp_lload_n 4 dX6_meet_69 rfl rfl ?_
        refine wp_iload 5 dX6_meet_70 rfl ?_
        refine wp_iload 6 dX6_meet_72 rfl ?_
        refine wp_callV (as := [.int v6, .long x1, .long x3, .int x5, .int x6]) dX6_meet_74 cb_X6_keep lk_X6_45 im_X6_keep se_X6_keep rfl (Nat.le_of_ble_eq_true rfl) ⟨by decide, by decide⟩ ⟨Nat.le_refl _, Nat.le_refl _, Nat.le_refl _⟩ i8 rfl (by decide) hb (fun r0 h26 hb => ?_)
        obtain ⟨r27, rfl, hb⟩ := hb
        refine wp_goto (tgt := 81) dX6_meet_77 (by decide) ?_
        exact wp_iret rfl dX6_meet_81 ⟨_, rfl, hb⟩
theorem c_X6_meet {l : Launch} {g : AG} {h : AH} {x0 : Nat} {x1 : Int64} {x3 : Int64} {x5 : Int32} {x6 : Int32}  {Q : Int32 → AH → Prop} (hb : L_X6_meet_0 l g h x0 x1 x3 x5 x6  Q) : C_X6_meet l g h x0 x1 x3 x5 x6  Q := ax_met rfl (Nat.le_of_ble_eq_true rfl) hb
