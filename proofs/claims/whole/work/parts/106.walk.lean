def C_X3_withValue (l : Launch) (g : AG) (h : AH) (x0 : Int64) (x2 : Int32) (x3 : Int32)  (Q : Int64 → AH → Prop) : Prop := Ct l g mX3_withValue 0 0 194 194 h [.long x0, .int x2, .int x3] (ax_QL Q)
def L_X3_withValue_0 (l : Launch) (g : AG) (h : AH) (x0 : Int64) (x2 : Int32) (x3 : Int32)  (Q : Int64 → AH → Prop) : Prop := Wp l g mX3_withValue 0 0 194 194 194 0 [(0, .long x0), (2, .int x2), (3, .int x3)] [] h (FM g 194 194 (ax_QL Q))
set_option maxRecDepth 100000 in
set_option maxHeartbeats 4000000 in
theorem s_X3_withValue_0 {l : Launch} {g : AG} {h : AH} {x0 : Int64} {x2 : Int32} {x3 : Int32}  {Q : Int64 → AH → Prop} (hb : ∀ v1 : Int64, v1 = ((x0 &&& ((jlshl 15 (4 * x2)) ^^^ (-1))) ||| (jlshl x3.toInt64 (4 * x2))) → ( Q v1 h)) : L_X3_withValue_0 l g h x0 x2 x3  Q := by
  refine wp_lload_n 0 dX3_withValue_0 rfl rfl ?_
  refine wp_ldc2 (v := 15) dX3_withValue_1 lk_X3_21 ?_
  refine wp_iconst (v := 4) dX3_withValue_4 (by decide) ?_
  refine wp_iload_n 1 dX3_withValue_5 rfl rfl ?_
  refine wp_imul dX3_withValue_6 ?_
  refine wp_lshl dX3_withValue_7 ?_
  refine wp_ldc2 (v := (-1)) dX3_withValue_8 lk_X3_23 ?_
  refine wp_lxor dX3_withValue_11 ?_
  refine wp_land dX3_withValue_12 ?_
  refine wp_iload_n 2 dX3_withValue_13 rfl rfl ?_
  refine wp_i2l dX3_withValue_14 ?_
  refine wp_iconst (v := 4) dX3_withValue_15 (by decide) ?_
  refine wp_iload_n 1 dX3_withValue_16 rfl rfl ?_
  refine wp_imul dX3_withValue_17 ?_
  refine wp_lshl dX3_withValue_18 ?_
  refine wp_lor dX3_withValue_19 ?_
  refine wp_topl (fun v1 e2 => ?_)
  have hb := hb v1 e2
  exact wp_lret rfl dX3_withValue_20 ⟨_, rfl, hb⟩
theorem c_X3_withValue {l : Launch} {g : AG} {h : AH} {x0 : Int64} {x2 : Int32} {x3 : Int32}  {Q : Int64 → AH → Prop} (hb : L_X3_withValue_0 l g h x0 x2 x3  Q) : C_X3_withValue l g h x0 x2 x3  Q := ax_met rfl (Nat.le_of_ble_eq_true rfl) hb
def C_X0_addVar (l : Launch) (g : AG) (h : AH) (x0 : Nat) (x1 : Int64) (x3 : Int32) (x4 : Int32)  (Q : AH → Prop) : Prop := Ct l g mX0_addVar 1 23 194 194 h [.ref x0, .long x1, .int x3, .int x4] (ax_QV Q)
def L_X0_addVar_0 (l : Launch) (g : AG) (h : AH) (x0 : Nat) (x1 : Int64) (x3 : Int32) (x4 : Int32)  (Q : AH → Prop) : Prop := Wp l g mX0_addVar 1 23 194 194 194 0 [(0, .ref x0), (1, .long x1), (3, .int x3), (4, .int x4)] [] h (FM g 194 194 (ax_QV Q))
set_option maxRecDepth 100000 in
set_option maxHeartbeats 4000000 in
theorem s_X0_addVar_0 {l : Launch} {g : AG} {h : AH} {x0 : Nat} {x1 : Int64} {x3 : Int32} {x4 : Int32}  {Q : AH → Prop} (hb : (Is 194 x0 0) ∧ ( (Is 194 (h.2.2 x0 7) 21) ∧ ( (vp_in (h.1 x0 2) (ax_s (h.2.2 x0 7)).2) ∧ ( ∀ h4 : AH, h4 = ax_setL h (h.2.2 x0 7) (h.1 x0 2).toNatClampNeg x1 → ( (Is 194 (h4.2.2 x0 10) 20) ∧ ( (vp_in (h4.1 x0 2) (ax_s (h4.2.2 x0 10)).2) ∧ ( ∀ h8 : AH, h8 = ax_setI h4 (h4.2.2 x0 10) (h4.1 x0 2).toNatClampNeg x3 → ( ((x4 = 0 → (∀ h11 : AH, h11 = ax_setI h8 x0 2 ((h8.1 x0 2) + 1) → ( Q h11))) ∧ (¬ (x4 = 0) → (∀ h13 : AH, h13 = ax_setI h8 x0 3 ((h8.1 x0 3) + 1) → ( C_X3_withValue l g h13 (h13.2.1 x0 6) (h13.1 x0 2) 15 (fun r17 h16 => ( ∀ h18 : AH, h18 = ax_setL h16 x0 6 r17 → ( ∀ h20 : AH, h20 = ax_setI h18 x0 2 ((h18.1 x0 2) + 1) → ( Q h20)))))))))))))))) : L_X0_addVar_0 l g h x0 x1 x3 x4  Q := by
  obtain ⟨i1, hb⟩ := hb
  refine wp_aload_n 0 dX0_addVar_0 rfl rfl ?_
  obtain ⟨i2, hb⟩ := hb
  refine wp_getR dX0_addVar_1 fl_X0_34 i1 (i2.ne (by decide)) ?_
  refine wp_aload_n 0 dX0_addVar_4 rfl rfl ?_
  refine wp_getI dX0_addVar_5 fl_X0_18 i1 ?_
  refine wp_lload_n 1 dX0_addVar_8 rfl rfl ?_
  obtain ⟨b3, hb⟩ := hb
  refine wp_lastore dX0_addVar_9 i2 b3 ?_
  refine wp_topH (fun h4 e5 => ?_)
  have hb := hb h4 e5
  refine wp_aload_n 0 dX0_addVar_10 rfl rfl ?_
  obtain ⟨i6, hb⟩ := hb
  refine wp_getR dX0_addVar_11 fl_X0_44 i1 (i6.ne (by decide)) ?_
  refine wp_aload_n 0 dX0_addVar_14 rfl rfl ?_
  refine wp_getI dX0_addVar_15 fl_X0_18 i1 ?_
  refine wp_iload_n 2 dX0_addVar_18 rfl rfl ?_
  obtain ⟨b7, hb⟩ := hb
  refine wp_iastore dX0_addVar_19 i6 b7 ?_
  refine wp_topH (fun h8 e9 => ?_)
  have hb := hb h8 e9
  refine wp_iload 3 dX0_addVar_20 rfl ?_
  refine wp_if_eq (tgt := 52) dX0_addVar_22 (by decide) (fun c10 => ?_) (fun c10 => ?_)
  · have hb := hb.1 c10
    refine wp_aload_n 0 dX0_addVar_52 rfl rfl ?_
    refine wp_dup dX0_addVar_53 rfl ?_
    refine wp_getI dX0_addVar_54 fl_X0_18 i1 ?_
    refine wp_iconst (v := 1) dX0_addVar_57 (by decide) ?_
    refine wp_iadd dX0_addVar_58 ?_
    refine wp_putI dX0_addVar_59 fl_X0_18 (Or.inl rfl) i1 ?_
    refine wp_topH (fun h11 e12 => ?_)
    have hb := hb h11 e12
    exact wp_vret rfl dX0_addVar_62 ⟨rfl, hb⟩
  · have hb := hb.2 c10
    refine wp_aload_n 0 dX0_addVar_25 rfl rfl ?_
    refine wp_dup dX0_addVar_26 rfl ?_
    refine wp_getI dX0_addVar_27 fl_X0_21 i1 ?_
    refine wp_iconst (v := 1) dX0_addVar_30 (by decide) ?_
    refine wp_iadd dX0_addVar_31 ?_
    refine wp_putI dX0_addVar_32 fl_X0_21 (Or.inl rfl) i1 ?_
    refine wp_topH (fun h13 e14 => ?_)
    have hb := hb h13 e14
    refine wp_aload_n 0 dX0_addVar_35 rfl rfl ?_
    refine wp_aload_n 0 dX0_addVar_36 rfl rfl ?_
    refine wp_getL dX0_addVar_37 fl_X0_30 i1 ?_
    refine wp_aload_n 0 dX0_addVar_40 rfl rfl ?_
    refine wp_getI dX0_addVar_41 fl_X0_18 i1 ?_
    refine wp_bipush (v := 15) dX0_addVar_44 (by decide) ?_
    refine wp_callSN (as := [.long (h13.2.1 x0 6), .int (h13.1 x0 2), .int 15]) dX0_addVar_46 cb_X3_withValue lk_X0_80 st_X3_withValue rfl (Nat.le_of_ble_eq_true rfl) ⟨by decide, by decide⟩ ⟨Nat.le_refl _, Nat.le_refl _, Nat.le_refl _⟩ hb (fun r0 h16 hb => ?_)
    obtain ⟨r17, rfl, hb⟩ := hb
    refine wp_putL dX0_addVar_49 fl_X0_30 (Or.inl rfl) i1 ?_
    refine wp_topH (fun h18 e19 => ?_)
    have hb := hb h18 e19
    refine wp_aload_n 0 dX0_addVar_52 rfl rfl ?_
    refine wp_dup dX0_addVar_53 rfl ?_
    refine wp_getI dX0_addVar_54 fl_X0_18 i1 ?_
    refine wp_iconst (v := 1) dX0_addVar_57 (by decide) ?_
    refine wp_iadd dX0_addVar_58 ?_
    refine wp_putI dX0_addVar_59 fl_X0_18 (Or.inl rfl) i1 ?_
    refine wp_topH (fun h20 e21 => ?_)
    have hb := hb h20 e21
    exact wp_vret rfl dX0_addVar_62 ⟨rfl, hb⟩
theorem c_X0_addVar {l : Launch} {g : AG} {h : AH} {x0 : Nat} {x1 : Int64} {x3 : Int32} {x4 : Int32}  {Q : AH → Prop} (hb : L_X0_addVar_0 l g h x0 x1 x3 x4  Q) : C_X0_addVar l g h x0 x1 x3 x4  Q := ax_met rfl (Nat.le_of_ble_eq_true rfl) hb
def C_X7_takeVarMost (l : Launch) (g : AG) (h : AH) (x0 : Nat)  (Q : Int32 → AH → Prop) : Prop := Ct l g mX7_takeVarMost 2 47 194 194 h [.ref x0] (ax_QI Q)
def L_X7_takeVarMost_0 (l : Launch) (g : AG) (h : AH) (x0 : Nat)  (Q : Int32 → AH → Prop) : Prop := Wp l g mX7_takeVarMost 2 47 194 194 194 0 [(0, .ref x0)] [] h (FM g 194 194 (ax_QI Q))
set_option maxRecDepth 100000 in
set_option maxHeartbeats 4000000 in
theorem s_X7_takeVarMost_0 {l : Launch} {g : AG} {h : AH} {x0 : Nat}  {Q : Int32 → AH → Prop} (hb : (Is 194 x0 6) ∧ ( C_X7_isNumber l g h x0 1 9 (fun r4 h3 => ( ((¬ r4 = 0 → ((Is 194 (h3.2.2 x0 1) 0) ∧ ( (Is 194 (h3.2.2 x0 0) 7) ∧ ( C_X0_addVar l g h3 (h3.2.2 x0 1) (h3.2.1 x0 5) (h3.1 (h3.2.2 x0 0) 6) (h3.1 x0 6) (fun h9 => ( C_X7_awaits l g h9 x0 3 (fun r12 h11 => ( (r12 = 0 ∨ r12 = 1) ∧ ( Q r12 h11))))))))) ∧ (r4 = 0 → (Q 0 h3))))))) : L_X7_takeVarMost_0 l g h x0  Q := by
  obtain ⟨i1, hb⟩ := hb
  refine wp_aload_n 0 dX7_takeVarMost_0 rfl rfl ?_
  refine wp_iconst (v := 1) dX7_takeVarMost_1 (by decide) ?_
  refine wp_bipush (v := 9) dX7_takeVarMost_2 (by decide) ?_
  refine wp_callV (as := [.int 1, .int 9]) dX7_takeVarMost_4 cb_X7_isNumber lk_X7_186 im_X7_isNumber se_X7_isNumber rfl (Nat.le_of_ble_eq_true rfl) ⟨by decide, by decide⟩ ⟨Nat.le_refl _, Nat.le_refl _, Nat.le_refl _⟩ i1 rfl (by decide) hb (fun r0 h3 hb => ?_)
  obtain ⟨r4, rfl, hb⟩ := hb
  refine wp_if_ne (tgt := 12) dX7_takeVarMost_7 (by decide) (fun c5 => ?_) (fun c5 => ?_)
  · have hb := hb.1 c5
    refine wp_aload_n 0 dX7_takeVarMost_12 rfl rfl ?_
    obtain ⟨i6, hb⟩ := hb
    refine wp_getR dX7_takeVarMost_13 fl_X7_64 i1 (i6.ne (by decide)) ?_
    refine wp_aload_n 0 dX7_takeVarMost_16 rfl rfl ?_
    refine wp_getL dX7_takeVarMost_17 fl_X7_28 i1 ?_
    refine wp_aload_n 0 dX7_takeVarMost_20 rfl rfl ?_
    obtain ⟨i7, hb⟩ := hb
    refine wp_getR dX7_takeVarMost_21 fl_X7_12 i1 (i7.ne (by decide)) ?_
    refine wp_getI dX7_takeVarMost_24 fl_X7_165 i7 ?_
    refine wp_aload_n 0 dX7_takeVarMost_27 rfl rfl ?_
    refine wp_getZ dX7_takeVarMost_28 fl_X7_32 i1 ?_
    refine wp_callVN (as := [.long (h3.2.1 x0 5), .int (h3.1 (h3.2.2 x0 0) 6), .int (h3.1 x0 6)]) dX7_takeVarMost_31 cb_X0_addVar lk_X7_189 im_X0_addVar se_X0_addVar rfl (Nat.le_of_ble_eq_true rfl) ⟨by decide, by decide⟩ ⟨Nat.le_refl _, Nat.le_refl _, Nat.le_refl _⟩ i6 rfl (by decide) hb (fun r0 h9 hb => ?_)
    obtain ⟨rfl, hb⟩ := hb
    refine wp_aload_n 0 dX7_takeVarMost_34 rfl rfl ?_
    refine wp_iconst (v := 3) dX7_takeVarMost_35 (by decide) ?_
    refine wp_callV (as := [.int 3]) dX7_takeVarMost_36 cb_X7_awaits lk_X7_131 im_X7_awaits se_X7_awaits rfl (Nat.le_of_ble_eq_true rfl) ⟨by decide, by decide⟩ ⟨Nat.le_refl _, Nat.le_refl _, Nat.le_refl _⟩ i1 rfl (by decide) hb (fun r0 h11 hb => ?_)
    obtain ⟨r12, rfl, hb⟩ := hb
    obtain ⟨q13, hb⟩ := hb
    exact wp_zret rfl dX7_takeVarMost_39 q13 ⟨_, rfl, hb⟩
  · have hb := hb.2 c5
    refine wp_iconst (v := 0) dX7_takeVarMost_10 (by decide) ?_
    exact wp_zret rfl dX7_takeVarMost_11 (Or.inl rfl) ⟨_, rfl, hb⟩
theorem c_X7_takeVarMost {l : Launch} {g : AG} {h : AH} {x0 : Nat}  {Q : Int32 → AH → Prop} (hb : L_X7_takeVarMost_0 l g h x0  Q) : C_X7_takeVarMost l g h x0  Q := ax_met rfl (Nat.le_of_ble_eq_true rfl) hb
def C_X7_takeSign (l : Launch) (g : AG) (h : AH) (x0 : Nat) (x1 : Int32) (x2 : Int32)  (Q : Int32 → AH → Prop) : Prop := Ct l g mX7_takeSign 1 21 194 194 h [.ref x0, .int x1, .int x2] (ax_QI Q)
def L_X7_takeSign_0 (l : Launch) (g : AG) (h : AH) (x0 : Nat) (x1 : Int32) (x2 : Int32)  (Q : Int32 → AH → Prop) : Prop := Wp l g mX7_takeSign 1 21 194 194 194 0 [(0, .ref x0), (1, .int x1), (2, .int x2)] [] h (FM g 194 194 (ax_QI Q))
set_option maxRecDepth 100000 in
set_option maxHeartbeats 4000000 in
theorem s_X7_takeSign_0 {l : Launch} {g : AG} {h : AH} {x0 : Nat} {x1 : Int32} {x2 : Int32}  {Q : Int32 → AH → Prop} (hb : (Is 194 x0 6) ∧ ( (Is 194 (h.2.2 x0 0) 7) ∧ ( ((¬ h.1 (h.2.2 x0 0) 3 = x1 → (C_X7_faulty l g h x0 1 (fun r6 h5 => ( (r6 = 0 ∨ r6 = 1) ∧ ( Q r6 h5))))) ∧ (h.1 (h.2.2 x0 0) 3 = x1 → (C_X7_awaits l g h x0 x2 (fun r10 h9 => ( (r10 = 0 ∨ r10 = 1) ∧ ( Q r10 h9))))))))) : L_X7_takeSign_0 l g h x0 x1 x2  Q := by
  obtain ⟨i1, hb⟩ := hb
  refine wp_aload_n 0 dX7_takeSign_0 rfl rfl ?_
  obtain ⟨i2, hb⟩ := hb
  refine wp_getR dX7_takeSign_1 fl_X7_12 i1 (i2.ne (by decide)) ?_
  refine wp_getI dX7_takeSign_4 fl_X7_80 i2 ?_
  refine wp_iload_n 1 dX7_takeSign_7 rfl rfl ?_
  refine wp_icmp_ne (tgt := 19) dX7_takeSign_8 (by decide) (fun c3 => ?_) (fun c3 => ?_)
  · have hb := hb.1 c3
    refine wp_aload_n 0 dX7_takeSign_19 rfl rfl ?_
    refine wp_iconst (v := 1) dX7_takeSign_20 (by decide) ?_
    refine wp_callV (as := [.int 1]) dX7_takeSign_21 cb_X7_faulty lk_X7_90 im_X7_faulty se_X7_faulty rfl (Nat.le_of_ble_eq_true rfl) ⟨by decide, by decide⟩ ⟨Nat.le_refl _, Nat.le_refl _, Nat.le_refl _⟩ i1 rfl (by decide) hb (fun r0 h5 hb => ?_)
    obtain ⟨r6, rfl, hb⟩ := hb
    obtain ⟨q7, hb⟩ := hb
    exact wp_zret rfl dX7_takeSign_24 q7 ⟨_, rfl, hb⟩
  · have hb := hb.2 c3
    refine wp_aload_n 0 dX7_takeSign_11 rfl rfl ?_
    refine wp_iload_n 2 dX7_takeSign_12 rfl rfl ?_
    refine wp_callV (as := [.int x2]) dX7_takeSign_13 cb_X7_awaits lk_X7_131 im_X7_awaits se_X7_awaits rfl (Nat.le_of_ble_eq_true rfl) ⟨by decide, by decide⟩ ⟨Nat.le_refl _, Nat.le_refl _, Nat.le_refl _⟩ i1 rfl (by decide) hb (fun r0 h9 hb => ?_)
    obtain ⟨r10, rfl, hb⟩ := hb
    refine wp_goto (tgt := 24) dX7_takeSign_16 (by decide) ?_
    obtain ⟨q11, hb⟩ := hb
    exact wp_zret rfl dX7_takeSign_24 q11 ⟨_, rfl, hb⟩
theorem c_X7_takeSign {l : Launch} {g : AG} {h : AH} {x0 : Nat} {x1 : Int32} {x2 : Int32}  {Q : Int32 → AH → Prop} (hb : L_X7_takeSign_0 l g h x0 x1 x2  Q) : C_X7_takeSign l g h x0 x1 x2  Q := ax_met rfl (Nat.le_of_ble_eq_true rfl) hb
