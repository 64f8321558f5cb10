def C_X0_addButton (l : Launch) (g : AG) (h : AH) (x0 : Nat) (x1 : Int32) (x2 : Int64)  (Q : AH → Prop) : Prop := Ct l g mX0_addButton 0 0 194 194 h [.ref x0, .int x1, .long x2] (ax_QV Q)
def L_X0_addButton_0 (l : Launch) (g : AG) (h : AH) (x0 : Nat) (x1 : Int32) (x2 : Int64)  (Q : AH → Prop) : Prop := Wp l g mX0_addButton 0 0 194 194 194 0 [(0, .ref x0), (1, .int x1), (2, .long x2)] [] h (FM g 194 194 (ax_QV Q))
set_option maxRecDepth 100000 in
set_option maxHeartbeats 4000000 in
theorem s_X0_addButton_0 {l : Launch} {g : AG} {h : AH} {x0 : Nat} {x1 : Int32} {x2 : Int64}  {Q : AH → Prop} (hb : (Is 194 x0 0) ∧ ( (Is 194 (h.2.2 x0 9) 21) ∧ ( (vp_in (h.1 x0 1) (ax_s (h.2.2 x0 9)).2) ∧ ( ∀ h4 : AH, h4 = ax_setL h (h.2.2 x0 9) (h.1 x0 1).toNatClampNeg x2 → ( (Is 194 (h4.2.2 x0 16) 20) ∧ ( (vp_in (h4.1 x0 1) (ax_s (h4.2.2 x0 16)).2) ∧ ( ∀ h8 : AH, h8 = ax_setI h4 (h4.2.2 x0 16) (h4.1 x0 1).toNatClampNeg x1 → ( (Is 194 (h8.2.2 x0 17) 3) ∧ ( (Is 194 (h8.2.2 (h8.2.2 x0 17) 0) 20) ∧ ( (vp_in (h8.1 x0 1) (ax_s (h8.2.2 (h8.2.2 x0 17) 0)).2) ∧ ( ∀ h13 : AH, h13 = ax_setI h8 (h8.2.2 (h8.2.2 x0 17) 0) (h8.1 x0 1).toNatClampNeg 0 → ( (Is 194 (h13.2.2 x0 18) 4) ∧ ( (Is 194 (h13.2.2 (h13.2.2 x0 18) 0) 20) ∧ ( (vp_in (h13.1 x0 1) (ax_s (h13.2.2 (h13.2.2 x0 18) 0)).2) ∧ ( ∀ h18 : AH, h18 = ax_setI h13 (h13.2.2 (h13.2.2 x0 18) 0) (h13.1 x0 1).toNatClampNeg 0 → ( ∀ h20 : AH, h20 = ax_setI h18 x0 1 ((h18.1 x0 1) + 1) → ( (Is 194 (h20.2.2 x0 15) 20) ∧ ( (vp_in x1 (ax_s (h20.2.2 x0 15)).2) ∧ ( ∀ h24 : AH, h24 = ax_setI h20 (h20.2.2 x0 15) x1.toNatClampNeg (h20.1 x0 1) → ( Q h24)))))))))))))))))))) : L_X0_addButton_0 l g h x0 x1 x2  Q := by
  obtain ⟨i1, hb⟩ := hb
  refine wp_aload_n 0 dX0_addButton_0 rfl rfl ?_
  obtain ⟨i2, hb⟩ := hb
  refine wp_getR dX0_addButton_1 fl_X0_41 i1 (i2.ne (by decide)) ?_
  refine wp_aload_n 0 dX0_addButton_4 rfl rfl ?_
  refine wp_getI dX0_addButton_5 fl_X0_15 i1 ?_
  refine wp_lload_n 2 dX0_addButton_8 rfl rfl ?_
  obtain ⟨b3, hb⟩ := hb
  refine wp_lastore dX0_addButton_9 i2 b3 ?_
  refine wp_topH (fun h4 e5 => ?_)
  have hb := hb h4 e5
  refine wp_aload_n 0 dX0_addButton_10 rfl rfl ?_
  obtain ⟨i6, hb⟩ := hb
  refine wp_getR dX0_addButton_11 fl_X0_63 i1 (i6.ne (by decide)) ?_
  refine wp_aload_n 0 dX0_addButton_14 rfl rfl ?_
  refine wp_getI dX0_addButton_15 fl_X0_15 i1 ?_
  refine wp_iload_n 1 dX0_addButton_18 rfl rfl ?_
  obtain ⟨b7, hb⟩ := hb
  refine wp_iastore dX0_addButton_19 i6 b7 ?_
  refine wp_topH (fun h8 e9 => ?_)
  have hb := hb h8 e9
  refine wp_aload_n 0 dX0_addButton_20 rfl rfl ?_
  obtain ⟨i10, hb⟩ := hb
  refine wp_getR dX0_addButton_21 fl_X0_69 i1 (i10.ne (by decide)) ?_
  obtain ⟨i11, hb⟩ := hb
  refine wp_getR dX0_addButton_24 fl_X0_93 i10 (i11.ne (by decide)) ?_
  refine wp_aload_n 0 dX0_addButton_27 rfl rfl ?_
  refine wp_getI dX0_addButton_28 fl_X0_15 i1 ?_
  refine wp_iconst (v := 0) dX0_addButton_31 (by decide) ?_
  obtain ⟨b12, hb⟩ := hb
  refine wp_iastore dX0_addButton_32 i11 b12 ?_
  refine wp_topH (fun h13 e14 => ?_)
  have hb := hb h13 e14
  refine wp_aload_n 0 dX0_addButton_33 rfl rfl ?_
  obtain ⟨i15, hb⟩ := hb
  refine wp_getR dX0_addButton_34 fl_X0_76 i1 (i15.ne (by decide)) ?_
  obtain ⟨i16, hb⟩ := hb
  refine wp_getR dX0_addButton_37 fl_X0_86 i15 (i16.ne (by decide)) ?_
  refine wp_aload_n 0 dX0_addButton_40 rfl rfl ?_
  refine wp_getI dX0_addButton_41 fl_X0_15 i1 ?_
  refine wp_iconst (v := 0) dX0_addButton_44 (by decide) ?_
  obtain ⟨b17, hb⟩ := hb
  refine wp_iastore dX0_addButton_45 i16 b17 ?_
  refine wp_topH (fun h18 e19 => ?_)
  have hb := hb h18 e19
  refine wp_aload_n 0 dX0_addButton_46 rfl rfl ?_
  refine wp_dup dX0_addButton_47 rfl ?_
  refine wp_getI dX0_addButton_48 fl_X0_15 i1 ?_
  refine wp_iconst (v := 1) dX0_addButton_51 (by decide) ?_
  refine wp_iadd dX0_addButton_52 ?_
  refine wp_putI dX0_addButton_53 fl_X0_15 (Or.inl rfl) i1 ?_
  refine wp_topH (fun h20 e21 => ?_)
  have hb := hb h20 e21
  refine wp_aload_n 0 dX0_addButton_56 rfl rfl ?_
  obtain ⟨i22, hb⟩ := hb
  refine wp_getR dX0_addButton_57 fl_X0_60 i1 (i22.ne (by decide)) ?_
  refine wp_iload_n 1 dX0_addButton_60 rfl rfl ?_
  refine wp_aload_n 0 dX0_addButton_61 rfl rfl ?_
  refine wp_getI dX0_addButton_62 fl_X0_15 i1 ?_
  obtain ⟨b23, hb⟩ := hb
  refine wp_iastore dX0_addButton_65 i22 b23 ?_
  refine wp_topH (fun h24 e25 => ?_)
  have hb := hb h24 e25
  exact wp_vret rfl dX0_addButton_66 ⟨rfl, hb⟩
theorem c_X0_addButton {l : Launch} {g : AG} {h : AH} {x0 : Nat} {x1 : Int32} {x2 : Int64}  {Q : AH → Prop} (hb : L_X0_addButton_0 l g h x0 x1 x2  Q) : C_X0_addButton l g h x0 x1 x2  Q := ax_met rfl (Nat.le_of_ble_eq_true rfl) hb
def C_X7_takeButtonName (l : Launch) (g : AG) (h : AH) (x0 : Nat)  (Q : Int32 → AH → Prop) : Prop := Ct l g mX7_takeButtonName 2 48 194 194 h [.ref x0] (ax_QI Q)
def L_X7_takeButtonName_0 (l : Launch) (g : AG) (h : AH) (x0 : Nat)  (Q : Int32 → AH → Prop) : Prop := Wp l g mX7_takeButtonName 2 48 194 194 194 0 [(0, .ref x0)] [] h (FM g 194 194 (ax_QI Q))
set_option maxRecDepth 100000 in
set_option maxHeartbeats 4000000 in
theorem s_X7_takeButtonName_0 {l : Launch} {g : AG} {h : AH} {x0 : Nat}  {Q : Int32 → AH → Prop} (hb : (Is 194 x0 6) ∧ ( (Is 194 (h.2.2 x0 1) 0) ∧ ( ∀ v3 : Int32, v3 = ((h.1 (h.2.2 x0 1) 0) - 1) → ( (Is 194 (h.2.2 x0 1) 0) ∧ ( (Is 194 (h.2.2 x0 0) 7) ∧ ( C_X0_buttonNamed l g h (h.2.2 x0 1) v3 (h.2.1 (h.2.2 x0 0) 5) (fun r9 h8 => ( C_X7_isNewName l g h8 x0 r9 (fun r12 h11 => ( ((¬ r12 = 0 → ((Is 194 (h11.2.2 x0 1) 0) ∧ ( ∀ h15 : AH, h15 = ax_setI h11 x0 10 (h11.1 (h11.2.2 x0 1) 1) → ( (Is 194 (h15.2.2 x0 1) 0) ∧ ( (Is 194 (h15.2.2 x0 0) 7) ∧ ( C_X0_addButton l g h15 (h15.2.2 x0 1) v3 (h15.2.1 (h15.2.2 x0 0) 5) (fun h20 => ( C_X7_awaits l g h20 x0 10 (fun r23 h22 => ( (r23 = 0 ∨ r23 = 1) ∧ ( Q r23 h22))))))))))) ∧ (r12 = 0 → (Q 0 h11))))))))))))) : L_X7_takeButtonName_0 l g h x0  Q := by
  obtain ⟨i1, hb⟩ := hb
  refine wp_aload_n 0 dX7_takeButtonName_0 rfl rfl ?_
  obtain ⟨i2, hb⟩ := hb
  refine wp_getR dX7_takeButtonName_1 fl_X7_64 i1 (i2.ne (by decide)) ?_
  refine wp_getI dX7_takeButtonName_4 fl_X7_83 i2 ?_
  refine wp_iconst (v := 1) dX7_takeButtonName_7 (by decide) ?_
  refine wp_isub dX7_takeButtonName_8 ?_
  refine wp_topi (fun v3 e4 => ?_)
  have hb := hb v3 e4
  refine wp_istore_n (lv2 := [(1, .int v3), (0, .ref x0)]) dX7_takeButtonName_9 rfl (by decide) rfl ?_
  refine wp_aload_n 1 dX7_takeButtonName_10 rfl rfl ?_
  refine wp_aload_n 1 dX7_takeButtonName_11 rfl rfl ?_
  obtain ⟨i5, hb⟩ := hb
  refine wp_getR dX7_takeButtonName_12 fl_X7_64 i1 (i5.ne (by decide)) ?_
  refine wp_iload_n 0 dX7_takeButtonName_15 rfl rfl ?_
  refine wp_aload_n 1 dX7_takeButtonName_16 rfl rfl ?_
  obtain ⟨i6, hb⟩ := hb
  refine wp_getR dX7_takeButtonName_17 fl_X7_12 i1 (i6.ne (by decide)) ?_
  refine wp_getL dX7_takeButtonName_20 fl_X7_168 i6 ?_
  refine wp_callVN (as := [.int v3, .long (h.2.1 (h.2.2 x0 0) 5)]) dX7_takeButtonName_23 cb_X0_buttonNamed lk_X7_228 im_X0_buttonNamed se_X0_buttonNamed rfl (Nat.le_of_ble_eq_true rfl) ⟨by decide, by decide⟩ ⟨Nat.le_refl _, Nat.le_refl _, Nat.le_refl _⟩ i5 rfl (by decide) hb (fun r0 h8 hb => ?_)
  obtain ⟨r9, rfl, hb⟩ := hb
  refine wp_callV (as := [.int r9]) dX7_takeButtonName_26 cb_X7_isNewName lk_X7_183 im_X7_isNewName se_X7_isNewName rfl (Nat.le_of_ble_eq_true rfl) ⟨by decide, by decide⟩ ⟨Nat.le_refl _, Nat.le_refl _, Nat.le_refl _⟩ i1 rfl (by decide) hb (fun r0 h11 hb => ?_)
  obtain ⟨r12, rfl, hb⟩ := hb
  refine wp_if_ne (tgt := 34) dX7_takeButtonName_29 (by decide) (fun c13 => ?_) (fun c13 => ?_)
  · have hb := hb.1 c13
    refine wp_aload_n 1 dX7_takeButtonName_34 rfl rfl ?_
    refine wp_aload_n 1 dX7_takeButtonName_35 rfl rfl ?_
    obtain ⟨i14, hb⟩ := hb
    refine wp_getR dX7_takeButtonName_36 fl_X7_64 i1 (i14.ne (by decide)) ?_
    refine wp_getI dX7_takeButtonName_39 fl_X7_207 i14 ?_
    refine wp_putI dX7_takeButtonName_42 fl_X7_45 (Or.inl rfl) i1 ?_
    refine wp_topH (fun h15 e16 => ?_)
    have hb := hb h15 e16
    refine wp_aload_n 1 dX7_takeButtonName_45 rfl rfl ?_
    obtain ⟨i17, hb⟩ := hb
    refine wp_getR dX7_takeButtonName_46 fl_X7_64 i1 (i17.ne (by decide)) ?_
    refine wp_iload_n 0 dX7_takeButtonName_49 rfl rfl ?_
    refine wp_aload_n 1 dX7_takeButtonName_50 rfl rfl ?_
    obtain ⟨i18, hb⟩ := hb
    refine wp_getR dX7_takeButtonName_51 fl_X7_12 i1 (i18.ne (by decide)) ?_
    refine wp_getL dX7_takeButtonName_54 fl_X7_168 i18 ?_
    refine wp_callVN (as := [.int v3, .long (h15.2.1 (h15.2.2 x0 0) 5)]) dX7_takeButtonName_57 cb_X0_addButton lk_X7_232 im_X0_addButton se_X0_addButton rfl (Nat.le_of_ble_eq_true rfl) ⟨by decide, by decide⟩ ⟨Nat.le_refl _, Nat.le_refl _, Nat.le_refl _⟩ i17 rfl (by decide) hb (fun r0 h20 hb => ?_)
    obtain ⟨rfl, hb⟩ := hb
    refine wp_aload_n 1 dX7_takeButtonName_60 rfl rfl ?_
    refine wp_bipush (v := 10) dX7_takeButtonName_61 (by decide) ?_
    refine wp_callV (as := [.int 10]) dX7_takeButtonName_63 cb_X7_awaits lk_X7_131 im_X7_awaits se_X7_awaits rfl (Nat.le_of_ble_eq_true rfl) ⟨by decide, by decide⟩ ⟨Nat.le_refl _, Nat.le_refl _, Nat.le_refl _⟩ i1 rfl (by decide) hb (fun r0 h22 hb => ?_)
    obtain ⟨r23, rfl, hb⟩ := hb
    obtain ⟨q24, hb⟩ := hb
    exact wp_zret rfl dX7_takeButtonName_66 q24 ⟨_, rfl, hb⟩
  · have hb := hb.2 c13
    refine wp_iconst (v := 0) dX7_takeButtonName_32 (by decide) ?_
    exact wp_zret rfl dX7_takeButtonName_33 (Or.inl rfl) ⟨_, rfl, hb⟩
theorem c_X7_takeButtonName {l : Launch} {g : AG} {h : AH} {x0 : Nat}  {Q : Int32 → AH → Prop} (hb : L_X7_takeButtonName_0 l g h x0  Q) : C_X7_takeButtonName l g h x0  Q := ax_met rfl (Nat.le_of_ble_eq_true rfl) hb
def C_X7_takeDo (l : Launch) (g : AG) (h : AH) (x0 : Nat)  (Q : Int32 → AH → Prop) : Prop := Ct l g mX7_takeDo 5 142 194 194 h [.ref x0] (ax_QI Q)
def L_X7_takeDo_0 (l : Launch) (g : AG) (h : AH) (x0 : Nat)  (Q : Int32 → AH → Prop) : Prop := Wp l g mX7_takeDo 5 142 194 194 194 0 [(0, .ref x0)] [] h (FM g 194 194 (ax_QI Q))
set_option maxRecDepth 100000 in
set_option maxHeartbeats 4000000 in
theorem s_X7_takeDo_0 {l : Launch} {g : AG} {h : AH} {x0 : Nat}  {Q : Int32 → AH → Prop} (hb : (Is 194 x0 6) ∧ ( (Is 194 (h.2.2 x0 0) 7) ∧ ( C_X8_says l g h (h.2.2 x0 0) 1005 (fun r5 h4 => ( ((r5 = 0 → (C_X7_faulty l g h4 x0 1 (fun r9 h8 => ( (r9 = 0 ∨ r9 = 1) ∧ ( Q r9 h8))))) ∧ (¬ (r5 = 0) → (C_X7_awaits l g h4 x0 17 (fun r13 h12 => ( (r13 = 0 ∨ r13 = 1) ∧ ( Q r13 h12))))))))))) : L_X7_takeDo_0 l g h x0  Q := by
  obtain ⟨i1, hb⟩ := hb
  refine wp_aload_n 0 dX7_takeDo_0 rfl rfl ?_
  obtain ⟨i2, hb⟩ := hb
  refine wp_getR dX7_takeDo_1 fl_X7_12 i1 (i2.ne (by decide)) ?_
  refine wp_ldcS (q := ("WindowHouse$Reader", 163, "do", 5)) dX7_takeDo_4 (by decide +kernel) rfl rfl ?_
  refine wp_callVN (as := [.ref 1005]) dX7_takeDo_6 cb_X8_says lk_X7_127 im_X8_says se_X8_says rfl (Nat.le_of_ble_eq_true rfl) ⟨by decide, by decide⟩ ⟨Nat.le_refl _, Nat.le_refl _, Nat.le_refl _⟩ i2 rfl (by decide) hb (fun r0 h4 hb => ?_)
  obtain ⟨r5, rfl, hb⟩ := hb
  refine wp_if_eq (tgt := 21) dX7_takeDo_9 (by decide) (fun c6 => ?_) (fun c6 => ?_)
  · have hb := hb.1 c6
    refine wp_aload_n 0 dX7_takeDo_21 rfl rfl ?_
    refine wp_iconst (v := 1) dX7_takeDo_22 (by decide) ?_
    refine wp_callV (as := [.int 1]) dX7_takeDo_23 cb_X7_faulty lk_X7_90 im_X7_faulty se_X7_faulty rfl (Nat.le_of_ble_eq_true rfl) ⟨by decide, by decide⟩ ⟨Nat.le_refl _, Nat.le_refl _, Nat.le_refl _⟩ i1 rfl (by decide) hb (fun r0 h8 hb => ?_)
    obtain ⟨r9, rfl, hb⟩ := hb
    obtain ⟨q10, hb⟩ := hb
    exact wp_zret rfl dX7_takeDo_26 q10 ⟨_, rfl, hb⟩
  · have hb := hb.2 c6
    refine wp_aload_n 0 dX7_takeDo_12 rfl rfl ?_
    refine wp_bipush (v := 17) dX7_takeDo_13 (by decide) ?_
    refine wp_callV (as := [.int 17]) dX7_takeDo_15 cb_X7_awaits lk_X7_131 im_X7_awaits se_X7_awaits rfl (Nat.le_of_ble_eq_true rfl) ⟨by decide, by decide⟩ ⟨Nat.le_refl _, Nat.le_refl _, Nat.le_refl _⟩ i1 rfl (by decide) hb (fun r0 h12 hb => ?_)
    obtain ⟨r13, rfl, hb⟩ := hb
    refine wp_goto (tgt := 26) dX7_takeDo_18 (by decide) ?_
    obtain ⟨q14, hb⟩ := hb
    exact wp_zret rfl dX7_takeDo_26 q14 ⟨_, rfl, hb⟩
theorem c_X7_takeDo {l : Launch} {g : AG} {h : AH} {x0 : Nat}  {Q : Int32 → AH → Prop} (hb : L_X7_takeDo_0 l g h x0  Q) : C_X7_takeDo l g h x0  Q := ax_met rfl (Nat.le_of_ble_eq_true rfl) hb
