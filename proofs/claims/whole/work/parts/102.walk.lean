def C_X0_addShow (l : Launch) (g : AG) (h : AH) (x0 : Nat) (x1 : Int32) (x2 : Int32)  (Q : AH → Prop) : Prop := Ct l g mX0_addShow 0 0 194 194 h [.ref x0, .int x1, .int x2] (ax_QV Q)
def L_X0_addShow_0 (l : Launch) (g : AG) (h : AH) (x0 : Nat) (x1 : Int32) (x2 : Int32)  (Q : AH → Prop) : Prop := Wp l g mX0_addShow 0 0 194 194 194 0 [(0, .ref x0), (1, .int x1), (2, .int x2)] [] h (FM g 194 194 (ax_QV Q))
set_option maxRecDepth 100000 in
set_option maxHeartbeats 4000000 in
theorem s_X0_addShow_0 {l : Launch} {g : AG} {h : AH} {x0 : Nat} {x1 : Int32} {x2 : Int32}  {Q : AH → Prop} (hb : (Is 194 x0 0) ∧ ( (Is 194 (h.2.2 x0 12) 20) ∧ ( (Is 194 (h.2.2 x0 11) 20) ∧ ( (vp_in x1 (ax_s (h.2.2 x0 11)).2) ∧ ( (vp_in ((x1 * 6) + (h.1 (h.2.2 x0 11) x1.toNatClampNeg)) (ax_s (h.2.2 x0 12)).2) ∧ ( ∀ h6 : AH, h6 = ax_setI h (h.2.2 x0 12) ((x1 * 6) + (h.1 (h.2.2 x0 11) x1.toNatClampNeg)).toNatClampNeg x2 → ( (Is 194 (h6.2.2 x0 11) 20) ∧ ( (vp_in x1 (ax_s (h6.2.2 x0 11)).2) ∧ ( (vp_in x1 (ax_s (h6.2.2 x0 11)).2) ∧ ( ∀ h11 : AH, h11 = ax_setI h6 (h6.2.2 x0 11) x1.toNatClampNeg ((h6.1 (h6.2.2 x0 11) x1.toNatClampNeg) + 1) → ( ∀ h13 : AH, h13 = ax_setI h11 x0 4 ((h11.1 x0 4) + 1) → ( Q h13)))))))))))) : L_X0_addShow_0 l g h x0 x1 x2  Q := by
  obtain ⟨i1, hb⟩ := hb
  refine wp_aload_n 0 dX0_addShow_0 rfl rfl ?_
  obtain ⟨i2, hb⟩ := hb
  refine wp_getR dX0_addShow_1 fl_X0_51 i1 (i2.ne (by decide)) ?_
  refine wp_iload_n 1 dX0_addShow_4 rfl rfl ?_
  refine wp_bipush (v := 6) dX0_addShow_5 (by decide) ?_
  refine wp_imul dX0_addShow_7 ?_
  refine wp_aload_n 0 dX0_addShow_8 rfl rfl ?_
  obtain ⟨i3, hb⟩ := hb
  refine wp_getR dX0_addShow_9 fl_X0_48 i1 (i3.ne (by decide)) ?_
  refine wp_iload_n 1 dX0_addShow_12 rfl rfl ?_
  obtain ⟨b4, hb⟩ := hb
  refine wp_iaload dX0_addShow_13 i3 b4 ?_
  refine wp_iadd dX0_addShow_14 ?_
  refine wp_iload_n 2 dX0_addShow_15 rfl rfl ?_
  obtain ⟨b5, hb⟩ := hb
  refine wp_iastore dX0_addShow_16 i2 b5 ?_
  refine wp_topH (fun h6 e7 => ?_)
  have hb := hb h6 e7
  refine wp_aload_n 0 dX0_addShow_17 rfl rfl ?_
  obtain ⟨i8, hb⟩ := hb
  refine wp_getR dX0_addShow_18 fl_X0_48 i1 (i8.ne (by decide)) ?_
  refine wp_iload_n 1 dX0_addShow_21 rfl rfl ?_
  refine wp_dup2_11 dX0_addShow_22 rfl rfl ?_
  obtain ⟨b9, hb⟩ := hb
  refine wp_iaload dX0_addShow_23 i8 b9 ?_
  refine wp_iconst (v := 1) dX0_addShow_24 (by decide) ?_
  refine wp_iadd dX0_addShow_25 ?_
  obtain ⟨b10, hb⟩ := hb
  refine wp_iastore dX0_addShow_26 i8 b10 ?_
  refine wp_topH (fun h11 e12 => ?_)
  have hb := hb h11 e12
  refine wp_aload_n 0 dX0_addShow_27 rfl rfl ?_
  refine wp_dup dX0_addShow_28 rfl ?_
  refine wp_getI dX0_addShow_29 fl_X0_24 i1 ?_
  refine wp_iconst (v := 1) dX0_addShow_32 (by decide) ?_
  refine wp_iadd dX0_addShow_33 ?_
  refine wp_putI dX0_addShow_34 fl_X0_24 (Or.inl rfl) i1 ?_
  refine wp_topH (fun h13 e14 => ?_)
  have hb := hb h13 e14
  exact wp_vret rfl dX0_addShow_37 ⟨rfl, hb⟩
theorem c_X0_addShow {l : Launch} {g : AG} {h : AH} {x0 : Nat} {x1 : Int32} {x2 : Int32}  {Q : AH → Prop} (hb : L_X0_addShow_0 l g h x0 x1 x2  Q) : C_X0_addShow l g h x0 x1 x2  Q := ax_met rfl rfl (Nat.le_of_ble_eq_true rfl) hb
def C_X7_takeShowName (l : Launch) (g : AG) (h : AH) (x0 : Nat)  (Q : Int32 → AH → Prop) : Prop := Ct l g mX7_takeShowName 3 67 194 194 h [.ref x0] (ax_QI Q)
def L_X7_takeShowName_0 (l : Launch) (g : AG) (h : AH) (x0 : Nat)  (Q : Int32 → AH → Prop) : Prop := Wp l g mX7_takeShowName 3 67 194 194 194 0 [(0, .ref x0)] [] h (FM g 194 194 (ax_QI Q))
set_option maxRecDepth 100000 in
set_option maxHeartbeats 4000000 in
theorem s_X7_takeShowName_0 {l : Launch} {g : AG} {h : AH} {x0 : Nat}  {Q : Int32 → AH → Prop} (hb : (Is 194 x0 6) ∧ ( C_X7_isVar l g h x0 (fun r4 h3 => ( ((¬ r4 = 0 → ((Is 194 (h3.2.2 x0 1) 0) ∧ ( (Is 194 (h3.2.2 x0 1) 0) ∧ ( C_X0_addShow l g h3 (h3.2.2 x0 1) ((h3.1 (h3.2.2 x0 1) 0) - 1) (h3.1 x0 7) (fun h9 => ( C_X7_awaits l g h9 x0 8 (fun r12 h11 => ( (r12 = 0 ∨ r12 = 1) ∧ ( Q r12 h11))))))))) ∧ (r4 = 0 → (Q 0 h3))))))) : L_X7_takeShowName_0 l g h x0  Q := by
  obtain ⟨i1, hb⟩ := hb
  refine wp_aload_n 0 dX7_takeShowName_0 rfl rfl ?_
  refine wp_callV (as := []) dX7_takeShowName_1 cb_X7_isVar lk_X7_221 im_X7_isVar se_X7_isVar rfl (Nat.le_of_ble_eq_true rfl) ⟨by decide, by decide⟩ ⟨Nat.le_refl _, Nat.le_refl _, Nat.le_refl _⟩ i1 rfl (by decide) hb (fun r0 h3 hb => ?_)
  obtain ⟨r4, rfl, hb⟩ := hb
  refine wp_if_ne (tgt := 9) dX7_takeShowName_4 (by decide) (fun c5 => ?_) (fun c5 => ?_)
  · have hb := hb.1 c5
    refine wp_aload_n 0 dX7_takeShowName_9 rfl rfl ?_
    obtain ⟨i6, hb⟩ := hb
    refine wp_getR dX7_takeShowName_10 fl_X7_64 i1 (i6.ne (by decide)) ?_
    refine wp_aload_n 0 dX7_takeShowName_13 rfl rfl ?_
    obtain ⟨i7, hb⟩ := hb
    refine wp_getR dX7_takeShowName_14 fl_X7_64 i1 (i7.ne (by decide)) ?_
    refine wp_getI dX7_takeShowName_17 fl_X7_83 i7 ?_
    refine wp_iconst (v := 1) dX7_takeShowName_20 (by decide) ?_
    refine wp_isub dX7_takeShowName_21 ?_
    refine wp_aload_n 0 dX7_takeShowName_22 rfl rfl ?_
    refine wp_getI dX7_takeShowName_23 fl_X7_36 i1 ?_
    refine wp_callVN (as := [.int ((h3.1 (h3.2.2 x0 1) 0) - 1), .int (h3.1 x0 7)]) dX7_takeShowName_26 cb_X0_addShow lk_X7_224 im_X0_addShow se_X0_addShow rfl (Nat.le_of_ble_eq_true rfl) ⟨by decide, by decide⟩ ⟨Nat.le_refl _, Nat.le_refl _, Nat.le_refl _⟩ i6 rfl (by decide) hb (fun r0 h9 hb => ?_)
    obtain ⟨rfl, hb⟩ := hb
    refine wp_aload_n 0 dX7_takeShowName_29 rfl rfl ?_
    refine wp_bipush (v := 8) dX7_takeShowName_30 (by decide) ?_
    refine wp_callV (as := [.int 8]) dX7_takeShowName_32 cb_X7_awaits lk_X7_131 im_X7_awaits se_X7_awaits rfl (Nat.le_of_ble_eq_true rfl) ⟨by decide, by decide⟩ ⟨Nat.le_refl _, Nat.le_refl _, Nat.le_refl _⟩ i1 rfl (by decide) hb (fun r0 h11 hb => ?_)
    obtain ⟨r12, rfl, hb⟩ := hb
    obtain ⟨q13, hb⟩ := hb
    exact wp_zret rfl dX7_takeShowName_35 q13 ⟨_, rfl, hb⟩
  · have hb := hb.2 c5
    refine wp_iconst (v := 0) dX7_takeShowName_7 (by decide) ?_
    exact wp_zret rfl dX7_takeShowName_8 (Or.inl rfl) ⟨_, rfl, hb⟩
theorem c_X7_takeShowName {l : Launch} {g : AG} {h : AH} {x0 : Nat}  {Q : Int32 → AH → Prop} (hb : L_X7_takeShowName_0 l g h x0  Q) : C_X7_takeShowName l g h x0  Q := ax_met rfl rfl (Nat.le_of_ble_eq_true rfl) hb
def C_X0_buttonNamed (l : Launch) (g : AG) (h : AH) (x0 : Nat) (x1 : Int32) (x2 : Int64)  (Q : Int32 → AH → Prop) : Prop := Ct l g mX0_buttonNamed 1 25 194 194 h [.ref x0, .int x1, .long x2] (ax_QI Q)
def L_X0_buttonNamed_0 (l : Launch) (g : AG) (h : AH) (x0 : Nat) (x1 : Int32) (x2 : Int64)  (Q : Int32 → AH → Prop) : Prop := Wp l g mX0_buttonNamed 1 25 194 194 194 0 [(0, .ref x0), (1, .int x1), (2, .long x2)] [] h (FM g 194 194 (ax_QI Q))
set_option maxRecDepth 100000 in
set_option maxHeartbeats 4000000 in
theorem s_X0_buttonNamed_0 {l : Launch} {g : AG} {h : AH} {x0 : Nat} {x1 : Int32} {x2 : Int64}  {Q : Int32 → AH → Prop} (hb : (Is 194 x0 0) ∧ ( (Is 194 (h.2.2 x0 9) 21) ∧ ( (Is 194 (h.2.2 x0 14) 20) ∧ ( (vp_in x1 (ax_s (h.2.2 x0 14)).2) ∧ ( (Is 194 (h.2.2 x0 15) 20) ∧ ( (vp_in x1 (ax_s (h.2.2 x0 15)).2) ∧ ( C_X0_placeOf l g h x2 (h.2.2 x0 9) (h.1 (h.2.2 x0 14) x1.toNatClampNeg) (h.1 (h.2.2 x0 15) x1.toNatClampNeg) (fun r9 h8 => ( Q r9 h8))))))))) : L_X0_buttonNamed_0 l g h x0 x1 x2  Q := by
  refine wp_lload_n 2 dX0_buttonNamed_0 rfl rfl ?_
  obtain ⟨i1, hb⟩ := hb
  refine wp_aload_n 0 dX0_buttonNamed_1 rfl rfl ?_
  obtain ⟨i2, hb⟩ := hb
  refine wp_getR dX0_buttonNamed_2 fl_X0_41 i1 (i2.ne (by decide)) ?_
  refine wp_aload_n 0 dX0_buttonNamed_5 rfl rfl ?_
  obtain ⟨i3, hb⟩ := hb
  refine wp_getR dX0_buttonNamed_6 fl_X0_57 i1 (i3.ne (by decide)) ?_
  refine wp_iload_n 1 dX0_buttonNamed_9 rfl rfl ?_
  obtain ⟨b4, hb⟩ := hb
  refine wp_iaload dX0_buttonNamed_10 i3 b4 ?_
  refine wp_aload_n 0 dX0_buttonNamed_11 rfl rfl ?_
  obtain ⟨i5, hb⟩ := hb
  refine wp_getR dX0_buttonNamed_12 fl_X0_60 i1 (i5.ne (by decide)) ?_
  refine wp_iload_n 1 dX0_buttonNamed_15 rfl rfl ?_
  obtain ⟨b6, hb⟩ := hb
  refine wp_iaload dX0_buttonNamed_16 i5 b6 ?_
  refine wp_callS (as := [.long x2, .ref (h.2.2 x0 9), .int (h.1 (h.2.2 x0 14) x1.toNatClampNeg), .int (h.1 (h.2.2 x0 15) x1.toNatClampNeg)]) dX0_buttonNamed_17 cb_X0_placeOf lk_X0_94 st_X0_placeOf rfl (Nat.le_of_ble_eq_true rfl) ⟨by decide, by decide⟩ ⟨Nat.le_refl _, Nat.le_refl _, Nat.le_refl _⟩ hb (fun r0 h8 hb => ?_)
  obtain ⟨r9, rfl, hb⟩ := hb
  exact wp_iret rfl dX0_buttonNamed_20 ⟨_, rfl, hb⟩
theorem c_X0_buttonNamed {l : Launch} {g : AG} {h : AH} {x0 : Nat} {x1 : Int32} {x2 : Int64}  {Q : Int32 → AH → Prop} (hb : L_X0_buttonNamed_0 l g h x0 x1 x2  Q) : C_X0_buttonNamed l g h x0 x1 x2  Q := ax_met rfl rfl (Nat.le_of_ble_eq_true rfl) hb
def C_X0_addButton (l : Launch) (g : AG) (h : AH) (x0 : Nat) (x1 : Int32) (x2 : Int64)  (Q : AH → Prop) : Prop := Ct l g mX0_addButton 0 0 194 194 h [.ref x0, .int x1, .long x2] (ax_QV Q)
def L_X0_addButton_0 (l : Launch) (g : AG) (h : AH) (x0 : Nat) (x1 : Int32) (x2 : Int64)  (Q : AH → Prop) : Prop := Wp l g mX0_addButton 0 0 194 194 194 0 [(0, .ref x0), (1, .int x1), (2, .long x2)] [] h (FM g 194 194 (ax_QV Q))
set_option maxRecDepth 100000 in
set_option maxHeartbeats 4000000 in
theorem s_X0_addButton_0 {l : Launch} {g : AG} {h : AH} {x0 : Nat} {x1 : Int32} {x2 : Int64}  {Q : AH → Prop} (hb : (Is 194 x0 0) ∧ ( (Is 194 (h.2.2 x0 9) 21) ∧ ( (vp_in (h.1 x0 1) (ax_s (h.2.2 x0 9)).2) ∧ ( ∀ h4 : AH, h4 = ax_setL h (h.2.2 x0 9) (h.1 x0 1).toNatClampNeg x2 → ( (Is 194 (h4.2.2 x0 16) 20) ∧ ( (vp_in (h4.1 x0 1) (ax_s (h4.2.2 x0 16)).2) ∧ ( ∀ h8 : AH, h8 = ax_setI h4 (h4.2.2 x0 16) (h4.1 x0 1).toNatClampNeg x1 → ( (Is 194 (h8.2.2 x0 17) 3) ∧ ( (Is 194 (h8.2.2 (h8.2.2 x0 17) 0) 20) ∧ ( (vp_in (h8.1 x0 1) (ax_s (h8.2.2 (h8.2.2 x0 17) 0)).2) ∧ ( ∀ h13 : AH, h13 = ax_setI h8 (h8.2.2 (h8.2.2 x0 17) 0) (h8.1 x0 1).toNatClampNeg 0 → ( (Is 194 (h13.2.2 x0 18) 4) ∧ ( (Is 194 (h13.2.2 (h13.2.2 x0 18) 0) 20) ∧ ( (vp_in (h13.1 x0 1) (ax_s (h13.2.2 (h13.2.2 x0 18) 0)).2) ∧ ( ∀ h18 : AH, h18 = ax_setI h13 (h13.2.2 (h13.2.2 x0 18) 0) (h13.1 x0 1).toNatClampNeg 0 → ( ∀ h20 : AH, h20 = ax_setI h18 x0 1 ((h18.1 x0 1) + 1) → ( (Is 194 (h20.2.2 x0 15) 20) ∧ ( (vp_in x1 (ax_s (h20.2.2 x0 15)).2) ∧ ( ∀ h24 : AH, h24 = ax_setI h20 (h20.2.2 x0 15) x1.toNatClampNeg (h20.1 x0 1) → ( Q h24)))))))))))))))))))) : L_X0_addButton_0 l g h x0 x1 x2  Q := by
  obtain ⟨i1, hb⟩ := hb
  refine wp_aload_n 0 dX0_addButton_0 rfl rfl ?_
  obtain ⟨i2, hb⟩ := hb
  refine wp_getR dX0_addButton_1 fl_X0_41 i1 (i2.ne (by decide)) ?_
  refine wp_aload_n 0 dX0_addButton_4 rfl rfl ?_
  refine wp_getI dX0_addButton_5 fl_X0_15 i1 ?_
  refine wp_lload_n 2 dX0_addButton_8 rfl rfl ?_
  obtain ⟨b3, hb⟩ := hb
  refine wp_lastore dX0_addButton_9 i2 b3 ?_
  refine wp_topH (fun h4 e5 => ?_)
  have hb := hb h4 e5
  refine wp_aload_n 0 dX0_addButton_10 rfl rfl ?_
  obtain ⟨i6, hb⟩ := hb
  refine wp_getR dX0_addButton_11 fl_X0_63 i1 (i6.ne (by decide)) ?_
  refine wp_aload_n 0 dX0_addButton_14 rfl rfl ?_
  refine wp_getI dX0_addButton_15 fl_X0_15 i1 ?_
  refine wp_iload_n 1 dX0_addButton_18 rfl rfl ?_
  obtain ⟨b7, hb⟩ := hb
  refine wp_iastore dX0_addButton_19 i6 b7 ?_
  refine wp_topH (fun h8 e9 => ?_)
  have hb := hb h8 e9
  refine wp_aload_n 0 dX0_addButton_20 rfl rfl ?_
  obtain ⟨i10, hb⟩ := hb
  refine wp_getR dX0_addButton_21 fl_X0_69 i1 (i10.ne (by decide)) ?_
  obtain ⟨i11, hb⟩ := hb
  refine wp_getR dX0_addButton_24 fl_X0_93 i10 (i11.ne (by decide)) ?_
  refine wp_aload_n 0 dX0_addButton_27 rfl rfl ?_
  refine wp_getI dX0_addButton_28 fl_X0_15 i1 ?_
  refine wp_iconst (v := 0) dX0_addButton_31 (by decide) ?_
  obtain ⟨b12, hb⟩ := hb
  refine wp_iastore dX0_addButton_32 i11 b12 ?_
  refine wp_topH (fun h13 e14 => ?_)
  have hb := hb h13 e14
  refine wp_aload_n 0 dX0_addButton_33 rfl rfl ?_
  obtain ⟨i15, hb⟩ := hb
  refine wp_getR dX0_addButton_34 fl_X0_76 i1 (i15.ne (by decide)) ?_
  obtain ⟨i16, hb⟩ := hb
  refine wp_getR dX0_addButton_37 fl_X0_86 i15 (i16.ne (by decide)) ?_
  refine wp_aload_n 0 dX0_addButton_40 rfl rfl ?_
  refine wp_getI dX0_addButton_41 fl_X0_15 i1 ?_
  refine wp_iconst (v := 0) dX0_addButton_44 (by decide) ?_
  obtain ⟨b17, hb⟩ := hb
  refine wp_iastore dX0_addButton_45 i16 b17 ?_
  refine wp_topH (fun h18 e19 => ?_)
  have hb := hb h18 e19
  refine wp_aload_n 0 dX0_addButton_46 rfl rfl ?_
  refine wp_dup dX0_addButton_47 rfl ?_
  refine wp_getI dX0_addButton_48 fl_X0_15 i1 ?_
  refine wp_iconst (v := 1) dX0_addButton_51 (by decide) ?_
  refine wp_iadd dX0_addButton_52 ?_
  refine wp_putI dX0_addButton_53 fl_X0_15 (Or.inl rfl) i1 ?_
  refine wp_topH (fun h20 e21 => ?_)
  have hb := hb h20 e21
  refine wp_aload_n 0 dX0_addButton_56 rfl rfl ?_
  obtain ⟨i22, hb⟩ := hb
  refine wp_getR dX0_addButton_57 fl_X0_60 i1 (i22.ne (by decide)) ?_
  refine wp_iload_n 1 dX0_addButton_60 rfl rfl ?_
  refine wp_aload_n 0 dX0_addButton_61 rfl rfl ?_
  refine wp_getI dX0_addButton_62 fl_X0_15 i1 ?_
  obtain ⟨b23, hb⟩ := hb
  refine wp_iastore dX0_addButton_65 i22 b23 ?_
  refine wp_topH (fun h24 e25 => ?_)
  have hb := hb h24 e25
  exact wp_vret rfl dX0_addButton_66 ⟨rfl, hb⟩
theorem c_X0_addButton {l : Launch} {g : AG} {h : AH} {x0 : Nat} {x1 : Int32} {x2 : Int64}  {Q : AH → Prop} (hb : L_X0_addButton_0 l g h x0 x1 x2  Q) : C_X0_addButton l g h x0 x1 x2  Q := ax_met rfl rfl (Nat.le_of_ble_eq_true rfl) hb
def C_X7_takeButtonName (l : Launch) (g : AG) (h : AH) (x0 : Nat)  (Q : Int32 → AH → Prop) : Prop := Ct l g mX7_takeButtonName 2 48 194 194 h [.ref x0] (ax_QI Q)
def L_X7_takeButtonName_0 (l : Launch) (g : AG) (h : AH) (x0 : Nat)  (Q : Int32 → AH → Prop) : Prop := Wp l g mX7_takeButtonName 2 48 194 194 194 0 [(0, .ref x0)] [] h (FM g 194 194 (ax_QI Q))
set_option maxRecDepth 100000 in
set_option maxHeartbeats 4000000 in
theorem s_X7_takeButtonName_0 {l : Launch} {g : AG} {h : AH} {x0 : Nat}  {Q : Int32 → AH → Prop} (hb : (Is 194 x0 6) ∧ ( (Is 194 (h.2.2 x0 1) 0) ∧ ( ∀ v3 : Int32, v3 = ((h.1 (h.2.2 x0 1) 0) - 1) → ( (Is 194 (h.2.2 x0 1) 0) ∧ ( (Is 194 (h.2.2 x0 0) 7) ∧ ( C_X0_buttonNamed l g h (h.2.2 x0 1) v3 (h.2.1 (h.2.2 x0 0) 5) (fun r9 h8 => ( C_X7_isNewName l g h8 x0 r9 (fun r12 h11 => ( ((¬ r12 = 0 → ((Is 194 (h11.2.2 x0 1) 0) ∧ ( ∀ h15 : AH, h15 = ax_setI h11 x0 10 (h11.1 (h11.2.2 x0 1) 1) → ( (Is 194 (h15.2.2 x0 1) 0) ∧ ( (Is 194 (h15.2.2 x0 0) 7) ∧ ( C_X0_addButton l g h15 (h15.2.2 x0 1) v3 (h15.2.1 (h15.2.2 x0 0) 5) (fun h20 => ( C_X7_awaits l g h20 x0 10 (fun r23 h22 => ( (r23 = 0 ∨ r23 = 1) ∧ ( Q r23 h22))))))))))) ∧ (r12 = 0 → (Q 0 h11))))))))))))) : L_X7_takeButtonName_0 l g h x0  Q := by
  obtain ⟨i1, hb⟩ := hb
  refine wp_aload_n 0 dX7_takeButtonName_0 rfl rfl ?_
  obtain ⟨i2, hb⟩ := hb
  refine wp_getR dX7_takeButtonName_1 fl_X7_64 i1 (i2.ne (by decide)) ?_
  refine wp_getI dX7_takeButtonName_4 fl_X7_83 i2 ?_
  refine wp_iconst (v := 1) dX7_takeButtonName_7 (by decide) ?_
  refine wp_isub dX7_takeButtonName_8 ?_
  refine wp_topi (fun v3 e4 => ?_)
  have hb := hb v3 e4
  refine wp_istore_n (lv2 := [(1, .int v3), (0, .ref x0)]) dX7_takeButtonName_9 rfl (by decide) rfl ?_
  refine wp_aload_n 1 dX7_takeButtonName_10 rfl rfl ?_
  refine wp_aload_n 1 dX7_takeButtonName_11 rfl rfl ?_
  obtain ⟨i5, hb⟩ := hb
  refine wp_getR dX7_takeButtonName_12 fl_X7_64 i1 (i5.ne (by decide)) ?_
  refine wp_iload_n 0 dX7_takeButtonName_15 rfl rfl ?_
  refine wp_aload_n 1 dX7_takeButtonName_16 rfl rfl ?_
  obtain ⟨i6, hb⟩ := hb
  refine wp_getR dX7_takeButtonName_17 fl_X7_12 i1 (i6.ne (by decide)) ?_
  refine wp_getL dX7_takeButtonName_20 fl_X7_168 i6 ?_
  refine wp_callVN (as := [.int v3, .long (h.2.1 (h.2.2 x0 0) 5)]) dX7_takeButtonName_23 cb_X0_buttonNamed lk_X7_228 im_X0_buttonNamed se_X0_buttonNamed rfl (Nat.le_of_ble_eq_true rfl) ⟨by decide, by decide⟩ ⟨Nat.le_refl _, Nat.le_refl _, Nat.le_refl _⟩ i5 rfl (by decide) hb (fun r0 h8 hb => ?_)
  obtain ⟨r9, rfl, hb⟩ := hb
  refine wp_callV (as := [.int r9]) dX7_takeButtonName_26 cb_X7_isNewName lk_X7_183 im_X7_isNewName se_X7_isNewName rfl (Nat.le_of_ble_eq_true rfl) ⟨by decide, by decide⟩ ⟨Nat.le_refl _, Nat.le_refl _, Nat.le_refl _⟩ i1 rfl (by decide) hb (fun r0 h11 hb => ?_)
  obtain ⟨r12, rfl, hb⟩ := hb
  refine wp_if_ne (tgt := 34) dX7_takeButtonName_29 (by decide) (fun c13 => ?_) (fun c13 => ?_)
  · have hb := hb.1 c13
    refine wp_aload_n 1 dX7_takeButtonName_34 rfl rfl ?_
    refine wp_aload_n 1 dX7_takeButtonName_35 rfl rfl ?_
    obtain ⟨i14, hb⟩ := hb
    refine wp_getR dX7_takeButtonName_36 fl_X7_64 i1 (i14.ne (by decide)) ?_
    refine wp_getI dX7_takeButtonName_39 fl_X7_207 i14 ?_
    refine wp_putI dX7_takeButtonName_42 fl_X7_45 (Or.inl rfl) i1 ?_
    refine wp_topH (fun h15 e16 => ?_)
    have hb := hb h15 e16
    refine wp_aload_n 1 dX7_takeButtonName_45 rfl rfl ?_
    obtain ⟨i17, hb⟩ := hb
    refine wp_getR dX7_takeButtonName_46 fl_X7_64 i1 (i17.ne (by decide)) ?_
    refine wp_iload_n 0 dX7_takeButtonName_49 rfl rfl ?_
    refine wp_aload_n 1 dX7_takeButtonName_50 rfl rfl ?_
    obtain ⟨i18, hb⟩ := hb
    refine wp_getR dX7_takeButtonName_51 fl_X7_12 i1 (i18.ne (by decide)) ?_
    refine wp_getL dX7_takeButtonName_54 fl_X7_168 i18 ?_
    refine wp_callVN (as := [.int v3, .long (h15.2.1 (h15.2.2 x0 0) 5)]) dX7_takeButtonName_57 cb_X0_addButton lk_X7_232 im_X0_addButton se_X0_addButton rfl (Nat.le_of_ble_eq_true rfl) ⟨by decide, by decide⟩ ⟨Nat.le_refl _, Nat.le_refl _, Nat.le_refl _⟩ i17 rfl (by decide) hb (fun r0 h20 hb => ?_)
    obtain ⟨rfl, hb⟩ := hb
    refine wp_aload_n 1 dX7_takeButtonName_60 rfl rfl ?_
    refine wp_bipush (v := 10) dX7_takeButtonName_61 (by decide) ?_
    refine wp_callV (as := [.int 10]) dX7_takeButtonName_63 cb_X7_awaits lk_X7_131 im_X7_awaits se_X7_awaits rfl (Nat.le_of_ble_eq_true rfl) ⟨by decide, by decide⟩ ⟨Nat.le_refl _, Nat.le_refl _, Nat.le_refl _⟩ i1 rfl (by decide) hb (fun r0 h22 hb => ?_)
    obtain ⟨r23, rfl, hb⟩ := hb
    obtain ⟨q24, hb⟩ := hb
    exact wp_zret rfl dX7_takeButtonName_66 q24 ⟨_, rfl, hb⟩
  · have hb := hb.2 c13
    refine wp_iconst (v := 0) dX7_takeButtonName_32 (by decide) ?_
    exact wp_zret rfl dX7_takeButtonName_33 (Or.inl rfl) ⟨_, rfl, hb⟩
theorem c_X7_takeButtonName {l : Launch} {g : AG} {h : AH} {x0 : Nat}  {Q : Int32 → AH → Prop} (hb : L_X7_takeButtonName_0 l g h x0  Q) : C_X7_takeButtonName l g h x0  Q := ax_met rfl rfl (Nat.le_of_ble_eq_true rfl) hb
def C_X7_takeDo (l : Launch) (g : AG) (h : AH) (x0 : Nat)  (Q : Int32 → AH → Prop) : Prop := Ct l g mX7_takeDo 5 142 194 194 h [.ref x0] (ax_QI Q)
def L_X7_takeDo_0 (l : Launch) (g : AG) (h : AH) (x0 : Nat)  (Q : Int32 → AH → Prop) : Prop := Wp l g mX7_takeDo 5 142 194 194 194 0 [(0, .ref x0)] [] h (FM g 194 194 (ax_QI Q))
set_option maxRecDepth 100000 in
set_option maxHeartbeats 4000000 in
theorem s_X7_takeDo_0 {l : Launch} {g : AG} {h : AH} {x0 : Nat}  {Q : Int32 → AH → Prop} (hb : (Is 194 x0 6) ∧ ( (Is 194 (h.2.2 x0 0) 7) ∧ ( C_X8_says l g h (h.2.2 x0 0) 1005 (fun r5 h4 => ( ((r5 = 0 → (C_X7_faulty l g h4 x0 1 (fun r9 h8 => ( (r9 = 0 ∨ r9 = 1) ∧ ( Q r9 h8))))) ∧ (¬ (r5 = 0) → (C_X7_awaits l g h4 x0 17 (fun r13 h12 => ( (r13 = 0 ∨ r13 = 1) ∧ ( Q r13 h12))))))))))) : L_X7_takeDo_0 l g h x0  Q := by
  obtain ⟨i1, hb⟩ := hb
  refine wp_aload_n 0 dX7_takeDo_0 rfl rfl ?_
  obtain ⟨i2, hb⟩ := hb
  refine wp_getR dX7_takeDo_1 fl_X7_12 i1 (i2.ne (by decide)) ?_
  refine wp_ldcS (q := ("WindowHouse$Reader", 163, "do", 5)) dX7_takeDo_4 (by decide +kernel) rfl rfl (by decide) ?_
  refine wp_callVN (as := [.ref 1005]) dX7_takeDo_6 cb_X8_says lk_X7_127 im_X8_says se_X8_says rfl (Nat.le_of_ble_eq_true rfl) ⟨by decide, by decide⟩ ⟨Nat.le_refl _, Nat.le_refl _, Nat.le_refl _⟩ i2 rfl (by decide) hb (fun r0 h4 hb => ?_)
  obtain ⟨r5, rfl, hb⟩ := hb
  refine wp_if_eq (tgt := 21) dX7_takeDo_9 (by decide) (fun c6 => ?_) (fun c6 => ?_)
  · have hb := hb.1 c6
    refine wp_aload_n 0 dX7_takeDo_21 rfl rfl ?_
    refine wp_iconst (v := 1) dX7_takeDo_22 (by decide) ?_
    refine wp_callV (as := [.int 1]) dX7_takeDo_23 cb_X7_faulty lk_X7_90 im_X7_faulty se_X7_faulty rfl (Nat.le_of_ble_eq_true rfl) ⟨by decide, by decide⟩ ⟨Nat.le_refl _, Nat.le_refl _, Nat.le_refl _⟩ i1 rfl (by decide) hb (fun r0 h8 hb => ?_)
    obtain ⟨r9, rfl, hb⟩ := hb
    obtain ⟨q10, hb⟩ := hb
    exact wp_zret rfl dX7_takeDo_26 q10 ⟨_, rfl, hb⟩
  · have hb := hb.2 c6
    refine wp_aload_n 0 dX7_takeDo_12 rfl rfl ?_
    refine wp_bipush (v := 17) dX7_takeDo_13 (by decide) ?_
    refine wp_callV (as := [.int 17]) dX7_takeDo_15 cb_X7_awaits lk_X7_131 im_X7_awaits se_X7_awaits rfl (Nat.le_of_ble_eq_true rfl) ⟨by decide, by decide⟩ ⟨Nat.le_refl _, Nat.le_refl _, Nat.le_refl _⟩ i1 rfl (by decide) hb (fun r0 h12 hb => ?_)
    obtain ⟨r13, rfl, hb⟩ := hb
    refine wp_goto (tgt := 26) dX7_takeDo_18 (by decide) ?_
    obtain ⟨q14, hb⟩ := hb
    exact wp_zret rfl dX7_takeDo_26 q14 ⟨_, rfl, hb⟩
theorem c_X7_takeDo {l : Launch} {g : AG} {h : AH} {x0 : Nat}  {Q : Int32 → AH → Prop} (hb : L_X7_takeDo_0 l g h x0  Q) : C_X7_takeDo l g h x0  Q := ax_met rfl rfl (Nat.le_of_ble_eq_true rfl) hb
def C_X7_takeCondName (l : Launch) (g : AG) (h : AH) (x0 : Nat)  (Q : Int32 → AH → Prop) : Prop := Ct l g mX7_takeCondName 3 67 194 194 h [.ref x0] (ax_QI Q)
def L_X7_takeCondName_0 (l : Launch) (g : AG) (h : AH) (x0 : Nat)  (Q : Int32 → AH → Prop) : Prop := Wp l g mX7_takeCondName 3 67 194 194 194 0 [(0, .ref x0)] [] h (FM g 194 194 (ax_QI Q))
set_option maxRecDepth 100000 in
set_option maxHeartbeats 4000000 in
theorem s_X7_takeCondName_0 {l : Launch} {g : AG} {h : AH} {x0 : Nat}  {Q : Int32 → AH → Prop} (hb : (Is 194 x0 6) ∧ ( C_X7_isVar l g h x0 (fun r4 h3 => ( ((¬ r4 = 0 → ((Is 194 (h3.2.2 x0 1) 0) ∧ ( (Is 194 (h3.2.2 (h3.2.2 x0 1) 17) 3) ∧ ( (Is 194 (h3.2.2 (h3.2.2 (h3.2.2 x0 1) 17) 0) 20) ∧ ( (Is 194 (h3.2.2 x0 1) 0) ∧ ( (vp_in ((h3.1 (h3.2.2 x0 1) 1) - 1) (ax_s (h3.2.2 (h3.2.2 (h3.2.2 x0 1) 17) 0)).2) ∧ ( ∀ v11 : Int32, v11 = (h3.1 (h3.2.2 (h3.2.2 (h3.2.2 x0 1) 17) 0) ((h3.1 (h3.2.2 x0 1) 1) - 1).toNatClampNeg) → ( ((3 ≤ v11 → (C_X7_faulty l g h3 x0 5 (fun r16 h15 => ( (r16 = 0 ∨ r16 = 1) ∧ ( Q r16 h15))))) ∧ (¬ (3 ≤ v11) → (C_X7_awaits l g h3 x0 12 (fun r20 h19 => ( (r20 = 0 ∨ r20 = 1) ∧ ( Q r20 h19)))))))))))))) ∧ (r4 = 0 → (Q 0 h3))))))) : L_X7_takeCondName_0 l g h x0  Q := by
  obtain ⟨i1, hb⟩ := hb
  refine wp_aload_n 0 dX7_takeCondName_0 rfl rfl ?_
  refine wp_callV (as := []) dX7_takeCondName_1 cb_X7_isVar lk_X7_221 im_X7_isVar se_X7_isVar rfl (Nat.le_of_ble_eq_true rfl) ⟨by decide, by decide⟩ ⟨Nat.le_refl _, Nat.le_refl _, Nat.le_refl _⟩ i1 rfl (by decide) hb (fun r0 h3 hb => ?_)
  obtain ⟨r4, rfl, hb⟩ := hb
  refine wp_if_ne (tgt := 9) dX7_takeCondName_4 (by decide) (fun c5 => ?_) (fun c5 => ?_)
  · have hb := hb.1 c5
    refine wp_aload_n 0 dX7_takeCondName_9 rfl rfl ?_
    obtain ⟨i6, hb⟩ := hb
    refine wp_getR dX7_takeCondName_10 fl_X7_64 i1 (i6.ne (by decide)) ?_
    obtain ⟨i7, hb⟩ := hb
    refine wp_getR dX7_takeCondName_13 fl_X7_236 i6 (i7.ne (by decide)) ?_
    obtain ⟨i8, hb⟩ := hb
    refine wp_getR dX7_takeCondName_16 fl_X7_240 i7 (i8.ne (by decide)) ?_
    refine wp_aload_n 0 dX7_takeCondName_19 rfl rfl ?_
    obtain ⟨i9, hb⟩ := hb
    refine wp_getR dX7_takeCondName_20 fl_X7_64 i1 (i9.ne (by decide)) ?_
    refine wp_getI dX7_takeCondName_23 fl_X7_207 i9 ?_
    refine wp_iconst (v := 1) dX7_takeCondName_26 (by decide) ?_
    refine wp_isub dX7_takeCondName_27 ?_
    obtain ⟨b10, hb⟩ := hb
    refine wp_iaload dX7_takeCondName_28 i8 b10 ?_
    refine wp_topi (fun v11 e12 => ?_)
    have hb := hb v11 e12
    refine wp_iconst (v := 3) dX7_takeCondName_29 (by decide) ?_
    refine wp_icmp_ge (tgt := 42) dX7_takeCondName_30 (by decide) (fun c13 => ?_) (fun c13 => ?_)
    · have hb := hb.1 c13
      refine wp_aload_n 0 dX7_takeCondName_42 rfl rfl ?_
      refine wp_iconst (v := 5) dX7_takeCondName_43 (by decide) ?_
      refine wp_callV (as := [.int 5]) dX7_takeCondName_44 cb_X7_faulty lk_X7_90 im_X7_faulty se_X7_faulty rfl (Nat.le_of_ble_eq_true rfl) ⟨by decide, by decide⟩ ⟨Nat.le_refl _, Nat.le_refl _, Nat.le_refl _⟩ i1 rfl (by decide) hb (fun r0 h15 hb => ?_)
      obtain ⟨r16, rfl, hb⟩ := hb
      obtain ⟨q17, hb⟩ := hb
      exact wp_zret rfl dX7_takeCondName_47 q17 ⟨_, rfl, hb⟩
    · have hb := hb.2 c13
      refine wp_aload_n 0 dX7_takeCondName_33 rfl rfl ?_
      refine wp_bipush (v := 12) dX7_takeCondName_34 (by decide) ?_
      refine wp_callV (as := [.int 12]) dX7_takeCondName_36 cb_X7_awaits lk_X7_131 im_X7_awaits se_X7_awaits rfl (Nat.le_of_ble_eq_true rfl) ⟨by decide, by decide⟩ ⟨Nat.le_refl _, Nat.le_refl _, Nat.le_refl _⟩ i1 rfl (by decide) hb (fun r0 h19 hb => ?_)
      obtain ⟨r20, rfl, hb⟩ := hb
      refine wp_goto (tgt := 47) dX7_takeCondName_39 (by decide) ?_
      obtain ⟨q21, hb⟩ := hb
      exact wp_zret rfl dX7_takeCondName_47 q21 ⟨_, rfl, hb⟩
  · have hb := hb.2 c5
    refine wp_iconst (v := 0) dX7_takeCondName_7 (by decide) ?_
    exact wp_zret rfl dX7_takeCondName_8 (Or.inl rfl) ⟨_, rfl, hb⟩
theorem c_X7_takeCondName {l : Launch} {g : AG} {h : AH} {x0 : Nat}  {Q : Int32 → AH → Prop} (hb : L_X7_takeCondName_0 l g h x0  Q) : C_X7_takeCondName l g h x0  Q := ax_met rfl rfl (Nat.le_of_ble_eq_true rfl) hb
def C_X7_takeCondSign (l : Launch) (g : AG) (h : AH) (x0 : Nat)  (Q : Int32 → AH → Prop) : Prop := Ct l g mX7_takeCondSign 1 21 194 194 h [.ref x0] (ax_QI Q)
def L_X7_takeCondSign_0 (l : Launch) (g : AG) (h : AH) (x0 : Nat)  (Q : Int32 → AH → Prop) : Prop := Wp l g mX7_takeCondSign 1 21 194 194 194 0 [(0, .ref x0)] [] h (FM g 194 194 (ax_QI Q))
set_option maxRecDepth 100000 in
set_option maxHeartbeats 4000000 in
theorem s_X7_takeCondSign_0 {l : Launch} {g : AG} {h : AH} {x0 : Nat}  {Q : Int32 → AH → Prop} (hb : (Is 194 x0 6) ∧ ( (Is 194 (h.2.2 x0 0) 7) ∧ ( C_X8_isComparison l g h (h.1 (h.2.2 x0 0) 3) (fun r5 h4 => ( ((¬ r5 = 0 → ((Is 194 (h4.2.2 x0 0) 7) ∧ ( ∀ h8 : AH, h8 = ax_setI h4 x0 8 (h4.1 (h4.2.2 x0 0) 3) → ( C_X7_awaits l g h8 x0 13 (fun r12 h11 => ( (r12 = 0 ∨ r12 = 1) ∧ ( Q r12 h11))))))) ∧ (r5 = 0 → (C_X7_faulty l g h4 x0 1 (fun r16 h15 => ( (r16 = 0 ∨ r16 = 1) ∧ ( Q r16 h15))))))))))) : L_X7_takeCondSign_0 l g h x0  Q := by
  obtain ⟨i1, hb⟩ := hb
  refine wp_aload_n 0 dX7_takeCondSign_0 rfl rfl ?_
  obtain ⟨i2, hb⟩ := hb
  refine wp_getR dX7_takeCondSign_1 fl_X7_12 i1 (i2.ne (by decide)) ?_
  refine wp_getI dX7_takeCondSign_4 fl_X7_80 i2 ?_
  refine wp_callSN (as := [.int (h.1 (h.2.2 x0 0) 3)]) dX7_takeCondSign_7 cb_X8_isComparison lk_X7_245 st_X8_isComparison rfl (Nat.le_of_ble_eq_true rfl) ⟨by decide, by decide⟩ ⟨Nat.le_refl _, Nat.le_refl _, Nat.le_refl _⟩ hb (fun r0 h4 hb => ?_)
  obtain ⟨r5, rfl, hb⟩ := hb
  refine wp_if_ne (tgt := 19) dX7_takeCondSign_10 (by decide) (fun c6 => ?_) (fun c6 => ?_)
  · have hb := hb.1 c6
    refine wp_aload_n 0 dX7_takeCondSign_19 rfl rfl ?_
    refine wp_aload_n 0 dX7_takeCondSign_20 rfl rfl ?_
    obtain ⟨i7, hb⟩ := hb
    refine wp_getR dX7_takeCondSign_21 fl_X7_12 i1 (i7.ne (by decide)) ?_
    refine wp_getI dX7_takeCondSign_24 fl_X7_80 i7 ?_
    refine wp_putI dX7_takeCondSign_27 fl_X7_39 (Or.inl rfl) i1 ?_
    refine wp_topH (fun h8 e9 => ?_)
    have hb := hb h8 e9
    refine wp_aload_n 0 dX7_takeCondSign_30 rfl rfl ?_
    refine wp_bipush (v := 13) dX7_takeCondSign_31 (by decide) ?_
    refine wp_callV (as := [.int 13]) dX7_takeCondSign_33 cb_X7_awaits lk_X7_131 im_X7_awaits se_X7_awaits rfl (Nat.le_of_ble_eq_true rfl) ⟨by decide, by decide⟩ ⟨Nat.le_refl _, Nat.le_refl _, Nat.le_refl _⟩ i1 rfl (by decide) hb (fun r0 h11 hb => ?_)
    obtain ⟨r12, rfl, hb⟩ := hb
    obtain ⟨q13, hb⟩ := hb
    exact wp_zret rfl dX7_takeCondSign_36 q13 ⟨_, rfl, hb⟩
  · have hb := hb.2 c6
    refine wp_aload_n 0 dX7_takeCondSign_13 rfl rfl ?_
    refine wp_iconst (v := 1) dX7_takeCondSign_14 (by decide) ?_
    refine wp_callV (as := [.int 1]) dX7_takeCondSign_15 cb_X7_faulty lk_X7_90 im_X7_faulty se_X7_faulty rfl (Nat.le_of_ble_eq_true rfl) ⟨by decide, by decide⟩ ⟨Nat.le_refl _, Nat.le_refl _, Nat.le_refl _⟩ i1 rfl (by decide) hb (fun r0 h15 hb => ?_)
    obtain ⟨r16, rfl, hb⟩ := hb
    obtain ⟨q17, hb⟩ := hb
    exact wp_zret rfl dX7_takeCondSign_18 q17 ⟨_, rfl, hb⟩
theorem c_X7_takeCondSign {l : Launch} {g : AG} {h : AH} {x0 : Nat}  {Q : Int32 → AH → Prop} (hb : L_X7_takeCondSign_0 l g h x0  Q) : C_X7_takeCondSign l g h x0  Q := ax_met rfl rfl (Nat.le_of_ble_eq_true rfl) hb
def C_X4_add (l : Launch) (g : AG) (h : AH) (x0 : Nat) (x1 : Int32) (x2 : Int32) (x3 : Int32) (x4 : Int32)  (Q : AH → Prop) : Prop := Ct l g mX4_add 0 0 194 194 h [.ref x0, .int x1, .int x2, .int x3, .int x4] (ax_QV Q)
def L_X4_add_0 (l : Launch) (g : AG) (h : AH) (x0 : Nat) (x1 : Int32) (x2 : Int32) (x3 : Int32) (x4 : Int32)  (Q : AH → Prop) : Prop := Wp l g mX4_add 0 0 194 194 194 0 [(0, .ref x0), (1, .int x1), (2, .int x2), (3, .int x3), (4, .int x4)] [] h (FM g 194 194 (ax_QV Q))
def L_X4_add_51 (l : Launch) (g : AG) (h : AH) (x0 : Nat) (x1 : Int32) (x3 : Int32) (x4 : Int32) (x5 : Int32) (s0 : Int32) (s1 : Int32) (s2 : Nat) (Q : AH → Prop) : Prop := Wp l g mX4_add 0 0 194 194 194 51 [(0, .ref x0), (1, .int x1), (3, .int x3), (4, .int x4), (5, .int x5)] [.int s0, .int s1, .ref s2] h (FM g 194 194 (ax_QV Q))
def L_X4_add_84 (l : Launch) (g : AG) (h : AH) (x0 : Nat) (x1 : Int32) (s0 : Int32) (s1 : Int32) (s2 : Nat) (Q : AH → Prop) : Prop := Wp l g mX4_add 0 0 194 194 194 84 [(0, .ref x0), (1, .int x1)] [.int s0, .int s1, .ref s2] h (FM g 194 194 (ax_QV Q))
set_option maxRecDepth 100000 in
set_option maxHeartbeats 4000000 in
theorem s_X4_add_0 {l : Launch} {g : AG} {h : AH} {x0 : Nat} {x1 : Int32} {x2 : Int32} {x3 : Int32} {x4 : Int32}  {Q : AH → Prop} (hb : (Is 194 x0 3) ∧ ( (Is 194 (h.2.2 x0 0) 20) ∧ ( (vp_in x1 (ax_s (h.2.2 x0 0)).2) ∧ ( ∀ v4 : Int32, v4 = ((x1 * 3) + (h.1 (h.2.2 x0 0) x1.toNatClampNeg)) → ( (Is 194 (h.2.2 x0 1) 20) ∧ ( (vp_in v4 (ax_s (h.2.2 x0 1)).2) ∧ ( ∀ h8 : AH, h8 = ax_setI h (h.2.2 x0 1) v4.toNatClampNeg x2 → ( (Is 194 (h8.2.2 x0 2) 20) ∧ ( ((¬ x3 = 61 → (((¬ x3 = 60 → (L_X4_add_51 l g h8 x0 x1 x3 x4 v4 (x4 + 1) v4 (h8.2.2 x0 2) Q)) ∧ (x3 = 60 → (L_X4_add_51 l g h8 x0 x1 x3 x4 v4 0 v4 (h8.2.2 x0 2) Q))))) ∧ (x3 = 61 → (L_X4_add_51 l g h8 x0 x1 x3 x4 v4 x4 v4 (h8.2.2 x0 2) Q)))))))))))) : L_X4_add_0 l g h x0 x1 x2 x3 x4  Q := by
  refine wp_iload_n 1 dX4_add_0 rfl rfl ?_
  refine wp_iconst (v := 3) dX4_add_1 (by decide) ?_
  refine wp_imul dX4_add_2 ?_
  obtain ⟨i1, hb⟩ := hb
  refine wp_aload_n 0 dX4_add_3 rfl rfl ?_
  obtain ⟨i2, hb⟩ := hb
  refine wp_getR dX4_add_4 fl_X4_9 i1 (i2.ne (by decide)) ?_
  refine wp_iload_n 1 dX4_add_7 rfl rfl ?_
  obtain ⟨b3, hb⟩ := hb
  refine wp_iaload dX4_add_8 i2 b3 ?_
  refine wp_iadd dX4_add_9 ?_
  refine wp_topi (fun v4 e5 => ?_)
  have hb := hb v4 e5
  refine wp_istore (lv2 := [(5, .int v4), (0, .ref x0), (1, .int x1), (2, .int x2), (3, .int x3), (4, .int x4)]) dX4_add_10 (by decide) rfl ?_
  refine wp_aload_n 1 dX4_add_12 rfl rfl ?_
  obtain ⟨i6, hb⟩ := hb
  refine wp_getR dX4_add_13 fl_X4_15 i1 (i6.ne (by decide)) ?_
  refine wp_iload 0 dX4_add_16 rfl ?_
  refine wp_iload_n 3 dX4_add_18 rfl rfl ?_
  obtain ⟨b7, hb⟩ := hb
  refine wp_iastore dX4_add_19 i6 b7 ?_
  refine wp_topH (fun h8 e9 => ?_)
  have hb := hb h8 e9
  refine wp_aload_n 1 dX4_add_20 rfl rfl ?_
  obtain ⟨i10, hb⟩ := hb
  refine wp_getR dX4_add_21 fl_X4_18 i1 (i10.ne (by decide)) ?_
  refine wp_iload 0 dX4_add_24 rfl ?_
  refine wp_iload_n 4 dX4_add_26 rfl rfl ?_
  refine wp_bipush (v := 61) dX4_add_27 (by decide) ?_
  refine wp_icmp_ne (tgt := 37) dX4_add_29 (by decide) (fun c11 => ?_) (fun c11 => ?_)
  · have hb := hb.1 c11
    refine wp_iload_n 4 dX4_add_37 rfl rfl ?_
    refine wp_bipush (v := 60) dX4_add_38 (by decide) ?_
    refine wp_icmp_ne (tgt := 47) dX4_add_40 (by decide) (fun c12 => ?_) (fun c12 => ?_)
    · have hb := hb.1 c12
      refine wp_iload 5 dX4_add_47 rfl ?_
      refine wp_iconst (v := 1) dX4_add_49 (by decide) ?_
      refine wp_iadd dX4_add_50 ?_
      exact wp_sub [1, 2, 4, 5, 0] rfl hb
    · have hb := hb.2 c12
      refine wp_iconst (v := 0) dX4_add_43 (by decide) ?_
      refine wp_goto (tgt := 51) dX4_add_44 (by decide) ?_
      exact wp_sub [1, 2, 4, 5, 0] rfl hb
  · have hb := hb.2 c11
    refine wp_iload 5 dX4_add_32 rfl ?_
    refine wp_goto (tgt := 51) dX4_add_34 (by decide) ?_
    exact wp_sub [1, 2, 4, 5, 0] rfl hb
set_option maxRecDepth 100000 in
set_option maxHeartbeats 4000000 in
theorem s_X4_add_51 {l : Launch} {g : AG} {h : AH} {x0 : Nat} {x1 : Int32} {x3 : Int32} {x4 : Int32} {x5 : Int32} {s0 : Int32} {s1 : Int32} {s2 : Nat} {Q : AH → Prop} (hb : (Is 194 s2 20) ∧ ( (vp_in s1 (ax_s s2).2) ∧ ( ∀ h15 : AH, h15 = ax_setI h s2 s1.toNatClampNeg s0 → ( (Is 194 x0 3) ∧ ( (Is 194 (h15.2.2 x0 3) 20) ∧ ( ((¬ x3 = 61 → (((¬ x3 = 60 → (L_X4_add_84 l g h15 x0 x1 15 x5 (h15.2.2 x0 3) Q)) ∧ (x3 = 60 → (L_X4_add_84 l g h15 x0 x1 (x4 - 1) x5 (h15.2.2 x0 3) Q))))) ∧ (x3 = 61 → (L_X4_add_84 l g h15 x0 x1 x4 x5 (h15.2.2 x0 3) Q))))))))) : L_X4_add_51 l g h x0 x1 x3 x4 x5 s0 s1 s2 Q := by
  obtain ⟨i13, hb⟩ := hb
  obtain ⟨b14, hb⟩ := hb
  refine wp_iastore dX4_add_51 i13 b14 ?_
  refine wp_topH (fun h15 e16 => ?_)
  have hb := hb h15 e16
  obtain ⟨i17, hb⟩ := hb
  refine wp_aload_n 0 dX4_add_52 rfl rfl ?_
  obtain ⟨i18, hb⟩ := hb
  refine wp_getR dX4_add_53 fl_X4_21 i17 (i18.ne (by decide)) ?_
  refine wp_iload 4 dX4_add_56 rfl ?_
  refine wp_iload_n 2 dX4_add_58 rfl rfl ?_
  refine wp_bipush (v := 61) dX4_add_59 (by decide) ?_
  refine wp_icmp_ne (tgt := 69) dX4_add_61 (by decide) (fun c19 => ?_) (fun c19 => ?_)
  · have hb := hb.1 c19
    refine wp_iload_n 2 dX4_add_69 rfl rfl ?_
    refine wp_bipush (v := 60) dX4_add_70 (by decide) ?_
    refine wp_icmp_ne (tgt := 82) dX4_add_72 (by decide) (fun c20 => ?_) (fun c20 => ?_)
    · have hb := hb.1 c20
      refine wp_bipush (v := 15) dX4_add_82 (by decide) ?_
      exact wp_sub [0, 1] rfl hb
    · have hb := hb.2 c20
      refine wp_iload 3 dX4_add_75 rfl ?_
      refine wp_iconst (v := 1) dX4_add_77 (by decide) ?_
      refine wp_isub dX4_add_78 ?_
      refine wp_goto (tgt := 84) dX4_add_79 (by decide) ?_
      exact wp_sub [0, 1] rfl hb
  · have hb := hb.2 c19
    refine wp_iload 3 dX4_add_64 rfl ?_
    refine wp_goto (tgt := 84) dX4_add_66 (by decide) ?_
    exact wp_sub [0, 1] rfl hb
set_option maxRecDepth 100000 in
set_option maxHeartbeats 4000000 in
theorem s_X4_add_84 {l : Launch} {g : AG} {h : AH} {x0 : Nat} {x1 : Int32} {s0 : Int32} {s1 : Int32} {s2 : Nat} {Q : AH → Prop} (hb : (Is 194 s2 20) ∧ ( (vp_in s1 (ax_s s2).2) ∧ ( ∀ h23 : AH, h23 = ax_setI h s2 s1.toNatClampNeg s0 → ( (Is 194 x0 3) ∧ ( (Is 194 (h23.2.2 x0 0) 20) ∧ ( (vp_in x1 (ax_s (h23.2.2 x0 0)).2) ∧ ( (vp_in x1 (ax_s (h23.2.2 x0 0)).2) ∧ ( ∀ h29 : AH, h29 = ax_setI h23 (h23.2.2 x0 0) x1.toNatClampNeg ((h23.1 (h23.2.2 x0 0) x1.toNatClampNeg) + 1) → ( Q h29))))))))) : L_X4_add_84 l g h x0 x1 s0 s1 s2 Q := by
  obtain ⟨i21, hb⟩ := hb
  obtain ⟨b22, hb⟩ := hb
  refine wp_iastore dX4_add_84 i21 b22 ?_
  refine wp_topH (fun h23 e24 => ?_)
  have hb := hb h23 e24
  obtain ⟨i25, hb⟩ := hb
  refine wp_aload_n 0 dX4_add_85 rfl rfl ?_
  obtain ⟨i26, hb⟩ := hb
  refine wp_getR dX4_add_86 fl_X4_9 i25 (i26.ne (by decide)) ?_
  refine wp_iload_n 1 dX4_add_89 rfl rfl ?_
  refine wp_dup2_11 dX4_add_90 rfl rfl ?_
  obtain ⟨b27, hb⟩ := hb
  refine wp_iaload dX4_add_91 i26 b27 ?_
  refine wp_iconst (v := 1) dX4_add_92 (by decide) ?_
  refine wp_iadd dX4_add_93 ?_
  obtain ⟨b28, hb⟩ := hb
  refine wp_iastore dX4_add_94 i26 b28 ?_
  refine wp_topH (fun h29 e30 => ?_)
  have hb := hb h29 e30
  exact wp_vret rfl dX4_add_95 ⟨rfl, hb⟩
theorem c_X4_add {l : Launch} {g : AG} {h : AH} {x0 : Nat} {x1 : Int32} {x2 : Int32} {x3 : Int32} {x4 : Int32}  {Q : AH → Prop} (hb : L_X4_add_0 l g h x0 x1 x2 x3 x4  Q) : C_X4_add l g h x0 x1 x2 x3 x4  Q := ax_met rfl rfl (Nat.le_of_ble_eq_true rfl) hb
def C_X7_takeCondNumber (l : Launch) (g : AG) (h : AH) (x0 : Nat)  (Q : Int32 → AH → Prop) : Prop := Ct l g mX7_takeCondNumber 2 43 194 194 h [.ref x0] (ax_QI Q)
def L_X7_takeCondNumber_0 (l : Launch) (g : AG) (h : AH) (x0 : Nat)  (Q : Int32 → AH → Prop) : Prop := Wp l g mX7_takeCondNumber 2 43 194 194 194 0 [(0, .ref x0)] [] h (FM g 194 194 (ax_QI Q))
set_option maxRecDepth 100000 in
set_option maxHeartbeats 4000000 in
theorem s_X7_takeCondNumber_0 {l : Launch} {g : AG} {h : AH} {x0 : Nat}  {Q : Int32 → AH → Prop} (hb : (Is 194 x0 6) ∧ ( C_X7_isNumber l g h x0 0 9 (fun r4 h3 => ( ((¬ r4 = 0 → ((Is 194 (h3.2.2 x0 1) 0) ∧ ( (Is 194 (h3.2.2 (h3.2.2 x0 1) 17) 3) ∧ ( (Is 194 (h3.2.2 x0 1) 0) ∧ ( (Is 194 (h3.2.2 x0 0) 7) ∧ ( C_X4_add l g h3 (h3.2.2 (h3.2.2 x0 1) 17) ((h3.1 (h3.2.2 x0 1) 1) - 1) (h3.1 x0 7) (h3.1 x0 8) (h3.1 (h3.2.2 x0 0) 6) (fun h11 => ( C_X7_awaits l g h11 x0 14 (fun r14 h13 => ( (r14 = 0 ∨ r14 = 1) ∧ ( Q r14 h13))))))))))) ∧ (r4 = 0 → (Q 0 h3))))))) : L_X7_takeCondNumber_0 l g h x0  Q := by
  obtain ⟨i1, hb⟩ := hb
  refine wp_aload_n 0 dX7_takeCondNumber_0 rfl rfl ?_
  refine wp_iconst (v := 0) dX7_takeCondNumber_1 (by decide) ?_
  refine wp_bipush (v := 9) dX7_takeCondNumber_2 (by decide) ?_
  refine wp_callV (as := [.int 0, .int 9]) dX7_takeCondNumber_4 cb_X7_isNumber lk_X7_186 im_X7_isNumber se_X7_isNumber rfl (Nat.le_of_ble_eq_true rfl) ⟨by decide, by decide⟩ ⟨Nat.le_refl _, Nat.le_refl _, Nat.le_refl _⟩ i1 rfl (by decide) hb (fun r0 h3 hb => ?_)
  obtain ⟨r4, rfl, hb⟩ := hb
  refine wp_if_ne (tgt := 12) dX7_takeCondNumber_7 (by decide) (fun c5 => ?_) (fun c5 => ?_)
  · have hb := hb.1 c5
    refine wp_aload_n 0 dX7_takeCondNumber_12 rfl rfl ?_
    obtain ⟨i6, hb⟩ := hb
    refine wp_getR dX7_takeCondNumber_13 fl_X7_64 i1 (i6.ne (by decide)) ?_
    obtain ⟨i7, hb⟩ := hb
    refine wp_getR dX7_takeCondNumber_16 fl_X7_236 i6 (i7.ne (by decide)) ?_
    refine wp_aload_n 0 dX7_takeCondNumber_19 rfl rfl ?_
    obtain ⟨i8, hb⟩ := hb
    refine wp_getR dX7_takeCondNumber_20 fl_X7_64 i1 (i8.ne (by decide)) ?_
    refine wp_getI dX7_takeCondNumber_23 fl_X7_207 i8 ?_
    refine wp_iconst (v := 1) dX7_takeCondNumber_26 (by decide) ?_
    refine wp_isub dX7_takeCondNumber_27 ?_
    refine wp_aload_n 0 dX7_takeCondNumber_28 rfl rfl ?_
    refine wp_getI dX7_takeCondNumber_29 fl_X7_36 i1 ?_
    refine wp_aload_n 0 dX7_takeCondNumber_32 rfl rfl ?_
    refine wp_getI dX7_takeCondNumber_33 fl_X7_39 i1 ?_
    refine wp_aload_n 0 dX7_takeCondNumber_36 rfl rfl ?_
    obtain ⟨i9, hb⟩ := hb
    refine wp_getR dX7_takeCondNumber_37 fl_X7_12 i1 (i9.ne (by decide)) ?_
    refine wp_getI dX7_takeCondNumber_40 fl_X7_165 i9 ?_
    refine wp_callVN (as := [.int ((h3.1 (h3.2.2 x0 1) 1) - 1), .int (h3.1 x0 7), .int (h3.1 x0 8), .int (h3.1 (h3.2.2 x0 0) 6)]) dX7_takeCondNumber_43 cb_X4_add lk_X7_248 im_X4_add se_X4_add rfl (Nat.le_of_ble_eq_true rfl) ⟨by decide, by decide⟩ ⟨Nat.le_refl _, Nat.le_refl _, Nat.le_refl _⟩ i7 rfl (by decide) hb (fun r0 h11 hb => ?_)
    obtain ⟨rfl, hb⟩ := hb
    refine wp_aload_n 0 dX7_takeCondNumber_46 rfl rfl ?_
    refine wp_bipush (v := 14) dX7_takeCondNumber_47 (by decide) ?_
    refine wp_callV (as := [.int 14]) dX7_takeCondNumber_49 cb_X7_awaits lk_X7_131 im_X7_awaits se_X7_awaits rfl (Nat.le_of_ble_eq_true rfl) ⟨by decide, by decide⟩ ⟨Nat.le_refl _, Nat.le_refl _, Nat.le_refl _⟩ i1 rfl (by decide) hb (fun r0 h13 hb => ?_)
    obtain ⟨r14, rfl, hb⟩ := hb
    obtain ⟨q15, hb⟩ := hb
    exact wp_zret rfl dX7_takeCondNumber_52 q15 ⟨_, rfl, hb⟩
  · have hb := hb.2 c5
    refine wp_iconst (v := 0) dX7_takeCondNumber_10 (by decide) ?_
    exact wp_zret rfl dX7_takeCondNumber_11 (Or.inl rfl) ⟨_, rfl, hb⟩
theorem c_X7_takeCondNumber {l : Launch} {g : AG} {h : AH} {x0 : Nat}  {Q : Int32 → AH → Prop} (hb : L_X7_takeCondNumber_0 l g h x0  Q) : C_X7_takeCondNumber l g h x0  Q := ax_met rfl rfl (Nat.le_of_ble_eq_true rfl) hb
def C_X0_addTimer (l : Launch) (g : AG) (h : AH) (x0 : Nat) (x1 : Int32) (x2 : Int32)  (Q : AH → Prop) : Prop := Ct l g mX0_addTimer 0 0 194 194 h [.ref x0, .int x1, .int x2] (ax_QV Q)
def L_X0_addTimer_0 (l : Launch) (g : AG) (h : AH) (x0 : Nat) (x1 : Int32) (x2 : Int32)  (Q : AH → Prop) : Prop := Wp l g mX0_addTimer 0 0 194 194 194 0 [(0, .ref x0), (1, .int x1), (2, .int x2)] [] h (FM g 194 194 (ax_QV Q))
set_option maxRecDepth 100000 in
set_option maxHeartbeats 4000000 in
theorem s_X0_addTimer_0 {l : Launch} {g : AG} {h : AH} {x0 : Nat} {x1 : Int32} {x2 : Int32}  {Q : AH → Prop} (hb : (Is 194 x0 0) ∧ ( (Is 194 (h.2.2 x0 13) 20) ∧ ( (vp_in x1 (ax_s (h.2.2 x0 13)).2) ∧ ( ∀ h4 : AH, h4 = ax_setI h (h.2.2 x0 13) x1.toNatClampNeg x2 → ( ∀ h6 : AH, h6 = ax_setI h4 x0 5 ((h4.1 x0 5) + 1) → ( Q h6)))))) : L_X0_addTimer_0 l g h x0 x1 x2  Q := by
  obtain ⟨i1, hb⟩ := hb
  refine wp_aload_n 0 dX0_addTimer_0 rfl rfl ?_
  obtain ⟨i2, hb⟩ := hb
  refine wp_getR dX0_addTimer_1 fl_X0_54 i1 (i2.ne (by decide)) ?_
  refine wp_iload_n 1 dX0_addTimer_4 rfl rfl ?_
  refine wp_iload_n 2 dX0_addTimer_5 rfl rfl ?_
  obtain ⟨b3, hb⟩ := hb
  refine wp_iastore dX0_addTimer_6 i2 b3 ?_
  refine wp_topH (fun h4 e5 => ?_)
  have hb := hb h4 e5
  refine wp_aload_n 0 dX0_addTimer_7 rfl rfl ?_
  refine wp_dup dX0_addTimer_8 rfl ?_
  refine wp_getI dX0_addTimer_9 fl_X0_27 i1 ?_
  refine wp_iconst (v := 1) dX0_addTimer_12 (by decide) ?_
  refine wp_iadd dX0_addTimer_13 ?_
  refine wp_putI dX0_addTimer_14 fl_X0_27 (Or.inl rfl) i1 ?_
  refine wp_topH (fun h6 e7 => ?_)
  have hb := hb h6 e7
  exact wp_vret rfl dX0_addTimer_17 ⟨rfl, hb⟩
theorem c_X0_addTimer {l : Launch} {g : AG} {h : AH} {x0 : Nat} {x1 : Int32} {x2 : Int32}  {Q : AH → Prop} (hb : L_X0_addTimer_0 l g h x0 x1 x2  Q) : C_X0_addTimer l g h x0 x1 x2  Q := ax_met rfl rfl (Nat.le_of_ble_eq_true rfl) hb
def C_X7_takeTimerTicks (l : Launch) (g : AG) (h : AH) (x0 : Nat)  (Q : Int32 → AH → Prop) : Prop := Ct l g mX7_takeTimerTicks 2 43 194 194 h [.ref x0] (ax_QI Q)
def L_X7_takeTimerTicks_0 (l : Launch) (g : AG) (h : AH) (x0 : Nat)  (Q : Int32 → AH → Prop) : Prop := Wp l g mX7_takeTimerTicks 2 43 194 194 194 0 [(0, .ref x0)] [] h (FM g 194 194 (ax_QI Q))
set_option maxRecDepth 100000 in
set_option maxHeartbeats 4000000 in
theorem s_X7_takeTimerTicks_0 {l : Launch} {g : AG} {h : AH} {x0 : Nat}  {Q : Int32 → AH → Prop} (hb : (Is 194 x0 6) ∧ ( C_X7_isNumber l g h x0 1 9 (fun r4 h3 => ( ((¬ r4 = 0 → ((Is 194 (h3.2.2 x0 1) 0) ∧ ( ∀ v7 : Int32, v7 = ((h3.1 (h3.2.2 x0 1) 0) - 1) → ( C_X5_ofTimer l g h3 v7 (fun r11 h10 => ( ∀ h12 : AH, h12 = ax_setI h10 x0 10 r11 → ( (Is 194 (h12.2.2 x0 1) 0) ∧ ( (Is 194 (h12.2.2 x0 0) 7) ∧ ( C_X0_addTimer l g h12 (h12.2.2 x0 1) v7 (h12.1 (h12.2.2 x0 0) 6) (fun h17 => ( C_X7_awaits l g h17 x0 16 (fun r20 h19 => ( (r20 = 0 ∨ r20 = 1) ∧ ( Q r20 h19)))))))))))))) ∧ (r4 = 0 → (Q 0 h3))))))) : L_X7_takeTimerTicks_0 l g h x0  Q := by
  obtain ⟨i1, hb⟩ := hb
  refine wp_aload_n 0 dX7_takeTimerTicks_0 rfl rfl ?_
  refine wp_iconst (v := 1) dX7_takeTimerTicks_1 (by decide) ?_
  refine wp_bipush (v := 9) dX7_takeTimerTicks_2 (by decide) ?_
  refine wp_callV (as := [.int 1, .int 9]) dX7_takeTimerTicks_4 cb_X7_isNumber lk_X7_186 im_X7_isNumber se_X7_isNumber rfl (Nat.le_of_ble_eq_true rfl) ⟨by decide, by decide⟩ ⟨Nat.le_refl _, Nat.le_refl _, Nat.le_refl _⟩ i1 rfl (by decide) hb (fun r0 h3 hb => ?_)
  obtain ⟨r4, rfl, hb⟩ := hb
  refine wp_if_ne (tgt := 12) dX7_takeTimerTicks_7 (by decide) (fun c5 => ?_) (fun c5 => ?_)
  · have hb := hb.1 c5
    refine wp_aload_n 0 dX7_takeTimerTicks_12 rfl rfl ?_
    obtain ⟨i6, hb⟩ := hb
    refine wp_getR dX7_takeTimerTicks_13 fl_X7_64 i1 (i6.ne (by decide)) ?_
    refine wp_getI dX7_takeTimerTicks_16 fl_X7_83 i6 ?_
    refine wp_iconst (v := 1) dX7_takeTimerTicks_19 (by decide) ?_
    refine wp_isub dX7_takeTimerTicks_20 ?_
    refine wp_topi (fun v7 e8 => ?_)
    have hb := hb v7 e8
    refine wp_istore_n (lv2 := [(1, .int v7), (0, .ref x0)]) dX7_takeTimerTicks_21 rfl (by decide) rfl ?_
    refine wp_aload_n 1 dX7_takeTimerTicks_22 rfl rfl ?_
    refine wp_iload_n 0 dX7_takeTimerTicks_23 rfl rfl ?_
    refine wp_callSN (as := [.int v7]) dX7_takeTimerTicks_24 cb_X5_ofTimer lk_X7_252 st_X5_ofTimer rfl (Nat.le_of_ble_eq_true rfl) ⟨by decide, by decide⟩ ⟨Nat.le_refl _, Nat.le_refl _, Nat.le_refl _⟩ hb (fun r0 h10 hb => ?_)
    obtain ⟨r11, rfl, hb⟩ := hb
    refine wp_putI dX7_takeTimerTicks_27 fl_X7_45 (Or.inl rfl) i1 ?_
    refine wp_topH (fun h12 e13 => ?_)
    have hb := hb h12 e13
    refine wp_aload_n 1 dX7_takeTimerTicks_30 rfl rfl ?_
    obtain ⟨i14, hb⟩ := hb
    refine wp_getR dX7_takeTimerTicks_31 fl_X7_64 i1 (i14.ne (by decide)) ?_
    refine wp_iload_n 0 dX7_takeTimerTicks_34 rfl rfl ?_
    refine wp_aload_n 1 dX7_takeTimerTicks_35 rfl rfl ?_
    obtain ⟨i15, hb⟩ := hb
    refine wp_getR dX7_takeTimerTicks_36 fl_X7_12 i1 (i15.ne (by decide)) ?_
    refine wp_getI dX7_takeTimerTicks_39 fl_X7_165 i15 ?_
    refine wp_callVN (as := [.int v7, .int (h12.1 (h12.2.2 x0 0) 6)]) dX7_takeTimerTicks_42 cb_X0_addTimer lk_X7_256 im_X0_addTimer se_X0_addTimer rfl (Nat.le_of_ble_eq_true rfl) ⟨by decide, by decide⟩ ⟨Nat.le_refl _, Nat.le_refl _, Nat.le_refl _⟩ i14 rfl (by decide) hb (fun r0 h17 hb => ?_)
    obtain ⟨rfl, hb⟩ := hb
    refine wp_aload_n 1 dX7_takeTimerTicks_45 rfl rfl ?_
    refine wp_bipush (v := 16) dX7_takeTimerTicks_46 (by decide) ?_
    refine wp_callV (as := [.int 16]) dX7_takeTimerTicks_48 cb_X7_awaits lk_X7_131 im_X7_awaits se_X7_awaits rfl (Nat.le_of_ble_eq_true rfl) ⟨by decide, by decide⟩ ⟨Nat.le_refl _, Nat.le_refl _, Nat.le_refl _⟩ i1 rfl (by decide) hb (fun r0 h19 hb => ?_)
    obtain ⟨r20, rfl, hb⟩ := hb
    obtain ⟨q21, hb⟩ := hb
    exact wp_zret rfl dX7_takeTimerTicks_51 q21 ⟨_, rfl, hb⟩
  · have hb := hb.2 c5
    refine wp_iconst (v := 0) dX7_takeTimerTicks_10 (by decide) ?_
    exact wp_zret rfl dX7_takeTimerTicks_11 (Or.inl rfl) ⟨_, rfl, hb⟩
theorem c_X7_takeTimerTicks {l : Launch} {g : AG} {h : AH} {x0 : Nat}  {Q : Int32 → AH → Prop} (hb : L_X7_takeTimerTicks_0 l g h x0  Q) : C_X7_takeTimerTicks l g h x0  Q := ax_met rfl rfl (Nat.le_of_ble_eq_true rfl) hb
def C_X7_deedSaid (l : Launch) (g : AG) (h : AH) (x0 : Nat)  (Q : Int32 → AH → Prop) : Prop := Ct l g mX7_deedSaid 5 142 194 194 h [.ref x0] (ax_QI Q)
def L_X7_deedSaid_0 (l : Launch) (g : AG) (h : AH) (x0 : Nat)  (Q : Int32 → AH → Prop) : Prop := Wp l g mX7_deedSaid 5 142 194 194 194 0 [(0, .ref x0)] [] h (FM g 194 194 (ax_QI Q))
set_option maxRecDepth 100000 in
set_option maxHeartbeats 4000000 in
theorem s_X7_deedSaid_0 {l : Launch} {g : AG} {h : AH} {x0 : Nat}  {Q : Int32 → AH → Prop} (hb : (Is 194 x0 6) ∧ ( (Is 194 (h.2.2 x0 0) 7) ∧ ( C_X8_says l g h (h.2.2 x0 0) 1009 (fun r5 h4 => ( ((r5 = 0 → ((Is 194 (h4.2.2 x0 0) 7) ∧ ( C_X8_says l g h4 (h4.2.2 x0 0) 1004 (fun r10 h9 => ( ((r10 = 0 → ((Is 194 (h9.2.2 x0 0) 7) ∧ ( C_X8_says l g h9 (h9.2.2 x0 0) 1010 (fun r15 h14 => ( ((r15 = 0 → ((Is 194 (h14.2.2 x0 0) 7) ∧ ( C_X8_says l g h14 (h14.2.2 x0 0) 1000 (fun r20 h19 => ( ((r20 = 0 → ((Is 194 (h19.2.2 x0 0) 7) ∧ ( C_X8_says l g h19 (h19.2.2 x0 0) 1006 (fun r25 h24 => ( ((r25 = 0 → (Q (-1) h24)) ∧ (¬ (r25 = 0) → (Q 4 h24)))))))) ∧ (¬ (r20 = 0) → (Q 3 h19)))))))) ∧ (¬ (r15 = 0) → (Q 2 h14)))))))) ∧ (¬ (r10 = 0) → (Q 1 h9)))))))) ∧ (¬ (r5 = 0) → (Q 0 h4)))))))) : L_X7_deedSaid_0 l g h x0  Q := by
  obtain ⟨i1, hb⟩ := hb
  refine wp_aload_n 0 dX7_deedSaid_0 rfl rfl ?_
  obtain ⟨i2, hb⟩ := hb
  refine wp_getR dX7_deedSaid_1 fl_X7_12 i1 (i2.ne (by decide)) ?_
  refine wp_ldcSw (q := ("WindowHouse$Reader", 271, "open", 9)) dX7_deedSaid_4 (by decide +kernel) rfl rfl (by decide) ?_
  refine wp_callVN (as := [.ref 1009]) dX7_deedSaid_7 cb_X8_says lk_X7_127 im_X8_says se_X8_says rfl (Nat.le_of_ble_eq_true rfl) ⟨by decide, by decide⟩ ⟨Nat.le_refl _, Nat.le_refl _, Nat.le_refl _⟩ i2 rfl (by decide) hb (fun r0 h4 hb => ?_)
  obtain ⟨r5, rfl, hb⟩ := hb
  refine wp_if_eq (tgt := 15) dX7_deedSaid_10 (by decide) (fun c6 => ?_) (fun c6 => ?_)
  · have hb := hb.1 c6
    refine wp_aload_n 0 dX7_deedSaid_15 rfl rfl ?_
    obtain ⟨i7, hb⟩ := hb
    refine wp_getR dX7_deedSaid_16 fl_X7_12 i1 (i7.ne (by decide)) ?_
    refine wp_ldcSw (q := ("WindowHouse$Reader", 273, "close", 4)) dX7_deedSaid_19 (by decide +kernel) rfl rfl (by decide) ?_
    refine wp_callVN (as := [.ref 1004]) dX7_deedSaid_22 cb_X8_says lk_X7_127 im_X8_says se_X8_says rfl (Nat.le_of_ble_eq_true rfl) ⟨by decide, by decide⟩ ⟨Nat.le_refl _, Nat.le_refl _, Nat.le_refl _⟩ i7 rfl (by decide) hb (fun r0 h9 hb => ?_)
    obtain ⟨r10, rfl, hb⟩ := hb
    refine wp_if_eq (tgt := 30) dX7_deedSaid_25 (by decide) (fun c11 => ?_) (fun c11 => ?_)
    · have hb := hb.1 c11
      refine wp_aload_n 0 dX7_deedSaid_30 rfl rfl ?_
      obtain ⟨i12, hb⟩ := hb
      refine wp_getR dX7_deedSaid_31 fl_X7_12 i1 (i12.ne (by decide)) ?_
      refine wp_ldcSw (q := ("WindowHouse$Reader", 275, "set", 10)) dX7_deedSaid_34 (by decide +kernel) rfl rfl (by decide) ?_
      refine wp_callVN (as := [.ref 1010]) dX7_deedSaid_37 cb_X8_says lk_X7_127 im_X8_says se_X8_says rfl (Nat.le_of_ble_eq_true rfl) ⟨by decide, by decide⟩ ⟨Nat.le_refl _, Nat.le_refl _, Nat.le_refl _⟩ i12 rfl (by decide) hb (fun r0 h14 hb => ?_)
      obtain ⟨r15, rfl, hb⟩ := hb
      refine wp_if_eq (tgt := 45) dX7_deedSaid_40 (by decide) (fun c16 => ?_) (fun c16 => ?_)
      · have hb := hb.1 c16
        refine wp_aload_n 0 dX7_deedSaid_45 rfl rfl ?_
        obtain ⟨i17, hb⟩ := hb
        refine wp_getR dX7_deedSaid_46 fl_X7_12 i1 (i17.ne (by decide)) ?_
        refine wp_ldcSw (q := ("WindowHouse$Reader", 277, "add", 0)) dX7_deedSaid_49 (by decide +kernel) rfl rfl (by decide) ?_
        refine wp_callVN (as := [.ref 1000]) dX7_deedSaid_52 cb_X8_says lk_X7_127 im_X8_says se_X8_says rfl (Nat.le_of_ble_eq_true rfl) ⟨by decide, by decide⟩ ⟨Nat.le_refl _, Nat.le_refl _, Nat.le_refl _⟩ i17 rfl (by decide) hb (fun r0 h19 hb => ?_)
        obtain ⟨r20, rfl, hb⟩ := hb
        refine wp_if_eq (tgt := 60) dX7_deedSaid_55 (by decide) (fun c21 => ?_) (fun c21 => ?_)
        · have hb := hb.1 c21
          refine wp_aload_n 0 dX7_deedSaid_60 rfl rfl ?_
          obtain ⟨i22, hb⟩ := hb
          refine wp_getR dX7_deedSaid_61 fl_X7_12 i1 (i22.ne (by decide)) ?_
          refine wp_ldcSw (q := ("WindowHouse$Reader", 278, "fault", 6)) dX7_deedSaid_64 (by decide +kernel) rfl rfl (by decide) ?_
          refine wp_callVN (as := [.ref 1006]) dX7_deedSaid_67 cb_X8_says lk_X7_127 im_X8_says se_X8_says rfl (Nat.le_of_ble_eq_true rfl) ⟨by decide, by decide⟩ ⟨Nat.le_refl _, Nat.le_refl _, Nat.le_refl _⟩ i22 rfl (by decide) hb (fun r0 h24 hb => ?_)
          obtain ⟨r25, rfl, hb⟩ := hb
          refine wp_if_eq (tgt := 77) dX7_deedSaid_70 (by decide) (fun c26 => ?_) (fun c26 => ?_)
          · have hb := hb.1 c26
            refine wp_iconst (v := (-1)) dX7_deedSaid_77 (by decide) ?_
            exact wp_iret rfl dX7_deedSaid_78 ⟨_, rfl, hb⟩
          · have hb := hb.2 c26
            refine wp_iconst (v := 4) dX7_deedSaid_73 (by decide) ?_
            refine wp_goto (tgt := 78) dX7_deedSaid_74 (by decide) ?_
            exact wp_iret rfl dX7_deedSaid_78 ⟨_, rfl, hb⟩
        · have hb := hb.2 c21
          refine wp_iconst (v := 3) dX7_deedSaid_58 (by decide) ?_
          exact wp_iret rfl dX7_deedSaid_59 ⟨_, rfl, hb⟩
      · have hb := hb.2 c16
        refine wp_iconst (v := 2) dX7_deedSaid_43 (by decide) ?_
        exact wp_iret rfl dX7_deedSaid_44 ⟨_, rfl, hb⟩
    · have hb := hb.2 c11
      refine wp_iconst (v := 1) dX7_deedSaid_28 (by decide) ?_
      exact wp_iret rfl dX7_deedSaid_29 ⟨_, rfl, hb⟩
  · have hb := hb.2 c6
    refine wp_iconst (v := 0) dX7_deedSaid_13 (by decide) ?_
    exact wp_iret rfl dX7_deedSaid_14 ⟨_, rfl, hb⟩
theorem c_X7_deedSaid {l : Launch} {g : AG} {h : AH} {x0 : Nat}  {Q : Int32 → AH → Prop} (hb : L_X7_deedSaid_0 l g h x0  Q) : C_X7_deedSaid l g h x0  Q := ax_met rfl rfl (Nat.le_of_ble_eq_true rfl) hb
def C_X5_add (l : Launch) (g : AG) (h : AH) (x0 : Nat) (x1 : Int32) (x2 : Int32) (x3 : Int32) (x4 : Int32)  (Q : Int32 → AH → Prop) : Prop := Ct l g mX5_add 0 0 194 194 h [.ref x0, .int x1, .int x2, .int x3, .int x4] (ax_QI Q)
def L_X5_add_0 (l : Launch) (g : AG) (h : AH) (x0 : Nat) (x1 : Int32) (x2 : Int32) (x3 : Int32) (x4 : Int32)  (Q : Int32 → AH → Prop) : Prop := Wp l g mX5_add 0 0 194 194 194 0 [(0, .ref x0), (1, .int x1), (2, .int x2), (3, .int x3), (4, .int x4)] [] h (FM g 194 194 (ax_QI Q))
set_option maxRecDepth 100000 in
set_option maxHeartbeats 4000000 in
theorem s_X5_add_0 {l : Launch} {g : AG} {h : AH} {x0 : Nat} {x1 : Int32} {x2 : Int32} {x3 : Int32} {x4 : Int32}  {Q : Int32 → AH → Prop} (hb : (Is 194 x0 4) ∧ ( (Is 194 (h.2.2 x0 0) 20) ∧ ( (vp_in x1 (ax_s (h.2.2 x0 0)).2) ∧ ( ∀ v4 : Int32, v4 = ((x1 * 4) + (h.1 (h.2.2 x0 0) x1.toNatClampNeg)) → ( (Is 194 (h.2.2 x0 1) 20) ∧ ( (vp_in v4 (ax_s (h.2.2 x0 1)).2) ∧ ( ∀ h8 : AH, h8 = ax_setI h (h.2.2 x0 1) v4.toNatClampNeg x2 → ( (Is 194 (h8.2.2 x0 2) 20) ∧ ( (vp_in v4 (ax_s (h8.2.2 x0 2)).2) ∧ ( ∀ h12 : AH, h12 = ax_setI h8 (h8.2.2 x0 2) v4.toNatClampNeg x3 → ( (Is 194 (h12.2.2 x0 3) 20) ∧ ( (vp_in v4 (ax_s (h12.2.2 x0 3)).2) ∧ ( ∀ h16 : AH, h16 = ax_setI h12 (h12.2.2 x0 3) v4.toNatClampNeg x4 → ( (Is 194 (h16.2.2 x0 0) 20) ∧ ( (vp_in x1 (ax_s (h16.2.2 x0 0)).2) ∧ ( (vp_in x1 (ax_s (h16.2.2 x0 0)).2) ∧ ( ∀ h21 : AH, h21 = ax_setI h16 (h16.2.2 x0 0) x1.toNatClampNeg ((h16.1 (h16.2.2 x0 0) x1.toNatClampNeg) + 1) → ( Q v4 h21)))))))))))))))))) : L_X5_add_0 l g h x0 x1 x2 x3 x4  Q := by
  refine wp_iload_n 1 dX5_add_0 rfl rfl ?_
  refine wp_iconst (v := 4) dX5_add_1 (by decide) ?_
  refine wp_imul dX5_add_2 ?_
  obtain ⟨i1, hb⟩ := hb
  refine wp_aload_n 0 dX5_add_3 rfl rfl ?_
  obtain ⟨i2, hb⟩ := hb
  refine wp_getR dX5_add_4 fl_X5_11 i1 (i2.ne (by decide)) ?_
  refine wp_iload_n 1 dX5_add_7 rfl rfl ?_
  obtain ⟨b3, hb⟩ := hb
  refine wp_iaload dX5_add_8 i2 b3 ?_
  refine wp_iadd dX5_add_9 ?_
  refine wp_topi (fun v4 e5 => ?_)
  have hb := hb v4 e5
  refine wp_istore (lv2 := [(5, .int v4), (0, .ref x0), (1, .int x1), (2, .int x2), (3, .int x3), (4, .int x4)]) dX5_add_10 (by decide) rfl ?_
  refine wp_aload_n 1 dX5_add_12 rfl rfl ?_
  obtain ⟨i6, hb⟩ := hb
  refine wp_getR dX5_add_13 fl_X5_15 i1 (i6.ne (by decide)) ?_
  refine wp_iload 0 dX5_add_16 rfl ?_
  refine wp_iload_n 3 dX5_add_18 rfl rfl ?_
  obtain ⟨b7, hb⟩ := hb
  refine wp_iastore dX5_add_19 i6 b7 ?_
  refine wp_topH (fun h8 e9 => ?_)
  have hb := hb h8 e9
  refine wp_aload_n 1 dX5_add_20 rfl rfl ?_
  obtain ⟨i10, hb⟩ := hb
  refine wp_getR dX5_add_21 fl_X5_18 i1 (i10.ne (by decide)) ?_
  refine wp_iload 0 dX5_add_24 rfl ?_
  refine wp_iload_n 4 dX5_add_26 rfl rfl ?_
  obtain ⟨b11, hb⟩ := hb
  refine wp_iastore dX5_add_27 i10 b11 ?_
  refine wp_topH (fun h12 e13 => ?_)
  have hb := hb h12 e13
  refine wp_aload_n 1 dX5_add_28 rfl rfl ?_
  obtain ⟨i14, hb⟩ := hb
  refine wp_getR dX5_add_29 fl_X5_21 i1 (i14.ne (by decide)) ?_
  refine wp_iload 0 dX5_add_32 rfl ?_
  refine wp_iload 5 dX5_add_34 rfl ?_
  obtain ⟨b15, hb⟩ := hb
  refine wp_iastore dX5_add_36 i14 b15 ?_
  refine wp_topH (fun h16 e17 => ?_)
  have hb := hb h16 e17
  refine wp_aload_n 1 dX5_add_37 rfl rfl ?_
  obtain ⟨i18, hb⟩ := hb
  refine wp_getR dX5_add_38 fl_X5_11 i1 (i18.ne (by decide)) ?_
  refine wp_iload_n 2 dX5_add_41 rfl rfl ?_
  refine wp_dup2_11 dX5_add_42 rfl rfl ?_
  obtain ⟨b19, hb⟩ := hb
  refine wp_iaload dX5_add_43 i18 b19 ?_
  refine wp_iconst (v := 1) dX5_add_44 (by decide) ?_
  refine wp_iadd dX5_add_45 ?_
  obtain ⟨b20, hb⟩ := hb
  refine wp_iastore dX5_add_46 i18 b20 ?_
  refine wp_topH (fun h21 e22 => ?_)
  have hb := hb h21 e22
  refine wp_iload 0 dX5_add_47 rfl ?_
  exact wp_iret rfl dX5_add_49 ⟨_, rfl, hb⟩
theorem c_X5_add {l : Launch} {g : AG} {h : AH} {x0 : Nat} {x1 : Int32} {x2 : Int32} {x3 : Int32} {x4 : Int32}  {Q : Int32 → AH → Prop} (hb : L_X5_add_0 l g h x0 x1 x2 x3 x4  Q) : C_X5_add l g h x0 x1 x2 x3 x4  Q := ax_met rfl rfl (Nat.le_of_ble_eq_true rfl) hb
def C_X7_takeDeed (l : Launch) (g : AG) (h : AH) (x0 : Nat)  (Q : Int32 → AH → Prop) : Prop := Ct l g mX7_takeDeed 6 162 194 194 h [.ref x0] (ax_QI Q)
def L_X7_takeDeed_0 (l : Launch) (g : AG) (h : AH) (x0 : Nat)  (Q : Int32 → AH → Prop) : Prop := Wp l g mX7_takeDeed 6 162 194 194 194 0 [(0, .ref x0)] [] h (FM g 194 194 (ax_QI Q))
set_option maxRecDepth 100000 in
set_option maxHeartbeats 4000000 in
theorem s_X7_takeDeed_0 {l : Launch} {g : AG} {h : AH} {x0 : Nat}  {Q : Int32 → AH → Prop} (hb : (Is 194 x0 6) ∧ ( C_X7_deedSaid l g h x0 (fun r4 h3 => ( ∀ h5 : AH, h5 = ax_setI h3 x0 9 r4 → ( ((¬ h5.1 x0 9 = (-1) → ((Is 194 (h5.2.2 x0 1) 0) ∧ ( (Is 194 (h5.2.2 (h5.2.2 x0 1) 18) 4) ∧ ( (Is 194 (h5.2.2 (h5.2.2 (h5.2.2 x0 1) 18) 0) 20) ∧ ( (vp_in (h5.1 x0 10) (ax_s (h5.2.2 (h5.2.2 (h5.2.2 x0 1) 18) 0)).2) ∧ ( ∀ v12 : Int32, v12 = (h5.1 (h5.2.2 (h5.2.2 (h5.2.2 x0 1) 18) 0) (h5.1 x0 10).toNatClampNeg) → ( ((v12 < 4 → (((h5.1 x0 9 = 0 → (C_X7_awaits l g h5 x0 18 (fun r18 h17 => ( (r18 = 0 ∨ r18 = 1) ∧ ( Q r18 h17))))) ∧ (¬ h5.1 x0 9 = 0 → (((h5.1 x0 9 = 1 → ((Is 194 (h5.2.2 x0 1) 0) ∧ ( (Is 194 (h5.2.2 (h5.2.2 x0 1) 18) 4) ∧ ( C_X5_add l g h5 (h5.2.2 (h5.2.2 x0 1) 18) (h5.1 x0 10) (h5.1 x0 9) 0 0 (fun r25 h24 => ( C_X7_awaits l g h24 x0 21 (fun r28 h27 => ( (r28 = 0 ∨ r28 = 1) ∧ ( Q r28 h27))))))))) ∧ (¬ h5.1 x0 9 = 1 → (((h5.1 x0 9 = 2 → (C_X7_awaits l g h5 x0 19 (fun r33 h32 => ( (r33 = 0 ∨ r33 = 1) ∧ ( Q r33 h32))))) ∧ (¬ h5.1 x0 9 = 2 → (((h5.1 x0 9 = 3 → (C_X7_awaits l g h5 x0 19 (fun r38 h37 => ( (r38 = 0 ∨ r38 = 1) ∧ ( Q r38 h37))))) ∧ (¬ h5.1 x0 9 = 3 → (((h5.1 x0 9 = 4 → (C_X7_awaits l g h5 x0 20 (fun r43 h42 => ( (r43 = 0 ∨ r43 = 1) ∧ ( Q r43 h42))))) ∧ (¬ h5.1 x0 9 = 4 → (C_X7_awaits l g h5 x0 19 (fun r47 h46 => ( (r47 = 0 ∨ r47 = 1) ∧ ( Q r47 h46)))))))))))))))))))) ∧ (¬ (v12 < 4) → (C_X7_faulty l g h5 x0 5 (fun r51 h50 => ( (r51 = 0 ∨ r51 = 1) ∧ ( Q r51 h50))))))))))))) ∧ (h5.1 x0 9 = (-1) → (C_X7_faulty l g h5 x0 1 (fun r55 h54 => ( (r55 = 0 ∨ r55 = 1) ∧ ( Q r55 h54))))))))))) : L_X7_takeDeed_0 l g h x0  Q := by
  obtain ⟨i1, hb⟩ := hb
  refine wp_aload_n 0 dX7_takeDeed_0 rfl rfl ?_
  refine wp_aload_n 0 dX7_takeDeed_1 rfl rfl ?_
  refine wp_callV (as := []) dX7_takeDeed_2 cb_X7_deedSaid lk_X7_259 im_X7_deedSaid se_X7_deedSaid rfl (Nat.le_of_ble_eq_true rfl) ⟨by decide, by decide⟩ ⟨Nat.le_refl _, Nat.le_refl _, Nat.le_refl _⟩ i1 rfl (by decide) hb (fun r0 h3 hb => ?_)
  obtain ⟨r4, rfl, hb⟩ := hb
  refine wp_putI dX7_takeDeed_5 fl_X7_42 (Or.inl rfl) i1 ?_
  refine wp_topH (fun h5 e6 => ?_)
  have hb := hb h5 e6
  refine wp_aload_n 0 dX7_takeDeed_8 rfl rfl ?_
  refine wp_getI dX7_takeDeed_9 fl_X7_42 i1 ?_
  refine wp_iconst (v := (-1)) dX7_takeDeed_12 (by decide) ?_
  refine wp_icmp_ne (tgt := 22) dX7_takeDeed_13 (by decide) (fun c7 => ?_) (fun c7 => ?_)
  · have hb := hb.1 c7
    refine wp_aload_n 0 dX7_takeDeed_22 rfl rfl ?_
    obtain ⟨i8, hb⟩ := hb
    refine wp_getR dX7_takeDeed_23 fl_X7_64 i1 (i8.ne (by decide)) ?_
    obtain ⟨i9, hb⟩ := hb
    refine wp_getR dX7_takeDeed_26 fl_X7_263 i8 (i9.ne (by decide)) ?_
    obtain ⟨i10, hb⟩ := hb
    refine wp_getR dX7_takeDeed_29 fl_X7_267 i9 (i10.ne (by decide)) ?_
    refine wp_aload_n 0 dX7_takeDeed_32 rfl rfl ?_
    refine wp_getI dX7_takeDeed_33 fl_X7_45 i1 ?_
    obtain ⟨b11, hb⟩ := hb
    refine wp_iaload dX7_takeDeed_36 i10 b11 ?_
    refine wp_topi (fun v12 e13 => ?_)
    have hb := hb v12 e13
    refine wp_iconst (v := 4) dX7_takeDeed_37 (by decide) ?_
    refine wp_icmp_lt (tgt := 47) dX7_takeDeed_38 (by decide) (fun c14 => ?_) (fun c14 => ?_)
    · have hb := hb.1 c14
      refine wp_aload_n 0 dX7_takeDeed_47 rfl rfl ?_
      refine wp_getI dX7_takeDeed_48 fl_X7_42 i1 ?_
      refine wp_case 0 (fun c15 => ?_) (fun c15 => ?_)
      · have hb := hb.1 c15
        refine wp_tableIn (v := 0) (tgt := 84) dX7_takeDeed_51 c15 (by decide) (by decide) rfl (by decide) ?_
        refine wp_aload_n 0 dX7_takeDeed_84 rfl rfl ?_
        refine wp_bipush (v := 18) dX7_takeDeed_85 (by decide) ?_
        refine wp_callV (as := [.int 18]) dX7_takeDeed_87 cb_X7_awaits lk_X7_131 im_X7_awaits se_X7_awaits rfl (Nat.le_of_ble_eq_true rfl) ⟨by decide, by decide⟩ ⟨Nat.le_refl _, Nat.le_refl _, Nat.le_refl _⟩ i1 rfl (by decide) hb (fun r0 h17 hb => ?_)
        obtain ⟨r18, rfl, hb⟩ := hb
        obtain ⟨q19, hb⟩ := hb
        exact wp_zret rfl dX7_takeDeed_90 q19 ⟨_, rfl, hb⟩
      · have hb := hb.2 c15
        refine wp_case 1 (fun c20 => ?_) (fun c20 => ?_)
        · have hb := hb.1 c20
          refine wp_tableIn (v := 1) (tgt := 91) dX7_takeDeed_51 c20 (by decide) (by decide) rfl (by decide) ?_
          refine wp_aload_n 0 dX7_takeDeed_91 rfl rfl ?_
          obtain ⟨i21, hb⟩ := hb
          refine wp_getR dX7_takeDeed_92 fl_X7_64 i1 (i21.ne (by decide)) ?_
          obtain ⟨i22, hb⟩ := hb
          refine wp_getR dX7_takeDeed_95 fl_X7_263 i21 (i22.ne (by decide)) ?_
          refine wp_aload_n 0 dX7_takeDeed_98 rfl rfl ?_
          refine wp_getI dX7_takeDeed_99 fl_X7_45 i1 ?_
          refine wp_aload_n 0 dX7_takeDeed_102 rfl rfl ?_
          refine wp_getI dX7_takeDeed_103 fl_X7_42 i1 ?_
          refine wp_iconst (v := 0) dX7_takeDeed_106 (by decide) ?_
          refine wp_iconst (v := 0) dX7_takeDeed_107 (by decide) ?_
          refine wp_callVN (as := [.int (h5.1 x0 10), .int (h5.1 x0 9), .int 0, .int 0]) dX7_takeDeed_108 cb_X5_add lk_X7_268 im_X5_add se_X5_add rfl (Nat.le_of_ble_eq_true rfl) ⟨by decide, by decide⟩ ⟨Nat.le_refl _, Nat.le_refl _, Nat.le_refl _⟩ i22 rfl (by decide) hb (fun r0 h24 hb => ?_)
          obtain ⟨r25, rfl, hb⟩ := hb
          refine wp_pop dX7_takeDeed_111 rfl ?_
          refine wp_aload_n 0 dX7_takeDeed_112 rfl rfl ?_
          refine wp_bipush (v := 21) dX7_takeDeed_113 (by decide) ?_
          refine wp_callV (as := [.int 21]) dX7_takeDeed_115 cb_X7_awaits lk_X7_131 im_X7_awaits se_X7_awaits rfl (Nat.le_of_ble_eq_true rfl) ⟨by decide, by decide⟩ ⟨Nat.le_refl _, Nat.le_refl _, Nat.le_refl _⟩ i1 rfl (by decide) hb (fun r0 h27 hb => ?_)
          obtain ⟨r28, rfl, hb⟩ := hb
          obtain ⟨q29, hb⟩ := hb
          exact wp_zret rfl dX7_takeDeed_118 q29 ⟨_, rfl, hb⟩
        · have hb := hb.2 c20
          refine wp_case 2 (fun c30 => ?_) (fun c30 => ?_)
          · have hb := hb.1 c30
            refine wp_tableIn (v := 2) (tgt := 126) dX7_takeDeed_51 c30 (by decide) (by decide) rfl (by decide) ?_
            refine wp_aload_n 0 dX7_takeDeed_126 rfl rfl ?_
            refine wp_bipush (v := 19) dX7_takeDeed_127 (by decide) ?_
            refine wp_callV (as := [.int 19]) dX7_takeDeed_129 cb_X7_awaits lk_X7_131 im_X7_awaits se_X7_awaits rfl (Nat.le_of_ble_eq_true rfl) ⟨by decide, by decide⟩ ⟨Nat.le_refl _, Nat.le_refl _, Nat.le_refl _⟩ i1 rfl (by decide) hb (fun r0 h32 hb => ?_)
            obtain ⟨r33, rfl, hb⟩ := hb
            obtain ⟨q34, hb⟩ := hb
            exact wp_zret rfl dX7_takeDeed_132 q34 ⟨_, rfl, hb⟩
          · have hb := hb.2 c30
            refine wp_case 3 (fun c35 => ?_) (fun c35 => ?_)
            · have hb := hb.1 c35
              refine wp_tableIn (v := 3) (tgt := 126) dX7_takeDeed_51 c35 (by decide) (by decide) rfl (by decide) ?_
              refine wp_aload_n 0 dX7_takeDeed_126 rfl rfl ?_
              refine wp_bipush (v := 19) dX7_takeDeed_127 (by decide) ?_
              refine wp_callV (as := [.int 19]) dX7_takeDeed_129 cb_X7_awaits lk_X7_131 im_X7_awaits se_X7_awaits rfl (Nat.le_of_ble_eq_true rfl) ⟨by decide, by decide⟩ ⟨Nat.le_refl _, Nat.le_refl _, Nat.le_refl _⟩ i1 rfl (by decide) hb (fun r0 h37 hb => ?_)
              obtain ⟨r38, rfl, hb⟩ := hb
              obtain ⟨q39, hb⟩ := hb
              exact wp_zret rfl dX7_takeDeed_132 q39 ⟨_, rfl, hb⟩
            · have hb := hb.2 c35
              refine wp_case 4 (fun c40 => ?_) (fun c40 => ?_)
              · have hb := hb.1 c40
                refine wp_tableIn (v := 4) (tgt := 119) dX7_takeDeed_51 c40 (by decide) (by decide) rfl (by decide) ?_
                refine wp_aload_n 0 dX7_takeDeed_119 rfl rfl ?_
                refine wp_bipush (v := 20) dX7_takeDeed_120 (by decide) ?_
                refine wp_callV (as := [.int 20]) dX7_takeDeed_122 cb_X7_awaits lk_X7_131 im_X7_awaits se_X7_awaits rfl (Nat.le_of_ble_eq_true rfl) ⟨by decide, by decide⟩ ⟨Nat.le_refl _, Nat.le_refl _, Nat.le_refl _⟩ i1 rfl (by decide) hb (fun r0 h42 hb => ?_)
                obtain ⟨r43, rfl, hb⟩ := hb
                obtain ⟨q44, hb⟩ := hb
                exact wp_zret rfl dX7_takeDeed_125 q44 ⟨_, rfl, hb⟩
              · have hb := hb.2 c40
                refine wp_tableOut (tgt := 126) dX7_takeDeed_51 (by have zc15 := lv_neT (k := 0) (a := 0) c15 rfl; have zc20 := lv_neT (k := 1) (a := 1) c20 rfl; have zc30 := lv_neT (k := 2) (a := 2) c30 rfl; have zc35 := lv_neT (k := 3) (a := 3) c35 rfl; have zc40 := lv_neT (k := 4) (a := 4) c40 rfl; omega) (by decide) ?_
                refine wp_aload_n 0 dX7_takeDeed_126 rfl rfl ?_
                refine wp_bipush (v := 19) dX7_takeDeed_127 (by decide) ?_
                refine wp_callV (as := [.int 19]) dX7_takeDeed_129 cb_X7_awaits lk_X7_131 im_X7_awaits se_X7_awaits rfl (Nat.le_of_ble_eq_true rfl) ⟨by decide, by decide⟩ ⟨Nat.le_refl _, Nat.le_refl _, Nat.le_refl _⟩ i1 rfl (by decide) hb (fun r0 h46 hb => ?_)
                obtain ⟨r47, rfl, hb⟩ := hb
                obtain ⟨q48, hb⟩ := hb
                exact wp_zret rfl dX7_takeDeed_132 q48 ⟨_, rfl, hb⟩
    · have hb := hb.2 c14
      refine wp_aload_n 0 dX7_takeDeed_41 rfl rfl ?_
      refine wp_iconst (v := 5) dX7_takeDeed_42 (by decide) ?_
      refine wp_callV (as := [.int 5]) dX7_takeDeed_43 cb_X7_faulty lk_X7_90 im_X7_faulty se_X7_faulty rfl (Nat.le_of_ble_eq_true rfl) ⟨by decide, by decide⟩ ⟨Nat.le_refl _, Nat.le_refl _, Nat.le_refl _⟩ i1 rfl (by decide) hb (fun r0 h50 hb => ?_)
      obtain ⟨r51, rfl, hb⟩ := hb
      obtain ⟨q52, hb⟩ := hb
      exact wp_zret rfl dX7_takeDeed_46 q52 ⟨_, rfl, hb⟩
  · have hb := hb.2 c7
    refine wp_aload_n 0 dX7_takeDeed_16 rfl rfl ?_
    refine wp_iconst (v := 1) dX7_takeDeed_17 (by decide) ?_
    refine wp_callV (as := [.int 1]) dX7_takeDeed_18 cb_X7_faulty lk_X7_90 im_X7_faulty se_X7_faulty rfl (Nat.le_of_ble_eq_true rfl) ⟨by decide, by decide⟩ ⟨Nat.le_refl _, Nat.le_refl _, Nat.le_refl _⟩ i1 rfl (by decide) hb (fun r0 h54 hb => ?_)
    obtain ⟨r55, rfl, hb⟩ := hb
    obtain ⟨q56, hb⟩ := hb
    exact wp_zret rfl dX7_takeDeed_21 q56 ⟨_, rfl, hb⟩
theorem c_X7_takeDeed {l : Launch} {g : AG} {h : AH} {x0 : Nat}  {Q : Int32 → AH → Prop} (hb : L_X7_takeDeed_0 l g h x0  Q) : C_X7_takeDeed l g h x0  Q := ax_met rfl rfl (Nat.le_of_ble_eq_true rfl) hb
