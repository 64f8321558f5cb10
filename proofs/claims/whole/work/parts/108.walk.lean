def C_X7_isVar (l : Launch) (g : AG) (h : AH) (x0 : Nat)  (Q : Int32 → AH → Prop) : Prop := Ct l g mX7_isVar 2 47 194 194 h [.ref x0] (ax_QI Q)
def L_X7_isVar_0 (l : Launch) (g : AG) (h : AH) (x0 : Nat)  (Q : Int32 → AH → Prop) : Prop := Wp l g mX7_isVar 2 47 194 194 194 0 [(0, .ref x0)] [] h (FM g 194 194 (ax_QI Q))
set_option maxRecDepth 100000 in
set_option maxHeartbeats 4000000 in
theorem s_X7_isVar_0 {l : Launch} {g : AG} {h : AH} {x0 : Nat}  {Q : Int32 → AH → Prop} (hb : (Is 194 x0 6) ∧ ( (Is 194 (h.2.2 x0 0) 7) ∧ ( ((h.1 (h.2.2 x0 0) 3 = 1 → ((Is 194 (h.2.2 x0 1) 0) ∧ ( (Is 194 (h.2.2 x0 0) 7) ∧ ( C_X0_varNamed l g h (h.2.2 x0 1) (h.2.1 (h.2.2 x0 0) 5) (fun r8 h7 => ( ∀ h9 : AH, h9 = ax_setI h7 x0 7 r8 → ( ((¬ h9.1 x0 7 = (-1) → (Q 1 h9)) ∧ (h9.1 x0 7 = (-1) → (C_X7_faulty l g h9 x0 2 (fun r14 h13 => ( ((r14 = 0 → (Q 0 h13)) ∧ (¬ (r14 = 0) → (Q 1 h13))))))))))))))) ∧ (¬ (h.1 (h.2.2 x0 0) 3 = 1) → (C_X7_faulty l g h x0 1 (fun r18 h17 => ( (r18 = 0 ∨ r18 = 1) ∧ ( Q r18 h17))))))))) : L_X7_isVar_0 l g h x0  Q := by
  obtain ⟨i1, hb⟩ := hb
  refine wp_aload_n 0 dX7_isVar_0 rfl rfl ?_
  obtain ⟨i2, hb⟩ := hb
  refine wp_getR dX7_isVar_1 fl_X7_12 i1 (i2.ne (by decide)) ?_
  refine wp_getI dX7_isVar_4 fl_X7_80 i2 ?_
  refine wp_iconst (v := 1) dX7_isVar_7 (by decide) ?_
  refine wp_icmp_eq (tgt := 17) dX7_isVar_8 (by decide) (fun c3 => ?_) (fun c3 => ?_)
  · have hb := hb.1 c3
    refine wp_aload_n 0 dX7_isVar_17 rfl rfl ?_
    refine wp_aload_n 0 dX7_isVar_18 rfl rfl ?_
    obtain ⟨i4, hb⟩ := hb
    refine wp_getR dX7_isVar_19 fl_X7_64 i1 (i4.ne (by decide)) ?_
    refine wp_aload_n 0 dX7_isVar_22 rfl rfl ?_
    obtain ⟨i5, hb⟩ := hb
    refine wp_getR dX7_isVar_23 fl_X7_12 i1 (i5.ne (by decide)) ?_
    refine wp_getL dX7_isVar_26 fl_X7_168 i5 ?_
    refine wp_callVN (as := [.long (h.2.1 (h.2.2 x0 0) 5)]) dX7_isVar_29 cb_X0_varNamed lk_X7_171 im_X0_varNamed se_X0_varNamed rfl (Nat.le_of_ble_eq_true rfl) ⟨by decide, by decide⟩ ⟨Nat.le_refl _, Nat.le_refl _, Nat.le_refl _⟩ i4 rfl (by decide) hb (fun r0 h7 hb => ?_)
    obtain ⟨r8, rfl, hb⟩ := hb
    refine wp_putI dX7_isVar_32 fl_X7_36 (Or.inl rfl) i1 ?_
    refine wp_topH (fun h9 e10 => ?_)
    have hb := hb h9 e10
    refine wp_aload_n 0 dX7_isVar_35 rfl rfl ?_
    refine wp_getI dX7_isVar_36 fl_X7_36 i1 ?_
    refine wp_iconst (v := (-1)) dX7_isVar_39 (by decide) ?_
    refine wp_icmp_ne (tgt := 51) dX7_isVar_40 (by decide) (fun c11 => ?_) (fun c11 => ?_)
    · have hb := hb.1 c11
      refine wp_iconst (v := 1) dX7_isVar_51 (by decide) ?_
      refine wp_goto (tgt := 56) dX7_isVar_52 (by decide) ?_
      exact wp_zret rfl dX7_isVar_56 (Or.inr rfl) ⟨_, rfl, hb⟩
    · have hb := hb.2 c11
      refine wp_aload_n 0 dX7_isVar_43 rfl rfl ?_
      refine wp_iconst (v := 2) dX7_isVar_44 (by decide) ?_
      refine wp_callV (as := [.int 2]) dX7_isVar_45 cb_X7_faulty lk_X7_90 im_X7_faulty se_X7_faulty rfl (Nat.le_of_ble_eq_true rfl) ⟨by decide, by decide⟩ ⟨Nat.le_refl _, Nat.le_refl _, Nat.le_refl _⟩ i1 rfl (by decide) hb (fun r0 h13 hb => ?_)
      obtain ⟨r14, rfl, hb⟩ := hb
      refine wp_if_eq (tgt := 55) dX7_isVar_48 (by decide) (fun c15 => ?_) (fun c15 => ?_)
      · have hb := hb.1 c15
        refine wp_iconst (v := 0) dX7_isVar_55 (by decide) ?_
        exact wp_zret rfl dX7_isVar_56 (Or.inl rfl) ⟨_, rfl, hb⟩
      · have hb := hb.2 c15
        refine wp_iconst (v := 1) dX7_isVar_51 (by decide) ?_
        refine wp_goto (tgt := 56) dX7_isVar_52 (by decide) ?_
        exact wp_zret rfl dX7_isVar_56 (Or.inr rfl) ⟨_, rfl, hb⟩
  · have hb := hb.2 c3
    refine wp_aload_n 0 dX7_isVar_11 rfl rfl ?_
    refine wp_iconst (v := 1) dX7_isVar_12 (by decide) ?_
    refine wp_callV (as := [.int 1]) dX7_isVar_13 cb_X7_faulty lk_X7_90 im_X7_faulty se_X7_faulty rfl (Nat.le_of_ble_eq_true rfl) ⟨by decide, by decide⟩ ⟨Nat.le_refl _, Nat.le_refl _, Nat.le_refl _⟩ i1 rfl (by decide) hb (fun r0 h17 hb => ?_)
    obtain ⟨r18, rfl, hb⟩ := hb
    obtain ⟨q19, hb⟩ := hb
    exact wp_zret rfl dX7_isVar_16 q19 ⟨_, rfl, hb⟩
theorem c_X7_isVar {l : Launch} {g : AG} {h : AH} {x0 : Nat}  {Q : Int32 → AH → Prop} (hb : L_X7_isVar_0 l g h x0  Q) : C_X7_isVar l g h x0  Q := ax_met rfl (Nat.le_of_ble_eq_true rfl) hb
def C_X0_addShow (l : Launch) (g : AG) (h : AH) (x0 : Nat) (x1 : Int32) (x2 : Int32)  (Q : AH → Prop) : Prop := Ct l g mX0_addShow 0 0 194 194 h [.ref x0, .int x1, .int x2] (ax_QV Q)
def L_X0_addShow_0 (l : Launch) (g : AG) (h : AH) (x0 : Nat) (x1 : Int32) (x2 : Int32)  (Q : AH → Prop) : Prop := Wp l g mX0_addShow 0 0 194 194 194 0 [(0, .ref x0), (1, .int x1), (2, .int x2)] [] h (FM g 194 194 (ax_QV Q))
set_option maxRecDepth 100000 in
set_option maxHeartbeats 4000000 in
theorem s_X0_addShow_0 {l : Launch} {g : AG} {h : AH} {x0 : Nat} {x1 : Int32} {x2 : Int32}  {Q : AH → Prop} (hb : (Is 194 x0 0) ∧ ( (Is 194 (h.2.2 x0 12) 20) ∧ ( (Is 194 (h.2.2 x0 11) 20) ∧ ( (vp_in x1 (ax_s (h.2.2 x0 11)).2) ∧ ( (vp_in ((x1 * 6) + (h.1 (h.2.2 x0 11) x1.toNatClampNeg)) (ax_s (h.2.2 x0 12)).2) ∧ ( ∀ h6 : AH, h6 = ax_setI h (h.2.2 x0 12) ((x1 * 6) + (h.1 (h.2.2 x0 11) x1.toNatClampNeg)).toNatClampNeg x2 → ( (Is 194 (h6.2.2 x0 11) 20) ∧ ( (vp_in x1 (ax_s (h6.2.2 x0 11)).2) ∧ ( (vp_in x1 (ax_s (h6.2.2 x0 11)).2) ∧ ( ∀ h11 : AH, h11 = ax_setI h6 (h6.2.2 x0 11) x1.toNatClampNeg ((h6.1 (h6.2.2 x0 11) x1.toNatClampNeg) + 1) → ( ∀ h13 : AH, h13 = ax_setI h11 x0 4 ((h11.1 x0 4) + 1) → ( Q h13)))))))))))) : L_X0_addShow_0 l g h x0 x1 x2  Q := by
  obtain ⟨i1, hb⟩ := hb
  refine wp_aload_n 0 dX0_addShow_0 rfl rfl ?_
  obtain ⟨i2, hb⟩ := hb
  refine wp_getR dX0_addShow_1 fl_X0_51 i1 (i2.ne (by decide)) ?_
  refine wp_iload_n 1 dX0_addShow_4 rfl rfl ?_
  refine wp_bipush (v := 6) dX0_addShow_5 (by decide) ?_
  refine wp_imul dX0_addShow_7 ?_
  refine wp_aload_n 0 dX0_addShow_8 rfl rfl ?_
  obtain ⟨i3, hb⟩ := hb
  refine wp_getR dX0_addShow_9 fl_X0_48 i1 (i3.ne (by decide)) ?_
  refine wp_iload_n 1 dX0_addShow_12 rfl rfl ?_
  obtain ⟨b4, hb⟩ := hb
  refine wp_iaload dX0_addShow_13 i3 b4 ?_
  refine wp_iadd dX0_addShow_14 ?_
  refine wp_iload_n 2 dX0_addShow_15 rfl rfl ?_
  obtain ⟨b5, hb⟩ := hb
  refine wp_iastore dX0_addShow_16 i2 b5 ?_
  refine wp_topH (fun h6 e7 => ?_)
  have hb := hb h6 e7
  refine wp_aload_n 0 dX0_addShow_17 rfl rfl ?_
  obtain ⟨i8, hb⟩ := hb
  refine wp_getR dX0_addShow_18 fl_X0_48 i1 (i8.ne (by decide)) ?_
  refine wp_iload_n 1 dX0_addShow_21 rfl rfl ?_
  refine wp_dup2_11 dX0_addShow_22 rfl rfl ?_
  obtain ⟨b9, hb⟩ := hb
  refine wp_iaload dX0_addShow_23 i8 b9 ?_
  refine wp_iconst (v := 1) dX0_addShow_24 (by decide) ?_
  refine wp_iadd dX0_addShow_25 ?_
  obtain ⟨b10, hb⟩ := hb
  refine wp_iastore dX0_addShow_26 i8 b10 ?_
  refine wp_topH (fun h11 e12 => ?_)
  have hb := hb h11 e12
  refine wp_aload_n 0 dX0_addShow_27 rfl rfl ?_
  refine wp_dup dX0_addShow_28 rfl ?_
  refine wp_getI dX0_addShow_29 fl_X0_24 i1 ?_
  refine wp_iconst (v := 1) dX0_addShow_32 (by decide) ?_
  refine wp_iadd dX0_addShow_33 ?_
  refine wp_putI dX0_addShow_34 fl_X0_24 (Or.inl rfl) i1 ?_
  refine wp_topH (fun h13 e14 => ?_)
  have hb := hb h13 e14
  exact wp_vret rfl dX0_addShow_37 ⟨rfl, hb⟩
theorem c_X0_addShow {l : Launch} {g : AG} {h : AH} {x0 : Nat} {x1 : Int32} {x2 : Int32}  {Q : AH → Prop} (hb : L_X0_addShow_0 l g h x0 x1 x2  Q) : C_X0_addShow l g h x0 x1 x2  Q := ax_met rfl (Nat.le_of_ble_eq_true rfl) hb
def C_X7_takeShowName (l : Launch) (g : AG) (h : AH) (x0 : Nat)  (Q : Int32 → AH → Prop) : Prop := Ct l g mX7_takeShowName 3 67 194 194 h [.ref x0] (ax_QI Q)
def L_X7_takeShowName_0 (l : Launch) (g : AG) (h : AH) (x0 : Nat)  (Q : Int32 → AH → Prop) : Prop := Wp l g mX7_takeShowName 3 67 194 194 194 0 [(0, .ref x0)] [] h (FM g 194 194 (ax_QI Q))
set_option maxRecDepth 100000 in
set_option maxHeartbeats 4000000 in
theorem s_X7_takeShowName_0 {l : Launch} {g : AG} {h : AH} {x0 : Nat}  {Q : Int32 → AH → Prop} (hb : (Is 194 x0 6) ∧ ( C_X7_isVar l g h x0 (fun r4 h3 => ( ((¬ r4 = 0 → ((Is 194 (h3.2.2 x0 1) 0) ∧ ( (Is 194 (h3.2.2 x0 1) 0) ∧ ( C_X0_addShow l g h3 (h3.2.2 x0 1) ((h3.1 (h3.2.2 x0 1) 0) - 1) (h3.1 x0 7) (fun h9 => ( C_X7_awaits l g h9 x0 8 (fun r12 h11 => ( (r12 = 0 ∨ r12 = 1) ∧ ( Q r12 h11))))))))) ∧ (r4 = 0 → (Q 0 h3))))))) : L_X7_takeShowName_0 l g h x0  Q := by
  obtain ⟨i1, hb⟩ := hb
  refine wp_aload_n 0 dX7_takeShowName_0 rfl rfl ?_
  refine wp_callV (as := []) dX7_takeShowName_1 cb_X7_isVar lk_X7_221 im_X7_isVar se_X7_isVar rfl (Nat.le_of_ble_eq_true rfl) ⟨by decide, by decide⟩ ⟨Nat.le_refl _, Nat.le_refl _, Nat.le_refl _⟩ i1 rfl (by decide) hb (fun r0 h3 hb => ?_)
  obtain ⟨r4, rfl, hb⟩ := hb
  refine wp_if_ne (tgt := 9) dX7_takeShowName_4 (by decide) (fun c5 => ?_) (fun c5 => ?_)
  · have hb := hb.1 c5
    refine wp_aload_n 0 dX7_takeShowName_9 rfl rfl ?_
    obtain ⟨i6, hb⟩ := hb
    refine wp_getR dX7_takeShowName_10 fl_X7_64 i1 (i6.ne (by decide)) ?_
    refine wp_aload_n 0 dX7_takeShowName_13 rfl rfl ?_
    obtain ⟨i7, hb⟩ := hb
    refine wp_getR dX7_takeShowName_14 fl_X7_64 i1 (i7.ne (by decide)) ?_
    refine wp_getI dX7_takeShowName_17 fl_X7_83 i7 ?_
    refine wp_iconst (v := 1) dX7_takeShowName_20 (by decide) ?_
    refine wp_isub dX7_takeShowName_21 ?_
    refine wp_aload_n 0 dX7_takeShowName_22 rfl rfl ?_
    refine wp_getI dX7_takeShowName_23 fl_X7_36 i1 ?_
    refine wp_callVN (as := [.int ((h3.1 (h3.2.2 x0 1) 0) - 1), .int (h3.1 x0 7)]) dX7_takeShowName_26 cb_X0_addShow lk_X7_224 im_X0_addShow se_X0_addShow rfl (Nat.le_of_ble_eq_true rfl) ⟨by decide, by decide⟩ ⟨Nat.le_refl _, Nat.le_refl _, Nat.le_refl _⟩ i6 rfl (by decide) hb (fun r0 h9 hb => ?_)
    obtain ⟨rfl, hb⟩ := hb
    refine wp_aload_n 0 dX7_takeShowName_29 rfl rfl ?_
    refine wp_bipush (v := 8) dX7_takeShowName_30 (by decide) ?_
    refine wp_callV (as := [.int 8]) dX7_takeShowName_32 cb_X7_awaits lk_X7_131 im_X7_awaits se_X7_awaits rfl (Nat.le_of_ble_eq_true rfl) ⟨by decide, by decide⟩ ⟨Nat.le_refl _, Nat.le_refl _, Nat.le_refl _⟩ i1 rfl (by decide) hb (fun r0 h11 hb => ?_)
    obtain ⟨r12, rfl, hb⟩ := hb
    obtain ⟨q13, hb⟩ := hb
    exact wp_zret rfl dX7_takeShowName_35 q13 ⟨_, rfl, hb⟩
  · have hb := hb.2 c5
    refine wp_iconst (v := 0) dX7_takeShowName_7 (by decide) ?_
    exact wp_zret rfl dX7_takeShowName_8 (Or.inl rfl) ⟨_, rfl, hb⟩
theorem c_X7_takeShowName {l : Launch} {g : AG} {h : AH} {x0 : Nat}  {Q : Int32 → AH → Prop} (hb : L_X7_takeShowName_0 l g h x0  Q) : C_X7_takeShowName l g h x0  Q := ax_met rfl (Nat.le_of_ble_eq_true rfl) hb
def C_X0_buttonNamed (l : Launch) (g : AG) (h : AH) (x0 : Nat) (x1 : Int32) (x2 : Int64)  (Q : Int32 → AH → Prop) : Prop := Ct l g mX0_buttonNamed 1 25 194 194 h [.ref x0, .int x1, .long x2] (ax_QI Q)
def L_X0_buttonNamed_0 (l : Launch) (g : AG) (h : AH) (x0 : Nat) (x1 : Int32) (x2 : Int64)  (Q : Int32 → AH → Prop) : Prop := Wp l g mX0_buttonNamed 1 25 194 194 194 0 [(0, .ref x0), (1, .int x1), (2, .long x2)] [] h (FM g 194 194 (ax_QI Q))
set_option maxRecDepth 100000 in
set_option maxHeartbeats 4000000 in
theorem s_X0_buttonNamed_0 {l : Launch} {g : AG} {h : AH} {x0 : Nat} {x1 : Int32} {x2 : Int64}  {Q : Int32 → AH → Prop} (hb : (Is 194 x0 0) ∧ ( (Is 194 (h.2.2 x0 9) 21) ∧ ( (Is 194 (h.2.2 x0 14) 20) ∧ ( (vp_in x1 (ax_s (h.2.2 x0 14)).2) ∧ ( (Is 194 (h.2.2 x0 15) 20) ∧ ( (vp_in x1 (ax_s (h.2.2 x0 15)).2) ∧ ( C_X0_placeOf l g h x2 (h.2.2 x0 9) (h.1 (h.2.2 x0 14) x1.toNatClampNeg) (h.1 (h.2.2 x0 15) x1.toNatClampNeg) (fun r9 h8 => ( Q r9 h8))))))))) : L_X0_buttonNamed_0 l g h x0 x1 x2  Q := by
  refine wp_lload_n 2 dX0_buttonNamed_0 rfl rfl ?_
  obtain ⟨i1, hb⟩ := hb
  refine wp_aload_n 0 dX0_buttonNamed_1 rfl rfl ?_
  obtain ⟨i2, hb⟩ := hb
  refine wp_getR dX0_buttonNamed_2 fl_X0_41 i1 (i2.ne (by decide)) ?_
  refine wp_aload_n 0 dX0_buttonNamed_5 rfl rfl ?_
  obtain ⟨i3, hb⟩ := hb
  refine wp_getR dX0_buttonNamed_6 fl_X0_57 i1 (i3.ne (by decide)) ?_
  refine wp_iload_n 1 dX0_buttonNamed_9 rfl rfl ?_
  obtain ⟨b4, hb⟩ := hb
  refine wp_iaload dX0_buttonNamed_10 i3 b4 ?_
  refine wp_aload_n 0 dX0_buttonNamed_11 rfl rfl ?_
  obtain ⟨i5, hb⟩ := hb
  refine wp_getR dX0_buttonNamed_12 fl_X0_60 i1 (i5.ne (by decide)) ?_
  refine wp_iload_n 1 dX0_buttonNamed_15 rfl rfl ?_
  obtain ⟨b6, hb⟩ := hb
  refine wp_iaload dX0_buttonNamed_16 i5 b6 ?_
  refine wp_callS (as := [.long x2, .ref (h.2.2 x0 9), .int (h.1 (h.2.2 x0 14) x1.toNatClampNeg), .int (h.1 (h.2.2 x0 15) x1.toNatClampNeg)]) dX0_buttonNamed_17 cb_X0_placeOf lk_X0_94 st_X0_placeOf rfl (Nat.le_of_ble_eq_true rfl) ⟨by decide, by decide⟩ ⟨Nat.le_refl _, Nat.le_refl _, Nat.le_refl _⟩ hb (fun r0 h8 hb => ?_)
  obtain ⟨r9, rfl, hb⟩ := hb
  exact wp_iret rfl dX0_buttonNamed_20 ⟨_, rfl, hb⟩
theorem c_X0_buttonNamed {l : Launch} {g : AG} {h : AH} {x0 : Nat} {x1 : Int32} {x2 : Int64}  {Q : Int32 → AH → Prop} (hb : L_X0_buttonNamed_0 l g h x0 x1 x2  Q) : C_X0_buttonNamed l g h x0 x1 x2  Q := ax_met rfl (Nat.le_of_ble_eq_true rfl) hb
