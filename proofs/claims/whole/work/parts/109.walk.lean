def C_X9_actsToFault (l : Launch) (g : AG) (h : AH) (x0 : Nat) (x1 : Nat)  (Q : Int32 → AH → Prop) : Prop := Ct l g mX9_actsToFault 5 124 194 194 h [.ref x0, .ref x1] (ax_QI Q)
def L_X9_actsToFault_0 (l : Launch) (g : AG) (h : AH) (x0 : Nat) (x1 : Nat)  (Q : Int32 → AH → Prop) : Prop := Wp l g mX9_actsToFault 5 124 194 194 194 0 [(0, .ref x0), (1, .ref x1)] [] h (FM g 194 194 (ax_QI Q))
def L_X9_actsToFault_12 (l : Launch) (g : AG) (h : AH) (x0 : Nat) (x1 : Nat) (x2 : Int32)  (Q : Int32 → AH → Prop) : Prop := Wp l g mX9_actsToFault 5 124 194 194 194 12 [(0, .ref x0), (1, .ref x1), (2, .int x2)] [] h (FM g 194 194 (ax_QI Q))
set_option maxRecDepth 100000 in
set_option maxHeartbeats 4000000 in
theorem s_X9_actsToFault_0 {l : Launch} {g : AG} {h : AH} {x0 : Nat} {x1 : Nat}  {Q : Int32 → AH → Prop} (hb : (Is 194 x0 8) ∧ ( (Is 194 (h.2.2 x0 10) 21) ∧ ( (Is 194 x1 0) ∧ ( C_X0_beginning l g h x1 (fun r6 h5 => ( (vp_in 0 (ax_s (h.2.2 x0 10)).2) ∧ ( ∀ h8 : AH, h8 = ax_setL h5 (h.2.2 x0 10) (0 : Int32).toNatClampNeg r6 → ( L_X9_actsToFault_12 l g h8 x0 x1 0  Q)))))))) : L_X9_actsToFault_0 l g h x0 x1  Q := by
  obtain ⟨i1, hb⟩ := hb
  refine wp_aload_n 0 dX9_actsToFault_0 rfl rfl ?_
  obtain ⟨i2, hb⟩ := hb
  refine wp_getR dX9_actsToFault_1 fl_X9_63 i1 (i2.ne (by decide)) ?_
  refine wp_iconst (v := 0) dX9_actsToFault_4 (by decide) ?_
  obtain ⟨i3, hb⟩ := hb
  refine wp_aload_n 1 dX9_actsToFault_5 rfl rfl ?_
  refine wp_callVN (as := []) dX9_actsToFault_6 cb_X0_beginning lk_X9_84 im_X0_beginning se_X0_beginning rfl (Nat.le_of_ble_eq_true rfl) ⟨by decide, by decide⟩ ⟨Nat.le_refl _, Nat.le_refl _, Nat.le_refl _⟩ i3 rfl (by decide) hb (fun r0 h5 hb => ?_)
  obtain ⟨r6, rfl, hb⟩ := hb
  obtain ⟨b7, hb⟩ := hb
  refine wp_lastore dX9_actsToFault_9 i2 b7 ?_
  refine wp_topH (fun h8 e9 => ?_)
  have hb := hb h8 e9
  refine wp_iconst (v := 0) dX9_actsToFault_10 (by decide) ?_
  refine wp_istore_n (lv2 := [(2, .int 0), (0, .ref x0), (1, .ref x1)]) dX9_actsToFault_11 rfl (by decide) rfl ?_
  exact wp_sub [1, 2, 0] rfl hb
set_option maxRecDepth 100000 in
set_option maxHeartbeats 4000000 in
theorem s_X9_actsToFault_12 {l : Launch} {g : AG} {h : AH} {x0 : Nat} {x1 : Nat} {x2 : Int32}  {Q : Int32 → AH → Prop} (hb : (Is 194 x0 8) ∧ ( ((h.1 x0 9 ≤ x2 → (Q (h.1 x0 9) h)) ∧ (¬ (h.1 x0 9 ≤ x2) → ((Is 194 (h.2.2 x0 10) 21) ∧ ( (Is 194 x1 0) ∧ ( (Is 194 (h.2.2 x0 10) 21) ∧ ( (vp_in x2 (ax_s (h.2.2 x0 10)).2) ∧ ( (Is 194 (h.2.2 x0 8) 20) ∧ ( (vp_in x2 (ax_s (h.2.2 x0 8)).2) ∧ ( C_X0_tryAct l g h x1 (h.2.1 (h.2.2 x0 10) x2.toNatClampNeg) (h.1 (h.2.2 x0 8) x2.toNatClampNeg) (fun r20 h19 => ( (vp_in (x2 + 1) (ax_s (h.2.2 x0 10)).2) ∧ ( ∀ h22 : AH, h22 = ax_setL h19 (h.2.2 x0 10) (x2 + 1).toNatClampNeg r20 → ( (Is 194 (h22.2.2 x0 10) 21) ∧ ( (vp_in (x2 + 1) (ax_s (h22.2.2 x0 10)).2) ∧ ( C_X3_faultOf l g h22 (h22.2.1 (h22.2.2 x0 10) (x2 + 1).toNatClampNeg) (fun r28 h27 => ( ((r28 ≤ 0 → (∀ v30 : Int32, v30 = x2 + (1) → ( L_X9_actsToFault_12 l g h27 x0 x1 v30  Q))) ∧ (¬ (r28 ≤ 0) → (Q (x2 + 1) h27)))))))))))))))))))))) : L_X9_actsToFault_12 l g h x0 x1 x2  Q := by
  refine wp_iload_n 2 dX9_actsToFault_12 rfl rfl ?_
  obtain ⟨i10, hb⟩ := hb
  refine wp_aload_n 0 dX9_actsToFault_13 rfl rfl ?_
  refine wp_getI dX9_actsToFault_14 fl_X9_60 i10 ?_
  refine wp_icmp_ge (tgt := 68) dX9_actsToFault_17 (by decide) (fun c11 => ?_) (fun c11 => ?_)
  · have hb := hb.1 c11
    refine wp_aload_n 0 dX9_actsToFault_68 rfl rfl ?_
    refine wp_getI dX9_actsToFault_69 fl_X9_60 i10 ?_
    exact wp_iret rfl dX9_actsToFault_72 ⟨_, rfl, hb⟩
  · have hb := hb.2 c11
    refine wp_aload_n 0 dX9_actsToFault_20 rfl rfl ?_
    obtain ⟨i12, hb⟩ := hb
    refine wp_getR dX9_actsToFault_21 fl_X9_63 i10 (i12.ne (by decide)) ?_
    refine wp_iload_n 2 dX9_actsToFault_24 rfl rfl ?_
    refine wp_iconst (v := 1) dX9_actsToFault_25 (by decide) ?_
    refine wp_iadd dX9_actsToFault_26 ?_
    obtain ⟨i13, hb⟩ := hb
    refine wp_aload_n 1 dX9_actsToFault_27 rfl rfl ?_
    refine wp_aload_n 0 dX9_actsToFault_28 rfl rfl ?_
    obtain ⟨i14, hb⟩ := hb
    refine wp_getR dX9_actsToFault_29 fl_X9_63 i10 (i14.ne (by decide)) ?_
    refine wp_iload_n 2 dX9_actsToFault_32 rfl rfl ?_
    obtain ⟨b15, hb⟩ := hb
    refine wp_laload dX9_actsToFault_33 i14 b15 ?_
    refine wp_aload_n 0 dX9_actsToFault_34 rfl rfl ?_
    obtain ⟨i16, hb⟩ := hb
    refine wp_getR dX9_actsToFault_35 fl_X9_57 i10 (i16.ne (by decide)) ?_
    refine wp_iload_n 2 dX9_actsToFault_38 rfl rfl ?_
    obtain ⟨b17, hb⟩ := hb
    refine wp_iaload dX9_actsToFault_39 i16 b17 ?_
    refine wp_callVN (as := [.long (h.2.1 (h.2.2 x0 10) x2.toNatClampNeg), .int (h.1 (h.2.2 x0 8) x2.toNatClampNeg)]) dX9_actsToFault_40 cb_X0_tryAct lk_X9_275 im_X0_tryAct se_X0_tryAct rfl (Nat.le_of_ble_eq_true rfl) ⟨by decide, by decide⟩ ⟨Nat.le_refl _, Nat.le_refl _, Nat.le_refl _⟩ i13 rfl (by decide) hb (fun r0 h19 hb => ?_)
    obtain ⟨r20, rfl, hb⟩ := hb
    obtain ⟨b21, hb⟩ := hb
    refine wp_lastore dX9_actsToFault_43 i12 b21 ?_
    refine wp_topH (fun h22 e23 => ?_)
    have hb := hb h22 e23
    refine wp_aload_n 0 dX9_actsToFault_44 rfl rfl ?_
    obtain ⟨i24, hb⟩ := hb
    refine wp_getR dX9_actsToFault_45 fl_X9_63 i10 (i24.ne (by decide)) ?_
    refine wp_iload_n 2 dX9_actsToFault_48 rfl rfl ?_
    refine wp_iconst (v := 1) dX9_actsToFault_49 (by decide) ?_
    refine wp_iadd dX9_actsToFault_50 ?_
    obtain ⟨b25, hb⟩ := hb
    refine wp_laload dX9_actsToFault_51 i24 b25 ?_
    refine wp_callSN (as := [.long (h22.2.1 (h22.2.2 x0 10) (x2 + 1).toNatClampNeg)]) dX9_actsToFault_52 cb_X3_faultOf lk_X9_152 st_X3_faultOf rfl (Nat.le_of_ble_eq_true rfl) ⟨by decide, by decide⟩ ⟨Nat.le_refl _, Nat.le_refl _, Nat.le_refl _⟩ hb (fun r0 h27 hb => ?_)
    obtain ⟨r28, rfl, hb⟩ := hb
    refine wp_if_le (tgt := 62) dX9_actsToFault_55 (by decide) (fun c29 => ?_) (fun c29 => ?_)
    · have hb := hb.1 c29
      obtain ⟨v30, e31⟩ : ∃ y : Int32, y = x2 + (1) := ⟨_, rfl⟩
      have hb := hb v30 e31
      refine wp_iinc (v := v30) (lv2 := [(2, .int v30), (0, .ref x0), (1, .ref x1)]) 2 dX9_actsToFault_62 rfl (by rw [e31]; rfl) (by decide) rfl ?_
      refine wp_goto (tgt := 12) dX9_actsToFault_65 (by decide) ?_
      exact wp_sub [1, 2, 0] rfl hb
    · have hb := hb.2 c29
      refine wp_iload_n 2 dX9_actsToFault_58 rfl rfl ?_
      refine wp_iconst (v := 1) dX9_actsToFault_59 (by decide) ?_
      refine wp_iadd dX9_actsToFault_60 ?_
      exact wp_iret rfl dX9_actsToFault_61 ⟨_, rfl, hb⟩
theorem c_X9_actsToFault {l : Launch} {g : AG} {h : AH} {x0 : Nat} {x1 : Nat}  {Q : Int32 → AH → Prop} (hb : L_X9_actsToFault_0 l g h x0 x1  Q) : C_X9_actsToFault l g h x0 x1  Q := ax_met rfl rfl (Nat.le_of_ble_eq_true rfl) hb
def C_X9_tryRow (l : Launch) (g : AG) (h : AH) (x0 : Nat) (x1 : Int32)  (Q : Int32 → AH → Prop) : Prop := Ct l g mX9_tryRow 6 146 194 194 h [.ref x0, .int x1] (ax_QI Q)
def L_X9_tryRow_0 (l : Launch) (g : AG) (h : AH) (x0 : Nat) (x1 : Int32)  (Q : Int32 → AH → Prop) : Prop := Wp l g mX9_tryRow 6 146 194 194 194 0 [(0, .ref x0), (1, .int x1)] [] h (FM g 194 194 (ax_QI Q))
set_option maxRecDepth 100000 in
set_option maxHeartbeats 4000000 in
theorem s_X9_tryRow_0 {l : Launch} {g : AG} {h : AH} {x0 : Nat} {x1 : Int32}  {Q : Int32 → AH → Prop} (hb : (Is 194 x0 8) ∧ ( C_X9_has l g h x0 x1 (fun r4 h3 => ( ((¬ r4 = 0 → ((Is 194 (h3.2.2 x0 2) 24) ∧ ( (vp_in x1 (ax_s (h3.2.2 x0 2)).2) ∧ ( (Is 194 (h3.2.2 (h3.2.2 x0 2) x1.toNatClampNeg) 0) ∧ ( C_X9_actsToFault l g h3 x0 (h3.2.2 (h3.2.2 x0 2) x1.toNatClampNeg) (fun r11 h10 => ( ∀ h12 : AH, h12 = ax_setI h10 x0 11 r11 → ( (Is 194 (h12.2.2 x0 10) 21) ∧ ( (vp_in (h12.1 x0 11) (ax_s (h12.2.2 x0 10)).2) ∧ ( ∀ v16 : Int64, v16 = (h12.2.1 (h12.2.2 x0 10) (h12.1 x0 11).toNatClampNeg) → ( C_X3_faultOf l g h12 v16 (fun r20 h19 => ( C_X9_granted l g h19 x0 r20 (fun r23 h22 => ( Q r23 h22))))))))))))))) ∧ (r4 = 0 → (C_X9_refused l g h3 x0 1 (fun r26 h25 => ( Q r26 h25))))))))) : L_X9_tryRow_0 l g h x0 x1  Q := by
  obtain ⟨i1, hb⟩ := hb
  refine wp_aload_n 0 dX9_tryRow_0 rfl rfl ?_
  refine wp_iload_n 1 dX9_tryRow_1 rfl rfl ?_
  refine wp_callV (as := [.int x1]) dX9_tryRow_2 cb_X9_has lk_X9_106 im_X9_has se_X9_has rfl (Nat.le_of_ble_eq_true rfl) ⟨by decide, by decide⟩ ⟨Nat.le_refl _, Nat.le_refl _, Nat.le_refl _⟩ i1 rfl (by decide) hb (fun r0 h3 hb => ?_)
  obtain ⟨r4, rfl, hb⟩ := hb
  refine wp_if_ne (tgt := 14) dX9_tryRow_5 (by decide) (fun c5 => ?_) (fun c5 => ?_)
  · have hb := hb.1 c5
    refine wp_aload_n 0 dX9_tryRow_14 rfl rfl ?_
    refine wp_aload_n 0 dX9_tryRow_15 rfl rfl ?_
    refine wp_aload_n 0 dX9_tryRow_16 rfl rfl ?_
    obtain ⟨i6, hb⟩ := hb
    refine wp_getR dX9_tryRow_17 fl_X9_20 i1 (i6.ne (by decide)) ?_
    refine wp_iload_n 1 dX9_tryRow_20 rfl rfl ?_
    obtain ⟨b7, hb⟩ := hb
    obtain ⟨i8, hb⟩ := hb
    refine wp_aaload24 dX9_tryRow_21 i6 b7 (i8.ne (by decide)) ?_
    refine wp_callV (as := [.ref (h3.2.2 (h3.2.2 x0 2) x1.toNatClampNeg)]) dX9_tryRow_22 cb_X9_actsToFault lk_X9_241 im_X9_actsToFault se_X9_actsToFault rfl (Nat.le_of_ble_eq_true rfl) ⟨by decide, by decide⟩ ⟨Nat.le_refl _, Nat.le_refl _, Nat.le_refl _⟩ i1 rfl (by decide) hb (fun r0 h10 hb => ?_)
    obtain ⟨r11, rfl, hb⟩ := hb
    refine wp_putI dX9_tryRow_25 fl_X9_66 (Or.inl rfl) i1 ?_
    refine wp_topH (fun h12 e13 => ?_)
    have hb := hb h12 e13
    refine wp_aload_n 0 dX9_tryRow_28 rfl rfl ?_
    refine wp_aload_n 0 dX9_tryRow_29 rfl rfl ?_
    obtain ⟨i14, hb⟩ := hb
    refine wp_getR dX9_tryRow_30 fl_X9_63 i1 (i14.ne (by decide)) ?_
    refine wp_aload_n 0 dX9_tryRow_33 rfl rfl ?_
    refine wp_getI dX9_tryRow_34 fl_X9_66 i1 ?_
    obtain ⟨b15, hb⟩ := hb
    refine wp_laload dX9_tryRow_37 i14 b15 ?_
    refine wp_topl (fun v16 e17 => ?_)
    have hb := hb v16 e17
    refine wp_callSN (as := [.long v16]) dX9_tryRow_38 cb_X3_faultOf lk_X9_152 st_X3_faultOf rfl (Nat.le_of_ble_eq_true rfl) ⟨by decide, by decide⟩ ⟨Nat.le_refl _, Nat.le_refl _, Nat.le_refl _⟩ hb (fun r0 h19 hb => ?_)
    obtain ⟨r20, rfl, hb⟩ := hb
    refine wp_callV (as := [.int r20]) dX9_tryRow_41 cb_X9_granted lk_X9_97 im_X9_granted se_X9_granted rfl (Nat.le_of_ble_eq_true rfl) ⟨by decide, by decide⟩ ⟨Nat.le_refl _, Nat.le_refl _, Nat.le_refl _⟩ i1 rfl (by decide) hb (fun r0 h22 hb => ?_)
    obtain ⟨r23, rfl, hb⟩ := hb
    exact wp_iret rfl dX9_tryRow_44 ⟨_, rfl, hb⟩
  · have hb := hb.2 c5
    refine wp_aload_n 0 dX9_tryRow_8 rfl rfl ?_
    refine wp_iconst (v := 1) dX9_tryRow_9 (by decide) ?_
    refine wp_callV (as := [.int 1]) dX9_tryRow_10 cb_X9_refused lk_X9_76 im_X9_refused se_X9_refused rfl (Nat.le_of_ble_eq_true rfl) ⟨by decide, by decide⟩ ⟨Nat.le_refl _, Nat.le_refl _, Nat.le_refl _⟩ i1 rfl (by decide) hb (fun r0 h25 hb => ?_)
    obtain ⟨r26, rfl, hb⟩ := hb
    exact wp_iret rfl dX9_tryRow_13 ⟨_, rfl, hb⟩
theorem c_X9_tryRow {l : Launch} {g : AG} {h : AH} {x0 : Nat} {x1 : Int32}  {Q : Int32 → AH → Prop} (hb : L_X9_tryRow_0 l g h x0 x1  Q) : C_X9_tryRow l g h x0 x1  Q := ax_met rfl rfl (Nat.le_of_ble_eq_true rfl) hb
def C_X9_tried (l : Launch) (g : AG) (h : AH) (x0 : Nat)  (Q : Int32 → AH → Prop) : Prop := Ct l g mX9_tried 0 0 194 194 h [.ref x0] (ax_QI Q)
def L_X9_tried_0 (l : Launch) (g : AG) (h : AH) (x0 : Nat)  (Q : Int32 → AH → Prop) : Prop := Wp l g mX9_tried 0 0 194 194 194 0 [(0, .ref x0)] [] h (FM g 194 194 (ax_QI Q))
set_option maxRecDepth 100000 in
set_option maxHeartbeats 4000000 in
theorem s_X9_tried_0 {l : Launch} {g : AG} {h : AH} {x0 : Nat}  {Q : Int32 → AH → Prop} (hb : (Is 194 x0 8) ∧ ( Q (h.1 x0 11) h)) : L_X9_tried_0 l g h x0  Q := by
  obtain ⟨i1, hb⟩ := hb
  refine wp_aload_n 0 dX9_tried_0 rfl rfl ?_
  refine wp_getI dX9_tried_1 fl_X9_66 i1 ?_
  exact wp_iret rfl dX9_tried_4 ⟨_, rfl, hb⟩
theorem c_X9_tried {l : Launch} {g : AG} {h : AH} {x0 : Nat}  {Q : Int32 → AH → Prop} (hb : L_X9_tried_0 l g h x0  Q) : C_X9_tried l g h x0  Q := ax_met rfl rfl (Nat.le_of_ble_eq_true rfl) hb
def C_X9_comesWithout (l : Launch) (g : AG) (h : AH) (x0 : Nat) (x1 : Nat) (x2 : Int32) (x3 : Int32)  (Q : Int32 → AH → Prop) : Prop := Ct l g mX9_comesWithout 5 124 194 194 h [.ref x0, .ref x1, .int x2, .int x3] (ax_QI Q)
def L_X9_comesWithout_0 (l : Launch) (g : AG) (h : AH) (x0 : Nat) (x1 : Nat) (x2 : Int32) (x3 : Int32)  (Q : Int32 → AH → Prop) : Prop := Wp l g mX9_comesWithout 5 124 194 194 194 0 [(0, .ref x0), (1, .ref x1), (2, .int x2), (3, .int x3)] [] h (FM g 194 194 (ax_QI Q))
def L_X9_comesWithout_13 (l : Launch) (g : AG) (h : AH) (x0 : Nat) (x1 : Nat) (x3 : Int32) (x4 : Int64) (x6 : Int32)  (Q : Int32 → AH → Prop) : Prop := Wp l g mX9_comesWithout 5 124 194 194 194 13 [(0, .ref x0), (1, .ref x1), (3, .int x3), (4, .long x4), (6, .int x6)] [] h (FM g 194 194 (ax_QI Q))
def L_X9_comesWithout_69 (l : Launch) (g : AG) (h : AH) (x3 : Int32) (x4 : Int64)  (Q : Int32 → AH → Prop) : Prop := Wp l g mX9_comesWithout 5 124 194 194 194 69 [(3, .int x3), (4, .long x4)] [] h (FM g 194 194 (ax_QI Q))
set_option maxRecDepth 100000 in
set_option maxHeartbeats 4000000 in
theorem s_X9_comesWithout_0 {l : Launch} {g : AG} {h : AH} {x0 : Nat} {x1 : Nat} {x2 : Int32} {x3 : Int32}  {Q : Int32 → AH → Prop} (hb : (Is 194 x0 8) ∧ ( (Is 194 (h.2.2 x0 10) 21) ∧ ( (vp_in x2 (ax_s (h.2.2 x0 10)).2) ∧ ( ∀ v4 : Int64, v4 = (h.2.1 (h.2.2 x0 10) x2.toNatClampNeg) → ( ∀ v6 : Int32, v6 = (x2 + 1) → ( L_X9_comesWithout_13 l g h x0 x1 x3 v4 v6  Q)))))) : L_X9_comesWithout_0 l g h x0 x1 x2 x3  Q := by
  obtain ⟨i1, hb⟩ := hb
  refine wp_aload_n 0 dX9_comesWithout_0 rfl rfl ?_
  obtain ⟨i2, hb⟩ := hb
  refine wp_getR dX9_comesWithout_1 fl_X9_63 i1 (i2.ne (by decide)) ?_
  refine wp_iload_n 2 dX9_comesWithout_4 rfl rfl ?_
  obtain ⟨b3, hb⟩ := hb
  refine wp_laload dX9_comesWithout_5 i2 b3 ?_
  refine wp_topl (fun v4 e5 => ?_)
  have hb := hb v4 e5
  refine wp_lstore (lv2 := [(4, .long v4), (0, .ref x0), (1, .ref x1), (2, .int x2), (3, .int x3)]) dX9_comesWithout_6 (by decide) rfl ?_
  refine wp_iload_n 3 dX9_comesWithout_8 rfl rfl ?_
  refine wp_iconst (v := 1) dX9_comesWithout_9 (by decide) ?_
  refine wp_iadd dX9_comesWithout_10 ?_
  refine wp_topi (fun v6 e7 => ?_)
  have hb := hb v6 e7
  refine wp_istore (lv2 := [(6, .int v6), (4, .long v4), (0, .ref x0), (1, .ref x1), (2, .int x2), (3, .int x3)]) dX9_comesWithout_11 (by decide) rfl ?_
  exact wp_sub [2, 3, 5, 1, 0] rfl hb
set_option maxRecDepth 100000 in
set_option maxHeartbeats 4000000 in
theorem s_X9_comesWithout_13 {l : Launch} {g : AG} {h : AH} {x0 : Nat} {x1 : Nat} {x3 : Int32} {x4 : Int64} {x6 : Int32}  {Q : Int32 → AH → Prop} (hb : (Is 194 x0 8) ∧ ( ((h.1 x0 9 ≤ x6 → (L_X9_comesWithout_69 l g h x3 x4  Q)) ∧ (¬ (h.1 x0 9 ≤ x6) → ((Is 194 (h.2.2 x0 10) 21) ∧ ( (vp_in x6 (ax_s (h.2.2 x0 10)).2) ∧ ( ((¬ lg_cmp x4 (h.2.1 (h.2.2 x0 10) x6.toNatClampNeg) = 0 → ((Is 194 x1 0) ∧ ( (Is 194 (h.2.2 x0 8) 20) ∧ ( (vp_in x6 (ax_s (h.2.2 x0 8)).2) ∧ ( C_X0_tryAct l g h x1 x4 (h.1 (h.2.2 x0 8) x6.toNatClampNeg) (fun r18 h17 => ( C_X3_faultOf l g h17 r18 (fun r21 h20 => ( ((r21 ≤ 0 → (∀ v23 : Int32, v23 = x6 + (1) → ( L_X9_comesWithout_13 l g h20 x0 x1 x3 r18 v23  Q))) ∧ (¬ (r21 ≤ 0) → (L_X9_comesWithout_69 l g h20 x3 r18  Q)))))))))))) ∧ (lg_cmp x4 (h.2.1 (h.2.2 x0 10) x6.toNatClampNeg) = 0 → (Q 1 h)))))))))) : L_X9_comesWithout_13 l g h x0 x1 x3 x4 x6  Q := by
  refine wp_iload 4 dX9_comesWithout_13 rfl ?_
  obtain ⟨i8, hb⟩ := hb
  refine wp_aload_n 0 dX9_comesWithout_15 rfl rfl ?_
  refine wp_getI dX9_comesWithout_16 fl_X9_60 i8 ?_
  refine wp_icmp_ge (tgt := 69) dX9_comesWithout_19 (by decide) (fun c9 => ?_) (fun c9 => ?_)
  · have hb := hb.1 c9
    exact wp_sub [2, 3] rfl hb
  · have hb := hb.2 c9
    refine wp_lload 3 dX9_comesWithout_22 rfl ?_
    refine wp_aload_n 0 dX9_comesWithout_24 rfl rfl ?_
    obtain ⟨i10, hb⟩ := hb
    refine wp_getR dX9_comesWithout_25 fl_X9_63 i8 (i10.ne (by decide)) ?_
    refine wp_iload 4 dX9_comesWithout_28 rfl ?_
    obtain ⟨b11, hb⟩ := hb
    refine wp_laload dX9_comesWithout_30 i10 b11 ?_
    refine wp_lcmp dX9_comesWithout_31 ?_
    refine wp_if_ne (tgt := 37) dX9_comesWithout_32 (by decide) (fun c12 => ?_) (fun c12 => ?_)
    · have hb := hb.1 c12
      obtain ⟨i13, hb⟩ := hb
      refine wp_aload_n 1 dX9_comesWithout_37 rfl rfl ?_
      refine wp_lload 3 dX9_comesWithout_38 rfl ?_
      refine wp_aload_n 0 dX9_comesWithout_40 rfl rfl ?_
      obtain ⟨i14, hb⟩ := hb
      refine wp_getR dX9_comesWithout_41 fl_X9_57 i8 (i14.ne (by decide)) ?_
      refine wp_iload 4 dX9_comesWithout_44 rfl ?_
      obtain ⟨b15, hb⟩ := hb
      refine wp_iaload dX9_comesWithout_46 i14 b15 ?_
      refine wp_callVN (as := [.long x4, .int (h.1 (h.2.2 x0 8) x6.toNatClampNeg)]) dX9_comesWithout_47 cb_X0_tryAct lk_X9_275 im_X0_tryAct se_X0_tryAct rfl (Nat.le_of_ble_eq_true rfl) ⟨by decide, by decide⟩ ⟨Nat.le_refl _, Nat.le_refl _, Nat.le_refl _⟩ i13 rfl (by decide) hb (fun r0 h17 hb => ?_)
      obtain ⟨r18, rfl, hb⟩ := hb
      refine wp_lstore (lv2 := [(4, .long r18), (0, .ref x0), (1, .ref x1), (3, .int x3), (6, .int x6)]) dX9_comesWithout_50 (by decide) rfl ?_
      refine wp_lload 0 dX9_comesWithout_52 rfl ?_
      refine wp_callSN (as := [.long r18]) dX9_comesWithout_54 cb_X3_faultOf lk_X9_152 st_X3_faultOf rfl (Nat.le_of_ble_eq_true rfl) ⟨by decide, by decide⟩ ⟨Nat.le_refl _, Nat.le_refl _, Nat.le_refl _⟩ hb (fun r0 h20 hb => ?_)
      obtain ⟨r21, rfl, hb⟩ := hb
      refine wp_if_le (tgt := 63) dX9_comesWithout_57 (by decide) (fun c22 => ?_) (fun c22 => ?_)
      · have hb := hb.1 c22
        obtain ⟨v23, e24⟩ : ∃ y : Int32, y = x6 + (1) := ⟨_, rfl⟩
        have hb := hb v23 e24
        refine wp_iinc (v := v23) (lv2 := [(6, .int v23), (4, .long r18), (0, .ref x0), (1, .ref x1), (3, .int x3)]) 4 dX9_comesWithout_63 rfl (by rw [e24]; rfl) (by decide) rfl ?_
        refine wp_goto (tgt := 13) dX9_comesWithout_66 (by decide) ?_
        exact wp_sub [2, 3, 4, 1, 0] rfl hb
      · have hb := hb.2 c22
        refine wp_goto (tgt := 69) dX9_comesWithout_60 (by decide) ?_
        exact wp_sub [3, 0] rfl hb
    · have hb := hb.2 c12
      refine wp_iconst (v := 1) dX9_comesWithout_35 (by decide) ?_
      exact wp_zret rfl dX9_comesWithout_36 (Or.inr rfl) ⟨_, rfl, hb⟩
set_option maxRecDepth 100000 in
set_option maxHeartbeats 4000000 in
theorem s_X9_comesWithout_69 {l : Launch} {g : AG} {h : AH} {x3 : Int32} {x4 : Int64}  {Q : Int32 → AH → Prop} (hb : C_X3_faultOf l g h x4 (fun r27 h26 => ( ((¬ r27 = x3 → (Q 0 h26)) ∧ (r27 = x3 → (Q 1 h26)))))) : L_X9_comesWithout_69 l g h x3 x4  Q := by
  refine wp_lload 1 dX9_comesWithout_69 rfl ?_
  refine wp_callSN (as := [.long x4]) dX9_comesWithout_71 cb_X3_faultOf lk_X9_152 st_X3_faultOf rfl (Nat.le_of_ble_eq_true rfl) ⟨by decide, by decide⟩ ⟨Nat.le_refl _, Nat.le_refl _, Nat.le_refl _⟩ hb (fun r0 h26 hb => ?_)
  obtain ⟨r27, rfl, hb⟩ := hb
  refine wp_iload_n 0 dX9_comesWithout_74 rfl rfl ?_
  refine wp_icmp_ne (tgt := 82) dX9_comesWithout_75 (by decide) (fun c28 => ?_) (fun c28 => ?_)
  · have hb := hb.1 c28
    refine wp_iconst (v := 0) dX9_comesWithout_82 (by decide) ?_
    exact wp_zret rfl dX9_comesWithout_83 (Or.inl rfl) ⟨_, rfl, hb⟩
  · have hb := hb.2 c28
    refine wp_iconst (v := 1) dX9_comesWithout_78 (by decide) ?_
    refine wp_goto (tgt := 83) dX9_comesWithout_79 (by decide) ?_
    exact wp_zret rfl dX9_comesWithout_83 (Or.inr rfl) ⟨_, rfl, hb⟩
theorem c_X9_comesWithout {l : Launch} {g : AG} {h : AH} {x0 : Nat} {x1 : Nat} {x2 : Int32} {x3 : Int32}  {Q : Int32 → AH → Prop} (hb : L_X9_comesWithout_0 l g h x0 x1 x2 x3  Q) : C_X9_comesWithout l g h x0 x1 x2 x3  Q := ax_met rfl rfl (Nat.le_of_ble_eq_true rfl) hb
def C_X9_leaveOut (l : Launch) (g : AG) (h : AH) (x0 : Nat) (x1 : Nat) (x2 : Int32)  (Q : AH → Prop) : Prop := Ct l g mX9_leaveOut 5 124 194 194 h [.ref x0, .ref x1, .int x2] (ax_QV Q)
def L_X9_leaveOut_0 (l : Launch) (g : AG) (h : AH) (x0 : Nat) (x1 : Nat) (x2 : Int32)  (Q : AH → Prop) : Prop := Wp l g mX9_leaveOut 5 124 194 194 194 0 [(0, .ref x0), (1, .ref x1), (2, .int x2)] [] h (FM g 194 194 (ax_QV Q))
def L_X9_leaveOut_2 (l : Launch) (g : AG) (h : AH) (x0 : Nat) (x1 : Nat) (x3 : Int32)  (Q : AH → Prop) : Prop := Wp l g mX9_leaveOut 5 124 194 194 194 2 [(0, .ref x0), (1, .ref x1), (3, .int x3)] [] h (FM g 194 194 (ax_QV Q))
set_option maxRecDepth 100000 in
set_option maxHeartbeats 4000000 in
theorem s_X9_leaveOut_0 {l : Launch} {g : AG} {h : AH} {x0 : Nat} {x1 : Nat} {x2 : Int32}  {Q : AH → Prop} (hb : L_X9_leaveOut_2 l g h x0 x1 x2  Q) : L_X9_leaveOut_0 l g h x0 x1 x2  Q := by
  refine wp_iload_n 2 dX9_leaveOut_0 rfl rfl ?_
  refine wp_istore_n (lv2 := [(3, .int x2), (0, .ref x0), (1, .ref x1), (2, .int x2)]) dX9_leaveOut_1 rfl (by decide) rfl ?_
  exact wp_sub [1, 2, 0] rfl hb
set_option maxRecDepth 100000 in
set_option maxHeartbeats 4000000 in
theorem s_X9_leaveOut_2 {l : Launch} {g : AG} {h : AH} {x0 : Nat} {x1 : Nat} {x3 : Int32}  {Q : AH → Prop} (hb : (Is 194 x0 8) ∧ ( (((h.1 x0 9) - 1 ≤ x3 → (∀ h3 : AH, h3 = ax_setI h x0 9 ((h.1 x0 9) - 1) → ( Q h3))) ∧ (¬ ((h.1 x0 9) - 1 ≤ x3) → ((Is 194 (h.2.2 x0 8) 20) ∧ ( (Is 194 (h.2.2 x0 8) 20) ∧ ( (vp_in (x3 + 1) (ax_s (h.2.2 x0 8)).2) ∧ ( (vp_in x3 (ax_s (h.2.2 x0 8)).2) ∧ ( ∀ h9 : AH, h9 = ax_setI h (h.2.2 x0 8) x3.toNatClampNeg (h.1 (h.2.2 x0 8) (x3 + 1).toNatClampNeg) → ( (Is 194 (h9.2.2 x0 10) 21) ∧ ( (Is 194 x1 0) ∧ ( (Is 194 (h9.2.2 x0 10) 21) ∧ ( (vp_in x3 (ax_s (h9.2.2 x0 10)).2) ∧ ( (Is 194 (h9.2.2 x0 8) 20) ∧ ( (vp_in x3 (ax_s (h9.2.2 x0 8)).2) ∧ ( C_X0_tryAct l g h9 x1 (h9.2.1 (h9.2.2 x0 10) x3.toNatClampNeg) (h9.1 (h9.2.2 x0 8) x3.toNatClampNeg) (fun r19 h18 => ( (vp_in (x3 + 1) (ax_s (h9.2.2 x0 10)).2) ∧ ( ∀ h21 : AH, h21 = ax_setL h18 (h9.2.2 x0 10) (x3 + 1).toNatClampNeg r19 → ( ∀ v23 : Int32, v23 = x3 + (1) → ( L_X9_leaveOut_2 l g h21 x0 x1 v23  Q))))))))))))))))))))) : L_X9_leaveOut_2 l g h x0 x1 x3  Q := by
  refine wp_iload_n 2 dX9_leaveOut_2 rfl rfl ?_
  obtain ⟨i1, hb⟩ := hb
  refine wp_aload_n 0 dX9_leaveOut_3 rfl rfl ?_
  refine wp_getI dX9_leaveOut_4 fl_X9_60 i1 ?_
  refine wp_iconst (v := 1) dX9_leaveOut_7 (by decide) ?_
  refine wp_isub dX9_leaveOut_8 ?_
  refine wp_icmp_ge (tgt := 56) dX9_leaveOut_9 (by decide) (fun c2 => ?_) (fun c2 => ?_)
  · have hb := hb.1 c2
    refine wp_aload_n 0 dX9_leaveOut_56 rfl rfl ?_
    refine wp_dup dX9_leaveOut_57 rfl ?_
    refine wp_getI dX9_leaveOut_58 fl_X9_60 i1 ?_
    refine wp_iconst (v := 1) dX9_leaveOut_61 (by decide) ?_
    refine wp_isub dX9_leaveOut_62 ?_
    refine wp_putI dX9_leaveOut_63 fl_X9_60 (Or.inl rfl) i1 ?_
    refine wp_topH (fun h3 e4 => ?_)
    have hb := hb h3 e4
    exact wp_vret rfl dX9_leaveOut_66 ⟨rfl, hb⟩
  · have hb := hb.2 c2
    refine wp_aload_n 0 dX9_leaveOut_12 rfl rfl ?_
    obtain ⟨i5, hb⟩ := hb
    refine wp_getR dX9_leaveOut_13 fl_X9_57 i1 (i5.ne (by decide)) ?_
    refine wp_iload_n 2 dX9_leaveOut_16 rfl rfl ?_
    refine wp_aload_n 0 dX9_leaveOut_17 rfl rfl ?_
    obtain ⟨i6, hb⟩ := hb
    refine wp_getR dX9_leaveOut_18 fl_X9_57 i1 (i6.ne (by decide)) ?_
    refine wp_iload_n 2 dX9_leaveOut_21 rfl rfl ?_
    refine wp_iconst (v := 1) dX9_leaveOut_22 (by decide) ?_
    refine wp_iadd dX9_leaveOut_23 ?_
    obtain ⟨b7, hb⟩ := hb
    refine wp_iaload dX9_leaveOut_24 i6 b7 ?_
    obtain ⟨b8, hb⟩ := hb
    refine wp_iastore dX9_leaveOut_25 i5 b8 ?_
    refine wp_topH (fun h9 e10 => ?_)
    have hb := hb h9 e10
    refine wp_aload_n 0 dX9_leaveOut_26 rfl rfl ?_
    obtain ⟨i11, hb⟩ := hb
    refine wp_getR dX9_leaveOut_27 fl_X9_63 i1 (i11.ne (by decide)) ?_
    refine wp_iload_n 2 dX9_leaveOut_30 rfl rfl ?_
    refine wp_iconst (v := 1) dX9_leaveOut_31 (by decide) ?_
    refine wp_iadd dX9_leaveOut_32 ?_
    obtain ⟨i12, hb⟩ := hb
    refine wp_aload_n 1 dX9_leaveOut_33 rfl rfl ?_
    refine wp_aload_n 0 dX9_leaveOut_34 rfl rfl ?_
    obtain ⟨i13, hb⟩ := hb
    refine wp_getR dX9_leaveOut_35 fl_X9_63 i1 (i13.ne (by decide)) ?_
    refine wp_iload_n 2 dX9_leaveOut_38 rfl rfl ?_
    obtain ⟨b14, hb⟩ := hb
    refine wp_laload dX9_leaveOut_39 i13 b14 ?_
    refine wp_aload_n 0 dX9_leaveOut_40 rfl rfl ?_
    obtain ⟨i15, hb⟩ := hb
    refine wp_getR dX9_leaveOut_41 fl_X9_57 i1 (i15.ne (by decide)) ?_
    refine wp_iload_n 2 dX9_leaveOut_44 rfl rfl ?_
    obtain ⟨b16, hb⟩ := hb
    refine wp_iaload dX9_leaveOut_45 i15 b16 ?_
    refine wp_callVN (as := [.long (h9.2.1 (h9.2.2 x0 10) x3.toNatClampNeg), .int (h9.1 (h9.2.2 x0 8) x3.toNatClampNeg)]) dX9_leaveOut_46 cb_X0_tryAct lk_X9_275 im_X0_tryAct se_X0_tryAct rfl (Nat.le_of_ble_eq_true rfl) ⟨by decide, by decide⟩ ⟨Nat.le_refl _, Nat.le_refl _, Nat.le_refl _⟩ i12 rfl (by decide) hb (fun r0 h18 hb => ?_)
    obtain ⟨r19, rfl, hb⟩ := hb
    obtain ⟨b20, hb⟩ := hb
    refine wp_lastore dX9_leaveOut_49 i11 b20 ?_
    refine wp_topH (fun h21 e22 => ?_)
    have hb := hb h21 e22
    obtain ⟨v23, e24⟩ : ∃ y : Int32, y = x3 + (1) := ⟨_, rfl⟩
    have hb := hb v23 e24
    refine wp_iinc (v := v23) (lv2 := [(3, .int v23), (0, .ref x0), (1, .ref x1)]) 2 dX9_leaveOut_50 rfl (by rw [e24]; rfl) (by decide) rfl ?_
    refine wp_goto (tgt := 2) dX9_leaveOut_53 (by decide) ?_
    exact wp_sub [1, 2, 0] rfl hb
theorem c_X9_leaveOut {l : Launch} {g : AG} {h : AH} {x0 : Nat} {x1 : Nat} {x2 : Int32}  {Q : AH → Prop} (hb : L_X9_leaveOut_0 l g h x0 x1 x2  Q) : C_X9_leaveOut l g h x0 x1 x2  Q := ax_met rfl rfl (Nat.le_of_ble_eq_true rfl) hb
def C_X9_shorter (l : Launch) (g : AG) (h : AH) (x0 : Nat) (x1 : Int32)  (Q : Int32 → AH → Prop) : Prop := Ct l g mX9_shorter 6 150 194 194 h [.ref x0, .int x1] (ax_QI Q)
def L_X9_shorter_0 (l : Launch) (g : AG) (h : AH) (x0 : Nat) (x1 : Int32)  (Q : Int32 → AH → Prop) : Prop := Wp l g mX9_shorter 6 150 194 194 194 0 [(0, .ref x0), (1, .int x1)] [] h (FM g 194 194 (ax_QI Q))
def L_X9_shorter_60 (l : Launch) (g : AG) (h : AH) (x0 : Nat) (x2 : Nat) (x4 : Int32) (x5 : Int32) (x6 : Int32)  (Q : Int32 → AH → Prop) : Prop := Wp l g mX9_shorter 6 150 194 194 194 60 [(0, .ref x0), (2, .ref x2), (4, .int x4), (5, .int x5), (6, .int x6)] [] h (FM g 194 194 (ax_QI Q))
def L_X9_shorter_84 (l : Launch) (g : AG) (h : AH) (x0 : Nat) (x2 : Nat) (x4 : Int32) (x5 : Int32) (x6 : Int32) (x7 : Int32)  (Q : Int32 → AH → Prop) : Prop := Wp l g mX9_shorter 6 150 194 194 194 84 [(0, .ref x0), (2, .ref x2), (4, .int x4), (5, .int x5), (6, .int x6), (7, .int x7)] [] h (FM g 194 194 (ax_QI Q))
set_option maxRecDepth 100000 in
set_option maxHeartbeats 4000000 in
theorem s_X9_shorter_0 {l : Launch} {g : AG} {h : AH} {x0 : Nat} {x1 : Int32}  {Q : Int32 → AH → Prop} (hb : (Is 194 x0 8) ∧ ( C_X9_has l g h x0 x1 (fun r4 h3 => ( ((¬ r4 = 0 → ((Is 194 (h3.2.2 x0 2) 24) ∧ ( (vp_in x1 (ax_s (h3.2.2 x0 2)).2) ∧ ( (Is 194 (h3.2.2 (h3.2.2 x0 2) x1.toNatClampNeg) 0) ∧ ( ∀ v9 : Nat, v9 = (h3.2.2 (h3.2.2 x0 2) x1.toNatClampNeg) → ( C_X9_actsToFault l g h3 x0 v9 (fun r14 h13 => ( (Is 194 (h13.2.2 x0 10) 21) ∧ ( (vp_in r14 (ax_s (h13.2.2 x0 10)).2) ∧ ( C_X3_faultOf l g h13 (h13.2.1 (h13.2.2 x0 10) r14.toNatClampNeg) (fun r19 h18 => ( ((¬ r19 = 0 → (∀ h21 : AH, h21 = ax_setI h18 x0 9 r14 → ( L_X9_shorter_60 l g h21 x0 v9 r19 1 0  Q))) ∧ (r19 = 0 → (C_X9_refused l g h18 x0 4 (fun r25 h24 => ( Q r25 h24))))))))))))))))) ∧ (r4 = 0 → (C_X9_refused l g h3 x0 1 (fun r28 h27 => ( Q r28 h27))))))))) : L_X9_shorter_0 l g h x0 x1  Q := by
  obtain ⟨i1, hb⟩ := hb
  refine wp_aload_n 0 dX9_shorter_0 rfl rfl ?_
  refine wp_iload_n 1 dX9_shorter_1 rfl rfl ?_
  refine wp_callV (as := [.int x1]) dX9_shorter_2 cb_X9_has lk_X9_106 im_X9_has se_X9_has rfl (Nat.le_of_ble_eq_true rfl) ⟨by decide, by decide⟩ ⟨Nat.le_refl _, Nat.le_refl _, Nat.le_refl _⟩ i1 rfl (by decide) hb (fun r0 h3 hb => ?_)
  obtain ⟨r4, rfl, hb⟩ := hb
  refine wp_if_ne (tgt := 14) dX9_shorter_5 (by decide) (fun c5 => ?_) (fun c5 => ?_)
  · have hb := hb.1 c5
    refine wp_aload_n 0 dX9_shorter_14 rfl rfl ?_
    obtain ⟨i6, hb⟩ := hb
    refine wp_getR dX9_shorter_15 fl_X9_20 i1 (i6.ne (by decide)) ?_
    refine wp_iload_n 1 dX9_shorter_18 rfl rfl ?_
    obtain ⟨b7, hb⟩ := hb
    obtain ⟨i8, hb⟩ := hb
    refine wp_aaload24 dX9_shorter_19 i6 b7 (i8.ne (by decide)) ?_
    refine wp_topr (fun v9 e10 => ?_)
    have hb := hb v9 e10
    have i11 : Is 194 v9 0 := by rw [e10]; exact i8
    refine wp_astore_n (lv2 := [(2, .ref v9), (0, .ref x0), (1, .int x1)]) dX9_shorter_20 rfl (by decide) rfl ?_
    refine wp_aload_n 1 dX9_shorter_21 rfl rfl ?_
    refine wp_aload_n 0 dX9_shorter_22 rfl rfl ?_
    refine wp_callV (as := [.ref v9]) dX9_shorter_23 cb_X9_actsToFault lk_X9_241 im_X9_actsToFault se_X9_actsToFault rfl (Nat.le_of_ble_eq_true rfl) ⟨by decide, by decide⟩ ⟨Nat.le_refl _, Nat.le_refl _, Nat.le_refl _⟩ i1 rfl (by decide) hb (fun r0 h13 hb => ?_)
    obtain ⟨r14, rfl, hb⟩ := hb
    refine wp_istore_n (lv2 := [(3, .int r14), (2, .ref v9), (0, .ref x0), (1, .int x1)]) dX9_shorter_26 rfl (by decide) rfl ?_
    refine wp_aload_n 2 dX9_shorter_27 rfl rfl ?_
    obtain ⟨i15, hb⟩ := hb
    refine wp_getR dX9_shorter_28 fl_X9_63 i1 (i15.ne (by decide)) ?_
    refine wp_iload_n 0 dX9_shorter_31 rfl rfl ?_
    obtain ⟨b16, hb⟩ := hb
    refine wp_laload dX9_shorter_32 i15 b16 ?_
    refine wp_callSN (as := [.long (h13.2.1 (h13.2.2 x0 10) r14.toNatClampNeg)]) dX9_shorter_33 cb_X3_faultOf lk_X9_152 st_X3_faultOf rfl (Nat.le_of_ble_eq_true rfl) ⟨by decide, by decide⟩ ⟨Nat.le_refl _, Nat.le_refl _, Nat.le_refl _⟩ hb (fun r0 h18 hb => ?_)
    obtain ⟨r19, rfl, hb⟩ := hb
    refine wp_istore (lv2 := [(4, .int r19), (3, .int r14), (2, .ref v9), (0, .ref x0), (1, .int x1)]) dX9_shorter_36 (by decide) rfl ?_
    refine wp_iload 0 dX9_shorter_38 rfl ?_
    refine wp_if_ne (tgt := 49) dX9_shorter_40 (by decide) (fun c20 => ?_) (fun c20 => ?_)
    · have hb := hb.1 c20
      refine wp_aload_n 3 dX9_shorter_49 rfl rfl ?_
      refine wp_iload_n 1 dX9_shorter_50 rfl rfl ?_
      refine wp_putI dX9_shorter_51 fl_X9_60 (Or.inl rfl) i1 ?_
      refine wp_topH (fun h21 e22 => ?_)
      have hb := hb h21 e22
      refine wp_iconst (v := 1) dX9_shorter_54 (by decide) ?_
      refine wp_istore (lv2 := [(5, .int 1), (4, .int r19), (3, .int r14), (2, .ref v9), (0, .ref x0), (1, .int x1)]) dX9_shorter_55 (by decide) rfl ?_
      refine wp_iconst (v := 0) dX9_shorter_57 (by decide) ?_
      refine wp_istore (lv2 := [(6, .int 0), (5, .int 1), (4, .int r19), (3, .int r14), (2, .ref v9), (0, .ref x0), (1, .int x1)]) dX9_shorter_58 (by decide) rfl ?_
      exact wp_sub [5, 4, 2, 1, 0] rfl hb
    · have hb := hb.2 c20
      refine wp_aload_n 3 dX9_shorter_43 rfl rfl ?_
      refine wp_iconst (v := 4) dX9_shorter_44 (by decide) ?_
      refine wp_callV (as := [.int 4]) dX9_shorter_45 cb_X9_refused lk_X9_76 im_X9_refused se_X9_refused rfl (Nat.le_of_ble_eq_true rfl) ⟨by decide, by decide⟩ ⟨Nat.le_refl _, Nat.le_refl _, Nat.le_refl _⟩ i1 rfl (by decide) hb (fun r0 h24 hb => ?_)
      obtain ⟨r25, rfl, hb⟩ := hb
      exact wp_iret rfl dX9_shorter_48 ⟨_, rfl, hb⟩
  · have hb := hb.2 c5
    refine wp_aload_n 0 dX9_shorter_8 rfl rfl ?_
    refine wp_iconst (v := 1) dX9_shorter_9 (by decide) ?_
    refine wp_callV (as := [.int 1]) dX9_shorter_10 cb_X9_refused lk_X9_76 im_X9_refused se_X9_refused rfl (Nat.le_of_ble_eq_true rfl) ⟨by decide, by decide⟩ ⟨Nat.le_refl _, Nat.le_refl _, Nat.le_refl _⟩ i1 rfl (by decide) hb (fun r0 h27 hb => ?_)
    obtain ⟨r28, rfl, hb⟩ := hb
    exact wp_iret rfl dX9_shorter_13 ⟨_, rfl, hb⟩
set_option maxRecDepth 100000 in
set_option maxHeartbeats 4000000 in
theorem s_X9_shorter_60 {l : Launch} {g : AG} {h : AH} {x0 : Nat} {x2 : Nat} {x4 : Int32} {x5 : Int32} {x6 : Int32}  {Q : Int32 → AH → Prop} (hb : ((x5 = 0 → ((Is 194 x0 8) ∧ ( C_X9_granted l g h x0 (h.1 x0 9) (fun r33 h32 => ( Q r33 h32))))) ∧ (¬ (x5 = 0) → (((400 < x6 → ((Is 194 x0 8) ∧ ( C_X9_granted l g h x0 (h.1 x0 9) (fun r38 h37 => ( Q r38 h37))))) ∧ (¬ (400 < x6) → ((Is 194 x0 8) ∧ ( ∀ v40 : Int32, v40 = ((h.1 x0 9) - 1) → ( L_X9_shorter_84 l g h x0 x2 x4 0 x6 v40  Q))))))))) : L_X9_shorter_60 l g h x0 x2 x4 x5 x6  Q := by
  refine wp_iload 3 dX9_shorter_60 rfl ?_
  refine wp_if_eq (tgt := 123) dX9_shorter_62 (by decide) (fun c29 => ?_) (fun c29 => ?_)
  · have hb := hb.1 c29
    obtain ⟨i30, hb⟩ := hb
    refine wp_aload_n 0 dX9_shorter_123 rfl rfl ?_
    refine wp_aload_n 0 dX9_shorter_124 rfl rfl ?_
    refine wp_getI dX9_shorter_125 fl_X9_60 i30 ?_
    refine wp_callV (as := [.int (h.1 x0 9)]) dX9_shorter_128 cb_X9_granted lk_X9_97 im_X9_granted se_X9_granted rfl (Nat.le_of_ble_eq_true rfl) ⟨by decide, by decide⟩ ⟨Nat.le_refl _, Nat.le_refl _, Nat.le_refl _⟩ i30 rfl (by decide) hb (fun r0 h32 hb => ?_)
    obtain ⟨r33, rfl, hb⟩ := hb
    exact wp_iret rfl dX9_shorter_131 ⟨_, rfl, hb⟩
  · have hb := hb.2 c29
    refine wp_iload 4 dX9_shorter_65 rfl ?_
    refine wp_sipush (v := 400) dX9_shorter_67 (by decide) ?_
    refine wp_icmp_gt (tgt := 123) dX9_shorter_70 (by decide) (fun c34 => ?_) (fun c34 => ?_)
    · have hb := hb.1 c34
      obtain ⟨i35, hb⟩ := hb
      refine wp_aload_n 0 dX9_shorter_123 rfl rfl ?_
      refine wp_aload_n 0 dX9_shorter_124 rfl rfl ?_
      refine wp_getI dX9_shorter_125 fl_X9_60 i35 ?_
      refine wp_callV (as := [.int (h.1 x0 9)]) dX9_shorter_128 cb_X9_granted lk_X9_97 im_X9_granted se_X9_granted rfl (Nat.le_of_ble_eq_true rfl) ⟨by decide, by decide⟩ ⟨Nat.le_refl _, Nat.le_refl _, Nat.le_refl _⟩ i35 rfl (by decide) hb (fun r0 h37 hb => ?_)
      obtain ⟨r38, rfl, hb⟩ := hb
      exact wp_iret rfl dX9_shorter_131 ⟨_, rfl, hb⟩
    · have hb := hb.2 c34
      refine wp_iconst (v := 0) dX9_shorter_73 (by decide) ?_
      refine wp_istore (lv2 := [(5, .int 0), (0, .ref x0), (2, .ref x2), (4, .int x4), (6, .int x6)]) dX9_shorter_74 (by decide) rfl ?_
      obtain ⟨i39, hb⟩ := hb
      refine wp_aload_n 1 dX9_shorter_76 rfl rfl ?_
      refine wp_getI dX9_shorter_77 fl_X9_60 i39 ?_
      refine wp_iconst (v := 1) dX9_shorter_80 (by decide) ?_
      refine wp_isub dX9_shorter_81 ?_
      refine wp_topi (fun v40 e41 => ?_)
      have hb := hb v40 e41
      refine wp_istore (lv2 := [(7, .int v40), (5, .int 0), (0, .ref x0), (2, .ref x2), (4, .int x4), (6, .int x6)]) dX9_shorter_82 (by decide) rfl ?_
      exact wp_sub [2, 3, 4, 1, 5, 0] rfl hb
set_option maxRecDepth 100000 in
set_option maxHeartbeats 4000000 in
theorem s_X9_shorter_84 {l : Launch} {g : AG} {h : AH} {x0 : Nat} {x2 : Nat} {x4 : Int32} {x5 : Int32} {x6 : Int32} {x7 : Int32}  {Q : Int32 → AH → Prop} (hb : ((x7 < 0 → (∀ v43 : Int32, v43 = x6 + (1) → ( L_X9_shorter_60 l g h x0 x2 x4 x5 v43  Q))) ∧ (¬ (x7 < 0) → ((Is 194 x0 8) ∧ ( (Is 194 x2 0) ∧ ( C_X9_comesWithout l g h x0 x2 x7 x4 (fun r49 h48 => ( ((r49 = 0 → (∀ v51 : Int32, v51 = x7 + (-1) → ( L_X9_shorter_84 l g h48 x0 x2 x4 x5 x6 v51  Q))) ∧ (¬ (r49 = 0) → (C_X9_leaveOut l g h48 x0 x2 x7 (fun h54 => ( ∀ v55 : Int32, v55 = x7 + (-1) → ( L_X9_shorter_84 l g h54 x0 x2 x4 1 x6 v55  Q)))))))))))))) : L_X9_shorter_84 l g h x0 x2 x4 x5 x6 x7  Q := by
  refine wp_iload 5 dX9_shorter_84 rfl ?_
  refine wp_if_lt (tgt := 117) dX9_shorter_86 (by decide) (fun c42 => ?_) (fun c42 => ?_)
  · have hb := hb.1 c42
    obtain ⟨v43, e44⟩ : ∃ y : Int32, y = x6 + (1) := ⟨_, rfl⟩
    have hb := hb v43 e44
    refine wp_iinc (v := v43) (lv2 := [(6, .int v43), (0, .ref x0), (2, .ref x2), (4, .int x4), (5, .int x5), (7, .int x7)]) 4 dX9_shorter_117 rfl (by rw [e44]; rfl) (by decide) rfl ?_
    refine wp_goto (tgt := 60) dX9_shorter_120 (by decide) ?_
    exact wp_sub [1, 2, 3, 4, 0] rfl hb
  · have hb := hb.2 c42
    obtain ⟨i45, hb⟩ := hb
    refine wp_aload_n 0 dX9_shorter_89 rfl rfl ?_
    obtain ⟨i46, hb⟩ := hb
    refine wp_aload_n 1 dX9_shorter_90 rfl rfl ?_
    refine wp_iload 5 dX9_shorter_91 rfl ?_
    refine wp_iload 2 dX9_shorter_93 rfl ?_
    refine wp_callV (as := [.ref x2, .int x7, .int x4]) dX9_shorter_95 cb_X9_comesWithout lk_X9_245 im_X9_comesWithout se_X9_comesWithout rfl (Nat.le_of_ble_eq_true rfl) ⟨by decide, by decide⟩ ⟨Nat.le_refl _, Nat.le_refl _, Nat.le_refl _⟩ i45 rfl (by decide) hb (fun r0 h48 hb => ?_)
    obtain ⟨r49, rfl, hb⟩ := hb
    refine wp_if_eq (tgt := 111) dX9_shorter_98 (by decide) (fun c50 => ?_) (fun c50 => ?_)
    · have hb := hb.1 c50
      obtain ⟨v51, e52⟩ : ∃ y : Int32, y = x7 + (-1) := ⟨_, rfl⟩
      have hb := hb v51 e52
      refine wp_iinc (v := v51) (lv2 := [(7, .int v51), (0, .ref x0), (2, .ref x2), (4, .int x4), (5, .int x5), (6, .int x6)]) 5 dX9_shorter_111 rfl (by rw [e52]; rfl) (by decide) rfl ?_
      refine wp_goto (tgt := 84) dX9_shorter_114 (by decide) ?_
      exact wp_sub [1, 2, 3, 4, 5, 0] rfl hb
    · have hb := hb.2 c50
      refine wp_aload_n 0 dX9_shorter_101 rfl rfl ?_
      refine wp_aload_n 1 dX9_shorter_102 rfl rfl ?_
      refine wp_iload 5 dX9_shorter_103 rfl ?_
      refine wp_callV (as := [.ref x2, .int x7]) dX9_shorter_105 cb_X9_leaveOut lk_X9_249 im_X9_leaveOut se_X9_leaveOut rfl (Nat.le_of_ble_eq_true rfl) ⟨by decide, by decide⟩ ⟨Nat.le_refl _, Nat.le_refl _, Nat.le_refl _⟩ i45 rfl (by decide) hb (fun r0 h54 hb => ?_)
      obtain ⟨rfl, hb⟩ := hb
      refine wp_iconst (v := 1) dX9_shorter_108 (by decide) ?_
      refine wp_istore (lv2 := [(5, .int 1), (0, .ref x0), (2, .ref x2), (4, .int x4), (6, .int x6), (7, .int x7)]) dX9_shorter_109 (by decide) rfl ?_
      obtain ⟨v55, e56⟩ : ∃ y : Int32, y = x7 + (-1) := ⟨_, rfl⟩
      have hb := hb v55 e56
      refine wp_iinc (v := v55) (lv2 := [(7, .int v55), (5, .int 1), (0, .ref x0), (2, .ref x2), (4, .int x4), (6, .int x6)]) 5 dX9_shorter_111 rfl (by rw [e56]; rfl) (by decide) rfl ?_
      refine wp_goto (tgt := 84) dX9_shorter_114 (by decide) ?_
      exact wp_sub [2, 3, 4, 1, 5, 0] rfl hb
theorem c_X9_shorter {l : Launch} {g : AG} {h : AH} {x0 : Nat} {x1 : Int32}  {Q : Int32 → AH → Prop} (hb : L_X9_shorter_0 l g h x0 x1  Q) : C_X9_shorter l g h x0 x1  Q := ax_met rfl rfl (Nat.le_of_ble_eq_true rfl) hb
def C_X2_numbersUnlike (l : Launch) (g : AG) (h : AH) (x0 : Nat) (x1 : Int64) (x3 : Int32) (x4 : Int64) (x6 : Int32)  (Q : Int32 → AH → Prop) : Prop := Ct l g mX2_numbersUnlike 2 46 194 194 h [.ref x0, .long x1, .int x3, .long x4, .int x6] (ax_QI Q)
def L_X2_numbersUnlike_0 (l : Launch) (g : AG) (h : AH) (x0 : Nat) (x1 : Int64) (x3 : Int32) (x4 : Int64) (x6 : Int32)  (Q : Int32 → AH → Prop) : Prop := Wp l g mX2_numbersUnlike 2 46 194 194 194 0 [(0, .ref x0), (1, .long x1), (3, .int x3), (4, .long x4), (6, .int x6)] [] h (FM g 194 194 (ax_QI Q))
def L_X2_numbersUnlike_31 (l : Launch) (g : AG) (h : AH) (x0 : Nat) (x1 : Int64) (x3 : Int32) (x4 : Int64) (x6 : Int32) (x7 : Int32) (x8 : Int32)  (Q : Int32 → AH → Prop) : Prop := Wp l g mX2_numbersUnlike 2 46 194 194 194 31 [(0, .ref x0), (1, .long x1), (3, .int x3), (4, .long x4), (6, .int x6), (7, .int x7), (8, .int x8)] [] h (FM g 194 194 (ax_QI Q))
set_option maxRecDepth 100000 in
set_option maxHeartbeats 4000000 in
theorem s_X2_numbersUnlike_0 {l : Launch} {g : AG} {h : AH} {x0 : Nat} {x1 : Int64} {x3 : Int32} {x4 : Int64} {x6 : Int32}  {Q : Int32 → AH → Prop} (hb : (Is 194 x0 2) ∧ ( (Is 194 (h.2.2 x0 0) 0) ∧ ( (Is 194 (h.2.2 (h.2.2 x0 0) 11) 20) ∧ ( (vp_in x3 (ax_s (h.2.2 (h.2.2 x0 0) 11)).2) ∧ ( ∀ v5 : Int32, v5 = (h.1 (h.2.2 (h.2.2 x0 0) 11) x3.toNatClampNeg) → ( (Is 194 (h.2.2 x0 1) 0) ∧ ( (Is 194 (h.2.2 (h.2.2 x0 1) 11) 20) ∧ ( (vp_in x6 (ax_s (h.2.2 (h.2.2 x0 1) 11)).2) ∧ ( ((v5 = h.1 (h.2.2 (h.2.2 x0 1) 11) x6.toNatClampNeg → (L_X2_numbersUnlike_31 l g h x0 x1 x3 x4 x6 v5 0  Q)) ∧ (¬ (v5 = h.1 (h.2.2 (h.2.2 x0 1) 11) x6.toNatClampNeg) → (Q 1 h)))))))))))) : L_X2_numbersUnlike_0 l g h x0 x1 x3 x4 x6  Q := by
  obtain ⟨i1, hb⟩ := hb
  refine wp_aload_n 0 dX2_numbersUnlike_0 rfl rfl ?_
  obtain ⟨i2, hb⟩ := hb
  refine wp_getR dX2_numbersUnlike_1 fl_X2_29 i1 (i2.ne (by decide)) ?_
  obtain ⟨i3, hb⟩ := hb
  refine wp_getR dX2_numbersUnlike_4 fl_X2_117 i2 (i3.ne (by decide)) ?_
  refine wp_iload_n 2 dX2_numbersUnlike_7 rfl rfl ?_
  obtain ⟨b4, hb⟩ := hb
  refine wp_iaload dX2_numbersUnlike_8 i3 b4 ?_
  refine wp_topi (fun v5 e6 => ?_)
  have hb := hb v5 e6
  refine wp_istore (lv2 := [(7, .int v5), (0, .ref x0), (1, .long x1), (3, .int x3), (4, .long x4), (6, .int x6)]) dX2_numbersUnlike_9 (by decide) rfl ?_
  refine wp_iload 0 dX2_numbersUnlike_11 rfl ?_
  refine wp_aload_n 1 dX2_numbersUnlike_13 rfl rfl ?_
  obtain ⟨i7, hb⟩ := hb
  refine wp_getR dX2_numbersUnlike_14 fl_X2_33 i1 (i7.ne (by decide)) ?_
  obtain ⟨i8, hb⟩ := hb
  refine wp_getR dX2_numbersUnlike_17 fl_X2_117 i7 (i8.ne (by decide)) ?_
  refine wp_iload 5 dX2_numbersUnlike_20 rfl ?_
  obtain ⟨b9, hb⟩ := hb
  refine wp_iaload dX2_numbersUnlike_22 i8 b9 ?_
  refine wp_icmp_eq (tgt := 28) dX2_numbersUnlike_23 (by decide) (fun c10 => ?_) (fun c10 => ?_)
  · have hb := hb.1 c10
    refine wp_iconst (v := 0) dX2_numbersUnlike_28 (by decide) ?_
    refine wp_istore (lv2 := [(8, .int 0), (7, .int v5), (0, .ref x0), (1, .long x1), (3, .int x3), (4, .long x4), (6, .int x6)]) dX2_numbersUnlike_29 (by decide) rfl ?_
    exact wp_sub [2, 3, 4, 5, 6, 1, 0] rfl hb
  · have hb := hb.2 c10
    refine wp_iconst (v := 1) dX2_numbersUnlike_26 (by decide) ?_
    exact wp_zret rfl dX2_numbersUnlike_27 (Or.inr rfl) ⟨_, rfl, hb⟩
set_option maxRecDepth 100000 in
set_option maxHeartbeats 4000000 in
theorem s_X2_numbersUnlike_31 {l : Launch} {g : AG} {h : AH} {x0 : Nat} {x1 : Int64} {x3 : Int32} {x4 : Int64} {x6 : Int32} {x7 : Int32} {x8 : Int32}  {Q : Int32 → AH → Prop} (hb : ((x7 ≤ x8 → (Q 0 h)) ∧ (¬ (x7 ≤ x8) → ((Is 194 x0 2) ∧ ( (Is 194 (h.2.2 x0 0) 0) ∧ ( C_X0_shownIn l g h (h.2.2 x0 0) x1 x3 x8 (fun r16 h15 => ( (Is 194 (h15.2.2 x0 1) 0) ∧ ( C_X0_shownIn l g h15 (h15.2.2 x0 1) x4 x6 x8 (fun r20 h19 => ( ((r16 = r20 → (∀ v22 : Int32, v22 = x8 + (1) → ( L_X2_numbersUnlike_31 l g h19 x0 x1 x3 x4 x6 x7 v22  Q))) ∧ (¬ (r16 = r20) → (Q 1 h19)))))))))))))) : L_X2_numbersUnlike_31 l g h x0 x1 x3 x4 x6 x7 x8  Q := by
  refine wp_iload 6 dX2_numbersUnlike_31 rfl ?_
  refine wp_iload 5 dX2_numbersUnlike_33 rfl ?_
  refine wp_icmp_ge (tgt := 73) dX2_numbersUnlike_35 (by decide) (fun c11 => ?_) (fun c11 => ?_)
  · have hb := hb.1 c11
    refine wp_iconst (v := 0) dX2_numbersUnlike_73 (by decide) ?_
    exact wp_zret rfl dX2_numbersUnlike_74 (Or.inl rfl) ⟨_, rfl, hb⟩
  · have hb := hb.2 c11
    obtain ⟨i12, hb⟩ := hb
    refine wp_aload_n 0 dX2_numbersUnlike_38 rfl rfl ?_
    obtain ⟨i13, hb⟩ := hb
    refine wp_getR dX2_numbersUnlike_39 fl_X2_29 i12 (i13.ne (by decide)) ?_
    refine wp_lload_n 1 dX2_numbersUnlike_42 rfl rfl ?_
    refine wp_iload_n 2 dX2_numbersUnlike_43 rfl rfl ?_
    refine wp_iload 6 dX2_numbersUnlike_44 rfl ?_
    refine wp_callVN (as := [.long x1, .int x3, .int x8]) dX2_numbersUnlike_46 cb_X0_shownIn lk_X2_121 im_X0_shownIn se_X0_shownIn rfl (Nat.le_of_ble_eq_true rfl) ⟨by decide, by decide⟩ ⟨Nat.le_refl _, Nat.le_refl _, Nat.le_refl _⟩ i13 rfl (by decide) hb (fun r0 h15 hb => ?_)
    obtain ⟨r16, rfl, hb⟩ := hb
    refine wp_aload_n 0 dX2_numbersUnlike_49 rfl rfl ?_
    obtain ⟨i17, hb⟩ := hb
    refine wp_getR dX2_numbersUnlike_50 fl_X2_33 i12 (i17.ne (by decide)) ?_
    refine wp_lload 3 dX2_numbersUnlike_53 rfl ?_
    refine wp_iload 4 dX2_numbersUnlike_55 rfl ?_
    refine wp_iload 6 dX2_numbersUnlike_57 rfl ?_
    refine wp_callVN (as := [.long x4, .int x6, .int x8]) dX2_numbersUnlike_59 cb_X0_shownIn lk_X2_121 im_X0_shownIn se_X0_shownIn rfl (Nat.le_of_ble_eq_true rfl) ⟨by decide, by decide⟩ ⟨Nat.le_refl _, Nat.le_refl _, Nat.le_refl _⟩ i17 rfl (by decide) hb (fun r0 h19 hb => ?_)
    obtain ⟨r20, rfl, hb⟩ := hb
    refine wp_icmp_eq (tgt := 67) dX2_numbersUnlike_62 (by decide) (fun c21 => ?_) (fun c21 => ?_)
    · have hb := hb.1 c21
      obtain ⟨v22, e23⟩ : ∃ y : Int32, y = x8 + (1) := ⟨_, rfl⟩
      have hb := hb v22 e23
      refine wp_iinc (v := v22) (lv2 := [(8, .int v22), (0, .ref x0), (1, .long x1), (3, .int x3), (4, .long x4), (6, .int x6), (7, .int x7)]) 6 dX2_numbersUnlike_67 rfl (by rw [e23]; rfl) (by decide) rfl ?_
      refine wp_goto (tgt := 31) dX2_numbersUnlike_70 (by decide) ?_
      exact wp_sub [1, 2, 3, 4, 5, 6, 0] rfl hb
    · have hb := hb.2 c21
      refine wp_iconst (v := 1) dX2_numbersUnlike_65 (by decide) ?_
      exact wp_zret rfl dX2_numbersUnlike_66 (Or.inr rfl) ⟨_, rfl, hb⟩
theorem c_X2_numbersUnlike {l : Launch} {g : AG} {h : AH} {x0 : Nat} {x1 : Int64} {x3 : Int32} {x4 : Int64} {x6 : Int32}  {Q : Int32 → AH → Prop} (hb : L_X2_numbersUnlike_0 l g h x0 x1 x3 x4 x6  Q) : C_X2_numbersUnlike l g h x0 x1 x3 x4 x6  Q := ax_met rfl rfl (Nat.le_of_ble_eq_true rfl) hb
def C_X2_oneMorePressed (l : Launch) (g : AG) (h : AH) (x0 : Nat) (x1 : Int64) (x3 : Nat) (x4 : Int64)  (Q : Int32 → AH → Prop) : Prop := Ct l g mX2_oneMorePressed 2 48 194 194 h [.ref x0, .long x1, .ref x3, .long x4] (ax_QI Q)
def L_X2_oneMorePressed_0 (l : Launch) (g : AG) (h : AH) (x0 : Nat) (x1 : Int64) (x3 : Nat) (x4 : Int64)  (Q : Int32 → AH → Prop) : Prop := Wp l g mX2_oneMorePressed 2 48 194 194 194 0 [(0, .ref x0), (1, .long x1), (3, .ref x3), (4, .long x4)] [] h (FM g 194 194 (ax_QI Q))
def L_X2_oneMorePressed_36 (l : Launch) (g : AG) (h : AH) (x0 : Nat) (x1 : Int64) (x3 : Nat) (x4 : Int64) (x6 : Int32) (x7 : Int32) (x8 : Int32)  (Q : Int32 → AH → Prop) : Prop := Wp l g mX2_oneMorePressed 2 48 194 194 194 36 [(0, .ref x0), (1, .long x1), (3, .ref x3), (4, .long x4), (6, .int x6), (7, .int x7), (8, .int x8)] [] h (FM g 194 194 (ax_QI Q))
set_option maxRecDepth 100000 in
set_option maxHeartbeats 4000000 in
theorem s_X2_oneMorePressed_0 {l : Launch} {g : AG} {h : AH} {x0 : Nat} {x1 : Int64} {x3 : Nat} {x4 : Int64}  {Q : Int32 → AH → Prop} (hb : C_X3_topOf l g h x1 (fun r3 h2 => ( C_X3_topOf l g h2 x4 (fun r6 h5 => ( ((r3 = (-1) → (Q 0 h5)) ∧ (¬ (r3 = (-1)) → (((¬ r6 = (-1) → ((Is 194 x0 0) ∧ ( (Is 194 (h5.2.2 x0 14) 20) ∧ ( (vp_in r3 (ax_s (h5.2.2 x0 14)).2) ∧ ( ∀ v12 : Int32, v12 = (h5.1 (h5.2.2 x0 14) r3.toNatClampNeg) → ( L_X2_oneMorePressed_36 l g h5 x0 x1 x3 x4 r3 r6 v12  Q)))))) ∧ (r6 = (-1) → (Q 0 h5))))))))))) : L_X2_oneMorePressed_0 l g h x0 x1 x3 x4  Q := by
  refine wp_lload_n 1 dX2_oneMorePressed_0 rfl rfl ?_
  refine wp_callSN (as := [.long x1]) dX2_oneMorePressed_1 cb_X3_topOf lk_X2_90 st_X3_topOf rfl (Nat.le_of_ble_eq_true rfl) ⟨by decide, by decide⟩ ⟨Nat.le_refl _, Nat.le_refl _, Nat.le_refl _⟩ hb (fun r0 h2 hb => ?_)
  obtain ⟨r3, rfl, hb⟩ := hb
  refine wp_istore (lv2 := [(6, .int r3), (0, .ref x0), (1, .long x1), (3, .ref x3), (4, .long x4)]) dX2_oneMorePressed_4 (by decide) rfl ?_
  refine wp_lload 4 dX2_oneMorePressed_6 rfl ?_
  refine wp_callSN (as := [.long x4]) dX2_oneMorePressed_8 cb_X3_topOf lk_X2_90 st_X3_topOf rfl (Nat.le_of_ble_eq_true rfl) ⟨by decide, by decide⟩ ⟨Nat.le_refl _, Nat.le_refl _, Nat.le_refl _⟩ hb (fun r0 h5 hb => ?_)
  obtain ⟨r6, rfl, hb⟩ := hb
  refine wp_istore (lv2 := [(7, .int r6), (6, .int r3), (0, .ref x0), (1, .long x1), (3, .ref x3), (4, .long x4)]) dX2_oneMorePressed_11 (by decide) rfl ?_
  refine wp_iload 1 dX2_oneMorePressed_13 rfl ?_
  refine wp_iconst (v := (-1)) dX2_oneMorePressed_15 (by decide) ?_
  refine wp_icmp_eq (tgt := 25) dX2_oneMorePressed_16 (by decide) (fun c7 => ?_) (fun c7 => ?_)
  · have hb := hb.1 c7
    refine wp_iconst (v := 0) dX2_oneMorePressed_25 (by decide) ?_
    exact wp_zret rfl dX2_oneMorePressed_26 (Or.inl rfl) ⟨_, rfl, hb⟩
  · have hb := hb.2 c7
    refine wp_iload 0 dX2_oneMorePressed_19 rfl ?_
    refine wp_iconst (v := (-1)) dX2_oneMorePressed_21 (by decide) ?_
    refine wp_icmp_ne (tgt := 27) dX2_oneMorePressed_22 (by decide) (fun c8 => ?_) (fun c8 => ?_)
    · have hb := hb.1 c8
      obtain ⟨i9, hb⟩ := hb
      refine wp_aload_n 2 dX2_oneMorePressed_27 rfl rfl ?_
      obtain ⟨i10, hb⟩ := hb
      refine wp_getR dX2_oneMorePressed_28 fl_X2_125 i9 (i10.ne (by decide)) ?_
      refine wp_iload 1 dX2_oneMorePressed_31 rfl ?_
      obtain ⟨b11, hb⟩ := hb
      refine wp_iaload dX2_oneMorePressed_33 i10 b11 ?_
      refine wp_topi (fun v12 e13 => ?_)
      have hb := hb v12 e13
      refine wp_istore (lv2 := [(8, .int v12), (7, .int r6), (6, .int r3), (0, .ref x0), (1, .long x1), (3, .ref x3), (4, .long x4)]) dX2_oneMorePressed_34 (by decide) rfl ?_
      exact wp_sub [3, 4, 5, 6, 2, 1, 0] rfl hb
    · have hb := hb.2 c8
      refine wp_iconst (v := 0) dX2_oneMorePressed_25 (by decide) ?_
      exact wp_zret rfl dX2_oneMorePressed_26 (Or.inl rfl) ⟨_, rfl, hb⟩
set_option maxRecDepth 100000 in
set_option maxHeartbeats 4000000 in
theorem s_X2_oneMorePressed_36 {l : Launch} {g : AG} {h : AH} {x0 : Nat} {x1 : Int64} {x3 : Nat} {x4 : Int64} {x6 : Int32} {x7 : Int32} {x8 : Int32}  {Q : Int32 → AH → Prop} (hb : (Is 194 x0 0) ∧ ( (Is 194 (h.2.2 x0 15) 20) ∧ ( (vp_in x6 (ax_s (h.2.2 x0 15)).2) ∧ ( ((h.1 (h.2.2 x0 15) x6.toNatClampNeg ≤ x8 → (Q 0 h)) ∧ (¬ (h.1 (h.2.2 x0 15) x6.toNatClampNeg ≤ x8) → ((Is 194 (h.2.2 x0 17) 3) ∧ ( C_X4_hold l g h (h.2.2 x0 17) x8 x1 (fun r21 h20 => ( ((r21 = 0 → (∀ v23 : Int32, v23 = x8 + (1) → ( L_X2_oneMorePressed_36 l g h20 x0 x1 x3 x4 x6 x7 v23  Q))) ∧ (¬ (r21 = 0) → ((Is 194 x3 0) ∧ ( (Is 194 (h20.2.2 x0 9) 21) ∧ ( (vp_in x8 (ax_s (h20.2.2 x0 9)).2) ∧ ( C_X0_buttonNamed l g h20 x3 x7 (h20.2.1 (h20.2.2 x0 9) x8.toNatClampNeg) (fun r30 h29 => ( ((r30 = (-1) → (Q 1 h29)) ∧ (¬ (r30 = (-1)) → ((Is 194 (h29.2.2 x3 17) 3) ∧ ( C_X4_hold l g h29 (h29.2.2 x3 17) r30 x4 (fun r35 h34 => ( ((¬ r35 = 0 → (∀ v37 : Int32, v37 = x8 + (1) → ( L_X2_oneMorePressed_36 l g h34 x0 x1 x3 x4 x6 x7 v37  Q))) ∧ (r35 = 0 → (Q 1 h34))))))))))))))))))))))))))) : L_X2_oneMorePressed_36 l g h x0 x1 x3 x4 x6 x7 x8  Q := by
  refine wp_iload 6 dX2_oneMorePressed_36 rfl ?_
  obtain ⟨i14, hb⟩ := hb
  refine wp_aload_n 0 dX2_oneMorePressed_38 rfl rfl ?_
  obtain ⟨i15, hb⟩ := hb
  refine wp_getR dX2_oneMorePressed_39 fl_X2_128 i14 (i15.ne (by decide)) ?_
  refine wp_iload 4 dX2_oneMorePressed_42 rfl ?_
  obtain ⟨b16, hb⟩ := hb
  refine wp_iaload dX2_oneMorePressed_44 i15 b16 ?_
  refine wp_icmp_ge (tgt := 104) dX2_oneMorePressed_45 (by decide) (fun c17 => ?_) (fun c17 => ?_)
  · have hb := hb.1 c17
    refine wp_iconst (v := 0) dX2_oneMorePressed_104 (by decide) ?_
    exact wp_zret rfl dX2_oneMorePressed_105 (Or.inl rfl) ⟨_, rfl, hb⟩
  · have hb := hb.2 c17
    refine wp_aload_n 0 dX2_oneMorePressed_48 rfl rfl ?_
    obtain ⟨i18, hb⟩ := hb
    refine wp_getR dX2_oneMorePressed_49 fl_X2_131 i14 (i18.ne (by decide)) ?_
    refine wp_iload 6 dX2_oneMorePressed_52 rfl ?_
    refine wp_lload_n 1 dX2_oneMorePressed_54 rfl rfl ?_
    refine wp_callVN (as := [.int x8, .long x1]) dX2_oneMorePressed_55 cb_X4_hold lk_X2_135 im_X4_hold se_X4_hold rfl (Nat.le_of_ble_eq_true rfl) ⟨by decide, by decide⟩ ⟨Nat.le_refl _, Nat.le_refl _, Nat.le_refl _⟩ i18 rfl (by decide) hb (fun r0 h20 hb => ?_)
    obtain ⟨r21, rfl, hb⟩ := hb
    refine wp_if_eq (tgt := 98) dX2_oneMorePressed_58 (by decide) (fun c22 => ?_) (fun c22 => ?_)
    · have hb := hb.1 c22
      obtain ⟨v23, e24⟩ : ∃ y : Int32, y = x8 + (1) := ⟨_, rfl⟩
      have hb := hb v23 e24
      refine wp_iinc (v := v23) (lv2 := [(8, .int v23), (0, .ref x0), (1, .long x1), (3, .ref x3), (4, .long x4), (6, .int x6), (7, .int x7)]) 6 dX2_oneMorePressed_98 rfl (by rw [e24]; rfl) (by decide) rfl ?_
      refine wp_goto (tgt := 36) dX2_oneMorePressed_101 (by decide) ?_
      exact wp_sub [1, 2, 3, 4, 5, 6, 0] rfl hb
    · have hb := hb.2 c22
      obtain ⟨i25, hb⟩ := hb
      refine wp_aload_n 2 dX2_oneMorePressed_61 rfl rfl ?_
      refine wp_iload 5 dX2_oneMorePressed_62 rfl ?_
      refine wp_aload_n 0 dX2_oneMorePressed_64 rfl rfl ?_
      obtain ⟨i26, hb⟩ := hb
      refine wp_getR dX2_oneMorePressed_65 fl_X2_96 i14 (i26.ne (by decide)) ?_
      refine wp_iload 6 dX2_oneMorePressed_68 rfl ?_
      obtain ⟨b27, hb⟩ := hb
      refine wp_laload dX2_oneMorePressed_70 i26 b27 ?_
      refine wp_callVN (as := [.int x7, .long (h20.2.1 (h20.2.2 x0 9) x8.toNatClampNeg)]) dX2_oneMorePressed_71 cb_X0_buttonNamed lk_X2_99 im_X0_buttonNamed se_X0_buttonNamed rfl (Nat.le_of_ble_eq_true rfl) ⟨by decide, by decide⟩ ⟨Nat.le_refl _, Nat.le_refl _, Nat.le_refl _⟩ i25 rfl (by decide) hb (fun r0 h29 hb => ?_)
      obtain ⟨r30, rfl, hb⟩ := hb
      refine wp_istore (lv2 := [(9, .int r30), (0, .ref x0), (1, .long x1), (3, .ref x3), (4, .long x4), (6, .int x6), (7, .int x7), (8, .int x8)]) dX2_oneMorePressed_74 (by decide) rfl ?_
      refine wp_iload 0 dX2_oneMorePressed_76 rfl ?_
      refine wp_iconst (v := (-1)) dX2_oneMorePressed_78 (by decide) ?_
      refine wp_icmp_eq (tgt := 96) dX2_oneMorePressed_79 (by decide) (fun c31 => ?_) (fun c31 => ?_)
      · have hb := hb.1 c31
        refine wp_iconst (v := 1) dX2_oneMorePressed_96 (by decide) ?_
        exact wp_zret rfl dX2_oneMorePressed_97 (Or.inr rfl) ⟨_, rfl, hb⟩
      · have hb := hb.2 c31
        refine wp_aload_n 3 dX2_oneMorePressed_82 rfl rfl ?_
        obtain ⟨i32, hb⟩ := hb
        refine wp_getR dX2_oneMorePressed_83 fl_X2_131 i25 (i32.ne (by decide)) ?_
        refine wp_iload 0 dX2_oneMorePressed_86 rfl ?_
        refine wp_lload 4 dX2_oneMorePressed_88 rfl ?_
        refine wp_callVN (as := [.int r30, .long x4]) dX2_oneMorePressed_90 cb_X4_hold lk_X2_135 im_X4_hold se_X4_hold rfl (Nat.le_of_ble_eq_true rfl) ⟨by decide, by decide⟩ ⟨Nat.le_refl _, Nat.le_refl _, Nat.le_refl _⟩ i32 rfl (by decide) hb (fun r0 h34 hb => ?_)
        obtain ⟨r35, rfl, hb⟩ := hb
        refine wp_if_ne (tgt := 98) dX2_oneMorePressed_93 (by decide) (fun c36 => ?_) (fun c36 => ?_)
        · have hb := hb.1 c36
          obtain ⟨v37, e38⟩ : ∃ y : Int32, y = x8 + (1) := ⟨_, rfl⟩
          have hb := hb v37 e38
          refine wp_iinc (v := v37) (lv2 := [(8, .int v37), (9, .int r30), (0, .ref x0), (1, .long x1), (3, .ref x3), (4, .long x4), (6, .int x6), (7, .int x7)]) 7 dX2_oneMorePressed_98 rfl (by rw [e38]; rfl) (by decide) rfl ?_
          refine wp_goto (tgt := 36) dX2_oneMorePressed_101 (by decide) ?_
          exact wp_sub [2, 3, 4, 5, 6, 7, 0] rfl hb
        · have hb := hb.2 c36
          refine wp_iconst (v := 1) dX2_oneMorePressed_96 (by decide) ?_
          exact wp_zret rfl dX2_oneMorePressed_97 (Or.inr rfl) ⟨_, rfl, hb⟩
theorem c_X2_oneMorePressed {l : Launch} {g : AG} {h : AH} {x0 : Nat} {x1 : Int64} {x3 : Nat} {x4 : Int64}  {Q : Int32 → AH → Prop} (hb : L_X2_oneMorePressed_0 l g h x0 x1 x3 x4  Q) : C_X2_oneMorePressed l g h x0 x1 x3 x4  Q := ax_met rfl rfl (Nat.le_of_ble_eq_true rfl) hb
def C_X2_showUnlike (l : Launch) (g : AG) (h : AH) (x0 : Nat) (x1 : Int64) (x3 : Int64)  (Q : Int32 → AH → Prop) : Prop := Ct l g mX2_showUnlike 3 77 194 194 h [.ref x0, .long x1, .long x3] (ax_QI Q)
def L_X2_showUnlike_0 (l : Launch) (g : AG) (h : AH) (x0 : Nat) (x1 : Int64) (x3 : Int64)  (Q : Int32 → AH → Prop) : Prop := Wp l g mX2_showUnlike 3 77 194 194 194 0 [(0, .ref x0), (1, .long x1), (3, .long x3)] [] h (FM g 194 194 (ax_QI Q))
def L_X2_showUnlike_24 (l : Launch) (g : AG) (h : AH) (x1 : Int64) (x3 : Int64)  (Q : Int32 → AH → Prop) : Prop := Wp l g mX2_showUnlike 3 77 194 194 194 24 [(1, .long x1), (3, .long x3)] [] h (FM g 194 194 (ax_QI Q))
set_option maxRecDepth 100000 in
set_option maxHeartbeats 4000000 in
theorem s_X2_showUnlike_0 {l : Launch} {g : AG} {h : AH} {x0 : Nat} {x1 : Int64} {x3 : Int64}  {Q : Int32 → AH → Prop} (hb : C_X3_topOf l g h x1 (fun r3 h2 => ( C_X3_topOf l g h2 x3 (fun r6 h5 => ( ((r3 = (-1) → (L_X2_showUnlike_24 l g h5 x1 x3  Q)) ∧ (¬ (r3 = (-1)) → (((¬ r6 = (-1) → ((Is 194 x0 2) ∧ ( (Is 194 (h5.2.2 x0 0) 0) ∧ ( (Is 194 (h5.2.2 (h5.2.2 x0 0) 8) 21) ∧ ( (vp_in r3 (ax_s (h5.2.2 (h5.2.2 x0 0) 8)).2) ∧ ( (Is 194 (h5.2.2 x0 1) 0) ∧ ( (Is 194 (h5.2.2 (h5.2.2 x0 1) 8) 21) ∧ ( (vp_in r6 (ax_s (h5.2.2 (h5.2.2 x0 1) 8)).2) ∧ ( ((¬ lg_cmp (h5.2.1 (h5.2.2 (h5.2.2 x0 0) 8) r3.toNatClampNeg) (h5.2.1 (h5.2.2 (h5.2.2 x0 1) 8) r6.toNatClampNeg) = 0 → (Q 1 h5)) ∧ (lg_cmp (h5.2.1 (h5.2.2 (h5.2.2 x0 0) 8) r3.toNatClampNeg) (h5.2.1 (h5.2.2 (h5.2.2 x0 1) 8) r6.toNatClampNeg) = 0 → (C_X2_numbersUnlike l g h5 x0 x1 r3 x3 r6 (fun r19 h18 => ( ((¬ r19 = 0 → (Q 1 h18)) ∧ (r19 = 0 → ((Is 194 (h18.2.2 x0 0) 0) ∧ ( (Is 194 (h18.2.2 x0 1) 0) ∧ ( C_X2_oneMorePressed l g h18 (h18.2.2 x0 0) x1 (h18.2.2 x0 1) x3 (fun r25 h24 => ( ((¬ r25 = 0 → (Q 1 h24)) ∧ (r25 = 0 → ((Is 194 (h24.2.2 x0 1) 0) ∧ ( (Is 194 (h24.2.2 x0 0) 0) ∧ ( C_X2_oneMorePressed l g h24 (h24.2.2 x0 1) x3 (h24.2.2 x0 0) x1 (fun r31 h30 => ( ((r31 = 0 → (Q 0 h30)) ∧ (¬ (r31 = 0) → (Q 1 h30))))))))))))))))))))))))))))))) ∧ (r6 = (-1) → (L_X2_showUnlike_24 l g h5 x1 x3  Q))))))))))) : L_X2_showUnlike_0 l g h x0 x1 x3  Q := by
  refine wp_lload_n 1 dX2_showUnlike_0 rfl rfl ?_
  refine wp_callSN (as := [.long x1]) dX2_showUnlike_1 cb_X3_topOf lk_X2_90 st_X3_topOf rfl (Nat.le_of_ble_eq_true rfl) ⟨by decide, by decide⟩ ⟨Nat.le_refl _, Nat.le_refl _, Nat.le_refl _⟩ hb (fun r0 h2 hb => ?_)
  obtain ⟨r3, rfl, hb⟩ := hb
  refine wp_istore (lv2 := [(5, .int r3), (0, .ref x0), (1, .long x1), (3, .long x3)]) dX2_showUnlike_4 (by decide) rfl ?_
  refine wp_lload_n 3 dX2_showUnlike_6 rfl rfl ?_
  refine wp_callSN (as := [.long x3]) dX2_showUnlike_7 cb_X3_topOf lk_X2_90 st_X3_topOf rfl (Nat.le_of_ble_eq_true rfl) ⟨by decide, by decide⟩ ⟨Nat.le_refl _, Nat.le_refl _, Nat.le_refl _⟩ hb (fun r0 h5 hb => ?_)
  obtain ⟨r6, rfl, hb⟩ := hb
  refine wp_istore (lv2 := [(6, .int r6), (5, .int r3), (0, .ref x0), (1, .long x1), (3, .long x3)]) dX2_showUnlike_10 (by decide) rfl ?_
  refine wp_iload 1 dX2_showUnlike_12 rfl ?_
  refine wp_iconst (v := (-1)) dX2_showUnlike_14 (by decide) ?_
  refine wp_icmp_eq (tgt := 24) dX2_showUnlike_15 (by decide) (fun c7 => ?_) (fun c7 => ?_)
  · have hb := hb.1 c7
    exact wp_sub [3, 4] rfl hb
  · have hb := hb.2 c7
    refine wp_iload 0 dX2_showUnlike_18 rfl ?_
    refine wp_iconst (v := (-1)) dX2_showUnlike_20 (by decide) ?_
    refine wp_icmp_ne (tgt := 41) dX2_showUnlike_21 (by decide) (fun c8 => ?_) (fun c8 => ?_)
    · have hb := hb.1 c8
      obtain ⟨i9, hb⟩ := hb
      refine wp_aload_n 2 dX2_showUnlike_41 rfl rfl ?_
      obtain ⟨i10, hb⟩ := hb
      refine wp_getR dX2_showUnlike_42 fl_X2_29 i9 (i10.ne (by decide)) ?_
      obtain ⟨i11, hb⟩ := hb
      refine wp_getR dX2_showUnlike_45 fl_X2_106 i10 (i11.ne (by decide)) ?_
      refine wp_iload 1 dX2_showUnlike_48 rfl ?_
      obtain ⟨b12, hb⟩ := hb
      refine wp_laload dX2_showUnlike_50 i11 b12 ?_
      refine wp_aload_n 2 dX2_showUnlike_51 rfl rfl ?_
      obtain ⟨i13, hb⟩ := hb
      refine wp_getR dX2_showUnlike_52 fl_X2_33 i9 (i13.ne (by decide)) ?_
      obtain ⟨i14, hb⟩ := hb
      refine wp_getR dX2_showUnlike_55 fl_X2_106 i13 (i14.ne (by decide)) ?_
      refine wp_iload 0 dX2_showUnlike_58 rfl ?_
      obtain ⟨b15, hb⟩ := hb
      refine wp_laload dX2_showUnlike_60 i14 b15 ?_
      refine wp_lcmp dX2_showUnlike_61 ?_
      refine wp_if_ne (tgt := 110) dX2_showUnlike_62 (by decide) (fun c16 => ?_) (fun c16 => ?_)
      · have hb := hb.1 c16
        refine wp_iconst (v := 1) dX2_showUnlike_110 (by decide) ?_
        refine wp_goto (tgt := 115) dX2_showUnlike_111 (by decide) ?_
        exact wp_zret rfl dX2_showUnlike_115 (Or.inr rfl) ⟨_, rfl, hb⟩
      · have hb := hb.2 c16
        refine wp_aload_n 2 dX2_showUnlike_65 rfl rfl ?_
        refine wp_lload_n 3 dX2_showUnlike_66 rfl rfl ?_
        refine wp_iload 1 dX2_showUnlike_67 rfl ?_
        refine wp_lload_n 4 dX2_showUnlike_69 rfl rfl ?_
        refine wp_iload 0 dX2_showUnlike_70 rfl ?_
        refine wp_callV (as := [.long x1, .int r3, .long x3, .int r6]) dX2_showUnlike_72 cb_X2_numbersUnlike lk_X2_109 im_X2_numbersUnlike se_X2_numbersUnlike rfl (Nat.le_of_ble_eq_true rfl) ⟨by decide, by decide⟩ ⟨Nat.le_refl _, Nat.le_refl _, Nat.le_refl _⟩ i9 rfl (by decide) hb (fun r0 h18 hb => ?_)
        obtain ⟨r19, rfl, hb⟩ := hb
        refine wp_if_ne (tgt := 110) dX2_showUnlike_75 (by decide) (fun c20 => ?_) (fun c20 => ?_)
        · have hb := hb.1 c20
          refine wp_iconst (v := 1) dX2_showUnlike_110 (by decide) ?_
          refine wp_goto (tgt := 115) dX2_showUnlike_111 (by decide) ?_
          exact wp_zret rfl dX2_showUnlike_115 (Or.inr rfl) ⟨_, rfl, hb⟩
        · have hb := hb.2 c20
          refine wp_aload_n 2 dX2_showUnlike_78 rfl rfl ?_
          obtain ⟨i21, hb⟩ := hb
          refine wp_getR dX2_showUnlike_79 fl_X2_29 i9 (i21.ne (by decide)) ?_
          refine wp_lload_n 3 dX2_showUnlike_82 rfl rfl ?_
          refine wp_aload_n 2 dX2_showUnlike_83 rfl rfl ?_
          obtain ⟨i22, hb⟩ := hb
          refine wp_getR dX2_showUnlike_84 fl_X2_33 i9 (i22.ne (by decide)) ?_
          refine wp_lload_n 4 dX2_showUnlike_87 rfl rfl ?_
          refine wp_callS (as := [.ref (h18.2.2 x0 0), .long x1, .ref (h18.2.2 x0 1), .long x3]) dX2_showUnlike_88 cb_X2_oneMorePressed lk_X2_113 st_X2_oneMorePressed rfl (Nat.le_of_ble_eq_true rfl) ⟨by decide, by decide⟩ ⟨Nat.le_refl _, Nat.le_refl _, Nat.le_refl _⟩ hb (fun r0 h24 hb => ?_)
          obtain ⟨r25, rfl, hb⟩ := hb
          refine wp_if_ne (tgt := 110) dX2_showUnlike_91 (by decide) (fun c26 => ?_) (fun c26 => ?_)
          · have hb := hb.1 c26
            refine wp_iconst (v := 1) dX2_showUnlike_110 (by decide) ?_
            refine wp_goto (tgt := 115) dX2_showUnlike_111 (by decide) ?_
            exact wp_zret rfl dX2_showUnlike_115 (Or.inr rfl) ⟨_, rfl, hb⟩
          · have hb := hb.2 c26
            refine wp_aload_n 2 dX2_showUnlike_94 rfl rfl ?_
            obtain ⟨i27, hb⟩ := hb
            refine wp_getR dX2_showUnlike_95 fl_X2_33 i9 (i27.ne (by decide)) ?_
            refine wp_lload_n 4 dX2_showUnlike_98 rfl rfl ?_
            refine wp_aload_n 2 dX2_showUnlike_99 rfl rfl ?_
            obtain ⟨i28, hb⟩ := hb
            refine wp_getR dX2_showUnlike_100 fl_X2_29 i9 (i28.ne (by decide)) ?_
            refine wp_lload_n 3 dX2_showUnlike_103 rfl rfl ?_
            refine wp_callS (as := [.ref (h24.2.2 x0 1), .long x3, .ref (h24.2.2 x0 0), .long x1]) dX2_showUnlike_104 cb_X2_oneMorePressed lk_X2_113 st_X2_oneMorePressed rfl (Nat.le_of_ble_eq_true rfl) ⟨by decide, by decide⟩ ⟨Nat.le_refl _, Nat.le_refl _, Nat.le_refl _⟩ hb (fun r0 h30 hb => ?_)
            obtain ⟨r31, rfl, hb⟩ := hb
            refine wp_if_eq (tgt := 114) dX2_showUnlike_107 (by decide) (fun c32 => ?_) (fun c32 => ?_)
            · have hb := hb.1 c32
              refine wp_iconst (v := 0) dX2_showUnlike_114 (by decide) ?_
              exact wp_zret rfl dX2_showUnlike_115 (Or.inl rfl) ⟨_, rfl, hb⟩
            · have hb := hb.2 c32
              refine wp_iconst (v := 1) dX2_showUnlike_110 (by decide) ?_
              refine wp_goto (tgt := 115) dX2_showUnlike_111 (by decide) ?_
              exact wp_zret rfl dX2_showUnlike_115 (Or.inr rfl) ⟨_, rfl, hb⟩
    · have hb := hb.2 c8
      exact wp_sub [3, 4] rfl hb
set_option maxRecDepth 100000 in
set_option maxHeartbeats 4000000 in
theorem s_X2_showUnlike_24 {l : Launch} {g : AG} {h : AH} {x1 : Int64} {x3 : Int64}  {Q : Int32 → AH → Prop} (hb : C_X3_faultOf l g h x1 (fun r35 h34 => ( C_X3_faultOf l g h34 x3 (fun r38 h37 => ( ((r35 = r38 → (Q 0 h37)) ∧ (¬ (r35 = r38) → (Q 1 h37)))))))) : L_X2_showUnlike_24 l g h x1 x3  Q := by
  refine wp_lload_n 0 dX2_showUnlike_24 rfl rfl ?_
  refine wp_callSN (as := [.long x1]) dX2_showUnlike_25 cb_X3_faultOf lk_X2_103 st_X3_faultOf rfl (Nat.le_of_ble_eq_true rfl) ⟨by decide, by decide⟩ ⟨Nat.le_refl _, Nat.le_refl _, Nat.le_refl _⟩ hb (fun r0 h34 hb => ?_)
  obtain ⟨r35, rfl, hb⟩ := hb
  refine wp_lload_n 1 dX2_showUnlike_28 rfl rfl ?_
  refine wp_callSN (as := [.long x3]) dX2_showUnlike_29 cb_X3_faultOf lk_X2_103 st_X3_faultOf rfl (Nat.le_of_ble_eq_true rfl) ⟨by decide, by decide⟩ ⟨Nat.le_refl _, Nat.le_refl _, Nat.le_refl _⟩ hb (fun r0 h37 hb => ?_)
  obtain ⟨r38, rfl, hb⟩ := hb
  refine wp_icmp_eq (tgt := 39) dX2_showUnlike_32 (by decide) (fun c39 => ?_) (fun c39 => ?_)
  · have hb := hb.1 c39
    refine wp_iconst (v := 0) dX2_showUnlike_39 (by decide) ?_
    exact wp_zret rfl dX2_showUnlike_40 (Or.inl rfl) ⟨_, rfl, hb⟩
  · have hb := hb.2 c39
    refine wp_iconst (v := 1) dX2_showUnlike_35 (by decide) ?_
    refine wp_goto (tgt := 40) dX2_showUnlike_36 (by decide) ?_
    exact wp_zret rfl dX2_showUnlike_40 (Or.inr rfl) ⟨_, rfl, hb⟩
theorem c_X2_showUnlike {l : Launch} {g : AG} {h : AH} {x0 : Nat} {x1 : Int64} {x3 : Int64}  {Q : Int32 → AH → Prop} (hb : L_X2_showUnlike_0 l g h x0 x1 x3  Q) : C_X2_showUnlike l g h x0 x1 x3  Q := ax_met rfl rfl (Nat.le_of_ble_eq_true rfl) hb
