def C_X2_lookAt (l : Launch) (g : AG) (h : AH) (x0 : Nat) (x1 : Int32)  (Q : AH → Prop) : Prop := Ct l g mX2_lookAt 4 103 194 194 h [.ref x0, .int x1] (ax_QV Q)
def L_X2_lookAt_0 (l : Launch) (g : AG) (h : AH) (x0 : Nat) (x1 : Int32)  (Q : AH → Prop) : Prop := Wp l g mX2_lookAt 4 103 194 194 194 0 [(0, .ref x0), (1, .int x1)] [] h (FM g 194 194 (ax_QV Q))
set_option maxRecDepth 100000 in
set_option maxHeartbeats 4000000 in
theorem s_X2_lookAt_0 {l : Launch} {g : AG} {h : AH} {x0 : Nat} {x1 : Int32}  {Q : AH → Prop} (hb : (Is 194 x0 2) ∧ ( (Is 194 (h.2.2 x0 2) 5) ∧ ( ((h.1 (h.2.2 x0 2) 0 ≤ x1 → (Q h)) ∧ (¬ (h.1 (h.2.2 x0 2) 0 ≤ x1) → ((Is 194 (h.2.2 x0 2) 5) ∧ ( (Is 194 (h.2.2 (h.2.2 x0 2) 1) 21) ∧ ( (vp_in x1 (ax_s (h.2.2 (h.2.2 x0 2) 1)).2) ∧ ( (Is 194 (h.2.2 x0 2) 5) ∧ ( (Is 194 (h.2.2 (h.2.2 x0 2) 2) 21) ∧ ( (vp_in x1 (ax_s (h.2.2 (h.2.2 x0 2) 2)).2) ∧ ( C_X2_showUnlike l g h x0 (h.2.1 (h.2.2 (h.2.2 x0 2) 1) x1.toNatClampNeg) (h.2.1 (h.2.2 (h.2.2 x0 2) 2) x1.toNatClampNeg) (fun r12 h11 => ( ((r12 = 0 → (Q h11)) ∧ (¬ (r12 = 0) → (∀ h14 : AH, h14 = ax_setI h11 x0 4 x1 → ( Q h14)))))))))))))))))) : L_X2_lookAt_0 l g h x0 x1  Q := by
  refine wp_iload_n 1 dX2_lookAt_0 rfl rfl ?_
  obtain ⟨i1, hb⟩ := hb
  refine wp_aload_n 0 dX2_lookAt_1 rfl rfl ?_
  obtain ⟨i2, hb⟩ := hb
  refine wp_getR dX2_lookAt_2 fl_X2_12 i1 (i2.ne (by decide)) ?_
  refine wp_getI dX2_lookAt_5 fl_X2_53 i2 ?_
  refine wp_icmp_ge (tgt := 41) dX2_lookAt_8 (by decide) (fun c3 => ?_) (fun c3 => ?_)
  · have hb := hb.1 c3
    exact wp_vret rfl dX2_lookAt_41 ⟨rfl, hb⟩
  · have hb := hb.2 c3
    refine wp_aload_n 0 dX2_lookAt_11 rfl rfl ?_
    refine wp_aload_n 0 dX2_lookAt_12 rfl rfl ?_
    obtain ⟨i4, hb⟩ := hb
    refine wp_getR dX2_lookAt_13 fl_X2_12 i1 (i4.ne (by decide)) ?_
    obtain ⟨i5, hb⟩ := hb
    refine wp_getR dX2_lookAt_16 fl_X2_67 i4 (i5.ne (by decide)) ?_
    refine wp_iload_n 1 dX2_lookAt_19 rfl rfl ?_
    obtain ⟨b6, hb⟩ := hb
    refine wp_laload dX2_lookAt_20 i5 b6 ?_
    refine wp_aload_n 0 dX2_lookAt_21 rfl rfl ?_
    obtain ⟨i7, hb⟩ := hb
    refine wp_getR dX2_lookAt_22 fl_X2_12 i1 (i7.ne (by decide)) ?_
    obtain ⟨i8, hb⟩ := hb
    refine wp_getR dX2_lookAt_25 fl_X2_71 i7 (i8.ne (by decide)) ?_
    refine wp_iload_n 1 dX2_lookAt_28 rfl rfl ?_
    obtain ⟨b9, hb⟩ := hb
    refine wp_laload dX2_lookAt_29 i8 b9 ?_
    refine wp_callV (as := [.long (h.2.1 (h.2.2 (h.2.2 x0 2) 1) x1.toNatClampNeg), .long (h.2.1 (h.2.2 (h.2.2 x0 2) 2) x1.toNatClampNeg)]) dX2_lookAt_30 cb_X2_showUnlike lk_X2_86 im_X2_showUnlike se_X2_showUnlike rfl (Nat.le_of_ble_eq_true rfl) ⟨by decide, by decide⟩ ⟨Nat.le_refl _, Nat.le_refl _, Nat.le_refl _⟩ i1 rfl (by decide) hb (fun r0 h11 hb => ?_)
    obtain ⟨r12, rfl, hb⟩ := hb
    refine wp_if_eq (tgt := 41) dX2_lookAt_33 (by decide) (fun c13 => ?_) (fun c13 => ?_)
    · have hb := hb.1 c13
      exact wp_vret rfl dX2_lookAt_41 ⟨rfl, hb⟩
    · have hb := hb.2 c13
      refine wp_aload_n 0 dX2_lookAt_36 rfl rfl ?_
      refine wp_iload_n 1 dX2_lookAt_37 rfl rfl ?_
      refine wp_putI dX2_lookAt_38 fl_X2_22 (Or.inl rfl) i1 ?_
      refine wp_topH (fun h14 e15 => ?_)
      have hb := hb h14 e15
      exact wp_vret rfl dX2_lookAt_41 ⟨rfl, hb⟩
theorem c_X2_lookAt {l : Launch} {g : AG} {h : AH} {x0 : Nat} {x1 : Int32}  {Q : AH → Prop} (hb : L_X2_lookAt_0 l g h x0 x1  Q) : C_X2_lookAt l g h x0 x1  Q := ax_met rfl rfl (Nat.le_of_ble_eq_true rfl) hb
def C_X2_ended (l : Launch) (g : AG) (h : AH) (x0 : Nat)  (Q : Int32 → AH → Prop) : Prop := Ct l g mX2_ended 0 0 194 194 h [.ref x0] (ax_QI Q)
def L_X2_ended_0 (l : Launch) (g : AG) (h : AH) (x0 : Nat)  (Q : Int32 → AH → Prop) : Prop := Wp l g mX2_ended 0 0 194 194 194 0 [(0, .ref x0)] [] h (FM g 194 194 (ax_QI Q))
set_option maxRecDepth 100000 in
set_option maxHeartbeats 4000000 in
theorem s_X2_ended_0 {l : Launch} {g : AG} {h : AH} {x0 : Nat}  {Q : Int32 → AH → Prop} (hb : (Is 194 x0 2) ∧ ( ((¬ h.1 x0 3 = 0 → (Q 1 h)) ∧ (h.1 x0 3 = 0 → (((h.1 x0 4 = (-1) → (Q 0 h)) ∧ (¬ (h.1 x0 4 = (-1)) → (Q 1 h)))))))) : L_X2_ended_0 l g h x0  Q := by
  obtain ⟨i1, hb⟩ := hb
  refine wp_aload_n 0 dX2_ended_0 rfl rfl ?_
  refine wp_getZ dX2_ended_1 fl_X2_18 i1 ?_
  refine wp_if_ne (tgt := 15) dX2_ended_4 (by decide) (fun c2 => ?_) (fun c2 => ?_)
  · have hb := hb.1 c2
    refine wp_iconst (v := 1) dX2_ended_15 (by decide) ?_
    refine wp_goto (tgt := 20) dX2_ended_16 (by decide) ?_
    exact wp_zret rfl dX2_ended_20 (Or.inr rfl) ⟨_, rfl, hb⟩
  · have hb := hb.2 c2
    refine wp_aload_n 0 dX2_ended_7 rfl rfl ?_
    refine wp_getI dX2_ended_8 fl_X2_22 i1 ?_
    refine wp_iconst (v := (-1)) dX2_ended_11 (by decide) ?_
    refine wp_icmp_eq (tgt := 19) dX2_ended_12 (by decide) (fun c3 => ?_) (fun c3 => ?_)
    · have hb := hb.1 c3
      refine wp_iconst (v := 0) dX2_ended_19 (by decide) ?_
      exact wp_zret rfl dX2_ended_20 (Or.inl rfl) ⟨_, rfl, hb⟩
    · have hb := hb.2 c3
      refine wp_iconst (v := 1) dX2_ended_15 (by decide) ?_
      refine wp_goto (tgt := 20) dX2_ended_16 (by decide) ?_
      exact wp_zret rfl dX2_ended_20 (Or.inr rfl) ⟨_, rfl, hb⟩
theorem c_X2_ended {l : Launch} {g : AG} {h : AH} {x0 : Nat}  {Q : Int32 → AH → Prop} (hb : L_X2_ended_0 l g h x0  Q) : C_X2_ended l g h x0  Q := ax_met rfl rfl (Nat.le_of_ble_eq_true rfl) hb
def C_X2_twin (l : Launch) (g : AG) (h : AH) (x0 : Nat) (x1 : Int32) (x2 : Nat) (x3 : Int64)  (Q : Int32 → AH → Prop) : Prop := Ct l g mX2_twin 2 48 194 194 h [.ref x0, .int x1, .ref x2, .long x3] (ax_QI Q)
def L_X2_twin_0 (l : Launch) (g : AG) (h : AH) (x0 : Nat) (x1 : Int32) (x2 : Nat) (x3 : Int64)  (Q : Int32 → AH → Prop) : Prop := Wp l g mX2_twin 2 48 194 194 194 0 [(0, .ref x0), (1, .int x1), (2, .ref x2), (3, .long x3)] [] h (FM g 194 194 (ax_QI Q))
set_option maxRecDepth 100000 in
set_option maxHeartbeats 4000000 in
theorem s_X2_twin_0 {l : Launch} {g : AG} {h : AH} {x0 : Nat} {x1 : Int32} {x2 : Nat} {x3 : Int64}  {Q : Int32 → AH → Prop} (hb : ((x1 < 24 → (C_X3_topOf l g h x3 (fun r4 h3 => ( ((¬ r4 = (-1) → ((Is 194 x2 0) ∧ ( (Is 194 x0 0) ∧ ( (Is 194 (h3.2.2 x0 9) 21) ∧ ( (vp_in x1 (ax_s (h3.2.2 x0 9)).2) ∧ ( C_X0_buttonNamed l g h3 x2 r4 (h3.2.1 (h3.2.2 x0 9) x1.toNatClampNeg) (fun r12 h11 => ( Q r12 h11)))))))) ∧ (r4 = (-1) → (Q (-1) h3))))))) ∧ (¬ (x1 < 24) → (Q x1 h)))) : L_X2_twin_0 l g h x0 x1 x2 x3  Q := by
  refine wp_iload_n 1 dX2_twin_0 rfl rfl ?_
  refine wp_bipush (v := 24) dX2_twin_1 (by decide) ?_
  refine wp_icmp_lt (tgt := 8) dX2_twin_3 (by decide) (fun c1 => ?_) (fun c1 => ?_)
  · have hb := hb.1 c1
    refine wp_lload_n 3 dX2_twin_8 rfl rfl ?_
    refine wp_callSN (as := [.long x3]) dX2_twin_9 cb_X3_topOf lk_X2_90 st_X3_topOf rfl (Nat.le_of_ble_eq_true rfl) ⟨by decide, by decide⟩ ⟨Nat.le_refl _, Nat.le_refl _, Nat.le_refl _⟩ hb (fun r0 h3 hb => ?_)
    obtain ⟨r4, rfl, hb⟩ := hb
    refine wp_istore (lv2 := [(5, .int r4), (0, .ref x0), (1, .int x1), (2, .ref x2), (3, .long x3)]) dX2_twin_12 (by decide) rfl ?_
    refine wp_iload 0 dX2_twin_14 rfl ?_
    refine wp_iconst (v := (-1)) dX2_twin_16 (by decide) ?_
    refine wp_icmp_ne (tgt := 24) dX2_twin_17 (by decide) (fun c5 => ?_) (fun c5 => ?_)
    · have hb := hb.1 c5
      obtain ⟨i6, hb⟩ := hb
      refine wp_aload_n 3 dX2_twin_24 rfl rfl ?_
      refine wp_iload 0 dX2_twin_25 rfl ?_
      obtain ⟨i7, hb⟩ := hb
      refine wp_aload_n 1 dX2_twin_27 rfl rfl ?_
      obtain ⟨i8, hb⟩ := hb
      refine wp_getR dX2_twin_28 fl_X2_96 i7 (i8.ne (by decide)) ?_
      refine wp_iload_n 2 dX2_twin_31 rfl rfl ?_
      obtain ⟨b9, hb⟩ := hb
      refine wp_laload dX2_twin_32 i8 b9 ?_
      refine wp_callVN (as := [.int r4, .long (h3.2.1 (h3.2.2 x0 9) x1.toNatClampNeg)]) dX2_twin_33 cb_X0_buttonNamed lk_X2_99 im_X0_buttonNamed se_X0_buttonNamed rfl (Nat.le_of_ble_eq_true rfl) ⟨by decide, by decide⟩ ⟨Nat.le_refl _, Nat.le_refl _, Nat.le_refl _⟩ i6 rfl (by decide) hb (fun r0 h11 hb => ?_)
      obtain ⟨r12, rfl, hb⟩ := hb
      exact wp_iret rfl dX2_twin_36 ⟨_, rfl, hb⟩
    · have hb := hb.2 c5
      refine wp_iconst (v := (-1)) dX2_twin_20 (by decide) ?_
      refine wp_goto (tgt := 36) dX2_twin_21 (by decide) ?_
      exact wp_iret rfl dX2_twin_36 ⟨_, rfl, hb⟩
  · have hb := hb.2 c1
    refine wp_iload_n 1 dX2_twin_6 rfl rfl ?_
    exact wp_iret rfl dX2_twin_7 ⟨_, rfl, hb⟩
theorem c_X2_twin {l : Launch} {g : AG} {h : AH} {x0 : Nat} {x1 : Int32} {x2 : Nat} {x3 : Int64}  {Q : Int32 → AH → Prop} (hb : L_X2_twin_0 l g h x0 x1 x2 x3  Q) : C_X2_twin l g h x0 x1 x2 x3  Q := ax_met rfl rfl (Nat.le_of_ble_eq_true rfl) hb
def C_X2_goByFirst (l : Launch) (g : AG) (h : AH) (x0 : Nat) (x1 : Int32) (x2 : Int32)  (Q : AH → Prop) : Prop := Ct l g mX2_goByFirst 4 101 194 194 h [.ref x0, .int x1, .int x2] (ax_QV Q)
def L_X2_goByFirst_0 (l : Launch) (g : AG) (h : AH) (x0 : Nat) (x1 : Int32) (x2 : Int32)  (Q : AH → Prop) : Prop := Wp l g mX2_goByFirst 4 101 194 194 194 0 [(0, .ref x0), (1, .int x1), (2, .int x2)] [] h (FM g 194 194 (ax_QV Q))
set_option maxRecDepth 100000 in
set_option maxHeartbeats 4000000 in
theorem s_X2_goByFirst_0 {l : Launch} {g : AG} {h : AH} {x0 : Nat} {x1 : Int32} {x2 : Int32}  {Q : AH → Prop} (hb : (Is 194 x0 2) ∧ ( (Is 194 (h.2.2 x0 2) 5) ∧ ( (Is 194 (h.2.2 (h.2.2 x0 2) 1) 21) ∧ ( (vp_in x1 (ax_s (h.2.2 (h.2.2 x0 2) 1)).2) ∧ ( ∀ v5 : Int64, v5 = (h.2.1 (h.2.2 (h.2.2 x0 2) 1) x1.toNatClampNeg) → ( (Is 194 (h.2.2 x0 2) 5) ∧ ( (Is 194 (h.2.2 (h.2.2 x0 2) 2) 21) ∧ ( (vp_in x1 (ax_s (h.2.2 (h.2.2 x0 2) 2)).2) ∧ ( ∀ v10 : Int64, v10 = (h.2.1 (h.2.2 (h.2.2 x0 2) 2) x1.toNatClampNeg) → ( (Is 194 (h.2.2 x0 0) 0) ∧ ( C_X0_possible l g h (h.2.2 x0 0) v5 x2 (fun r15 h14 => ( ((¬ r15 = 0 → ((Is 194 (h14.2.2 x0 0) 0) ∧ ( (Is 194 (h14.2.2 x0 1) 0) ∧ ( C_X2_twin l g h14 (h14.2.2 x0 0) x2 (h14.2.2 x0 1) v10 (fun r21 h20 => ( (Is 194 (h20.2.2 x0 1) 0) ∧ ( C_X0_possible l g h20 (h20.2.2 x0 1) v10 r21 (fun r25 h24 => ( ((¬ r25 = 0 → ((Is 194 (h24.2.2 x0 2) 5) ∧ ( (Is 194 (h24.2.2 x0 0) 0) ∧ ( C_X0_after l g h24 (h24.2.2 x0 0) v5 x2 (fun r31 h30 => ( (Is 194 (h30.2.2 x0 1) 0) ∧ ( C_X0_after l g h30 (h30.2.2 x0 1) v10 r21 (fun r35 h34 => ( C_X6_meet l g h34 (h24.2.2 x0 2) r31 r35 x1 x2 (fun r38 h37 => ( ((¬ r38 = (-1) → (∀ h40 : AH, h40 = ax_setI h37 x0 3 0 → ( Q h40))) ∧ (r38 = (-1) → (∀ h42 : AH, h42 = ax_setI h37 x0 3 1 → ( Q h42))))))))))))))) ∧ (r25 = 0 → (∀ h44 : AH, h44 = ax_setI h24 x0 4 x1 → ( ∀ h46 : AH, h46 = ax_setI h44 x0 5 x2 → ( Q h46)))))))))))))) ∧ (r15 = 0 → (Q h14)))))))))))))))) : L_X2_goByFirst_0 l g h x0 x1 x2  Q := by
  obtain ⟨i1, hb⟩ := hb
  refine wp_aload_n 0 dX2_goByFirst_0 rfl rfl ?_
  obtain ⟨i2, hb⟩ := hb
  refine wp_getR dX2_goByFirst_1 fl_X2_12 i1 (i2.ne (by decide)) ?_
  obtain ⟨i3, hb⟩ := hb
  refine wp_getR dX2_goByFirst_4 fl_X2_67 i2 (i3.ne (by decide)) ?_
  refine wp_iload_n 1 dX2_goByFirst_7 rfl rfl ?_
  obtain ⟨b4, hb⟩ := hb
  refine wp_laload dX2_goByFirst_8 i3 b4 ?_
  refine wp_topl (fun v5 e6 => ?_)
  have hb := hb v5 e6
  refine wp_lstore_n (lv2 := [(3, .long v5), (0, .ref x0), (1, .int x1), (2, .int x2)]) dX2_goByFirst_9 rfl (by decide) rfl ?_
  refine wp_aload_n 1 dX2_goByFirst_10 rfl rfl ?_
  obtain ⟨i7, hb⟩ := hb
  refine wp_getR dX2_goByFirst_11 fl_X2_12 i1 (i7.ne (by decide)) ?_
  obtain ⟨i8, hb⟩ := hb
  refine wp_getR dX2_goByFirst_14 fl_X2_71 i7 (i8.ne (by decide)) ?_
  refine wp_iload_n 2 dX2_goByFirst_17 rfl rfl ?_
  obtain ⟨b9, hb⟩ := hb
  refine wp_laload dX2_goByFirst_18 i8 b9 ?_
  refine wp_topl (fun v10 e11 => ?_)
  have hb := hb v10 e11
  refine wp_lstore (lv2 := [(5, .long v10), (3, .long v5), (0, .ref x0), (1, .int x1), (2, .int x2)]) dX2_goByFirst_19 (by decide) rfl ?_
  refine wp_aload_n 2 dX2_goByFirst_21 rfl rfl ?_
  obtain ⟨i12, hb⟩ := hb
  refine wp_getR dX2_goByFirst_22 fl_X2_29 i1 (i12.ne (by decide)) ?_
  refine wp_lload_n 1 dX2_goByFirst_25 rfl rfl ?_
  refine wp_iload_n 4 dX2_goByFirst_26 rfl rfl ?_
  refine wp_callVN (as := [.long v5, .int x2]) dX2_goByFirst_27 cb_X0_possible lk_X2_74 im_X0_possible se_X0_possible rfl (Nat.le_of_ble_eq_true rfl) ⟨by decide, by decide⟩ ⟨Nat.le_refl _, Nat.le_refl _, Nat.le_refl _⟩ i12 rfl (by decide) hb (fun r0 h14 hb => ?_)
  obtain ⟨r15, rfl, hb⟩ := hb
  refine wp_if_ne (tgt := 34) dX2_goByFirst_30 (by decide) (fun c16 => ?_) (fun c16 => ?_)
  · have hb := hb.1 c16
    refine wp_aload_n 2 dX2_goByFirst_34 rfl rfl ?_
    obtain ⟨i17, hb⟩ := hb
    refine wp_getR dX2_goByFirst_35 fl_X2_29 i1 (i17.ne (by decide)) ?_
    refine wp_iload_n 4 dX2_goByFirst_38 rfl rfl ?_
    refine wp_aload_n 2 dX2_goByFirst_39 rfl rfl ?_
    obtain ⟨i18, hb⟩ := hb
    refine wp_getR dX2_goByFirst_40 fl_X2_33 i1 (i18.ne (by decide)) ?_
    refine wp_lload 0 dX2_goByFirst_43 rfl ?_
    refine wp_callS (as := [.ref (h14.2.2 x0 0), .int x2, .ref (h14.2.2 x0 1), .long v10]) dX2_goByFirst_45 cb_X2_twin lk_X2_78 st_X2_twin rfl (Nat.le_of_ble_eq_true rfl) ⟨by decide, by decide⟩ ⟨Nat.le_refl _, Nat.le_refl _, Nat.le_refl _⟩ hb (fun r0 h20 hb => ?_)
    obtain ⟨r21, rfl, hb⟩ := hb
    refine wp_istore (lv2 := [(7, .int r21), (5, .long v10), (3, .long v5), (0, .ref x0), (1, .int x1), (2, .int x2)]) dX2_goByFirst_48 (by decide) rfl ?_
    refine wp_aload_n 3 dX2_goByFirst_50 rfl rfl ?_
    obtain ⟨i22, hb⟩ := hb
    refine wp_getR dX2_goByFirst_51 fl_X2_33 i1 (i22.ne (by decide)) ?_
    refine wp_lload 1 dX2_goByFirst_54 rfl ?_
    refine wp_iload 0 dX2_goByFirst_56 rfl ?_
    refine wp_callVN (as := [.long v10, .int r21]) dX2_goByFirst_58 cb_X0_possible lk_X2_74 im_X0_possible se_X0_possible rfl (Nat.le_of_ble_eq_true rfl) ⟨by decide, by decide⟩ ⟨Nat.le_refl _, Nat.le_refl _, Nat.le_refl _⟩ i22 rfl (by decide) hb (fun r0 h24 hb => ?_)
    obtain ⟨r25, rfl, hb⟩ := hb
    refine wp_if_ne (tgt := 75) dX2_goByFirst_61 (by decide) (fun c26 => ?_) (fun c26 => ?_)
    · have hb := hb.1 c26
      refine wp_aload_n 3 dX2_goByFirst_75 rfl rfl ?_
      obtain ⟨i27, hb⟩ := hb
      refine wp_getR dX2_goByFirst_76 fl_X2_12 i1 (i27.ne (by decide)) ?_
      refine wp_aload_n 3 dX2_goByFirst_79 rfl rfl ?_
      obtain ⟨i28, hb⟩ := hb
      refine wp_getR dX2_goByFirst_80 fl_X2_29 i1 (i28.ne (by decide)) ?_
      refine wp_lload_n 2 dX2_goByFirst_83 rfl rfl ?_
      refine wp_iload_n 5 dX2_goByFirst_84 rfl rfl ?_
      refine wp_callVN (as := [.long v5, .int x2]) dX2_goByFirst_85 cb_X0_after lk_X2_82 im_X0_after se_X0_after rfl (Nat.le_of_ble_eq_true rfl) ⟨by decide, by decide⟩ ⟨Nat.le_refl _, Nat.le_refl _, Nat.le_refl _⟩ i28 rfl (by decide) hb (fun r0 h30 hb => ?_)
      obtain ⟨r31, rfl, hb⟩ := hb
      refine wp_aload_n 3 dX2_goByFirst_88 rfl rfl ?_
      obtain ⟨i32, hb⟩ := hb
      refine wp_getR dX2_goByFirst_89 fl_X2_33 i1 (i32.ne (by decide)) ?_
      refine wp_lload 1 dX2_goByFirst_92 rfl ?_
      refine wp_iload 0 dX2_goByFirst_94 rfl ?_
      refine wp_callVN (as := [.long v10, .int r21]) dX2_goByFirst_96 cb_X0_after lk_X2_82 im_X0_after se_X0_after rfl (Nat.le_of_ble_eq_true rfl) ⟨by decide, by decide⟩ ⟨Nat.le_refl _, Nat.le_refl _, Nat.le_refl _⟩ i32 rfl (by decide) hb (fun r0 h34 hb => ?_)
      obtain ⟨r35, rfl, hb⟩ := hb
      refine wp_iload_n 4 dX2_goByFirst_99 rfl rfl ?_
      refine wp_iload_n 5 dX2_goByFirst_100 rfl rfl ?_
      refine wp_callVN (as := [.long r31, .long r35, .int x1, .int x2]) dX2_goByFirst_101 cb_X6_meet lk_X2_45 im_X6_meet se_X6_meet rfl (Nat.le_of_ble_eq_true rfl) ⟨by decide, by decide⟩ ⟨Nat.le_refl _, Nat.le_refl _, Nat.le_refl _⟩ i27 rfl (by decide) hb (fun r0 h37 hb => ?_)
      obtain ⟨r38, rfl, hb⟩ := hb
      refine wp_istore (lv2 := [(8, .int r38), (7, .int r21), (5, .long v10), (3, .long v5), (0, .ref x0), (1, .int x1), (2, .int x2)]) dX2_goByFirst_104 (by decide) rfl ?_
      refine wp_aload_n 4 dX2_goByFirst_106 rfl rfl ?_
      refine wp_iload 0 dX2_goByFirst_107 rfl ?_
      refine wp_iconst (v := (-1)) dX2_goByFirst_109 (by decide) ?_
      refine wp_icmp_ne (tgt := 117) dX2_goByFirst_110 (by decide) (fun c39 => ?_) (fun c39 => ?_)
      · have hb := hb.1 c39
        refine wp_iconst (v := 0) dX2_goByFirst_117 (by decide) ?_
        refine wp_putZ dX2_goByFirst_118 fl_X2_18 (Or.inl rfl) i1 (Or.inl rfl) ?_
        refine wp_topH (fun h40 e41 => ?_)
        have hb := hb h40 e41
        exact wp_vret rfl dX2_goByFirst_121 ⟨rfl, hb⟩
      · have hb := hb.2 c39
        refine wp_iconst (v := 1) dX2_goByFirst_113 (by decide) ?_
        refine wp_goto (tgt := 118) dX2_goByFirst_114 (by decide) ?_
        refine wp_putZ dX2_goByFirst_118 fl_X2_18 (Or.inl rfl) i1 (Or.inr rfl) ?_
        refine wp_topH (fun h42 e43 => ?_)
        have hb := hb h42 e43
        exact wp_vret rfl dX2_goByFirst_121 ⟨rfl, hb⟩
    · have hb := hb.2 c26
      refine wp_aload_n 3 dX2_goByFirst_64 rfl rfl ?_
      refine wp_iload_n 4 dX2_goByFirst_65 rfl rfl ?_
      refine wp_putI dX2_goByFirst_66 fl_X2_22 (Or.inl rfl) i1 ?_
      refine wp_topH (fun h44 e45 => ?_)
      have hb := hb h44 e45
      refine wp_aload_n 3 dX2_goByFirst_69 rfl rfl ?_
      refine wp_iload_n 5 dX2_goByFirst_70 rfl rfl ?_
      refine wp_putI dX2_goByFirst_71 fl_X2_26 (Or.inl rfl) i1 ?_
      refine wp_topH (fun h46 e47 => ?_)
      have hb := hb h46 e47
      exact wp_vret rfl dX2_goByFirst_74 ⟨rfl, hb⟩
  · have hb := hb.2 c16
    exact wp_vret rfl dX2_goByFirst_33 ⟨rfl, hb⟩
theorem c_X2_goByFirst {l : Launch} {g : AG} {h : AH} {x0 : Nat} {x1 : Int32} {x2 : Int32}  {Q : AH → Prop} (hb : L_X2_goByFirst_0 l g h x0 x1 x2  Q) : C_X2_goByFirst l g h x0 x1 x2  Q := ax_met rfl rfl (Nat.le_of_ble_eq_true rfl) hb
def C_X2_findAloneInSecond (l : Launch) (g : AG) (h : AH) (x0 : Nat) (x1 : Int32)  (Q : AH → Prop) : Prop := Ct l g mX2_findAloneInSecond 3 72 194 194 h [.ref x0, .int x1] (ax_QV Q)
def L_X2_findAloneInSecond_0 (l : Launch) (g : AG) (h : AH) (x0 : Nat) (x1 : Int32)  (Q : AH → Prop) : Prop := Wp l g mX2_findAloneInSecond 3 72 194 194 194 0 [(0, .ref x0), (1, .int x1)] [] h (FM g 194 194 (ax_QV Q))
def L_X2_findAloneInSecond_46 (l : Launch) (g : AG) (h : AH) (x0 : Nat) (x1 : Int32)  (Q : AH → Prop) : Prop := Wp l g mX2_findAloneInSecond 3 72 194 194 194 46 [(0, .ref x0), (1, .int x1)] [] h (FM g 194 194 (ax_QV Q))
def L_X2_findAloneInSecond_47 (l : Launch) (g : AG) (h : AH) (x0 : Nat) (x1 : Int32) (s0 : Int32) (Q : AH → Prop) : Prop := Wp l g mX2_findAloneInSecond 3 72 194 194 194 47 [(0, .ref x0), (1, .int x1)] [.int s0] h (FM g 194 194 (ax_QV Q))
set_option maxRecDepth 100000 in
set_option maxHeartbeats 4000000 in
theorem s_X2_findAloneInSecond_0 {l : Launch} {g : AG} {h : AH} {x0 : Nat} {x1 : Int32}  {Q : AH → Prop} (hb : (Is 194 x0 2) ∧ ( (Is 194 (h.2.2 x0 1) 0) ∧ ( (Is 194 (h.2.2 x0 2) 5) ∧ ( (Is 194 (h.2.2 (h.2.2 x0 2) 2) 21) ∧ ( (vp_in x1 (ax_s (h.2.2 (h.2.2 x0 2) 2)).2) ∧ ( C_X0_possible l g h (h.2.2 x0 1) (h.2.1 (h.2.2 (h.2.2 x0 2) 2) x1.toNatClampNeg) 25 (fun r8 h7 => ( ((r8 = 0 → (L_X2_findAloneInSecond_46 l g h7 x0 x1  Q)) ∧ (¬ (r8 = 0) → ((Is 194 (h7.2.2 x0 0) 0) ∧ ( (Is 194 (h7.2.2 x0 2) 5) ∧ ( (Is 194 (h7.2.2 (h7.2.2 x0 2) 1) 21) ∧ ( (vp_in x1 (ax_s (h7.2.2 (h7.2.2 x0 2) 1)).2) ∧ ( C_X0_possible l g h7 (h7.2.2 x0 0) (h7.2.1 (h7.2.2 (h7.2.2 x0 2) 1) x1.toNatClampNeg) 25 (fun r16 h15 => ( ((¬ r16 = 0 → (L_X2_findAloneInSecond_46 l g h15 x0 x1  Q)) ∧ (r16 = 0 → (L_X2_findAloneInSecond_47 l g h15 x0 x1 1 Q)))))))))))))))))))) : L_X2_findAloneInSecond_0 l g h x0 x1  Q := by
  obtain ⟨i1, hb⟩ := hb
  refine wp_aload_n 0 dX2_findAloneInSecond_0 rfl rfl ?_
  obtain ⟨i2, hb⟩ := hb
  refine wp_getR dX2_findAloneInSecond_1 fl_X2_33 i1 (i2.ne (by decide)) ?_
  refine wp_aload_n 0 dX2_findAloneInSecond_4 rfl rfl ?_
  obtain ⟨i3, hb⟩ := hb
  refine wp_getR dX2_findAloneInSecond_5 fl_X2_12 i1 (i3.ne (by decide)) ?_
  obtain ⟨i4, hb⟩ := hb
  refine wp_getR dX2_findAloneInSecond_8 fl_X2_71 i3 (i4.ne (by decide)) ?_
  refine wp_iload_n 1 dX2_findAloneInSecond_11 rfl rfl ?_
  obtain ⟨b5, hb⟩ := hb
  refine wp_laload dX2_findAloneInSecond_12 i4 b5 ?_
  refine wp_bipush (v := 25) dX2_findAloneInSecond_13 (by decide) ?_
  refine wp_callVN (as := [.long (h.2.1 (h.2.2 (h.2.2 x0 2) 2) x1.toNatClampNeg), .int 25]) dX2_findAloneInSecond_15 cb_X0_possible lk_X2_74 im_X0_possible se_X0_possible rfl (Nat.le_of_ble_eq_true rfl) ⟨by decide, by decide⟩ ⟨Nat.le_refl _, Nat.le_refl _, Nat.le_refl _⟩ i2 rfl (by decide) hb (fun r0 h7 hb => ?_)
  obtain ⟨r8, rfl, hb⟩ := hb
  refine wp_if_eq (tgt := 46) dX2_findAloneInSecond_18 (by decide) (fun c9 => ?_) (fun c9 => ?_)
  · have hb := hb.1 c9
    exact hb
  · have hb := hb.2 c9
    refine wp_aload_n 0 dX2_findAloneInSecond_21 rfl rfl ?_
    obtain ⟨i10, hb⟩ := hb
    refine wp_getR dX2_findAloneInSecond_22 fl_X2_29 i1 (i10.ne (by decide)) ?_
    refine wp_aload_n 0 dX2_findAloneInSecond_25 rfl rfl ?_
    obtain ⟨i11, hb⟩ := hb
    refine wp_getR dX2_findAloneInSecond_26 fl_X2_12 i1 (i11.ne (by decide)) ?_
    obtain ⟨i12, hb⟩ := hb
    refine wp_getR dX2_findAloneInSecond_29 fl_X2_67 i11 (i12.ne (by decide)) ?_
    refine wp_iload_n 1 dX2_findAloneInSecond_32 rfl rfl ?_
    obtain ⟨b13, hb⟩ := hb
    refine wp_laload dX2_findAloneInSecond_33 i12 b13 ?_
    refine wp_bipush (v := 25) dX2_findAloneInSecond_34 (by decide) ?_
    refine wp_callVN (as := [.long (h7.2.1 (h7.2.2 (h7.2.2 x0 2) 1) x1.toNatClampNeg), .int 25]) dX2_findAloneInSecond_36 cb_X0_possible lk_X2_74 im_X0_possible se_X0_possible rfl (Nat.le_of_ble_eq_true rfl) ⟨by decide, by decide⟩ ⟨Nat.le_refl _, Nat.le_refl _, Nat.le_refl _⟩ i10 rfl (by decide) hb (fun r0 h15 hb => ?_)
    obtain ⟨r16, rfl, hb⟩ := hb
    refine wp_if_ne (tgt := 46) dX2_findAloneInSecond_39 (by decide) (fun c17 => ?_) (fun c17 => ?_)
    · have hb := hb.1 c17
      exact hb
    · have hb := hb.2 c17
      refine wp_iconst (v := 1) dX2_findAloneInSecond_42 (by decide) ?_
      refine wp_goto (tgt := 47) dX2_findAloneInSecond_43 (by decide) ?_
      exact hb
set_option maxRecDepth 100000 in
set_option maxHeartbeats 4000000 in
theorem s_X2_findAloneInSecond_46 {l : Launch} {g : AG} {h : AH} {x0 : Nat} {x1 : Int32}  {Q : AH → Prop} (hb : L_X2_findAloneInSecond_47 l g h x0 x1 0 Q) : L_X2_findAloneInSecond_46 l g h x0 x1  Q := by
  refine wp_iconst (v := 0) dX2_findAloneInSecond_46 (by decide) ?_
  exact hb
set_option maxRecDepth 100000 in
set_option maxHeartbeats 4000000 in
theorem s_X2_findAloneInSecond_47 {l : Launch} {g : AG} {h : AH} {x0 : Nat} {x1 : Int32} {s0 : Int32} {Q : AH → Prop} (hb : ((s0 = 0 → (Q h)) ∧ (¬ (s0 = 0) → ((Is 194 x0 2) ∧ ( C_X2_ended l g h x0 (fun r22 h21 => ( ((¬ r22 = 0 → (Q h21)) ∧ (r22 = 0 → (∀ h24 : AH, h24 = ax_setI h21 x0 4 x1 → ( ∀ h26 : AH, h26 = ax_setI h24 x0 5 125 → ( Q h26)))))))))))) : L_X2_findAloneInSecond_47 l g h x0 x1 s0 Q := by
  refine wp_istore_n (lv2 := [(2, .int s0), (0, .ref x0), (1, .int x1)]) dX2_findAloneInSecond_47 rfl (by decide) rfl ?_
  refine wp_iload_n 0 dX2_findAloneInSecond_48 rfl rfl ?_
  refine wp_if_eq (tgt := 70) dX2_findAloneInSecond_49 (by decide) (fun c18 => ?_) (fun c18 => ?_)
  · have hb := hb.1 c18
    exact wp_vret rfl dX2_findAloneInSecond_70 ⟨rfl, hb⟩
  · have hb := hb.2 c18
    obtain ⟨i19, hb⟩ := hb
    refine wp_aload_n 1 dX2_findAloneInSecond_52 rfl rfl ?_
    refine wp_callV (as := []) dX2_findAloneInSecond_53 cb_X2_ended lk_X2_56 im_X2_ended se_X2_ended rfl (Nat.le_of_ble_eq_true rfl) ⟨by decide, by decide⟩ ⟨Nat.le_refl _, Nat.le_refl _, Nat.le_refl _⟩ i19 rfl (by decide) hb (fun r0 h21 hb => ?_)
    obtain ⟨r22, rfl, hb⟩ := hb
    refine wp_if_ne (tgt := 70) dX2_findAloneInSecond_56 (by decide) (fun c23 => ?_) (fun c23 => ?_)
    · have hb := hb.1 c23
      exact wp_vret rfl dX2_findAloneInSecond_70 ⟨rfl, hb⟩
    · have hb := hb.2 c23
      refine wp_aload_n 1 dX2_findAloneInSecond_59 rfl rfl ?_
      refine wp_iload_n 2 dX2_findAloneInSecond_60 rfl rfl ?_
      refine wp_putI dX2_findAloneInSecond_61 fl_X2_22 (Or.inl rfl) i19 ?_
      refine wp_topH (fun h24 e25 => ?_)
      have hb := hb h24 e25
      refine wp_aload_n 1 dX2_findAloneInSecond_64 rfl rfl ?_
      refine wp_bipush (v := 125) dX2_findAloneInSecond_65 (by decide) ?_
      refine wp_putI dX2_findAloneInSecond_67 fl_X2_26 (Or.inl rfl) i19 ?_
      refine wp_topH (fun h26 e27 => ?_)
      have hb := hb h26 e27
      exact wp_vret rfl dX2_findAloneInSecond_70 ⟨rfl, hb⟩
theorem c_X2_findAloneInSecond {l : Launch} {g : AG} {h : AH} {x0 : Nat} {x1 : Int32}  {Q : AH → Prop} (hb : L_X2_findAloneInSecond_0 l g h x0 x1  Q) : C_X2_findAloneInSecond l g h x0 x1  Q := ax_met rfl rfl (Nat.le_of_ble_eq_true rfl) hb
def C_X2_goThrough (l : Launch) (g : AG) (h : AH) (x0 : Nat) (x1 : Nat) (x2 : Nat)  (Q : AH → Prop) : Prop := Ct l g mX2_goThrough 5 129 194 194 h [.ref x0, .ref x1, .ref x2] (ax_QV Q)
def L_X2_goThrough_0 (l : Launch) (g : AG) (h : AH) (x0 : Nat) (x1 : Nat) (x2 : Nat)  (Q : AH → Prop) : Prop := Wp l g mX2_goThrough 5 129 194 194 194 0 [(0, .ref x0), (1, .ref x1), (2, .ref x2)] [] h (FM g 194 194 (ax_QV Q))
def L_X2_goThrough_57 (l : Launch) (g : AG) (h : AH) (x0 : Nat) (x3 : Int32)  (Q : AH → Prop) : Prop := Wp l g mX2_goThrough 5 129 194 194 194 57 [(0, .ref x0), (3, .int x3)] [] h (FM g 194 194 (ax_QV Q))
def L_X2_goThrough_85 (l : Launch) (g : AG) (h : AH) (x0 : Nat) (x3 : Int32) (x4 : Int32)  (Q : AH → Prop) : Prop := Wp l g mX2_goThrough 5 129 194 194 194 85 [(0, .ref x0), (3, .int x3), (4, .int x4)] [] h (FM g 194 194 (ax_QV Q))
set_option maxRecDepth 100000 in
set_option maxHeartbeats 4000000 in
theorem s_X2_goThrough_0 {l : Launch} {g : AG} {h : AH} {x0 : Nat} {x1 : Nat} {x2 : Nat}  {Q : AH → Prop} (hb : (Is 194 x0 2) ∧ ( (Is 194 x1 0) ∧ ( ∀ h3 : AH, h3 = ax_setR h x0 0 x1 → ( (Is 194 x2 0) ∧ ( ∀ h6 : AH, h6 = ax_setR h3 x0 1 x2 → ( ∀ h8 : AH, h8 = ax_setI h6 x0 3 0 → ( ∀ h10 : AH, h10 = ax_setI h8 x0 4 (-1) → ( ∀ h12 : AH, h12 = ax_setI h10 x0 5 (-1) → ( (Is 194 (h12.2.2 x0 2) 5) ∧ ( C_X6_clear l g h12 (h12.2.2 x0 2) (fun h16 => ( (Is 194 (h16.2.2 x0 2) 5) ∧ ( C_X0_beginning l g h16 x1 (fun r20 h19 => ( C_X0_beginning l g h19 x2 (fun r23 h22 => ( C_X6_meet l g h22 (h16.2.2 x0 2) r20 r23 (-1) (-1) (fun r26 h25 => ( C_X2_lookAt l g h25 x0 0 (fun h28 => ( L_X2_goThrough_57 l g h28 x0 0  Q))))))))))))))))))))) : L_X2_goThrough_0 l g h x0 x1 x2  Q := by
  obtain ⟨i1, hb⟩ := hb
  refine wp_aload_n 0 dX2_goThrough_0 rfl rfl ?_
  obtain ⟨i2, hb⟩ := hb
  refine wp_aload_n 1 dX2_goThrough_1 rfl rfl ?_
  refine wp_putR dX2_goThrough_2 fl_X2_29 (Or.inl rfl) i1 (i2.ne (by decide)) ?_
  refine wp_topH (fun h3 e4 => ?_)
  have hb := hb h3 e4
  refine wp_aload_n 0 dX2_goThrough_5 rfl rfl ?_
  obtain ⟨i5, hb⟩ := hb
  refine wp_aload_n 2 dX2_goThrough_6 rfl rfl ?_
  refine wp_putR dX2_goThrough_7 fl_X2_33 (Or.inl rfl) i1 (i5.ne (by decide)) ?_
  refine wp_topH (fun h6 e7 => ?_)
  have hb := hb h6 e7
  refine wp_aload_n 0 dX2_goThrough_10 rfl rfl ?_
  refine wp_iconst (v := 0) dX2_goThrough_11 (by decide) ?_
  refine wp_putZ dX2_goThrough_12 fl_X2_18 (Or.inl rfl) i1 (Or.inl rfl) ?_
  refine wp_topH (fun h8 e9 => ?_)
  have hb := hb h8 e9
  refine wp_aload_n 0 dX2_goThrough_15 rfl rfl ?_
  refine wp_iconst (v := (-1)) dX2_goThrough_16 (by decide) ?_
  refine wp_putI dX2_goThrough_17 fl_X2_22 (Or.inl rfl) i1 ?_
  refine wp_topH (fun h10 e11 => ?_)
  have hb := hb h10 e11
  refine wp_aload_n 0 dX2_goThrough_20 rfl rfl ?_
  refine wp_iconst (v := (-1)) dX2_goThrough_21 (by decide) ?_
  refine wp_putI dX2_goThrough_22 fl_X2_26 (Or.inl rfl) i1 ?_
  refine wp_topH (fun h12 e13 => ?_)
  have hb := hb h12 e13
  refine wp_aload_n 0 dX2_goThrough_25 rfl rfl ?_
  obtain ⟨i14, hb⟩ := hb
  refine wp_getR dX2_goThrough_26 fl_X2_12 i1 (i14.ne (by decide)) ?_
  refine wp_callVN (as := []) dX2_goThrough_29 cb_X6_clear lk_X2_36 im_X6_clear se_X6_clear rfl (Nat.le_of_ble_eq_true rfl) ⟨by decide, by decide⟩ ⟨Nat.le_refl _, Nat.le_refl _, Nat.le_refl _⟩ i14 rfl (by decide) hb (fun r0 h16 hb => ?_)
  obtain ⟨rfl, hb⟩ := hb
  refine wp_aload_n 0 dX2_goThrough_32 rfl rfl ?_
  obtain ⟨i17, hb⟩ := hb
  refine wp_getR dX2_goThrough_33 fl_X2_12 i1 (i17.ne (by decide)) ?_
  refine wp_aload_n 1 dX2_goThrough_36 rfl rfl ?_
  refine wp_callVN (as := []) dX2_goThrough_37 cb_X0_beginning lk_X2_39 im_X0_beginning se_X0_beginning rfl (Nat.le_of_ble_eq_true rfl) ⟨by decide, by decide⟩ ⟨Nat.le_refl _, Nat.le_refl _, Nat.le_refl _⟩ i2 rfl (by decide) hb (fun r0 h19 hb => ?_)
  obtain ⟨r20, rfl, hb⟩ := hb
  refine wp_aload_n 2 dX2_goThrough_40 rfl rfl ?_
  refine wp_callVN (as := []) dX2_goThrough_41 cb_X0_beginning lk_X2_39 im_X0_beginning se_X0_beginning rfl (Nat.le_of_ble_eq_true rfl) ⟨by decide, by decide⟩ ⟨Nat.le_refl _, Nat.le_refl _, Nat.le_refl _⟩ i5 rfl (by decide) hb (fun r0 h22 hb => ?_)
  obtain ⟨r23, rfl, hb⟩ := hb
  refine wp_iconst (v := (-1)) dX2_goThrough_44 (by decide) ?_
  refine wp_iconst (v := (-1)) dX2_goThrough_45 (by decide) ?_
  refine wp_callVN (as := [.long r20, .long r23, .int (-1), .int (-1)]) dX2_goThrough_46 cb_X6_meet lk_X2_45 im_X6_meet se_X6_meet rfl (Nat.le_of_ble_eq_true rfl) ⟨by decide, by decide⟩ ⟨Nat.le_refl _, Nat.le_refl _, Nat.le_refl _⟩ i17 rfl (by decide) hb (fun r0 h25 hb => ?_)
  obtain ⟨r26, rfl, hb⟩ := hb
  refine wp_pop dX2_goThrough_49 rfl ?_
  refine wp_aload_n 0 dX2_goThrough_50 rfl rfl ?_
  refine wp_iconst (v := 0) dX2_goThrough_51 (by decide) ?_
  refine wp_callV (as := [.int 0]) dX2_goThrough_52 cb_X2_lookAt lk_X2_49 im_X2_lookAt se_X2_lookAt rfl (Nat.le_of_ble_eq_true rfl) ⟨by decide, by decide⟩ ⟨Nat.le_refl _, Nat.le_refl _, Nat.le_refl _⟩ i1 rfl (by decide) hb (fun r0 h28 hb => ?_)
  obtain ⟨rfl, hb⟩ := hb
  refine wp_iconst (v := 0) dX2_goThrough_55 (by decide) ?_
  refine wp_istore_n (lv2 := [(3, .int 0), (0, .ref x0), (1, .ref x1), (2, .ref x2)]) dX2_goThrough_56 rfl (by decide) rfl ?_
  exact wp_sub [1, 0] rfl hb
set_option maxRecDepth 100000 in
set_option maxHeartbeats 4000000 in
theorem s_X2_goThrough_57 {l : Launch} {g : AG} {h : AH} {x0 : Nat} {x3 : Int32}  {Q : AH → Prop} (hb : (Is 194 x0 2) ∧ ( (Is 194 (h.2.2 x0 2) 5) ∧ ( ((h.1 (h.2.2 x0 2) 0 ≤ x3 → (Q h)) ∧ (¬ (h.1 (h.2.2 x0 2) 0 ≤ x3) → (((400 ≤ x3 → (Q h)) ∧ (¬ (400 ≤ x3) → (C_X2_ended l g h x0 (fun r35 h34 => ( ((¬ r35 = 0 → (Q h34)) ∧ (r35 = 0 → (L_X2_goThrough_85 l g h34 x0 x3 0  Q)))))))))))))) : L_X2_goThrough_57 l g h x0 x3  Q := by
  refine wp_iload_n 1 dX2_goThrough_57 rfl rfl ?_
  obtain ⟨i29, hb⟩ := hb
  refine wp_aload_n 0 dX2_goThrough_58 rfl rfl ?_
  obtain ⟨i30, hb⟩ := hb
  refine wp_getR dX2_goThrough_59 fl_X2_12 i29 (i30.ne (by decide)) ?_
  refine wp_getI dX2_goThrough_62 fl_X2_53 i30 ?_
  refine wp_icmp_ge (tgt := 138) dX2_goThrough_65 (by decide) (fun c31 => ?_) (fun c31 => ?_)
  · have hb := hb.1 c31
    exact wp_vret rfl dX2_goThrough_138 ⟨rfl, hb⟩
  · have hb := hb.2 c31
    refine wp_iload_n 1 dX2_goThrough_68 rfl rfl ?_
    refine wp_sipush (v := 400) dX2_goThrough_69 (by decide) ?_
    refine wp_icmp_ge (tgt := 138) dX2_goThrough_72 (by decide) (fun c32 => ?_) (fun c32 => ?_)
    · have hb := hb.1 c32
      exact wp_vret rfl dX2_goThrough_138 ⟨rfl, hb⟩
    · have hb := hb.2 c32
      refine wp_aload_n 0 dX2_goThrough_75 rfl rfl ?_
      refine wp_callV (as := []) dX2_goThrough_76 cb_X2_ended lk_X2_56 im_X2_ended se_X2_ended rfl (Nat.le_of_ble_eq_true rfl) ⟨by decide, by decide⟩ ⟨Nat.le_refl _, Nat.le_refl _, Nat.le_refl _⟩ i29 rfl (by decide) hb (fun r0 h34 hb => ?_)
      obtain ⟨r35, rfl, hb⟩ := hb
      refine wp_if_ne (tgt := 138) dX2_goThrough_79 (by decide) (fun c36 => ?_) (fun c36 => ?_)
      · have hb := hb.1 c36
        exact wp_vret rfl dX2_goThrough_138 ⟨rfl, hb⟩
      · have hb := hb.2 c36
        refine wp_iconst (v := 0) dX2_goThrough_82 (by decide) ?_
        refine wp_istore (lv2 := [(4, .int 0), (0, .ref x0), (3, .int x3)]) dX2_goThrough_83 (by decide) rfl ?_
        exact wp_sub [1, 2, 0] rfl hb
set_option maxRecDepth 100000 in
set_option maxHeartbeats 4000000 in
theorem s_X2_goThrough_85 {l : Launch} {g : AG} {h : AH} {x0 : Nat} {x3 : Int32} {x4 : Int32}  {Q : AH → Prop} (hb : ((27 ≤ x4 → ((Is 194 x0 2) ∧ ( C_X2_findAloneInSecond l g h x0 x3 (fun h40 => ( ∀ v41 : Int32, v41 = x3 + (1) → ( L_X2_goThrough_57 l g h40 x0 v41  Q)))))) ∧ (¬ (27 ≤ x4) → ((Is 194 x0 2) ∧ ( C_X2_ended l g h x0 (fun r46 h45 => ( ((¬ r46 = 0 → (C_X2_findAloneInSecond l g h45 x0 x3 (fun h49 => ( ∀ v50 : Int32, v50 = x3 + (1) → ( L_X2_goThrough_57 l g h49 x0 v50  Q))))) ∧ (r46 = 0 → ((Is 194 (h45.2.2 x0 2) 5) ∧ ( ∀ v53 : Int32, v53 = (h45.1 (h45.2.2 x0 2) 0) → ( C_X2_goByFirst l g h45 x0 x3 x4 (fun h56 => ( C_X2_lookAt l g h56 x0 v53 (fun h58 => ( ∀ v59 : Int32, v59 = x4 + (1) → ( L_X2_goThrough_85 l g h58 x0 x3 v59  Q))))))))))))))))) : L_X2_goThrough_85 l g h x0 x3 x4  Q := by
  refine wp_iload 2 dX2_goThrough_85 rfl ?_
  refine wp_bipush (v := 27) dX2_goThrough_87 (by decide) ?_
  refine wp_icmp_ge (tgt := 127) dX2_goThrough_89 (by decide) (fun c37 => ?_) (fun c37 => ?_)
  · have hb := hb.1 c37
    obtain ⟨i38, hb⟩ := hb
    refine wp_aload_n 0 dX2_goThrough_127 rfl rfl ?_
    refine wp_iload_n 1 dX2_goThrough_128 rfl rfl ?_
    refine wp_callV (as := [.int x3]) dX2_goThrough_129 cb_X2_findAloneInSecond lk_X2_64 im_X2_findAloneInSecond se_X2_findAloneInSecond rfl (Nat.le_of_ble_eq_true rfl) ⟨by decide, by decide⟩ ⟨Nat.le_refl _, Nat.le_refl _, Nat.le_refl _⟩ i38 rfl (by decide) hb (fun r0 h40 hb => ?_)
    obtain ⟨rfl, hb⟩ := hb
    obtain ⟨v41, e42⟩ : ∃ y : Int32, y = x3 + (1) := ⟨_, rfl⟩
    have hb := hb v41 e42
    refine wp_iinc (v := v41) (lv2 := [(3, .int v41), (0, .ref x0), (4, .int x4)]) 1 dX2_goThrough_132 rfl (by rw [e42]; rfl) (by decide) rfl ?_
    refine wp_goto (tgt := 57) dX2_goThrough_135 (by decide) ?_
    exact wp_sub [1, 0] rfl hb
  · have hb := hb.2 c37
    obtain ⟨i43, hb⟩ := hb
    refine wp_aload_n 0 dX2_goThrough_92 rfl rfl ?_
    refine wp_callV (as := []) dX2_goThrough_93 cb_X2_ended lk_X2_56 im_X2_ended se_X2_ended rfl (Nat.le_of_ble_eq_true rfl) ⟨by decide, by decide⟩ ⟨Nat.le_refl _, Nat.le_refl _, Nat.le_refl _⟩ i43 rfl (by decide) hb (fun r0 h45 hb => ?_)
    obtain ⟨r46, rfl, hb⟩ := hb
    refine wp_if_ne (tgt := 127) dX2_goThrough_96 (by decide) (fun c47 => ?_) (fun c47 => ?_)
    · have hb := hb.1 c47
      refine wp_aload_n 0 dX2_goThrough_127 rfl rfl ?_
      refine wp_iload_n 1 dX2_goThrough_128 rfl rfl ?_
      refine wp_callV (as := [.int x3]) dX2_goThrough_129 cb_X2_findAloneInSecond lk_X2_64 im_X2_findAloneInSecond se_X2_findAloneInSecond rfl (Nat.le_of_ble_eq_true rfl) ⟨by decide, by decide⟩ ⟨Nat.le_refl _, Nat.le_refl _, Nat.le_refl _⟩ i43 rfl (by decide) hb (fun r0 h49 hb => ?_)
      obtain ⟨rfl, hb⟩ := hb
      obtain ⟨v50, e51⟩ : ∃ y : Int32, y = x3 + (1) := ⟨_, rfl⟩
      have hb := hb v50 e51
      refine wp_iinc (v := v50) (lv2 := [(3, .int v50), (0, .ref x0), (4, .int x4)]) 1 dX2_goThrough_132 rfl (by rw [e51]; rfl) (by decide) rfl ?_
      refine wp_goto (tgt := 57) dX2_goThrough_135 (by decide) ?_
      exact wp_sub [1, 0] rfl hb
    · have hb := hb.2 c47
      refine wp_aload_n 0 dX2_goThrough_99 rfl rfl ?_
      obtain ⟨i52, hb⟩ := hb
      refine wp_getR dX2_goThrough_100 fl_X2_12 i43 (i52.ne (by decide)) ?_
      refine wp_getI dX2_goThrough_103 fl_X2_53 i52 ?_
      refine wp_topi (fun v53 e54 => ?_)
      have hb := hb v53 e54
      refine wp_istore (lv2 := [(5, .int v53), (0, .ref x0), (3, .int x3), (4, .int x4)]) dX2_goThrough_106 (by decide) rfl ?_
      refine wp_aload_n 1 dX2_goThrough_108 rfl rfl ?_
      refine wp_iload_n 2 dX2_goThrough_109 rfl rfl ?_
      refine wp_iload 3 dX2_goThrough_110 rfl ?_
      refine wp_callV (as := [.int x3, .int x4]) dX2_goThrough_112 cb_X2_goByFirst lk_X2_60 im_X2_goByFirst se_X2_goByFirst rfl (Nat.le_of_ble_eq_true rfl) ⟨by decide, by decide⟩ ⟨Nat.le_refl _, Nat.le_refl _, Nat.le_refl _⟩ i43 rfl (by decide) hb (fun r0 h56 hb => ?_)
      obtain ⟨rfl, hb⟩ := hb
      refine wp_aload_n 1 dX2_goThrough_115 rfl rfl ?_
      refine wp_iload 0 dX2_goThrough_116 rfl ?_
      refine wp_callV (as := [.int v53]) dX2_goThrough_118 cb_X2_lookAt lk_X2_49 im_X2_lookAt se_X2_lookAt rfl (Nat.le_of_ble_eq_true rfl) ⟨by decide, by decide⟩ ⟨Nat.le_refl _, Nat.le_refl _, Nat.le_refl _⟩ i43 rfl (by decide) hb (fun r0 h58 hb => ?_)
      obtain ⟨rfl, hb⟩ := hb
      obtain ⟨v59, e60⟩ : ∃ y : Int32, y = x4 + (1) := ⟨_, rfl⟩
      have hb := hb v59 e60
      refine wp_iinc (v := v59) (lv2 := [(4, .int v59), (5, .int v53), (0, .ref x0), (3, .int x3)]) 3 dX2_goThrough_121 rfl (by rw [e60]; rfl) (by decide) rfl ?_
      refine wp_goto (tgt := 85) dX2_goThrough_124 (by decide) ?_
      exact wp_sub [2, 3, 0] rfl hb
theorem c_X2_goThrough {l : Launch} {g : AG} {h : AH} {x0 : Nat} {x1 : Nat} {x2 : Nat}  {Q : AH → Prop} (hb : L_X2_goThrough_0 l g h x0 x1 x2  Q) : C_X2_goThrough l g h x0 x1 x2  Q := ax_met rfl rfl (Nat.le_of_ble_eq_true rfl) hb
def C_X2_rowInto (l : Launch) (g : AG) (h : AH) (x0 : Nat) (x1 : Nat)  (Q : Int32 → AH → Prop) : Prop := Ct l g mX2_rowInto 1 24 194 194 h [.ref x0, .ref x1] (ax_QI Q)
def L_X2_rowInto_0 (l : Launch) (g : AG) (h : AH) (x0 : Nat) (x1 : Nat)  (Q : Int32 → AH → Prop) : Prop := Wp l g mX2_rowInto 1 24 194 194 194 0 [(0, .ref x0), (1, .ref x1)] [] h (FM g 194 194 (ax_QI Q))
set_option maxRecDepth 100000 in
set_option maxHeartbeats 4000000 in
theorem s_X2_rowInto_0 {l : Launch} {g : AG} {h : AH} {x0 : Nat} {x1 : Nat}  {Q : Int32 → AH → Prop} (hb : (Is 194 x0 2) ∧ ( ((¬ h.1 x0 4 = (-1) → ((Is 194 (h.2.2 x0 2) 5) ∧ ( (Is 194 x1 20) ∧ ( C_X6_traced l g h (h.2.2 x0 2) (h.1 x0 4) x1 (fun r7 h6 => ( ((h6.1 x0 5 = (-1) → (Q r7 h6)) ∧ (¬ (h6.1 x0 5 = (-1)) → (((r7 < Int32.ofNat (ax_s x1).2 → ((vp_in r7 (ax_s x1).2) ∧ ( ∀ h11 : AH, h11 = ax_setI h6 x1 r7.toNatClampNeg (h6.1 x0 5) → ( Q (r7 + 1) h11)))) ∧ (¬ (r7 < Int32.ofNat (ax_s x1).2) → (Q r7 h6)))))))))))) ∧ (h.1 x0 4 = (-1) → (Q 0 h))))) : L_X2_rowInto_0 l g h x0 x1  Q := by
  obtain ⟨i1, hb⟩ := hb
  refine wp_aload_n 0 dX2_rowInto_0 rfl rfl ?_
  refine wp_getI dX2_rowInto_1 fl_X2_22 i1 ?_
  refine wp_iconst (v := (-1)) dX2_rowInto_4 (by decide) ?_
  refine wp_icmp_ne (tgt := 10) dX2_rowInto_5 (by decide) (fun c2 => ?_) (fun c2 => ?_)
  · have hb := hb.1 c2
    refine wp_aload_n 0 dX2_rowInto_10 rfl rfl ?_
    obtain ⟨i3, hb⟩ := hb
    refine wp_getR dX2_rowInto_11 fl_X2_12 i1 (i3.ne (by decide)) ?_
    refine wp_aload_n 0 dX2_rowInto_14 rfl rfl ?_
    refine wp_getI dX2_rowInto_15 fl_X2_22 i1 ?_
    obtain ⟨i4, hb⟩ := hb
    refine wp_aload_n 1 dX2_rowInto_18 rfl rfl ?_
    refine wp_callVN (as := [.int (h.1 x0 4), .ref x1]) dX2_rowInto_19 cb_X6_traced lk_X2_141 im_X6_traced se_X6_traced rfl (Nat.le_of_ble_eq_true rfl) ⟨by decide, by decide⟩ ⟨Nat.le_refl _, Nat.le_refl _, Nat.le_refl _⟩ i3 rfl (by decide) hb (fun r0 h6 hb => ?_)
    obtain ⟨r7, rfl, hb⟩ := hb
    refine wp_istore_n (lv2 := [(2, .int r7), (0, .ref x0), (1, .ref x1)]) dX2_rowInto_22 rfl (by decide) rfl ?_
    refine wp_aload_n 1 dX2_rowInto_23 rfl rfl ?_
    refine wp_getI dX2_rowInto_24 fl_X2_26 i1 ?_
    refine wp_iconst (v := (-1)) dX2_rowInto_27 (by decide) ?_
    refine wp_icmp_eq (tgt := 37) dX2_rowInto_28 (by decide) (fun c8 => ?_) (fun c8 => ?_)
    · have hb := hb.1 c8
      refine wp_iload_n 0 dX2_rowInto_37 rfl rfl ?_
      exact wp_iret rfl dX2_rowInto_38 ⟨_, rfl, hb⟩
    · have hb := hb.2 c8
      refine wp_iload_n 0 dX2_rowInto_31 rfl rfl ?_
      refine wp_aload_n 2 dX2_rowInto_32 rfl rfl ?_
      refine wp_alen dX2_rowInto_33 i4 (by decide) rfl ?_
      refine wp_icmp_lt (tgt := 39) dX2_rowInto_34 (by decide) (fun c9 => ?_) (fun c9 => ?_)
      · have hb := hb.1 c9
        refine wp_aload_n 2 dX2_rowInto_39 rfl rfl ?_
        refine wp_iload_n 0 dX2_rowInto_40 rfl rfl ?_
        refine wp_aload_n 1 dX2_rowInto_41 rfl rfl ?_
        refine wp_getI dX2_rowInto_42 fl_X2_26 i1 ?_
        obtain ⟨b10, hb⟩ := hb
        refine wp_iastore dX2_rowInto_45 i4 b10 ?_
        refine wp_topH (fun h11 e12 => ?_)
        have hb := hb h11 e12
        refine wp_iload_n 0 dX2_rowInto_46 rfl rfl ?_
        refine wp_iconst (v := 1) dX2_rowInto_47 (by decide) ?_
        refine wp_iadd dX2_rowInto_48 ?_
        exact wp_iret rfl dX2_rowInto_49 ⟨_, rfl, hb⟩
      · have hb := hb.2 c9
        refine wp_iload_n 0 dX2_rowInto_37 rfl rfl ?_
        exact wp_iret rfl dX2_rowInto_38 ⟨_, rfl, hb⟩
  · have hb := hb.2 c2
    refine wp_iconst (v := 0) dX2_rowInto_8 (by decide) ?_
    exact wp_iret rfl dX2_rowInto_9 ⟨_, rfl, hb⟩
theorem c_X2_rowInto {l : Launch} {g : AG} {h : AH} {x0 : Nat} {x1 : Nat}  {Q : Int32 → AH → Prop} (hb : L_X2_rowInto_0 l g h x0 x1  Q) : C_X2_rowInto l g h x0 x1  Q := ax_met rfl rfl (Nat.le_of_ble_eq_true rfl) hb
def C_X9_apart (l : Launch) (g : AG) (h : AH) (x0 : Nat)  (Q : Int32 → AH → Prop) : Prop := Ct l g mX9_apart 6 154 194 194 h [.ref x0] (ax_QI Q)
def L_X9_apart_0 (l : Launch) (g : AG) (h : AH) (x0 : Nat)  (Q : Int32 → AH → Prop) : Prop := Wp l g mX9_apart 6 154 194 194 194 0 [(0, .ref x0)] [] h (FM g 194 194 (ax_QI Q))
set_option maxRecDepth 100000 in
set_option maxHeartbeats 4000000 in
theorem s_X9_apart_0 {l : Launch} {g : AG} {h : AH} {x0 : Nat}  {Q : Int32 → AH → Prop} (hb : (Is 194 x0 8) ∧ ( C_X9_has l g h x0 0 (fun r4 h3 => ( ((r4 = 0 → (C_X9_refused l g h3 x0 1 (fun r8 h7 => ( Q r8 h7)))) ∧ (¬ (r4 = 0) → (C_X9_has l g h3 x0 1 (fun r11 h10 => ( ((¬ r11 = 0 → ((Is 194 (h10.2.2 x0 7) 2) ∧ ( (Is 194 (h10.2.2 x0 2) 24) ∧ ( (vp_in 0 (ax_s (h10.2.2 x0 2)).2) ∧ ( (Is 194 (h10.2.2 (h10.2.2 x0 2) (0 : Int32).toNatClampNeg) 0) ∧ ( (Is 194 (h10.2.2 x0 2) 24) ∧ ( (vp_in 1 (ax_s (h10.2.2 x0 2)).2) ∧ ( (Is 194 (h10.2.2 (h10.2.2 x0 2) (1 : Int32).toNatClampNeg) 0) ∧ ( C_X2_goThrough l g h10 (h10.2.2 x0 7) (h10.2.2 (h10.2.2 x0 2) (0 : Int32).toNatClampNeg) (h10.2.2 (h10.2.2 x0 2) (1 : Int32).toNatClampNeg) (fun h21 => ( (Is 194 (h21.2.2 x0 7) 2) ∧ ( ((h21.1 (h21.2.2 x0 7) 3 = 0 → ((Is 194 (h21.2.2 x0 7) 2) ∧ ( ((¬ h21.1 (h21.2.2 x0 7) 4 = (-1) → ((Is 194 (h21.2.2 x0 7) 2) ∧ ( (Is 194 (h21.2.2 x0 8) 20) ∧ ( C_X2_rowInto l g h21 (h21.2.2 x0 7) (h21.2.2 x0 8) (fun r30 h29 => ( ∀ h31 : AH, h31 = ax_setI h29 x0 9 r30 → ( C_X9_granted l g h31 x0 (h31.1 x0 9) (fun r35 h34 => ( Q r35 h34))))))))) ∧ (h21.1 (h21.2.2 x0 7) 4 = (-1) → (C_X9_granted l g h21 x0 (-2) (fun r38 h37 => ( Q r38 h37)))))))) ∧ (¬ (h21.1 (h21.2.2 x0 7) 3 = 0) → (C_X9_refused l g h21 x0 5 (fun r41 h40 => ( Q r41 h40))))))))))))))))) ∧ (r11 = 0 → (C_X9_refused l g h10 x0 1 (fun r44 h43 => ( Q r44 h43)))))))))))))) : L_X9_apart_0 l g h x0  Q := by
  obtain ⟨i1, hb⟩ := hb
  refine wp_aload_n 0 dX9_apart_0 rfl rfl ?_
  refine wp_iconst (v := 0) dX9_apart_1 (by decide) ?_
  refine wp_callV (as := [.int 0]) dX9_apart_2 cb_X9_has lk_X9_106 im_X9_has se_X9_has rfl (Nat.le_of_ble_eq_true rfl) ⟨by decide, by decide⟩ ⟨Nat.le_refl _, Nat.le_refl _, Nat.le_refl _⟩ i1 rfl (by decide) hb (fun r0 h3 hb => ?_)
  obtain ⟨r4, rfl, hb⟩ := hb
  refine wp_if_eq (tgt := 16) dX9_apart_5 (by decide) (fun c5 => ?_) (fun c5 => ?_)
  · have hb := hb.1 c5
    refine wp_aload_n 0 dX9_apart_16 rfl rfl ?_
    refine wp_iconst (v := 1) dX9_apart_17 (by decide) ?_
    refine wp_callV (as := [.int 1]) dX9_apart_18 cb_X9_refused lk_X9_76 im_X9_refused se_X9_refused rfl (Nat.le_of_ble_eq_true rfl) ⟨by decide, by decide⟩ ⟨Nat.le_refl _, Nat.le_refl _, Nat.le_refl _⟩ i1 rfl (by decide) hb (fun r0 h7 hb => ?_)
    obtain ⟨r8, rfl, hb⟩ := hb
    exact wp_iret rfl dX9_apart_21 ⟨_, rfl, hb⟩
  · have hb := hb.2 c5
    refine wp_aload_n 0 dX9_apart_8 rfl rfl ?_
    refine wp_iconst (v := 1) dX9_apart_9 (by decide) ?_
    refine wp_callV (as := [.int 1]) dX9_apart_10 cb_X9_has lk_X9_106 im_X9_has se_X9_has rfl (Nat.le_of_ble_eq_true rfl) ⟨by decide, by decide⟩ ⟨Nat.le_refl _, Nat.le_refl _, Nat.le_refl _⟩ i1 rfl (by decide) hb (fun r0 h10 hb => ?_)
    obtain ⟨r11, rfl, hb⟩ := hb
    refine wp_if_ne (tgt := 22) dX9_apart_13 (by decide) (fun c12 => ?_) (fun c12 => ?_)
    · have hb := hb.1 c12
      refine wp_aload_n 0 dX9_apart_22 rfl rfl ?_
      obtain ⟨i13, hb⟩ := hb
      refine wp_getR dX9_apart_23 fl_X9_53 i1 (i13.ne (by decide)) ?_
      refine wp_aload_n 0 dX9_apart_26 rfl rfl ?_
      obtain ⟨i14, hb⟩ := hb
      refine wp_getR dX9_apart_27 fl_X9_20 i1 (i14.ne (by decide)) ?_
      refine wp_iconst (v := 0) dX9_apart_30 (by decide) ?_
      obtain ⟨b15, hb⟩ := hb
      obtain ⟨i16, hb⟩ := hb
      refine wp_aaload24 dX9_apart_31 i14 b15 (i16.ne (by decide)) ?_
      refine wp_aload_n 0 dX9_apart_32 rfl rfl ?_
      obtain ⟨i17, hb⟩ := hb
      refine wp_getR dX9_apart_33 fl_X9_20 i1 (i17.ne (by decide)) ?_
      refine wp_iconst (v := 1) dX9_apart_36 (by decide) ?_
      obtain ⟨b18, hb⟩ := hb
      obtain ⟨i19, hb⟩ := hb
      refine wp_aaload24 dX9_apart_37 i17 b18 (i19.ne (by decide)) ?_
      refine wp_callVN (as := [.ref (h10.2.2 (h10.2.2 x0 2) (0 : Int32).toNatClampNeg), .ref (h10.2.2 (h10.2.2 x0 2) (1 : Int32).toNatClampNeg)]) dX9_apart_38 cb_X2_goThrough lk_X9_256 im_X2_goThrough se_X2_goThrough rfl (Nat.le_of_ble_eq_true rfl) ⟨by decide, by decide⟩ ⟨Nat.le_refl _, Nat.le_refl _, Nat.le_refl _⟩ i13 rfl (by decide) hb (fun r0 h21 hb => ?_)
      obtain ⟨rfl, hb⟩ := hb
      refine wp_aload_n 0 dX9_apart_41 rfl rfl ?_
      obtain ⟨i22, hb⟩ := hb
      refine wp_getR dX9_apart_42 fl_X9_53 i1 (i22.ne (by decide)) ?_
      refine wp_getZ dX9_apart_45 fl_X9_259 i22 ?_
      refine wp_if_eq (tgt := 57) dX9_apart_48 (by decide) (fun c23 => ?_) (fun c23 => ?_)
      · have hb := hb.1 c23
        refine wp_aload_n 0 dX9_apart_57 rfl rfl ?_
        obtain ⟨i24, hb⟩ := hb
        refine wp_getR dX9_apart_58 fl_X9_53 i1 (i24.ne (by decide)) ?_
        refine wp_getI dX9_apart_61 fl_X9_263 i24 ?_
        refine wp_iconst (v := (-1)) dX9_apart_64 (by decide) ?_
        refine wp_icmp_ne (tgt := 75) dX9_apart_65 (by decide) (fun c25 => ?_) (fun c25 => ?_)
        · have hb := hb.1 c25
          refine wp_aload_n 0 dX9_apart_75 rfl rfl ?_
          refine wp_aload_n 0 dX9_apart_76 rfl rfl ?_
          obtain ⟨i26, hb⟩ := hb
          refine wp_getR dX9_apart_77 fl_X9_53 i1 (i26.ne (by decide)) ?_
          refine wp_aload_n 0 dX9_apart_80 rfl rfl ?_
          obtain ⟨i27, hb⟩ := hb
          refine wp_getR dX9_apart_81 fl_X9_57 i1 (i27.ne (by decide)) ?_
          refine wp_callVN (as := [.ref (h21.2.2 x0 8)]) dX9_apart_84 cb_X2_rowInto lk_X9_266 im_X2_rowInto se_X2_rowInto rfl (Nat.le_of_ble_eq_true rfl) ⟨by decide, by decide⟩ ⟨Nat.le_refl _, Nat.le_refl _, Nat.le_refl _⟩ i26 rfl (by decide) hb (fun r0 h29 hb => ?_)
          obtain ⟨r30, rfl, hb⟩ := hb
          refine wp_putI dX9_apart_87 fl_X9_60 (Or.inl rfl) i1 ?_
          refine wp_topH (fun h31 e32 => ?_)
          have hb := hb h31 e32
          refine wp_aload_n 0 dX9_apart_90 rfl rfl ?_
          refine wp_aload_n 0 dX9_apart_91 rfl rfl ?_
          refine wp_getI dX9_apart_92 fl_X9_60 i1 ?_
          refine wp_callV (as := [.int (h31.1 x0 9)]) dX9_apart_95 cb_X9_granted lk_X9_97 im_X9_granted se_X9_granted rfl (Nat.le_of_ble_eq_true rfl) ⟨by decide, by decide⟩ ⟨Nat.le_refl _, Nat.le_refl _, Nat.le_refl _⟩ i1 rfl (by decide) hb (fun r0 h34 hb => ?_)
          obtain ⟨r35, rfl, hb⟩ := hb
          exact wp_iret rfl dX9_apart_98 ⟨_, rfl, hb⟩
        · have hb := hb.2 c25
          refine wp_aload_n 0 dX9_apart_68 rfl rfl ?_
          refine wp_bipush (v := (-2)) dX9_apart_69 (by decide) ?_
          refine wp_callV (as := [.int (-2)]) dX9_apart_71 cb_X9_granted lk_X9_97 im_X9_granted se_X9_granted rfl (Nat.le_of_ble_eq_true rfl) ⟨by decide, by decide⟩ ⟨Nat.le_refl _, Nat.le_refl _, Nat.le_refl _⟩ i1 rfl (by decide) hb (fun r0 h37 hb => ?_)
          obtain ⟨r38, rfl, hb⟩ := hb
          exact wp_iret rfl dX9_apart_74 ⟨_, rfl, hb⟩
      · have hb := hb.2 c23
        refine wp_aload_n 0 dX9_apart_51 rfl rfl ?_
        refine wp_iconst (v := 5) dX9_apart_52 (by decide) ?_
        refine wp_callV (as := [.int 5]) dX9_apart_53 cb_X9_refused lk_X9_76 im_X9_refused se_X9_refused rfl (Nat.le_of_ble_eq_true rfl) ⟨by decide, by decide⟩ ⟨Nat.le_refl _, Nat.le_refl _, Nat.le_refl _⟩ i1 rfl (by decide) hb (fun r0 h40 hb => ?_)
        obtain ⟨r41, rfl, hb⟩ := hb
        exact wp_iret rfl dX9_apart_56 ⟨_, rfl, hb⟩
    · have hb := hb.2 c12
      refine wp_aload_n 0 dX9_apart_16 rfl rfl ?_
      refine wp_iconst (v := 1) dX9_apart_17 (by decide) ?_
      refine wp_callV (as := [.int 1]) dX9_apart_18 cb_X9_refused lk_X9_76 im_X9_refused se_X9_refused rfl (Nat.le_of_ble_eq_true rfl) ⟨by decide, by decide⟩ ⟨Nat.le_refl _, Nat.le_refl _, Nat.le_refl _⟩ i1 rfl (by decide) hb (fun r0 h43 hb => ?_)
      obtain ⟨r44, rfl, hb⟩ := hb
      exact wp_iret rfl dX9_apart_21 ⟨_, rfl, hb⟩
theorem c_X9_apart {l : Launch} {g : AG} {h : AH} {x0 : Nat}  {Q : Int32 → AH → Prop} (hb : L_X9_apart_0 l g h x0  Q) : C_X9_apart l g h x0  Q := ax_met rfl rfl (Nat.le_of_ble_eq_true rfl) hb
def C_X9_count (l : Launch) (g : AG) (h : AH) (x0 : Nat) (x1 : Int32)  (Q : Int32 → AH → Prop) : Prop := Ct l g mX9_count 2 40 194 194 h [.ref x0, .int x1] (ax_QI Q)
def L_X9_count_0 (l : Launch) (g : AG) (h : AH) (x0 : Nat) (x1 : Int32)  (Q : Int32 → AH → Prop) : Prop := Wp l g mX9_count 2 40 194 194 194 0 [(0, .ref x0), (1, .int x1)] [] h (FM g 194 194 (ax_QI Q))
set_option maxRecDepth 100000 in
set_option maxHeartbeats 4000000 in
theorem s_X9_count_0 {l : Launch} {g : AG} {h : AH} {x0 : Nat} {x1 : Int32}  {Q : Int32 → AH → Prop} (hb : ((x1 = 0 → ((Is 194 x0 8) ∧ ( (Is 194 (h.2.2 x0 6) 1) ∧ ( C_X1_many l g h (h.2.2 x0 6) (fun r6 h5 => ( Q r6 h5)))))) ∧ (¬ x1 = 0 → (((x1 = 1 → ((Is 194 x0 8) ∧ ( (Is 194 (h.2.2 x0 6) 1) ∧ ( Q (h.1 (h.2.2 x0 6) 0) h)))) ∧ (¬ x1 = 1 → (((x1 = 2 → ((Is 194 x0 8) ∧ ( Q (h.1 x0 9) h))) ∧ (¬ x1 = 2 → (((x1 = 3 → ((Is 194 x0 8) ∧ ( Q (h.1 x0 1) h))) ∧ (¬ x1 = 3 → (((x1 = 4 → ((Is 194 x0 8) ∧ ( (Is 194 (h.2.2 x0 7) 2) ∧ ( (Is 194 (h.2.2 (h.2.2 x0 7) 2) 5) ∧ ( Q (h.1 (h.2.2 (h.2.2 x0 7) 2) 0) h))))) ∧ (¬ x1 = 4 → (Q (-1) h)))))))))))))))) : L_X9_count_0 l g h x0 x1  Q := by
  refine wp_iload_n 1 dX9_count_0 rfl rfl ?_
  refine wp_case 0 (fun c1 => ?_) (fun c1 => ?_)
  · have hb := hb.1 c1
    refine wp_tableIn (v := 0) (tgt := 36) dX9_count_1 c1 (by decide) (by decide) rfl (by decide) ?_
    obtain ⟨i2, hb⟩ := hb
    refine wp_aload_n 0 dX9_count_36 rfl rfl ?_
    obtain ⟨i3, hb⟩ := hb
    refine wp_getR dX9_count_37 fl_X9_44 i2 (i3.ne (by decide)) ?_
    refine wp_callVN (as := []) dX9_count_40 cb_X1_many lk_X9_178 im_X1_many se_X1_many rfl (Nat.le_of_ble_eq_true rfl) ⟨by decide, by decide⟩ ⟨Nat.le_refl _, Nat.le_refl _, Nat.le_refl _⟩ i3 rfl (by decide) hb (fun r0 h5 hb => ?_)
    obtain ⟨r6, rfl, hb⟩ := hb
    exact wp_iret rfl dX9_count_43 ⟨_, rfl, hb⟩
  · have hb := hb.2 c1
    refine wp_case 1 (fun c7 => ?_) (fun c7 => ?_)
    · have hb := hb.1 c7
      refine wp_tableIn (v := 1) (tgt := 44) dX9_count_1 c7 (by decide) (by decide) rfl (by decide) ?_
      obtain ⟨i8, hb⟩ := hb
      refine wp_aload_n 0 dX9_count_44 rfl rfl ?_
      obtain ⟨i9, hb⟩ := hb
      refine wp_getR dX9_count_45 fl_X9_44 i8 (i9.ne (by decide)) ?_
      refine wp_getI dX9_count_48 fl_X9_88 i9 ?_
      exact wp_iret rfl dX9_count_51 ⟨_, rfl, hb⟩
    · have hb := hb.2 c7
      refine wp_case 2 (fun c10 => ?_) (fun c10 => ?_)
      · have hb := hb.1 c10
        refine wp_tableIn (v := 2) (tgt := 52) dX9_count_1 c10 (by decide) (by decide) rfl (by decide) ?_
        obtain ⟨i11, hb⟩ := hb
        refine wp_aload_n 0 dX9_count_52 rfl rfl ?_
        refine wp_getI dX9_count_53 fl_X9_60 i11 ?_
        exact wp_iret rfl dX9_count_56 ⟨_, rfl, hb⟩
      · have hb := hb.2 c10
        refine wp_case 3 (fun c12 => ?_) (fun c12 => ?_)
        · have hb := hb.1 c12
          refine wp_tableIn (v := 3) (tgt := 57) dX9_count_1 c12 (by decide) (by decide) rfl (by decide) ?_
          obtain ⟨i13, hb⟩ := hb
          refine wp_aload_n 0 dX9_count_57 rfl rfl ?_
          refine wp_getI dX9_count_58 fl_X9_13 i13 ?_
          exact wp_iret rfl dX9_count_61 ⟨_, rfl, hb⟩
        · have hb := hb.2 c12
          refine wp_case 4 (fun c14 => ?_) (fun c14 => ?_)
          · have hb := hb.1 c14
            refine wp_tableIn (v := 4) (tgt := 62) dX9_count_1 c14 (by decide) (by decide) rfl (by decide) ?_
            obtain ⟨i15, hb⟩ := hb
            refine wp_aload_n 0 dX9_count_62 rfl rfl ?_
            obtain ⟨i16, hb⟩ := hb
            refine wp_getR dX9_count_63 fl_X9_53 i15 (i16.ne (by decide)) ?_
            obtain ⟨i17, hb⟩ := hb
            refine wp_getR dX9_count_66 fl_X9_270 i16 (i17.ne (by decide)) ?_
            refine wp_getI dX9_count_69 fl_X9_273 i17 ?_
            exact wp_iret rfl dX9_count_72 ⟨_, rfl, hb⟩
          · have hb := hb.2 c14
            refine wp_tableOut (tgt := 73) dX9_count_1 (by have zc1 := lv_neT (k := 0) (a := 0) c1 rfl; have zc7 := lv_neT (k := 1) (a := 1) c7 rfl; have zc10 := lv_neT (k := 2) (a := 2) c10 rfl; have zc12 := lv_neT (k := 3) (a := 3) c12 rfl; have zc14 := lv_neT (k := 4) (a := 4) c14 rfl; omega) (by decide) ?_
            refine wp_iconst (v := (-1)) dX9_count_73 (by decide) ?_
            exact wp_iret rfl dX9_count_74 ⟨_, rfl, hb⟩
theorem c_X9_count {l : Launch} {g : AG} {h : AH} {x0 : Nat} {x1 : Int32}  {Q : Int32 → AH → Prop} (hb : L_X9_count_0 l g h x0 x1  Q) : C_X9_count l g h x0 x1  Q := ax_met rfl rfl (Nat.le_of_ble_eq_true rfl) hb
def C_X9_trouble (l : Launch) (g : AG) (h : AH) (x0 : Nat)  (Q : Int32 → AH → Prop) : Prop := Ct l g mX9_trouble 0 0 194 194 h [.ref x0] (ax_QI Q)
def L_X9_trouble_0 (l : Launch) (g : AG) (h : AH) (x0 : Nat)  (Q : Int32 → AH → Prop) : Prop := Wp l g mX9_trouble 0 0 194 194 194 0 [(0, .ref x0)] [] h (FM g 194 194 (ax_QI Q))
set_option maxRecDepth 100000 in
set_option maxHeartbeats 4000000 in
theorem s_X9_trouble_0 {l : Launch} {g : AG} {h : AH} {x0 : Nat}  {Q : Int32 → AH → Prop} (hb : (Is 194 x0 8) ∧ ( Q (h.1 x0 12) h)) : L_X9_trouble_0 l g h x0  Q := by
  obtain ⟨i1, hb⟩ := hb
  refine wp_aload_n 0 dX9_trouble_0 rfl rfl ?_
  refine wp_getI dX9_trouble_1 fl_X9_69 i1 ?_
  exact wp_iret rfl dX9_trouble_4 ⟨_, rfl, hb⟩
theorem c_X9_trouble {l : Launch} {g : AG} {h : AH} {x0 : Nat}  {Q : Int32 → AH → Prop} (hb : L_X9_trouble_0 l g h x0  Q) : C_X9_trouble l g h x0  Q := ax_met rfl rfl (Nat.le_of_ble_eq_true rfl) hb
def C_X12_thrown (l : Launch) (g : AG) (h : AH) (x0 : Nat)  (Q : Int32 → AH → Prop) : Prop := Ct l g mX12_thrown 0 0 194 194 h [.ref x0] (ax_QI Q)
def L_X12_thrown_0 (l : Launch) (g : AG) (h : AH) (x0 : Nat)  (Q : Int32 → AH → Prop) : Prop := Wp l g mX12_thrown 0 0 194 194 194 0 [(0, .ref x0)] [] h (FM g 194 194 (ax_QI Q))
set_option maxRecDepth 100000 in
set_option maxHeartbeats 4000000 in
theorem s_X12_thrown_0 {l : Launch} {g : AG} {h : AH} {x0 : Nat}  {Q : Int32 → AH → Prop} (hb : (Is 194 x0 11) ∧ ( Q (h.1 x0 0) h)) : L_X12_thrown_0 l g h x0  Q := by
  obtain ⟨i1, hb⟩ := hb
  refine wp_aload_n 0 dX12_thrown_0 rfl rfl ?_
  refine wp_getI dX12_thrown_1 fl_X12_1 i1 ?_
  exact wp_iret rfl dX12_thrown_4 ⟨_, rfl, hb⟩
theorem c_X12_thrown {l : Launch} {g : AG} {h : AH} {x0 : Nat}  {Q : Int32 → AH → Prop} (hb : L_X12_thrown_0 l g h x0  Q) : C_X12_thrown l g h x0  Q := ax_met rfl rfl (Nat.le_of_ble_eq_true rfl) hb
def C_X12_refused (l : Launch) (g : AG) (h : AH) (x0 : Nat) (x1 : Int32)  (Q : Int32 → AH → Prop) : Prop := Ct l g mX12_refused 0 0 194 194 h [.ref x0, .int x1] (ax_QI Q)
def L_X12_refused_0 (l : Launch) (g : AG) (h : AH) (x0 : Nat) (x1 : Int32)  (Q : Int32 → AH → Prop) : Prop := Wp l g mX12_refused 0 0 194 194 194 0 [(0, .ref x0), (1, .int x1)] [] h (FM g 194 194 (ax_QI Q))
set_option maxRecDepth 100000 in
set_option maxHeartbeats 4000000 in
theorem s_X12_refused_0 {l : Launch} {g : AG} {h : AH} {x0 : Nat} {x1 : Int32}  {Q : Int32 → AH → Prop} (hb : (Is 194 x0 11) ∧ ( ∀ h2 : AH, h2 = ax_setI h x0 1 x1 → ( ∀ h4 : AH, h4 = ax_setI h2 x0 2 (-1) → ( Q (-1) h4)))) : L_X12_refused_0 l g h x0 x1  Q := by
  obtain ⟨i1, hb⟩ := hb
  refine wp_aload_n 0 dX12_refused_0 rfl rfl ?_
  refine wp_iload_n 1 dX12_refused_1 rfl rfl ?_
  refine wp_putI dX12_refused_2 fl_X12_7 (Or.inl rfl) i1 ?_
  refine wp_topH (fun h2 e3 => ?_)
  have hb := hb h2 e3
  refine wp_aload_n 0 dX12_refused_5 rfl rfl ?_
  refine wp_iconst (v := (-1)) dX12_refused_6 (by decide) ?_
  refine wp_putI dX12_refused_7 fl_X12_10 (Or.inl rfl) i1 ?_
  refine wp_topH (fun h4 e5 => ?_)
  have hb := hb h4 e5
  refine wp_iconst (v := (-1)) dX12_refused_10 (by decide) ?_
  exact wp_iret rfl dX12_refused_11 ⟨_, rfl, hb⟩
theorem c_X12_refused {l : Launch} {g : AG} {h : AH} {x0 : Nat} {x1 : Int32}  {Q : Int32 → AH → Prop} (hb : L_X12_refused_0 l g h x0 x1  Q) : C_X12_refused l g h x0 x1  Q := ax_met rfl rfl (Nat.le_of_ble_eq_true rfl) hb
def C_X12_done (l : Launch) (g : AG) (h : AH) (x0 : Nat) (x1 : Int32)  (Q : Int32 → AH → Prop) : Prop := Ct l g mX12_done 0 0 194 194 h [.ref x0, .int x1] (ax_QI Q)
def L_X12_done_0 (l : Launch) (g : AG) (h : AH) (x0 : Nat) (x1 : Int32)  (Q : Int32 → AH → Prop) : Prop := Wp l g mX12_done 0 0 194 194 194 0 [(0, .ref x0), (1, .int x1)] [] h (FM g 194 194 (ax_QI Q))
set_option maxRecDepth 100000 in
set_option maxHeartbeats 4000000 in
theorem s_X12_done_0 {l : Launch} {g : AG} {h : AH} {x0 : Nat} {x1 : Int32}  {Q : Int32 → AH → Prop} (hb : (Is 194 x0 11) ∧ ( ∀ h2 : AH, h2 = ax_setI h x0 1 0 → ( ∀ h4 : AH, h4 = ax_setI h2 x0 2 (-1) → ( Q x1 h4)))) : L_X12_done_0 l g h x0 x1  Q := by
  obtain ⟨i1, hb⟩ := hb
  refine wp_aload_n 0 dX12_done_0 rfl rfl ?_
  refine wp_iconst (v := 0) dX12_done_1 (by decide) ?_
  refine wp_putI dX12_done_2 fl_X12_7 (Or.inl rfl) i1 ?_
  refine wp_topH (fun h2 e3 => ?_)
  have hb := hb h2 e3
  refine wp_aload_n 0 dX12_done_5 rfl rfl ?_
  refine wp_iconst (v := (-1)) dX12_done_6 (by decide) ?_
  refine wp_putI dX12_done_7 fl_X12_10 (Or.inl rfl) i1 ?_
  refine wp_topH (fun h4 e5 => ?_)
  have hb := hb h4 e5
  refine wp_iload_n 1 dX12_done_10 rfl rfl ?_
  exact wp_iret rfl dX12_done_11 ⟨_, rfl, hb⟩
theorem c_X12_done {l : Launch} {g : AG} {h : AH} {x0 : Nat} {x1 : Int32}  {Q : Int32 → AH → Prop} (hb : L_X12_done_0 l g h x0 x1  Q) : C_X12_done l g h x0 x1  Q := ax_met rfl rfl (Nat.le_of_ble_eq_true rfl) hb
def C_X12_isApp (l : Launch) (g : AG) (h : AH) (x0 : Nat) (x1 : Int32)  (Q : Int32 → AH → Prop) : Prop := Ct l g mX12_isApp 0 0 194 194 h [.ref x0, .int x1] (ax_QI Q)
def L_X12_isApp_0 (l : Launch) (g : AG) (h : AH) (x0 : Nat) (x1 : Int32)  (Q : Int32 → AH → Prop) : Prop := Wp l g mX12_isApp 0 0 194 194 194 0 [(0, .ref x0), (1, .int x1)] [] h (FM g 194 194 (ax_QI Q))
set_option maxRecDepth 100000 in
set_option maxHeartbeats 4000000 in
theorem s_X12_isApp_0 {l : Launch} {g : AG} {h : AH} {x0 : Nat} {x1 : Int32}  {Q : Int32 → AH → Prop} (hb : ((x1 < 0 → (Q 0 h)) ∧ (¬ (x1 < 0) → (((2 ≤ x1 → (Q 0 h)) ∧ (¬ (2 ≤ x1) → ((Is 194 x0 11) ∧ ( (Is 194 (h.2.2 x0 6) 23) ∧ ( (vp_in x1 (ax_s (h.2.2 x0 6)).2) ∧ ( ((h.1 (h.2.2 x0 6) x1.toNatClampNeg = 0 → (Q 0 h)) ∧ (¬ (h.1 (h.2.2 x0 6) x1.toNatClampNeg = 0) → (Q 1 h))))))))))))) : L_X12_isApp_0 l g h x0 x1  Q := by
  refine wp_iload_n 1 dX12_isApp_0 rfl rfl ?_
  refine wp_if_lt (tgt := 22) dX12_isApp_1 (by decide) (fun c1 => ?_) (fun c1 => ?_)
  · have hb := hb.1 c1
    refine wp_iconst (v := 0) dX12_isApp_22 (by decide) ?_
    exact wp_zret rfl dX12_isApp_23 (Or.inl rfl) ⟨_, rfl, hb⟩
  · have hb := hb.2 c1
    refine wp_iload_n 1 dX12_isApp_4 rfl rfl ?_
    refine wp_iconst (v := 2) dX12_isApp_5 (by decide) ?_
    refine wp_icmp_ge (tgt := 22) dX12_isApp_6 (by decide) (fun c2 => ?_) (fun c2 => ?_)
    · have hb := hb.1 c2
      refine wp_iconst (v := 0) dX12_isApp_22 (by decide) ?_
      exact wp_zret rfl dX12_isApp_23 (Or.inl rfl) ⟨_, rfl, hb⟩
    · have hb := hb.2 c2
      obtain ⟨i3, hb⟩ := hb
      refine wp_aload_n 0 dX12_isApp_9 rfl rfl ?_
      obtain ⟨i4, hb⟩ := hb
      refine wp_getR dX12_isApp_10 fl_X12_30 i3 (i4.ne (by decide)) ?_
      refine wp_iload_n 1 dX12_isApp_13 rfl rfl ?_
      obtain ⟨b5, hb⟩ := hb
      refine wp_zaload dX12_isApp_14 i4 b5 ?_
      refine wp_if_eq (tgt := 22) dX12_isApp_15 (by decide) (fun c6 => ?_) (fun c6 => ?_)
      · have hb := hb.1 c6
        refine wp_iconst (v := 0) dX12_isApp_22 (by decide) ?_
        exact wp_zret rfl dX12_isApp_23 (Or.inl rfl) ⟨_, rfl, hb⟩
      · have hb := hb.2 c6
        refine wp_iconst (v := 1) dX12_isApp_18 (by decide) ?_
        refine wp_goto (tgt := 23) dX12_isApp_19 (by decide) ?_
        exact wp_zret rfl dX12_isApp_23 (Or.inr rfl) ⟨_, rfl, hb⟩
theorem c_X12_isApp {l : Launch} {g : AG} {h : AH} {x0 : Nat} {x1 : Int32}  {Q : Int32 → AH → Prop} (hb : L_X12_isApp_0 l g h x0 x1  Q) : C_X12_isApp l g h x0 x1  Q := ax_met rfl rfl (Nat.le_of_ble_eq_true rfl) hb
