def C_X2_findAloneInSecond (l : Launch) (g : AG) (h : AH) (x0 : Nat) (x1 : Int32)  (Q : AH → Prop) : Prop := Ct l g mX2_findAloneInSecond 3 72 194 194 h [.ref x0, .int x1] (ax_QV Q)
def L_X2_findAloneInSecond_0 (l : Launch) (g : AG) (h : AH) (x0 : Nat) (x1 : Int32)  (Q : AH → Prop) : Prop := Wp l g mX2_findAloneInSecond 3 72 194 194 194 0 [(0, .ref x0), (1, .int x1)] [] h (FM g 194 194 (ax_QV Q))
def L_X2_findAloneInSecond_46 (l : Launch) (g : AG) (h : AH) (x0 : Nat) (x1 : Int32)  (Q : AH → Prop) : Prop := Wp l g mX2_findAloneInSecond 3 72 194 194 194 46 [(0, .ref x0), (1, .int x1)] [] h (FM g 194 194 (ax_QV Q))
def L_X2_findAloneInSecond_47 (l : Launch) (g : AG) (h : AH) (x0 : Nat) (x1 : Int32) (s0 : Int32) (Q : AH → Prop) : Prop := Wp l g mX2_findAloneInSecond 3 72 194 194 194 47 [(0, .ref x0), (1, .int x1)] [.int s0] h (FM g 194 194 (ax_QV Q))
set_option maxRecDepth 100000 in
set_option maxHeartbeats 4000000 in
theorem s_X2_findAloneInSecond_0 {l : Launch} {g : AG} {h : AH} {x0 : Nat} {x1 : Int32}  {Q : AH → Prop} (hb : (Is 194 x0 2) ∧ ( (Is 194 (h.2.2 x0 1) 0) ∧ ( (Is 194 (h.2.2 x0 2) 5) ∧ ( (Is 194 (h.2.2 (h.2.2 x0 2) 2) 21) ∧ ( (vp_in x1 (ax_s (h.2.2 (h.2.2 x0 2) 2)).2) ∧ ( C_X0_possible l g h (h.2.2 x0 1) (h.2.1 (h.2.2 (h.2.2 x0 2) 2) x1.toNatClampNeg) 25 (fun r8 h7 => ( ((r8 = 0 → (L_X2_findAloneInSecond_46 l g h7 x0 x1  Q)) ∧ (¬ (r8 = 0) → ((Is 194 (h7.2.2 x0 0) 0) ∧ ( (Is 194 (h7.2.2 x0 2) 5) ∧ ( (Is 194 (h7.2.2 (h7.2.2 x0 2) 1) 21) ∧ ( (vp_in x1 (ax_s (h7.2.2 (h7.2.2 x0 2) 1)).2) ∧ ( C_X0_possible l g h7 (h7.2.2 x0 0) (h7.2.1 (h7.2.2 (h7.2.2 x0 2) 1) x1.toNatClampNeg) 25 (fun r16 h15 => ( ((¬ r16 = 0 → (L_X2_findAloneInSecond_46 l g h15 x0 x1  Q)) ∧ (r16 = 0 → (L_X2_findAloneInSecond_47 l g h15 x0 x1 1 Q)))))))))))))))))))) : L_X2_findAloneInSecond_0 l g h x0 x1  Q := by
  obtain ⟨i1, hb⟩ := hb
  refine wp_aload_n 0 dX2_findAloneInSecond_0 rfl rfl ?_
  obtain ⟨i2, hb⟩ := hb
  refine wp_getR dX2_findAloneInSecond_1 fl_X2_33 i1 (i2.ne (by decide)) ?_
  refine wp_aload_n 0 dX2_findAloneInSecond_4 rfl rfl ?_
  obtain ⟨i3, hb⟩ := hb
  refine wp_getR dX2_findAloneInSecond_5 fl_X2_12 i1 (i3.ne (by decide)) ?_
  obtain ⟨i4, hb⟩ := hb
  refine wp_getR dX2_findAloneInSecond_8 fl_X2_71 i3 (i4.ne (by decide)) ?_
  refine wp_iload_n 1 dX2_findAloneInSecond_11 rfl rfl ?_
  obtain ⟨b5, hb⟩ := hb
  refine wp_laload dX2_findAloneInSecond_12 i4 b5 ?_
  refine wp_bipush (v := 25) dX2_findAloneInSecond_13 (by decide) ?_
  refine wp_callVN (as := [.long (h.2.1 (h.2.2 (h.2.2 x0 2) 2) x1.toNatClampNeg), .int 25]) dX2_findAloneInSecond_15 cb_X0_possible lk_X2_74 im_X0_possible se_X0_possible rfl (Nat.le_of_ble_eq_true rfl) ⟨by decide, by decide⟩ ⟨Nat.le_refl _, Nat.le_refl _, Nat.le_refl _⟩ i2 rfl (by decide) hb (fun r0 h7 hb => ?_)
  obtain ⟨r8, rfl, hb⟩ := hb
  refine wp_if_eq (tgt := 46) dX2_findAloneInSecond_18 (by decide) (fun c9 => ?_) (fun c9 => ?_)
  · have hb := hb.1 c9
    exact hb
  · have hb := hb.2 c9
    refine wp_aload_n 0 dX2_findAloneInSecond_21 rfl rfl ?_
    obtain ⟨i10, hb⟩ := hb
    refine wp_getR dX2_findAloneInSecond_22 fl_X2_29 i1 (i10.ne (by decide)) ?_
    refine wp_aload_n 0 dX2_findAloneInSecond_25 rfl rfl ?_
    obtain ⟨i11, hb⟩ := hb
    refine wp_getR dX2_findAloneInSecond_26 fl_X2_12 i1 (i11.ne (by decide)) ?_
    obtain ⟨i12, hb⟩ := hb
    refine wp_getR dX2_findAloneInSecond_29 fl_X2_67 i11 (i12.ne (by decide)) ?_
    refine wp_iload_n 1 dX2_findAloneInSecond_32 rfl rfl ?_
    obtain ⟨b13, hb⟩ := hb
    refine wp_laload dX2_findAloneInSecond_33 i12 b13 ?_
    refine wp_bipush (v := 25) dX2_findAloneInSecond_34 (by decide) ?_
    refine wp_callVN (as := [.long (h7.2.1 (h7.2.2 (h7.2.2 x0 2) 1) x1.toNatClampNeg), .int 25]) dX2_findAloneInSecond_36 cb_X0_possible lk_X2_74 im_X0_possible se_X0_possible rfl (Nat.le_of_ble_eq_true rfl) ⟨by decide, by decide⟩ ⟨Nat.le_refl _, Nat.le_refl _, Nat.le_refl _⟩ i10 rfl (by decide) hb (fun r0 h15 hb => ?_)
    obtain ⟨r16, rfl, hb⟩ := hb
    refine wp_if_ne (tgt := 46) dX2_findAloneInSecond_39 (by decide) (fun c17 => ?_) (fun c17 => ?_)
    · have hb := hb.1 c17
      exact hb
    · have hb := hb.2 c17
      refine wp_iconst (v := 1) dX2_findAloneInSecond_42 (by decide) ?_
      refine wp_goto (tgt := 47) dX2_findAloneInSecond_43 (by decide) ?_
      exact hb
set_option maxRecDepth 100000 in
set_option maxHeartbeats 4000000 in
theorem s_X2_findAloneInSecond_46 {l : Launch} {g : AG} {h : AH} {x0 : Nat} {x1 : Int32}  {Q : AH → Prop} (hb : L_X2_findAloneInSecond_47 l g h x0 x1 0 Q) : L_X2_findAloneInSecond_46 l g h x0 x1  Q := by
  refine wp_iconst (v := 0) dX2_findAloneInSecond_46 (by decide) ?_
  exact hb
set_option maxRecDepth 100000 in
set_option maxHeartbeats 4000000 in
theorem s_X2_findAloneInSecond_47 {l : Launch} {g : AG} {h : AH} {x0 : Nat} {x1 : Int32} {s0 : Int32} {Q : AH → Prop} (hb : ((s0 = 0 → (Q h)) ∧ (¬ (s0 = 0) → ((Is 194 x0 2) ∧ ( C_X2_ended l g h x0 (fun r22 h21 => ( ((¬ r22 = 0 → (Q h21)) ∧ (r22 = 0 → (∀ h24 : AH, h24 = ax_setI h21 x0 4 x1 → ( ∀ h26 : AH, h26 = ax_setI h24 x0 5 125 → ( Q h26)))))))))))) : L_X2_findAloneInSecond_47 l g h x0 x1 s0 Q := by
  refine wp_istore_n (lv2 := [(2, .int s0), (0, .ref x0), (1, .int x1)]) dX2_findAloneInSecond_47 rfl (by decide) rfl ?_
  refine wp_iload_n 0 dX2_findAloneInSecond_48 rfl rfl ?_
  refine wp_if_eq (tgt := 70) dX2_findAloneInSecond_49 (by decide) (fun c18 => ?_) (fun c18 => ?_)
  · have hb := hb.1 c18
    exact wp_vret rfl dX2_findAloneInSecond_70 ⟨rfl, hb⟩
  · have hb := hb.2 c18
    obtain ⟨i19, hb⟩ := hb
    refine wp_aload_n 1 dX2_findAloneInSecond_52 rfl rfl ?_
    refine wp_callV (as := []) dX2_findAloneInSecond_53 cb_X2_ended lk_X2_56 im_X2_ended se_X2_ended rfl (Nat.le_of_ble_eq_true rfl) ⟨by decide, by decide⟩ ⟨Nat.le_refl _, Nat.le_refl _, Nat.le_refl _⟩ i19 rfl (by decide) hb (fun r0 h21 hb => ?_)
    obtain ⟨r22, rfl, hb⟩ := hb
    refine wp_if_ne (tgt := 70) dX2_findAloneInSecond_56 (by decide) (fun c23 => ?_) (fun c23 => ?_)
    · have hb := hb.1 c23
      exact wp_vret rfl dX2_findAloneInSecond_70 ⟨rfl, hb⟩
    · have hb := hb.2 c23
      refine wp_aload_n 1 dX2_findAloneInSecond_59 rfl rfl ?_
      refine wp_iload_n 2 dX2_findAloneInSecond_60 rfl rfl ?_
      refine wp_putI dX2_findAloneInSecond_61 fl_X2_22 (Or.inl rfl) i19 ?_
      refine wp_topH (fun h24 e25 => ?_)
      have hb := hb h24 e25
      refine wp_aload_n 1 dX2_findAloneInSecond_64 rfl rfl ?_
      refine wp_bipush (v := 125) dX2_findAloneInSecond_65 (by decide) ?_
      refine wp_putI dX2_findAloneInSecond_67 fl_X2_26 (Or.inl rfl) i19 ?_
      refine wp_topH (fun h26 e27 => ?_)
      have hb := hb h26 e27
      exact wp_vret rfl dX2_findAloneInSecond_70 ⟨rfl, hb⟩
theorem c_X2_findAloneInSecond {l : Launch} {g : AG} {h : AH} {x0 : Nat} {x1 : Int32}  {Q : AH → Prop} (hb : L_X2_findAloneInSecond_0 l g h x0 x1  Q) : C_X2_findAloneInSecond l g h x0 x1  Q := ax_met rfl (Nat.le_of_ble_eq_true rfl) hb
def C_X2_goThrough (l : Launch) (g : AG) (h : AH) (x0 : Nat) (x1 : Nat) (x2 : Nat)  (Q : AH → Prop) : Prop := Ct l g mX2_goThrough 5 129 194 194 h [.ref x0, .ref x1, .ref x2] (ax_QV Q)
def L_X2_goThrough_0 (l : Launch) (g : AG) (h : AH) (x0 : Nat) (x1 : Nat) (x2 : Nat)  (Q : AH → Prop) : Prop := Wp l g mX2_goThrough 5 129 194 194 194 0 [(0, .ref x0), (1, .ref x1), (2, .ref x2)] [] h (FM g 194 194 (ax_QV Q))
def L_X2_goThrough_57 (l : Launch) (g : AG) (h : AH) (x0 : Nat) (x3 : Int32)  (Q : AH → Prop) : Prop := Wp l g mX2_goThrough 5 129 194 194 194 57 [(0, .ref x0), (3, .int x3)] [] h (FM g 194 194 (ax_QV Q))
def L_X2_goThrough_85 (l : Launch) (g : AG) (h : AH) (x0 : Nat) (x3 : Int32) (x4 : Int32)  (Q : AH → Prop) : Prop := Wp l g mX2_goThrough 5 129 194 194 194 85 [(0, .ref x0), (3, .int x3), (4, .int x4)] [] h (FM g 194 194 (ax_QV Q))
set_option maxRecDepth 100000 in
set_option maxHeartbeats 4000000 in
theorem s_X2_goThrough_0 {l : Launch} {g : AG} {h : AH} {x0 : Nat} {x1 : Nat} {x2 : Nat}  {Q : AH → Prop} (hb : (Is 194 x0 2) ∧ ( (Is 194 x1 0) ∧ ( ∀ h3 : AH, h3 = ax_setR h x0 0 x1 → ( (Is 194 x2 0) ∧ ( ∀ h6 : AH, h6 = ax_setR h3 x0 1 x2 → ( ∀ h8 : AH, h8 = ax_setI h6 x0 3 0 → ( ∀ h10 : AH, h10 = ax_setI h8 x0 4 (-1) → ( ∀ h12 : AH, h12 = ax_setI h10 x0 5 (-1) → ( (Is 194 (h12.2.2 x0 2) 5) ∧ ( C_X6_clear l g h12 (h12.2.2 x0 2) (fun h16 => ( (Is 194 (h16.2.2 x0 2) 5) ∧ ( C_X0_beginning l g h16 x1 (fun r20 h19 => ( C_X0_beginning l g h19 x2 (fun r23 h22 => ( C_X6_meet l g h22 (h16.2.2 x0 2) r20 r23 (-1) (-1) (fun r26 h25 => ( C_X2_lookAt l g h25 x0 0 (fun h28 => ( L_X2_goThrough_57 l g h28 x0 0  Q))))))))))))))))))))) : L_X2_goThrough_0 l g h x0 x1 x2  Q := by
  obtain ⟨i1, hb⟩ := hb
  refine wp_aload_n 0 dX2_goThrough_0 rfl rfl ?_
  obtain ⟨i2, hb⟩ := hb
  refine wp_aload_n 1 dX2_goThrough_1 rfl rfl ?_
  refine wp_putR dX2_goThrough_2 fl_X2_29 (Or.inl rfl) i1 (i2.ne (by decide)) ?_
  refine wp_topH (fun h3 e4 => ?_)
  have hb := hb h3 e4
  refine wp_aload_n 0 dX2_goThrough_5 rfl rfl ?_
  obtain ⟨i5, hb⟩ := hb
  refine wp_aload_n 2 dX2_goThrough_6 rfl rfl ?_
  refine wp_putR dX2_goThrough_7 fl_X2_33 (Or.inl rfl) i1 (i5.ne (by decide)) ?_
  refine wp_topH (fun h6 e7 => ?_)
  have hb := hb h6 e7
  refine wp_aload_n 0 dX2_goThrough_10 rfl rfl ?_
  refine wp_iconst (v := 0) dX2_goThrough_11 (by decide) ?_
  refine wp_putZ dX2_goThrough_12 fl_X2_18 (Or.inl rfl) i1 (Or.inl rfl) ?_
  refine wp_topH (fun h8 e9 => ?_)
  have hb := hb h8 e9
  refine wp_aload_n 0 dX2_goThrough_15 rfl rfl ?_
  refine wp_iconst (v := (-1)) dX2_goThrough_16 (by decide) ?_
  refine wp_putI dX2_goThrough_17 fl_X2_22 (Or.inl rfl) i1 ?_
  refine wp_topH (fun h10 e11 => ?_)
  have hb := hb h10 e11
  refine wp_aload_n 0 dX2_goThrough_20 rfl rfl ?_
  refine wp_iconst (v := (-1)) dX2_goThrough_21 (by decide) ?_
  refine wp_putI dX2_goThrough_22 fl_X2_26 (Or.inl rfl) i1 ?_
  refine wp_topH (fun h12 e13 => ?_)
  have hb := hb h12 e13
  refine wp_aload_n 0 dX2_goThrough_25 rfl rfl ?_
  obtain ⟨i14, hb⟩ := hb
  refine wp_getR dX2_goThrough_26 fl_X2_12 i1 (i14.ne (by decide)) ?_
  refine wp_callVN (as := []) dX2_goThrough_29 cb_X6_clear lk_X2_36 im_X6_clear se_X6_clear rfl (Nat.le_of_ble_eq_true rfl) ⟨by decide, by decide⟩ ⟨Nat.le_refl _, Nat.le_refl _, Nat.le_refl _⟩ i14 rfl (by decide) hb (fun r0 h16 hb => ?_)
  obtain ⟨rfl, hb⟩ := hb
  refine wp_aload_n 0 dX2_goThrough_32 rfl rfl ?_
  obtain ⟨i17, hb⟩ := hb
  refine wp_getR dX2_goThrough_33 fl_X2_12 i1 (i17.ne (by decide)) ?_
  refine wp_aload_n 1 dX2_goThrough_36 rfl rfl ?_
  refine wp_callVN (as := []) dX2_goThrough_37 cb_X0_beginning lk_X2_39 im_X0_beginning se_X0_beginning rfl (Nat.le_of_ble_eq_true rfl) ⟨by decide, by decide⟩ ⟨Nat.le_refl _, Nat.le_refl _, Nat.le_refl _⟩ i2 rfl (by decide) hb (fun r0 h19 hb => ?_)
  obtain ⟨r20, rfl, hb⟩ := hb
  refine wp_aload_n 2 dX2_goThrough_40 rfl rfl ?_
  refine wp_callVN (as := []) dX2_goThrough_41 cb_X0_beginning lk_X2_39 im_X0_beginning se_X0_beginning rfl (Nat.le_of_ble_eq_true rfl) ⟨by decide, by decide⟩ ⟨Nat.le_refl _, Nat.le_refl _, Nat.le_refl _⟩ i5 rfl (by decide) hb (fun r0 h22 hb => ?_)
  obtain ⟨r23, rfl, hb⟩ := hb
  refine wp_iconst (v := (-1)) dX2_goThrough_44 (by decide) ?_
  refine wp_iconst (v := (-1)) dX2_goThrough_45 (by decide) ?_
  refine wp_callVN (as := [.long r20, .long r23, .int (-1), .int (-1)]) dX2_goThrough_46 cb_X6_meet lk_X2_45 im_X6_meet se_X6_meet rfl (Nat.le_of_ble_eq_true rfl) ⟨by decide, by decide⟩ ⟨Nat.le_refl _, Nat.le_refl _, Nat.le_refl _⟩ i17 rfl (by decide) hb (fun r0 h25 hb => ?_)
  obtain ⟨r26, rfl, hb⟩ := hb
  refine wp_pop dX2_goThrough_49 rfl ?_
  refine wp_aload_n 0 dX2_goThrough_50 rfl rfl ?_
  refine wp_iconst (v := 0) dX2_goThrough_51 (by decide) ?_
  refine wp_callV (as := [.int 0]) dX2_goThrough_52 cb_X2_lookAt lk_X2_49 im_X2_lookAt se_X2_lookAt rfl (Nat.le_of_ble_eq_true rfl) ⟨by decide, by decide⟩ ⟨Nat.le_refl _, Nat.le_refl _, Nat.le_refl _⟩ i1 rfl (by decide) hb (fun r0 h28 hb => ?_)
  obtain ⟨rfl, hb⟩ := hb
  refine wp_iconst (v := 0) dX2_goThrough_55 (by decide) ?_
  refine wp_istore_n (lv2 := [(3, .int 0), (0, .ref x0), (1, .ref x1), (2, .ref x2)]) dX2_goThrough_56 rfl (by decide) rfl ?_
  exact wp_sub [1, 0] rfl hb
set_option maxRecDepth 100000 in
set_option maxHeartbeats 4000000 in
theorem s_X2_goThrough_57 {l : Launch} {g : AG} {h : AH} {x0 : Nat} {x3 : Int32}  {Q : AH → Prop} (hb : (Is 194 x0 2) ∧ ( (Is 194 (h.2.2 x0 2) 5) ∧ ( ((h.1 (h.2.2 x0 2) 0 ≤ x3 → (Q h)) ∧ (¬ (h.1 (h.2.2 x0 2) 0 ≤ x3) → (((400 ≤ x3 → (Q h)) ∧ (¬ (400 ≤ x3) → (C_X2_ended l g h x0 (fun r35 h34 => ( ((¬ r35 = 0 → (Q h34)) ∧ (r35 = 0 → (L_X2_goThrough_85 l g h34 x0 x3 0  Q)))))))))))))) : L_X2_goThrough_57 l g h x0 x3  Q := by
  refine wp_iload_n 1 dX2_goThrough_57 rfl rfl ?_
  obtain ⟨i29, hb⟩ := hb
  refine wp_aload_n 0 dX2_goThrough_58 rfl rfl ?_
  obtain ⟨i30, hb⟩ := hb
  refine wp_getR dX2_goThrough_59 fl_X2_12 i29 (i30.ne (by decide)) ?_
  refine wp_getI dX2_goThrough_62 fl_X2_53 i30 ?_
  refine wp_icmp_ge (tgt := 138) dX2_goThrough_65 (by decide) (fun c31 => ?_) (fun c31 => ?_)
  · have hb := hb.1 c31
    exact wp_vret rfl dX2_goThrough_138 ⟨rfl, hb⟩
  · have hb := hb.2 c31
    refine wp_iload_n 1 dX2_goThrough_68 rfl rfl ?_
    refine wp_sipush (v := 400) dX2_goThrough_69 (by decide) ?_
    refine wp_icmp_ge (tgt := 138) dX2_goThrough_72 (by decide) (fun c32 => ?_) (fun c32 => ?_)
    · have hb := hb.1 c32
      exact wp_vret rfl dX2_goThrough_138 ⟨rfl, hb⟩
    · have hb := hb.2 c32
      refine wp_aload_n 0 dX2_goThrough_75 rfl rfl ?_
      refine wp_callV (as := []) dX2_goThrough_76 cb_X2_ended lk_X2_56 im_X2_ended se_X2_ended rfl (Nat.le_of_ble_eq_true rfl) ⟨by decide, by decide⟩ ⟨Nat.le_refl _, Nat.le_refl _, Nat.le_refl _⟩ i29 rfl (by decide) hb (fun r0 h34 hb => ?_)
      obtain ⟨r35, rfl, hb⟩ := hb
      refine wp_if_ne (tgt := 138) dX2_goThrough_79 (by decide) (fun c36 => ?_) (fun c36 => ?_)
      · have hb := hb.1 c36
        exact wp_vret rfl dX2_goThrough_138 ⟨rfl, hb⟩
      · have hb := hb.2 c36
        refine wp_iconst (v := 0) dX2_goThrough_82 (by decide) ?_
        refine wp_istore (lv2 := [(4, .int 0), (0, .ref x0), (3, .int x3)]) dX2_goThrough_83 (by decide) rfl ?_
        exact wp_sub [1, 2, 0] rfl hb
set_option maxRecDepth 100000 in
set_option maxHeartbeats 4000000 in
theorem s_X2_goThrough_85 {l : Launch} {g : AG} {h : AH} {x0 : Nat} {x3 : Int32} {x4 : Int32}  {Q : AH → Prop} (hb : ((27 ≤ x4 → ((Is 194 x0 2) ∧ ( C_X2_findAloneInSecond l g h x0 x3 (fun h40 => ( ∀ v41 : Int32, v41 = x3 + (1) → ( L_X2_goThrough_57 l g h40 x0 v41  Q)))))) ∧ (¬ (27 ≤ x4) → ((Is 194 x0 2) ∧ ( C_X2_ended l g h x0 (fun r46 h45 => ( ((¬ r46 = 0 → (C_X2_findAloneInSecond l g h45 x0 x3 (fun h49 => ( ∀ v50 : Int32, v50 = x3 + (1) → ( L_X2_goThrough_57 l g h49 x0 v50  Q))))) ∧ (r46 = 0 → ((Is 194 (h45.2.2 x0 2) 5) ∧ ( ∀ v53 : Int32, v53 = (h45.1 (h45.2.2 x0 2) 0) → ( C_X2_goByFirst l g h45 x0 x3 x4 (fun h56 => ( C_X2_lookAt l g h56 x0 v53 (fun h58 => ( ∀ v59 : Int32, v59 = x4 + (1) → ( L_X2_goThrough_85 l g h58 x0 x3 v59  Q))))))))))))))))) : L_X2_goThrough_85 l g h x0 x3 x4  Q := by
  refine wp_iload 2 dX2_goThrough_85 rfl ?_
  refine wp_bipush (v := 27) dX2_goThrough_87 (by decide) ?_
  refine wp_icmp_ge (tgt := 127) dX2_goThrough_89 (by decide) (fun c37 => ?_) (fun c37 => ?_)
  · have hb := hb.1 c37
    obtain ⟨i38, hb⟩ := hb
    refine wp_aload_n 0 dX2_goThrough_127 rfl rfl ?_
    refine wp_iload_n 1 dX2_goThrough_128 rfl rfl ?_
    refine wp_callV (as := [.int x3]) dX2_goThrough_129 cb_X2_findAloneInSecond lk_X2_64 im_X2_findAloneInSecond se_X2_findAloneInSecond rfl (Nat.le_of_ble_eq_true rfl) ⟨by decide, by decide⟩ ⟨Nat.le_refl _, Nat.le_refl _, Nat.le_refl _⟩ i38 rfl (by decide) hb (fun r0 h40 hb => ?_)
    obtain ⟨rfl, hb⟩ := hb
    obtain ⟨v41, e42⟩ : ∃ y : Int32, y = x3 + (1) := ⟨_, rfl⟩
    have hb := hb v41 e42
    refine wp_iinc (v := v41) (lv2 := [(3, .int v41), (0, .ref x0), (4, .int x4)]) 1 dX2_goThrough_132 rfl (by rw [e42]; rfl) (by decide) rfl ?_
    refine wp_goto (tgt := 57) dX2_goThrough_135 (by decide) ?_
    exact wp_sub [1, 0] rfl hb
  · have hb := hb.2 c37
    obtain ⟨i43, hb⟩ := hb
    refine wp_aload_n 0 dX2_goThrough_92 rfl rfl ?_
    refine wp_callV (as := []) dX2_goThrough_93 cb_X2_ended lk_X2_56 im_X2_ended se_X2_ended rfl (Nat.le_of_ble_eq_true rfl) ⟨by decide, by decide⟩ ⟨Nat.le_refl _, Nat.le_refl _, Nat.le_refl _⟩ i43 rfl (by decide) hb (fun r0 h45 hb => ?_)
    obtain ⟨r46, rfl, hb⟩ := hb
    refine wp_if_ne (tgt := 127) dX2_goThrough_96 (by decide) (fun c47 => ?_) (fun c47 => ?_)
    · have hb := hb.1 c47
      refine wp_aload_n 0 dX2_goThrough_127 rfl rfl ?_
      refine wp_iload_n 1 dX2_goThrough_128 rfl rfl ?_
      refine wp_callV (as := [.int x3]) dX2_goThrough_129 cb_X2_findAloneInSecond lk_X2_64 im_X2_findAloneInSecond se_X2_findAloneInSecond rfl (Nat.le_of_ble_eq_true rfl) ⟨by decide, by decide⟩ ⟨Nat.le_refl _, Nat.le_refl _, Nat.le_refl _⟩ i43 rfl (by decide) hb (fun r0 h49 hb => ?_)
      obtain ⟨rfl, hb⟩ := hb
      obtain ⟨v50, e51⟩ : ∃ y : Int32, y = x3 + (1) := ⟨_, rfl⟩
      have hb := hb v50 e51
      refine wp_iinc (v := v50) (lv2 := [(3, .int v50), (0, .ref x0), (4, .int x4)]) 1 dX2_goThrough_132 rfl (by rw [e51]; rfl) (by decide) rfl ?_
      refine wp_goto (tgt := 57) dX2_goThrough_135 (by decide) ?_
      exact wp_sub [1, 0] rfl hb
    · have hb := hb.2 c47
      refine wp_aload_n 0 dX2_goThrough_99 rfl rfl ?_
      obtain ⟨i52, hb⟩ := hb
      refine wp_getR dX2_goThrough_100 fl_X2_12 i43 (i52.ne (by decide)) ?_
      refine wp_getI dX2_goThrough_103 fl_X2_53 i52 ?_
      refine wp_topi (fun v53 e54 => ?_)
      have hb := hb v53 e54
      refine wp_istore (lv2 := [(5, .int v53), (0, .ref x0), (3, .int x3), (4, .int x4)]) dX2_goThrough_106 (by decide) rfl ?_
      refine wp_aload_n 1 dX2_goThrough_108 rfl rfl ?_
      refine wp_iload_n 2 dX2_goThrough_109 rfl rfl ?_
      refine wp_iload 3 dX2_goThrough_110 rfl ?_
      refine wp_callV (as := [.int x3, .int x4]) dX2_goThrough_112 cb_X2_goByFirst lk_X2_60 im_X2_goByFirst se_X2_goByFirst rfl (Nat.le_of_ble_eq_true rfl) ⟨by decide, by decide⟩ ⟨Nat.le_refl _, Nat.le_refl _, Nat.le_refl _⟩ i43 rfl (by decide) hb (fun r0 h56 hb => ?_)
      obtain ⟨rfl, hb⟩ := hb
      refine wp_aload_n 1 dX2_goThrough_115 rfl rfl ?_
      refine wp_iload 0 dX2_goThrough_116 rfl ?_
      refine wp_callV (as := [.int v53]) dX2_goThrough_118 cb_X2_lookAt lk_X2_49 im_X2_lookAt se_X2_lookAt rfl (Nat.le_of_ble_eq_true rfl) ⟨by decide, by decide⟩ ⟨Nat.le_refl _, Nat.le_refl _, Nat.le_refl _⟩ i43 rfl (by decide) hb (fun r0 h58 hb => ?_)
      obtain ⟨rfl, hb⟩ := hb
      obtain ⟨v59, e60⟩ : ∃ y : Int32, y = x4 + (1) := ⟨_, rfl⟩
      have hb := hb v59 e60
      refine wp_iinc (v := v59) (lv2 := [(4, .int v59), (5, .int v53), (0, .ref x0), (3, .int x3)]) 3 dX2_goThrough_121 rfl (by rw [e60]; rfl) (by decide) rfl ?_
      refine wp_goto (tgt := 85) dX2_goThrough_124 (by decide) ?_
      exact wp_sub [2, 3, 0] rfl hb
theorem c_X2_goThrough {l : Launch} {g : AG} {h : AH} {x0 : Nat} {x1 : Nat} {x2 : Nat}  {Q : AH → Prop} (hb : L_X2_goThrough_0 l g h x0 x1 x2  Q) : C_X2_goThrough l g h x0 x1 x2  Q := ax_met rfl (Nat.le_of_ble_eq_true rfl) hb
