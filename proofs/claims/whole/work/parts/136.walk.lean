def C_X9_cut (l : Launch) (g : AG) (h : AH) (x0 : Nat) (x1 : Int32)  (Q : Int32 → AH → Prop) : Prop := Ct l g mX9_cut 0 0 194 194 h [.ref x0, .int x1] (ax_QI Q)
def L_X9_cut_0 (l : Launch) (g : AG) (h : AH) (x0 : Nat) (x1 : Int32)  (Q : Int32 → AH → Prop) : Prop := Wp l g mX9_cut 0 0 194 194 194 0 [(0, .ref x0), (1, .int x1)] [] h (FM g 194 194 (ax_QI Q))
set_option maxRecDepth 100000 in
set_option maxHeartbeats 4000000 in
theorem s_X9_cut_0 {l : Launch} {g : AG} {h : AH} {x0 : Nat} {x1 : Int32}  {Q : Int32 → AH → Prop} (hb : ((x1 < 0 → ((Is 194 x0 8) ∧ ( ∀ h3 : AH, h3 = ax_setI h x0 12 2 → ( Q 0 h3)))) ∧ (¬ (x1 < 0) → ((Is 194 x0 8) ∧ ( ((x1 ≤ h.1 x0 9 → (∀ h7 : AH, h7 = ax_setI h x0 9 x1 → ( ∀ h9 : AH, h9 = ax_setI h7 x0 12 0 → ( Q 1 h9)))) ∧ (¬ (x1 ≤ h.1 x0 9) → (∀ h11 : AH, h11 = ax_setI h x0 12 2 → ( Q 0 h11))))))))) : L_X9_cut_0 l g h x0 x1  Q := by
  refine wp_iload_n 1 dX9_cut_0 rfl rfl ?_
  refine wp_if_lt (tgt := 12) dX9_cut_1 (by decide) (fun c1 => ?_) (fun c1 => ?_)
  · have hb := hb.1 c1
    obtain ⟨i2, hb⟩ := hb
    refine wp_aload_n 0 dX9_cut_12 rfl rfl ?_
    refine wp_iconst (v := 2) dX9_cut_13 (by decide) ?_
    refine wp_putI dX9_cut_14 fl_X9_69 (Or.inl rfl) i2 ?_
    refine wp_topH (fun h3 e4 => ?_)
    have hb := hb h3 e4
    refine wp_iconst (v := 0) dX9_cut_17 (by decide) ?_
    exact wp_zret rfl dX9_cut_18 (Or.inl rfl) ⟨_, rfl, hb⟩
  · have hb := hb.2 c1
    refine wp_iload_n 1 dX9_cut_4 rfl rfl ?_
    obtain ⟨i5, hb⟩ := hb
    refine wp_aload_n 0 dX9_cut_5 rfl rfl ?_
    refine wp_getI dX9_cut_6 fl_X9_60 i5 ?_
    refine wp_icmp_le (tgt := 19) dX9_cut_9 (by decide) (fun c6 => ?_) (fun c6 => ?_)
    · have hb := hb.1 c6
      refine wp_aload_n 0 dX9_cut_19 rfl rfl ?_
      refine wp_iload_n 1 dX9_cut_20 rfl rfl ?_
      refine wp_putI dX9_cut_21 fl_X9_60 (Or.inl rfl) i5 ?_
      refine wp_topH (fun h7 e8 => ?_)
      have hb := hb h7 e8
      refine wp_aload_n 0 dX9_cut_24 rfl rfl ?_
      refine wp_iconst (v := 0) dX9_cut_25 (by decide) ?_
      refine wp_putI dX9_cut_26 fl_X9_69 (Or.inl rfl) i5 ?_
      refine wp_topH (fun h9 e10 => ?_)
      have hb := hb h9 e10
      refine wp_iconst (v := 1) dX9_cut_29 (by decide) ?_
      exact wp_zret rfl dX9_cut_30 (Or.inr rfl) ⟨_, rfl, hb⟩
    · have hb := hb.2 c6
      refine wp_aload_n 0 dX9_cut_12 rfl rfl ?_
      refine wp_iconst (v := 2) dX9_cut_13 (by decide) ?_
      refine wp_putI dX9_cut_14 fl_X9_69 (Or.inl rfl) i5 ?_
      refine wp_topH (fun h11 e12 => ?_)
      have hb := hb h11 e12
      refine wp_iconst (v := 0) dX9_cut_17 (by decide) ?_
      exact wp_zret rfl dX9_cut_18 (Or.inl rfl) ⟨_, rfl, hb⟩
theorem c_X9_cut {l : Launch} {g : AG} {h : AH} {x0 : Nat} {x1 : Int32}  {Q : Int32 → AH → Prop} (hb : L_X9_cut_0 l g h x0 x1  Q) : C_X9_cut l g h x0 x1  Q := ax_met rfl (Nat.le_of_ble_eq_true rfl) hb
def C_X0_tryAct (l : Launch) (g : AG) (h : AH) (x0 : Nat) (x1 : Int64) (x3 : Int32)  (Q : Int64 → AH → Prop) : Prop := Ct l g mX0_tryAct 4 101 194 194 h [.ref x0, .long x1, .int x3] (ax_QL Q)
def L_X0_tryAct_0 (l : Launch) (g : AG) (h : AH) (x0 : Nat) (x1 : Int64) (x3 : Int32)  (Q : Int64 → AH → Prop) : Prop := Wp l g mX0_tryAct 4 101 194 194 194 0 [(0, .ref x0), (1, .long x1), (3, .int x3)] [] h (FM g 194 194 (ax_QL Q))
set_option maxRecDepth 100000 in
set_option maxHeartbeats 4000000 in
theorem s_X0_tryAct_0 {l : Launch} {g : AG} {h : AH} {x0 : Nat} {x1 : Int64} {x3 : Int32}  {Q : Int64 → AH → Prop} (hb : C_X3_faultOf l g h x1 (fun r3 h2 => ( ((0 < r3 → (Q x1 h2)) ∧ (¬ (0 < r3) → ((Is 194 x0 0) ∧ ( C_X0_possible l g h2 x0 x1 x3 (fun r8 h7 => ( ((¬ r8 = 0 → (C_X0_after l g h7 x0 x1 x3 (fun r12 h11 => ( Q r12 h11)))) ∧ (r8 = 0 → (Q x1 h7)))))))))))) : L_X0_tryAct_0 l g h x0 x1 x3  Q := by
  refine wp_lload_n 1 dX0_tryAct_0 rfl rfl ?_
  refine wp_callSN (as := [.long x1]) dX0_tryAct_1 cb_X3_faultOf lk_X0_131 st_X3_faultOf rfl (Nat.le_of_ble_eq_true rfl) ⟨by decide, by decide⟩ ⟨Nat.le_refl _, Nat.le_refl _, Nat.le_refl _⟩ hb (fun r0 h2 hb => ?_)
  obtain ⟨r3, rfl, hb⟩ := hb
  refine wp_if_gt (tgt := 16) dX0_tryAct_4 (by decide) (fun c4 => ?_) (fun c4 => ?_)
  · have hb := hb.1 c4
    refine wp_lload_n 1 dX0_tryAct_16 rfl rfl ?_
    refine wp_goto (tgt := 26) dX0_tryAct_17 (by decide) ?_
    exact wp_lret rfl dX0_tryAct_26 ⟨_, rfl, hb⟩
  · have hb := hb.2 c4
    obtain ⟨i5, hb⟩ := hb
    refine wp_aload_n 0 dX0_tryAct_7 rfl rfl ?_
    refine wp_lload_n 1 dX0_tryAct_8 rfl rfl ?_
    refine wp_iload_n 2 dX0_tryAct_9 rfl rfl ?_
    refine wp_callV (as := [.long x1, .int x3]) dX0_tryAct_10 cb_X0_possible lk_X0_113 im_X0_possible se_X0_possible rfl (Nat.le_of_ble_eq_true rfl) ⟨by decide, by decide⟩ ⟨Nat.le_refl _, Nat.le_refl _, Nat.le_refl _⟩ i5 rfl (by decide) hb (fun r0 h7 hb => ?_)
    obtain ⟨r8, rfl, hb⟩ := hb
    refine wp_if_ne (tgt := 20) dX0_tryAct_13 (by decide) (fun c9 => ?_) (fun c9 => ?_)
    · have hb := hb.1 c9
      refine wp_aload_n 0 dX0_tryAct_20 rfl rfl ?_
      refine wp_lload_n 1 dX0_tryAct_21 rfl rfl ?_
      refine wp_iload_n 2 dX0_tryAct_22 rfl rfl ?_
      refine wp_callV (as := [.long x1, .int x3]) dX0_tryAct_23 cb_X0_after lk_X0_134 im_X0_after se_X0_after rfl (Nat.le_of_ble_eq_true rfl) ⟨by decide, by decide⟩ ⟨Nat.le_refl _, Nat.le_refl _, Nat.le_refl _⟩ i5 rfl (by decide) hb (fun r0 h11 hb => ?_)
      obtain ⟨r12, rfl, hb⟩ := hb
      exact wp_lret rfl dX0_tryAct_26 ⟨_, rfl, hb⟩
    · have hb := hb.2 c9
      refine wp_lload_n 1 dX0_tryAct_16 rfl rfl ?_
      refine wp_goto (tgt := 26) dX0_tryAct_17 (by decide) ?_
      exact wp_lret rfl dX0_tryAct_26 ⟨_, rfl, hb⟩
theorem c_X0_tryAct {l : Launch} {g : AG} {h : AH} {x0 : Nat} {x1 : Int64} {x3 : Int32}  {Q : Int64 → AH → Prop} (hb : L_X0_tryAct_0 l g h x0 x1 x3  Q) : C_X0_tryAct l g h x0 x1 x3  Q := ax_met rfl (Nat.le_of_ble_eq_true rfl) hb
def C_X9_actsToFault (l : Launch) (g : AG) (h : AH) (x0 : Nat) (x1 : Nat)  (Q : Int32 → AH → Prop) : Prop := Ct l g mX9_actsToFault 5 124 194 194 h [.ref x0, .ref x1] (ax_QI Q)
def L_X9_actsToFault_0 (l : Launch) (g : AG) (h : AH) (x0 : Nat) (x1 : Nat)  (Q : Int32 → AH → Prop) : Prop := Wp l g mX9_actsToFault 5 124 194 194 194 0 [(0, .ref x0), (1, .ref x1)] [] h (FM g 194 194 (ax_QI Q))
def L_X9_actsToFault_12 (l : Launch) (g : AG) (h : AH) (x0 : Nat) (x1 : Nat) (x2 : Int32)  (Q : Int32 → AH → Prop) : Prop := Wp l g mX9_actsToFault 5 124 194 194 194 12 [(0, .ref x0), (1, .ref x1), (2, .int x2)] [] h (FM g 194 194 (ax_QI Q))
set_option maxRecDepth 100000 in
set_option maxHeartbeats 4000000 in
theorem s_X9_actsToFault_0 {l : Launch} {g : AG} {h : AH} {x0 : Nat} {x1 : Nat}  {Q : Int32 → AH → Prop} (hb : (Is 194 x0 8) ∧ ( (Is 194 (h.2.2 x0 10) 21) ∧ ( (Is 194 x1 0) ∧ ( C_X0_beginning l g h x1 (fun r6 h5 => ( (vp_in 0 (ax_s (h.2.2 x0 10)).2) ∧ ( ∀ h8 : AH, h8 = ax_setL h5 (h.2.2 x0 10) (0 : Int32).toNatClampNeg r6 → ( L_X9_actsToFault_12 l g h8 x0 x1 0  Q)))))))) : L_X9_actsToFault_0 l g h x0 x1  Q := by
  obtain ⟨i1, hb⟩ := hb
  refine wp_aload_n 0 dX9_actsToFault_0 rfl rfl ?_
  obtain ⟨i2, hb⟩ := hb
  refine wp_getR dX9_actsToFault_1 fl_X9_63 i1 (i2.ne (by decide)) ?_
  refine wp_iconst (v := 0) dX9_actsToFault_4 (by decide) ?_
  obtain ⟨i3, hb⟩ := hb
  refine wp_aload_n 1 dX9_actsToFault_5 rfl rfl ?_
  refine wp_callVN (as := []) dX9_actsToFault_6 cb_X0_beginning lk_X9_84 im_X0_beginning se_X0_beginning rfl (Nat.le_of_ble_eq_true rfl) ⟨by decide, by decide⟩ ⟨Nat.le_refl _, Nat.le_refl _, Nat.le_refl _⟩ i3 rfl (by decide) hb (fun r0 h5 hb => ?_)
  obtain ⟨r6, rfl, hb⟩ := hb
  obtain ⟨b7, hb⟩ := hb
  refine wp_lastore dX9_actsToFault_9 i2 b7 ?_
  refine wp_topH (fun h8 e9 => ?_)
  have hb := hb h8 e9
  refine wp_iconst (v := 0) dX9_actsToFault_10 (by decide) ?_
  refine wp_istore_n (lv2 := [(2, .int 0), (0, .ref x0), (1, .ref x1)]) dX9_actsToFault_11 rfl (by decide) rfl ?_
  exact wp_sub [1, 2, 0] rfl hb
set_option maxRecDepth 100000 in
set_option maxHeartbeats 4000000 in
theorem s_X9_actsToFault_12 {l : Launch} {g : AG} {h : AH} {x0 : Nat} {x1 : Nat} {x2 : Int32}  {Q : Int32 → AH → Prop} (hb : (Is 194 x0 8) ∧ ( ((h.1 x0 9 ≤ x2 → (Q (h.1 x0 9) h)) ∧ (¬ (h.1 x0 9 ≤ x2) → ((Is 194 (h.2.2 x0 10) 21) ∧ ( (Is 194 x1 0) ∧ ( (Is 194 (h.2.2 x0 10) 21) ∧ ( (vp_in x2 (ax_s (h.2.2 x0 10)).2) ∧ ( (Is 194 (h.2.2 x0 8) 20) ∧ ( (vp_in x2 (ax_s (h.2.2 x0 8)).2) ∧ ( C_X0_tryAct l g h x1 (h.2.1 (h.2.2 x0 10) x2.toNatClampNeg) (h.1 (h.2.2 x0 8) x2.toNatClampNeg) (fun r20 h19 => ( (vp_in (x2 + 1) (ax_s (h.2.2 x0 10)).2) ∧ ( ∀ h22 : AH, h22 = ax_setL h19 (h.2.2 x0 10) (x2 + 1).toNatClampNeg r20 → ( (Is 194 (h22.2.2 x0 10) 21) ∧ ( (vp_in (x2 + 1) (ax_s (h22.2.2 x0 10)).2) ∧ ( C_X3_faultOf l g h22 (h22.2.1 (h22.2.2 x0 10) (x2 + 1).toNatClampNeg) (fun r28 h27 => ( ((r28 ≤ 0 → (∀ v30 : Int32, v30 = x2 + (1) → ( L_X9_actsToFault_12 l g h27 x0 x1 v30  Q))) ∧ (¬ (r28 ≤ 0) → (Q (x2 + 1) h27)))))))))))))))))))))) : L_X9_actsToFault_12 l g h x0 x1 x2  Q := by
  refine wp_iload_n 2 dX9_actsToFault_12 rfl rfl ?_
  obtain ⟨i10, hb⟩ := hb
  refine wp_aload_n 0 dX9_actsToFault_13 rfl rfl ?_
  refine wp_getI dX9_actsToFault_14 fl_X9_60 i10 ?_
  refine wp_icmp_ge (tgt := 68) dX9_actsToFault_17 (by decide) (fun c11 => ?_) (fun c11 => ?_)
  · have hb := hb.1 c11
    refine wp_aload_n 0 dX9_actsToFault_68 rfl rfl ?_
    refine wp_getI dX9_actsToFault_69 fl_X9_60 i10 ?_
    exact wp_iret rfl dX9_actsToFault_72 ⟨_, rfl, hb⟩
  · have hb := hb.2 c11
    refine wp_aload_n 0 dX9_actsToFault_20 rfl rfl ?_
    obtain ⟨i12, hb⟩ := hb
    refine wp_getR dX9_actsToFault_21 fl_X9_63 i10 (i12.ne (by decide)) ?_
    refine wp_iload_n 2 dX9_actsToFault_24 rfl rfl ?_
    refine wp_iconst (v := 1) dX9_actsToFault_25 (by decide) ?_
    refine wp_iadd dX9_actsToFault_26 ?_
    obtain ⟨i13, hb⟩ := hb
    refine wp_aload_n 1 dX9_actsToFault_27 rfl rfl ?_
    refine wp_aload_n 0 dX9_actsToFault_28 rfl rfl ?_
    obtain ⟨i14, hb⟩ := hb
    refine wp_getR dX9_actsToFault_29 fl_X9_63 i10 (i14.ne (by decide)) ?_
    refine wp_iload_n 2 dX9_actsToFault_32 rfl rfl ?_
    obtain ⟨b15, hb⟩ := hb
    refine wp_laload dX9_actsToFault_33 i14 b15 ?_
    refine wp_aload_n 0 dX9_actsToFault_34 rfl rfl ?_
    obtain ⟨i16, hb⟩ := hb
    refine wp_getR dX9_actsToFault_35 fl_X9_57 i10 (i16.ne (by decide)) ?_
    refine wp_iload_n 2 dX9_actsToFault_38 rfl rfl ?_
    obtain ⟨b17, hb⟩ := hb
    refine wp_iaload dX9_actsToFault_39 i16 b17 ?_
    refine wp_callVN (as := [.long (h.2.1 (h.2.2 x0 10) x2.toNatClampNeg), .int (h.1 (h.2.2 x0 8) x2.toNatClampNeg)]) dX9_actsToFault_40 cb_X0_tryAct lk_X9_275 im_X0_tryAct se_X0_tryAct rfl (Nat.le_of_ble_eq_true rfl) ⟨by decide, by decide⟩ ⟨Nat.le_refl _, Nat.le_refl _, Nat.le_refl _⟩ i13 rfl (by decide) hb (fun r0 h19 hb => ?_)
    obtain ⟨r20, rfl, hb⟩ := hb
    obtain ⟨b21, hb⟩ := hb
    refine wp_lastore dX9_actsToFault_43 i12 b21 ?_
    refine wp_topH (fun h22 e23 => ?_)
    have hb := hb h22 e23
    refine wp_aload_n 0 dX9_actsToFault_44 rfl rfl ?_
    obtain ⟨i24, hb⟩ := hb
    refine wp_getR dX9_actsToFault_45 fl_X9_63 i10 (i24.ne (by decide)) ?_
    refine wp_iload_n 2 dX9_actsToFault_48 rfl rfl ?_
    refine wp_iconst (v := 1) dX9_actsToFault_49 (by decide) ?_
    refine wp_iadd dX9_actsToFault_50 ?_
    obtain ⟨b25, hb⟩ := hb
    refine wp_laload dX9_actsToFault_51 i24 b25 ?_
    refine wp_callSN (as := [.long (h22.2.1 (h22.2.2 x0 10) (x2 + 1).toNatClampNeg)]) dX9_actsToFault_52 cb_X3_faultOf lk_X9_152 st_X3_faultOf rfl (Nat.le_of_ble_eq_true rfl) ⟨by decide, by decide⟩ ⟨Nat.le_refl _, Nat.le_refl _, Nat.le_refl _⟩ hb (fun r0 h27 hb => ?_)
    obtain ⟨r28, rfl, hb⟩ := hb
    refine wp_if_le (tgt := 62) dX9_actsToFault_55 (by decide) (fun c29 => ?_) (fun c29 => ?_)
    · have hb := hb.1 c29
      obtain ⟨v30, e31⟩ : ∃ y : Int32, y = x2 + (1) := ⟨_, rfl⟩
      have hb := hb v30 e31
      refine wp_iinc (v := v30) (lv2 := [(2, .int v30), (0, .ref x0), (1, .ref x1)]) 2 dX9_actsToFault_62 rfl (by rw [e31]; rfl) (by decide) rfl ?_
      refine wp_goto (tgt := 12) dX9_actsToFault_65 (by decide) ?_
      exact wp_sub [1, 2, 0] rfl hb
    · have hb := hb.2 c29
      refine wp_iload_n 2 dX9_actsToFault_58 rfl rfl ?_
      refine wp_iconst (v := 1) dX9_actsToFault_59 (by decide) ?_
      refine wp_iadd dX9_actsToFault_60 ?_
      exact wp_iret rfl dX9_actsToFault_61 ⟨_, rfl, hb⟩
theorem c_X9_actsToFault {l : Launch} {g : AG} {h : AH} {x0 : Nat} {x1 : Nat}  {Q : Int32 → AH → Prop} (hb : L_X9_actsToFault_0 l g h x0 x1  Q) : C_X9_actsToFault l g h x0 x1  Q := ax_met rfl (Nat.le_of_ble_eq_true rfl) hb
