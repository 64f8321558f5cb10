def C_X12_isAlike (l : Launch) (g : AG) (h : AH) (x0 : Nat) (x1 : Int32)  (Q : Int32 → AH → Prop) : Prop := Ct l g mX12_isAlike 2 53 194 194 h [.ref x0, .int x1] (ax_QI Q)
def L_X12_isAlike_0 (l : Launch) (g : AG) (h : AH) (x0 : Nat) (x1 : Int32)  (Q : Int32 → AH → Prop) : Prop := Wp l g mX12_isAlike 2 53 194 194 194 0 [(0, .ref x0), (1, .int x1)] [] h (FM g 194 194 (ax_QI Q))
set_option maxRecDepth 100000 in
set_option maxHeartbeats 4000000 in
theorem s_X12_isAlike_0 {l : Launch} {g : AG} {h : AH} {x0 : Nat} {x1 : Int32}  {Q : Int32 → AH → Prop} (hb : (Is 194 x0 11) ∧ ( (Is 194 (h.2.2 x0 44) 21) ∧ ( (vp_in x1 (ax_s (h.2.2 x0 44)).2) ∧ ( (Is 194 (h.2.2 x0 45) 21) ∧ ( (vp_in x1 (ax_s (h.2.2 x0 45)).2) ∧ ( C_X12_unpack l g h x0 (h.2.1 (h.2.2 x0 44) x1.toNatClampNeg) (h.2.1 (h.2.2 x0 45) x1.toNatClampNeg) (fun h7 => ( (Is 194 (h7.2.2 x0 4) 25) ∧ ( (vp_in 0 (ax_s (h7.2.2 x0 4)).2) ∧ ( (Is 194 (h7.2.2 (h7.2.2 x0 4) (0 : Int32).toNatClampNeg) 9) ∧ ( C_X12_sees l g h7 x0 (h7.2.2 (h7.2.2 x0 4) (0 : Int32).toNatClampNeg) (fun h12 => ( (Is 194 (h12.2.2 x0 46) 21) ∧ ( (vp_in x1 (ax_s (h12.2.2 x0 46)).2) ∧ ( (Is 194 (h12.2.2 x0 47) 21) ∧ ( (vp_in x1 (ax_s (h12.2.2 x0 47)).2) ∧ ( C_X12_unpack l g h12 x0 (h12.2.1 (h12.2.2 x0 46) x1.toNatClampNeg) (h12.2.1 (h12.2.2 x0 47) x1.toNatClampNeg) (fun h18 => ( (Is 194 (h18.2.2 x0 4) 25) ∧ ( (vp_in 1 (ax_s (h18.2.2 x0 4)).2) ∧ ( (Is 194 (h18.2.2 (h18.2.2 x0 4) (1 : Int32).toNatClampNeg) 9) ∧ ( C_X12_isSeen l g h18 x0 (h18.2.2 (h18.2.2 x0 4) (1 : Int32).toNatClampNeg) (fun r24 h23 => ( (r24 = 0 ∨ r24 = 1) ∧ ( Q r24 h23))))))))))))))))))))))))) : L_X12_isAlike_0 l g h x0 x1  Q := by
  obtain ⟨i1, hb⟩ := hb
  refine wp_aload_n 0 dX12_isAlike_0 rfl rfl ?_
  refine wp_aload_n 0 dX12_isAlike_1 rfl rfl ?_
  obtain ⟨i2, hb⟩ := hb
  refine wp_getR dX12_isAlike_2 fl_X12_107 i1 (i2.ne (by decide)) ?_
  refine wp_iload_n 1 dX12_isAlike_5 rfl rfl ?_
  obtain ⟨b3, hb⟩ := hb
  refine wp_laload dX12_isAlike_6 i2 b3 ?_
  refine wp_aload_n 0 dX12_isAlike_7 rfl rfl ?_
  obtain ⟨i4, hb⟩ := hb
  refine wp_getR dX12_isAlike_8 fl_X12_110 i1 (i4.ne (by decide)) ?_
  refine wp_iload_n 1 dX12_isAlike_11 rfl rfl ?_
  obtain ⟨b5, hb⟩ := hb
  refine wp_laload dX12_isAlike_12 i4 b5 ?_
  refine wp_callV (as := [.long (h.2.1 (h.2.2 x0 44) x1.toNatClampNeg), .long (h.2.1 (h.2.2 x0 45) x1.toNatClampNeg)]) dX12_isAlike_13 cb_X12_unpack lk_X12_377 im_X12_unpack se_X12_unpack rfl (Nat.le_of_ble_eq_true rfl) ⟨by decide, by decide⟩ ⟨Nat.le_refl _, Nat.le_refl _, Nat.le_refl _⟩ i1 rfl (by decide) hb (fun r0 h7 hb => ?_)
  obtain ⟨rfl, hb⟩ := hb
  refine wp_aload_n 0 dX12_isAlike_16 rfl rfl ?_
  refine wp_aload_n 0 dX12_isAlike_17 rfl rfl ?_
  obtain ⟨i8, hb⟩ := hb
  refine wp_getR dX12_isAlike_18 fl_X12_21 i1 (i8.ne (by decide)) ?_
  refine wp_iconst (v := 0) dX12_isAlike_21 (by decide) ?_
  obtain ⟨b9, hb⟩ := hb
  obtain ⟨i10, hb⟩ := hb
  refine wp_aaload25 dX12_isAlike_22 i8 b9 (i10.ne (by decide)) ?_
  refine wp_callV (as := [.ref (h7.2.2 (h7.2.2 x0 4) (0 : Int32).toNatClampNeg)]) dX12_isAlike_23 cb_X12_sees lk_X12_437 im_X12_sees se_X12_sees rfl (Nat.le_of_ble_eq_true rfl) ⟨by decide, by decide⟩ ⟨Nat.le_refl _, Nat.le_refl _, Nat.le_refl _⟩ i1 rfl (by decide) hb (fun r0 h12 hb => ?_)
  obtain ⟨rfl, hb⟩ := hb
  refine wp_aload_n 0 dX12_isAlike_26 rfl rfl ?_
  refine wp_aload_n 0 dX12_isAlike_27 rfl rfl ?_
  obtain ⟨i13, hb⟩ := hb
  refine wp_getR dX12_isAlike_28 fl_X12_113 i1 (i13.ne (by decide)) ?_
  refine wp_iload_n 1 dX12_isAlike_31 rfl rfl ?_
  obtain ⟨b14, hb⟩ := hb
  refine wp_laload dX12_isAlike_32 i13 b14 ?_
  refine wp_aload_n 0 dX12_isAlike_33 rfl rfl ?_
  obtain ⟨i15, hb⟩ := hb
  refine wp_getR dX12_isAlike_34 fl_X12_116 i1 (i15.ne (by decide)) ?_
  refine wp_iload_n 1 dX12_isAlike_37 rfl rfl ?_
  obtain ⟨b16, hb⟩ := hb
  refine wp_laload dX12_isAlike_38 i15 b16 ?_
  refine wp_callV (as := [.long (h12.2.1 (h12.2.2 x0 46) x1.toNatClampNeg), .long (h12.2.1 (h12.2.2 x0 47) x1.toNatClampNeg)]) dX12_isAlike_39 cb_X12_unpack lk_X12_377 im_X12_unpack se_X12_unpack rfl (Nat.le_of_ble_eq_true rfl) ⟨by decide, by decide⟩ ⟨Nat.le_refl _, Nat.le_refl _, Nat.le_refl _⟩ i1 rfl (by decide) hb (fun r0 h18 hb => ?_)
  obtain ⟨rfl, hb⟩ := hb
  refine wp_aload_n 0 dX12_isAlike_42 rfl rfl ?_
  refine wp_aload_n 0 dX12_isAlike_43 rfl rfl ?_
  obtain ⟨i19, hb⟩ := hb
  refine wp_getR dX12_isAlike_44 fl_X12_21 i1 (i19.ne (by decide)) ?_
  refine wp_iconst (v := 1) dX12_isAlike_47 (by decide) ?_
  obtain ⟨b20, hb⟩ := hb
  obtain ⟨i21, hb⟩ := hb
  refine wp_aaload25 dX12_isAlike_48 i19 b20 (i21.ne (by decide)) ?_
  refine wp_callV (as := [.ref (h18.2.2 (h18.2.2 x0 4) (1 : Int32).toNatClampNeg)]) dX12_isAlike_49 cb_X12_isSeen lk_X12_440 im_X12_isSeen se_X12_isSeen rfl (Nat.le_of_ble_eq_true rfl) ⟨by decide, by decide⟩ ⟨Nat.le_refl _, Nat.le_refl _, Nat.le_refl _⟩ i1 rfl (by decide) hb (fun r0 h23 hb => ?_)
  obtain ⟨r24, rfl, hb⟩ := hb
  obtain ⟨q25, hb⟩ := hb
  exact wp_zret rfl dX12_isAlike_52 q25 ⟨_, rfl, hb⟩
theorem c_X12_isAlike {l : Launch} {g : AG} {h : AH} {x0 : Nat} {x1 : Int32}  {Q : Int32 → AH → Prop} (hb : L_X12_isAlike_0 l g h x0 x1  Q) : C_X12_isAlike l g h x0 x1  Q := ax_met rfl (Nat.le_of_ble_eq_true rfl) hb
def C_X12_rowOf (l : Launch) (g : AG) (h : AH) (x0 : Nat) (x1 : Int32) (x2 : Int32)  (Q : Int32 → AH → Prop) : Prop := Ct l g mX12_rowOf 1 21 194 194 h [.ref x0, .int x1, .int x2] (ax_QI Q)
def L_X12_rowOf_0 (l : Launch) (g : AG) (h : AH) (x0 : Nat) (x1 : Int32) (x2 : Int32)  (Q : Int32 → AH → Prop) : Prop := Wp l g mX12_rowOf 1 21 194 194 194 0 [(0, .ref x0), (1, .int x1), (2, .int x2)] [] h (FM g 194 194 (ax_QI Q))
def L_X12_rowOf_5 (l : Launch) (g : AG) (h : AH) (x0 : Nat) (x1 : Int32) (x2 : Int32) (x3 : Int32) (x4 : Int32)  (Q : Int32 → AH → Prop) : Prop := Wp l g mX12_rowOf 1 21 194 194 194 5 [(0, .ref x0), (1, .int x1), (2, .int x2), (3, .int x3), (4, .int x4)] [] h (FM g 194 194 (ax_QI Q))
def L_X12_rowOf_39 (l : Launch) (g : AG) (h : AH) (x0 : Nat) (x2 : Int32) (x3 : Int32) (x4 : Int32)  (Q : Int32 → AH → Prop) : Prop := Wp l g mX12_rowOf 1 21 194 194 194 39 [(0, .ref x0), (2, .int x2), (3, .int x3), (4, .int x4)] [] h (FM g 194 194 (ax_QI Q))
set_option maxRecDepth 100000 in
set_option maxHeartbeats 4000000 in
theorem s_X12_rowOf_0 {l : Launch} {g : AG} {h : AH} {x0 : Nat} {x1 : Int32} {x2 : Int32}  {Q : Int32 → AH → Prop} (hb : L_X12_rowOf_5 l g h x0 x1 x2 0 x1  Q) : L_X12_rowOf_0 l g h x0 x1 x2  Q := by
  refine wp_iconst (v := 0) dX12_rowOf_0 (by decide) ?_
  refine wp_istore_n (lv2 := [(3, .int 0), (0, .ref x0), (1, .int x1), (2, .int x2)]) dX12_rowOf_1 rfl (by decide) rfl ?_
  refine wp_iload_n 2 dX12_rowOf_2 rfl rfl ?_
  refine wp_istore (lv2 := [(4, .int x1), (3, .int 0), (0, .ref x0), (1, .int x1), (2, .int x2)]) dX12_rowOf_3 (by decide) rfl ?_
  exact wp_sub [2, 3, 4, 1, 0] rfl hb
set_option maxRecDepth 100000 in
set_option maxHeartbeats 4000000 in
theorem s_X12_rowOf_5 {l : Launch} {g : AG} {h : AH} {x0 : Nat} {x1 : Int32} {x2 : Int32} {x3 : Int32} {x4 : Int32}  {Q : Int32 → AH → Prop} (hb : (Is 194 x0 11) ∧ ( (Is 194 (h.2.2 x0 48) 20) ∧ ( (vp_in x4 (ax_s (h.2.2 x0 48)).2) ∧ ( ((h.1 (h.2.2 x0 48) x4.toNatClampNeg = (-1) → (∀ h5 : AH, h5 = ax_setI h x0 40 x3 → ( L_X12_rowOf_39 l g h5 x0 x2 x3 x1  Q))) ∧ (¬ (h.1 (h.2.2 x0 48) x4.toNatClampNeg = (-1)) → (∀ v7 : Int32, v7 = x3 + (1) → ( (Is 194 (h.2.2 x0 48) 20) ∧ ( (vp_in x4 (ax_s (h.2.2 x0 48)).2) ∧ ( ∀ v11 : Int32, v11 = (h.1 (h.2.2 x0 48) x4.toNatClampNeg) → ( L_X12_rowOf_5 l g h x0 x1 x2 v7 v11  Q))))))))))) : L_X12_rowOf_5 l g h x0 x1 x2 x3 x4  Q := by
  obtain ⟨i1, hb⟩ := hb
  refine wp_aload_n 0 dX12_rowOf_5 rfl rfl ?_
  obtain ⟨i2, hb⟩ := hb
  refine wp_getR dX12_rowOf_6 fl_X12_119 i1 (i2.ne (by decide)) ?_
  refine wp_iload 4 dX12_rowOf_9 rfl ?_
  obtain ⟨b3, hb⟩ := hb
  refine wp_iaload dX12_rowOf_11 i2 b3 ?_
  refine wp_iconst (v := (-1)) dX12_rowOf_12 (by decide) ?_
  refine wp_icmp_eq (tgt := 31) dX12_rowOf_13 (by decide) (fun c4 => ?_) (fun c4 => ?_)
  · have hb := hb.1 c4
    refine wp_aload_n 0 dX12_rowOf_31 rfl rfl ?_
    refine wp_iload_n 3 dX12_rowOf_32 rfl rfl ?_
    refine wp_putI dX12_rowOf_33 fl_X12_415 (Or.inl rfl) i1 ?_
    refine wp_topH (fun h5 e6 => ?_)
    have hb := hb h5 e6
    refine wp_iload_n 1 dX12_rowOf_36 rfl rfl ?_
    refine wp_istore (lv2 := [(4, .int x1), (0, .ref x0), (1, .int x1), (2, .int x2), (3, .int x3)]) dX12_rowOf_37 (by decide) rfl ?_
    exact wp_sub [1, 3, 4, 0] rfl hb
  · have hb := hb.2 c4
    obtain ⟨v7, e8⟩ : ∃ y : Int32, y = x3 + (1) := ⟨_, rfl⟩
    have hb := hb v7 e8
    refine wp_iinc (v := v7) (lv2 := [(3, .int v7), (0, .ref x0), (1, .int x1), (2, .int x2), (4, .int x4)]) 3 dX12_rowOf_16 rfl (by rw [e8]; rfl) (by decide) rfl ?_
    refine wp_aload_n 1 dX12_rowOf_19 rfl rfl ?_
    obtain ⟨i9, hb⟩ := hb
    refine wp_getR dX12_rowOf_20 fl_X12_119 i1 (i9.ne (by decide)) ?_
    refine wp_iload 4 dX12_rowOf_23 rfl ?_
    obtain ⟨b10, hb⟩ := hb
    refine wp_iaload dX12_rowOf_25 i9 b10 ?_
    refine wp_topi (fun v11 e12 => ?_)
    have hb := hb v11 e12
    refine wp_istore (lv2 := [(4, .int v11), (3, .int v7), (0, .ref x0), (1, .int x1), (2, .int x2)]) dX12_rowOf_26 (by decide) rfl ?_
    refine wp_goto (tgt := 5) dX12_rowOf_28 (by decide) ?_
    exact wp_sub [2, 3, 4, 1, 0] rfl hb
set_option maxRecDepth 100000 in
set_option maxHeartbeats 4000000 in
theorem s_X12_rowOf_39 {l : Launch} {g : AG} {h : AH} {x0 : Nat} {x2 : Int32} {x3 : Int32} {x4 : Int32}  {Q : Int32 → AH → Prop} (hb : (Is 194 x0 11) ∧ ( (Is 194 (h.2.2 x0 48) 20) ∧ ( (vp_in x4 (ax_s (h.2.2 x0 48)).2) ∧ ( ((h.1 (h.2.2 x0 48) x4.toNatClampNeg = (-1) → (((¬ x2 = (-1) → ((Is 194 (h.2.2 x0 39) 20) ∧ ( (vp_in (h.1 x0 40) (ax_s (h.2.2 x0 39)).2) ∧ ( ∀ h20 : AH, h20 = ax_setI h (h.2.2 x0 39) (h.1 x0 40).toNatClampNeg x2 → ( ∀ h22 : AH, h22 = ax_setI h20 x0 40 ((h20.1 x0 40) + 1) → ( C_X12_done l g h22 x0 (h22.1 x0 40) (fun r26 h25 => ( Q r26 h25)))))))) ∧ (x2 = (-1) → (C_X12_done l g h x0 (h.1 x0 40) (fun r29 h28 => ( Q r29 h28))))))) ∧ (¬ (h.1 (h.2.2 x0 48) x4.toNatClampNeg = (-1)) → (∀ v30 : Int32, v30 = x3 + (-1) → ( (Is 194 (h.2.2 x0 39) 20) ∧ ( (Is 194 (h.2.2 x0 49) 20) ∧ ( (vp_in x4 (ax_s (h.2.2 x0 49)).2) ∧ ( (vp_in v30 (ax_s (h.2.2 x0 39)).2) ∧ ( ∀ h36 : AH, h36 = ax_setI h (h.2.2 x0 39) v30.toNatClampNeg (h.1 (h.2.2 x0 49) x4.toNatClampNeg) → ( (Is 194 (h36.2.2 x0 48) 20) ∧ ( (vp_in x4 (ax_s (h36.2.2 x0 48)).2) ∧ ( ∀ v40 : Int32, v40 = (h36.1 (h36.2.2 x0 48) x4.toNatClampNeg) → ( L_X12_rowOf_39 l g h36 x0 x2 v30 v40  Q)))))))))))))))) : L_X12_rowOf_39 l g h x0 x2 x3 x4  Q := by
  obtain ⟨i13, hb⟩ := hb
  refine wp_aload_n 0 dX12_rowOf_39 rfl rfl ?_
  obtain ⟨i14, hb⟩ := hb
  refine wp_getR dX12_rowOf_40 fl_X12_119 i13 (i14.ne (by decide)) ?_
  refine wp_iload 3 dX12_rowOf_43 rfl ?_
  obtain ⟨b15, hb⟩ := hb
  refine wp_iaload dX12_rowOf_45 i14 b15 ?_
  refine wp_iconst (v := (-1)) dX12_rowOf_46 (by decide) ?_
  refine wp_icmp_eq (tgt := 78) dX12_rowOf_47 (by decide) (fun c16 => ?_) (fun c16 => ?_)
  · have hb := hb.1 c16
    refine wp_iload_n 1 dX12_rowOf_78 rfl rfl ?_
    refine wp_iconst (v := (-1)) dX12_rowOf_79 (by decide) ?_
    refine wp_icmp_ne (tgt := 92) dX12_rowOf_80 (by decide) (fun c17 => ?_) (fun c17 => ?_)
    · have hb := hb.1 c17
      refine wp_aload_n 0 dX12_rowOf_92 rfl rfl ?_
      obtain ⟨i18, hb⟩ := hb
      refine wp_getR dX12_rowOf_93 fl_X12_101 i13 (i18.ne (by decide)) ?_
      refine wp_aload_n 0 dX12_rowOf_96 rfl rfl ?_
      refine wp_getI dX12_rowOf_97 fl_X12_415 i13 ?_
      refine wp_iload_n 1 dX12_rowOf_100 rfl rfl ?_
      obtain ⟨b19, hb⟩ := hb
      refine wp_iastore dX12_rowOf_101 i18 b19 ?_
      refine wp_topH (fun h20 e21 => ?_)
      have hb := hb h20 e21
      refine wp_aload_n 0 dX12_rowOf_102 rfl rfl ?_
      refine wp_dup dX12_rowOf_103 rfl ?_
      refine wp_getI dX12_rowOf_104 fl_X12_415 i13 ?_
      refine wp_iconst (v := 1) dX12_rowOf_107 (by decide) ?_
      refine wp_iadd dX12_rowOf_108 ?_
      refine wp_putI dX12_rowOf_109 fl_X12_415 (Or.inl rfl) i13 ?_
      refine wp_topH (fun h22 e23 => ?_)
      have hb := hb h22 e23
      refine wp_aload_n 0 dX12_rowOf_112 rfl rfl ?_
      refine wp_aload_n 0 dX12_rowOf_113 rfl rfl ?_
      refine wp_getI dX12_rowOf_114 fl_X12_415 i13 ?_
      refine wp_callV (as := [.int (h22.1 x0 40)]) dX12_rowOf_117 cb_X12_done lk_X12_337 im_X12_done se_X12_done rfl (Nat.le_of_ble_eq_true rfl) ⟨by decide, by decide⟩ ⟨Nat.le_refl _, Nat.le_refl _, Nat.le_refl _⟩ i13 rfl (by decide) hb (fun r0 h25 hb => ?_)
      obtain ⟨r26, rfl, hb⟩ := hb
      exact wp_iret rfl dX12_rowOf_120 ⟨_, rfl, hb⟩
    · have hb := hb.2 c17
      refine wp_aload_n 0 dX12_rowOf_83 rfl rfl ?_
      refine wp_aload_n 0 dX12_rowOf_84 rfl rfl ?_
      refine wp_getI dX12_rowOf_85 fl_X12_415 i13 ?_
      refine wp_callV (as := [.int (h.1 x0 40)]) dX12_rowOf_88 cb_X12_done lk_X12_337 im_X12_done se_X12_done rfl (Nat.le_of_ble_eq_true rfl) ⟨by decide, by decide⟩ ⟨Nat.le_refl _, Nat.le_refl _, Nat.le_refl _⟩ i13 rfl (by decide) hb (fun r0 h28 hb => ?_)
      obtain ⟨r29, rfl, hb⟩ := hb
      exact wp_iret rfl dX12_rowOf_91 ⟨_, rfl, hb⟩
  · have hb := hb.2 c16
    obtain ⟨v30, e31⟩ : ∃ y : Int32, y = x3 + (-1) := ⟨_, rfl⟩
    have hb := hb v30 e31
    refine wp_iinc (v := v30) (lv2 := [(3, .int v30), (0, .ref x0), (2, .int x2), (4, .int x4)]) 2 dX12_rowOf_50 rfl (by rw [e31]; rfl) (by decide) rfl ?_
    refine wp_aload_n 1 dX12_rowOf_53 rfl rfl ?_
    obtain ⟨i32, hb⟩ := hb
    refine wp_getR dX12_rowOf_54 fl_X12_101 i13 (i32.ne (by decide)) ?_
    refine wp_iload_n 0 dX12_rowOf_57 rfl rfl ?_
    refine wp_aload_n 1 dX12_rowOf_58 rfl rfl ?_
    obtain ⟨i33, hb⟩ := hb
    refine wp_getR dX12_rowOf_59 fl_X12_122 i13 (i33.ne (by decide)) ?_
    refine wp_iload 3 dX12_rowOf_62 rfl ?_
    obtain ⟨b34, hb⟩ := hb
    refine wp_iaload dX12_rowOf_64 i33 b34 ?_
    obtain ⟨b35, hb⟩ := hb
    refine wp_iastore dX12_rowOf_65 i32 b35 ?_
    refine wp_topH (fun h36 e37 => ?_)
    have hb := hb h36 e37
    refine wp_aload_n 1 dX12_rowOf_66 rfl rfl ?_
    obtain ⟨i38, hb⟩ := hb
    refine wp_getR dX12_rowOf_67 fl_X12_119 i13 (i38.ne (by decide)) ?_
    refine wp_iload 3 dX12_rowOf_70 rfl ?_
    obtain ⟨b39, hb⟩ := hb
    refine wp_iaload dX12_rowOf_72 i38 b39 ?_
    refine wp_topi (fun v40 e41 => ?_)
    have hb := hb v40 e41
    refine wp_istore (lv2 := [(4, .int v40), (3, .int v30), (0, .ref x0), (2, .int x2)]) dX12_rowOf_73 (by decide) rfl ?_
    refine wp_goto (tgt := 39) dX12_rowOf_75 (by decide) ?_
    exact wp_sub [2, 3, 1, 0] rfl hb
theorem c_X12_rowOf {l : Launch} {g : AG} {h : AH} {x0 : Nat} {x1 : Int32} {x2 : Int32}  {Q : Int32 → AH → Prop} (hb : L_X12_rowOf_0 l g h x0 x1 x2  Q) : C_X12_rowOf l g h x0 x1 x2  Q := ax_met rfl (Nat.le_of_ble_eq_true rfl) hb
