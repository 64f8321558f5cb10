def C_X2_ended (l : Launch) (g : AG) (h : AH) (x0 : Nat)  (Q : Int32 → AH → Prop) : Prop := Ct l g mX2_ended 0 0 194 194 h [.ref x0] (ax_QI Q)
def L_X2_ended_0 (l : Launch) (g : AG) (h : AH) (x0 : Nat)  (Q : Int32 → AH → Prop) : Prop := Wp l g mX2_ended 0 0 194 194 194 0 [(0, .ref x0)] [] h (FM g 194 194 (ax_QI Q))
set_option maxRecDepth 100000 in
set_option maxHeartbeats 4000000 in
theorem s_X2_ended_0 {l : Launch} {g : AG} {h : AH} {x0 : Nat}  {Q : Int32 → AH → Prop} (hb : (Is 194 x0 2) ∧ ( ((¬ h.1 x0 3 = 0 → (Q 1 h)) ∧ (h.1 x0 3 = 0 → (((h.1 x0 4 = (-1) → (Q 0 h)) ∧ (¬ (h.1 x0 4 = (-1)) → (Q 1 h)))))))) : L_X2_ended_0 l g h x0  Q := by
  obtain ⟨i1, hb⟩ := hb
  refine wp_aload_n 0 dX2_ended_0 rfl rfl ?_
  refine wp_getZ dX2_ended_1 fl_X2_18 i1 ?_
  refine wp_if_ne (tgt := 15) dX2_ended_4 (by decide) (fun c2 => ?_) (fun c2 => ?_)
  · have hb := hb.1 c2
    refine wp_iconst (v := 1) dX2_ended_15 (by decide) ?_
    refine wp_goto (tgt := 20) dX2_ended_16 (by decide) ?_
    exact wp_zret rfl dX2_ended_20 (Or.inr rfl) ⟨_, rfl, hb⟩
  · have hb := hb.2 c2
    refine wp_aload_n 0 dX2_ended_7 rfl rfl ?_
    refine wp_getI dX2_ended_8 fl_X2_22 i1 ?_
    refine wp_iconst (v := (-1)) dX2_ended_11 (by decide) ?_
    refine wp_icmp_eq (tgt := 19) dX2_ended_12 (by decide) (fun c3 => ?_) (fun c3 => ?_)
    · have hb := hb.1 c3
      refine wp_iconst (v := 0) dX2_ended_19 (by decide) ?_
      exact wp_zret rfl dX2_ended_20 (Or.inl rfl) ⟨_, rfl, hb⟩
    · have hb := hb.2 c3
      refine wp_iconst (v := 1) dX2_ended_15 (by decide) ?_
      refine wp_goto (tgt := 20) dX2_ended_16 (by decide) ?_
      exact wp_zret rfl dX2_ended_20 (Or.inr rfl) ⟨_, rfl, hb⟩
theorem c_X2_ended {l : Launch} {g : AG} {h : AH} {x0 : Nat}  {Q : Int32 → AH → Prop} (hb : L_X2_ended_0 l g h x0  Q) : C_X2_ended l g h x0  Q := ax_met rfl (Nat.le_of_ble_eq_true rfl) hb
def C_X2_twin (l : Launch) (g : AG) (h : AH) (x0 : Nat) (x1 : Int32) (x2 : Nat) (x3 : Int64)  (Q : Int32 → AH → Prop) : Prop := Ct l g mX2_twin 2 48 194 194 h [.ref x0, .int x1, .ref x2, .long x3] (ax_QI Q)
def L_X2_twin_0 (l : Launch) (g : AG) (h : AH) (x0 : Nat) (x1 : Int32) (x2 : Nat) (x3 : Int64)  (Q : Int32 → AH → Prop) : Prop := Wp l g mX2_twin 2 48 194 194 194 0 [(0, .ref x0), (1, .int x1), (2, .ref x2), (3, .long x3)] [] h (FM g 194 194 (ax_QI Q))
set_option maxRecDepth 100000 in
set_option maxHeartbeats 4000000 in
theorem s_X2_twin_0 {l : Launch} {g : AG} {h : AH} {x0 : Nat} {x1 : Int32} {x2 : Nat} {x3 : Int64}  {Q : Int32 → AH → Prop} (hb : ((x1 < 24 → (C_X3_topOf l g h x3 (fun r4 h3 => ( ((¬ r4 = (-1) → ((Is 194 x2 0) ∧ ( (Is 194 x0 0) ∧ ( (Is 194 (h3.2.2 x0 9) 21) ∧ ( (vp_in x1 (ax_s (h3.2.2 x0 9)).2) ∧ ( C_X0_buttonNamed l g h3 x2 r4 (h3.2.1 (h3.2.2 x0 9) x1.toNatClampNeg) (fun r12 h11 => ( Q r12 h11)))))))) ∧ (r4 = (-1) → (Q (-1) h3))))))) ∧ (¬ (x1 < 24) → (Q x1 h)))) : L_X2_twin_0 l g h x0 x1 x2 x3  Q := by
  refine wp_iload_n 1 dX2_twin_0 rfl rfl ?_
  refine wp_bipush (v := 24) dX2_twin_1 (by decide) ?_
  refine wp_icmp_lt (tgt := 8) dX2_twin_3 (by decide) (fun c1 => ?_) (fun c1 => ?_)
  · have hb := hb.1 c1
    refine wp_lload_n 3 dX2_twin_8 rfl rfl ?_
    refine wp_callSN (as := [.long x3]) dX2_twin_9 cb_X3_topOf lk_X2_90 st_X3_topOf rfl (Nat.le_of_ble_eq_true rfl) ⟨by decide, by decide⟩ ⟨Nat.le_refl _, Nat.le_refl _, Nat.le_refl _⟩ hb (fun r0 h3 hb => ?_)
    obtain ⟨r4, rfl, hb⟩ := hb
    refine wp_istore (lv2 := [(5, .int r4), (0, .ref x0), (1, .int x1), (2, .ref x2), (3, .long x3)]) dX2_twin_12 (by decide) rfl ?_
    refine wp_iload 0 dX2_twin_14 rfl ?_
    refine wp_iconst (v := (-1)) dX2_twin_16 (by decide) ?_
    refine wp_icmp_ne (tgt := 24) dX2_twin_17 (by decide) (fun c5 => ?_) (fun c5 => ?_)
    · have hb := hb.1 c5
      obtain ⟨i6, hb⟩ := hb
      refine wp_aload_n 3 dX2_twin_24 rfl rfl ?_
      refine wp_iload 0 dX2_twin_25 rfl ?_
      obtain ⟨i7, hb⟩ := hb
      refine wp_aload_n 1 dX2_twin_27 rfl rfl ?_
      obtain ⟨i8, hb⟩ := hb
      refine wp_getR dX2_twin_28 fl_X2_96 i7 (i8.ne (by decide)) ?_
      refine wp_iload_n 2 dX2_twin_31 rfl rfl ?_
      obtain ⟨b9, hb⟩ := hb
      refine wp_laload dX2_twin_32 i8 b9 ?_
      refine wp_callVN (as := [.int r4, .long (h3.2.1 (h3.2.2 x0 9) x1.toNatClampNeg)]) dX2_twin_33 cb_X0_buttonNamed lk_X2_99 im_X0_buttonNamed se_X0_buttonNamed rfl (Nat.le_of_ble_eq_true rfl) ⟨by decide, by decide⟩ ⟨Nat.le_refl _, Nat.le_refl _, Nat.le_refl _⟩ i6 rfl (by decide) hb (fun r0 h11 hb => ?_)
      obtain ⟨r12, rfl, hb⟩ := hb
      exact wp_iret rfl dX2_twin_36 ⟨_, rfl, hb⟩
    · have hb := hb.2 c5
      refine wp_iconst (v := (-1)) dX2_twin_20 (by decide) ?_
      refine wp_goto (tgt := 36) dX2_twin_21 (by decide) ?_
      exact wp_iret rfl dX2_twin_36 ⟨_, rfl, hb⟩
  · have hb := hb.2 c1
    refine wp_iload_n 1 dX2_twin_6 rfl rfl ?_
    exact wp_iret rfl dX2_twin_7 ⟨_, rfl, hb⟩
theorem c_X2_twin {l : Launch} {g : AG} {h : AH} {x0 : Nat} {x1 : Int32} {x2 : Nat} {x3 : Int64}  {Q : Int32 → AH → Prop} (hb : L_X2_twin_0 l g h x0 x1 x2 x3  Q) : C_X2_twin l g h x0 x1 x2 x3  Q := ax_met rfl (Nat.le_of_ble_eq_true rfl) hb
def C_X2_goByFirst (l : Launch) (g : AG) (h : AH) (x0 : Nat) (x1 : Int32) (x2 : Int32)  (Q : AH → Prop) : Prop := Ct l g mX2_goByFirst 4 101 194 194 h [.ref x0, .int x1, .int x2] (ax_QV Q)
def L_X2_goByFirst_0 (l : Launch) (g : AG) (h : AH) (x0 : Nat) (x1 : Int32) (x2 : Int32)  (Q : AH → Prop) : Prop := Wp l g mX2_goByFirst 4 101 194 194 194 0 [(0, .ref x0), (1, .int x1), (2, .int x2)] [] h (FM g 194 194 (ax_QV Q))
set_option maxRecDepth 100000 in
set_option maxHeartbeats 4000000 in
theorem s_X2_goByFirst_0 {l : Launch} {g : AG} {h : AH} {x0 : Nat} {x1 : Int32} {x2 : Int32}  {Q : AH → Prop} (hb : (Is 194 x0 2) ∧ ( (Is 194 (h.2.2 x0 2) 5) ∧ ( (Is 194 (h.2.2 (h.2.2 x0 2) 1) 21) ∧ ( (vp_in x1 (ax_s (h.2.2 (h.2.2 x0 2) 1)).2) ∧ ( ∀ v5 : Int64, v5 = (h.2.1 (h.2.2 (h.2.2 x0 2) 1) x1.toNatClampNeg) → ( (Is 194 (h.2.2 x0 2) 5) ∧ ( (Is 194 (h.2.2 (h.2.2 x0 2) 2) 21) ∧ ( (vp_in x1 (ax_s (h.2.2 (h.2.2 x0 2) 2)).2) ∧ ( ∀ v10 : Int64, v10 = (h.2.1 (h.2.2 (h.2.2 x0 2) 2) x1.toNatClampNeg) → ( (Is 194 (h.2.2 x0 0) 0) ∧ ( C_X0_possible l g h (h.2.2 x0 0) v5 x2 (fun r15 h14 => ( ((¬ r15 = 0 → ((Is 194 (h14.2.2 x0 0) 0) ∧ ( (Is 194 (h14.2.2 x0 1) 0) ∧ ( C_X2_twin l g h14 (h14.2.2 x0 0) x2 (h14.2.2 x0 1) v10 (fun r21 h20 => ( (Is 194 (h20.2.2 x0 1) 0) ∧ ( C_X0_possible l g h20 (h20.2.2 x0 1) v10 r21 (fun r25 h24 => ( ((¬ r25 = 0 → ((Is 194 (h24.2.2 x0 2) 5) ∧ ( (Is 194 (h24.2.2 x0 0) 0) ∧ ( C_X0_after l g h24 (h24.2.2 x0 0) v5 x2 (fun r31 h30 => ( (Is 194 (h30.2.2 x0 1) 0) ∧ ( C_X0_after l g h30 (h30.2.2 x0 1) v10 r21 (fun r35 h34 => ( C_X6_meet l g h34 (h24.2.2 x0 2) r31 r35 x1 x2 (fun r38 h37 => ( ((¬ r38 = (-1) → (∀ h40 : AH, h40 = ax_setI h37 x0 3 0 → ( Q h40))) ∧ (r38 = (-1) → (∀ h42 : AH, h42 = ax_setI h37 x0 3 1 → ( Q h42))))))))))))))) ∧ (r25 = 0 → (∀ h44 : AH, h44 = ax_setI h24 x0 4 x1 → ( ∀ h46 : AH, h46 = ax_setI h44 x0 5 x2 → ( Q h46)))))))))))))) ∧ (r15 = 0 → (Q h14)))))))))))))))) : L_X2_goByFirst_0 l g h x0 x1 x2  Q := by
  obtain ⟨i1, hb⟩ := hb
  refine wp_aload_n 0 dX2_goByFirst_0 rfl rfl ?_
  obtain ⟨i2, hb⟩ := hb
  refine wp_getR dX2_goByFirst_1 fl_X2_12 i1 (i2.ne (by decide)) ?_
  obtain ⟨i3, hb⟩ := hb
  refine wp_getR dX2_goByFirst_4 fl_X2_67 i2 (i3.ne (by decide)) ?_
  refine wp_iload_n 1 dX2_goByFirst_7 rfl rfl ?_
  obtain ⟨b4, hb⟩ := hb
  refine wp_laload dX2_goByFirst_8 i3 b4 ?_
  refine wp_topl (fun v5 e6 => ?_)
  have hb := hb v5 e6
  refine wp_lstore_n (lv2 := [(3, .long v5), (0, .ref x0), (1, .int x1), (2, .int x2)]) dX2_goByFirst_9 rfl (by decide) rfl ?_
  refine wp_aload_n 1 dX2_goByFirst_10 rfl rfl ?_
  obtain ⟨i7, hb⟩ := hb
  refine wp_getR dX2_goByFirst_11 fl_X2_12 i1 (i7.ne (by decide)) ?_
  obtain ⟨i8, hb⟩ := hb
  refine wp_getR dX2_goByFirst_14 fl_X2_71 i7 (i8.ne (by decide)) ?_
  refine wp_iload_n 2 dX2_goByFirst_17 rfl rfl ?_
  obtain ⟨b9, hb⟩ := hb
  refine wp_laload dX2_goByFirst_18 i8 b9 ?_
  refine wp_topl (fun v10 e11 => ?_)
  have hb := hb v10 e11
  refine wp_lstore (lv2 := [(5, .long v10), (3, .long v5), (0, .ref x0), (1, .int x1), (2, .int x2)]) dX2_goByFirst_19 (by decide) rfl ?_
  refine wp_aload_n 2 dX2_goByFirst_21 rfl rfl ?_
  obtain ⟨i12, hb⟩ := hb
  refine wp_getR dX2_goByFirst_22 fl_X2_29 i1 (i12.ne (by decide)) ?_
  refine wp_lload_n 1 dX2_goByFirst_25 rfl rfl ?_
  refine wp_iload_n 4 dX2_goByFirst_26 rfl rfl ?_
  refine wp_callVN (as := [.long v5, .int x2]) dX2_goByFirst_27 cb_X0_possible lk_X2_74 im_X0_possible se_X0_possible rfl (Nat.le_of_ble_eq_true rfl) ⟨by decide, by decide⟩ ⟨Nat.le_refl _, Nat.le_refl _, Nat.le_refl _⟩ i12 rfl (by decide) hb (fun r0 h14 hb => ?_)
  obtain ⟨r15, rfl, hb⟩ := hb
  refine wp_if_ne (tgt := 34) dX2_goByFirst_30 (by decide) (fun c16 => ?_) (fun c16 => ?_)
  · have hb := hb.1 c16
    refine wp_aload_n 2 dX2_goByFirst_34 rfl rfl ?_
    obtain ⟨i17, hb⟩ := hb
    refine wp_getR dX2_goByFirst_35 fl_X2_29 i1 (i17.ne (by decide)) ?_
    refine wp_iload_n 4 dX2_goByFirst_38 rfl rfl ?_
    refine wp_aload_n 2 dX2_goByFirst_39 rfl rfl ?_
    obtain ⟨i18, hb⟩ := hb
    refine wp_getR dX2_goByFirst_40 fl_X2_33 i1 (i18.ne (by decide)) ?_
    refine wp_lload 0 dX2_goByFirst_43 rfl ?_
    refine wp_callS (as := [.ref (h14.2.2 x0 0), .int x2, .ref (h14.2.2 x0 1), .long v10]) dX2_goByFirst_45 cb_X2_twin lk_X2_78 st_X2_twin rfl (Nat.le_of_ble_eq_true rfl) ⟨by decide, by decide⟩ ⟨Nat.le_refl _, Nat.le_refl _, Nat.le_refl _⟩ hb (fun r0 h20 hb => ?_)
    obtain ⟨r21, rfl, hb⟩ := hb
    refine wp_istore (lv2 := [(7, .int r21), (5, .long v10), (3, .long v5), (0, .ref x0), (1, .int x1), (2, .int x2)]) dX2_goByFirst_48 (by decide) rfl ?_
    refine wp_aload_n 3 dX2_goByFirst_50 rfl rfl ?_
    obtain ⟨i22, hb⟩ := hb
    refine wp_getR dX2_goByFirst_51 fl_X2_33 i1 (i22.ne (by decide)) ?_
    refine wp_lload 1 dX2_goByFirst_54 rfl ?_
    refine wp_iload 0 dX2_goByFirst_56 rfl ?_
    refine wp_callVN (as := [.long v10, .int r21]) dX2_goByFirst_58 cb_X0_possible lk_X2_74 im_X0_possible se_X0_possible rfl (Nat.le_of_ble_eq_true rfl) ⟨by decide, by decide⟩ ⟨Nat.le_refl _, Nat.le_refl _, Nat.le_refl _⟩ i22 rfl (by decide) hb (fun r0 h24 hb => ?_)
    obtain ⟨r25, rfl, hb⟩ := hb
    refine wp_if_ne (tgt := 75) dX2_goByFirst_61 (by decide) (fun c26 => ?_) (fun c26 => ?_)
    · have hb := hb.1 c26
      refine wp_aload_n 3 dX2_goByFirst_75 rfl rfl ?_
      obtain ⟨i27, hb⟩ := hb
      refine wp_getR dX2_goByFirst_76 fl_X2_12 i1 (i27.ne (by decide)) ?_
      refine wp_aload_n 3 dX2_goByFirst_79 rfl rfl ?_
      obtain ⟨i28, hb⟩ := hb
      refine wp_getR dX2_goByFirst_80 fl_X2_29 i1 (i28.ne (by decide)) ?_
      refine wp_lload_n 2 dX2_goByFirst_83 rfl rfl ?_
      refine wp_iload_n 5 dX2_goByFirst_84 rfl rfl ?_
      refine wp_callVN (as := [.long v5, .int x2]) dX2_goByFirst_85 cb_X0_after lk_X2_82 im_X0_after se_X0_after rfl (Nat.le_of_ble_eq_true rfl) ⟨by decide, by decide⟩ ⟨Nat.le_refl _, Nat.le_refl _, Nat.le_refl _⟩ i28 rfl (by decide) hb (fun r0 h30 hb => ?_)
      obtain ⟨r31, rfl, hb⟩ := hb
      refine wp_aload_n 3 dX2_goByFirst_88 rfl rfl ?_
      obtain ⟨i32, hb⟩ := hb
      refine wp_getR dX2_goByFirst_89 fl_X2_33 i1 (i32.ne (by decide)) ?_
      refine wp_lload 1 dX2_goByFirst_92 rfl ?_
      refine wp_iload 0 dX2_goByFirst_94 rfl ?_
      refine wp_callVN (as := [.long v10, .int r21]) dX2_goByFirst_96 cb_X0_after lk_X2_82 im_X0_after se_X0_after rfl (Nat.le_of_ble_eq_true rfl) ⟨by decide, by decide⟩ ⟨Nat.le_refl _, Nat.le_refl _, Nat.le_refl _⟩ i32 rfl (by decide) hb (fun r0 h34 hb => ?_)
      obtain ⟨r35, rfl, hb⟩ := hb
      refine wp_iload_n 4 dX2_goByFirst_99 rfl rfl ?_
      refine wp_iload_n 5 dX2_goByFirst_100 rfl rfl ?_
      refine wp_callVN (as := [.long r31, .long r35, .int x1, .int x2]) dX2_goByFirst_101 cb_X6_meet lk_X2_45 im_X6_meet se_X6_meet rfl (Nat.le_of_ble_eq_true rfl) ⟨by decide, by decide⟩ ⟨Nat.le_refl _, Nat.le_refl _, Nat.le_refl _⟩ i27 rfl (by decide) hb (fun r0 h37 hb => ?_)
      obtain ⟨r38, rfl, hb⟩ := hb
      refine wp_istore (lv2 := [(8, .int r38), (7, .int r21), (5, .long v10), (3, .long v5), (0, .ref x0), (1, .int x1), (2, .int x2)]) dX2_goByFirst_104 (by decide) rfl ?_
      refine wp_aload_n 4 dX2_goByFirst_106 rfl rfl ?_
      refine wp_iload 0 dX2_goByFirst_107 rfl ?_
      refine wp_iconst (v := (-1)) dX2_goByFirst_109 (by decide) ?_
      refine wp_icmp_ne (tgt := 117) dX2_goByFirst_110 (by decide) (fun c39 => ?_) (fun c39 => ?_)
      · have hb := hb.1 c39
        refine wp_iconst (v := 0) dX2_goByFirst_117 (by decide) ?_
        refine wp_putZ dX2_goByFirst_118 fl_X2_18 (Or.inl rfl) i1 (Or.inl rfl) ?_
        refine wp_topH (fun h40 e41 => ?_)
        have hb := hb h40 e41
        exact wp_vret rfl dX2_goByFirst_121 ⟨rfl, hb⟩
      · have hb := hb.2 c39
        refine wp_iconst (v := 1) dX2_goByFirst_113 (by decide) ?_
        refine wp_goto (tgt := 118) dX2_goByFirst_114 (by decide) ?_
        refine wp_putZ dX2_goByFirst_118 fl_X2_18 (Or.inl rfl) i1 (Or.inr rfl) ?_
        refine wp_topH (fun h42 e43 => ?_)
        have hb := hb h42 e43
        exact wp_vret rfl dX2_goByFirst_121 ⟨rfl, hb⟩
    · have hb := hb.2 c26
      refine wp_aload_n 3 dX2_goByFirst_64 rfl rfl ?_
      refine wp_iload_n 4 dX2_goByFirst_65 rfl rfl ?_
      refine wp_putI dX2_goByFirst_66 fl_X2_22 (Or.inl rfl) i1 ?_
      refine wp_topH (fun h44 e45 => ?_)
      have hb := hb h44 e45
      refine wp_aload_n 3 dX2_goByFirst_69 rfl rfl ?_
      refine wp_iload_n 5 dX2_goByFirst_70 rfl rfl ?_
      refine wp_putI dX2_goByFirst_71 fl_X2_26 (Or.inl rfl) i1 ?_
      refine wp_topH (fun h46 e47 => ?_)
      have hb := hb h46 e47
      exact wp_vret rfl dX2_goByFirst_74 ⟨rfl, hb⟩
  · have hb := hb.2 c16
    exact wp_vret rfl dX2_goByFirst_33 ⟨rfl, hb⟩
theorem c_X2_goByFirst {l : Launch} {g : AG} {h : AH} {x0 : Nat} {x1 : Int32} {x2 : Int32}  {Q : AH → Prop} (hb : L_X2_goByFirst_0 l g h x0 x1 x2  Q) : C_X2_goByFirst l g h x0 x1 x2  Q := ax_met rfl (Nat.le_of_ble_eq_true rfl) hb
