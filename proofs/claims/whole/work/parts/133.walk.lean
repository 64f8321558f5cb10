def C_X1_firstWithoutWayTo (l : Launch) (g : AG) (h : AH) (x0 : Nat) (x1 : Int32)  (Q : Int32 → AH → Prop) : Prop := Ct l g mX1_firstWithoutWayTo 2 45 194 194 h [.ref x0, .int x1] (ax_QI Q)
def L_X1_firstWithoutWayTo_0 (l : Launch) (g : AG) (h : AH) (x0 : Nat) (x1 : Int32)  (Q : Int32 → AH → Prop) : Prop := Wp l g mX1_firstWithoutWayTo 2 45 194 194 194 0 [(0, .ref x0), (1, .int x1)] [] h (FM g 194 194 (ax_QI Q))
def L_X1_firstWithoutWayTo_2 (l : Launch) (g : AG) (h : AH) (x0 : Nat) (x1 : Int32) (x2 : Int32)  (Q : Int32 → AH → Prop) : Prop := Wp l g mX1_firstWithoutWayTo 2 45 194 194 194 2 [(0, .ref x0), (1, .int x1), (2, .int x2)] [] h (FM g 194 194 (ax_QI Q))
def L_X1_firstWithoutWayTo_50 (l : Launch) (g : AG) (h : AH) (x0 : Nat) (x2 : Int32) (x3 : Int32)  (Q : Int32 → AH → Prop) : Prop := Wp l g mX1_firstWithoutWayTo 2 45 194 194 194 50 [(0, .ref x0), (2, .int x2), (3, .int x3)] [] h (FM g 194 194 (ax_QI Q))
def L_X1_firstWithoutWayTo_74 (l : Launch) (g : AG) (h : AH) (x0 : Nat) (x3 : Int32)  (Q : Int32 → AH → Prop) : Prop := Wp l g mX1_firstWithoutWayTo 2 45 194 194 194 74 [(0, .ref x0), (3, .int x3)] [] h (FM g 194 194 (ax_QI Q))
set_option maxRecDepth 100000 in
set_option maxHeartbeats 4000000 in
theorem s_X1_firstWithoutWayTo_0 {l : Launch} {g : AG} {h : AH} {x0 : Nat} {x1 : Int32}  {Q : Int32 → AH → Prop} (hb : L_X1_firstWithoutWayTo_2 l g h x0 x1 0  Q) : L_X1_firstWithoutWayTo_0 l g h x0 x1  Q := by
  refine wp_iconst (v := 0) dX1_firstWithoutWayTo_0 (by decide) ?_
  refine wp_istore_n (lv2 := [(2, .int 0), (0, .ref x0), (1, .int x1)]) dX1_firstWithoutWayTo_1 rfl (by decide) rfl ?_
  exact wp_sub [1, 2, 0] rfl hb
set_option maxRecDepth 100000 in
set_option maxHeartbeats 4000000 in
theorem s_X1_firstWithoutWayTo_2 {l : Launch} {g : AG} {h : AH} {x0 : Nat} {x1 : Int32} {x2 : Int32}  {Q : Int32 → AH → Prop} (hb : (Is 194 x0 1) ∧ ( (Is 194 (h.2.2 x0 2) 5) ∧ ( ((h.1 (h.2.2 x0 2) 0 ≤ x2 → (L_X1_firstWithoutWayTo_50 l g h x0 1 0  Q)) ∧ (¬ (h.1 (h.2.2 x0 2) 0 ≤ x2) → ((Is 194 (h.2.2 x0 8) 23) ∧ ( (Is 194 (h.2.2 x0 2) 5) ∧ ( (Is 194 (h.2.2 (h.2.2 x0 2) 1) 21) ∧ ( (vp_in x2 (ax_s (h.2.2 (h.2.2 x0 2) 1)).2) ∧ ( C_X3_topOf l g h (h.2.1 (h.2.2 (h.2.2 x0 2) 1) x2.toNatClampNeg) (fun r10 h9 => ( ((¬ r10 = x1 → ((vp_in x2 (ax_s (h.2.2 x0 8)).2) ∧ ( ∀ h13 : AH, h13 = ax_setI h9 (h.2.2 x0 8) x2.toNatClampNeg (vp_nar .boolean 0) → ( ∀ v15 : Int32, v15 = x2 + (1) → ( L_X1_firstWithoutWayTo_2 l g h13 x0 x1 v15  Q))))) ∧ (r10 = x1 → ((vp_in x2 (ax_s (h.2.2 x0 8)).2) ∧ ( ∀ h18 : AH, h18 = ax_setI h9 (h.2.2 x0 8) x2.toNatClampNeg (vp_nar .boolean 1) → ( ∀ v20 : Int32, v20 = x2 + (1) → ( L_X1_firstWithoutWayTo_2 l g h18 x0 x1 v20  Q)))))))))))))))))) : L_X1_firstWithoutWayTo_2 l g h x0 x1 x2  Q := by
  refine wp_iload_n 2 dX1_firstWithoutWayTo_2 rfl rfl ?_
  obtain ⟨i1, hb⟩ := hb
  refine wp_aload_n 0 dX1_firstWithoutWayTo_3 rfl rfl ?_
  obtain ⟨i2, hb⟩ := hb
  refine wp_getR dX1_firstWithoutWayTo_4 fl_X1_18 i1 (i2.ne (by decide)) ?_
  refine wp_getI dX1_firstWithoutWayTo_7 fl_X1_50 i2 ?_
  refine wp_icmp_ge (tgt := 46) dX1_firstWithoutWayTo_10 (by decide) (fun c3 => ?_) (fun c3 => ?_)
  · have hb := hb.1 c3
    refine wp_iconst (v := 1) dX1_firstWithoutWayTo_46 (by decide) ?_
    refine wp_istore_n (lv2 := [(2, .int 1), (0, .ref x0), (1, .int x1)]) dX1_firstWithoutWayTo_47 rfl (by decide) rfl ?_
    refine wp_iconst (v := 0) dX1_firstWithoutWayTo_48 (by decide) ?_
    refine wp_istore_n (lv2 := [(3, .int 0), (2, .int 1), (0, .ref x0), (1, .int x1)]) dX1_firstWithoutWayTo_49 rfl (by decide) rfl ?_
    exact wp_sub [2, 1, 0] rfl hb
  · have hb := hb.2 c3
    refine wp_aload_n 0 dX1_firstWithoutWayTo_13 rfl rfl ?_
    obtain ⟨i4, hb⟩ := hb
    refine wp_getR dX1_firstWithoutWayTo_14 fl_X1_38 i1 (i4.ne (by decide)) ?_
    refine wp_iload_n 2 dX1_firstWithoutWayTo_17 rfl rfl ?_
    refine wp_aload_n 0 dX1_firstWithoutWayTo_18 rfl rfl ?_
    obtain ⟨i5, hb⟩ := hb
    refine wp_getR dX1_firstWithoutWayTo_19 fl_X1_18 i1 (i5.ne (by decide)) ?_
    obtain ⟨i6, hb⟩ := hb
    refine wp_getR dX1_firstWithoutWayTo_22 fl_X1_73 i5 (i6.ne (by decide)) ?_
    refine wp_iload_n 2 dX1_firstWithoutWayTo_25 rfl rfl ?_
    obtain ⟨b7, hb⟩ := hb
    refine wp_laload dX1_firstWithoutWayTo_26 i6 b7 ?_
    refine wp_callSN (as := [.long (h.2.1 (h.2.2 (h.2.2 x0 2) 1) x2.toNatClampNeg)]) dX1_firstWithoutWayTo_27 cb_X3_topOf lk_X1_114 st_X3_topOf rfl (Nat.le_of_ble_eq_true rfl) ⟨by decide, by decide⟩ ⟨Nat.le_refl _, Nat.le_refl _, Nat.le_refl _⟩ hb (fun r0 h9 hb => ?_)
    obtain ⟨r10, rfl, hb⟩ := hb
    refine wp_iload_n 1 dX1_firstWithoutWayTo_30 rfl rfl ?_
    refine wp_icmp_ne (tgt := 38) dX1_firstWithoutWayTo_31 (by decide) (fun c11 => ?_) (fun c11 => ?_)
    · have hb := hb.1 c11
      refine wp_iconst (v := 0) dX1_firstWithoutWayTo_38 (by decide) ?_
      obtain ⟨b12, hb⟩ := hb
      refine wp_zastore dX1_firstWithoutWayTo_39 i4 b12 ?_
      refine wp_topH (fun h13 e14 => ?_)
      have hb := hb h13 e14
      obtain ⟨v15, e16⟩ : ∃ y : Int32, y = x2 + (1) := ⟨_, rfl⟩
      have hb := hb v15 e16
      refine wp_iinc (v := v15) (lv2 := [(2, .int v15), (0, .ref x0), (1, .int x1)]) 2 dX1_firstWithoutWayTo_40 rfl (by rw [e16]; rfl) (by decide) rfl ?_
      refine wp_goto (tgt := 2) dX1_firstWithoutWayTo_43 (by decide) ?_
      exact wp_sub [1, 2, 0] rfl hb
    · have hb := hb.2 c11
      refine wp_iconst (v := 1) dX1_firstWithoutWayTo_34 (by decide) ?_
      refine wp_goto (tgt := 39) dX1_firstWithoutWayTo_35 (by decide) ?_
      obtain ⟨b17, hb⟩ := hb
      refine wp_zastore dX1_firstWithoutWayTo_39 i4 b17 ?_
      refine wp_topH (fun h18 e19 => ?_)
      have hb := hb h18 e19
      obtain ⟨v20, e21⟩ : ∃ y : Int32, y = x2 + (1) := ⟨_, rfl⟩
      have hb := hb v20 e21
      refine wp_iinc (v := v20) (lv2 := [(2, .int v20), (0, .ref x0), (1, .int x1)]) 2 dX1_firstWithoutWayTo_40 rfl (by rw [e21]; rfl) (by decide) rfl ?_
      refine wp_goto (tgt := 2) dX1_firstWithoutWayTo_43 (by decide) ?_
      exact wp_sub [1, 2, 0] rfl hb
set_option maxRecDepth 100000 in
set_option maxHeartbeats 4000000 in
theorem s_X1_firstWithoutWayTo_50 {l : Launch} {g : AG} {h : AH} {x0 : Nat} {x2 : Int32} {x3 : Int32}  {Q : Int32 → AH → Prop} (hb : ((x2 = 0 → (L_X1_firstWithoutWayTo_74 l g h x0 0  Q)) ∧ (¬ (x2 = 0) → (((400 < x3 → (L_X1_firstWithoutWayTo_74 l g h x0 0  Q)) ∧ (¬ (400 < x3) → ((Is 194 x0 1) ∧ ( C_X1_markMore l g h x0 (fun r27 h26 => ( ∀ v28 : Int32, v28 = x3 + (1) → ( L_X1_firstWithoutWayTo_50 l g h26 x0 r27 v28  Q))))))))))) : L_X1_firstWithoutWayTo_50 l g h x0 x2 x3  Q := by
  refine wp_iload_n 1 dX1_firstWithoutWayTo_50 rfl rfl ?_
  refine wp_if_eq (tgt := 72) dX1_firstWithoutWayTo_51 (by decide) (fun c22 => ?_) (fun c22 => ?_)
  · have hb := hb.1 c22
    refine wp_iconst (v := 0) dX1_firstWithoutWayTo_72 (by decide) ?_
    refine wp_istore_n (lv2 := [(3, .int 0), (0, .ref x0), (2, .int x2)]) dX1_firstWithoutWayTo_73 rfl (by decide) rfl ?_
    exact wp_sub [1, 0] rfl hb
  · have hb := hb.2 c22
    refine wp_iload_n 2 dX1_firstWithoutWayTo_54 rfl rfl ?_
    refine wp_sipush (v := 400) dX1_firstWithoutWayTo_55 (by decide) ?_
    refine wp_icmp_gt (tgt := 72) dX1_firstWithoutWayTo_58 (by decide) (fun c23 => ?_) (fun c23 => ?_)
    · have hb := hb.1 c23
      refine wp_iconst (v := 0) dX1_firstWithoutWayTo_72 (by decide) ?_
      refine wp_istore_n (lv2 := [(3, .int 0), (0, .ref x0), (2, .int x2)]) dX1_firstWithoutWayTo_73 rfl (by decide) rfl ?_
      exact wp_sub [1, 0] rfl hb
    · have hb := hb.2 c23
      obtain ⟨i24, hb⟩ := hb
      refine wp_aload_n 0 dX1_firstWithoutWayTo_61 rfl rfl ?_
      refine wp_callV (as := []) dX1_firstWithoutWayTo_62 cb_X1_markMore lk_X1_117 im_X1_markMore se_X1_markMore rfl (Nat.le_of_ble_eq_true rfl) ⟨by decide, by decide⟩ ⟨Nat.le_refl _, Nat.le_refl _, Nat.le_refl _⟩ i24 rfl (by decide) hb (fun r0 h26 hb => ?_)
      obtain ⟨r27, rfl, hb⟩ := hb
      refine wp_istore_n (lv2 := [(2, .int r27), (0, .ref x0), (3, .int x3)]) dX1_firstWithoutWayTo_65 rfl (by decide) rfl ?_
      obtain ⟨v28, e29⟩ : ∃ y : Int32, y = x3 + (1) := ⟨_, rfl⟩
      have hb := hb v28 e29
      refine wp_iinc (v := v28) (lv2 := [(3, .int v28), (2, .int r27), (0, .ref x0)]) 2 dX1_firstWithoutWayTo_66 rfl (by rw [e29]; rfl) (by decide) rfl ?_
      refine wp_goto (tgt := 50) dX1_firstWithoutWayTo_69 (by decide) ?_
      exact wp_sub [2, 1, 0] rfl hb
set_option maxRecDepth 100000 in
set_option maxHeartbeats 4000000 in
theorem s_X1_firstWithoutWayTo_74 {l : Launch} {g : AG} {h : AH} {x0 : Nat} {x3 : Int32}  {Q : Int32 → AH → Prop} (hb : (Is 194 x0 1) ∧ ( (Is 194 (h.2.2 x0 2) 5) ∧ ( ((h.1 (h.2.2 x0 2) 0 ≤ x3 → (Q (-2) h)) ∧ (¬ (h.1 (h.2.2 x0 2) 0 ≤ x3) → ((Is 194 (h.2.2 x0 8) 23) ∧ ( (vp_in x3 (ax_s (h.2.2 x0 8)).2) ∧ ( ((¬ h.1 (h.2.2 x0 8) x3.toNatClampNeg = 0 → (∀ v36 : Int32, v36 = x3 + (1) → ( L_X1_firstWithoutWayTo_74 l g h x0 v36  Q))) ∧ (h.1 (h.2.2 x0 8) x3.toNatClampNeg = 0 → (Q x3 h))))))))))) : L_X1_firstWithoutWayTo_74 l g h x0 x3  Q := by
  refine wp_iload_n 1 dX1_firstWithoutWayTo_74 rfl rfl ?_
  obtain ⟨i30, hb⟩ := hb
  refine wp_aload_n 0 dX1_firstWithoutWayTo_75 rfl rfl ?_
  obtain ⟨i31, hb⟩ := hb
  refine wp_getR dX1_firstWithoutWayTo_76 fl_X1_18 i30 (i31.ne (by decide)) ?_
  refine wp_getI dX1_firstWithoutWayTo_79 fl_X1_50 i31 ?_
  refine wp_icmp_ge (tgt := 102) dX1_firstWithoutWayTo_82 (by decide) (fun c32 => ?_) (fun c32 => ?_)
  · have hb := hb.1 c32
    refine wp_bipush (v := (-2)) dX1_firstWithoutWayTo_102 (by decide) ?_
    exact wp_iret rfl dX1_firstWithoutWayTo_104 ⟨_, rfl, hb⟩
  · have hb := hb.2 c32
    refine wp_aload_n 0 dX1_firstWithoutWayTo_85 rfl rfl ?_
    obtain ⟨i33, hb⟩ := hb
    refine wp_getR dX1_firstWithoutWayTo_86 fl_X1_38 i30 (i33.ne (by decide)) ?_
    refine wp_iload_n 1 dX1_firstWithoutWayTo_89 rfl rfl ?_
    obtain ⟨b34, hb⟩ := hb
    refine wp_zaload dX1_firstWithoutWayTo_90 i33 b34 ?_
    refine wp_if_ne (tgt := 96) dX1_firstWithoutWayTo_91 (by decide) (fun c35 => ?_) (fun c35 => ?_)
    · have hb := hb.1 c35
      obtain ⟨v36, e37⟩ : ∃ y : Int32, y = x3 + (1) := ⟨_, rfl⟩
      have hb := hb v36 e37
      refine wp_iinc (v := v36) (lv2 := [(3, .int v36), (0, .ref x0)]) 1 dX1_firstWithoutWayTo_96 rfl (by rw [e37]; rfl) (by decide) rfl ?_
      refine wp_goto (tgt := 74) dX1_firstWithoutWayTo_99 (by decide) ?_
      exact wp_sub [1, 0] rfl hb
    · have hb := hb.2 c35
      refine wp_iload_n 1 dX1_firstWithoutWayTo_94 rfl rfl ?_
      exact wp_iret rfl dX1_firstWithoutWayTo_95 ⟨_, rfl, hb⟩
theorem c_X1_firstWithoutWayTo {l : Launch} {g : AG} {h : AH} {x0 : Nat} {x1 : Int32}  {Q : Int32 → AH → Prop} (hb : L_X1_firstWithoutWayTo_0 l g h x0 x1  Q) : C_X1_firstWithoutWayTo l g h x0 x1  Q := ax_met rfl (Nat.le_of_ble_eq_true rfl) hb
def C_X9_stuck (l : Launch) (g : AG) (h : AH) (x0 : Nat) (x1 : Int32)  (Q : Int32 → AH → Prop) : Prop := Ct l g mX9_stuck 3 68 194 194 h [.ref x0, .int x1] (ax_QI Q)
def L_X9_stuck_0 (l : Launch) (g : AG) (h : AH) (x0 : Nat) (x1 : Int32)  (Q : Int32 → AH → Prop) : Prop := Wp l g mX9_stuck 3 68 194 194 194 0 [(0, .ref x0), (1, .int x1)] [] h (FM g 194 194 (ax_QI Q))
set_option maxRecDepth 100000 in
set_option maxHeartbeats 4000000 in
theorem s_X9_stuck_0 {l : Launch} {g : AG} {h : AH} {x0 : Nat} {x1 : Int32}  {Q : Int32 → AH → Prop} (hb : (Is 194 x0 8) ∧ ( (Is 194 (h.2.2 x0 6) 1) ∧ ( C_X1_stands l g h (h.2.2 x0 6) (fun r5 h4 => ( ((¬ r5 = 0 → (((x1 < 0 → (C_X9_refused l g h4 x0 1 (fun r10 h9 => ( Q r10 h9)))) ∧ (¬ (x1 < 0) → ((Is 194 (h4.2.2 x0 6) 1) ∧ ( (Is 194 (h4.2.2 (h4.2.2 x0 6) 1) 0) ∧ ( ((x1 < h4.1 (h4.2.2 (h4.2.2 x0 6) 1) 0 → ((Is 194 (h4.2.2 x0 6) 1) ∧ ( C_X1_firstWithoutWayTo l g h4 (h4.2.2 x0 6) x1 (fun r17 h16 => ( C_X9_granted l g h16 x0 r17 (fun r20 h19 => ( Q r20 h19))))))) ∧ (¬ (x1 < h4.1 (h4.2.2 (h4.2.2 x0 6) 1) 0) → (C_X9_refused l g h4 x0 1 (fun r23 h22 => ( Q r23 h22)))))))))))) ∧ (r5 = 0 → (C_X9_refused l g h4 x0 6 (fun r26 h25 => ( Q r26 h25)))))))))) : L_X9_stuck_0 l g h x0 x1  Q := by
  obtain ⟨i1, hb⟩ := hb
  refine wp_aload_n 0 dX9_stuck_0 rfl rfl ?_
  obtain ⟨i2, hb⟩ := hb
  refine wp_getR dX9_stuck_1 fl_X9_44 i1 (i2.ne (by decide)) ?_
  refine wp_callVN (as := []) dX9_stuck_4 cb_X1_stands lk_X9_202 im_X1_stands se_X1_stands rfl (Nat.le_of_ble_eq_true rfl) ⟨by decide, by decide⟩ ⟨Nat.le_refl _, Nat.le_refl _, Nat.le_refl _⟩ i2 rfl (by decide) hb (fun r0 h4 hb => ?_)
  obtain ⟨r5, rfl, hb⟩ := hb
  refine wp_if_ne (tgt := 17) dX9_stuck_7 (by decide) (fun c6 => ?_) (fun c6 => ?_)
  · have hb := hb.1 c6
    refine wp_iload_n 1 dX9_stuck_17 rfl rfl ?_
    refine wp_if_lt (tgt := 35) dX9_stuck_18 (by decide) (fun c7 => ?_) (fun c7 => ?_)
    · have hb := hb.1 c7
      refine wp_aload_n 0 dX9_stuck_35 rfl rfl ?_
      refine wp_iconst (v := 1) dX9_stuck_36 (by decide) ?_
      refine wp_callV (as := [.int 1]) dX9_stuck_37 cb_X9_refused lk_X9_76 im_X9_refused se_X9_refused rfl (Nat.le_of_ble_eq_true rfl) ⟨by decide, by decide⟩ ⟨Nat.le_refl _, Nat.le_refl _, Nat.le_refl _⟩ i1 rfl (by decide) hb (fun r0 h9 hb => ?_)
      obtain ⟨r10, rfl, hb⟩ := hb
      exact wp_iret rfl dX9_stuck_40 ⟨_, rfl, hb⟩
    · have hb := hb.2 c7
      refine wp_iload_n 1 dX9_stuck_21 rfl rfl ?_
      refine wp_aload_n 0 dX9_stuck_22 rfl rfl ?_
      obtain ⟨i11, hb⟩ := hb
      refine wp_getR dX9_stuck_23 fl_X9_44 i1 (i11.ne (by decide)) ?_
      obtain ⟨i12, hb⟩ := hb
      refine wp_getR dX9_stuck_26 fl_X9_213 i11 (i12.ne (by decide)) ?_
      refine wp_getI dX9_stuck_29 fl_X9_94 i12 ?_
      refine wp_icmp_lt (tgt := 41) dX9_stuck_32 (by decide) (fun c13 => ?_) (fun c13 => ?_)
      · have hb := hb.1 c13
        refine wp_aload_n 0 dX9_stuck_41 rfl rfl ?_
        refine wp_aload_n 0 dX9_stuck_42 rfl rfl ?_
        obtain ⟨i14, hb⟩ := hb
        refine wp_getR dX9_stuck_43 fl_X9_44 i1 (i14.ne (by decide)) ?_
        refine wp_iload_n 1 dX9_stuck_46 rfl rfl ?_
        refine wp_callVN (as := [.int x1]) dX9_stuck_47 cb_X1_firstWithoutWayTo lk_X9_226 im_X1_firstWithoutWayTo se_X1_firstWithoutWayTo rfl (Nat.le_of_ble_eq_true rfl) ⟨by decide, by decide⟩ ⟨Nat.le_refl _, Nat.le_refl _, Nat.le_refl _⟩ i14 rfl (by decide) hb (fun r0 h16 hb => ?_)
        obtain ⟨r17, rfl, hb⟩ := hb
        refine wp_callV (as := [.int r17]) dX9_stuck_50 cb_X9_granted lk_X9_97 im_X9_granted se_X9_granted rfl (Nat.le_of_ble_eq_true rfl) ⟨by decide, by decide⟩ ⟨Nat.le_refl _, Nat.le_refl _, Nat.le_refl _⟩ i1 rfl (by decide) hb (fun r0 h19 hb => ?_)
        obtain ⟨r20, rfl, hb⟩ := hb
        exact wp_iret rfl dX9_stuck_53 ⟨_, rfl, hb⟩
      · have hb := hb.2 c13
        refine wp_aload_n 0 dX9_stuck_35 rfl rfl ?_
        refine wp_iconst (v := 1) dX9_stuck_36 (by decide) ?_
        refine wp_callV (as := [.int 1]) dX9_stuck_37 cb_X9_refused lk_X9_76 im_X9_refused se_X9_refused rfl (Nat.le_of_ble_eq_true rfl) ⟨by decide, by decide⟩ ⟨Nat.le_refl _, Nat.le_refl _, Nat.le_refl _⟩ i1 rfl (by decide) hb (fun r0 h22 hb => ?_)
        obtain ⟨r23, rfl, hb⟩ := hb
        exact wp_iret rfl dX9_stuck_40 ⟨_, rfl, hb⟩
  · have hb := hb.2 c6
    refine wp_aload_n 0 dX9_stuck_10 rfl rfl ?_
    refine wp_bipush (v := 6) dX9_stuck_11 (by decide) ?_
    refine wp_callV (as := [.int 6]) dX9_stuck_13 cb_X9_refused lk_X9_76 im_X9_refused se_X9_refused rfl (Nat.le_of_ble_eq_true rfl) ⟨by decide, by decide⟩ ⟨Nat.le_refl _, Nat.le_refl _, Nat.le_refl _⟩ i1 rfl (by decide) hb (fun r0 h25 hb => ?_)
    obtain ⟨r26, rfl, hb⟩ := hb
    exact wp_iret rfl dX9_stuck_16 ⟨_, rfl, hb⟩
theorem c_X9_stuck {l : Launch} {g : AG} {h : AH} {x0 : Nat} {x1 : Int32}  {Q : Int32 → AH → Prop} (hb : L_X9_stuck_0 l g h x0 x1  Q) : C_X9_stuck l g h x0 x1  Q := ax_met rfl (Nat.le_of_ble_eq_true rfl) hb
