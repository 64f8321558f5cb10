def C_X7_takeCondName (l : Launch) (g : AG) (h : AH) (x0 : Nat)  (Q : Int32 → AH → Prop) : Prop := Ct l g mX7_takeCondName 3 67 194 194 h [.ref x0] (ax_QI Q)
def L_X7_takeCondName_0 (l : Launch) (g : AG) (h : AH) (x0 : Nat)  (Q : Int32 → AH → Prop) : Prop := Wp l g mX7_takeCondName 3 67 194 194 194 0 [(0, .ref x0)] [] h (FM g 194 194 (ax_QI Q))
set_option maxRecDepth 100000 in
set_option maxHeartbeats 4000000 in
theorem s_X7_takeCondName_0 {l : Launch} {g : AG} {h : AH} {x0 : Nat}  {Q : Int32 → AH → Prop} (hb : (Is 194 x0 6) ∧ ( C_X7_isVar l g h x0 (fun r4 h3 => ( ((¬ r4 = 0 → ((Is 194 (h3.2.2 x0 1) 0) ∧ ( (Is 194 (h3.2.2 (h3.2.2 x0 1) 17) 3) ∧ ( (Is 194 (h3.2.2 (h3.2.2 (h3.2.2 x0 1) 17) 0) 20) ∧ ( (Is 194 (h3.2.2 x0 1) 0) ∧ ( (vp_in ((h3.1 (h3.2.2 x0 1) 1) - 1) (ax_s (h3.2.2 (h3.2.2 (h3.2.2 x0 1) 17) 0)).2) ∧ ( ∀ v11 : Int32, v11 = (h3.1 (h3.2.2 (h3.2.2 (h3.2.2 x0 1) 17) 0) ((h3.1 (h3.2.2 x0 1) 1) - 1).toNatClampNeg) → ( ((3 ≤ v11 → (C_X7_faulty l g h3 x0 5 (fun r16 h15 => ( (r16 = 0 ∨ r16 = 1) ∧ ( Q r16 h15))))) ∧ (¬ (3 ≤ v11) → (C_X7_awaits l g h3 x0 12 (fun r20 h19 => ( (r20 = 0 ∨ r20 = 1) ∧ ( Q r20 h19)))))))))))))) ∧ (r4 = 0 → (Q 0 h3))))))) : L_X7_takeCondName_0 l g h x0  Q := by
  obtain ⟨i1, hb⟩ := hb
  refine wp_aload_n 0 dX7_takeCondName_0 rfl rfl ?_
  refine wp_callV (as := []) dX7_takeCondName_1 cb_X7_isVar lk_X7_221 im_X7_isVar se_X7_isVar rfl (Nat.le_of_ble_eq_true rfl) ⟨by decide, by decide⟩ ⟨Nat.le_refl _, Nat.le_refl _, Nat.le_refl _⟩ i1 rfl (by decide) hb (fun r0 h3 hb => ?_)
  obtain ⟨r4, rfl, hb⟩ := hb
  refine wp_if_ne (tgt := 9) dX7_takeCondName_4 (by decide) (fun c5 => ?_) (fun c5 => ?_)
  · have hb := hb.1 c5
    refine wp_aload_n 0 dX7_takeCondName_9 rfl rfl ?_
    obtain ⟨i6, hb⟩ := hb
    refine wp_getR dX7_takeCondName_10 fl_X7_64 i1 (i6.ne (by decide)) ?_
    obtain ⟨i7, hb⟩ := hb
    refine wp_getR dX7_takeCondName_13 fl_X7_236 i6 (i7.ne (by decide)) ?_
    obtain ⟨i8, hb⟩ := hb
    refine wp_getR dX7_takeCondName_16 fl_X7_240 i7 (i8.ne (by decide)) ?_
    refine wp_aload_n 0 dX7_takeCondName_19 rfl rfl ?_
    obtain ⟨i9, hb⟩ := hb
    refine wp_getR dX7_takeCondName_20 fl_X7_64 i1 (i9.ne (by decide)) ?_
    refine wp_getI dX7_takeCondName_23 fl_X7_207 i9 ?_
    refine wp_iconst (v := 1) dX7_takeCondName_26 (by decide) ?_
    refine wp_isub dX7_takeCondName_27 ?_
    obtain ⟨b10, hb⟩ := hb
    refine wp_iaload dX7_takeCondName_28 i8 b10 ?_
    refine wp_topi (fun v11 e12 => ?_)
    have hb := hb v11 e12
    refine wp_iconst (v := 3) dX7_takeCondName_29 (by decide) ?_
    refine wp_icmp_ge (tgt := 42) dX7_takeCondName_30 (by decide) (fun c13 => ?_) (fun c13 => ?_)
    · have hb := hb.1 c13
      refine wp_aload_n 0 dX7_takeCondName_42 rfl rfl ?_
      refine wp_iconst (v := 5) dX7_takeCondName_43 (by decide) ?_
      refine wp_callV (as := [.int 5]) dX7_takeCondName_44 cb_X7_faulty lk_X7_90 im_X7_faulty se_X7_faulty rfl (Nat.le_of_ble_eq_true rfl) ⟨by decide, by decide⟩ ⟨Nat.le_refl _, Nat.le_refl _, Nat.le_refl _⟩ i1 rfl (by decide) hb (fun r0 h15 hb => ?_)
      obtain ⟨r16, rfl, hb⟩ := hb
      obtain ⟨q17, hb⟩ := hb
      exact wp_zret rfl dX7_takeCondName_47 q17 ⟨_, rfl, hb⟩
    · have hb := hb.2 c13
      refine wp_aload_n 0 dX7_takeCondName_33 rfl rfl ?_
      refine wp_bipush (v := 12) dX7_takeCondName_34 (by decide) ?_
      refine wp_callV (as := [.int 12]) dX7_takeCondName_36 cb_X7_awaits lk_X7_131 im_X7_awaits se_X7_awaits rfl (Nat.le_of_ble_eq_true rfl) ⟨by decide, by decide⟩ ⟨Nat.le_refl _, Nat.le_refl _, Nat.le_refl _⟩ i1 rfl (by decide) hb (fun r0 h19 hb => ?_)
      obtain ⟨r20, rfl, hb⟩ := hb
      refine wp_goto (tgt := 47) dX7_takeCondName_39 (by decide) ?_
      obtain ⟨q21, hb⟩ := hb
      exact wp_zret rfl dX7_takeCondName_47 q21 ⟨_, rfl, hb⟩
  · have hb := hb.2 c5
    refine wp_iconst (v := 0) dX7_takeCondName_7 (by decide) ?_
    exact wp_zret rfl dX7_takeCondName_8 (Or.inl rfl) ⟨_, rfl, hb⟩
theorem c_X7_takeCondName {l : Launch} {g : AG} {h : AH} {x0 : Nat}  {Q : Int32 → AH → Prop} (hb : L_X7_takeCondName_0 l g h x0  Q) : C_X7_takeCondName l g h x0  Q := ax_met rfl (Nat.le_of_ble_eq_true rfl) hb
def C_X7_takeCondSign (l : Launch) (g : AG) (h : AH) (x0 : Nat)  (Q : Int32 → AH → Prop) : Prop := Ct l g mX7_takeCondSign 1 21 194 194 h [.ref x0] (ax_QI Q)
def L_X7_takeCondSign_0 (l : Launch) (g : AG) (h : AH) (x0 : Nat)  (Q : Int32 → AH → Prop) : Prop := Wp l g mX7_takeCondSign 1 21 194 194 194 0 [(0, .ref x0)] [] h (FM g 194 194 (ax_QI Q))
set_option maxRecDepth 100000 in
set_option maxHeartbeats 4000000 in
theorem s_X7_takeCondSign_0 {l : Launch} {g : AG} {h : AH} {x0 : Nat}  {Q : Int32 → AH → Prop} (hb : (Is 194 x0 6) ∧ ( (Is 194 (h.2.2 x0 0) 7) ∧ ( C_X8_isComparison l g h (h.1 (h.2.2 x0 0) 3) (fun r5 h4 => ( ((¬ r5 = 0 → ((Is 194 (h4.2.2 x0 0) 7) ∧ ( ∀ h8 : AH, h8 = ax_setI h4 x0 8 (h4.1 (h4.2.2 x0 0) 3) → ( C_X7_awaits l g h8 x0 13 (fun r12 h11 => ( (r12 = 0 ∨ r12 = 1) ∧ ( Q r12 h11))))))) ∧ (r5 = 0 → (C_X7_faulty l g h4 x0 1 (fun r16 h15 => ( (r16 = 0 ∨ r16 = 1) ∧ ( Q r16 h15))))))))))) : L_X7_takeCondSign_0 l g h x0  Q := by
  obtain ⟨i1, hb⟩ := hb
  refine wp_aload_n 0 dX7_takeCondSign_0 rfl rfl ?_
  obtain ⟨i2, hb⟩ := hb
  refine wp_getR dX7_takeCondSign_1 fl_X7_12 i1 (i2.ne (by decide)) ?_
  refine wp_getI dX7_takeCondSign_4 fl_X7_80 i2 ?_
  refine wp_callSN (as := [.int (h.1 (h.2.2 x0 0) 3)]) dX7_takeCondSign_7 cb_X8_isComparison lk_X7_245 st_X8_isComparison rfl (Nat.le_of_ble_eq_true rfl) ⟨by decide, by decide⟩ ⟨Nat.le_refl _, Nat.le_refl _, Nat.le_refl _⟩ hb (fun r0 h4 hb => ?_)
  obtain ⟨r5, rfl, hb⟩ := hb
  refine wp_if_ne (tgt := 19) dX7_takeCondSign_10 (by decide) (fun c6 => ?_) (fun c6 => ?_)
  · have hb := hb.1 c6
    refine wp_aload_n 0 dX7_takeCondSign_19 rfl rfl ?_
    refine wp_aload_n 0 dX7_takeCondSign_20 rfl rfl ?_
    obtain ⟨i7, hb⟩ := hb
    refine wp_getR dX7_takeCondSign_21 fl_X7_12 i1 (i7.ne (by decide)) ?_
    refine wp_getI dX7_takeCondSign_24 fl_X7_80 i7 ?_
    refine wp_putI dX7_takeCondSign_27 fl_X7_39 (Or.inl rfl) i1 ?_
    refine wp_topH (fun h8 e9 => ?_)
    have hb := hb h8 e9
    refine wp_aload_n 0 dX7_takeCondSign_30 rfl rfl ?_
    refine wp_bipush (v := 13) dX7_takeCondSign_31 (by decide) ?_
    refine wp_callV (as := [.int 13]) dX7_takeCondSign_33 cb_X7_awaits lk_X7_131 im_X7_awaits se_X7_awaits rfl (Nat.le_of_ble_eq_true rfl) ⟨by decide, by decide⟩ ⟨Nat.le_refl _, Nat.le_refl _, Nat.le_refl _⟩ i1 rfl (by decide) hb (fun r0 h11 hb => ?_)
    obtain ⟨r12, rfl, hb⟩ := hb
    obtain ⟨q13, hb⟩ := hb
    exact wp_zret rfl dX7_takeCondSign_36 q13 ⟨_, rfl, hb⟩
  · have hb := hb.2 c6
    refine wp_aload_n 0 dX7_takeCondSign_13 rfl rfl ?_
    refine wp_iconst (v := 1) dX7_takeCondSign_14 (by decide) ?_
    refine wp_callV (as := [.int 1]) dX7_takeCondSign_15 cb_X7_faulty lk_X7_90 im_X7_faulty se_X7_faulty rfl (Nat.le_of_ble_eq_true rfl) ⟨by decide, by decide⟩ ⟨Nat.le_refl _, Nat.le_refl _, Nat.le_refl _⟩ i1 rfl (by decide) hb (fun r0 h15 hb => ?_)
    obtain ⟨r16, rfl, hb⟩ := hb
    obtain ⟨q17, hb⟩ := hb
    exact wp_zret rfl dX7_takeCondSign_18 q17 ⟨_, rfl, hb⟩
theorem c_X7_takeCondSign {l : Launch} {g : AG} {h : AH} {x0 : Nat}  {Q : Int32 → AH → Prop} (hb : L_X7_takeCondSign_0 l g h x0  Q) : C_X7_takeCondSign l g h x0  Q := ax_met rfl (Nat.le_of_ble_eq_true rfl) hb
def C_X4_add (l : Launch) (g : AG) (h : AH) (x0 : Nat) (x1 : Int32) (x2 : Int32) (x3 : Int32) (x4 : Int32)  (Q : AH → Prop) : Prop := Ct l g mX4_add 0 0 194 194 h [.ref x0, .int x1, .int x2, .int x3, .int x4] (ax_QV Q)
def L_X4_add_0 (l : Launch) (g : AG) (h : AH) (x0 : Nat) (x1 : Int32) (x2 : Int32) (x3 : Int32) (x4 : Int32)  (Q : AH → Prop) : Prop := Wp l g mX4_add 0 0 194 194 194 0 [(0, .ref x0), (1, .int x1), (2, .int x2), (3, .int x3), (4, .int x4)] [] h (FM g 194 194 (ax_QV Q))
def L_X4_add_51 (l : Launch) (g : AG) (h : AH) (x0 : Nat) (x1 : Int32) (x3 : Int32) (x4 : Int32) (x5 : Int32) (s0 : Int32) (s1 : Int32) (s2 : Nat) (Q : AH → Prop) : Prop := Wp l g mX4_add 0 0 194 194 194 51 [(0, .ref x0), (1, .int x1), (3, .int x3), (4, .int x4), (5, .int x5)] [.int s0, .int s1, .ref s2] h (FM g 194 194 (ax_QV Q))
def L_X4_add_84 (l : Launch) (g : AG) (h : AH) (x0 : Nat) (x1 : Int32) (s0 : Int32) (s1 : Int32) (s2 : Nat) (Q : AH → Prop) : Prop := Wp l g mX4_add 0 0 194 194 194 84 [(0, .ref x0), (1, .int x1)] [.int s0, .int s1, .ref s2] h (FM g 194 194 (ax_QV Q))
set_option maxRecDepth 100000 in
set_option maxHeartbeats 4000000 in
theorem s_X4_add_0 {l : Launch} {g : AG} {h : AH} {x0 : Nat} {x1 : Int32} {x2 : Int32} {x3 : Int32} {x4 : Int32}  {Q : AH → Prop} (hb : (Is 194 x0 3) ∧ ( (Is 194 (h.2.2 x0 0) 20) ∧ ( (vp_in x1 (ax_s (h.2.2 x0 0)).2) ∧ ( ∀ v4 : Int32, v4 = ((x1 * 3) + (h.1 (h.2.2 x0 0) x1.toNatClampNeg)) → ( (Is 194 (h.2.2 x0 1) 20) ∧ ( (vp_in v4 (ax_s (h.2.2 x0 1)).2) ∧ ( ∀ h8 : AH, h8 = ax_setI h (h.2.2 x0 1) v4.toNatClampNeg x2 → ( (Is 194 (h8.2.2 x0 2) 20) ∧ ( ((¬ x3 = 61 → (((¬ x3 = 60 → (L_X4_add_51 l g h8 x0 x1 x3 x4 v4 (x4 + 1) v4 (h8.2.2 x0 2) Q)) ∧ (x3 = 60 → (L_X4_add_51 l g h8 x0 x1 x3 x4 v4 0 v4 (h8.2.2 x0 2) Q))))) ∧ (x3 = 61 → (L_X4_add_51 l g h8 x0 x1 x3 x4 v4 x4 v4 (h8.2.2 x0 2) Q)))))))))))) : L_X4_add_0 l g h x0 x1 x2 x3 x4  Q := by
  refine wp_iload_n 1 dX4_add_0 rfl rfl ?_
  refine wp_iconst (v := 3) dX4_add_1 (by decide) ?_
  refine wp_imul dX4_add_2 ?_
  obtain ⟨i1, hb⟩ := hb
  refine wp_aload_n 0 dX4_add_3 rfl rfl ?_
  obtain ⟨i2, hb⟩ := hb
  refine wp_getR dX4_add_4 fl_X4_9 i1 (i2.ne (by decide)) ?_
  refine wp_iload_n 1 dX4_add_7 rfl rfl ?_
  obtain ⟨b3, hb⟩ := hb
  refine wp_iaload dX4_add_8 i2 b3 ?_
  refine wp_iadd dX4_add_9 ?_
  refine wp_topi (fun v4 e5 => ?_)
  have hb := hb v4 e5
  refine wp_istore (lv2 := [(5, .int v4), (0, .ref x0), (1, .int x1), (2, .int x2), (3, .int x3), (4, .int x4)]) dX4_add_10 (by decide) rfl ?_
  refine wp_aload_n 1 dX4_add_12 rfl rfl ?_
  obtain ⟨i6, hb⟩ := hb
  refine wp_getR dX4_add_13 fl_X4_15 i1 (i6.ne (by decide)) ?_
  refine wp_iload 0 dX4_add_16 rfl ?_
  refine wp_iload_n 3 dX4_add_18 rfl rfl ?_
  obtain ⟨b7, hb⟩ := hb
  refine wp_iastore dX4_add_19 i6 b7 ?_
  refine wp_topH (fun h8 e9 => ?_)
  have hb := hb h8 e9
  refine wp_aload_n 1 dX4_add_20 rfl rfl ?_
  obtain ⟨i10, hb⟩ := hb
  refine wp_getR dX4_add_21 fl_X4_18 i1 (i10.ne (by decide)) ?_
  refine wp_iload 0 dX4_add_24 rfl ?_
  refine wp_iload_n 4 dX4_add_26 rfl rfl ?_
  refine wp_bipush (v := 61) dX4_add_27 (by decide) ?_
  refine wp_icmp_ne (tgt := 37) dX4_add_29 (by decide) (fun c11 => ?_) (fun c11 => ?_)
  · have hb := hb.1 c11
    refine wp_iload_n 4 dX4_add_37 rfl rfl ?_
    refine wp_bipush (v := 60) dX4_add_38 (by decide) ?_
    refine wp_icmp_ne (tgt := 47) dX4_add_40 (by decide) (fun c12 => ?_) (fun c12 => ?_)
    · have hb := hb.1 c12
      refine wp_iload 5 dX4_add_47 rfl ?_
      refine wp_iconst (v := 1) dX4_add_49 (by decide) ?_
      refine wp_iadd dX4_add_50 ?_
      exact wp_sub [1, 2, 4, 5, 0] rfl hb
    · have hb := hb.2 c12
      refine wp_iconst (v := 0) dX4_add_43 (by decide) ?_
      refine wp_goto (tgt := 51) dX4_add_44 (by decide) ?_
      exact wp_sub [1, 2, 4, 5, 0] rfl hb
  · have hb := hb.2 c11
    refine wp_iload 5 dX4_add_32 rfl ?_
    refine wp_goto (tgt := 51) dX4_add_34 (by decide) ?_
    exact wp_sub [1, 2, 4, 5, 0] rfl hb
set_option maxRecDepth 100000 in
set_option maxHeartbeats 4000000 in
theorem s_X4_add_51 {l : Launch} {g : AG} {h : AH} {x0 : Nat} {x1 : Int32} {x3 : Int32} {x4 : Int32} {x5 : Int32} {s0 : Int32} {s1 : Int32} {s2 : Nat} {Q : AH → Prop} (hb : (Is 194 s2 20) ∧ ( (vp_in s1 (ax_s s2).2) ∧ ( ∀ h15 : AH, h15 = ax_setI h s2 s1.toNatClampNeg s0 → ( (Is 194 x0 3) ∧ ( (Is 194 (h15.2.2 x0 3) 20) ∧ ( ((¬ x3 = 61 → (((¬ x3 = 60 → (L_X4_add_84 l g h15 x0 x1 15 x5 (h15.2.2 x0 3) Q)) ∧ (x3 = 60 → (L_X4_add_84 l g h15 x0 x1 (x4 - 1) x5 (h15.2.2 x0 3) Q))))) ∧ (x3 = 61 → (L_X4_add_84 l g h15 x0 x1 x4 x5 (h15.2.2 x0 3) Q))))))))) : L_X4_add_51 l g h x0 x1 x3 x4 x5 s0 s1 s2 Q := by
  obtain ⟨i13, hb⟩ := hb
  obtain ⟨b14, hb⟩ := hb
  refine wp_iastore dX4_add_51 i13 b14 ?_
  refine wp_topH (fun h15 e16 => ?_)
  have hb := hb h15 e16
  obtain ⟨i17, hb⟩ := hb
  refine wp_aload_n 0 dX4_add_52 rfl rfl ?_
  obtain ⟨i18, hb⟩ := hb
  refine wp_getR dX4_add_53 fl_X4_21 i17 (i18.ne (by decide)) ?_
  refine wp_iload 4 dX4_add_56 rfl ?_
  refine wp_iload_n 2 dX4_add_58 rfl rfl ?_
  refine wp_bipush (v := 61) dX4_add_59 (by decide) ?_
  refine wp_icmp_ne (tgt := 69) dX4_add_61 (by decide) (fun c19 => ?_) (fun c19 => ?_)
  · have hb := hb.1 c19
    refine wp_iload_n 2 dX4_add_69 rfl rfl ?_
    refine wp_bipush (v := 60) dX4_add_70 (by decide) ?_
    refine wp_icmp_ne (tgt := 82) dX4_add_72 (by decide) (fun c20 => ?_) (fun c20 => ?_)
    · have hb := hb.1 c20
      refine wp_bipush (v := 15) dX4_add_82 (by decide) ?_
      exact wp_sub [0, 1] rfl hb
    · have hb := hb.2 c20
      refine wp_iload 3 dX4_add_75 rfl ?_
      refine wp_iconst (v := 1) dX4_add_77 (by decide) ?_
      refine wp_isub dX4_add_78 ?_
      refine wp_goto (tgt := 84) dX4_add_79 (by decide) ?_
      exact wp_sub [0, 1] rfl hb
  · have hb := hb.2 c19
    refine wp_iload 3 dX4_add_64 rfl ?_
    refine wp_goto (tgt := 84) dX4_add_66 (by decide) ?_
    exact wp_sub [0, 1] rfl hb
set_option maxRecDepth 100000 in
set_option maxHeartbeats 4000000 in
theorem s_X4_add_84 {l : Launch} {g : AG} {h : AH} {x0 : Nat} {x1 : Int32} {s0 : Int32} {s1 : Int32} {s2 : Nat} {Q : AH → Prop} (hb : (Is 194 s2 20) ∧ ( (vp_in s1 (ax_s s2).2) ∧ ( ∀ h23 : AH, h23 = ax_setI h s2 s1.toNatClampNeg s0 → ( (Is 194 x0 3) ∧ ( (Is 194 (h23.2.2 x0 0) 20) ∧ ( (vp_in x1 (ax_s (h23.2.2 x0 0)).2) ∧ ( (vp_in x1 (ax_s (h23.2.2 x0 0)).2) ∧ ( ∀ h29 : AH, h29 = ax_setI h23 (h23.2.2 x0 0) x1.toNatClampNeg ((h23.1 (h23.2.2 x0 0) x1.toNatClampNeg) + 1) → ( Q h29))))))))) : L_X4_add_84 l g h x0 x1 s0 s1 s2 Q := by
  obtain ⟨i21, hb⟩ := hb
  obtain ⟨b22, hb⟩ := hb
  refine wp_iastore dX4_add_84 i21 b22 ?_
  refine wp_topH (fun h23 e24 => ?_)
  have hb := hb h23 e24
  obtain ⟨i25, hb⟩ := hb
  refine wp_aload_n 0 dX4_add_85 rfl rfl ?_
  obtain ⟨i26, hb⟩ := hb
  refine wp_getR dX4_add_86 fl_X4_9 i25 (i26.ne (by decide)) ?_
  refine wp_iload_n 1 dX4_add_89 rfl rfl ?_
  refine wp_dup2_11 dX4_add_90 rfl rfl ?_
  obtain ⟨b27, hb⟩ := hb
  refine wp_iaload dX4_add_91 i26 b27 ?_
  refine wp_iconst (v := 1) dX4_add_92 (by decide) ?_
  refine wp_iadd dX4_add_93 ?_
  obtain ⟨b28, hb⟩ := hb
  refine wp_iastore dX4_add_94 i26 b28 ?_
  refine wp_topH (fun h29 e30 => ?_)
  have hb := hb h29 e30
  exact wp_vret rfl dX4_add_95 ⟨rfl, hb⟩
theorem c_X4_add {l : Launch} {g : AG} {h : AH} {x0 : Nat} {x1 : Int32} {x2 : Int32} {x3 : Int32} {x4 : Int32}  {Q : AH → Prop} (hb : L_X4_add_0 l g h x0 x1 x2 x3 x4  Q) : C_X4_add l g h x0 x1 x2 x3 x4  Q := ax_met rfl (Nat.le_of_ble_eq_true rfl) hb
