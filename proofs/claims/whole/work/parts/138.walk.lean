def C_X9_leaveOut (l : Launch) (g : AG) (h : AH) (x0 : Nat) (x1 : Nat) (x2 : Int32)  (Q : AH → Prop) : Prop := Ct l g mX9_leaveOut 5 124 194 194 h [.ref x0, .ref x1, .int x2] (ax_QV Q)
def L_X9_leaveOut_0 (l : Launch) (g : AG) (h : AH) (x0 : Nat) (x1 : Nat) (x2 : Int32)  (Q : AH → Prop) : Prop := Wp l g mX9_leaveOut 5 124 194 194 194 0 [(0, .ref x0), (1, .ref x1), (2, .int x2)] [] h (FM g 194 194 (ax_QV Q))
def L_X9_leaveOut_2 (l : Launch) (g : AG) (h : AH) (x0 : Nat) (x1 : Nat) (x3 : Int32)  (Q : AH → Prop) : Prop := Wp l g mX9_leaveOut 5 124 194 194 194 2 [(0, .ref x0), (1, .ref x1), (3, .int x3)] [] h (FM g 194 194 (ax_QV Q))
set_option maxRecDepth 100000 in
set_option maxHeartbeats 4000000 in
theorem s_X9_leaveOut_0 {l : Launch} {g : AG} {h : AH} {x0 : Nat} {x1 : Nat} {x2 : Int32}  {Q : AH → Prop} (hb : L_X9_leaveOut_2 l g h x0 x1 x2  Q) : L_X9_leaveOut_0 l g h x0 x1 x2  Q := by
  refine wp_iload_n 2 dX9_leaveOut_0 rfl rfl ?_
  refine wp_istore_n (lv2 := [(3, .int x2), (0, .ref x0), (1, .ref x1), (2, .int x2)]) dX9_leaveOut_1 rfl (by decide) rfl ?_
  exact wp_sub [1, 2, 0] rfl hb
set_option maxRecDepth 100000 in
set_option maxHeartbeats 4000000 in
theorem s_X9_leaveOut_2 {l : Launch} {g : AG} {h : AH} {x0 : Nat} {x1 : Nat} {x3 : Int32}  {Q : AH → Prop} (hb : (Is 194 x0 8) ∧ ( (((h.1 x0 9) - 1 ≤ x3 → (∀ h3 : AH, h3 = ax_setI h x0 9 ((h.1 x0 9) - 1) → ( Q h3))) ∧ (¬ ((h.1 x0 9) - 1 ≤ x3) → ((Is 194 (h.2.2 x0 8) 20) ∧ ( (Is 194 (h.2.2 x0 8) 20) ∧ ( (vp_in (x3 + 1) (ax_s (h.2.2 x0 8)).2) ∧ ( (vp_in x3 (ax_s (h.2.2 x0 8)).2) ∧ ( ∀ h9 : AH, h9 = ax_setI h (h.2.2 x0 8) x3.toNatClampNeg (h.1 (h.2.2 x0 8) (x3 + 1).toNatClampNeg) → ( (Is 194 (h9.2.2 x0 10) 21) ∧ ( (Is 194 x1 0) ∧ ( (Is 194 (h9.2.2 x0 10) 21) ∧ ( (vp_in x3 (ax_s (h9.2.2 x0 10)).2) ∧ ( (Is 194 (h9.2.2 x0 8) 20) ∧ ( (vp_in x3 (ax_s (h9.2.2 x0 8)).2) ∧ ( C_X0_tryAct l g h9 x1 (h9.2.1 (h9.2.2 x0 10) x3.toNatClampNeg) (h9.1 (h9.2.2 x0 8) x3.toNatClampNeg) (fun r19 h18 => ( (vp_in (x3 + 1) (ax_s (h9.2.2 x0 10)).2) ∧ ( ∀ h21 : AH, h21 = ax_setL h18 (h9.2.2 x0 10) (x3 + 1).toNatClampNeg r19 → ( ∀ v23 : Int32, v23 = x3 + (1) → ( L_X9_leaveOut_2 l g h21 x0 x1 v23  Q))))))))))))))))))))) : L_X9_leaveOut_2 l g h x0 x1 x3  Q := by
  refine wp_iload_n 2 dX9_leaveOut_2 rfl rfl ?_
  obtain ⟨i1, hb⟩ := hb
  refine wp_aload_n 0 dX9_leaveOut_3 rfl rfl ?_
  refine wp_getI dX9_leaveOut_4 fl_X9_60 i1 ?_
  refine wp_iconst (v := 1) dX9_leaveOut_7 (by decide) ?_
  refine wp_isub dX9_leaveOut_8 ?_
  refine wp_icmp_ge (tgt := 56) dX9_leaveOut_9 (by decide) (fun c2 => ?_) (fun c2 => ?_)
  · have hb := hb.1 c2
    refine wp_aload_n 0 dX9_leaveOut_56 rfl rfl ?_
    refine wp_dup dX9_leaveOut_57 rfl ?_
    refine wp_getI dX9_leaveOut_58 fl_X9_60 i1 ?_
    refine wp_iconst (v := 1) dX9_leaveOut_61 (by decide) ?_
    refine wp_isub dX9_leaveOut_62 ?_
    refine wp_putI dX9_leaveOut_63 fl_X9_60 (Or.inl rfl) i1 ?_
    refine wp_topH (fun h3 e4 => ?_)
    have hb := hb h3 e4
    exact wp_vret rfl dX9_leaveOut_66 ⟨rfl, hb⟩
  · have hb := hb.2 c2
    refine wp_aload_n 0 dX9_leaveOut_12 rfl rfl ?_
    obtain ⟨i5, hb⟩ := hb
    refine wp_getR dX9_leaveOut_13 fl_X9_57 i1 (i5.ne (by decide)) ?_
    refine wp_iload_n 2 dX9_leaveOut_16 rfl rfl ?_
    refine wp_aload_n 0 dX9_leaveOut_17 rfl rfl ?_
    obtain ⟨i6, hb⟩ := hb
    refine wp_getR dX9_leaveOut_18 fl_X9_57 i1 (i6.ne (by decide)) ?_
    refine wp_iload_n 2 dX9_leaveOut_21 rfl rfl ?_
    refine wp_iconst (v := 1) dX9_leaveOut_22 (by decide) ?_
    refine wp_iadd dX9_leaveOut_23 ?_
    obtain ⟨b7, hb⟩ := hb
    refine wp_iaload dX9_leaveOut_24 i6 b7 ?_
    obtain ⟨b8, hb⟩ := hb
    refine wp_iastore dX9_leaveOut_25 i5 b8 ?_
    refine wp_topH (fun h9 e10 => ?_)
    have hb := hb h9 e10
    refine wp_aload_n 0 dX9_leaveOut_26 rfl rfl ?_
    obtain ⟨i11, hb⟩ := hb
    refine wp_getR dX9_leaveOut_27 fl_X9_63 i1 (i11.ne (by decide)) ?_
    refine wp_iload_n 2 dX9_leaveOut_30 rfl rfl ?_
    refine wp_iconst (v := 1) dX9_leaveOut_31 (by decide) ?_
    refine wp_iadd dX9_leaveOut_32 ?_
    obtain ⟨i12, hb⟩ := hb
    refine wp_aload_n 1 dX9_leaveOut_33 rfl rfl ?_
    refine wp_aload_n 0 dX9_leaveOut_34 rfl rfl ?_
    obtain ⟨i13, hb⟩ := hb
    refine wp_getR dX9_leaveOut_35 fl_X9_63 i1 (i13.ne (by decide)) ?_
    refine wp_iload_n 2 dX9_leaveOut_38 rfl rfl ?_
    obtain ⟨b14, hb⟩ := hb
    refine wp_laload dX9_leaveOut_39 i13 b14 ?_
    refine wp_aload_n 0 dX9_leaveOut_40 rfl rfl ?_
    obtain ⟨i15, hb⟩ := hb
    refine wp_getR dX9_leaveOut_41 fl_X9_57 i1 (i15.ne (by decide)) ?_
    refine wp_iload_n 2 dX9_leaveOut_44 rfl rfl ?_
    obtain ⟨b16, hb⟩ := hb
    refine wp_iaload dX9_leaveOut_45 i15 b16 ?_
    refine wp_callVN (as := [.long (h9.2.1 (h9.2.2 x0 10) x3.toNatClampNeg), .int (h9.1 (h9.2.2 x0 8) x3.toNatClampNeg)]) dX9_leaveOut_46 cb_X0_tryAct lk_X9_275 im_X0_tryAct se_X0_tryAct rfl (Nat.le_of_ble_eq_true rfl) ⟨by decide, by decide⟩ ⟨Nat.le_refl _, Nat.le_refl _, Nat.le_refl _⟩ i12 rfl (by decide) hb (fun r0 h18 hb => ?_)
    obtain ⟨r19, rfl, hb⟩ := hb
    obtain ⟨b20, hb⟩ := hb
    refine wp_lastore dX9_leaveOut_49 i11 b20 ?_
    refine wp_topH (fun h21 e22 => ?_)
    have hb := hb h21 e22
    obtain ⟨v23, e24⟩ : ∃ y : Int32, y = x3 + (1) := ⟨_, rfl⟩
    have hb := hb v23 e24
    refine wp_iinc (v := v23) (lv2 := [(3, .int v23), (0, .ref x0), (1, .ref x1)]) 2 dX9_leaveOut_50 rfl (by rw [e24]; rfl) (by decide) rfl ?_
    refine wp_goto (tgt := 2) dX9_leaveOut_53 (by decide) ?_
    exact wp_sub [1, 2, 0] rfl hb
theorem c_X9_leaveOut {l : Launch} {g : AG} {h : AH} {x0 : Nat} {x1 : Nat} {x2 : Int32}  {Q : AH → Prop} (hb : L_X9_leaveOut_0 l g h x0 x1 x2  Q) : C_X9_leaveOut l g h x0 x1 x2  Q := ax_met rfl (Nat.le_of_ble_eq_true rfl) hb
def C_X9_shorter (l : Launch) (g : AG) (h : AH) (x0 : Nat) (x1 : Int32)  (Q : Int32 → AH → Prop) : Prop := Ct l g mX9_shorter 6 150 194 194 h [.ref x0, .int x1] (ax_QI Q)
def L_X9_shorter_0 (l : Launch) (g : AG) (h : AH) (x0 : Nat) (x1 : Int32)  (Q : Int32 → AH → Prop) : Prop := Wp l g mX9_shorter 6 150 194 194 194 0 [(0, .ref x0), (1, .int x1)] [] h (FM g 194 194 (ax_QI Q))
def L_X9_shorter_60 (l : Launch) (g : AG) (h : AH) (x0 : Nat) (x2 : Nat) (x4 : Int32) (x5 : Int32) (x6 : Int32)  (Q : Int32 → AH → Prop) : Prop := Wp l g mX9_shorter 6 150 194 194 194 60 [(0, .ref x0), (2, .ref x2), (4, .int x4), (5, .int x5), (6, .int x6)] [] h (FM g 194 194 (ax_QI Q))
def L_X9_shorter_84 (l : Launch) (g : AG) (h : AH) (x0 : Nat) (x2 : Nat) (x4 : Int32) (x5 : Int32) (x6 : Int32) (x7 : Int32)  (Q : Int32 → AH → Prop) : Prop := Wp l g mX9_shorter 6 150 194 194 194 84 [(0, .ref x0), (2, .ref x2), (4, .int x4), (5, .int x5), (6, .int x6), (7, .int x7)] [] h (FM g 194 194 (ax_QI Q))
set_option maxRecDepth 100000 in
set_option maxHeartbeats 4000000 in
theorem s_X9_shorter_0 {l : Launch} {g : AG} {h : AH} {x0 : Nat} {x1 : Int32}  {Q : Int32 → AH → Prop} (hb : (Is 194 x0 8) ∧ ( C_X9_has l g h x0 x1 (fun r4 h3 => ( ((¬ r4 = 0 → ((Is 194 (h3.2.2 x0 2) 24) ∧ ( (vp_in x1 (ax_s (h3.2.2 x0 2)).2) ∧ ( (Is 194 (h3.2.2 (h3.2.2 x0 2) x1.toNatClampNeg) 0) ∧ ( ∀ v9 : Nat, v9 = (h3.2.2 (h3.2.2 x0 2) x1.toNatClampNeg) → ( C_X9_actsToFault l g h3 x0 v9 (fun r14 h13 => ( (Is 194 (h13.2.2 x0 10) 21) ∧ ( (vp_in r14 (ax_s (h13.2.2 x0 10)).2) ∧ ( C_X3_faultOf l g h13 (h13.2.1 (h13.2.2 x0 10) r14.toNatClampNeg) (fun r19 h18 => ( ((¬ r19 = 0 → (∀ h21 : AH, h21 = ax_setI h18 x0 9 r14 → ( L_X9_shorter_60 l g h21 x0 v9 r19 1 0  Q))) ∧ (r19 = 0 → (C_X9_refused l g h18 x0 4 (fun r25 h24 => ( Q r25 h24))))))))))))))))) ∧ (r4 = 0 → (C_X9_refused l g h3 x0 1 (fun r28 h27 => ( Q r28 h27))))))))) : L_X9_shorter_0 l g h x0 x1  Q := by
  obtain ⟨i1, hb⟩ := hb
  refine wp_aload_n 0 dX9_shorter_0 rfl rfl ?_
  refine wp_iload_n 1 dX9_shorter_1 rfl rfl ?_
  refine wp_callV (as := [.int x1]) dX9_shorter_2 cb_X9_has lk_X9_106 im_X9_has se_X9_has rfl (Nat.le_of_ble_eq_true rfl) ⟨by decide, by decide⟩ ⟨Nat.le_refl _, Nat.le_refl _, Nat.le_refl _⟩ i1 rfl (by decide) hb (fun r0 h3 hb => ?_)
  obtain ⟨r4, rfl, hb⟩ := hb
  refine wp_if_ne (tgt := 14) dX9_shorter_5 (by decide) (fun c5 => ?_) (fun c5 => ?_)
  · have hb := hb.1 c5
    refine wp_aload_n 0 dX9_shorter_14 rfl rfl ?_
    obtain ⟨i6, hb⟩ := hb
    refine wp_getR dX9_shorter_15 fl_X9_20 i1 (i6.ne (by decide)) ?_
    refine wp_iload_n 1 dX9_shorter_18 rfl rfl ?_
    obtain ⟨b7, hb⟩ := hb
    obtain ⟨i8, hb⟩ := hb
    refine wp_aaload24 dX9_shorter_19 i6 b7 (i8.ne (by decide)) ?_
    refine wp_topr (fun v9 e10 => ?_)
    have hb := hb v9 e10
    have i11 : Is 194 v9 0 := by rw [e10]; exact i8
    refine wp_astore_n (lv2 := [(2, .ref v9), (0, .ref x0), (1, .int x1)]) dX9_shorter_20 rfl (by decide) rfl ?_
    refine wp_aload_n 1 dX9_shorter_21 rfl rfl ?_
    refine wp_aload_n 0 dX9_shorter_22 rfl rfl ?_
    refine wp_callV (as := [.ref v9]) dX9_shorter_23 cb_X9_actsToFault lk_X9_241 im_X9_actsToFault se_X9_actsToFault rfl (Nat.le_of_ble_eq_true rfl) ⟨by decide, by decide⟩ ⟨Nat.le_refl _, Nat.le_refl _, Nat.le_refl _⟩ i1 rfl (by decide) hb (fun r0 h13 hb => ?_)
    obtain ⟨r14, rfl, hb⟩ := hb
    refine wp_istore_n (lv2 := [(3, .int r14), (2, .ref v9), (0, .ref x0), (1, .int x1)]) dX9_shorter_26 rfl (by decide) rfl ?_
    refine wp_aload_n 2 dX9_shorter_27 rfl rfl ?_
    obtain ⟨i15, hb⟩ := hb
    refine wp_getR dX9_shorter_28 fl_X9_63 i1 (i15.ne (by decide)) ?_
    refine wp_iload_n 0 dX9_shorter_31 rfl rfl ?_
    obtain ⟨b16, hb⟩ := hb
    refine wp_laload dX9_shorter_32 i15 b16 ?_
    refine wp_callSN (as := [.long (h13.2.1 (h13.2.2 x0 10) r14.toNatClampNeg)]) dX9_shorter_33 cb_X3_faultOf lk_X9_152 st_X3_faultOf rfl (Nat.le_of_ble_eq_true rfl) ⟨by decide, by decide⟩ ⟨Nat.le_refl _, Nat.le_refl _, Nat.le_refl _⟩ hb (fun r0 h18 hb => ?_)
    obtain ⟨r19, rfl, hb⟩ := hb
    refine wp_istore (lv2 := [(4, .int r19), (3, .int r14), (2, .ref v9), (0, .ref x0), (1, .int x1)]) dX9_shorter_36 (by decide) rfl ?_
    refine wp_iload 0 dX9_shorter_38 rfl ?_
    refine wp_if_ne (tgt := 49) dX9_shorter_40 (by decide) (fun c20 => ?_) (fun c20 => ?_)
    · have hb := hb.1 c20
      refine wp_aload_n 3 dX9_shorter_49 rfl rfl ?_
      refine wp_iload_n 1 dX9_shorter_50 rfl rfl ?_
      refine wp_putI dX9_shorter_51 fl_X9_60 (Or.inl rfl) i1 ?_
      refine wp_topH (fun h21 e22 => ?_)
      have hb := hb h21 e22
      refine wp_iconst (v := 1) dX9_shorter_54 (by decide) ?_
      refine wp_istore (lv2 := [(5, .int 1), (4, .int r19), (3, .int r14), (2, .ref v9), (0, .ref x0), (1, .int x1)]) dX9_shorter_55 (by decide) rfl ?_
      refine wp_iconst (v := 0) dX9_shorter_57 (by decide) ?_
      refine wp_istore (lv2 := [(6, .int 0), (5, .int 1), (4, .int r19), (3, .int r14), (2, .ref v9), (0, .ref x0), (1, .int x1)]) dX9_shorter_58 (by decide) rfl ?_
      exact wp_sub [5, 4, 2, 1, 0] rfl hb
    · have hb := hb.2 c20
      refine wp_aload_n 3 dX9_shorter_43 rfl rfl ?_
      refine wp_iconst (v := 4) dX9_shorter_44 (by decide) ?_
      refine wp_callV (as := [.int 4]) dX9_shorter_45 cb_X9_refused lk_X9_76 im_X9_refused se_X9_refused rfl (Nat.le_of_ble_eq_true rfl) ⟨by decide, by decide⟩ ⟨Nat.le_refl _, Nat.le_refl _, Nat.le_refl _⟩ i1 rfl (by decide) hb (fun r0 h24 hb => ?_)
      obtain ⟨r25, rfl, hb⟩ := hb
      exact wp_iret rfl dX9_shorter_48 ⟨_, rfl, hb⟩
  · have hb := hb.2 c5
    refine wp_aload_n 0 dX9_shorter_8 rfl rfl ?_
    refine wp_iconst (v := 1) dX9_shorter_9 (by decide) ?_
    refine wp_callV (as := [.int 1]) dX9_shorter_10 cb_X9_refused lk_X9_76 im_X9_refused se_X9_refused rfl (Nat.le_of_ble_eq_true rfl) ⟨by decide, by decide⟩ ⟨Nat.le_refl _, Nat.le_refl _, Nat.le_refl _⟩ i1 rfl (by decide) hb (fun r0 h27 hb => ?_)
    obtain ⟨r28, rfl, hb⟩ := hb
    exact wp_iret rfl dX9_shorter_13 ⟨_, rfl, hb⟩
set_option maxRecDepth 100000 in
set_option maxHeartbeats 4000000 in
theorem s_X9_shorter_60 {l : Launch} {g : AG} {h : AH} {x0 : Nat} {x2 : Nat} {x4 : Int32} {x5 : Int32} {x6 : Int32}  {Q : Int32 → AH → Prop} (hb : ((x5 = 0 → ((Is 194 x0 8) ∧ ( C_X9_granted l g h x0 (h.1 x0 9) (fun r33 h32 => ( Q r33 h32))))) ∧ (¬ (x5 = 0) → (((400 < x6 → ((Is 194 x0 8) ∧ ( C_X9_granted l g h x0 (h.1 x0 9) (fun r38 h37 => ( Q r38 h37))))) ∧ (¬ (400 < x6) → ((Is 194 x0 8) ∧ ( ∀ v40 : Int32, v40 = ((h.1 x0 9) - 1) → ( L_X9_shorter_84 l g h x0 x2 x4 0 x6 v40  Q))))))))) : L_X9_shorter_60 l g h x0 x2 x4 x5 x6  Q := by
  refine wp_iload 3 dX9_shorter_60 rfl ?_
  refine wp_if_eq (tgt := 123) dX9_shorter_62 (by decide) (fun c29 => ?_) (fun c29 => ?_)
  · have hb := hb.1 c29
    obtain ⟨i30, hb⟩ := hb
    refine wp_aload_n 0 dX9_shorter_123 rfl rfl ?_
    refine wp_aload_n 0 dX9_shorter_124 rfl rfl ?_
    refine wp_getI dX9_shorter_125 fl_X9_60 i30 ?_
    refine wp_callV (as := [.int (h.1 x0 9)]) dX9_shorter_128 cb_X9_granted lk_X9_97 im_X9_granted se_X9_granted rfl (Nat.le_of_ble_eq_true rfl) ⟨by decide, by decide⟩ ⟨Nat.le_refl _, Nat.le_refl _, Nat.le_refl _⟩ i30 rfl (by decide) hb (fun r0 h32 hb => ?_)
    obtain ⟨r33, rfl, hb⟩ := hb
    exact wp_iret rfl dX9_shorter_131 ⟨_, rfl, hb⟩
  · have hb := hb.2 c29
    refine wp_iload 4 dX9_shorter_65 rfl ?_
    refine wp_sipush (v := 400) dX9_shorter_67 (by decide) ?_
    refine wp_icmp_gt (tgt := 123) dX9_shorter_70 (by decide) (fun c34 => ?_) (fun c34 => ?_)
    · have hb := hb.1 c34
      obtain ⟨i35, hb⟩ := hb
      refine wp_aload_n 0 dX9_shorter_123 rfl rfl ?_
      refine wp_aload_n 0 dX9_shorter_124 rfl rfl ?_
      refine wp_getI dX9_shorter_125 fl_X9_60 i35 ?_
      refine wp_callV (as := [.int (h.1 x0 9)]) dX9_shorter_128 cb_X9_granted lk_X9_97 im_X9_granted se_X9_granted rfl (Nat.le_of_ble_eq_true rfl) ⟨by decide, by decide⟩ ⟨Nat.le_refl _, Nat.le_refl _, Nat.le_refl _⟩ i35 rfl (by decide) hb (fun r0 h37 hb => ?_)
      obtain ⟨r38, rfl, hb⟩ := hb
      exact wp_iret rfl dX9_shorter_131 ⟨_, rfl, hb⟩
    · have hb := hb.2 c34
      refine wp_iconst (v := 0) dX9_shorter_73 (by decide) ?_
      refine wp_istore (lv2 := [(5, .int 0), (0, .ref x0), (2, .ref x2), (4, .int x4), (6, .int x6)]) dX9_shorter_74 (by decide) rfl ?_
      obtain ⟨i39, hb⟩ := hb
      refine wp_aload_n 1 dX9_shorter_76 rfl rfl ?_
      refine wp_getI dX9_shorter_77 fl_X9_60 i39 ?_
      refine wp_iconst (v := 1) dX9_shorter_80 (by decide) ?_
      refine wp_isub dX9_shorter_81 ?_
      refine wp_topi (fun v40 e41 => ?_)
      have hb := hb v40 e41
      refine wp_istore (lv2 := [(7, .int v40), (5, .int 0), (0, .ref x0), (2, .ref x2), (4, .int x4), (6, .int x6)]) dX9_shorter_82 (by decide) rfl ?_
      exact wp_sub [2, 3, 4, 1, 5, 0] rfl hb
set_option maxRecDepth 100000 in
set_option maxHeartbeats 4000000 in
theorem s_X9_shorter_84 {l : Launch} {g : AG} {h : AH} {x0 : Nat} {x2 : Nat} {x4 : Int32} {x5 : Int32} {x6 : Int32} {x7 : Int32}  {Q : Int32 → AH → Prop} (hb : ((x7 < 0 → (∀ v43 : Int32, v43 = x6 + (1) → ( L_X9_shorter_60 l g h x0 x2 x4 x5 v43  Q))) ∧ (¬ (x7 < 0) → ((Is 194 x0 8) ∧ ( (Is 194 x2 0) ∧ ( C_X9_comesWithout l g h x0 x2 x7 x4 (fun r49 h48 => ( ((r49 = 0 → (∀ v51 : Int32, v51 = x7 + (-1) → ( L_X9_shorter_84 l g h48 x0 x2 x4 x5 x6 v51  Q))) ∧ (¬ (r49 = 0) → (C_X9_leaveOut l g h48 x0 x2 x7 (fun h54 => ( ∀ v55 : Int32, v55 = x7 + (-1) → ( L_X9_shorter_84 l g h54 x0 x2 x4 1 x6 v55  Q)))))))))))))) : L_X9_shorter_84 l g h x0 x2 x4 x5 x6 x7  Q := by
  refine wp_iload 5 dX9_shorter_84 rfl ?_
  refine wp_if_lt (tgt := 117) dX9_shorter_86 (by decide) (fun c42 => ?_) (fun c42 => ?_)
  · have hb := hb.1 c42
    obtain ⟨v43, e44⟩ : ∃ y : Int32, y = x6 + (1) := ⟨_, rfl⟩
    have hb := hb v43 e44
    refine wp_iinc (v := v43) (lv2 := [(6, .int v43), (0, .ref x0), (2, .ref x2), (4, .int x4), (5, .int x5), (7, .int x7)]) 4 dX9_shorter_117 rfl (by rw [e44]; rfl) (by decide) rfl ?_
    refine wp_goto (tgt := 60) dX9_shorter_120 (by decide) ?_
    exact wp_sub [1, 2, 3, 4, 0] rfl hb
  · have hb := hb.2 c42
    obtain ⟨i45, hb⟩ := hb
    refine wp_aload_n 0 dX9_shorter_89 rfl rfl ?_
    obtain ⟨i46, hb⟩ := hb
    refine wp_aload_n 1 dX9_shorter_90 rfl rfl ?_
    refine wp_iload 5 dX9_shorter_91 rfl ?_
    refine wp_iload 2 dX9_shorter_93 rfl ?_
    refine wp_callV (as := [.ref x2, .int x7, .int x4]) dX9_shorter_95 cb_X9_comesWithout lk_X9_245 im_X9_comesWithout se_X9_comesWithout rfl (Nat.le_of_ble_eq_true rfl) ⟨by decide, by decide⟩ ⟨Nat.le_refl _, Nat.le_refl _, Nat.le_refl _⟩ i45 rfl (by decide) hb (fun r0 h48 hb => ?_)
    obtain ⟨r49, rfl, hb⟩ := hb
    refine wp_if_eq (tgt := 111) dX9_shorter_98 (by decide) (fun c50 => ?_) (fun c50 => ?_)
    · have hb := hb.1 c50
      obtain ⟨v51, e52⟩ : ∃ y : Int32, y = x7 + (-1) := ⟨_, rfl⟩
      have hb := hb v51 e52
      refine wp_iinc (v := v51) (lv2 := [(7, .int v51), (0, .ref x0), (2, .ref x2), (4, .int x4), (5, .int x5), (6, .int x6)]) 5 dX9_shorter_111 rfl (by rw [e52]; rfl) (by decide) rfl ?_
      refine wp_goto (tgt := 84) dX9_shorter_114 (by decide) ?_
      exact wp_sub [1, 2, 3, 4, 5, 0] rfl hb
    · have hb := hb.2 c50
      refine wp_aload_n 0 dX9_shorter_101 rfl rfl ?_
      refine wp_aload_n 1 dX9_shorter_102 rfl rfl ?_
      refine wp_iload 5 dX9_shorter_103 rfl ?_
      refine wp_callV (as := [.ref x2, .int x7]) dX9_shorter_105 cb_X9_leaveOut lk_X9_249 im_X9_leaveOut se_X9_leaveOut rfl (Nat.le_of_ble_eq_true rfl) ⟨by decide, by decide⟩ ⟨Nat.le_refl _, Nat.le_refl _, Nat.le_refl _⟩ i45 rfl (by decide) hb (fun r0 h54 hb => ?_)
      obtain ⟨rfl, hb⟩ := hb
      refine wp_iconst (v := 1) dX9_shorter_108 (by decide) ?_
      refine wp_istore (lv2 := [(5, .int 1), (0, .ref x0), (2, .ref x2), (4, .int x4), (6, .int x6), (7, .int x7)]) dX9_shorter_109 (by decide) rfl ?_
      obtain ⟨v55, e56⟩ : ∃ y : Int32, y = x7 + (-1) := ⟨_, rfl⟩
      have hb := hb v55 e56
      refine wp_iinc (v := v55) (lv2 := [(7, .int v55), (5, .int 1), (0, .ref x0), (2, .ref x2), (4, .int x4), (6, .int x6)]) 5 dX9_shorter_111 rfl (by rw [e56]; rfl) (by decide) rfl ?_
      refine wp_goto (tgt := 84) dX9_shorter_114 (by decide) ?_
      exact wp_sub [2, 3, 4, 1, 5, 0] rfl hb
theorem c_X9_shorter {l : Launch} {g : AG} {h : AH} {x0 : Nat} {x1 : Int32}  {Q : Int32 → AH → Prop} (hb : L_X9_shorter_0 l g h x0 x1  Q) : C_X9_shorter l g h x0 x1  Q := ax_met rfl (Nat.le_of_ble_eq_true rfl) hb
