def C_X1_firstOfFault (l : Launch) (g : AG) (h : AH) (x0 : Nat) (x1 : Int32)  (Q : Int32 → AH → Prop) : Prop := Ct l g mX1_firstOfFault 2 42 194 194 h [.ref x0, .int x1] (ax_QI Q)
def L_X1_firstOfFault_0 (l : Launch) (g : AG) (h : AH) (x0 : Nat) (x1 : Int32)  (Q : Int32 → AH → Prop) : Prop := Wp l g mX1_firstOfFault 2 42 194 194 194 0 [(0, .ref x0), (1, .int x1)] [] h (FM g 194 194 (ax_QI Q))
def L_X1_firstOfFault_2 (l : Launch) (g : AG) (h : AH) (x0 : Nat) (x1 : Int32) (x2 : Int32)  (Q : Int32 → AH → Prop) : Prop := Wp l g mX1_firstOfFault 2 42 194 194 194 2 [(0, .ref x0), (1, .int x1), (2, .int x2)] [] h (FM g 194 194 (ax_QI Q))
set_option maxRecDepth 100000 in
set_option maxHeartbeats 4000000 in
theorem s_X1_firstOfFault_0 {l : Launch} {g : AG} {h : AH} {x0 : Nat} {x1 : Int32}  {Q : Int32 → AH → Prop} (hb : L_X1_firstOfFault_2 l g h x0 x1 0  Q) : L_X1_firstOfFault_0 l g h x0 x1  Q := by
  refine wp_iconst (v := 0) dX1_firstOfFault_0 (by decide) ?_
  refine wp_istore_n (lv2 := [(2, .int 0), (0, .ref x0), (1, .int x1)]) dX1_firstOfFault_1 rfl (by decide) rfl ?_
  exact wp_sub [1, 2, 0] rfl hb
set_option maxRecDepth 100000 in
set_option maxHeartbeats 4000000 in
theorem s_X1_firstOfFault_2 {l : Launch} {g : AG} {h : AH} {x0 : Nat} {x1 : Int32} {x2 : Int32}  {Q : Int32 → AH → Prop} (hb : (Is 194 x0 1) ∧ ( (Is 194 (h.2.2 x0 2) 5) ∧ ( ((h.1 (h.2.2 x0 2) 0 ≤ x2 → (Q (-2) h)) ∧ (¬ (h.1 (h.2.2 x0 2) 0 ≤ x2) → ((Is 194 (h.2.2 x0 2) 5) ∧ ( (Is 194 (h.2.2 (h.2.2 x0 2) 1) 21) ∧ ( (vp_in x2 (ax_s (h.2.2 (h.2.2 x0 2) 1)).2) ∧ ( C_X3_faultOf l g h (h.2.1 (h.2.2 (h.2.2 x0 2) 1) x2.toNatClampNeg) (fun r9 h8 => ( ((¬ r9 = x1 → (∀ v11 : Int32, v11 = x2 + (1) → ( L_X1_firstOfFault_2 l g h8 x0 x1 v11  Q))) ∧ (r9 = x1 → (Q x2 h8)))))))))))))) : L_X1_firstOfFault_2 l g h x0 x1 x2  Q := by
  refine wp_iload_n 2 dX1_firstOfFault_2 rfl rfl ?_
  obtain ⟨i1, hb⟩ := hb
  refine wp_aload_n 0 dX1_firstOfFault_3 rfl rfl ?_
  obtain ⟨i2, hb⟩ := hb
  refine wp_getR dX1_firstOfFault_4 fl_X1_18 i1 (i2.ne (by decide)) ?_
  refine wp_getI dX1_firstOfFault_7 fl_X1_50 i2 ?_
  refine wp_icmp_ge (tgt := 37) dX1_firstOfFault_10 (by decide) (fun c3 => ?_) (fun c3 => ?_)
  · have hb := hb.1 c3
    refine wp_bipush (v := (-2)) dX1_firstOfFault_37 (by decide) ?_
    exact wp_iret rfl dX1_firstOfFault_39 ⟨_, rfl, hb⟩
  · have hb := hb.2 c3
    refine wp_aload_n 0 dX1_firstOfFault_13 rfl rfl ?_
    obtain ⟨i4, hb⟩ := hb
    refine wp_getR dX1_firstOfFault_14 fl_X1_18 i1 (i4.ne (by decide)) ?_
    obtain ⟨i5, hb⟩ := hb
    refine wp_getR dX1_firstOfFault_17 fl_X1_73 i4 (i5.ne (by decide)) ?_
    refine wp_iload_n 2 dX1_firstOfFault_20 rfl rfl ?_
    obtain ⟨b6, hb⟩ := hb
    refine wp_laload dX1_firstOfFault_21 i5 b6 ?_
    refine wp_callSN (as := [.long (h.2.1 (h.2.2 (h.2.2 x0 2) 1) x2.toNatClampNeg)]) dX1_firstOfFault_22 cb_X3_faultOf lk_X1_98 st_X3_faultOf rfl (Nat.le_of_ble_eq_true rfl) ⟨by decide, by decide⟩ ⟨Nat.le_refl _, Nat.le_refl _, Nat.le_refl _⟩ hb (fun r0 h8 hb => ?_)
    obtain ⟨r9, rfl, hb⟩ := hb
    refine wp_iload_n 1 dX1_firstOfFault_25 rfl rfl ?_
    refine wp_icmp_ne (tgt := 31) dX1_firstOfFault_26 (by decide) (fun c10 => ?_) (fun c10 => ?_)
    · have hb := hb.1 c10
      obtain ⟨v11, e12⟩ : ∃ y : Int32, y = x2 + (1) := ⟨_, rfl⟩
      have hb := hb v11 e12
      refine wp_iinc (v := v11) (lv2 := [(2, .int v11), (0, .ref x0), (1, .int x1)]) 2 dX1_firstOfFault_31 rfl (by rw [e12]; rfl) (by decide) rfl ?_
      refine wp_goto (tgt := 2) dX1_firstOfFault_34 (by decide) ?_
      exact wp_sub [1, 2, 0] rfl hb
    · have hb := hb.2 c10
      refine wp_iload_n 2 dX1_firstOfFault_29 rfl rfl ?_
      exact wp_iret rfl dX1_firstOfFault_30 ⟨_, rfl, hb⟩
theorem c_X1_firstOfFault {l : Launch} {g : AG} {h : AH} {x0 : Nat} {x1 : Int32}  {Q : Int32 → AH → Prop} (hb : L_X1_firstOfFault_0 l g h x0 x1  Q) : C_X1_firstOfFault l g h x0 x1  Q := ax_met rfl (Nat.le_of_ble_eq_true rfl) hb
def C_X9_faultAt (l : Launch) (g : AG) (h : AH) (x0 : Nat) (x1 : Int32)  (Q : Int32 → AH → Prop) : Prop := Ct l g mX9_faultAt 3 64 194 194 h [.ref x0, .int x1] (ax_QI Q)
def L_X9_faultAt_0 (l : Launch) (g : AG) (h : AH) (x0 : Nat) (x1 : Int32)  (Q : Int32 → AH → Prop) : Prop := Wp l g mX9_faultAt 3 64 194 194 194 0 [(0, .ref x0), (1, .int x1)] [] h (FM g 194 194 (ax_QI Q))
set_option maxRecDepth 100000 in
set_option maxHeartbeats 4000000 in
theorem s_X9_faultAt_0 {l : Launch} {g : AG} {h : AH} {x0 : Nat} {x1 : Int32}  {Q : Int32 → AH → Prop} (hb : (Is 194 x0 8) ∧ ( (Is 194 (h.2.2 x0 6) 1) ∧ ( C_X1_stands l g h (h.2.2 x0 6) (fun r5 h4 => ( ((¬ r5 = 0 → (((x1 < 1 → (C_X9_refused l g h4 x0 2 (fun r10 h9 => ( Q r10 h9)))) ∧ (¬ (x1 < 1) → (((x1 ≤ 20 → ((Is 194 (h4.2.2 x0 6) 1) ∧ ( C_X1_firstOfFault l g h4 (h4.2.2 x0 6) x1 (fun r15 h14 => ( C_X9_granted l g h14 x0 r15 (fun r18 h17 => ( Q r18 h17))))))) ∧ (¬ (x1 ≤ 20) → (C_X9_refused l g h4 x0 2 (fun r21 h20 => ( Q r21 h20)))))))))) ∧ (r5 = 0 → (C_X9_refused l g h4 x0 6 (fun r24 h23 => ( Q r24 h23)))))))))) : L_X9_faultAt_0 l g h x0 x1  Q := by
  obtain ⟨i1, hb⟩ := hb
  refine wp_aload_n 0 dX9_faultAt_0 rfl rfl ?_
  obtain ⟨i2, hb⟩ := hb
  refine wp_getR dX9_faultAt_1 fl_X9_44 i1 (i2.ne (by decide)) ?_
  refine wp_callVN (as := []) dX9_faultAt_4 cb_X1_stands lk_X9_202 im_X1_stands se_X1_stands rfl (Nat.le_of_ble_eq_true rfl) ⟨by decide, by decide⟩ ⟨Nat.le_refl _, Nat.le_refl _, Nat.le_refl _⟩ i2 rfl (by decide) hb (fun r0 h4 hb => ?_)
  obtain ⟨r5, rfl, hb⟩ := hb
  refine wp_if_ne (tgt := 17) dX9_faultAt_7 (by decide) (fun c6 => ?_) (fun c6 => ?_)
  · have hb := hb.1 c6
    refine wp_iload_n 1 dX9_faultAt_17 rfl rfl ?_
    refine wp_iconst (v := 1) dX9_faultAt_18 (by decide) ?_
    refine wp_icmp_lt (tgt := 28) dX9_faultAt_19 (by decide) (fun c7 => ?_) (fun c7 => ?_)
    · have hb := hb.1 c7
      refine wp_aload_n 0 dX9_faultAt_28 rfl rfl ?_
      refine wp_iconst (v := 2) dX9_faultAt_29 (by decide) ?_
      refine wp_callV (as := [.int 2]) dX9_faultAt_30 cb_X9_refused lk_X9_76 im_X9_refused se_X9_refused rfl (Nat.le_of_ble_eq_true rfl) ⟨by decide, by decide⟩ ⟨Nat.le_refl _, Nat.le_refl _, Nat.le_refl _⟩ i1 rfl (by decide) hb (fun r0 h9 hb => ?_)
      obtain ⟨r10, rfl, hb⟩ := hb
      exact wp_iret rfl dX9_faultAt_33 ⟨_, rfl, hb⟩
    · have hb := hb.2 c7
      refine wp_iload_n 1 dX9_faultAt_22 rfl rfl ?_
      refine wp_bipush (v := 20) dX9_faultAt_23 (by decide) ?_
      refine wp_icmp_le (tgt := 34) dX9_faultAt_25 (by decide) (fun c11 => ?_) (fun c11 => ?_)
      · have hb := hb.1 c11
        refine wp_aload_n 0 dX9_faultAt_34 rfl rfl ?_
        refine wp_aload_n 0 dX9_faultAt_35 rfl rfl ?_
        obtain ⟨i12, hb⟩ := hb
        refine wp_getR dX9_faultAt_36 fl_X9_44 i1 (i12.ne (by decide)) ?_
        refine wp_iload_n 1 dX9_faultAt_39 rfl rfl ?_
        refine wp_callVN (as := [.int x1]) dX9_faultAt_40 cb_X1_firstOfFault lk_X9_210 im_X1_firstOfFault se_X1_firstOfFault rfl (Nat.le_of_ble_eq_true rfl) ⟨by decide, by decide⟩ ⟨Nat.le_refl _, Nat.le_refl _, Nat.le_refl _⟩ i12 rfl (by decide) hb (fun r0 h14 hb => ?_)
        obtain ⟨r15, rfl, hb⟩ := hb
        refine wp_callV (as := [.int r15]) dX9_faultAt_43 cb_X9_granted lk_X9_97 im_X9_granted se_X9_granted rfl (Nat.le_of_ble_eq_true rfl) ⟨by decide, by decide⟩ ⟨Nat.le_refl _, Nat.le_refl _, Nat.le_refl _⟩ i1 rfl (by decide) hb (fun r0 h17 hb => ?_)
        obtain ⟨r18, rfl, hb⟩ := hb
        exact wp_iret rfl dX9_faultAt_46 ⟨_, rfl, hb⟩
      · have hb := hb.2 c11
        refine wp_aload_n 0 dX9_faultAt_28 rfl rfl ?_
        refine wp_iconst (v := 2) dX9_faultAt_29 (by decide) ?_
        refine wp_callV (as := [.int 2]) dX9_faultAt_30 cb_X9_refused lk_X9_76 im_X9_refused se_X9_refused rfl (Nat.le_of_ble_eq_true rfl) ⟨by decide, by decide⟩ ⟨Nat.le_refl _, Nat.le_refl _, Nat.le_refl _⟩ i1 rfl (by decide) hb (fun r0 h20 hb => ?_)
        obtain ⟨r21, rfl, hb⟩ := hb
        exact wp_iret rfl dX9_faultAt_33 ⟨_, rfl, hb⟩
  · have hb := hb.2 c6
    refine wp_aload_n 0 dX9_faultAt_10 rfl rfl ?_
    refine wp_bipush (v := 6) dX9_faultAt_11 (by decide) ?_
    refine wp_callV (as := [.int 6]) dX9_faultAt_13 cb_X9_refused lk_X9_76 im_X9_refused se_X9_refused rfl (Nat.le_of_ble_eq_true rfl) ⟨by decide, by decide⟩ ⟨Nat.le_refl _, Nat.le_refl _, Nat.le_refl _⟩ i1 rfl (by decide) hb (fun r0 h23 hb => ?_)
    obtain ⟨r24, rfl, hb⟩ := hb
    exact wp_iret rfl dX9_faultAt_16 ⟨_, rfl, hb⟩
theorem c_X9_faultAt {l : Launch} {g : AG} {h : AH} {x0 : Nat} {x1 : Int32}  {Q : Int32 → AH → Prop} (hb : L_X9_faultAt_0 l g h x0 x1  Q) : C_X9_faultAt l g h x0 x1  Q := ax_met rfl (Nat.le_of_ble_eq_true rfl) hb
def C_X1_firstOfPressed (l : Launch) (g : AG) (h : AH) (x0 : Nat) (x1 : Int32)  (Q : Int32 → AH → Prop) : Prop := Ct l g mX1_firstOfPressed 0 0 194 194 h [.ref x0, .int x1] (ax_QI Q)
def L_X1_firstOfPressed_0 (l : Launch) (g : AG) (h : AH) (x0 : Nat) (x1 : Int32)  (Q : Int32 → AH → Prop) : Prop := Wp l g mX1_firstOfPressed 0 0 194 194 194 0 [(0, .ref x0), (1, .int x1)] [] h (FM g 194 194 (ax_QI Q))
def L_X1_firstOfPressed_2 (l : Launch) (g : AG) (h : AH) (x0 : Nat) (x1 : Int32) (x2 : Int32)  (Q : Int32 → AH → Prop) : Prop := Wp l g mX1_firstOfPressed 0 0 194 194 194 2 [(0, .ref x0), (1, .int x1), (2, .int x2)] [] h (FM g 194 194 (ax_QI Q))
set_option maxRecDepth 100000 in
set_option maxHeartbeats 4000000 in
theorem s_X1_firstOfPressed_0 {l : Launch} {g : AG} {h : AH} {x0 : Nat} {x1 : Int32}  {Q : Int32 → AH → Prop} (hb : L_X1_firstOfPressed_2 l g h x0 x1 0  Q) : L_X1_firstOfPressed_0 l g h x0 x1  Q := by
  refine wp_iconst (v := 0) dX1_firstOfPressed_0 (by decide) ?_
  refine wp_istore_n (lv2 := [(2, .int 0), (0, .ref x0), (1, .int x1)]) dX1_firstOfPressed_1 rfl (by decide) rfl ?_
  exact wp_sub [1, 2, 0] rfl hb
set_option maxRecDepth 100000 in
set_option maxHeartbeats 4000000 in
theorem s_X1_firstOfPressed_2 {l : Launch} {g : AG} {h : AH} {x0 : Nat} {x1 : Int32} {x2 : Int32}  {Q : Int32 → AH → Prop} (hb : (Is 194 x0 1) ∧ ( (Is 194 (h.2.2 x0 2) 5) ∧ ( ((h.1 (h.2.2 x0 2) 0 ≤ x2 → (Q (-2) h)) ∧ (¬ (h.1 (h.2.2 x0 2) 0 ≤ x2) → ((Is 194 (h.2.2 x0 3) 20) ∧ ( (vp_in ((x2 * 27) + x1) (ax_s (h.2.2 x0 3)).2) ∧ ( ((h.1 (h.2.2 x0 3) ((x2 * 27) + x1).toNatClampNeg < 0 → (∀ v7 : Int32, v7 = x2 + (1) → ( L_X1_firstOfPressed_2 l g h x0 x1 v7  Q))) ∧ (¬ (h.1 (h.2.2 x0 3) ((x2 * 27) + x1).toNatClampNeg < 0) → (Q x2 h))))))))))) : L_X1_firstOfPressed_2 l g h x0 x1 x2  Q := by
  refine wp_iload_n 2 dX1_firstOfPressed_2 rfl rfl ?_
  obtain ⟨i1, hb⟩ := hb
  refine wp_aload_n 0 dX1_firstOfPressed_3 rfl rfl ?_
  obtain ⟨i2, hb⟩ := hb
  refine wp_getR dX1_firstOfPressed_4 fl_X1_18 i1 (i2.ne (by decide)) ?_
  refine wp_getI dX1_firstOfPressed_7 fl_X1_50 i2 ?_
  refine wp_icmp_ge (tgt := 35) dX1_firstOfPressed_10 (by decide) (fun c3 => ?_) (fun c3 => ?_)
  · have hb := hb.1 c3
    refine wp_bipush (v := (-2)) dX1_firstOfPressed_35 (by decide) ?_
    exact wp_iret rfl dX1_firstOfPressed_37 ⟨_, rfl, hb⟩
  · have hb := hb.2 c3
    refine wp_aload_n 0 dX1_firstOfPressed_13 rfl rfl ?_
    obtain ⟨i4, hb⟩ := hb
    refine wp_getR dX1_firstOfPressed_14 fl_X1_22 i1 (i4.ne (by decide)) ?_
    refine wp_iload_n 2 dX1_firstOfPressed_17 rfl rfl ?_
    refine wp_bipush (v := 27) dX1_firstOfPressed_18 (by decide) ?_
    refine wp_imul dX1_firstOfPressed_20 ?_
    refine wp_iload_n 1 dX1_firstOfPressed_21 rfl rfl ?_
    refine wp_iadd dX1_firstOfPressed_22 ?_
    obtain ⟨b5, hb⟩ := hb
    refine wp_iaload dX1_firstOfPressed_23 i4 b5 ?_
    refine wp_if_lt (tgt := 29) dX1_firstOfPressed_24 (by decide) (fun c6 => ?_) (fun c6 => ?_)
    · have hb := hb.1 c6
      obtain ⟨v7, e8⟩ : ∃ y : Int32, y = x2 + (1) := ⟨_, rfl⟩
      have hb := hb v7 e8
      refine wp_iinc (v := v7) (lv2 := [(2, .int v7), (0, .ref x0), (1, .int x1)]) 2 dX1_firstOfPressed_29 rfl (by rw [e8]; rfl) (by decide) rfl ?_
      refine wp_goto (tgt := 2) dX1_firstOfPressed_32 (by decide) ?_
      exact wp_sub [1, 2, 0] rfl hb
    · have hb := hb.2 c6
      refine wp_iload_n 2 dX1_firstOfPressed_27 rfl rfl ?_
      exact wp_iret rfl dX1_firstOfPressed_28 ⟨_, rfl, hb⟩
theorem c_X1_firstOfPressed {l : Launch} {g : AG} {h : AH} {x0 : Nat} {x1 : Int32}  {Q : Int32 → AH → Prop} (hb : L_X1_firstOfPressed_0 l g h x0 x1  Q) : C_X1_firstOfPressed l g h x0 x1  Q := ax_met rfl (Nat.le_of_ble_eq_true rfl) hb
