def C_X9_tryRow (l : Launch) (g : AG) (h : AH) (x0 : Nat) (x1 : Int32)  (Q : Int32 → AH → Prop) : Prop := Ct l g mX9_tryRow 6 146 194 194 h [.ref x0, .int x1] (ax_QI Q)
def L_X9_tryRow_0 (l : Launch) (g : AG) (h : AH) (x0 : Nat) (x1 : Int32)  (Q : Int32 → AH → Prop) : Prop := Wp l g mX9_tryRow 6 146 194 194 194 0 [(0, .ref x0), (1, .int x1)] [] h (FM g 194 194 (ax_QI Q))
set_option maxRecDepth 100000 in
set_option maxHeartbeats 4000000 in
theorem s_X9_tryRow_0 {l : Launch} {g : AG} {h : AH} {x0 : Nat} {x1 : Int32}  {Q : Int32 → AH → Prop} (hb : (Is 194 x0 8) ∧ ( C_X9_has l g h x0 x1 (fun r4 h3 => ( ((¬ r4 = 0 → ((Is 194 (h3.2.2 x0 2) 24) ∧ ( (vp_in x1 (ax_s (h3.2.2 x0 2)).2) ∧ ( (Is 194 (h3.2.2 (h3.2.2 x0 2) x1.toNatClampNeg) 0) ∧ ( C_X9_actsToFault l g h3 x0 (h3.2.2 (h3.2.2 x0 2) x1.toNatClampNeg) (fun r11 h10 => ( ∀ h12 : AH, h12 = ax_setI h10 x0 11 r11 → ( (Is 194 (h12.2.2 x0 10) 21) ∧ ( (vp_in (h12.1 x0 11) (ax_s (h12.2.2 x0 10)).2) ∧ ( ∀ v16 : Int64, v16 = (h12.2.1 (h12.2.2 x0 10) (h12.1 x0 11).toNatClampNeg) → ( C_X3_faultOf l g h12 v16 (fun r20 h19 => ( C_X9_granted l g h19 x0 r20 (fun r23 h22 => ( Q r23 h22))))))))))))))) ∧ (r4 = 0 → (C_X9_refused l g h3 x0 1 (fun r26 h25 => ( Q r26 h25))))))))) : L_X9_tryRow_0 l g h x0 x1  Q := by
  obtain ⟨i1, hb⟩ := hb
  refine wp_aload_n 0 dX9_tryRow_0 rfl rfl ?_
  refine wp_iload_n 1 dX9_tryRow_1 rfl rfl ?_
  refine wp_callV (as := [.int x1]) dX9_tryRow_2 cb_X9_has lk_X9_106 im_X9_has se_X9_has rfl (Nat.le_of_ble_eq_true rfl) ⟨by decide, by decide⟩ ⟨Nat.le_refl _, Nat.le_refl _, Nat.le_refl _⟩ i1 rfl (by decide) hb (fun r0 h3 hb => ?_)
  obtain ⟨r4, rfl, hb⟩ := hb
  refine wp_if_ne (tgt := 14) dX9_tryRow_5 (by decide) (fun c5 => ?_) (fun c5 => ?_)
  · have hb := hb.1 c5
    refine wp_aload_n 0 dX9_tryRow_14 rfl rfl ?_
    refine wp_aload_n 0 dX9_tryRow_15 rfl rfl ?_
    refine wp_aload_n 0 dX9_tryRow_16 rfl rfl ?_
    obtain ⟨i6, hb⟩ := hb
    refine wp_getR dX9_tryRow_17 fl_X9_20 i1 (i6.ne (by decide)) ?_
    refine wp_iload_n 1 dX9_tryRow_20 rfl rfl ?_
    obtain ⟨b7, hb⟩ := hb
    obtain ⟨i8, hb⟩ := hb
    refine wp_aaload24 dX9_tryRow_21 i6 b7 (i8.ne (by decide)) ?_
    refine wp_callV (as := [.ref (h3.2.2 (h3.2.2 x0 2) x1.toNatClampNeg)]) dX9_tryRow_22 cb_X9_actsToFault lk_X9_241 im_X9_actsToFault se_X9_actsToFault rfl (Nat.le_of_ble_eq_true rfl) ⟨by decide, by decide⟩ ⟨Nat.le_refl _, Nat.le_refl _, Nat.le_refl _⟩ i1 rfl (by decide) hb (fun r0 h10 hb => ?_)
    obtain ⟨r11, rfl, hb⟩ := hb
    refine wp_putI dX9_tryRow_25 fl_X9_66 (Or.inl rfl) i1 ?_
    refine wp_topH (fun h12 e13 => ?_)
    have hb := hb h12 e13
    refine wp_aload_n 0 dX9_tryRow_28 rfl rfl ?_
    refine wp_aload_n 0 dX9_tryRow_29 rfl rfl ?_
    obtain ⟨i14, hb⟩ := hb
    refine wp_getR dX9_tryRow_30 fl_X9_63 i1 (i14.ne (by decide)) ?_
    refine wp_aload_n 0 dX9_tryRow_33 rfl rfl ?_
    refine wp_getI dX9_tryRow_34 fl_X9_66 i1 ?_
    obtain ⟨b15, hb⟩ := hb
    refine wp_laload dX9_tryRow_37 i14 b15 ?_
    refine wp_topl (fun v16 e17 => ?_)
    have hb := hb v16 e17
    refine wp_callSN (as := [.long v16]) dX9_tryRow_38 cb_X3_faultOf lk_X9_152 st_X3_faultOf rfl (Nat.le_of_ble_eq_true rfl) ⟨by decide, by decide⟩ ⟨Nat.le_refl _, Nat.le_refl _, Nat.le_refl _⟩ hb (fun r0 h19 hb => ?_)
    obtain ⟨r20, rfl, hb⟩ := hb
    refine wp_callV (as := [.int r20]) dX9_tryRow_41 cb_X9_granted lk_X9_97 im_X9_granted se_X9_granted rfl (Nat.le_of_ble_eq_true rfl) ⟨by decide, by decide⟩ ⟨Nat.le_refl _, Nat.le_refl _, Nat.le_refl _⟩ i1 rfl (by decide) hb (fun r0 h22 hb => ?_)
    obtain ⟨r23, rfl, hb⟩ := hb
    exact wp_iret rfl dX9_tryRow_44 ⟨_, rfl, hb⟩
  · have hb := hb.2 c5
    refine wp_aload_n 0 dX9_tryRow_8 rfl rfl ?_
    refine wp_iconst (v := 1) dX9_tryRow_9 (by decide) ?_
    refine wp_callV (as := [.int 1]) dX9_tryRow_10 cb_X9_refused lk_X9_76 im_X9_refused se_X9_refused rfl (Nat.le_of_ble_eq_true rfl) ⟨by decide, by decide⟩ ⟨Nat.le_refl _, Nat.le_refl _, Nat.le_refl _⟩ i1 rfl (by decide) hb (fun r0 h25 hb => ?_)
    obtain ⟨r26, rfl, hb⟩ := hb
    exact wp_iret rfl dX9_tryRow_13 ⟨_, rfl, hb⟩
theorem c_X9_tryRow {l : Launch} {g : AG} {h : AH} {x0 : Nat} {x1 : Int32}  {Q : Int32 → AH → Prop} (hb : L_X9_tryRow_0 l g h x0 x1  Q) : C_X9_tryRow l g h x0 x1  Q := ax_met rfl (Nat.le_of_ble_eq_true rfl) hb
def C_X9_tried (l : Launch) (g : AG) (h : AH) (x0 : Nat)  (Q : Int32 → AH → Prop) : Prop := Ct l g mX9_tried 0 0 194 194 h [.ref x0] (ax_QI Q)
def L_X9_tried_0 (l : Launch) (g : AG) (h : AH) (x0 : Nat)  (Q : Int32 → AH → Prop) : Prop := Wp l g mX9_tried 0 0 194 194 194 0 [(0, .ref x0)] [] h (FM g 194 194 (ax_QI Q))
set_option maxRecDepth 100000 in
set_option maxHeartbeats 4000000 in
theorem s_X9_tried_0 {l : Launch} {g : AG} {h : AH} {x0 : Nat}  {Q : Int32 → AH → Prop} (hb : (Is 194 x0 8) ∧ ( Q (h.1 x0 11) h)) : L_X9_tried_0 l g h x0  Q := by
  obtain ⟨i1, hb⟩ := hb
  refine wp_aload_n 0 dX9_tried_0 rfl rfl ?_
  refine wp_getI dX9_tried_1 fl_X9_66 i1 ?_
  exact wp_iret rfl dX9_tried_4 ⟨_, rfl, hb⟩
theorem c_X9_tried {l : Launch} {g : AG} {h : AH} {x0 : Nat}  {Q : Int32 → AH → Prop} (hb : L_X9_tried_0 l g h x0  Q) : C_X9_tried l g h x0  Q := ax_met rfl (Nat.le_of_ble_eq_true rfl) hb
def C_X9_comesWithout (l : Launch) (g : AG) (h : AH) (x0 : Nat) (x1 : Nat) (x2 : Int32) (x3 : Int32)  (Q : Int32 → AH → Prop) : Prop := Ct l g mX9_comesWithout 5 124 194 194 h [.ref x0, .ref x1, .int x2, .int x3] (ax_QI Q)
def L_X9_comesWithout_0 (l : Launch) (g : AG) (h : AH) (x0 : Nat) (x1 : Nat) (x2 : Int32) (x3 : Int32)  (Q : Int32 → AH → Prop) : Prop := Wp l g mX9_comesWithout 5 124 194 194 194 0 [(0, .ref x0), (1, .ref x1), (2, .int x2), (3, .int x3)] [] h (FM g 194 194 (ax_QI Q))
def L_X9_comesWithout_13 (l : Launch) (g : AG) (h : AH) (x0 : Nat) (x1 : Nat) (x3 : Int32) (x4 : Int64) (x6 : Int32)  (Q : Int32 → AH → Prop) : Prop := Wp l g mX9_comesWithout 5 124 194 194 194 13 [(0, .ref x0), (1, .ref x1), (3, .int x3), (4, .long x4), (6, .int x6)] [] h (FM g 194 194 (ax_QI Q))
def L_X9_comesWithout_69 (l : Launch) (g : AG) (h : AH) (x3 : Int32) (x4 : Int64)  (Q : Int32 → AH → Prop) : Prop := Wp l g mX9_comesWithout 5 124 194 194 194 69 [(3, .int x3), (4, .long x4)] [] h (FM g 194 194 (ax_QI Q))
set_option maxRecDepth 100000 in
set_option maxHeartbeats 4000000 in
theorem s_X9_comesWithout_0 {l : Launch} {g : AG} {h : AH} {x0 : Nat} {x1 : Nat} {x2 : Int32} {x3 : Int32}  {Q : Int32 → AH → Prop} (hb : (Is 194 x0 8) ∧ ( (Is 194 (h.2.2 x0 10) 21) ∧ ( (vp_in x2 (ax_s (h.2.2 x0 10)).2) ∧ ( ∀ v4 : Int64, v4 = (h.2.1 (h.2.2 x0 10) x2.toNatClampNeg) → ( ∀ v6 : Int32, v6 = (x2 + 1) → ( L_X9_comesWithout_13 l g h x0 x1 x3 v4 v6  Q)))))) : L_X9_comesWithout_0 l g h x0 x1 x2 x3  Q := by
  obtain ⟨i1, hb⟩ := hb
  refine wp_aload_n 0 dX9_comesWithout_0 rfl rfl ?_
  obtain ⟨i2, hb⟩ := hb
  refine wp_getR dX9_comesWithout_1 fl_X9_63 i1 (i2.ne (by decide)) ?_
  refine wp_iload_n 2 dX9_comesWithout_4 rfl rfl ?_
  obtain ⟨b3, hb⟩ := hb
  refine wp_laload dX9_comesWithout_5 i2 b3 ?_
  refine wp_topl (fun v4 e5 => ?_)
  have hb := hb v4 e5
  refine wp_lstore (lv2 := [(4, .long v4), (0, .ref x0), (1, .ref x1), (2, .int x2), (3, .int x3)]) dX9_comesWithout_6 (by decide) rfl ?_
  refine wp_iload_n 3 dX9_comesWithout_8 rfl rfl ?_
  refine wp_iconst (v := 1) dX9_comesWithout_9 (by decide) ?_
  refine wp_iadd dX9_comesWithout_10 ?_
  refine wp_topi (fun v6 e7 => ?_)
  have hb := hb v6 e7
  refine wp_istore (lv2 := [(6, .int v6), (4, .long v4), (0, .ref x0), (1, .ref x1), (2, .int x2), (3, .int x3)]) dX9_comesWithout_11 (by decide) rfl ?_
  exact wp_sub [2, 3, 5, 1, 0] rfl hb
set_option maxRecDepth 100000 in
set_option maxHeartbeats 4000000 in
theorem s_X9_comesWithout_13 {l : Launch} {g : AG} {h : AH} {x0 : Nat} {x1 : Nat} {x3 : Int32} {x4 : Int64} {x6 : Int32}  {Q : Int32 → AH → Prop} (hb : (Is 194 x0 8) ∧ ( ((h.1 x0 9 ≤ x6 → (L_X9_comesWithout_69 l g h x3 x4  Q)) ∧ (¬ (h.1 x0 9 ≤ x6) → ((Is 194 (h.2.2 x0 10) 21) ∧ ( (vp_in x6 (ax_s (h.2.2 x0 10)).2) ∧ ( ((¬ lg_cmp x4 (h.2.1 (h.2.2 x0 10) x6.toNatClampNeg) = 0 → ((Is 194 x1 0) ∧ ( (Is 194 (h.2.2 x0 8) 20) ∧ ( (vp_in x6 (ax_s (h.2.2 x0 8)).2) ∧ ( C_X0_tryAct l g h x1 x4 (h.1 (h.2.2 x0 8) x6.toNatClampNeg) (fun r18 h17 => ( C_X3_faultOf l g h17 r18 (fun r21 h20 => ( ((r21 ≤ 0 → (∀ v23 : Int32, v23 = x6 + (1) → ( L_X9_comesWithout_13 l g h20 x0 x1 x3 r18 v23  Q))) ∧ (¬ (r21 ≤ 0) → (L_X9_comesWithout_69 l g h20 x3 r18  Q)))))))))))) ∧ (lg_cmp x4 (h.2.1 (h.2.2 x0 10) x6.toNatClampNeg) = 0 → (Q 1 h)))))))))) : L_X9_comesWithout_13 l g h x0 x1 x3 x4 x6  Q := by
  refine wp_iload 4 dX9_comesWithout_13 rfl ?_
  obtain ⟨i8, hb⟩ := hb
  refine wp_aload_n 0 dX9_comesWithout_15 rfl rfl ?_
  refine wp_getI dX9_comesWithout_16 fl_X9_60 i8 ?_
  refine wp_icmp_ge (tgt := 69) dX9_comesWithout_19 (by decide) (fun c9 => ?_) (fun c9 => ?_)
  · have hb := hb.1 c9
    exact wp_sub [2, 3] rfl hb
  · have hb := hb.2 c9
    refine wp_lload 3 dX9_comesWithout_22 rfl ?_
    refine wp_aload_n 0 dX9_comesWithout_24 rfl rfl ?_
    obtain ⟨i10, hb⟩ := hb
    refine wp_getR dX9_comesWithout_25 fl_X9_63 i8 (i10.ne (by decide)) ?_
    refine wp_iload 4 dX9_comesWithout_28 rfl ?_
    obtain ⟨b11, hb⟩ := hb
    refine wp_laload dX9_comesWithout_30 i10 b11 ?_
    refine wp_lcmp dX9_comesWithout_31 ?_
    refine wp_if_ne (tgt := 37) dX9_comesWithout_32 (by decide) (fun c12 => ?_) (fun c12 => ?_)
    · have hb := hb.1 c12
      obtain ⟨i13, hb⟩ := hb
      refine wp_aload_n 1 dX9_comesWithout_37 rfl rfl ?_
      refine wp_lload 3 dX9_comesWithout_38 rfl ?_
      refine wp_aload_n 0 dX9_comesWithout_40 rfl rfl ?_
      obtain ⟨i14, hb⟩ := hb
      refine wp_getR dX9_comesWithout_41 fl_X9_57 i8 (i14.ne (by decide)) ?_
      refine wp_iload 4 dX9_comesWithout_44 rfl ?_
      obtain ⟨b15, hb⟩ := hb
      refine wp_iaload dX9_comesWithout_46 i14 b15 ?_
      refine wp_callVN (as := [.long x4, .int (h.1 (h.2.2 x0 8) x6.toNatClampNeg)]) dX9_comesWithout_47 cb_X0_tryAct lk_X9_275 im_X0_tryAct se_X0_tryAct rfl (Nat.le_of_ble_eq_true rfl) ⟨by decide, by decide⟩ ⟨Nat.le_refl _, Nat.le_refl _, Nat.le_refl _⟩ i13 rfl (by decide) hb (fun r0 h17 hb => ?_)
      obtain ⟨r18, rfl, hb⟩ := hb
      refine wp_lstore (lv2 := [(4, .long r18), (0, .ref x0), (1, .ref x1), (3, .int x3), (6, .int x6)]) dX9_comesWithout_50 (by decide) rfl ?_
      refine wp_lload 0 dX9_comesWithout_52 rfl ?_
      refine wp_callSN (as := [.long r18]) dX9_comesWithout_54 cb_X3_faultOf lk_X9_152 st_X3_faultOf rfl (Nat.le_of_ble_eq_true rfl) ⟨by decide, by decide⟩ ⟨Nat.le_refl _, Nat.le_refl _, Nat.le_refl _⟩ hb (fun r0 h20 hb => ?_)
      obtain ⟨r21, rfl, hb⟩ := hb
      refine wp_if_le (tgt := 63) dX9_comesWithout_57 (by decide) (fun c22 => ?_) (fun c22 => ?_)
      · have hb := hb.1 c22
        obtain ⟨v23, e24⟩ : ∃ y : Int32, y = x6 + (1) := ⟨_, rfl⟩
        have hb := hb v23 e24
        refine wp_iinc (v := v23) (lv2 := [(6, .int v23), (4, .long r18), (0, .ref x0), (1, .ref x1), (3, .int x3)]) 4 dX9_comesWithout_63 rfl (by rw [e24]; rfl) (by decide) rfl ?_
        refine wp_goto (tgt := 13) dX9_comesWithout_66 (by decide) ?_
        exact wp_sub [2, 3, 4, 1, 0] rfl hb
      · have hb := hb.2 c22
        refine wp_goto (tgt := 69) dX9_comesWithout_60 (by decide) ?_
        exact wp_sub [3, 0] rfl hb
    · have hb := hb.2 c12
      refine wp_iconst (v := 1) dX9_comesWithout_35 (by decide) ?_
      exact wp_zret rfl dX9_comesWithout_36 (Or.inr rfl) ⟨_, rfl, hb⟩
set_option maxRecDepth 100000 in
set_option maxHeartbeats 4000000 in
theorem s_X9_comesWithout_69 {l : Launch} {g : AG} {h : AH} {x3 : Int32} {x4 : Int64}  {Q : Int32 → AH → Prop} (hb : C_X3_faultOf l g h x4 (fun r27 h26 => ( ((¬ r27 = x3 → (Q 0 h26)) ∧ (r27 = x3 → (Q 1 h26)))))) : L_X9_comesWithout_69 l g h x3 x4  Q := by
  refine wp_lload 1 dX9_comesWithout_69 rfl ?_
  refine wp_callSN (as := [.long x4]) dX9_comesWithout_71 cb_X3_faultOf lk_X9_152 st_X3_faultOf rfl (Nat.le_of_ble_eq_true rfl) ⟨by decide, by decide⟩ ⟨Nat.le_refl _, Nat.le_refl _, Nat.le_refl _⟩ hb (fun r0 h26 hb => ?_)
  obtain ⟨r27, rfl, hb⟩ := hb
  refine wp_iload_n 0 dX9_comesWithout_74 rfl rfl ?_
  refine wp_icmp_ne (tgt := 82) dX9_comesWithout_75 (by decide) (fun c28 => ?_) (fun c28 => ?_)
  · have hb := hb.1 c28
    refine wp_iconst (v := 0) dX9_comesWithout_82 (by decide) ?_
    exact wp_zret rfl dX9_comesWithout_83 (Or.inl rfl) ⟨_, rfl, hb⟩
  · have hb := hb.2 c28
    refine wp_iconst (v := 1) dX9_comesWithout_78 (by decide) ?_
    refine wp_goto (tgt := 83) dX9_comesWithout_79 (by decide) ?_
    exact wp_zret rfl dX9_comesWithout_83 (Or.inr rfl) ⟨_, rfl, hb⟩
theorem c_X9_comesWithout {l : Launch} {g : AG} {h : AH} {x0 : Nat} {x1 : Nat} {x2 : Int32} {x3 : Int32}  {Q : Int32 → AH → Prop} (hb : L_X9_comesWithout_0 l g h x0 x1 x2 x3  Q) : C_X9_comesWithout l g h x0 x1 x2 x3  Q := ax_met rfl (Nat.le_of_ble_eq_true rfl) hb
