def C_X1_partByWays (l : Launch) (g : AG) (h : AH) (x0 : Nat)  (Q : AH → Prop) : Prop := Ct l g mX1_partByWays 3 83 194 194 h [.ref x0] (ax_QV Q)
def L_X1_partByWays_0 (l : Launch) (g : AG) (h : AH) (x0 : Nat)  (Q : AH → Prop) : Prop := Wp l g mX1_partByWays 3 83 194 194 194 0 [(0, .ref x0)] [] h (FM g 194 194 (ax_QV Q))
def L_X1_partByWays_4 (l : Launch) (g : AG) (h : AH) (x0 : Nat) (x1 : Int32) (x2 : Int32)  (Q : AH → Prop) : Prop := Wp l g mX1_partByWays 3 83 194 194 194 4 [(0, .ref x0), (1, .int x1), (2, .int x2)] [] h (FM g 194 194 (ax_QV Q))
set_option maxRecDepth 100000 in
set_option maxHeartbeats 4000000 in
theorem s_X1_partByWays_0 {l : Launch} {g : AG} {h : AH} {x0 : Nat}  {Q : AH → Prop} (hb : L_X1_partByWays_4 l g h x0 0 0  Q) : L_X1_partByWays_0 l g h x0  Q := by
  refine wp_iconst (v := 0) dX1_partByWays_0 (by decide) ?_
  refine wp_istore_n (lv2 := [(1, .int 0), (0, .ref x0)]) dX1_partByWays_1 rfl (by decide) rfl ?_
  refine wp_iconst (v := 0) dX1_partByWays_2 (by decide) ?_
  refine wp_istore_n (lv2 := [(2, .int 0), (1, .int 0), (0, .ref x0)]) dX1_partByWays_3 rfl (by decide) rfl ?_
  exact wp_sub [2, 1, 0] rfl hb
set_option maxRecDepth 100000 in
set_option maxHeartbeats 4000000 in
theorem s_X1_partByWays_4 {l : Launch} {g : AG} {h : AH} {x0 : Nat} {x1 : Int32} {x2 : Int32}  {Q : AH → Prop} (hb : ((27 ≤ x1 → (Q h)) ∧ (¬ (27 ≤ x1) → (((10827 ≤ x2 → (Q h)) ∧ (¬ (10827 ≤ x2) → ((Is 194 x0 1) ∧ ( C_X1_partedBy l g h x0 (jirem x2 27) (fun r6 h5 => ( ((r6 = 0 → (∀ v8 : Int32, v8 = (x1 + 1) → ( ∀ v10 : Int32, v10 = x2 + (1) → ( L_X1_partByWays_4 l g h5 x0 v8 v10  Q)))) ∧ (¬ (r6 = 0) → (∀ v12 : Int32, v12 = x2 + (1) → ( L_X1_partByWays_4 l g h5 x0 0 v12  Q)))))))))))))) : L_X1_partByWays_4 l g h x0 x1 x2  Q := by
  refine wp_iload_n 1 dX1_partByWays_4 rfl rfl ?_
  refine wp_bipush (v := 27) dX1_partByWays_5 (by decide) ?_
  refine wp_icmp_ge (tgt := 42) dX1_partByWays_7 (by decide) (fun c1 => ?_) (fun c1 => ?_)
  · have hb := hb.1 c1
    exact wp_vret rfl dX1_partByWays_42 ⟨rfl, hb⟩
  · have hb := hb.2 c1
    refine wp_iload_n 2 dX1_partByWays_10 rfl rfl ?_
    refine wp_sipush (v := 10827) dX1_partByWays_11 (by decide) ?_
    refine wp_icmp_ge (tgt := 42) dX1_partByWays_14 (by decide) (fun c2 => ?_) (fun c2 => ?_)
    · have hb := hb.1 c2
      exact wp_vret rfl dX1_partByWays_42 ⟨rfl, hb⟩
    · have hb := hb.2 c2
      obtain ⟨i3, hb⟩ := hb
      refine wp_aload_n 0 dX1_partByWays_17 rfl rfl ?_
      refine wp_iload_n 2 dX1_partByWays_18 rfl rfl ?_
      refine wp_bipush (v := 27) dX1_partByWays_19 (by decide) ?_
      refine wp_irem dX1_partByWays_21 (by decide) ?_
      refine wp_callV (as := [.int (jirem x2 27)]) dX1_partByWays_22 cb_X1_partedBy lk_X1_138 im_X1_partedBy se_X1_partedBy rfl (Nat.le_of_ble_eq_true rfl) ⟨by decide, by decide⟩ ⟨Nat.le_refl _, Nat.le_refl _, Nat.le_refl _⟩ i3 rfl (by decide) hb (fun r0 h5 hb => ?_)
      obtain ⟨r6, rfl, hb⟩ := hb
      refine wp_if_eq (tgt := 32) dX1_partByWays_25 (by decide) (fun c7 => ?_) (fun c7 => ?_)
      · have hb := hb.1 c7
        refine wp_iload_n 1 dX1_partByWays_32 rfl rfl ?_
        refine wp_iconst (v := 1) dX1_partByWays_33 (by decide) ?_
        refine wp_iadd dX1_partByWays_34 ?_
        refine wp_topi (fun v8 e9 => ?_)
        have hb := hb v8 e9
        refine wp_istore_n (lv2 := [(1, .int v8), (0, .ref x0), (2, .int x2)]) dX1_partByWays_35 rfl (by decide) rfl ?_
        obtain ⟨v10, e11⟩ : ∃ y : Int32, y = x2 + (1) := ⟨_, rfl⟩
        have hb := hb v10 e11
        refine wp_iinc (v := v10) (lv2 := [(2, .int v10), (1, .int v8), (0, .ref x0)]) 2 dX1_partByWays_36 rfl (by rw [e11]; rfl) (by decide) rfl ?_
        refine wp_goto (tgt := 4) dX1_partByWays_39 (by decide) ?_
        exact wp_sub [2, 1, 0] rfl hb
      · have hb := hb.2 c7
        refine wp_iconst (v := 0) dX1_partByWays_28 (by decide) ?_
        refine wp_goto (tgt := 35) dX1_partByWays_29 (by decide) ?_
        refine wp_istore_n (lv2 := [(1, .int 0), (0, .ref x0), (2, .int x2)]) dX1_partByWays_35 rfl (by decide) rfl ?_
        obtain ⟨v12, e13⟩ : ∃ y : Int32, y = x2 + (1) := ⟨_, rfl⟩
        have hb := hb v12 e13
        refine wp_iinc (v := v12) (lv2 := [(2, .int v12), (1, .int 0), (0, .ref x0)]) 2 dX1_partByWays_36 rfl (by rw [e13]; rfl) (by decide) rfl ?_
        refine wp_goto (tgt := 4) dX1_partByWays_39 (by decide) ?_
        exact wp_sub [2, 1, 0] rfl hb
theorem c_X1_partByWays {l : Launch} {g : AG} {h : AH} {x0 : Nat}  {Q : AH → Prop} (hb : L_X1_partByWays_0 l g h x0  Q) : C_X1_partByWays l g h x0  Q := ax_met rfl (Nat.le_of_ble_eq_true rfl) hb
def C_X1_kindsMany (l : Launch) (g : AG) (h : AH) (x0 : Nat)  (Q : Int32 → AH → Prop) : Prop := Ct l g mX1_kindsMany 4 105 194 194 h [.ref x0] (ax_QI Q)
def L_X1_kindsMany_0 (l : Launch) (g : AG) (h : AH) (x0 : Nat)  (Q : Int32 → AH → Prop) : Prop := Wp l g mX1_kindsMany 4 105 194 194 194 0 [(0, .ref x0)] [] h (FM g 194 194 (ax_QI Q))
set_option maxRecDepth 100000 in
set_option maxHeartbeats 4000000 in
theorem s_X1_kindsMany_0 {l : Launch} {g : AG} {h : AH} {x0 : Nat}  {Q : Int32 → AH → Prop} (hb : (Is 194 x0 1) ∧ ( ((¬ h.1 x0 5 = 0 → (Q (h.1 x0 5) h)) ∧ (h.1 x0 5 = 0 → (C_X1_stands l g h x0 (fun r5 h4 => ( ((r5 = 0 → (Q (h4.1 x0 5) h4)) ∧ (¬ (r5 = 0) → (C_X1_partByViews l g h4 x0 (fun h8 => ( C_X1_partByWays l g h8 x0 (fun h10 => ( Q (h10.1 x0 5) h10)))))))))))))) : L_X1_kindsMany_0 l g h x0  Q := by
  obtain ⟨i1, hb⟩ := hb
  refine wp_aload_n 0 dX1_kindsMany_0 rfl rfl ?_
  refine wp_getI dX1_kindsMany_1 fl_X1_29 i1 ?_
  refine wp_if_ne (tgt := 22) dX1_kindsMany_4 (by decide) (fun c2 => ?_) (fun c2 => ?_)
  · have hb := hb.1 c2
    refine wp_aload_n 0 dX1_kindsMany_22 rfl rfl ?_
    refine wp_getI dX1_kindsMany_23 fl_X1_29 i1 ?_
    exact wp_iret rfl dX1_kindsMany_26 ⟨_, rfl, hb⟩
  · have hb := hb.2 c2
    refine wp_aload_n 0 dX1_kindsMany_7 rfl rfl ?_
    refine wp_callV (as := []) dX1_kindsMany_8 cb_X1_stands lk_X1_46 im_X1_stands se_X1_stands rfl (Nat.le_of_ble_eq_true rfl) ⟨by decide, by decide⟩ ⟨Nat.le_refl _, Nat.le_refl _, Nat.le_refl _⟩ i1 rfl (by decide) hb (fun r0 h4 hb => ?_)
    obtain ⟨r5, rfl, hb⟩ := hb
    refine wp_if_eq (tgt := 22) dX1_kindsMany_11 (by decide) (fun c6 => ?_) (fun c6 => ?_)
    · have hb := hb.1 c6
      refine wp_aload_n 0 dX1_kindsMany_22 rfl rfl ?_
      refine wp_getI dX1_kindsMany_23 fl_X1_29 i1 ?_
      exact wp_iret rfl dX1_kindsMany_26 ⟨_, rfl, hb⟩
    · have hb := hb.2 c6
      refine wp_aload_n 0 dX1_kindsMany_14 rfl rfl ?_
      refine wp_callV (as := []) dX1_kindsMany_15 cb_X1_partByViews lk_X1_128 im_X1_partByViews se_X1_partByViews rfl (Nat.le_of_ble_eq_true rfl) ⟨by decide, by decide⟩ ⟨Nat.le_refl _, Nat.le_refl _, Nat.le_refl _⟩ i1 rfl (by decide) hb (fun r0 h8 hb => ?_)
      obtain ⟨rfl, hb⟩ := hb
      refine wp_aload_n 0 dX1_kindsMany_18 rfl rfl ?_
      refine wp_callV (as := []) dX1_kindsMany_19 cb_X1_partByWays lk_X1_131 im_X1_partByWays se_X1_partByWays rfl (Nat.le_of_ble_eq_true rfl) ⟨by decide, by decide⟩ ⟨Nat.le_refl _, Nat.le_refl _, Nat.le_refl _⟩ i1 rfl (by decide) hb (fun r0 h10 hb => ?_)
      obtain ⟨rfl, hb⟩ := hb
      refine wp_aload_n 0 dX1_kindsMany_22 rfl rfl ?_
      refine wp_getI dX1_kindsMany_23 fl_X1_29 i1 ?_
      exact wp_iret rfl dX1_kindsMany_26 ⟨_, rfl, hb⟩
theorem c_X1_kindsMany {l : Launch} {g : AG} {h : AH} {x0 : Nat}  {Q : Int32 → AH → Prop} (hb : L_X1_kindsMany_0 l g h x0  Q) : C_X1_kindsMany l g h x0  Q := ax_met rfl (Nat.le_of_ble_eq_true rfl) hb
def C_X1_kindOf (l : Launch) (g : AG) (h : AH) (x0 : Nat) (x1 : Int32)  (Q : Int32 → AH → Prop) : Prop := Ct l g mX1_kindOf 5 125 194 194 h [.ref x0, .int x1] (ax_QI Q)
def L_X1_kindOf_0 (l : Launch) (g : AG) (h : AH) (x0 : Nat) (x1 : Int32)  (Q : Int32 → AH → Prop) : Prop := Wp l g mX1_kindOf 5 125 194 194 194 0 [(0, .ref x0), (1, .int x1)] [] h (FM g 194 194 (ax_QI Q))
set_option maxRecDepth 100000 in
set_option maxHeartbeats 4000000 in
theorem s_X1_kindOf_0 {l : Launch} {g : AG} {h : AH} {x0 : Nat} {x1 : Int32}  {Q : Int32 → AH → Prop} (hb : (Is 194 x0 1) ∧ ( C_X1_kindsMany l g h x0 (fun r4 h3 => ( ((r4 ≤ 0 → (Q (-1) h3)) ∧ (¬ (r4 ≤ 0) → ((Is 194 (h3.2.2 x0 6) 20) ∧ ( (vp_in x1 (ax_s (h3.2.2 x0 6)).2) ∧ ( Q (h3.1 (h3.2.2 x0 6) x1.toNatClampNeg) h3))))))))) : L_X1_kindOf_0 l g h x0 x1  Q := by
  obtain ⟨i1, hb⟩ := hb
  refine wp_aload_n 0 dX1_kindOf_0 rfl rfl ?_
  refine wp_callV (as := []) dX1_kindOf_1 cb_X1_kindsMany lk_X1_134 im_X1_kindsMany se_X1_kindsMany rfl (Nat.le_of_ble_eq_true rfl) ⟨by decide, by decide⟩ ⟨Nat.le_refl _, Nat.le_refl _, Nat.le_refl _⟩ i1 rfl (by decide) hb (fun r0 h3 hb => ?_)
  obtain ⟨r4, rfl, hb⟩ := hb
  refine wp_if_le (tgt := 16) dX1_kindOf_4 (by decide) (fun c5 => ?_) (fun c5 => ?_)
  · have hb := hb.1 c5
    refine wp_iconst (v := (-1)) dX1_kindOf_16 (by decide) ?_
    exact wp_iret rfl dX1_kindOf_17 ⟨_, rfl, hb⟩
  · have hb := hb.2 c5
    refine wp_aload_n 0 dX1_kindOf_7 rfl rfl ?_
    obtain ⟨i6, hb⟩ := hb
    refine wp_getR dX1_kindOf_8 fl_X1_32 i1 (i6.ne (by decide)) ?_
    refine wp_iload_n 1 dX1_kindOf_11 rfl rfl ?_
    obtain ⟨b7, hb⟩ := hb
    refine wp_iaload dX1_kindOf_12 i6 b7 ?_
    refine wp_goto (tgt := 17) dX1_kindOf_13 (by decide) ?_
    exact wp_iret rfl dX1_kindOf_17 ⟨_, rfl, hb⟩
theorem c_X1_kindOf {l : Launch} {g : AG} {h : AH} {x0 : Nat} {x1 : Int32}  {Q : Int32 → AH → Prop} (hb : L_X1_kindOf_0 l g h x0 x1  Q) : C_X1_kindOf l g h x0 x1  Q := ax_met rfl (Nat.le_of_ble_eq_true rfl) hb
def C_X9_met (l : Launch) (g : AG) (h : AH) (x0 : Nat) (x1 : Int32) (x2 : Int32)  (Q : Int32 → AH → Prop) : Prop := Ct l g mX9_met 6 146 194 194 h [.ref x0, .int x1, .int x2] (ax_QI Q)
def L_X9_met_0 (l : Launch) (g : AG) (h : AH) (x0 : Nat) (x1 : Int32) (x2 : Int32)  (Q : Int32 → AH → Prop) : Prop := Wp l g mX9_met 6 146 194 194 194 0 [(0, .ref x0), (1, .int x1), (2, .int x2)] [] h (FM g 194 194 (ax_QI Q))
set_option maxRecDepth 100000 in
set_option maxHeartbeats 4000000 in
theorem s_X9_met_0 {l : Launch} {g : AG} {h : AH} {x0 : Nat} {x1 : Int32} {x2 : Int32}  {Q : Int32 → AH → Prop} (hb : ((x1 < 0 → (Q (-1) h)) ∧ (¬ (x1 < 0) → ((Is 194 x0 8) ∧ ( (Is 194 (h.2.2 x0 6) 1) ∧ ( C_X1_many l g h (h.2.2 x0 6) (fun r6 h5 => ( ((x1 < r6 → ((Is 194 (h5.2.2 x0 6) 1) ∧ ( (Is 194 (h5.2.2 (h5.2.2 x0 6) 2) 5) ∧ ( (Is 194 (h5.2.2 (h5.2.2 (h5.2.2 x0 6) 2) 1) 21) ∧ ( (vp_in x1 (ax_s (h5.2.2 (h5.2.2 (h5.2.2 x0 6) 2) 1)).2) ∧ ( ∀ v12 : Int64, v12 = (h5.2.1 (h5.2.2 (h5.2.2 (h5.2.2 x0 6) 2) 1) x1.toNatClampNeg) → ( ((x2 = 0 → (C_X3_faultOf l g h5 v12 (fun r17 h16 => ( Q r17 h16)))) ∧ (¬ x2 = 0 → (((x2 = 1 → (C_X3_openOf l g h5 v12 (fun r21 h20 => ( Q r21 h20)))) ∧ (¬ x2 = 1 → (((x2 = 2 → (C_X3_topOf l g h5 v12 (fun r25 h24 => ( Q r25 h24)))) ∧ (¬ x2 = 2 → (((x2 = 3 → ((Is 194 (h5.2.2 x0 6) 1) ∧ ( (Is 194 (h5.2.2 (h5.2.2 x0 6) 2) 5) ∧ ( (Is 194 (h5.2.2 (h5.2.2 (h5.2.2 x0 6) 2) 5) 20) ∧ ( (vp_in x1 (ax_s (h5.2.2 (h5.2.2 (h5.2.2 x0 6) 2) 5)).2) ∧ ( ∀ v31 : Int32, v31 = (h5.1 (h5.2.2 (h5.2.2 (h5.2.2 x0 6) 2) 5) x1.toNatClampNeg) → ( Q v31 h5))))))) ∧ (¬ x2 = 3 → (((x2 = 4 → ((Is 194 (h5.2.2 x0 6) 1) ∧ ( C_X1_waysFrom l g h5 (h5.2.2 x0 6) x1 (fun r37 h36 => ( Q r37 h36))))) ∧ (¬ x2 = 4 → (((x2 = 5 → ((Is 194 (h5.2.2 x0 6) 1) ∧ ( C_X1_kindOf l g h5 (h5.2.2 x0 6) x1 (fun r42 h41 => ( Q r42 h41))))) ∧ (¬ x2 = 5 → (Q (-1) h5))))))))))))))))))))))))) ∧ (¬ (x1 < r6) → (Q (-1) h5))))))))))) : L_X9_met_0 l g h x0 x1 x2  Q := by
  refine wp_iload_n 1 dX9_met_0 rfl rfl ?_
  refine wp_if_lt (tgt := 15) dX9_met_1 (by decide) (fun c1 => ?_) (fun c1 => ?_)
  · have hb := hb.1 c1
    refine wp_iconst (v := (-1)) dX9_met_15 (by decide) ?_
    exact wp_iret rfl dX9_met_16 ⟨_, rfl, hb⟩
  · have hb := hb.2 c1
    refine wp_iload_n 1 dX9_met_4 rfl rfl ?_
    obtain ⟨i2, hb⟩ := hb
    refine wp_aload_n 0 dX9_met_5 rfl rfl ?_
    obtain ⟨i3, hb⟩ := hb
    refine wp_getR dX9_met_6 fl_X9_44 i2 (i3.ne (by decide)) ?_
    refine wp_callVN (as := []) dX9_met_9 cb_X1_many lk_X9_178 im_X1_many se_X1_many rfl (Nat.le_of_ble_eq_true rfl) ⟨by decide, by decide⟩ ⟨Nat.le_refl _, Nat.le_refl _, Nat.le_refl _⟩ i3 rfl (by decide) hb (fun r0 h5 hb => ?_)
    obtain ⟨r6, rfl, hb⟩ := hb
    refine wp_icmp_lt (tgt := 17) dX9_met_12 (by decide) (fun c7 => ?_) (fun c7 => ?_)
    · have hb := hb.1 c7
      refine wp_aload_n 0 dX9_met_17 rfl rfl ?_
      obtain ⟨i8, hb⟩ := hb
      refine wp_getR dX9_met_18 fl_X9_44 i2 (i8.ne (by decide)) ?_
      obtain ⟨i9, hb⟩ := hb
      refine wp_getR dX9_met_21 fl_X9_181 i8 (i9.ne (by decide)) ?_
      obtain ⟨i10, hb⟩ := hb
      refine wp_getR dX9_met_24 fl_X9_185 i9 (i10.ne (by decide)) ?_
      refine wp_iload_n 1 dX9_met_27 rfl rfl ?_
      obtain ⟨b11, hb⟩ := hb
      refine wp_laload dX9_met_28 i10 b11 ?_
      refine wp_topl (fun v12 e13 => ?_)
      have hb := hb v12 e13
      refine wp_lstore_n (lv2 := [(3, .long v12), (0, .ref x0), (1, .int x1), (2, .int x2)]) dX9_met_29 rfl (by decide) rfl ?_
      refine wp_iload_n 3 dX9_met_30 rfl rfl ?_
      refine wp_case 0 (fun c14 => ?_) (fun c14 => ?_)
      · have hb := hb.1 c14
        refine wp_tableIn (v := 0) (tgt := 68) dX9_met_31 c14 (by decide) (by decide) rfl (by decide) ?_
        refine wp_lload_n 0 dX9_met_68 rfl rfl ?_
        refine wp_callSN (as := [.long v12]) dX9_met_69 cb_X3_faultOf lk_X9_152 st_X3_faultOf rfl (Nat.le_of_ble_eq_true rfl) ⟨by decide, by decide⟩ ⟨Nat.le_refl _, Nat.le_refl _, Nat.le_refl _⟩ hb (fun r0 h16 hb => ?_)
        obtain ⟨r17, rfl, hb⟩ := hb
        exact wp_iret rfl dX9_met_72 ⟨_, rfl, hb⟩
      · have hb := hb.2 c14
        refine wp_case 1 (fun c18 => ?_) (fun c18 => ?_)
        · have hb := hb.1 c18
          refine wp_tableIn (v := 1) (tgt := 73) dX9_met_31 c18 (by decide) (by decide) rfl (by decide) ?_
          refine wp_lload_n 0 dX9_met_73 rfl rfl ?_
          refine wp_callSN (as := [.long v12]) dX9_met_74 cb_X3_openOf lk_X9_158 st_X3_openOf rfl (Nat.le_of_ble_eq_true rfl) ⟨by decide, by decide⟩ ⟨Nat.le_refl _, Nat.le_refl _, Nat.le_refl _⟩ hb (fun r0 h20 hb => ?_)
          obtain ⟨r21, rfl, hb⟩ := hb
          exact wp_iret rfl dX9_met_77 ⟨_, rfl, hb⟩
        · have hb := hb.2 c18
          refine wp_case 2 (fun c22 => ?_) (fun c22 => ?_)
          · have hb := hb.1 c22
            refine wp_tableIn (v := 2) (tgt := 78) dX9_met_31 c22 (by decide) (by decide) rfl (by decide) ?_
            refine wp_lload_n 0 dX9_met_78 rfl rfl ?_
            refine wp_callSN (as := [.long v12]) dX9_met_79 cb_X3_topOf lk_X9_161 st_X3_topOf rfl (Nat.le_of_ble_eq_true rfl) ⟨by decide, by decide⟩ ⟨Nat.le_refl _, Nat.le_refl _, Nat.le_refl _⟩ hb (fun r0 h24 hb => ?_)
            obtain ⟨r25, rfl, hb⟩ := hb
            exact wp_iret rfl dX9_met_82 ⟨_, rfl, hb⟩
          · have hb := hb.2 c22
            refine wp_case 3 (fun c26 => ?_) (fun c26 => ?_)
            · have hb := hb.1 c26
              refine wp_tableIn (v := 3) (tgt := 83) dX9_met_31 c26 (by decide) (by decide) rfl (by decide) ?_
              refine wp_aload_n 1 dX9_met_83 rfl rfl ?_
              obtain ⟨i27, hb⟩ := hb
              refine wp_getR dX9_met_84 fl_X9_44 i2 (i27.ne (by decide)) ?_
              obtain ⟨i28, hb⟩ := hb
              refine wp_getR dX9_met_87 fl_X9_181 i27 (i28.ne (by decide)) ?_
              obtain ⟨i29, hb⟩ := hb
              refine wp_getR dX9_met_90 fl_X9_190 i28 (i29.ne (by decide)) ?_
              refine wp_iload_n 2 dX9_met_93 rfl rfl ?_
              obtain ⟨b30, hb⟩ := hb
              refine wp_iaload dX9_met_94 i29 b30 ?_
              refine wp_topi (fun v31 e32 => ?_)
              have hb := hb v31 e32
              exact wp_iret rfl dX9_met_95 ⟨_, rfl, hb⟩
            · have hb := hb.2 c26
              refine wp_case 4 (fun c33 => ?_) (fun c33 => ?_)
              · have hb := hb.1 c33
                refine wp_tableIn (v := 4) (tgt := 96) dX9_met_31 c33 (by decide) (by decide) rfl (by decide) ?_
                refine wp_aload_n 1 dX9_met_96 rfl rfl ?_
                obtain ⟨i34, hb⟩ := hb
                refine wp_getR dX9_met_97 fl_X9_44 i2 (i34.ne (by decide)) ?_
                refine wp_iload_n 2 dX9_met_100 rfl rfl ?_
                refine wp_callVN (as := [.int x1]) dX9_met_101 cb_X1_waysFrom lk_X9_193 im_X1_waysFrom se_X1_waysFrom rfl (Nat.le_of_ble_eq_true rfl) ⟨by decide, by decide⟩ ⟨Nat.le_refl _, Nat.le_refl _, Nat.le_refl _⟩ i34 rfl (by decide) hb (fun r0 h36 hb => ?_)
                obtain ⟨r37, rfl, hb⟩ := hb
                exact wp_iret rfl dX9_met_104 ⟨_, rfl, hb⟩
              · have hb := hb.2 c33
                refine wp_case 5 (fun c38 => ?_) (fun c38 => ?_)
                · have hb := hb.1 c38
                  refine wp_tableIn (v := 5) (tgt := 105) dX9_met_31 c38 (by decide) (by decide) rfl (by decide) ?_
                  refine wp_aload_n 1 dX9_met_105 rfl rfl ?_
                  obtain ⟨i39, hb⟩ := hb
                  refine wp_getR dX9_met_106 fl_X9_44 i2 (i39.ne (by decide)) ?_
                  refine wp_iload_n 2 dX9_met_109 rfl rfl ?_
                  refine wp_callVN (as := [.int x1]) dX9_met_110 cb_X1_kindOf lk_X9_196 im_X1_kindOf se_X1_kindOf rfl (Nat.le_of_ble_eq_true rfl) ⟨by decide, by decide⟩ ⟨Nat.le_refl _, Nat.le_refl _, Nat.le_refl _⟩ i39 rfl (by decide) hb (fun r0 h41 hb => ?_)
                  obtain ⟨r42, rfl, hb⟩ := hb
                  exact wp_iret rfl dX9_met_113 ⟨_, rfl, hb⟩
                · have hb := hb.2 c38
                  refine wp_tableOut (tgt := 114) dX9_met_31 (by have zc14 := lv_neT (k := 0) (a := 0) c14 rfl; have zc18 := lv_neT (k := 1) (a := 1) c18 rfl; have zc22 := lv_neT (k := 2) (a := 2) c22 rfl; have zc26 := lv_neT (k := 3) (a := 3) c26 rfl; have zc33 := lv_neT (k := 4) (a := 4) c33 rfl; have zc38 := lv_neT (k := 5) (a := 5) c38 rfl; omega) (by decide) ?_
                  refine wp_iconst (v := (-1)) dX9_met_114 (by decide) ?_
                  exact wp_iret rfl dX9_met_115 ⟨_, rfl, hb⟩
    · have hb := hb.2 c7
      refine wp_iconst (v := (-1)) dX9_met_15 (by decide) ?_
      exact wp_iret rfl dX9_met_16 ⟨_, rfl, hb⟩
theorem c_X9_met {l : Launch} {g : AG} {h : AH} {x0 : Nat} {x1 : Int32} {x2 : Int32}  {Q : Int32 → AH → Prop} (hb : L_X9_met_0 l g h x0 x1 x2  Q) : C_X9_met l g h x0 x1 x2  Q := ax_met rfl (Nat.le_of_ble_eq_true rfl) hb
