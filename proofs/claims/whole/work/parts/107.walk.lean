def C_X1_kindsMany (l : Launch) (g : AG) (h : AH) (x0 : Nat)  (Q : Int32 → AH → Prop) : Prop := Ct l g mX1_kindsMany 4 105 194 194 h [.ref x0] (ax_QI Q)
def L_X1_kindsMany_0 (l : Launch) (g : AG) (h : AH) (x0 : Nat)  (Q : Int32 → AH → Prop) : Prop := Wp l g mX1_kindsMany 4 105 194 194 194 0 [(0, .ref x0)] [] h (FM g 194 194 (ax_QI Q))
set_option maxRecDepth 100000 in
set_option maxHeartbeats 4000000 in
theorem s_X1_kindsMany_0 {l : Launch} {g : AG} {h : AH} {x0 : Nat}  {Q : Int32 → AH → Prop} (hb : (Is 194 x0 1) ∧ ( ((¬ h.1 x0 5 = 0 → (Q (h.1 x0 5) h)) ∧ (h.1 x0 5 = 0 → (C_X1_stands l g h x0 (fun r5 h4 => ( ((r5 = 0 → (Q (h4.1 x0 5) h4)) ∧ (¬ (r5 = 0) → (C_X1_partByViews l g h4 x0 (fun h8 => ( C_X1_partByWays l g h8 x0 (fun h10 => ( Q (h10.1 x0 5) h10)))))))))))))) : L_X1_kindsMany_0 l g h x0  Q := by
  obtain ⟨i1, hb⟩ := hb
  refine wp_aload_n 0 dX1_kindsMany_0 rfl rfl ?_
  refine wp_getI dX1_kindsMany_1 fl_X1_29 i1 ?_
  refine wp_if_ne (tgt := 22) dX1_kindsMany_4 (by decide) (fun c2 => ?_) (fun c2 => ?_)
  · have hb := hb.1 c2
    refine wp_aload_n 0 dX1_kindsMany_22 rfl rfl ?_
    refine wp_getI dX1_kindsMany_23 fl_X1_29 i1 ?_
    exact wp_iret rfl dX1_kindsMany_26 ⟨_, rfl, hb⟩
  · have hb := hb.2 c2
    refine wp_aload_n 0 dX1_kindsMany_7 rfl rfl ?_
    refine wp_callV (as := []) dX1_kindsMany_8 cb_X1_stands lk_X1_46 im_X1_stands se_X1_stands rfl (Nat.le_of_ble_eq_true rfl) ⟨by decide, by decide⟩ ⟨Nat.le_refl _, Nat.le_refl _, Nat.le_refl _⟩ i1 rfl (by decide) hb (fun r0 h4 hb => ?_)
    obtain ⟨r5, rfl, hb⟩ := hb
    refine wp_if_eq (tgt := 22) dX1_kindsMany_11 (by decide) (fun c6 => ?_) (fun c6 => ?_)
    · have hb := hb.1 c6
      refine wp_aload_n 0 dX1_kindsMany_22 rfl rfl ?_
      refine wp_getI dX1_kindsMany_23 fl_X1_29 i1 ?_
      exact wp_iret rfl dX1_kindsMany_26 ⟨_, rfl, hb⟩
    · have hb := hb.2 c6
      refine wp_aload_n 0 dX1_kindsMany_14 rfl rfl ?_
      refine wp_callV (as := []) dX1_kindsMany_15 cb_X1_partByViews lk_X1_128 im_X1_partByViews se_X1_partByViews rfl (Nat.le_of_ble_eq_true rfl) ⟨by decide, by decide⟩ ⟨Nat.le_refl _, Nat.le_refl _, Nat.le_refl _⟩ i1 rfl (by decide) hb (fun r0 h8 hb => ?_)
      obtain ⟨rfl, hb⟩ := hb
      refine wp_aload_n 0 dX1_kindsMany_18 rfl rfl ?_
      refine wp_callV (as := []) dX1_kindsMany_19 cb_X1_partByWays lk_X1_131 im_X1_partByWays se_X1_partByWays rfl (Nat.le_of_ble_eq_true rfl) ⟨by decide, by decide⟩ ⟨Nat.le_refl _, Nat.le_refl _, Nat.le_refl _⟩ i1 rfl (by decide) hb (fun r0 h10 hb => ?_)
      obtain ⟨rfl, hb⟩ := hb
      refine wp_aload_n 0 dX1_kindsMany_22 rfl rfl ?_
      refine wp_getI dX1_kindsMany_23 fl_X1_29 i1 ?_
      exact wp_iret rfl dX1_kindsMany_26 ⟨_, rfl, hb⟩
theorem c_X1_kindsMany {l : Launch} {g : AG} {h : AH} {x0 : Nat}  {Q : Int32 → AH → Prop} (hb : L_X1_kindsMany_0 l g h x0  Q) : C_X1_kindsMany l g h x0  Q := ax_met rfl rfl (Nat.le_of_ble_eq_true rfl) hb
def C_X1_kindOf (l : Launch) (g : AG) (h : AH) (x0 : Nat) (x1 : Int32)  (Q : Int32 → AH → Prop) : Prop := Ct l g mX1_kindOf 5 125 194 194 h [.ref x0, .int x1] (ax_QI Q)
def L_X1_kindOf_0 (l : Launch) (g : AG) (h : AH) (x0 : Nat) (x1 : Int32)  (Q : Int32 → AH → Prop) : Prop := Wp l g mX1_kindOf 5 125 194 194 194 0 [(0, .ref x0), (1, .int x1)] [] h (FM g 194 194 (ax_QI Q))
set_option maxRecDepth 100000 in
set_option maxHeartbeats 4000000 in
theorem s_X1_kindOf_0 {l : Launch} {g : AG} {h : AH} {x0 : Nat} {x1 : Int32}  {Q : Int32 → AH → Prop} (hb : (Is 194 x0 1) ∧ ( C_X1_kindsMany l g h x0 (fun r4 h3 => ( ((r4 ≤ 0 → (Q (-1) h3)) ∧ (¬ (r4 ≤ 0) → ((Is 194 (h3.2.2 x0 6) 20) ∧ ( (vp_in x1 (ax_s (h3.2.2 x0 6)).2) ∧ ( Q (h3.1 (h3.2.2 x0 6) x1.toNatClampNeg) h3))))))))) : L_X1_kindOf_0 l g h x0 x1  Q := by
  obtain ⟨i1, hb⟩ := hb
  refine wp_aload_n 0 dX1_kindOf_0 rfl rfl ?_
  refine wp_callV (as := []) dX1_kindOf_1 cb_X1_kindsMany lk_X1_134 im_X1_kindsMany se_X1_kindsMany rfl (Nat.le_of_ble_eq_true rfl) ⟨by decide, by decide⟩ ⟨Nat.le_refl _, Nat.le_refl _, Nat.le_refl _⟩ i1 rfl (by decide) hb (fun r0 h3 hb => ?_)
  obtain ⟨r4, rfl, hb⟩ := hb
  refine wp_if_le (tgt := 16) dX1_kindOf_4 (by decide) (fun c5 => ?_) (fun c5 => ?_)
  · have hb := hb.1 c5
    refine wp_iconst (v := (-1)) dX1_kindOf_16 (by decide) ?_
    exact wp_iret rfl dX1_kindOf_17 ⟨_, rfl, hb⟩
  · have hb := hb.2 c5
    refine wp_aload_n 0 dX1_kindOf_7 rfl rfl ?_
    obtain ⟨i6, hb⟩ := hb
    refine wp_getR dX1_kindOf_8 fl_X1_32 i1 (i6.ne (by decide)) ?_
    refine wp_iload_n 1 dX1_kindOf_11 rfl rfl ?_
    obtain ⟨b7, hb⟩ := hb
    refine wp_iaload dX1_kindOf_12 i6 b7 ?_
    refine wp_goto (tgt := 17) dX1_kindOf_13 (by decide) ?_
    exact wp_iret rfl dX1_kindOf_17 ⟨_, rfl, hb⟩
theorem c_X1_kindOf {l : Launch} {g : AG} {h : AH} {x0 : Nat} {x1 : Int32}  {Q : Int32 → AH → Prop} (hb : L_X1_kindOf_0 l g h x0 x1  Q) : C_X1_kindOf l g h x0 x1  Q := ax_met rfl rfl (Nat.le_of_ble_eq_true rfl) hb
def C_X9_met (l : Launch) (g : AG) (h : AH) (x0 : Nat) (x1 : Int32) (x2 : Int32)  (Q : Int32 → AH → Prop) : Prop := Ct l g mX9_met 6 146 194 194 h [.ref x0, .int x1, .int x2] (ax_QI Q)
def L_X9_met_0 (l : Launch) (g : AG) (h : AH) (x0 : Nat) (x1 : Int32) (x2 : Int32)  (Q : Int32 → AH → Prop) : Prop := Wp l g mX9_met 6 146 194 194 194 0 [(0, .ref x0), (1, .int x1), (2, .int x2)] [] h (FM g 194 194 (ax_QI Q))
set_option maxRecDepth 100000 in
set_option maxHeartbeats 4000000 in
theorem s_X9_met_0 {l : Launch} {g : AG} {h : AH} {x0 : Nat} {x1 : Int32} {x2 : Int32}  {Q : Int32 → AH → Prop} (hb : ((x1 < 0 → (Q (-1) h)) ∧ (¬ (x1 < 0) → ((Is 194 x0 8) ∧ ( (Is 194 (h.2.2 x0 6) 1) ∧ ( C_X1_many l g h (h.2.2 x0 6) (fun r6 h5 => ( ((x1 < r6 → ((Is 194 (h5.2.2 x0 6) 1) ∧ ( (Is 194 (h5.2.2 (h5.2.2 x0 6) 2) 5) ∧ ( (Is 194 (h5.2.2 (h5.2.2 (h5.2.2 x0 6) 2) 1) 21) ∧ ( (vp_in x1 (ax_s (h5.2.2 (h5.2.2 (h5.2.2 x0 6) 2) 1)).2) ∧ ( ∀ v12 : Int64, v12 = (h5.2.1 (h5.2.2 (h5.2.2 (h5.2.2 x0 6) 2) 1) x1.toNatClampNeg) → ( ((x2 = 0 → (C_X3_faultOf l g h5 v12 (fun r17 h16 => ( Q r17 h16)))) ∧ (¬ x2 = 0 → (((x2 = 1 → (C_X3_openOf l g h5 v12 (fun r21 h20 => ( Q r21 h20)))) ∧ (¬ x2 = 1 → (((x2 = 2 → (C_X3_topOf l g h5 v12 (fun r25 h24 => ( Q r25 h24)))) ∧ (¬ x2 = 2 → (((x2 = 3 → ((Is 194 (h5.2.2 x0 6) 1) ∧ ( (Is 194 (h5.2.2 (h5.2.2 x0 6) 2) 5) ∧ ( (Is 194 (h5.2.2 (h5.2.2 (h5.2.2 x0 6) 2) 5) 20) ∧ ( (vp_in x1 (ax_s (h5.2.2 (h5.2.2 (h5.2.2 x0 6) 2) 5)).2) ∧ ( ∀ v31 : Int32, v31 = (h5.1 (h5.2.2 (h5.2.2 (h5.2.2 x0 6) 2) 5) x1.toNatClampNeg) → ( Q v31 h5))))))) ∧ (¬ x2 = 3 → (((x2 = 4 → ((Is 194 (h5.2.2 x0 6) 1) ∧ ( C_X1_waysFrom l g h5 (h5.2.2 x0 6) x1 (fun r37 h36 => ( Q r37 h36))))) ∧ (¬ x2 = 4 → (((x2 = 5 → ((Is 194 (h5.2.2 x0 6) 1) ∧ ( C_X1_kindOf l g h5 (h5.2.2 x0 6) x1 (fun r42 h41 => ( Q r42 h41))))) ∧ (¬ x2 = 5 → (Q (-1) h5))))))))))))))))))))))))) ∧ (¬ (x1 < r6) → (Q (-1) h5))))))))))) : L_X9_met_0 l g h x0 x1 x2  Q := by
  refine wp_iload_n 1 dX9_met_0 rfl rfl ?_
  refine wp_if_lt (tgt := 15) dX9_met_1 (by decide) (fun c1 => ?_) (fun c1 => ?_)
  · have hb := hb.1 c1
    refine wp_iconst (v := (-1)) dX9_met_15 (by decide) ?_
    exact wp_iret rfl dX9_met_16 ⟨_, rfl, hb⟩
  · have hb := hb.2 c1
    refine wp_iload_n 1 dX9_met_4 rfl rfl ?_
    obtain ⟨i2, hb⟩ := hb
    refine wp_aload_n 0 dX9_met_5 rfl rfl ?_
    obtain ⟨i3, hb⟩ := hb
    refine wp_getR dX9_met_6 fl_X9_44 i2 (i3.ne (by decide)) ?_
    refine wp_callVN (as := []) dX9_met_9 cb_X1_many lk_X9_178 im_X1_many se_X1_many rfl (Nat.le_of_ble_eq_true rfl) ⟨by decide, by decide⟩ ⟨Nat.le_refl _, Nat.le_refl _, Nat.le_refl _⟩ i3 rfl (by decide) hb (fun r0 h5 hb => ?_)
    obtain ⟨r6, rfl, hb⟩ := hb
    refine wp_icmp_lt (tgt := 17) dX9_met_12 (by decide) (fun c7 => ?_) (fun c7 => ?_)
    · have hb := hb.1 c7
      refine wp_aload_n 0 dX9_met_17 rfl rfl ?_
      obtain ⟨i8, hb⟩ := hb
      refine wp_getR dX9_met_18 fl_X9_44 i2 (i8.ne (by decide)) ?_
      obtain ⟨i9, hb⟩ := hb
      refine wp_getR dX9_met_21 fl_X9_181 i8 (i9.ne (by decide)) ?_
      obtain ⟨i10, hb⟩ := hb
      refine wp_getR dX9_met_24 fl_X9_185 i9 (i10.ne (by decide)) ?_
      refine wp_iload_n 1 dX9_met_27 rfl rfl ?_
      obtain ⟨b11, hb⟩ := hb
      refine wp_laload dX9_met_28 i10 b11 ?_
      refine wp_topl (fun v12 e13 => ?_)
      have hb := hb v12 e13
      refine wp_lstore_n (lv2 := [(3, .long v12), (0, .ref x0), (1, .int x1), (2, .int x2)]) dX9_met_29 rfl (by decide) rfl ?_
      refine wp_iload_n 3 dX9_met_30 rfl rfl ?_
      refine wp_case 0 (fun c14 => ?_) (fun c14 => ?_)
      · have hb := hb.1 c14
        refine wp_tableIn (v := 0) (tgt := 68) dX9_met_31 c14 (by decide) (by decide) rfl (by decide) ?_
        refine wp_lload_n 0 dX9_met_68 rfl rfl ?_
        refine wp_callSN (as := [.long v12]) dX9_met_69 cb_X3_faultOf lk_X9_152 st_X3_faultOf rfl (Nat.le_of_ble_eq_true rfl) ⟨by decide, by decide⟩ ⟨Nat.le_refl _, Nat.le_refl _, Nat.le_refl _⟩ hb (fun r0 h16 hb => ?_)
        obtain ⟨r17, rfl, hb⟩ := hb
        exact wp_iret rfl dX9_met_72 ⟨_, rfl, hb⟩
      · have hb := hb.2 c14
        refine wp_case 1 (fun c18 => ?_) (fun c18 => ?_)
        · have hb := hb.1 c18
          refine wp_tableIn (v := 1) (tgt := 73) dX9_met_31 c18 (by decide) (by decide) rfl (by decide) ?_
          refine wp_lload_n 0 dX9_met_73 rfl rfl ?_
          refine wp_callSN (as := [.long v12]) dX9_met_74 cb_X3_openOf lk_X9_158 st_X3_openOf rfl (Nat.le_of_ble_eq_true rfl) ⟨by decide, by decide⟩ ⟨Nat.le_refl _, Nat.le_refl _, Nat.le_refl _⟩ hb (fun r0 h20 hb => ?_)
          obtain ⟨r21, rfl, hb⟩ := hb
          exact wp_iret rfl dX9_met_77 ⟨_, rfl, hb⟩
        · have hb := hb.2 c18
          refine wp_case 2 (fun c22 => ?_) (fun c22 => ?_)
          · have hb := hb.1 c22
            refine wp_tableIn (v := 2) (tgt := 78) dX9_met_31 c22 (by decide) (by decide) rfl (by decide) ?_
            refine wp_lload_n 0 dX9_met_78 rfl rfl ?_
            refine wp_callSN (as := [.long v12]) dX9_met_79 cb_X3_topOf lk_X9_161 st_X3_topOf rfl (Nat.le_of_ble_eq_true rfl) ⟨by decide, by decide⟩ ⟨Nat.le_refl _, Nat.le_refl _, Nat.le_refl _⟩ hb (fun r0 h24 hb => ?_)
            obtain ⟨r25, rfl, hb⟩ := hb
            exact wp_iret rfl dX9_met_82 ⟨_, rfl, hb⟩
          · have hb := hb.2 c22
            refine wp_case 3 (fun c26 => ?_) (fun c26 => ?_)
            · have hb := hb.1 c26
              refine wp_tableIn (v := 3) (tgt := 83) dX9_met_31 c26 (by decide) (by decide) rfl (by decide) ?_
              refine wp_aload_n 1 dX9_met_83 rfl rfl ?_
              obtain ⟨i27, hb⟩ := hb
              refine wp_getR dX9_met_84 fl_X9_44 i2 (i27.ne (by decide)) ?_
              obtain ⟨i28, hb⟩ := hb
              refine wp_getR dX9_met_87 fl_X9_181 i27 (i28.ne (by decide)) ?_
              obtain ⟨i29, hb⟩ := hb
              refine wp_getR dX9_met_90 fl_X9_190 i28 (i29.ne (by decide)) ?_
              refine wp_iload_n 2 dX9_met_93 rfl rfl ?_
              obtain ⟨b30, hb⟩ := hb
              refine wp_iaload dX9_met_94 i29 b30 ?_
              refine wp_topi (fun v31 e32 => ?_)
              have hb := hb v31 e32
              exact wp_iret rfl dX9_met_95 ⟨_, rfl, hb⟩
            · have hb := hb.2 c26
              refine wp_case 4 (fun c33 => ?_) (fun c33 => ?_)
              · have hb := hb.1 c33
                refine wp_tableIn (v := 4) (tgt := 96) dX9_met_31 c33 (by decide) (by decide) rfl (by decide) ?_
                refine wp_aload_n 1 dX9_met_96 rfl rfl ?_
                obtain ⟨i34, hb⟩ := hb
                refine wp_getR dX9_met_97 fl_X9_44 i2 (i34.ne (by decide)) ?_
                refine wp_iload_n 2 dX9_met_100 rfl rfl ?_
                refine wp_callVN (as := [.int x1]) dX9_met_101 cb_X1_waysFrom lk_X9_193 im_X1_waysFrom se_X1_waysFrom rfl (Nat.le_of_ble_eq_true rfl) ⟨by decide, by decide⟩ ⟨Nat.le_refl _, Nat.le_refl _, Nat.le_refl _⟩ i34 rfl (by decide) hb (fun r0 h36 hb => ?_)
                obtain ⟨r37, rfl, hb⟩ := hb
                exact wp_iret rfl dX9_met_104 ⟨_, rfl, hb⟩
              · have hb := hb.2 c33
                refine wp_case 5 (fun c38 => ?_) (fun c38 => ?_)
                · have hb := hb.1 c38
                  refine wp_tableIn (v := 5) (tgt := 105) dX9_met_31 c38 (by decide) (by decide) rfl (by decide) ?_
                  refine wp_aload_n 1 dX9_met_105 rfl rfl ?_
                  obtain ⟨i39, hb⟩ := hb
                  refine wp_getR dX9_met_106 fl_X9_44 i2 (i39.ne (by decide)) ?_
                  refine wp_iload_n 2 dX9_met_109 rfl rfl ?_
                  refine wp_callVN (as := [.int x1]) dX9_met_110 cb_X1_kindOf lk_X9_196 im_X1_kindOf se_X1_kindOf rfl (Nat.le_of_ble_eq_true rfl) ⟨by decide, by decide⟩ ⟨Nat.le_refl _, Nat.le_refl _, Nat.le_refl _⟩ i39 rfl (by decide) hb (fun r0 h41 hb => ?_)
                  obtain ⟨r42, rfl, hb⟩ := hb
                  exact wp_iret rfl dX9_met_113 ⟨_, rfl, hb⟩
                · have hb := hb.2 c38
                  refine wp_tableOut (tgt := 114) dX9_met_31 (by have zc14 := lv_neT (k := 0) (a := 0) c14 rfl; have zc18 := lv_neT (k := 1) (a := 1) c18 rfl; have zc22 := lv_neT (k := 2) (a := 2) c22 rfl; have zc26 := lv_neT (k := 3) (a := 3) c26 rfl; have zc33 := lv_neT (k := 4) (a := 4) c33 rfl; have zc38 := lv_neT (k := 5) (a := 5) c38 rfl; omega) (by decide) ?_
                  refine wp_iconst (v := (-1)) dX9_met_114 (by decide) ?_
                  exact wp_iret rfl dX9_met_115 ⟨_, rfl, hb⟩
    · have hb := hb.2 c7
      refine wp_iconst (v := (-1)) dX9_met_15 (by decide) ?_
      exact wp_iret rfl dX9_met_16 ⟨_, rfl, hb⟩
theorem c_X9_met {l : Launch} {g : AG} {h : AH} {x0 : Nat} {x1 : Int32} {x2 : Int32}  {Q : Int32 → AH → Prop} (hb : L_X9_met_0 l g h x0 x1 x2  Q) : C_X9_met l g h x0 x1 x2  Q := ax_met rfl rfl (Nat.le_of_ble_eq_true rfl) hb
def C_X9_leads (l : Launch) (g : AG) (h : AH) (x0 : Nat) (x1 : Int32) (x2 : Int32)  (Q : Int32 → AH → Prop) : Prop := Ct l g mX9_leads 2 40 194 194 h [.ref x0, .int x1, .int x2] (ax_QI Q)
def L_X9_leads_0 (l : Launch) (g : AG) (h : AH) (x0 : Nat) (x1 : Int32) (x2 : Int32)  (Q : Int32 → AH → Prop) : Prop := Wp l g mX9_leads 2 40 194 194 194 0 [(0, .ref x0), (1, .int x1), (2, .int x2)] [] h (FM g 194 194 (ax_QI Q))
set_option maxRecDepth 100000 in
set_option maxHeartbeats 4000000 in
theorem s_X9_leads_0 {l : Launch} {g : AG} {h : AH} {x0 : Nat} {x1 : Int32} {x2 : Int32}  {Q : Int32 → AH → Prop} (hb : ((x1 < 0 → (Q (-1) h)) ∧ (¬ (x1 < 0) → ((Is 194 x0 8) ∧ ( (Is 194 (h.2.2 x0 6) 1) ∧ ( C_X1_many l g h (h.2.2 x0 6) (fun r6 h5 => ( ((r6 ≤ x1 → (Q (-1) h5)) ∧ (¬ (r6 ≤ x1) → (((x2 < 0 → (Q (-1) h5)) ∧ (¬ (x2 < 0) → (((x2 < 27 → ((Is 194 (h5.2.2 x0 6) 1) ∧ ( (Is 194 (h5.2.2 (h5.2.2 x0 6) 3) 20) ∧ ( (vp_in ((x1 * 27) + x2) (ax_s (h5.2.2 (h5.2.2 x0 6) 3)).2) ∧ ( ∀ v13 : Int32, v13 = (h5.1 (h5.2.2 (h5.2.2 x0 6) 3) ((x1 * 27) + x2).toNatClampNeg) → ( Q v13 h5)))))) ∧ (¬ (x2 < 27) → (Q (-1) h5))))))))))))))))) : L_X9_leads_0 l g h x0 x1 x2  Q := by
  refine wp_iload_n 1 dX9_leads_0 rfl rfl ?_
  refine wp_if_lt (tgt := 25) dX9_leads_1 (by decide) (fun c1 => ?_) (fun c1 => ?_)
  · have hb := hb.1 c1
    refine wp_iconst (v := (-1)) dX9_leads_25 (by decide) ?_
    exact wp_iret rfl dX9_leads_26 ⟨_, rfl, hb⟩
  · have hb := hb.2 c1
    refine wp_iload_n 1 dX9_leads_4 rfl rfl ?_
    obtain ⟨i2, hb⟩ := hb
    refine wp_aload_n 0 dX9_leads_5 rfl rfl ?_
    obtain ⟨i3, hb⟩ := hb
    refine wp_getR dX9_leads_6 fl_X9_44 i2 (i3.ne (by decide)) ?_
    refine wp_callVN (as := []) dX9_leads_9 cb_X1_many lk_X9_178 im_X1_many se_X1_many rfl (Nat.le_of_ble_eq_true rfl) ⟨by decide, by decide⟩ ⟨Nat.le_refl _, Nat.le_refl _, Nat.le_refl _⟩ i3 rfl (by decide) hb (fun r0 h5 hb => ?_)
    obtain ⟨r6, rfl, hb⟩ := hb
    refine wp_icmp_ge (tgt := 25) dX9_leads_12 (by decide) (fun c7 => ?_) (fun c7 => ?_)
    · have hb := hb.1 c7
      refine wp_iconst (v := (-1)) dX9_leads_25 (by decide) ?_
      exact wp_iret rfl dX9_leads_26 ⟨_, rfl, hb⟩
    · have hb := hb.2 c7
      refine wp_iload_n 2 dX9_leads_15 rfl rfl ?_
      refine wp_if_lt (tgt := 25) dX9_leads_16 (by decide) (fun c8 => ?_) (fun c8 => ?_)
      · have hb := hb.1 c8
        refine wp_iconst (v := (-1)) dX9_leads_25 (by decide) ?_
        exact wp_iret rfl dX9_leads_26 ⟨_, rfl, hb⟩
      · have hb := hb.2 c8
        refine wp_iload_n 2 dX9_leads_19 rfl rfl ?_
        refine wp_bipush (v := 27) dX9_leads_20 (by decide) ?_
        refine wp_icmp_lt (tgt := 27) dX9_leads_22 (by decide) (fun c9 => ?_) (fun c9 => ?_)
        · have hb := hb.1 c9
          refine wp_aload_n 0 dX9_leads_27 rfl rfl ?_
          obtain ⟨i10, hb⟩ := hb
          refine wp_getR dX9_leads_28 fl_X9_44 i2 (i10.ne (by decide)) ?_
          obtain ⟨i11, hb⟩ := hb
          refine wp_getR dX9_leads_31 fl_X9_199 i10 (i11.ne (by decide)) ?_
          refine wp_iload_n 1 dX9_leads_34 rfl rfl ?_
          refine wp_bipush (v := 27) dX9_leads_35 (by decide) ?_
          refine wp_imul dX9_leads_37 ?_
          refine wp_iload_n 2 dX9_leads_38 rfl rfl ?_
          refine wp_iadd dX9_leads_39 ?_
          obtain ⟨b12, hb⟩ := hb
          refine wp_iaload dX9_leads_40 i11 b12 ?_
          refine wp_topi (fun v13 e14 => ?_)
          have hb := hb v13 e14
          exact wp_iret rfl dX9_leads_41 ⟨_, rfl, hb⟩
        · have hb := hb.2 c9
          refine wp_iconst (v := (-1)) dX9_leads_25 (by decide) ?_
          exact wp_iret rfl dX9_leads_26 ⟨_, rfl, hb⟩
theorem c_X9_leads {l : Launch} {g : AG} {h : AH} {x0 : Nat} {x1 : Int32} {x2 : Int32}  {Q : Int32 → AH → Prop} (hb : L_X9_leads_0 l g h x0 x1 x2  Q) : C_X9_leads l g h x0 x1 x2  Q := ax_met rfl rfl (Nat.le_of_ble_eq_true rfl) hb
def C_X6_traced (l : Launch) (g : AG) (h : AH) (x0 : Nat) (x1 : Int32) (x2 : Nat)  (Q : Int32 → AH → Prop) : Prop := Ct l g mX6_traced 0 0 194 194 h [.ref x0, .int x1, .ref x2] (ax_QI Q)
def L_X6_traced_0 (l : Launch) (g : AG) (h : AH) (x0 : Nat) (x1 : Int32) (x2 : Nat)  (Q : Int32 → AH → Prop) : Prop := Wp l g mX6_traced 0 0 194 194 194 0 [(0, .ref x0), (1, .int x1), (2, .ref x2)] [] h (FM g 194 194 (ax_QI Q))
def L_X6_traced_12 (l : Launch) (g : AG) (h : AH) (x0 : Nat) (x1 : Int32) (x2 : Nat) (x3 : Int32) (x4 : Int32)  (Q : Int32 → AH → Prop) : Prop := Wp l g mX6_traced 0 0 194 194 194 12 [(0, .ref x0), (1, .int x1), (2, .ref x2), (3, .int x3), (4, .int x4)] [] h (FM g 194 194 (ax_QI Q))
set_option maxRecDepth 100000 in
set_option maxHeartbeats 4000000 in
theorem s_X6_traced_0 {l : Launch} {g : AG} {h : AH} {x0 : Nat} {x1 : Int32} {x2 : Nat}  {Q : Int32 → AH → Prop} (hb : (Is 194 x0 5) ∧ ( (Is 194 (h.2.2 x0 5) 20) ∧ ( (vp_in x1 (ax_s (h.2.2 x0 5)).2) ∧ ( ∀ v4 : Int32, v4 = ((h.1 (h.2.2 x0 5) x1.toNatClampNeg) - 1) → ( L_X6_traced_12 l g h x0 x1 x2 x1 v4  Q))))) : L_X6_traced_0 l g h x0 x1 x2  Q := by
  refine wp_iload_n 1 dX6_traced_0 rfl rfl ?_
  refine wp_istore_n (lv2 := [(3, .int x1), (0, .ref x0), (1, .int x1), (2, .ref x2)]) dX6_traced_1 rfl (by decide) rfl ?_
  obtain ⟨i1, hb⟩ := hb
  refine wp_aload_n 1 dX6_traced_2 rfl rfl ?_
  obtain ⟨i2, hb⟩ := hb
  refine wp_getR dX6_traced_3 fl_X6_29 i1 (i2.ne (by decide)) ?_
  refine wp_iload_n 2 dX6_traced_6 rfl rfl ?_
  obtain ⟨b3, hb⟩ := hb
  refine wp_iaload dX6_traced_7 i2 b3 ?_
  refine wp_iconst (v := 1) dX6_traced_8 (by decide) ?_
  refine wp_isub dX6_traced_9 ?_
  refine wp_topi (fun v4 e5 => ?_)
  have hb := hb v4 e5
  refine wp_istore (lv2 := [(4, .int v4), (3, .int x1), (0, .ref x0), (1, .int x1), (2, .ref x2)]) dX6_traced_10 (by decide) rfl ?_
  exact wp_sub [2, 3, 4, 1, 0] rfl hb
set_option maxRecDepth 100000 in
set_option maxHeartbeats 4000000 in
theorem s_X6_traced_12 {l : Launch} {g : AG} {h : AH} {x0 : Nat} {x1 : Int32} {x2 : Nat} {x3 : Int32} {x4 : Int32}  {Q : Int32 → AH → Prop} (hb : ((x4 < 0 → ((Is 194 x0 5) ∧ ( (Is 194 (h.2.2 x0 5) 20) ∧ ( (vp_in x1 (ax_s (h.2.2 x0 5)).2) ∧ ( Q (h.1 (h.2.2 x0 5) x1.toNatClampNeg) h))))) ∧ (¬ (x4 < 0) → (((x3 < 0 → ((Is 194 x0 5) ∧ ( (Is 194 (h.2.2 x0 5) 20) ∧ ( (vp_in x1 (ax_s (h.2.2 x0 5)).2) ∧ ( Q (h.1 (h.2.2 x0 5) x1.toNatClampNeg) h))))) ∧ (¬ (x3 < 0) → ((Is 194 x2 20) ∧ ( ((Int32.ofNat (ax_s x2).2 ≤ x4 → ((Is 194 x0 5) ∧ ( (Is 194 (h.2.2 x0 5) 20) ∧ ( (vp_in x1 (ax_s (h.2.2 x0 5)).2) ∧ ( Q (h.1 (h.2.2 x0 5) x1.toNatClampNeg) h))))) ∧ (¬ (Int32.ofNat (ax_s x2).2 ≤ x4) → ((Is 194 x0 5) ∧ ( (Is 194 (h.2.2 x0 4) 20) ∧ ( (vp_in x3 (ax_s (h.2.2 x0 4)).2) ∧ ( (vp_in x4 (ax_s x2).2) ∧ ( ∀ h23 : AH, h23 = ax_setI h x2 x4.toNatClampNeg (h.1 (h.2.2 x0 4) x3.toNatClampNeg) → ( (Is 194 (h23.2.2 x0 3) 20) ∧ ( (vp_in x3 (ax_s (h23.2.2 x0 3)).2) ∧ ( ∀ v27 : Int32, v27 = (h23.1 (h23.2.2 x0 3) x3.toNatClampNeg) → ( ∀ v29 : Int32, v29 = x4 + (-1) → ( L_X6_traced_12 l g h23 x0 x1 x2 v27 v29  Q)))))))))))))))))))) : L_X6_traced_12 l g h x0 x1 x2 x3 x4  Q := by
  refine wp_iload 4 dX6_traced_12 rfl ?_
  refine wp_if_lt (tgt := 51) dX6_traced_14 (by decide) (fun c6 => ?_) (fun c6 => ?_)
  · have hb := hb.1 c6
    obtain ⟨i7, hb⟩ := hb
    refine wp_aload_n 0 dX6_traced_51 rfl rfl ?_
    obtain ⟨i8, hb⟩ := hb
    refine wp_getR dX6_traced_52 fl_X6_29 i7 (i8.ne (by decide)) ?_
    refine wp_iload_n 1 dX6_traced_55 rfl rfl ?_
    obtain ⟨b9, hb⟩ := hb
    refine wp_iaload dX6_traced_56 i8 b9 ?_
    exact wp_iret rfl dX6_traced_57 ⟨_, rfl, hb⟩
  · have hb := hb.2 c6
    refine wp_iload_n 3 dX6_traced_17 rfl rfl ?_
    refine wp_if_lt (tgt := 51) dX6_traced_18 (by decide) (fun c10 => ?_) (fun c10 => ?_)
    · have hb := hb.1 c10
      obtain ⟨i11, hb⟩ := hb
      refine wp_aload_n 0 dX6_traced_51 rfl rfl ?_
      obtain ⟨i12, hb⟩ := hb
      refine wp_getR dX6_traced_52 fl_X6_29 i11 (i12.ne (by decide)) ?_
      refine wp_iload_n 1 dX6_traced_55 rfl rfl ?_
      obtain ⟨b13, hb⟩ := hb
      refine wp_iaload dX6_traced_56 i12 b13 ?_
      exact wp_iret rfl dX6_traced_57 ⟨_, rfl, hb⟩
    · have hb := hb.2 c10
      refine wp_iload 4 dX6_traced_21 rfl ?_
      obtain ⟨i14, hb⟩ := hb
      refine wp_aload_n 2 dX6_traced_23 rfl rfl ?_
      refine wp_alen dX6_traced_24 i14 (by decide) rfl ?_
      refine wp_icmp_ge (tgt := 51) dX6_traced_25 (by decide) (fun c15 => ?_) (fun c15 => ?_)
      · have hb := hb.1 c15
        obtain ⟨i16, hb⟩ := hb
        refine wp_aload_n 0 dX6_traced_51 rfl rfl ?_
        obtain ⟨i17, hb⟩ := hb
        refine wp_getR dX6_traced_52 fl_X6_29 i16 (i17.ne (by decide)) ?_
        refine wp_iload_n 1 dX6_traced_55 rfl rfl ?_
        obtain ⟨b18, hb⟩ := hb
        refine wp_iaload dX6_traced_56 i17 b18 ?_
        exact wp_iret rfl dX6_traced_57 ⟨_, rfl, hb⟩
      · have hb := hb.2 c15
        refine wp_aload_n 2 dX6_traced_28 rfl rfl ?_
        refine wp_iload 4 dX6_traced_29 rfl ?_
        obtain ⟨i19, hb⟩ := hb
        refine wp_aload_n 0 dX6_traced_31 rfl rfl ?_
        obtain ⟨i20, hb⟩ := hb
        refine wp_getR dX6_traced_32 fl_X6_26 i19 (i20.ne (by decide)) ?_
        refine wp_iload_n 3 dX6_traced_35 rfl rfl ?_
        obtain ⟨b21, hb⟩ := hb
        refine wp_iaload dX6_traced_36 i20 b21 ?_
        obtain ⟨b22, hb⟩ := hb
        refine wp_iastore dX6_traced_37 i14 b22 ?_
        refine wp_topH (fun h23 e24 => ?_)
        have hb := hb h23 e24
        refine wp_aload_n 0 dX6_traced_38 rfl rfl ?_
        obtain ⟨i25, hb⟩ := hb
        refine wp_getR dX6_traced_39 fl_X6_22 i19 (i25.ne (by decide)) ?_
        refine wp_iload_n 3 dX6_traced_42 rfl rfl ?_
        obtain ⟨b26, hb⟩ := hb
        refine wp_iaload dX6_traced_43 i25 b26 ?_
        refine wp_topi (fun v27 e28 => ?_)
        have hb := hb v27 e28
        refine wp_istore_n (lv2 := [(3, .int v27), (0, .ref x0), (1, .int x1), (2, .ref x2), (4, .int x4)]) dX6_traced_44 rfl (by decide) rfl ?_
        obtain ⟨v29, e30⟩ : ∃ y : Int32, y = x4 + (-1) := ⟨_, rfl⟩
        have hb := hb v29 e30
        refine wp_iinc (v := v29) (lv2 := [(4, .int v29), (3, .int v27), (0, .ref x0), (1, .int x1), (2, .ref x2)]) 4 dX6_traced_45 rfl (by rw [e30]; rfl) (by decide) rfl ?_
        refine wp_goto (tgt := 12) dX6_traced_48 (by decide) ?_
        exact wp_sub [2, 3, 4, 1, 0] rfl hb
theorem c_X6_traced {l : Launch} {g : AG} {h : AH} {x0 : Nat} {x1 : Int32} {x2 : Nat}  {Q : Int32 → AH → Prop} (hb : L_X6_traced_0 l g h x0 x1 x2  Q) : C_X6_traced l g h x0 x1 x2  Q := ax_met rfl rfl (Nat.le_of_ble_eq_true rfl) hb
def C_X9_rowTo (l : Launch) (g : AG) (h : AH) (x0 : Nat) (x1 : Int32)  (Q : Int32 → AH → Prop) : Prop := Ct l g mX9_rowTo 2 40 194 194 h [.ref x0, .int x1] (ax_QI Q)
def L_X9_rowTo_0 (l : Launch) (g : AG) (h : AH) (x0 : Nat) (x1 : Int32)  (Q : Int32 → AH → Prop) : Prop := Wp l g mX9_rowTo 2 40 194 194 194 0 [(0, .ref x0), (1, .int x1)] [] h (FM g 194 194 (ax_QI Q))
set_option maxRecDepth 100000 in
set_option maxHeartbeats 4000000 in
theorem s_X9_rowTo_0 {l : Launch} {g : AG} {h : AH} {x0 : Nat} {x1 : Int32}  {Q : Int32 → AH → Prop} (hb : (Is 194 x0 8) ∧ ( (Is 194 (h.2.2 x0 6) 1) ∧ ( C_X1_stands l g h (h.2.2 x0 6) (fun r5 h4 => ( ((¬ r5 = 0 → (((x1 < 0 → (C_X9_refused l g h4 x0 1 (fun r10 h9 => ( Q r10 h9)))) ∧ (¬ (x1 < 0) → ((Is 194 (h4.2.2 x0 6) 1) ∧ ( C_X1_many l g h4 (h4.2.2 x0 6) (fun r14 h13 => ( ((x1 < r14 → ((Is 194 (h13.2.2 x0 6) 1) ∧ ( (Is 194 (h13.2.2 (h13.2.2 x0 6) 2) 5) ∧ ( (Is 194 (h13.2.2 x0 8) 20) ∧ ( C_X6_traced l g h13 (h13.2.2 (h13.2.2 x0 6) 2) x1 (h13.2.2 x0 8) (fun r21 h20 => ( ∀ h22 : AH, h22 = ax_setI h20 x0 9 r21 → ( C_X9_granted l g h22 x0 (h22.1 x0 9) (fun r26 h25 => ( Q r26 h25)))))))))) ∧ (¬ (x1 < r14) → (C_X9_refused l g h13 x0 1 (fun r29 h28 => ( Q r29 h28))))))))))))) ∧ (r5 = 0 → (C_X9_refused l g h4 x0 6 (fun r32 h31 => ( Q r32 h31)))))))))) : L_X9_rowTo_0 l g h x0 x1  Q := by
  obtain ⟨i1, hb⟩ := hb
  refine wp_aload_n 0 dX9_rowTo_0 rfl rfl ?_
  obtain ⟨i2, hb⟩ := hb
  refine wp_getR dX9_rowTo_1 fl_X9_44 i1 (i2.ne (by decide)) ?_
  refine wp_callVN (as := []) dX9_rowTo_4 cb_X1_stands lk_X9_202 im_X1_stands se_X1_stands rfl (Nat.le_of_ble_eq_true rfl) ⟨by decide, by decide⟩ ⟨Nat.le_refl _, Nat.le_refl _, Nat.le_refl _⟩ i2 rfl (by decide) hb (fun r0 h4 hb => ?_)
  obtain ⟨r5, rfl, hb⟩ := hb
  refine wp_if_ne (tgt := 17) dX9_rowTo_7 (by decide) (fun c6 => ?_) (fun c6 => ?_)
  · have hb := hb.1 c6
    refine wp_iload_n 1 dX9_rowTo_17 rfl rfl ?_
    refine wp_if_lt (tgt := 32) dX9_rowTo_18 (by decide) (fun c7 => ?_) (fun c7 => ?_)
    · have hb := hb.1 c7
      refine wp_aload_n 0 dX9_rowTo_32 rfl rfl ?_
      refine wp_iconst (v := 1) dX9_rowTo_33 (by decide) ?_
      refine wp_callV (as := [.int 1]) dX9_rowTo_34 cb_X9_refused lk_X9_76 im_X9_refused se_X9_refused rfl (Nat.le_of_ble_eq_true rfl) ⟨by decide, by decide⟩ ⟨Nat.le_refl _, Nat.le_refl _, Nat.le_refl _⟩ i1 rfl (by decide) hb (fun r0 h9 hb => ?_)
      obtain ⟨r10, rfl, hb⟩ := hb
      exact wp_iret rfl dX9_rowTo_37 ⟨_, rfl, hb⟩
    · have hb := hb.2 c7
      refine wp_iload_n 1 dX9_rowTo_21 rfl rfl ?_
      refine wp_aload_n 0 dX9_rowTo_22 rfl rfl ?_
      obtain ⟨i11, hb⟩ := hb
      refine wp_getR dX9_rowTo_23 fl_X9_44 i1 (i11.ne (by decide)) ?_
      refine wp_callVN (as := []) dX9_rowTo_26 cb_X1_many lk_X9_178 im_X1_many se_X1_many rfl (Nat.le_of_ble_eq_true rfl) ⟨by decide, by decide⟩ ⟨Nat.le_refl _, Nat.le_refl _, Nat.le_refl _⟩ i11 rfl (by decide) hb (fun r0 h13 hb => ?_)
      obtain ⟨r14, rfl, hb⟩ := hb
      refine wp_icmp_lt (tgt := 38) dX9_rowTo_29 (by decide) (fun c15 => ?_) (fun c15 => ?_)
      · have hb := hb.1 c15
        refine wp_aload_n 0 dX9_rowTo_38 rfl rfl ?_
        refine wp_aload_n 0 dX9_rowTo_39 rfl rfl ?_
        obtain ⟨i16, hb⟩ := hb
        refine wp_getR dX9_rowTo_40 fl_X9_44 i1 (i16.ne (by decide)) ?_
        obtain ⟨i17, hb⟩ := hb
        refine wp_getR dX9_rowTo_43 fl_X9_181 i16 (i17.ne (by decide)) ?_
        refine wp_iload_n 1 dX9_rowTo_46 rfl rfl ?_
        refine wp_aload_n 0 dX9_rowTo_47 rfl rfl ?_
        obtain ⟨i18, hb⟩ := hb
        refine wp_getR dX9_rowTo_48 fl_X9_57 i1 (i18.ne (by decide)) ?_
        refine wp_callVN (as := [.int x1, .ref (h13.2.2 x0 8)]) dX9_rowTo_51 cb_X6_traced lk_X9_206 im_X6_traced se_X6_traced rfl (Nat.le_of_ble_eq_true rfl) ⟨by decide, by decide⟩ ⟨Nat.le_refl _, Nat.le_refl _, Nat.le_refl _⟩ i17 rfl (by decide) hb (fun r0 h20 hb => ?_)
        obtain ⟨r21, rfl, hb⟩ := hb
        refine wp_putI dX9_rowTo_54 fl_X9_60 (Or.inl rfl) i1 ?_
        refine wp_topH (fun h22 e23 => ?_)
        have hb := hb h22 e23
        refine wp_aload_n 0 dX9_rowTo_57 rfl rfl ?_
        refine wp_aload_n 0 dX9_rowTo_58 rfl rfl ?_
        refine wp_getI dX9_rowTo_59 fl_X9_60 i1 ?_
        refine wp_callV (as := [.int (h22.1 x0 9)]) dX9_rowTo_62 cb_X9_granted lk_X9_97 im_X9_granted se_X9_granted rfl (Nat.le_of_ble_eq_true rfl) ⟨by decide, by decide⟩ ⟨Nat.le_refl _, Nat.le_refl _, Nat.le_refl _⟩ i1 rfl (by decide) hb (fun r0 h25 hb => ?_)
        obtain ⟨r26, rfl, hb⟩ := hb
        exact wp_iret rfl dX9_rowTo_65 ⟨_, rfl, hb⟩
      · have hb := hb.2 c15
        refine wp_aload_n 0 dX9_rowTo_32 rfl rfl ?_
        refine wp_iconst (v := 1) dX9_rowTo_33 (by decide) ?_
        refine wp_callV (as := [.int 1]) dX9_rowTo_34 cb_X9_refused lk_X9_76 im_X9_refused se_X9_refused rfl (Nat.le_of_ble_eq_true rfl) ⟨by decide, by decide⟩ ⟨Nat.le_refl _, Nat.le_refl _, Nat.le_refl _⟩ i1 rfl (by decide) hb (fun r0 h28 hb => ?_)
        obtain ⟨r29, rfl, hb⟩ := hb
        exact wp_iret rfl dX9_rowTo_37 ⟨_, rfl, hb⟩
  · have hb := hb.2 c6
    refine wp_aload_n 0 dX9_rowTo_10 rfl rfl ?_
    refine wp_bipush (v := 6) dX9_rowTo_11 (by decide) ?_
    refine wp_callV (as := [.int 6]) dX9_rowTo_13 cb_X9_refused lk_X9_76 im_X9_refused se_X9_refused rfl (Nat.le_of_ble_eq_true rfl) ⟨by decide, by decide⟩ ⟨Nat.le_refl _, Nat.le_refl _, Nat.le_refl _⟩ i1 rfl (by decide) hb (fun r0 h31 hb => ?_)
    obtain ⟨r32, rfl, hb⟩ := hb
    exact wp_iret rfl dX9_rowTo_16 ⟨_, rfl, hb⟩
theorem c_X9_rowTo {l : Launch} {g : AG} {h : AH} {x0 : Nat} {x1 : Int32}  {Q : Int32 → AH → Prop} (hb : L_X9_rowTo_0 l g h x0 x1  Q) : C_X9_rowTo l g h x0 x1  Q := ax_met rfl rfl (Nat.le_of_ble_eq_true rfl) hb
def C_X1_firstOfFault (l : Launch) (g : AG) (h : AH) (x0 : Nat) (x1 : Int32)  (Q : Int32 → AH → Prop) : Prop := Ct l g mX1_firstOfFault 2 42 194 194 h [.ref x0, .int x1] (ax_QI Q)
def L_X1_firstOfFault_0 (l : Launch) (g : AG) (h : AH) (x0 : Nat) (x1 : Int32)  (Q : Int32 → AH → Prop) : Prop := Wp l g mX1_firstOfFault 2 42 194 194 194 0 [(0, .ref x0), (1, .int x1)] [] h (FM g 194 194 (ax_QI Q))
def L_X1_firstOfFault_2 (l : Launch) (g : AG) (h : AH) (x0 : Nat) (x1 : Int32) (x2 : Int32)  (Q : Int32 → AH → Prop) : Prop := Wp l g mX1_firstOfFault 2 42 194 194 194 2 [(0, .ref x0), (1, .int x1), (2, .int x2)] [] h (FM g 194 194 (ax_QI Q))
set_option maxRecDepth 100000 in
set_option maxHeartbeats 4000000 in
theorem s_X1_firstOfFault_0 {l : Launch} {g : AG} {h : AH} {x0 : Nat} {x1 : Int32}  {Q : Int32 → AH → Prop} (hb : L_X1_firstOfFault_2 l g h x0 x1 0  Q) : L_X1_firstOfFault_0 l g h x0 x1  Q := by
  refine wp_iconst (v := 0) dX1_firstOfFault_0 (by decide) ?_
  refine wp_istore_n (lv2 := [(2, .int 0), (0, .ref x0), (1, .int x1)]) dX1_firstOfFault_1 rfl (by decide) rfl ?_
  exact wp_sub [1, 2, 0] rfl hb
set_option maxRecDepth 100000 in
set_option maxHeartbeats 4000000 in
theorem s_X1_firstOfFault_2 {l : Launch} {g : AG} {h : AH} {x0 : Nat} {x1 : Int32} {x2 : Int32}  {Q : Int32 → AH → Prop} (hb : (Is 194 x0 1) ∧ ( (Is 194 (h.2.2 x0 2) 5) ∧ ( ((h.1 (h.2.2 x0 2) 0 ≤ x2 → (Q (-2) h)) ∧ (¬ (h.1 (h.2.2 x0 2) 0 ≤ x2) → ((Is 194 (h.2.2 x0 2) 5) ∧ ( (Is 194 (h.2.2 (h.2.2 x0 2) 1) 21) ∧ ( (vp_in x2 (ax_s (h.2.2 (h.2.2 x0 2) 1)).2) ∧ ( C_X3_faultOf l g h (h.2.1 (h.2.2 (h.2.2 x0 2) 1) x2.toNatClampNeg) (fun r9 h8 => ( ((¬ r9 = x1 → (∀ v11 : Int32, v11 = x2 + (1) → ( L_X1_firstOfFault_2 l g h8 x0 x1 v11  Q))) ∧ (r9 = x1 → (Q x2 h8)))))))))))))) : L_X1_firstOfFault_2 l g h x0 x1 x2  Q := by
  refine wp_iload_n 2 dX1_firstOfFault_2 rfl rfl ?_
  obtain ⟨i1, hb⟩ := hb
  refine wp_aload_n 0 dX1_firstOfFault_3 rfl rfl ?_
  obtain ⟨i2, hb⟩ := hb
  refine wp_getR dX1_firstOfFault_4 fl_X1_18 i1 (i2.ne (by decide)) ?_
  refine wp_getI dX1_firstOfFault_7 fl_X1_50 i2 ?_
  refine wp_icmp_ge (tgt := 37) dX1_firstOfFault_10 (by decide) (fun c3 => ?_) (fun c3 => ?_)
  · have hb := hb.1 c3
    refine wp_bipush (v := (-2)) dX1_firstOfFault_37 (by decide) ?_
    exact wp_iret rfl dX1_firstOfFault_39 ⟨_, rfl, hb⟩
  · have hb := hb.2 c3
    refine wp_aload_n 0 dX1_firstOfFault_13 rfl rfl ?_
    obtain ⟨i4, hb⟩ := hb
    refine wp_getR dX1_firstOfFault_14 fl_X1_18 i1 (i4.ne (by decide)) ?_
    obtain ⟨i5, hb⟩ := hb
    refine wp_getR dX1_firstOfFault_17 fl_X1_73 i4 (i5.ne (by decide)) ?_
    refine wp_iload_n 2 dX1_firstOfFault_20 rfl rfl ?_
    obtain ⟨b6, hb⟩ := hb
    refine wp_laload dX1_firstOfFault_21 i5 b6 ?_
    refine wp_callSN (as := [.long (h.2.1 (h.2.2 (h.2.2 x0 2) 1) x2.toNatClampNeg)]) dX1_firstOfFault_22 cb_X3_faultOf lk_X1_98 st_X3_faultOf rfl (Nat.le_of_ble_eq_true rfl) ⟨by decide, by decide⟩ ⟨Nat.le_refl _, Nat.le_refl _, Nat.le_refl _⟩ hb (fun r0 h8 hb => ?_)
    obtain ⟨r9, rfl, hb⟩ := hb
    refine wp_iload_n 1 dX1_firstOfFault_25 rfl rfl ?_
    refine wp_icmp_ne (tgt := 31) dX1_firstOfFault_26 (by decide) (fun c10 => ?_) (fun c10 => ?_)
    · have hb := hb.1 c10
      obtain ⟨v11, e12⟩ : ∃ y : Int32, y = x2 + (1) := ⟨_, rfl⟩
      have hb := hb v11 e12
      refine wp_iinc (v := v11) (lv2 := [(2, .int v11), (0, .ref x0), (1, .int x1)]) 2 dX1_firstOfFault_31 rfl (by rw [e12]; rfl) (by decide) rfl ?_
      refine wp_goto (tgt := 2) dX1_firstOfFault_34 (by decide) ?_
      exact wp_sub [1, 2, 0] rfl hb
    · have hb := hb.2 c10
      refine wp_iload_n 2 dX1_firstOfFault_29 rfl rfl ?_
      exact wp_iret rfl dX1_firstOfFault_30 ⟨_, rfl, hb⟩
theorem c_X1_firstOfFault {l : Launch} {g : AG} {h : AH} {x0 : Nat} {x1 : Int32}  {Q : Int32 → AH → Prop} (hb : L_X1_firstOfFault_0 l g h x0 x1  Q) : C_X1_firstOfFault l g h x0 x1  Q := ax_met rfl rfl (Nat.le_of_ble_eq_true rfl) hb
def C_X9_faultAt (l : Launch) (g : AG) (h : AH) (x0 : Nat) (x1 : Int32)  (Q : Int32 → AH → Prop) : Prop := Ct l g mX9_faultAt 3 64 194 194 h [.ref x0, .int x1] (ax_QI Q)
def L_X9_faultAt_0 (l : Launch) (g : AG) (h : AH) (x0 : Nat) (x1 : Int32)  (Q : Int32 → AH → Prop) : Prop := Wp l g mX9_faultAt 3 64 194 194 194 0 [(0, .ref x0), (1, .int x1)] [] h (FM g 194 194 (ax_QI Q))
set_option maxRecDepth 100000 in
set_option maxHeartbeats 4000000 in
theorem s_X9_faultAt_0 {l : Launch} {g : AG} {h : AH} {x0 : Nat} {x1 : Int32}  {Q : Int32 → AH → Prop} (hb : (Is 194 x0 8) ∧ ( (Is 194 (h.2.2 x0 6) 1) ∧ ( C_X1_stands l g h (h.2.2 x0 6) (fun r5 h4 => ( ((¬ r5 = 0 → (((x1 < 1 → (C_X9_refused l g h4 x0 2 (fun r10 h9 => ( Q r10 h9)))) ∧ (¬ (x1 < 1) → (((x1 ≤ 20 → ((Is 194 (h4.2.2 x0 6) 1) ∧ ( C_X1_firstOfFault l g h4 (h4.2.2 x0 6) x1 (fun r15 h14 => ( C_X9_granted l g h14 x0 r15 (fun r18 h17 => ( Q r18 h17))))))) ∧ (¬ (x1 ≤ 20) → (C_X9_refused l g h4 x0 2 (fun r21 h20 => ( Q r21 h20)))))))))) ∧ (r5 = 0 → (C_X9_refused l g h4 x0 6 (fun r24 h23 => ( Q r24 h23)))))))))) : L_X9_faultAt_0 l g h x0 x1  Q := by
  obtain ⟨i1, hb⟩ := hb
  refine wp_aload_n 0 dX9_faultAt_0 rfl rfl ?_
  obtain ⟨i2, hb⟩ := hb
  refine wp_getR dX9_faultAt_1 fl_X9_44 i1 (i2.ne (by decide)) ?_
  refine wp_callVN (as := []) dX9_faultAt_4 cb_X1_stands lk_X9_202 im_X1_stands se_X1_stands rfl (Nat.le_of_ble_eq_true rfl) ⟨by decide, by decide⟩ ⟨Nat.le_refl _, Nat.le_refl _, Nat.le_refl _⟩ i2 rfl (by decide) hb (fun r0 h4 hb => ?_)
  obtain ⟨r5, rfl, hb⟩ := hb
  refine wp_if_ne (tgt := 17) dX9_faultAt_7 (by decide) (fun c6 => ?_) (fun c6 => ?_)
  · have hb := hb.1 c6
    refine wp_iload_n 1 dX9_faultAt_17 rfl rfl ?_
    refine wp_iconst (v := 1) dX9_faultAt_18 (by decide) ?_
    refine wp_icmp_lt (tgt := 28) dX9_faultAt_19 (by decide) (fun c7 => ?_) (fun c7 => ?_)
    · have hb := hb.1 c7
      refine wp_aload_n 0 dX9_faultAt_28 rfl rfl ?_
      refine wp_iconst (v := 2) dX9_faultAt_29 (by decide) ?_
      refine wp_callV (as := [.int 2]) dX9_faultAt_30 cb_X9_refused lk_X9_76 im_X9_refused se_X9_refused rfl (Nat.le_of_ble_eq_true rfl) ⟨by decide, by decide⟩ ⟨Nat.le_refl _, Nat.le_refl _, Nat.le_refl _⟩ i1 rfl (by decide) hb (fun r0 h9 hb => ?_)
      obtain ⟨r10, rfl, hb⟩ := hb
      exact wp_iret rfl dX9_faultAt_33 ⟨_, rfl, hb⟩
    · have hb := hb.2 c7
      refine wp_iload_n 1 dX9_faultAt_22 rfl rfl ?_
      refine wp_bipush (v := 20) dX9_faultAt_23 (by decide) ?_
      refine wp_icmp_le (tgt := 34) dX9_faultAt_25 (by decide) (fun c11 => ?_) (fun c11 => ?_)
      · have hb := hb.1 c11
        refine wp_aload_n 0 dX9_faultAt_34 rfl rfl ?_
        refine wp_aload_n 0 dX9_faultAt_35 rfl rfl ?_
        obtain ⟨i12, hb⟩ := hb
        refine wp_getR dX9_faultAt_36 fl_X9_44 i1 (i12.ne (by decide)) ?_
        refine wp_iload_n 1 dX9_faultAt_39 rfl rfl ?_
        refine wp_callVN (as := [.int x1]) dX9_faultAt_40 cb_X1_firstOfFault lk_X9_210 im_X1_firstOfFault se_X1_firstOfFault rfl (Nat.le_of_ble_eq_true rfl) ⟨by decide, by decide⟩ ⟨Nat.le_refl _, Nat.le_refl _, Nat.le_refl _⟩ i12 rfl (by decide) hb (fun r0 h14 hb => ?_)
        obtain ⟨r15, rfl, hb⟩ := hb
        refine wp_callV (as := [.int r15]) dX9_faultAt_43 cb_X9_granted lk_X9_97 im_X9_granted se_X9_granted rfl (Nat.le_of_ble_eq_true rfl) ⟨by decide, by decide⟩ ⟨Nat.le_refl _, Nat.le_refl _, Nat.le_refl _⟩ i1 rfl (by decide) hb (fun r0 h17 hb => ?_)
        obtain ⟨r18, rfl, hb⟩ := hb
        exact wp_iret rfl dX9_faultAt_46 ⟨_, rfl, hb⟩
      · have hb := hb.2 c11
        refine wp_aload_n 0 dX9_faultAt_28 rfl rfl ?_
        refine wp_iconst (v := 2) dX9_faultAt_29 (by decide) ?_
        refine wp_callV (as := [.int 2]) dX9_faultAt_30 cb_X9_refused lk_X9_76 im_X9_refused se_X9_refused rfl (Nat.le_of_ble_eq_true rfl) ⟨by decide, by decide⟩ ⟨Nat.le_refl _, Nat.le_refl _, Nat.le_refl _⟩ i1 rfl (by decide) hb (fun r0 h20 hb => ?_)
        obtain ⟨r21, rfl, hb⟩ := hb
        exact wp_iret rfl dX9_faultAt_33 ⟨_, rfl, hb⟩
  · have hb := hb.2 c6
    refine wp_aload_n 0 dX9_faultAt_10 rfl rfl ?_
    refine wp_bipush (v := 6) dX9_faultAt_11 (by decide) ?_
    refine wp_callV (as := [.int 6]) dX9_faultAt_13 cb_X9_refused lk_X9_76 im_X9_refused se_X9_refused rfl (Nat.le_of_ble_eq_true rfl) ⟨by decide, by decide⟩ ⟨Nat.le_refl _, Nat.le_refl _, Nat.le_refl _⟩ i1 rfl (by decide) hb (fun r0 h23 hb => ?_)
    obtain ⟨r24, rfl, hb⟩ := hb
    exact wp_iret rfl dX9_faultAt_16 ⟨_, rfl, hb⟩
theorem c_X9_faultAt {l : Launch} {g : AG} {h : AH} {x0 : Nat} {x1 : Int32}  {Q : Int32 → AH → Prop} (hb : L_X9_faultAt_0 l g h x0 x1  Q) : C_X9_faultAt l g h x0 x1  Q := ax_met rfl rfl (Nat.le_of_ble_eq_true rfl) hb
def C_X1_firstOfPressed (l : Launch) (g : AG) (h : AH) (x0 : Nat) (x1 : Int32)  (Q : Int32 → AH → Prop) : Prop := Ct l g mX1_firstOfPressed 0 0 194 194 h [.ref x0, .int x1] (ax_QI Q)
def L_X1_firstOfPressed_0 (l : Launch) (g : AG) (h : AH) (x0 : Nat) (x1 : Int32)  (Q : Int32 → AH → Prop) : Prop := Wp l g mX1_firstOfPressed 0 0 194 194 194 0 [(0, .ref x0), (1, .int x1)] [] h (FM g 194 194 (ax_QI Q))
def L_X1_firstOfPressed_2 (l : Launch) (g : AG) (h : AH) (x0 : Nat) (x1 : Int32) (x2 : Int32)  (Q : Int32 → AH → Prop) : Prop := Wp l g mX1_firstOfPressed 0 0 194 194 194 2 [(0, .ref x0), (1, .int x1), (2, .int x2)] [] h (FM g 194 194 (ax_QI Q))
set_option maxRecDepth 100000 in
set_option maxHeartbeats 4000000 in
theorem s_X1_firstOfPressed_0 {l : Launch} {g : AG} {h : AH} {x0 : Nat} {x1 : Int32}  {Q : Int32 → AH → Prop} (hb : L_X1_firstOfPressed_2 l g h x0 x1 0  Q) : L_X1_firstOfPressed_0 l g h x0 x1  Q := by
  refine wp_iconst (v := 0) dX1_firstOfPressed_0 (by decide) ?_
  refine wp_istore_n (lv2 := [(2, .int 0), (0, .ref x0), (1, .int x1)]) dX1_firstOfPressed_1 rfl (by decide) rfl ?_
  exact wp_sub [1, 2, 0] rfl hb
set_option maxRecDepth 100000 in
set_option maxHeartbeats 4000000 in
theorem s_X1_firstOfPressed_2 {l : Launch} {g : AG} {h : AH} {x0 : Nat} {x1 : Int32} {x2 : Int32}  {Q : Int32 → AH → Prop} (hb : (Is 194 x0 1) ∧ ( (Is 194 (h.2.2 x0 2) 5) ∧ ( ((h.1 (h.2.2 x0 2) 0 ≤ x2 → (Q (-2) h)) ∧ (¬ (h.1 (h.2.2 x0 2) 0 ≤ x2) → ((Is 194 (h.2.2 x0 3) 20) ∧ ( (vp_in ((x2 * 27) + x1) (ax_s (h.2.2 x0 3)).2) ∧ ( ((h.1 (h.2.2 x0 3) ((x2 * 27) + x1).toNatClampNeg < 0 → (∀ v7 : Int32, v7 = x2 + (1) → ( L_X1_firstOfPressed_2 l g h x0 x1 v7  Q))) ∧ (¬ (h.1 (h.2.2 x0 3) ((x2 * 27) + x1).toNatClampNeg < 0) → (Q x2 h))))))))))) : L_X1_firstOfPressed_2 l g h x0 x1 x2  Q := by
  refine wp_iload_n 2 dX1_firstOfPressed_2 rfl rfl ?_
  obtain ⟨i1, hb⟩ := hb
  refine wp_aload_n 0 dX1_firstOfPressed_3 rfl rfl ?_
  obtain ⟨i2, hb⟩ := hb
  refine wp_getR dX1_firstOfPressed_4 fl_X1_18 i1 (i2.ne (by decide)) ?_
  refine wp_getI dX1_firstOfPressed_7 fl_X1_50 i2 ?_
  refine wp_icmp_ge (tgt := 35) dX1_firstOfPressed_10 (by decide) (fun c3 => ?_) (fun c3 => ?_)
  · have hb := hb.1 c3
    refine wp_bipush (v := (-2)) dX1_firstOfPressed_35 (by decide) ?_
    exact wp_iret rfl dX1_firstOfPressed_37 ⟨_, rfl, hb⟩
  · have hb := hb.2 c3
    refine wp_aload_n 0 dX1_firstOfPressed_13 rfl rfl ?_
    obtain ⟨i4, hb⟩ := hb
    refine wp_getR dX1_firstOfPressed_14 fl_X1_22 i1 (i4.ne (by decide)) ?_
    refine wp_iload_n 2 dX1_firstOfPressed_17 rfl rfl ?_
    refine wp_bipush (v := 27) dX1_firstOfPressed_18 (by decide) ?_
    refine wp_imul dX1_firstOfPressed_20 ?_
    refine wp_iload_n 1 dX1_firstOfPressed_21 rfl rfl ?_
    refine wp_iadd dX1_firstOfPressed_22 ?_
    obtain ⟨b5, hb⟩ := hb
    refine wp_iaload dX1_firstOfPressed_23 i4 b5 ?_
    refine wp_if_lt (tgt := 29) dX1_firstOfPressed_24 (by decide) (fun c6 => ?_) (fun c6 => ?_)
    · have hb := hb.1 c6
      obtain ⟨v7, e8⟩ : ∃ y : Int32, y = x2 + (1) := ⟨_, rfl⟩
      have hb := hb v7 e8
      refine wp_iinc (v := v7) (lv2 := [(2, .int v7), (0, .ref x0), (1, .int x1)]) 2 dX1_firstOfPressed_29 rfl (by rw [e8]; rfl) (by decide) rfl ?_
      refine wp_goto (tgt := 2) dX1_firstOfPressed_32 (by decide) ?_
      exact wp_sub [1, 2, 0] rfl hb
    · have hb := hb.2 c6
      refine wp_iload_n 2 dX1_firstOfPressed_27 rfl rfl ?_
      exact wp_iret rfl dX1_firstOfPressed_28 ⟨_, rfl, hb⟩
theorem c_X1_firstOfPressed {l : Launch} {g : AG} {h : AH} {x0 : Nat} {x1 : Int32}  {Q : Int32 → AH → Prop} (hb : L_X1_firstOfPressed_0 l g h x0 x1  Q) : C_X1_firstOfPressed l g h x0 x1  Q := ax_met rfl rfl (Nat.le_of_ble_eq_true rfl) hb
def C_X9_pressedAt (l : Launch) (g : AG) (h : AH) (x0 : Nat) (x1 : Int32)  (Q : Int32 → AH → Prop) : Prop := Ct l g mX9_pressedAt 1 22 194 194 h [.ref x0, .int x1] (ax_QI Q)
def L_X9_pressedAt_0 (l : Launch) (g : AG) (h : AH) (x0 : Nat) (x1 : Int32)  (Q : Int32 → AH → Prop) : Prop := Wp l g mX9_pressedAt 1 22 194 194 194 0 [(0, .ref x0), (1, .int x1)] [] h (FM g 194 194 (ax_QI Q))
set_option maxRecDepth 100000 in
set_option maxHeartbeats 4000000 in
theorem s_X9_pressedAt_0 {l : Launch} {g : AG} {h : AH} {x0 : Nat} {x1 : Int32}  {Q : Int32 → AH → Prop} (hb : (Is 194 x0 8) ∧ ( (Is 194 (h.2.2 x0 6) 1) ∧ ( C_X1_stands l g h (h.2.2 x0 6) (fun r5 h4 => ( ((¬ r5 = 0 → (((x1 < 0 → (C_X9_refused l g h4 x0 1 (fun r10 h9 => ( Q r10 h9)))) ∧ (¬ (x1 < 0) → ((Is 194 (h4.2.2 x0 6) 1) ∧ ( (Is 194 (h4.2.2 (h4.2.2 x0 6) 1) 0) ∧ ( ((x1 < h4.1 (h4.2.2 (h4.2.2 x0 6) 1) 1 → ((Is 194 (h4.2.2 x0 6) 1) ∧ ( C_X1_firstOfPressed l g h4 (h4.2.2 x0 6) x1 (fun r17 h16 => ( C_X9_granted l g h16 x0 r17 (fun r20 h19 => ( Q r20 h19))))))) ∧ (¬ (x1 < h4.1 (h4.2.2 (h4.2.2 x0 6) 1) 1) → (C_X9_refused l g h4 x0 1 (fun r23 h22 => ( Q r23 h22)))))))))))) ∧ (r5 = 0 → (C_X9_refused l g h4 x0 6 (fun r26 h25 => ( Q r26 h25)))))))))) : L_X9_pressedAt_0 l g h x0 x1  Q := by
  obtain ⟨i1, hb⟩ := hb
  refine wp_aload_n 0 dX9_pressedAt_0 rfl rfl ?_
  obtain ⟨i2, hb⟩ := hb
  refine wp_getR dX9_pressedAt_1 fl_X9_44 i1 (i2.ne (by decide)) ?_
  refine wp_callVN (as := []) dX9_pressedAt_4 cb_X1_stands lk_X9_202 im_X1_stands se_X1_stands rfl (Nat.le_of_ble_eq_true rfl) ⟨by decide, by decide⟩ ⟨Nat.le_refl _, Nat.le_refl _, Nat.le_refl _⟩ i2 rfl (by decide) hb (fun r0 h4 hb => ?_)
  obtain ⟨r5, rfl, hb⟩ := hb
  refine wp_if_ne (tgt := 17) dX9_pressedAt_7 (by decide) (fun c6 => ?_) (fun c6 => ?_)
  · have hb := hb.1 c6
    refine wp_iload_n 1 dX9_pressedAt_17 rfl rfl ?_
    refine wp_if_lt (tgt := 35) dX9_pressedAt_18 (by decide) (fun c7 => ?_) (fun c7 => ?_)
    · have hb := hb.1 c7
      refine wp_aload_n 0 dX9_pressedAt_35 rfl rfl ?_
      refine wp_iconst (v := 1) dX9_pressedAt_36 (by decide) ?_
      refine wp_callV (as := [.int 1]) dX9_pressedAt_37 cb_X9_refused lk_X9_76 im_X9_refused se_X9_refused rfl (Nat.le_of_ble_eq_true rfl) ⟨by decide, by decide⟩ ⟨Nat.le_refl _, Nat.le_refl _, Nat.le_refl _⟩ i1 rfl (by decide) hb (fun r0 h9 hb => ?_)
      obtain ⟨r10, rfl, hb⟩ := hb
      exact wp_iret rfl dX9_pressedAt_40 ⟨_, rfl, hb⟩
    · have hb := hb.2 c7
      refine wp_iload_n 1 dX9_pressedAt_21 rfl rfl ?_
      refine wp_aload_n 0 dX9_pressedAt_22 rfl rfl ?_
      obtain ⟨i11, hb⟩ := hb
      refine wp_getR dX9_pressedAt_23 fl_X9_44 i1 (i11.ne (by decide)) ?_
      obtain ⟨i12, hb⟩ := hb
      refine wp_getR dX9_pressedAt_26 fl_X9_213 i11 (i12.ne (by decide)) ?_
      refine wp_getI dX9_pressedAt_29 fl_X9_110 i12 ?_
      refine wp_icmp_lt (tgt := 41) dX9_pressedAt_32 (by decide) (fun c13 => ?_) (fun c13 => ?_)
      · have hb := hb.1 c13
        refine wp_aload_n 0 dX9_pressedAt_41 rfl rfl ?_
        refine wp_aload_n 0 dX9_pressedAt_42 rfl rfl ?_
        obtain ⟨i14, hb⟩ := hb
        refine wp_getR dX9_pressedAt_43 fl_X9_44 i1 (i14.ne (by decide)) ?_
        refine wp_iload_n 1 dX9_pressedAt_46 rfl rfl ?_
        refine wp_callVN (as := [.int x1]) dX9_pressedAt_47 cb_X1_firstOfPressed lk_X9_216 im_X1_firstOfPressed se_X1_firstOfPressed rfl (Nat.le_of_ble_eq_true rfl) ⟨by decide, by decide⟩ ⟨Nat.le_refl _, Nat.le_refl _, Nat.le_refl _⟩ i14 rfl (by decide) hb (fun r0 h16 hb => ?_)
        obtain ⟨r17, rfl, hb⟩ := hb
        refine wp_callV (as := [.int r17]) dX9_pressedAt_50 cb_X9_granted lk_X9_97 im_X9_granted se_X9_granted rfl (Nat.le_of_ble_eq_true rfl) ⟨by decide, by decide⟩ ⟨Nat.le_refl _, Nat.le_refl _, Nat.le_refl _⟩ i1 rfl (by decide) hb (fun r0 h19 hb => ?_)
        obtain ⟨r20, rfl, hb⟩ := hb
        exact wp_iret rfl dX9_pressedAt_53 ⟨_, rfl, hb⟩
      · have hb := hb.2 c13
        refine wp_aload_n 0 dX9_pressedAt_35 rfl rfl ?_
        refine wp_iconst (v := 1) dX9_pressedAt_36 (by decide) ?_
        refine wp_callV (as := [.int 1]) dX9_pressedAt_37 cb_X9_refused lk_X9_76 im_X9_refused se_X9_refused rfl (Nat.le_of_ble_eq_true rfl) ⟨by decide, by decide⟩ ⟨Nat.le_refl _, Nat.le_refl _, Nat.le_refl _⟩ i1 rfl (by decide) hb (fun r0 h22 hb => ?_)
        obtain ⟨r23, rfl, hb⟩ := hb
        exact wp_iret rfl dX9_pressedAt_40 ⟨_, rfl, hb⟩
  · have hb := hb.2 c6
    refine wp_aload_n 0 dX9_pressedAt_10 rfl rfl ?_
    refine wp_bipush (v := 6) dX9_pressedAt_11 (by decide) ?_
    refine wp_callV (as := [.int 6]) dX9_pressedAt_13 cb_X9_refused lk_X9_76 im_X9_refused se_X9_refused rfl (Nat.le_of_ble_eq_true rfl) ⟨by decide, by decide⟩ ⟨Nat.le_refl _, Nat.le_refl _, Nat.le_refl _⟩ i1 rfl (by decide) hb (fun r0 h25 hb => ?_)
    obtain ⟨r26, rfl, hb⟩ := hb
    exact wp_iret rfl dX9_pressedAt_16 ⟨_, rfl, hb⟩
theorem c_X9_pressedAt {l : Launch} {g : AG} {h : AH} {x0 : Nat} {x1 : Int32}  {Q : Int32 → AH → Prop} (hb : L_X9_pressedAt_0 l g h x0 x1  Q) : C_X9_pressedAt l g h x0 x1  Q := ax_met rfl rfl (Nat.le_of_ble_eq_true rfl) hb
def C_X1_neverMany (l : Launch) (g : AG) (h : AH) (x0 : Nat)  (Q : Int32 → AH → Prop) : Prop := Ct l g mX1_neverMany 1 22 194 194 h [.ref x0] (ax_QI Q)
def L_X1_neverMany_0 (l : Launch) (g : AG) (h : AH) (x0 : Nat)  (Q : Int32 → AH → Prop) : Prop := Wp l g mX1_neverMany 1 22 194 194 194 0 [(0, .ref x0)] [] h (FM g 194 194 (ax_QI Q))
def L_X1_neverMany_4 (l : Launch) (g : AG) (h : AH) (x0 : Nat) (x1 : Int32) (x2 : Int32)  (Q : Int32 → AH → Prop) : Prop := Wp l g mX1_neverMany 1 22 194 194 194 4 [(0, .ref x0), (1, .int x1), (2, .int x2)] [] h (FM g 194 194 (ax_QI Q))
set_option maxRecDepth 100000 in
set_option maxHeartbeats 4000000 in
theorem s_X1_neverMany_0 {l : Launch} {g : AG} {h : AH} {x0 : Nat}  {Q : Int32 → AH → Prop} (hb : L_X1_neverMany_4 l g h x0 0 0  Q) : L_X1_neverMany_0 l g h x0  Q := by
  refine wp_iconst (v := 0) dX1_neverMany_0 (by decide) ?_
  refine wp_istore_n (lv2 := [(1, .int 0), (0, .ref x0)]) dX1_neverMany_1 rfl (by decide) rfl ?_
  refine wp_iconst (v := 0) dX1_neverMany_2 (by decide) ?_
  refine wp_istore_n (lv2 := [(2, .int 0), (1, .int 0), (0, .ref x0)]) dX1_neverMany_3 rfl (by decide) rfl ?_
  exact wp_sub [2, 1, 0] rfl hb
set_option maxRecDepth 100000 in
set_option maxHeartbeats 4000000 in
theorem s_X1_neverMany_4 {l : Launch} {g : AG} {h : AH} {x0 : Nat} {x1 : Int32} {x2 : Int32}  {Q : Int32 → AH → Prop} (hb : (Is 194 x0 1) ∧ ( (Is 194 (h.2.2 x0 1) 0) ∧ ( ((h.1 (h.2.2 x0 1) 1 ≤ x2 → (Q x1 h)) ∧ (¬ (h.1 (h.2.2 x0 1) 1 ≤ x2) → (C_X1_firstOfPressed l g h x0 x2 (fun r6 h5 => ( ((¬ r6 = (-2) → (∀ v8 : Int32, v8 = x2 + (1) → ( L_X1_neverMany_4 l g h5 x0 x1 v8  Q))) ∧ (r6 = (-2) → (∀ v10 : Int32, v10 = x1 + (1) → ( ∀ v12 : Int32, v12 = x2 + (1) → ( L_X1_neverMany_4 l g h5 x0 v10 v12  Q))))))))))))) : L_X1_neverMany_4 l g h x0 x1 x2  Q := by
  refine wp_iload_n 2 dX1_neverMany_4 rfl rfl ?_
  obtain ⟨i1, hb⟩ := hb
  refine wp_aload_n 0 dX1_neverMany_5 rfl rfl ?_
  obtain ⟨i2, hb⟩ := hb
  refine wp_getR dX1_neverMany_6 fl_X1_42 i1 (i2.ne (by decide)) ?_
  refine wp_getI dX1_neverMany_9 fl_X1_104 i2 ?_
  refine wp_icmp_ge (tgt := 34) dX1_neverMany_12 (by decide) (fun c3 => ?_) (fun c3 => ?_)
  · have hb := hb.1 c3
    refine wp_iload_n 1 dX1_neverMany_34 rfl rfl ?_
    exact wp_iret rfl dX1_neverMany_35 ⟨_, rfl, hb⟩
  · have hb := hb.2 c3
    refine wp_aload_n 0 dX1_neverMany_15 rfl rfl ?_
    refine wp_iload_n 2 dX1_neverMany_16 rfl rfl ?_
    refine wp_callV (as := [.int x2]) dX1_neverMany_17 cb_X1_firstOfPressed lk_X1_107 im_X1_firstOfPressed se_X1_firstOfPressed rfl (Nat.le_of_ble_eq_true rfl) ⟨by decide, by decide⟩ ⟨Nat.le_refl _, Nat.le_refl _, Nat.le_refl _⟩ i1 rfl (by decide) hb (fun r0 h5 hb => ?_)
    obtain ⟨r6, rfl, hb⟩ := hb
    refine wp_bipush (v := (-2)) dX1_neverMany_20 (by decide) ?_
    refine wp_icmp_ne (tgt := 28) dX1_neverMany_22 (by decide) (fun c7 => ?_) (fun c7 => ?_)
    · have hb := hb.1 c7
      obtain ⟨v8, e9⟩ : ∃ y : Int32, y = x2 + (1) := ⟨_, rfl⟩
      have hb := hb v8 e9
      refine wp_iinc (v := v8) (lv2 := [(2, .int v8), (0, .ref x0), (1, .int x1)]) 2 dX1_neverMany_28 rfl (by rw [e9]; rfl) (by decide) rfl ?_
      refine wp_goto (tgt := 4) dX1_neverMany_31 (by decide) ?_
      exact wp_sub [1, 2, 0] rfl hb
    · have hb := hb.2 c7
      obtain ⟨v10, e11⟩ : ∃ y : Int32, y = x1 + (1) := ⟨_, rfl⟩
      have hb := hb v10 e11
      refine wp_iinc (v := v10) (lv2 := [(1, .int v10), (0, .ref x0), (2, .int x2)]) 1 dX1_neverMany_25 rfl (by rw [e11]; rfl) (by decide) rfl ?_
      obtain ⟨v12, e13⟩ : ∃ y : Int32, y = x2 + (1) := ⟨_, rfl⟩
      have hb := hb v12 e13
      refine wp_iinc (v := v12) (lv2 := [(2, .int v12), (1, .int v10), (0, .ref x0)]) 2 dX1_neverMany_28 rfl (by rw [e13]; rfl) (by decide) rfl ?_
      refine wp_goto (tgt := 4) dX1_neverMany_31 (by decide) ?_
      exact wp_sub [2, 1, 0] rfl hb
theorem c_X1_neverMany {l : Launch} {g : AG} {h : AH} {x0 : Nat}  {Q : Int32 → AH → Prop} (hb : L_X1_neverMany_0 l g h x0  Q) : C_X1_neverMany l g h x0  Q := ax_met rfl rfl (Nat.le_of_ble_eq_true rfl) hb
def C_X9_never (l : Launch) (g : AG) (h : AH) (x0 : Nat)  (Q : Int32 → AH → Prop) : Prop := Ct l g mX9_never 2 44 194 194 h [.ref x0] (ax_QI Q)
def L_X9_never_0 (l : Launch) (g : AG) (h : AH) (x0 : Nat)  (Q : Int32 → AH → Prop) : Prop := Wp l g mX9_never 2 44 194 194 194 0 [(0, .ref x0)] [] h (FM g 194 194 (ax_QI Q))
set_option maxRecDepth 100000 in
set_option maxHeartbeats 4000000 in
theorem s_X9_never_0 {l : Launch} {g : AG} {h : AH} {x0 : Nat}  {Q : Int32 → AH → Prop} (hb : (Is 194 x0 8) ∧ ( (Is 194 (h.2.2 x0 6) 1) ∧ ( C_X1_stands l g h (h.2.2 x0 6) (fun r5 h4 => ( ((r5 = 0 → (C_X9_refused l g h4 x0 6 (fun r9 h8 => ( Q r9 h8)))) ∧ (¬ (r5 = 0) → ((Is 194 (h4.2.2 x0 6) 1) ∧ ( C_X1_neverMany l g h4 (h4.2.2 x0 6) (fun r13 h12 => ( C_X9_granted l g h12 x0 r13 (fun r16 h15 => ( Q r16 h15))))))))))))) : L_X9_never_0 l g h x0  Q := by
  obtain ⟨i1, hb⟩ := hb
  refine wp_aload_n 0 dX9_never_0 rfl rfl ?_
  obtain ⟨i2, hb⟩ := hb
  refine wp_getR dX9_never_1 fl_X9_44 i1 (i2.ne (by decide)) ?_
  refine wp_callVN (as := []) dX9_never_4 cb_X1_stands lk_X9_202 im_X1_stands se_X1_stands rfl (Nat.le_of_ble_eq_true rfl) ⟨by decide, by decide⟩ ⟨Nat.le_refl _, Nat.le_refl _, Nat.le_refl _⟩ i2 rfl (by decide) hb (fun r0 h4 hb => ?_)
  obtain ⟨r5, rfl, hb⟩ := hb
  refine wp_if_eq (tgt := 24) dX9_never_7 (by decide) (fun c6 => ?_) (fun c6 => ?_)
  · have hb := hb.1 c6
    refine wp_aload_n 0 dX9_never_24 rfl rfl ?_
    refine wp_bipush (v := 6) dX9_never_25 (by decide) ?_
    refine wp_callV (as := [.int 6]) dX9_never_27 cb_X9_refused lk_X9_76 im_X9_refused se_X9_refused rfl (Nat.le_of_ble_eq_true rfl) ⟨by decide, by decide⟩ ⟨Nat.le_refl _, Nat.le_refl _, Nat.le_refl _⟩ i1 rfl (by decide) hb (fun r0 h8 hb => ?_)
    obtain ⟨r9, rfl, hb⟩ := hb
    exact wp_iret rfl dX9_never_30 ⟨_, rfl, hb⟩
  · have hb := hb.2 c6
    refine wp_aload_n 0 dX9_never_10 rfl rfl ?_
    refine wp_aload_n 0 dX9_never_11 rfl rfl ?_
    obtain ⟨i10, hb⟩ := hb
    refine wp_getR dX9_never_12 fl_X9_44 i1 (i10.ne (by decide)) ?_
    refine wp_callVN (as := []) dX9_never_15 cb_X1_neverMany lk_X9_219 im_X1_neverMany se_X1_neverMany rfl (Nat.le_of_ble_eq_true rfl) ⟨by decide, by decide⟩ ⟨Nat.le_refl _, Nat.le_refl _, Nat.le_refl _⟩ i10 rfl (by decide) hb (fun r0 h12 hb => ?_)
    obtain ⟨r13, rfl, hb⟩ := hb
    refine wp_callV (as := [.int r13]) dX9_never_18 cb_X9_granted lk_X9_97 im_X9_granted se_X9_granted rfl (Nat.le_of_ble_eq_true rfl) ⟨by decide, by decide⟩ ⟨Nat.le_refl _, Nat.le_refl _, Nat.le_refl _⟩ i1 rfl (by decide) hb (fun r0 h15 hb => ?_)
    obtain ⟨r16, rfl, hb⟩ := hb
    refine wp_goto (tgt := 30) dX9_never_21 (by decide) ?_
    exact wp_iret rfl dX9_never_30 ⟨_, rfl, hb⟩
theorem c_X9_never {l : Launch} {g : AG} {h : AH} {x0 : Nat}  {Q : Int32 → AH → Prop} (hb : L_X9_never_0 l g h x0  Q) : C_X9_never l g h x0  Q := ax_met rfl rfl (Nat.le_of_ble_eq_true rfl) hb
def C_X1_firstOfValue (l : Launch) (g : AG) (h : AH) (x0 : Nat) (x1 : Int32) (x2 : Int32)  (Q : Int32 → AH → Prop) : Prop := Ct l g mX1_firstOfValue 1 22 194 194 h [.ref x0, .int x1, .int x2] (ax_QI Q)
def L_X1_firstOfValue_0 (l : Launch) (g : AG) (h : AH) (x0 : Nat) (x1 : Int32) (x2 : Int32)  (Q : Int32 → AH → Prop) : Prop := Wp l g mX1_firstOfValue 1 22 194 194 194 0 [(0, .ref x0), (1, .int x1), (2, .int x2)] [] h (FM g 194 194 (ax_QI Q))
def L_X1_firstOfValue_2 (l : Launch) (g : AG) (h : AH) (x0 : Nat) (x1 : Int32) (x2 : Int32) (x3 : Int32)  (Q : Int32 → AH → Prop) : Prop := Wp l g mX1_firstOfValue 1 22 194 194 194 2 [(0, .ref x0), (1, .int x1), (2, .int x2), (3, .int x3)] [] h (FM g 194 194 (ax_QI Q))
set_option maxRecDepth 100000 in
set_option maxHeartbeats 4000000 in
theorem s_X1_firstOfValue_0 {l : Launch} {g : AG} {h : AH} {x0 : Nat} {x1 : Int32} {x2 : Int32}  {Q : Int32 → AH → Prop} (hb : L_X1_firstOfValue_2 l g h x0 x1 x2 0  Q) : L_X1_firstOfValue_0 l g h x0 x1 x2  Q := by
  refine wp_iconst (v := 0) dX1_firstOfValue_0 (by decide) ?_
  refine wp_istore_n (lv2 := [(3, .int 0), (0, .ref x0), (1, .int x1), (2, .int x2)]) dX1_firstOfValue_1 rfl (by decide) rfl ?_
  exact wp_sub [1, 2, 3, 0] rfl hb
set_option maxRecDepth 100000 in
set_option maxHeartbeats 4000000 in
theorem s_X1_firstOfValue_2 {l : Launch} {g : AG} {h : AH} {x0 : Nat} {x1 : Int32} {x2 : Int32} {x3 : Int32}  {Q : Int32 → AH → Prop} (hb : (Is 194 x0 1) ∧ ( (Is 194 (h.2.2 x0 2) 5) ∧ ( ((h.1 (h.2.2 x0 2) 0 ≤ x3 → (Q (-2) h)) ∧ (¬ (h.1 (h.2.2 x0 2) 0 ≤ x3) → ((Is 194 (h.2.2 x0 2) 5) ∧ ( (Is 194 (h.2.2 (h.2.2 x0 2) 1) 21) ∧ ( (vp_in x3 (ax_s (h.2.2 (h.2.2 x0 2) 1)).2) ∧ ( C_X3_valueOf l g h (h.2.1 (h.2.2 (h.2.2 x0 2) 1) x3.toNatClampNeg) x1 (fun r9 h8 => ( ((¬ r9 = x2 → (∀ v11 : Int32, v11 = x3 + (1) → ( L_X1_firstOfValue_2 l g h8 x0 x1 x2 v11  Q))) ∧ (r9 = x2 → (Q x3 h8)))))))))))))) : L_X1_firstOfValue_2 l g h x0 x1 x2 x3  Q := by
  refine wp_iload_n 3 dX1_firstOfValue_2 rfl rfl ?_
  obtain ⟨i1, hb⟩ := hb
  refine wp_aload_n 0 dX1_firstOfValue_3 rfl rfl ?_
  obtain ⟨i2, hb⟩ := hb
  refine wp_getR dX1_firstOfValue_4 fl_X1_18 i1 (i2.ne (by decide)) ?_
  refine wp_getI dX1_firstOfValue_7 fl_X1_50 i2 ?_
  refine wp_icmp_ge (tgt := 38) dX1_firstOfValue_10 (by decide) (fun c3 => ?_) (fun c3 => ?_)
  · have hb := hb.1 c3
    refine wp_bipush (v := (-2)) dX1_firstOfValue_38 (by decide) ?_
    exact wp_iret rfl dX1_firstOfValue_40 ⟨_, rfl, hb⟩
  · have hb := hb.2 c3
    refine wp_aload_n 0 dX1_firstOfValue_13 rfl rfl ?_
    obtain ⟨i4, hb⟩ := hb
    refine wp_getR dX1_firstOfValue_14 fl_X1_18 i1 (i4.ne (by decide)) ?_
    obtain ⟨i5, hb⟩ := hb
    refine wp_getR dX1_firstOfValue_17 fl_X1_73 i4 (i5.ne (by decide)) ?_
    refine wp_iload_n 3 dX1_firstOfValue_20 rfl rfl ?_
    obtain ⟨b6, hb⟩ := hb
    refine wp_laload dX1_firstOfValue_21 i5 b6 ?_
    refine wp_iload_n 1 dX1_firstOfValue_22 rfl rfl ?_
    refine wp_callSN (as := [.long (h.2.1 (h.2.2 (h.2.2 x0 2) 1) x3.toNatClampNeg), .int x1]) dX1_firstOfValue_23 cb_X3_valueOf lk_X1_110 st_X3_valueOf rfl (Nat.le_of_ble_eq_true rfl) ⟨by decide, by decide⟩ ⟨Nat.le_refl _, Nat.le_refl _, Nat.le_refl _⟩ hb (fun r0 h8 hb => ?_)
    obtain ⟨r9, rfl, hb⟩ := hb
    refine wp_iload_n 2 dX1_firstOfValue_26 rfl rfl ?_
    refine wp_icmp_ne (tgt := 32) dX1_firstOfValue_27 (by decide) (fun c10 => ?_) (fun c10 => ?_)
    · have hb := hb.1 c10
      obtain ⟨v11, e12⟩ : ∃ y : Int32, y = x3 + (1) := ⟨_, rfl⟩
      have hb := hb v11 e12
      refine wp_iinc (v := v11) (lv2 := [(3, .int v11), (0, .ref x0), (1, .int x1), (2, .int x2)]) 3 dX1_firstOfValue_32 rfl (by rw [e12]; rfl) (by decide) rfl ?_
      refine wp_goto (tgt := 2) dX1_firstOfValue_35 (by decide) ?_
      exact wp_sub [1, 2, 3, 0] rfl hb
    · have hb := hb.2 c10
      refine wp_iload_n 3 dX1_firstOfValue_30 rfl rfl ?_
      exact wp_iret rfl dX1_firstOfValue_31 ⟨_, rfl, hb⟩
theorem c_X1_firstOfValue {l : Launch} {g : AG} {h : AH} {x0 : Nat} {x1 : Int32} {x2 : Int32}  {Q : Int32 → AH → Prop} (hb : L_X1_firstOfValue_0 l g h x0 x1 x2  Q) : C_X1_firstOfValue l g h x0 x1 x2  Q := ax_met rfl rfl (Nat.le_of_ble_eq_true rfl) hb
def C_X9_holdsAt (l : Launch) (g : AG) (h : AH) (x0 : Nat) (x1 : Int32) (x2 : Int32)  (Q : Int32 → AH → Prop) : Prop := Ct l g mX9_holdsAt 2 45 194 194 h [.ref x0, .int x1, .int x2] (ax_QI Q)
def L_X9_holdsAt_0 (l : Launch) (g : AG) (h : AH) (x0 : Nat) (x1 : Int32) (x2 : Int32)  (Q : Int32 → AH → Prop) : Prop := Wp l g mX9_holdsAt 2 45 194 194 194 0 [(0, .ref x0), (1, .int x1), (2, .int x2)] [] h (FM g 194 194 (ax_QI Q))
set_option maxRecDepth 100000 in
set_option maxHeartbeats 4000000 in
theorem s_X9_holdsAt_0 {l : Launch} {g : AG} {h : AH} {x0 : Nat} {x1 : Int32} {x2 : Int32}  {Q : Int32 → AH → Prop} (hb : (Is 194 x0 8) ∧ ( (Is 194 (h.2.2 x0 6) 1) ∧ ( C_X1_stands l g h (h.2.2 x0 6) (fun r5 h4 => ( ((¬ r5 = 0 → (((x1 < 0 → (C_X9_refused l g h4 x0 1 (fun r10 h9 => ( Q r10 h9)))) ∧ (¬ (x1 < 0) → ((Is 194 (h4.2.2 x0 6) 1) ∧ ( (Is 194 (h4.2.2 (h4.2.2 x0 6) 1) 0) ∧ ( ((x1 < h4.1 (h4.2.2 (h4.2.2 x0 6) 1) 2 → ((Is 194 (h4.2.2 x0 6) 1) ∧ ( C_X1_firstOfValue l g h4 (h4.2.2 x0 6) x1 x2 (fun r17 h16 => ( C_X9_granted l g h16 x0 r17 (fun r20 h19 => ( Q r20 h19))))))) ∧ (¬ (x1 < h4.1 (h4.2.2 (h4.2.2 x0 6) 1) 2) → (C_X9_refused l g h4 x0 1 (fun r23 h22 => ( Q r23 h22)))))))))))) ∧ (r5 = 0 → (C_X9_refused l g h4 x0 6 (fun r26 h25 => ( Q r26 h25)))))))))) : L_X9_holdsAt_0 l g h x0 x1 x2  Q := by
  obtain ⟨i1, hb⟩ := hb
  refine wp_aload_n 0 dX9_holdsAt_0 rfl rfl ?_
  obtain ⟨i2, hb⟩ := hb
  refine wp_getR dX9_holdsAt_1 fl_X9_44 i1 (i2.ne (by decide)) ?_
  refine wp_callVN (as := []) dX9_holdsAt_4 cb_X1_stands lk_X9_202 im_X1_stands se_X1_stands rfl (Nat.le_of_ble_eq_true rfl) ⟨by decide, by decide⟩ ⟨Nat.le_refl _, Nat.le_refl _, Nat.le_refl _⟩ i2 rfl (by decide) hb (fun r0 h4 hb => ?_)
  obtain ⟨r5, rfl, hb⟩ := hb
  refine wp_if_ne (tgt := 17) dX9_holdsAt_7 (by decide) (fun c6 => ?_) (fun c6 => ?_)
  · have hb := hb.1 c6
    refine wp_iload_n 1 dX9_holdsAt_17 rfl rfl ?_
    refine wp_if_lt (tgt := 35) dX9_holdsAt_18 (by decide) (fun c7 => ?_) (fun c7 => ?_)
    · have hb := hb.1 c7
      refine wp_aload_n 0 dX9_holdsAt_35 rfl rfl ?_
      refine wp_iconst (v := 1) dX9_holdsAt_36 (by decide) ?_
      refine wp_callV (as := [.int 1]) dX9_holdsAt_37 cb_X9_refused lk_X9_76 im_X9_refused se_X9_refused rfl (Nat.le_of_ble_eq_true rfl) ⟨by decide, by decide⟩ ⟨Nat.le_refl _, Nat.le_refl _, Nat.le_refl _⟩ i1 rfl (by decide) hb (fun r0 h9 hb => ?_)
      obtain ⟨r10, rfl, hb⟩ := hb
      exact wp_iret rfl dX9_holdsAt_40 ⟨_, rfl, hb⟩
    · have hb := hb.2 c7
      refine wp_iload_n 1 dX9_holdsAt_21 rfl rfl ?_
      refine wp_aload_n 0 dX9_holdsAt_22 rfl rfl ?_
      obtain ⟨i11, hb⟩ := hb
      refine wp_getR dX9_holdsAt_23 fl_X9_44 i1 (i11.ne (by decide)) ?_
      obtain ⟨i12, hb⟩ := hb
      refine wp_getR dX9_holdsAt_26 fl_X9_213 i11 (i12.ne (by decide)) ?_
      refine wp_getI dX9_holdsAt_29 fl_X9_113 i12 ?_
      refine wp_icmp_lt (tgt := 41) dX9_holdsAt_32 (by decide) (fun c13 => ?_) (fun c13 => ?_)
      · have hb := hb.1 c13
        refine wp_aload_n 0 dX9_holdsAt_41 rfl rfl ?_
        refine wp_aload_n 0 dX9_holdsAt_42 rfl rfl ?_
        obtain ⟨i14, hb⟩ := hb
        refine wp_getR dX9_holdsAt_43 fl_X9_44 i1 (i14.ne (by decide)) ?_
        refine wp_iload_n 1 dX9_holdsAt_46 rfl rfl ?_
        refine wp_iload_n 2 dX9_holdsAt_47 rfl rfl ?_
        refine wp_callVN (as := [.int x1, .int x2]) dX9_holdsAt_48 cb_X1_firstOfValue lk_X9_222 im_X1_firstOfValue se_X1_firstOfValue rfl (Nat.le_of_ble_eq_true rfl) ⟨by decide, by decide⟩ ⟨Nat.le_refl _, Nat.le_refl _, Nat.le_refl _⟩ i14 rfl (by decide) hb (fun r0 h16 hb => ?_)
        obtain ⟨r17, rfl, hb⟩ := hb
        refine wp_callV (as := [.int r17]) dX9_holdsAt_51 cb_X9_granted lk_X9_97 im_X9_granted se_X9_granted rfl (Nat.le_of_ble_eq_true rfl) ⟨by decide, by decide⟩ ⟨Nat.le_refl _, Nat.le_refl _, Nat.le_refl _⟩ i1 rfl (by decide) hb (fun r0 h19 hb => ?_)
        obtain ⟨r20, rfl, hb⟩ := hb
        exact wp_iret rfl dX9_holdsAt_54 ⟨_, rfl, hb⟩
      · have hb := hb.2 c13
        refine wp_aload_n 0 dX9_holdsAt_35 rfl rfl ?_
        refine wp_iconst (v := 1) dX9_holdsAt_36 (by decide) ?_
        refine wp_callV (as := [.int 1]) dX9_holdsAt_37 cb_X9_refused lk_X9_76 im_X9_refused se_X9_refused rfl (Nat.le_of_ble_eq_true rfl) ⟨by decide, by decide⟩ ⟨Nat.le_refl _, Nat.le_refl _, Nat.le_refl _⟩ i1 rfl (by decide) hb (fun r0 h22 hb => ?_)
        obtain ⟨r23, rfl, hb⟩ := hb
        exact wp_iret rfl dX9_holdsAt_40 ⟨_, rfl, hb⟩
  · have hb := hb.2 c6
    refine wp_aload_n 0 dX9_holdsAt_10 rfl rfl ?_
    refine wp_bipush (v := 6) dX9_holdsAt_11 (by decide) ?_
    refine wp_callV (as := [.int 6]) dX9_holdsAt_13 cb_X9_refused lk_X9_76 im_X9_refused se_X9_refused rfl (Nat.le_of_ble_eq_true rfl) ⟨by decide, by decide⟩ ⟨Nat.le_refl _, Nat.le_refl _, Nat.le_refl _⟩ i1 rfl (by decide) hb (fun r0 h25 hb => ?_)
    obtain ⟨r26, rfl, hb⟩ := hb
    exact wp_iret rfl dX9_holdsAt_16 ⟨_, rfl, hb⟩
theorem c_X9_holdsAt {l : Launch} {g : AG} {h : AH} {x0 : Nat} {x1 : Int32} {x2 : Int32}  {Q : Int32 → AH → Prop} (hb : L_X9_holdsAt_0 l g h x0 x1 x2  Q) : C_X9_holdsAt l g h x0 x1 x2  Q := ax_met rfl rfl (Nat.le_of_ble_eq_true rfl) hb
