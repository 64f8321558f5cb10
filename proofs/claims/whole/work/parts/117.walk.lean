def C_X9_fault (l : Launch) (g : AG) (h : AH) (x0 : Nat)  (Q : Int32 → AH → Prop) : Prop := Ct l g mX9_fault 0 0 194 194 h [.ref x0] (ax_QI Q)
def L_X9_fault_0 (l : Launch) (g : AG) (h : AH) (x0 : Nat)  (Q : Int32 → AH → Prop) : Prop := Wp l g mX9_fault 0 0 194 194 194 0 [(0, .ref x0)] [] h (FM g 194 194 (ax_QI Q))
set_option maxRecDepth 100000 in
set_option maxHeartbeats 4000000 in
theorem s_X9_fault_0 {l : Launch} {g : AG} {h : AH} {x0 : Nat}  {Q : Int32 → AH → Prop} (hb : (Is 194 x0 8) ∧ ( (Is 194 (h.2.2 x0 4) 6) ∧ ( Q (h.1 (h.2.2 x0 4) 3) h))) : L_X9_fault_0 l g h x0  Q := by
  obtain ⟨i1, hb⟩ := hb
  refine wp_aload_n 0 dX9_fault_0 rfl rfl ?_
  obtain ⟨i2, hb⟩ := hb
  refine wp_getR dX9_fault_1 fl_X9_33 i1 (i2.ne (by decide)) ?_
  refine wp_getI dX9_fault_4 fl_X9_100 i2 ?_
  exact wp_iret rfl dX9_fault_7 ⟨_, rfl, hb⟩
theorem c_X9_fault {l : Launch} {g : AG} {h : AH} {x0 : Nat}  {Q : Int32 → AH → Prop} (hb : L_X9_fault_0 l g h x0  Q) : C_X9_fault l g h x0  Q := ax_met rfl (Nat.le_of_ble_eq_true rfl) hb
def C_X9_where (l : Launch) (g : AG) (h : AH) (x0 : Nat)  (Q : Int32 → AH → Prop) : Prop := Ct l g mX9_where 0 0 194 194 h [.ref x0] (ax_QI Q)
def L_X9_where_0 (l : Launch) (g : AG) (h : AH) (x0 : Nat)  (Q : Int32 → AH → Prop) : Prop := Wp l g mX9_where 0 0 194 194 194 0 [(0, .ref x0)] [] h (FM g 194 194 (ax_QI Q))
set_option maxRecDepth 100000 in
set_option maxHeartbeats 4000000 in
theorem s_X9_where_0 {l : Launch} {g : AG} {h : AH} {x0 : Nat}  {Q : Int32 → AH → Prop} (hb : (Is 194 x0 8) ∧ ( ((¬ h.1 x0 12 = 3 → (Q (-1) h)) ∧ (h.1 x0 12 = 3 → ((Is 194 (h.2.2 x0 4) 6) ∧ ( Q (h.1 (h.2.2 x0 4) 4) h)))))) : L_X9_where_0 l g h x0  Q := by
  obtain ⟨i1, hb⟩ := hb
  refine wp_aload_n 0 dX9_where_0 rfl rfl ?_
  refine wp_getI dX9_where_1 fl_X9_69 i1 ?_
  refine wp_iconst (v := 3) dX9_where_4 (by decide) ?_
  refine wp_icmp_ne (tgt := 18) dX9_where_5 (by decide) (fun c2 => ?_) (fun c2 => ?_)
  · have hb := hb.1 c2
    refine wp_iconst (v := (-1)) dX9_where_18 (by decide) ?_
    exact wp_iret rfl dX9_where_19 ⟨_, rfl, hb⟩
  · have hb := hb.2 c2
    refine wp_aload_n 0 dX9_where_8 rfl rfl ?_
    obtain ⟨i3, hb⟩ := hb
    refine wp_getR dX9_where_9 fl_X9_33 i1 (i3.ne (by decide)) ?_
    refine wp_getI dX9_where_12 fl_X9_103 i3 ?_
    refine wp_goto (tgt := 19) dX9_where_15 (by decide) ?_
    exact wp_iret rfl dX9_where_19 ⟨_, rfl, hb⟩
theorem c_X9_where {l : Launch} {g : AG} {h : AH} {x0 : Nat}  {Q : Int32 → AH → Prop} (hb : L_X9_where_0 l g h x0  Q) : C_X9_where l g h x0  Q := ax_met rfl (Nat.le_of_ble_eq_true rfl) hb
def C_X9_has (l : Launch) (g : AG) (h : AH) (x0 : Nat) (x1 : Int32)  (Q : Int32 → AH → Prop) : Prop := Ct l g mX9_has 0 0 194 194 h [.ref x0, .int x1] (ax_QI Q)
def L_X9_has_0 (l : Launch) (g : AG) (h : AH) (x0 : Nat) (x1 : Int32)  (Q : Int32 → AH → Prop) : Prop := Wp l g mX9_has 0 0 194 194 194 0 [(0, .ref x0), (1, .int x1)] [] h (FM g 194 194 (ax_QI Q))
set_option maxRecDepth 100000 in
set_option maxHeartbeats 4000000 in
theorem s_X9_has_0 {l : Launch} {g : AG} {h : AH} {x0 : Nat} {x1 : Int32}  {Q : Int32 → AH → Prop} (hb : ((x1 < 0 → (Q 0 h)) ∧ (¬ (x1 < 0) → (((2 ≤ x1 → (Q 0 h)) ∧ (¬ (2 ≤ x1) → ((Is 194 x0 8) ∧ ( (Is 194 (h.2.2 x0 2) 24) ∧ ( (vp_in x1 (ax_s (h.2.2 x0 2)).2) ∧ ( (Is 194 (h.2.2 (h.2.2 x0 2) x1.toNatClampNeg) 0) ∧ ( ((h.1 (h.2.2 (h.2.2 x0 2) x1.toNatClampNeg) 0 ≤ 0 → (Q 0 h)) ∧ (¬ (h.1 (h.2.2 (h.2.2 x0 2) x1.toNatClampNeg) 0 ≤ 0) → (Q 1 h)))))))))))))) : L_X9_has_0 l g h x0 x1  Q := by
  refine wp_iload_n 1 dX9_has_0 rfl rfl ?_
  refine wp_if_lt (tgt := 25) dX9_has_1 (by decide) (fun c1 => ?_) (fun c1 => ?_)
  · have hb := hb.1 c1
    refine wp_iconst (v := 0) dX9_has_25 (by decide) ?_
    exact wp_zret rfl dX9_has_26 (Or.inl rfl) ⟨_, rfl, hb⟩
  · have hb := hb.2 c1
    refine wp_iload_n 1 dX9_has_4 rfl rfl ?_
    refine wp_iconst (v := 2) dX9_has_5 (by decide) ?_
    refine wp_icmp_ge (tgt := 25) dX9_has_6 (by decide) (fun c2 => ?_) (fun c2 => ?_)
    · have hb := hb.1 c2
      refine wp_iconst (v := 0) dX9_has_25 (by decide) ?_
      exact wp_zret rfl dX9_has_26 (Or.inl rfl) ⟨_, rfl, hb⟩
    · have hb := hb.2 c2
      obtain ⟨i3, hb⟩ := hb
      refine wp_aload_n 0 dX9_has_9 rfl rfl ?_
      obtain ⟨i4, hb⟩ := hb
      refine wp_getR dX9_has_10 fl_X9_20 i3 (i4.ne (by decide)) ?_
      refine wp_iload_n 1 dX9_has_13 rfl rfl ?_
      obtain ⟨b5, hb⟩ := hb
      obtain ⟨i6, hb⟩ := hb
      refine wp_aaload24 dX9_has_14 i4 b5 (i6.ne (by decide)) ?_
      refine wp_getI dX9_has_15 fl_X9_94 i6 ?_
      refine wp_if_le (tgt := 25) dX9_has_18 (by decide) (fun c7 => ?_) (fun c7 => ?_)
      · have hb := hb.1 c7
        refine wp_iconst (v := 0) dX9_has_25 (by decide) ?_
        exact wp_zret rfl dX9_has_26 (Or.inl rfl) ⟨_, rfl, hb⟩
      · have hb := hb.2 c7
        refine wp_iconst (v := 1) dX9_has_21 (by decide) ?_
        refine wp_goto (tgt := 26) dX9_has_22 (by decide) ?_
        exact wp_zret rfl dX9_has_26 (Or.inr rfl) ⟨_, rfl, hb⟩
theorem c_X9_has {l : Launch} {g : AG} {h : AH} {x0 : Nat} {x1 : Int32}  {Q : Int32 → AH → Prop} (hb : L_X9_has_0 l g h x0 x1  Q) : C_X9_has l g h x0 x1  Q := ax_met rfl (Nat.le_of_ble_eq_true rfl) hb
def C_X9_about (l : Launch) (g : AG) (h : AH) (x0 : Nat) (x1 : Int32) (x2 : Int32)  (Q : Int32 → AH → Prop) : Prop := Ct l g mX9_about 1 21 194 194 h [.ref x0, .int x1, .int x2] (ax_QI Q)
def L_X9_about_0 (l : Launch) (g : AG) (h : AH) (x0 : Nat) (x1 : Int32) (x2 : Int32)  (Q : Int32 → AH → Prop) : Prop := Wp l g mX9_about 1 21 194 194 194 0 [(0, .ref x0), (1, .int x1), (2, .int x2)] [] h (FM g 194 194 (ax_QI Q))
set_option maxRecDepth 100000 in
set_option maxHeartbeats 4000000 in
theorem s_X9_about_0 {l : Launch} {g : AG} {h : AH} {x0 : Nat} {x1 : Int32} {x2 : Int32}  {Q : Int32 → AH → Prop} (hb : (Is 194 x0 8) ∧ ( C_X9_has l g h x0 x1 (fun r4 h3 => ( ((¬ r4 = 0 → ((Is 194 (h3.2.2 x0 2) 24) ∧ ( (vp_in x1 (ax_s (h3.2.2 x0 2)).2) ∧ ( (Is 194 (h3.2.2 (h3.2.2 x0 2) x1.toNatClampNeg) 0) ∧ ( ∀ v9 : Nat, v9 = (h3.2.2 (h3.2.2 x0 2) x1.toNatClampNeg) → ( ((x2 = 0 → (Q (h3.1 v9 0) h3)) ∧ (¬ x2 = 0 → (((x2 = 1 → (Q (h3.1 v9 1) h3)) ∧ (¬ x2 = 1 → (((x2 = 2 → (Q (h3.1 v9 2) h3)) ∧ (¬ x2 = 2 → (((x2 = 3 → (Q (h3.1 v9 3) h3)) ∧ (¬ x2 = 3 → (((x2 = 4 → (Q (h3.1 v9 4) h3)) ∧ (¬ x2 = 4 → (((x2 = 5 → (Q (h3.1 v9 5) h3)) ∧ (¬ x2 = 5 → (Q (-1) h3)))))))))))))))))))))))) ∧ (r4 = 0 → (Q (-1) h3))))))) : L_X9_about_0 l g h x0 x1 x2  Q := by
  obtain ⟨i1, hb⟩ := hb
  refine wp_aload_n 0 dX9_about_0 rfl rfl ?_
  refine wp_iload_n 1 dX9_about_1 rfl rfl ?_
  refine wp_callV (as := [.int x1]) dX9_about_2 cb_X9_has lk_X9_106 im_X9_has se_X9_has rfl (Nat.le_of_ble_eq_true rfl) ⟨by decide, by decide⟩ ⟨Nat.le_refl _, Nat.le_refl _, Nat.le_refl _⟩ i1 rfl (by decide) hb (fun r0 h3 hb => ?_)
  obtain ⟨r4, rfl, hb⟩ := hb
  refine wp_if_ne (tgt := 10) dX9_about_5 (by decide) (fun c5 => ?_) (fun c5 => ?_)
  · have hb := hb.1 c5
    refine wp_aload_n 0 dX9_about_10 rfl rfl ?_
    obtain ⟨i6, hb⟩ := hb
    refine wp_getR dX9_about_11 fl_X9_20 i1 (i6.ne (by decide)) ?_
    refine wp_iload_n 1 dX9_about_14 rfl rfl ?_
    obtain ⟨b7, hb⟩ := hb
    obtain ⟨i8, hb⟩ := hb
    refine wp_aaload24 dX9_about_15 i6 b7 (i8.ne (by decide)) ?_
    refine wp_topr (fun v9 e10 => ?_)
    have hb := hb v9 e10
    have i11 : Is 194 v9 0 := by rw [e10]; exact i8
    refine wp_astore_n (lv2 := [(3, .ref v9), (0, .ref x0), (1, .int x1), (2, .int x2)]) dX9_about_16 rfl (by decide) rfl ?_
    refine wp_iload_n 3 dX9_about_17 rfl rfl ?_
    refine wp_case 0 (fun c12 => ?_) (fun c12 => ?_)
    · have hb := hb.1 c12
      refine wp_tableIn (v := 0) (tgt := 56) dX9_about_18 c12 (by decide) (by decide) rfl (by decide) ?_
      refine wp_aload_n 0 dX9_about_56 rfl rfl ?_
      refine wp_getI dX9_about_57 fl_X9_94 i11 ?_
      exact wp_iret rfl dX9_about_60 ⟨_, rfl, hb⟩
    · have hb := hb.2 c12
      refine wp_case 1 (fun c13 => ?_) (fun c13 => ?_)
      · have hb := hb.1 c13
        refine wp_tableIn (v := 1) (tgt := 61) dX9_about_18 c13 (by decide) (by decide) rfl (by decide) ?_
        refine wp_aload_n 0 dX9_about_61 rfl rfl ?_
        refine wp_getI dX9_about_62 fl_X9_110 i11 ?_
        exact wp_iret rfl dX9_about_65 ⟨_, rfl, hb⟩
      · have hb := hb.2 c13
        refine wp_case 2 (fun c14 => ?_) (fun c14 => ?_)
        · have hb := hb.1 c14
          refine wp_tableIn (v := 2) (tgt := 66) dX9_about_18 c14 (by decide) (by decide) rfl (by decide) ?_
          refine wp_aload_n 0 dX9_about_66 rfl rfl ?_
          refine wp_getI dX9_about_67 fl_X9_113 i11 ?_
          exact wp_iret rfl dX9_about_70 ⟨_, rfl, hb⟩
        · have hb := hb.2 c14
          refine wp_case 3 (fun c15 => ?_) (fun c15 => ?_)
          · have hb := hb.1 c15
            refine wp_tableIn (v := 3) (tgt := 71) dX9_about_18 c15 (by decide) (by decide) rfl (by decide) ?_
            refine wp_aload_n 0 dX9_about_71 rfl rfl ?_
            refine wp_getI dX9_about_72 fl_X9_116 i11 ?_
            exact wp_iret rfl dX9_about_75 ⟨_, rfl, hb⟩
          · have hb := hb.2 c15
            refine wp_case 4 (fun c16 => ?_) (fun c16 => ?_)
            · have hb := hb.1 c16
              refine wp_tableIn (v := 4) (tgt := 76) dX9_about_18 c16 (by decide) (by decide) rfl (by decide) ?_
              refine wp_aload_n 0 dX9_about_76 rfl rfl ?_
              refine wp_getI dX9_about_77 fl_X9_119 i11 ?_
              exact wp_iret rfl dX9_about_80 ⟨_, rfl, hb⟩
            · have hb := hb.2 c16
              refine wp_case 5 (fun c17 => ?_) (fun c17 => ?_)
              · have hb := hb.1 c17
                refine wp_tableIn (v := 5) (tgt := 81) dX9_about_18 c17 (by decide) (by decide) rfl (by decide) ?_
                refine wp_aload_n 0 dX9_about_81 rfl rfl ?_
                refine wp_getI dX9_about_82 fl_X9_122 i11 ?_
                exact wp_iret rfl dX9_about_85 ⟨_, rfl, hb⟩
              · have hb := hb.2 c17
                refine wp_tableOut (tgt := 86) dX9_about_18 (by have zc12 := lv_neT (k := 0) (a := 0) c12 rfl; have zc13 := lv_neT (k := 1) (a := 1) c13 rfl; have zc14 := lv_neT (k := 2) (a := 2) c14 rfl; have zc15 := lv_neT (k := 3) (a := 3) c15 rfl; have zc16 := lv_neT (k := 4) (a := 4) c16 rfl; have zc17 := lv_neT (k := 5) (a := 5) c17 rfl; omega) (by decide) ?_
                refine wp_iconst (v := (-1)) dX9_about_86 (by decide) ?_
                exact wp_iret rfl dX9_about_87 ⟨_, rfl, hb⟩
  · have hb := hb.2 c5
    refine wp_iconst (v := (-1)) dX9_about_8 (by decide) ?_
    exact wp_iret rfl dX9_about_9 ⟨_, rfl, hb⟩
theorem c_X9_about {l : Launch} {g : AG} {h : AH} {x0 : Nat} {x1 : Int32} {x2 : Int32}  {Q : Int32 → AH → Prop} (hb : L_X9_about_0 l g h x0 x1 x2  Q) : C_X9_about l g h x0 x1 x2  Q := ax_met rfl (Nat.le_of_ble_eq_true rfl) hb
def C_X9_button (l : Launch) (g : AG) (h : AH) (x0 : Nat) (x1 : Int32) (x2 : Int32) (x3 : Int32)  (Q : Int32 → AH → Prop) : Prop := Ct l g mX9_button 1 21 194 194 h [.ref x0, .int x1, .int x2, .int x3] (ax_QI Q)
def L_X9_button_0 (l : Launch) (g : AG) (h : AH) (x0 : Nat) (x1 : Int32) (x2 : Int32) (x3 : Int32)  (Q : Int32 → AH → Prop) : Prop := Wp l g mX9_button 1 21 194 194 194 0 [(0, .ref x0), (1, .int x1), (2, .int x2), (3, .int x3)] [] h (FM g 194 194 (ax_QI Q))
set_option maxRecDepth 100000 in
set_option maxHeartbeats 4000000 in
theorem s_X9_button_0 {l : Launch} {g : AG} {h : AH} {x0 : Nat} {x1 : Int32} {x2 : Int32} {x3 : Int32}  {Q : Int32 → AH → Prop} (hb : (Is 194 x0 8) ∧ ( C_X9_has l g h x0 x1 (fun r4 h3 => ( ((r4 = 0 → (Q (-1) h3)) ∧ (¬ (r4 = 0) → (((x2 < 0 → (Q (-1) h3)) ∧ (¬ (x2 < 0) → ((Is 194 (h3.2.2 x0 2) 24) ∧ ( (vp_in x1 (ax_s (h3.2.2 x0 2)).2) ∧ ( (Is 194 (h3.2.2 (h3.2.2 x0 2) x1.toNatClampNeg) 0) ∧ ( ((x2 < h3.1 (h3.2.2 (h3.2.2 x0 2) x1.toNatClampNeg) 1 → ((Is 194 (h3.2.2 x0 2) 24) ∧ ( (vp_in x1 (ax_s (h3.2.2 x0 2)).2) ∧ ( (Is 194 (h3.2.2 (h3.2.2 x0 2) x1.toNatClampNeg) 0) ∧ ( ∀ v14 : Nat, v14 = (h3.2.2 (h3.2.2 x0 2) x1.toNatClampNeg) → ( ((x3 = 0 → ((Is 194 (h3.2.2 v14 16) 20) ∧ ( (vp_in x2 (ax_s (h3.2.2 v14 16)).2) ∧ ( Q (h3.1 (h3.2.2 v14 16) x2.toNatClampNeg) h3)))) ∧ (¬ x3 = 0 → (((x3 = 1 → ((Is 194 (h3.2.2 v14 17) 3) ∧ ( (Is 194 (h3.2.2 (h3.2.2 v14 17) 0) 20) ∧ ( (vp_in x2 (ax_s (h3.2.2 (h3.2.2 v14 17) 0)).2) ∧ ( Q (h3.1 (h3.2.2 (h3.2.2 v14 17) 0) x2.toNatClampNeg) h3))))) ∧ (¬ x3 = 1 → (((x3 = 2 → ((Is 194 (h3.2.2 v14 18) 4) ∧ ( (Is 194 (h3.2.2 (h3.2.2 v14 18) 0) 20) ∧ ( (vp_in x2 (ax_s (h3.2.2 (h3.2.2 v14 18) 0)).2) ∧ ( Q (h3.1 (h3.2.2 (h3.2.2 v14 18) 0) x2.toNatClampNeg) h3))))) ∧ (¬ x3 = 2 → (Q (-1) h3))))))))))))))) ∧ (¬ (x2 < h3.1 (h3.2.2 (h3.2.2 x0 2) x1.toNatClampNeg) 1) → (Q (-1) h3)))))))))))))))) : L_X9_button_0 l g h x0 x1 x2 x3  Q := by
  obtain ⟨i1, hb⟩ := hb
  refine wp_aload_n 0 dX9_button_0 rfl rfl ?_
  refine wp_iload_n 1 dX9_button_1 rfl rfl ?_
  refine wp_callV (as := [.int x1]) dX9_button_2 cb_X9_has lk_X9_106 im_X9_has se_X9_has rfl (Nat.le_of_ble_eq_true rfl) ⟨by decide, by decide⟩ ⟨Nat.le_refl _, Nat.le_refl _, Nat.le_refl _⟩ i1 rfl (by decide) hb (fun r0 h3 hb => ?_)
  obtain ⟨r4, rfl, hb⟩ := hb
  refine wp_if_eq (tgt := 25) dX9_button_5 (by decide) (fun c5 => ?_) (fun c5 => ?_)
  · have hb := hb.1 c5
    refine wp_iconst (v := (-1)) dX9_button_25 (by decide) ?_
    exact wp_iret rfl dX9_button_26 ⟨_, rfl, hb⟩
  · have hb := hb.2 c5
    refine wp_iload_n 2 dX9_button_8 rfl rfl ?_
    refine wp_if_lt (tgt := 25) dX9_button_9 (by decide) (fun c6 => ?_) (fun c6 => ?_)
    · have hb := hb.1 c6
      refine wp_iconst (v := (-1)) dX9_button_25 (by decide) ?_
      exact wp_iret rfl dX9_button_26 ⟨_, rfl, hb⟩
    · have hb := hb.2 c6
      refine wp_iload_n 2 dX9_button_12 rfl rfl ?_
      refine wp_aload_n 0 dX9_button_13 rfl rfl ?_
      obtain ⟨i7, hb⟩ := hb
      refine wp_getR dX9_button_14 fl_X9_20 i1 (i7.ne (by decide)) ?_
      refine wp_iload_n 1 dX9_button_17 rfl rfl ?_
      obtain ⟨b8, hb⟩ := hb
      obtain ⟨i9, hb⟩ := hb
      refine wp_aaload24 dX9_button_18 i7 b8 (i9.ne (by decide)) ?_
      refine wp_getI dX9_button_19 fl_X9_110 i9 ?_
      refine wp_icmp_lt (tgt := 27) dX9_button_22 (by decide) (fun c10 => ?_) (fun c10 => ?_)
      · have hb := hb.1 c10
        refine wp_aload_n 0 dX9_button_27 rfl rfl ?_
        obtain ⟨i11, hb⟩ := hb
        refine wp_getR dX9_button_28 fl_X9_20 i1 (i11.ne (by decide)) ?_
        refine wp_iload_n 1 dX9_button_31 rfl rfl ?_
        obtain ⟨b12, hb⟩ := hb
        obtain ⟨i13, hb⟩ := hb
        refine wp_aaload24 dX9_button_32 i11 b12 (i13.ne (by decide)) ?_
        refine wp_topr (fun v14 e15 => ?_)
        have hb := hb v14 e15
        have i16 : Is 194 v14 0 := by rw [e15]; exact i13
        refine wp_astore (lv2 := [(4, .ref v14), (0, .ref x0), (1, .int x1), (2, .int x2), (3, .int x3)]) dX9_button_33 (by decide) rfl ?_
        refine wp_iload_n 4 dX9_button_35 rfl rfl ?_
        refine wp_case 0 (fun c17 => ?_) (fun c17 => ?_)
        · have hb := hb.1 c17
          refine wp_tableIn (v := 0) (tgt := 64) dX9_button_36 c17 (by decide) (by decide) rfl (by decide) ?_
          refine wp_aload 0 dX9_button_64 rfl ?_
          obtain ⟨i18, hb⟩ := hb
          refine wp_getR dX9_button_66 fl_X9_125 i16 (i18.ne (by decide)) ?_
          refine wp_iload_n 3 dX9_button_69 rfl rfl ?_
          obtain ⟨b19, hb⟩ := hb
          refine wp_iaload dX9_button_70 i18 b19 ?_
          exact wp_iret rfl dX9_button_71 ⟨_, rfl, hb⟩
        · have hb := hb.2 c17
          refine wp_case 1 (fun c20 => ?_) (fun c20 => ?_)
          · have hb := hb.1 c20
            refine wp_tableIn (v := 1) (tgt := 72) dX9_button_36 c20 (by decide) (by decide) rfl (by decide) ?_
            refine wp_aload 0 dX9_button_72 rfl ?_
            obtain ⟨i21, hb⟩ := hb
            refine wp_getR dX9_button_74 fl_X9_128 i16 (i21.ne (by decide)) ?_
            obtain ⟨i22, hb⟩ := hb
            refine wp_getR dX9_button_77 fl_X9_132 i21 (i22.ne (by decide)) ?_
            refine wp_iload_n 3 dX9_button_80 rfl rfl ?_
            obtain ⟨b23, hb⟩ := hb
            refine wp_iaload dX9_button_81 i22 b23 ?_
            exact wp_iret rfl dX9_button_82 ⟨_, rfl, hb⟩
          · have hb := hb.2 c20
            refine wp_case 2 (fun c24 => ?_) (fun c24 => ?_)
            · have hb := hb.1 c24
              refine wp_tableIn (v := 2) (tgt := 83) dX9_button_36 c24 (by decide) (by decide) rfl (by decide) ?_
              refine wp_aload 0 dX9_button_83 rfl ?_
              obtain ⟨i25, hb⟩ := hb
              refine wp_getR dX9_button_85 fl_X9_137 i16 (i25.ne (by decide)) ?_
              obtain ⟨i26, hb⟩ := hb
              refine wp_getR dX9_button_88 fl_X9_141 i25 (i26.ne (by decide)) ?_
              refine wp_iload_n 3 dX9_button_91 rfl rfl ?_
              obtain ⟨b27, hb⟩ := hb
              refine wp_iaload dX9_button_92 i26 b27 ?_
              exact wp_iret rfl dX9_button_93 ⟨_, rfl, hb⟩
            · have hb := hb.2 c24
              refine wp_tableOut (tgt := 94) dX9_button_36 (by have zc17 := lv_neT (k := 0) (a := 0) c17 rfl; have zc20 := lv_neT (k := 1) (a := 1) c20 rfl; have zc24 := lv_neT (k := 2) (a := 2) c24 rfl; omega) (by decide) ?_
              refine wp_iconst (v := (-1)) dX9_button_94 (by decide) ?_
              exact wp_iret rfl dX9_button_95 ⟨_, rfl, hb⟩
      · have hb := hb.2 c10
        refine wp_iconst (v := (-1)) dX9_button_25 (by decide) ?_
        exact wp_iret rfl dX9_button_26 ⟨_, rfl, hb⟩
theorem c_X9_button {l : Launch} {g : AG} {h : AH} {x0 : Nat} {x1 : Int32} {x2 : Int32} {x3 : Int32}  {Q : Int32 → AH → Prop} (hb : L_X9_button_0 l g h x0 x1 x2 x3  Q) : C_X9_button l g h x0 x1 x2 x3  Q := ax_met rfl (Nat.le_of_ble_eq_true rfl) hb
