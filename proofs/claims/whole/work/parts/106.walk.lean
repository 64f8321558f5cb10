def C_X1_goneFrom (l : Launch) (g : AG) (h : AH) (x0 : Nat) (x1 : Nat) (x2 : Int32)  (Q : Int32 → AH → Prop) : Prop := Ct l g mX1_goneFrom 4 101 194 194 h [.ref x0, .ref x1, .int x2] (ax_QI Q)
def L_X1_goneFrom_0 (l : Launch) (g : AG) (h : AH) (x0 : Nat) (x1 : Nat) (x2 : Int32)  (Q : Int32 → AH → Prop) : Prop := Wp l g mX1_goneFrom 4 101 194 194 194 0 [(0, .ref x0), (1, .ref x1), (2, .int x2)] [] h (FM g 194 194 (ax_QI Q))
def L_X1_goneFrom_13 (l : Launch) (g : AG) (h : AH) (x0 : Nat) (x1 : Nat) (x2 : Int32) (x3 : Int64) (x5 : Int32)  (Q : Int32 → AH → Prop) : Prop := Wp l g mX1_goneFrom 4 101 194 194 194 13 [(0, .ref x0), (1, .ref x1), (2, .int x2), (3, .long x3), (5, .int x5)] [] h (FM g 194 194 (ax_QI Q))
def L_X1_goneFrom_62 (l : Launch) (g : AG) (h : AH) (x0 : Nat) (x1 : Nat) (x2 : Int32) (x3 : Int64) (x5 : Int32) (x6 : Int32)  (Q : Int32 → AH → Prop) : Prop := Wp l g mX1_goneFrom 4 101 194 194 194 62 [(0, .ref x0), (1, .ref x1), (2, .int x2), (3, .long x3), (5, .int x5), (6, .int x6)] [] h (FM g 194 194 (ax_QI Q))
set_option maxRecDepth 100000 in
set_option maxHeartbeats 4000000 in
theorem s_X1_goneFrom_0 {l : Launch} {g : AG} {h : AH} {x0 : Nat} {x1 : Nat} {x2 : Int32}  {Q : Int32 → AH → Prop} (hb : (Is 194 x0 1) ∧ ( (Is 194 (h.2.2 x0 2) 5) ∧ ( (Is 194 (h.2.2 (h.2.2 x0 2) 1) 21) ∧ ( (vp_in x2 (ax_s (h.2.2 (h.2.2 x0 2) 1)).2) ∧ ( ∀ v5 : Int64, v5 = (h.2.1 (h.2.2 (h.2.2 x0 2) 1) x2.toNatClampNeg) → ( L_X1_goneFrom_13 l g h x0 x1 x2 v5 0  Q)))))) : L_X1_goneFrom_0 l g h x0 x1 x2  Q := by
  obtain ⟨i1, hb⟩ := hb
  refine wp_aload_n 0 dX1_goneFrom_0 rfl rfl ?_
  obtain ⟨i2, hb⟩ := hb
  refine wp_getR dX1_goneFrom_1 fl_X1_18 i1 (i2.ne (by decide)) ?_
  obtain ⟨i3, hb⟩ := hb
  refine wp_getR dX1_goneFrom_4 fl_X1_73 i2 (i3.ne (by decide)) ?_
  refine wp_iload_n 2 dX1_goneFrom_7 rfl rfl ?_
  obtain ⟨b4, hb⟩ := hb
  refine wp_laload dX1_goneFrom_8 i3 b4 ?_
  refine wp_topl (fun v5 e6 => ?_)
  have hb := hb v5 e6
  refine wp_lstore_n (lv2 := [(3, .long v5), (0, .ref x0), (1, .ref x1), (2, .int x2)]) dX1_goneFrom_9 rfl (by decide) rfl ?_
  refine wp_iconst (v := 0) dX1_goneFrom_10 (by decide) ?_
  refine wp_istore (lv2 := [(5, .int 0), (3, .long v5), (0, .ref x0), (1, .ref x1), (2, .int x2)]) dX1_goneFrom_11 (by decide) rfl ?_
  exact wp_sub [2, 3, 4, 1, 0] rfl hb
set_option maxRecDepth 100000 in
set_option maxHeartbeats 4000000 in
theorem s_X1_goneFrom_13 {l : Launch} {g : AG} {h : AH} {x0 : Nat} {x1 : Nat} {x2 : Int32} {x3 : Int64} {x5 : Int32}  {Q : Int32 → AH → Prop} (hb : ((27 ≤ x5 → (Q 1 h)) ∧ (¬ (27 ≤ x5) → ((Is 194 x1 0) ∧ ( C_X0_possible l g h x1 x3 x5 (fun r11 h10 => ( ((r11 = 0 → (L_X1_goneFrom_62 l g h10 x0 x1 x2 x3 x5 (-2)  Q)) ∧ (¬ (r11 = 0) → ((Is 194 x0 1) ∧ ( (Is 194 (h10.2.2 x0 2) 5) ∧ ( C_X0_after l g h10 x1 x3 x5 (fun r17 h16 => ( C_X6_meet l g h16 (h10.2.2 x0 2) r17 0 x2 x5 (fun r20 h19 => ( ((¬ r20 = (-1) → (L_X1_goneFrom_62 l g h19 x0 x1 x2 x3 x5 r20  Q)) ∧ (r20 = (-1) → (Q 0 h19))))))))))))))))))) : L_X1_goneFrom_13 l g h x0 x1 x2 x3 x5  Q := by
  refine wp_iload 4 dX1_goneFrom_13 rfl ?_
  refine wp_bipush (v := 27) dX1_goneFrom_15 (by decide) ?_
  refine wp_icmp_ge (tgt := 82) dX1_goneFrom_17 (by decide) (fun c7 => ?_) (fun c7 => ?_)
  · have hb := hb.1 c7
    refine wp_iconst (v := 1) dX1_goneFrom_82 (by decide) ?_
    exact wp_zret rfl dX1_goneFrom_83 (Or.inr rfl) ⟨_, rfl, hb⟩
  · have hb := hb.2 c7
    refine wp_bipush (v := (-2)) dX1_goneFrom_20 (by decide) ?_
    refine wp_istore (lv2 := [(6, .int (-2)), (0, .ref x0), (1, .ref x1), (2, .int x2), (3, .long x3), (5, .int x5)]) dX1_goneFrom_22 (by decide) rfl ?_
    obtain ⟨i8, hb⟩ := hb
    refine wp_aload_n 2 dX1_goneFrom_24 rfl rfl ?_
    refine wp_lload_n 4 dX1_goneFrom_25 rfl rfl ?_
    refine wp_iload 5 dX1_goneFrom_26 rfl ?_
    refine wp_callVN (as := [.long x3, .int x5]) dX1_goneFrom_28 cb_X0_possible lk_X1_77 im_X0_possible se_X0_possible rfl (Nat.le_of_ble_eq_true rfl) ⟨by decide, by decide⟩ ⟨Nat.le_refl _, Nat.le_refl _, Nat.le_refl _⟩ i8 rfl (by decide) hb (fun r0 h10 hb => ?_)
    obtain ⟨r11, rfl, hb⟩ := hb
    refine wp_if_eq (tgt := 62) dX1_goneFrom_31 (by decide) (fun c12 => ?_) (fun c12 => ?_)
    · have hb := hb.1 c12
      exact wp_sub [1, 2, 3, 4, 5, 0] rfl hb
    · have hb := hb.2 c12
      obtain ⟨i13, hb⟩ := hb
      refine wp_aload_n 1 dX1_goneFrom_34 rfl rfl ?_
      obtain ⟨i14, hb⟩ := hb
      refine wp_getR dX1_goneFrom_35 fl_X1_18 i13 (i14.ne (by decide)) ?_
      refine wp_aload_n 2 dX1_goneFrom_38 rfl rfl ?_
      refine wp_lload_n 4 dX1_goneFrom_39 rfl rfl ?_
      refine wp_iload 5 dX1_goneFrom_40 rfl ?_
      refine wp_callVN (as := [.long x3, .int x5]) dX1_goneFrom_42 cb_X0_after lk_X1_81 im_X0_after se_X0_after rfl (Nat.le_of_ble_eq_true rfl) ⟨by decide, by decide⟩ ⟨Nat.le_refl _, Nat.le_refl _, Nat.le_refl _⟩ i8 rfl (by decide) hb (fun r0 h16 hb => ?_)
      obtain ⟨r17, rfl, hb⟩ := hb
      refine wp_lconst (v := 0) dX1_goneFrom_45 (by decide) ?_
      refine wp_iload_n 3 dX1_goneFrom_46 rfl rfl ?_
      refine wp_iload 5 dX1_goneFrom_47 rfl ?_
      refine wp_callVN (as := [.long r17, .long 0, .int x2, .int x5]) dX1_goneFrom_49 cb_X6_meet lk_X1_65 im_X6_meet se_X6_meet rfl (Nat.le_of_ble_eq_true rfl) ⟨by decide, by decide⟩ ⟨Nat.le_refl _, Nat.le_refl _, Nat.le_refl _⟩ i14 rfl (by decide) hb (fun r0 h19 hb => ?_)
      obtain ⟨r20, rfl, hb⟩ := hb
      refine wp_istore (lv2 := [(6, .int r20), (0, .ref x0), (1, .ref x1), (2, .int x2), (3, .long x3), (5, .int x5)]) dX1_goneFrom_52 (by decide) rfl ?_
      refine wp_iload 0 dX1_goneFrom_54 rfl ?_
      refine wp_iconst (v := (-1)) dX1_goneFrom_56 (by decide) ?_
      refine wp_icmp_ne (tgt := 62) dX1_goneFrom_57 (by decide) (fun c21 => ?_) (fun c21 => ?_)
      · have hb := hb.1 c21
        exact wp_sub [1, 2, 3, 4, 5, 0] rfl hb
      · have hb := hb.2 c21
        refine wp_iconst (v := 0) dX1_goneFrom_60 (by decide) ?_
        exact wp_zret rfl dX1_goneFrom_61 (Or.inl rfl) ⟨_, rfl, hb⟩
set_option maxRecDepth 100000 in
set_option maxHeartbeats 4000000 in
theorem s_X1_goneFrom_62 {l : Launch} {g : AG} {h : AH} {x0 : Nat} {x1 : Nat} {x2 : Int32} {x3 : Int64} {x5 : Int32} {x6 : Int32}  {Q : Int32 → AH → Prop} (hb : (Is 194 x0 1) ∧ ( (Is 194 (h.2.2 x0 3) 20) ∧ ( (vp_in ((x2 * 27) + x5) (ax_s (h.2.2 x0 3)).2) ∧ ( ∀ h25 : AH, h25 = ax_setI h (h.2.2 x0 3) ((x2 * 27) + x5).toNatClampNeg x6 → ( ∀ v27 : Int32, v27 = x5 + (1) → ( L_X1_goneFrom_13 l g h25 x0 x1 x2 x3 v27  Q)))))) : L_X1_goneFrom_62 l g h x0 x1 x2 x3 x5 x6  Q := by
  obtain ⟨i22, hb⟩ := hb
  refine wp_aload_n 0 dX1_goneFrom_62 rfl rfl ?_
  obtain ⟨i23, hb⟩ := hb
  refine wp_getR dX1_goneFrom_63 fl_X1_22 i22 (i23.ne (by decide)) ?_
  refine wp_iload_n 2 dX1_goneFrom_66 rfl rfl ?_
  refine wp_bipush (v := 27) dX1_goneFrom_67 (by decide) ?_
  refine wp_imul dX1_goneFrom_69 ?_
  refine wp_iload 4 dX1_goneFrom_70 rfl ?_
  refine wp_iadd dX1_goneFrom_72 ?_
  refine wp_iload 5 dX1_goneFrom_73 rfl ?_
  obtain ⟨b24, hb⟩ := hb
  refine wp_iastore dX1_goneFrom_75 i23 b24 ?_
  refine wp_topH (fun h25 e26 => ?_)
  have hb := hb h25 e26
  obtain ⟨v27, e28⟩ : ∃ y : Int32, y = x5 + (1) := ⟨_, rfl⟩
  have hb := hb v27 e28
  refine wp_iinc (v := v27) (lv2 := [(5, .int v27), (0, .ref x0), (1, .ref x1), (2, .int x2), (3, .long x3), (6, .int x6)]) 4 dX1_goneFrom_76 rfl (by rw [e28]; rfl) (by decide) rfl ?_
  refine wp_goto (tgt := 13) dX1_goneFrom_79 (by decide) ?_
  exact wp_sub [1, 2, 3, 4, 0] rfl hb
theorem c_X1_goneFrom {l : Launch} {g : AG} {h : AH} {x0 : Nat} {x1 : Nat} {x2 : Int32}  {Q : Int32 → AH → Prop} (hb : L_X1_goneFrom_0 l g h x0 x1 x2  Q) : C_X1_goneFrom l g h x0 x1 x2  Q := ax_met rfl rfl (Nat.le_of_ble_eq_true rfl) hb
def C_X1_made (l : Launch) (g : AG) (h : AH) (x0 : Nat) (x1 : Nat) (x2 : Int32)  (Q : Int32 → AH → Prop) : Prop := Ct l g mX1_made 5 127 194 194 h [.ref x0, .ref x1, .int x2] (ax_QI Q)
def L_X1_made_0 (l : Launch) (g : AG) (h : AH) (x0 : Nat) (x1 : Nat) (x2 : Int32)  (Q : Int32 → AH → Prop) : Prop := Wp l g mX1_made 5 127 194 194 194 0 [(0, .ref x0), (1, .ref x1), (2, .int x2)] [] h (FM g 194 194 (ax_QI Q))
def L_X1_made_28 (l : Launch) (g : AG) (h : AH) (x0 : Nat) (x1 : Nat) (x2 : Int32) (x3 : Int32)  (Q : Int32 → AH → Prop) : Prop := Wp l g mX1_made 5 127 194 194 194 28 [(0, .ref x0), (1, .ref x1), (2, .int x2), (3, .int x3)] [] h (FM g 194 194 (ax_QI Q))
set_option maxRecDepth 100000 in
set_option maxHeartbeats 4000000 in
theorem s_X1_made_0 {l : Launch} {g : AG} {h : AH} {x0 : Nat} {x1 : Nat} {x2 : Int32}  {Q : Int32 → AH → Prop} (hb : (Is 194 x0 1) ∧ ( C_X1_drop l g h x0 (fun h3 => ( (Is 194 (h3.2.2 x0 2) 5) ∧ ( C_X6_clear l g h3 (h3.2.2 x0 2) (fun h6 => ( (Is 194 (h6.2.2 x0 2) 5) ∧ ( (Is 194 x1 0) ∧ ( C_X0_beginning l g h6 x1 (fun r11 h10 => ( C_X6_meet l g h10 (h6.2.2 x0 2) r11 0 (-1) (-1) (fun r14 h13 => ( L_X1_made_28 l g h13 x0 x1 x2 0  Q))))))))))))) : L_X1_made_0 l g h x0 x1 x2  Q := by
  obtain ⟨i1, hb⟩ := hb
  refine wp_aload_n 0 dX1_made_0 rfl rfl ?_
  refine wp_callV (as := []) dX1_made_1 cb_X1_drop lk_X1_53 im_X1_drop se_X1_drop rfl (Nat.le_of_ble_eq_true rfl) ⟨by decide, by decide⟩ ⟨Nat.le_refl _, Nat.le_refl _, Nat.le_refl _⟩ i1 rfl (by decide) hb (fun r0 h3 hb => ?_)
  obtain ⟨rfl, hb⟩ := hb
  refine wp_aload_n 0 dX1_made_4 rfl rfl ?_
  obtain ⟨i4, hb⟩ := hb
  refine wp_getR dX1_made_5 fl_X1_18 i1 (i4.ne (by decide)) ?_
  refine wp_callVN (as := []) dX1_made_8 cb_X6_clear lk_X1_56 im_X6_clear se_X6_clear rfl (Nat.le_of_ble_eq_true rfl) ⟨by decide, by decide⟩ ⟨Nat.le_refl _, Nat.le_refl _, Nat.le_refl _⟩ i4 rfl (by decide) hb (fun r0 h6 hb => ?_)
  obtain ⟨rfl, hb⟩ := hb
  refine wp_aload_n 0 dX1_made_11 rfl rfl ?_
  obtain ⟨i7, hb⟩ := hb
  refine wp_getR dX1_made_12 fl_X1_18 i1 (i7.ne (by decide)) ?_
  obtain ⟨i8, hb⟩ := hb
  refine wp_aload_n 1 dX1_made_15 rfl rfl ?_
  refine wp_callVN (as := []) dX1_made_16 cb_X0_beginning lk_X1_59 im_X0_beginning se_X0_beginning rfl (Nat.le_of_ble_eq_true rfl) ⟨by decide, by decide⟩ ⟨Nat.le_refl _, Nat.le_refl _, Nat.le_refl _⟩ i8 rfl (by decide) hb (fun r0 h10 hb => ?_)
  obtain ⟨r11, rfl, hb⟩ := hb
  refine wp_lconst (v := 0) dX1_made_19 (by decide) ?_
  refine wp_iconst (v := (-1)) dX1_made_20 (by decide) ?_
  refine wp_iconst (v := (-1)) dX1_made_21 (by decide) ?_
  refine wp_callVN (as := [.long r11, .long 0, .int (-1), .int (-1)]) dX1_made_22 cb_X6_meet lk_X1_65 im_X6_meet se_X6_meet rfl (Nat.le_of_ble_eq_true rfl) ⟨by decide, by decide⟩ ⟨Nat.le_refl _, Nat.le_refl _, Nat.le_refl _⟩ i7 rfl (by decide) hb (fun r0 h13 hb => ?_)
  obtain ⟨r14, rfl, hb⟩ := hb
  refine wp_pop dX1_made_25 rfl ?_
  refine wp_iconst (v := 0) dX1_made_26 (by decide) ?_
  refine wp_istore_n (lv2 := [(3, .int 0), (0, .ref x0), (1, .ref x1), (2, .int x2)]) dX1_made_27 rfl (by decide) rfl ?_
  exact wp_sub [1, 2, 3, 0] rfl hb
set_option maxRecDepth 100000 in
set_option maxHeartbeats 4000000 in
theorem s_X1_made_28 {l : Launch} {g : AG} {h : AH} {x0 : Nat} {x1 : Nat} {x2 : Int32} {x3 : Int32}  {Q : Int32 → AH → Prop} (hb : (Is 194 x0 1) ∧ ( (Is 194 (h.2.2 x0 2) 5) ∧ ( ((h.1 (h.2.2 x0 2) 0 ≤ x3 → ((Is 194 x1 0) ∧ ( ∀ h19 : AH, h19 = ax_setR h x0 1 x1 → ( ∀ h21 : AH, h21 = ax_setI h19 x0 0 x2 → ( Q 1 h21))))) ∧ (¬ (h.1 (h.2.2 x0 2) 0 ≤ x3) → (((400 ≤ x3 → ((Is 194 x1 0) ∧ ( ∀ h25 : AH, h25 = ax_setR h x0 1 x1 → ( ∀ h27 : AH, h27 = ax_setI h25 x0 0 x2 → ( Q 1 h27))))) ∧ (¬ (400 ≤ x3) → ((Is 194 x1 0) ∧ ( C_X1_goneFrom l g h x0 x1 x3 (fun r32 h31 => ( ((¬ r32 = 0 → (∀ v34 : Int32, v34 = x3 + (1) → ( L_X1_made_28 l g h31 x0 x1 x2 v34  Q))) ∧ (r32 = 0 → (Q 0 h31))))))))))))))) : L_X1_made_28 l g h x0 x1 x2 x3  Q := by
  refine wp_iload_n 3 dX1_made_28 rfl rfl ?_
  obtain ⟨i15, hb⟩ := hb
  refine wp_aload_n 0 dX1_made_29 rfl rfl ?_
  obtain ⟨i16, hb⟩ := hb
  refine wp_getR dX1_made_30 fl_X1_18 i15 (i16.ne (by decide)) ?_
  refine wp_getI dX1_made_33 fl_X1_50 i16 ?_
  refine wp_icmp_ge (tgt := 63) dX1_made_36 (by decide) (fun c17 => ?_) (fun c17 => ?_)
  · have hb := hb.1 c17
    refine wp_aload_n 0 dX1_made_63 rfl rfl ?_
    obtain ⟨i18, hb⟩ := hb
    refine wp_aload_n 1 dX1_made_64 rfl rfl ?_
    refine wp_putR dX1_made_65 fl_X1_42 (Or.inl rfl) i15 (i18.ne (by decide)) ?_
    refine wp_topH (fun h19 e20 => ?_)
    have hb := hb h19 e20
    refine wp_aload_n 0 dX1_made_68 rfl rfl ?_
    refine wp_iload_n 2 dX1_made_69 rfl rfl ?_
    refine wp_putI dX1_made_70 fl_X1_9 (Or.inl rfl) i15 ?_
    refine wp_topH (fun h21 e22 => ?_)
    have hb := hb h21 e22
    refine wp_iconst (v := 1) dX1_made_73 (by decide) ?_
    exact wp_zret rfl dX1_made_74 (Or.inr rfl) ⟨_, rfl, hb⟩
  · have hb := hb.2 c17
    refine wp_iload_n 3 dX1_made_39 rfl rfl ?_
    refine wp_sipush (v := 400) dX1_made_40 (by decide) ?_
    refine wp_icmp_ge (tgt := 63) dX1_made_43 (by decide) (fun c23 => ?_) (fun c23 => ?_)
    · have hb := hb.1 c23
      refine wp_aload_n 0 dX1_made_63 rfl rfl ?_
      obtain ⟨i24, hb⟩ := hb
      refine wp_aload_n 1 dX1_made_64 rfl rfl ?_
      refine wp_putR dX1_made_65 fl_X1_42 (Or.inl rfl) i15 (i24.ne (by decide)) ?_
      refine wp_topH (fun h25 e26 => ?_)
      have hb := hb h25 e26
      refine wp_aload_n 0 dX1_made_68 rfl rfl ?_
      refine wp_iload_n 2 dX1_made_69 rfl rfl ?_
      refine wp_putI dX1_made_70 fl_X1_9 (Or.inl rfl) i15 ?_
      refine wp_topH (fun h27 e28 => ?_)
      have hb := hb h27 e28
      refine wp_iconst (v := 1) dX1_made_73 (by decide) ?_
      exact wp_zret rfl dX1_made_74 (Or.inr rfl) ⟨_, rfl, hb⟩
    · have hb := hb.2 c23
      refine wp_aload_n 0 dX1_made_46 rfl rfl ?_
      obtain ⟨i29, hb⟩ := hb
      refine wp_aload_n 1 dX1_made_47 rfl rfl ?_
      refine wp_iload_n 3 dX1_made_48 rfl rfl ?_
      refine wp_callV (as := [.ref x1, .int x3]) dX1_made_49 cb_X1_goneFrom lk_X1_69 im_X1_goneFrom se_X1_goneFrom rfl (Nat.le_of_ble_eq_true rfl) ⟨by decide, by decide⟩ ⟨Nat.le_refl _, Nat.le_refl _, Nat.le_refl _⟩ i15 rfl (by decide) hb (fun r0 h31 hb => ?_)
      obtain ⟨r32, rfl, hb⟩ := hb
      refine wp_if_ne (tgt := 57) dX1_made_52 (by decide) (fun c33 => ?_) (fun c33 => ?_)
      · have hb := hb.1 c33
        obtain ⟨v34, e35⟩ : ∃ y : Int32, y = x3 + (1) := ⟨_, rfl⟩
        have hb := hb v34 e35
        refine wp_iinc (v := v34) (lv2 := [(3, .int v34), (0, .ref x0), (1, .ref x1), (2, .int x2)]) 3 dX1_made_57 rfl (by rw [e35]; rfl) (by decide) rfl ?_
        refine wp_goto (tgt := 28) dX1_made_60 (by decide) ?_
        exact wp_sub [1, 2, 3, 0] rfl hb
      · have hb := hb.2 c33
        refine wp_iconst (v := 0) dX1_made_55 (by decide) ?_
        exact wp_zret rfl dX1_made_56 (Or.inl rfl) ⟨_, rfl, hb⟩
theorem c_X1_made {l : Launch} {g : AG} {h : AH} {x0 : Nat} {x1 : Nat} {x2 : Int32}  {Q : Int32 → AH → Prop} (hb : L_X1_made_0 l g h x0 x1 x2  Q) : C_X1_made l g h x0 x1 x2  Q := ax_met rfl rfl (Nat.le_of_ble_eq_true rfl) hb
def C_X1_stands (l : Launch) (g : AG) (h : AH) (x0 : Nat)  (Q : Int32 → AH → Prop) : Prop := Ct l g mX1_stands 0 0 194 194 h [.ref x0] (ax_QI Q)
def L_X1_stands_0 (l : Launch) (g : AG) (h : AH) (x0 : Nat)  (Q : Int32 → AH → Prop) : Prop := Wp l g mX1_stands 0 0 194 194 194 0 [(0, .ref x0)] [] h (FM g 194 194 (ax_QI Q))
set_option maxRecDepth 100000 in
set_option maxHeartbeats 4000000 in
theorem s_X1_stands_0 {l : Launch} {g : AG} {h : AH} {x0 : Nat}  {Q : Int32 → AH → Prop} (hb : (Is 194 x0 1) ∧ ( ((h.1 x0 0 = (-1) → (Q 0 h)) ∧ (¬ (h.1 x0 0 = (-1)) → (Q 1 h))))) : L_X1_stands_0 l g h x0  Q := by
  obtain ⟨i1, hb⟩ := hb
  refine wp_aload_n 0 dX1_stands_0 rfl rfl ?_
  refine wp_getI dX1_stands_1 fl_X1_9 i1 ?_
  refine wp_iconst (v := (-1)) dX1_stands_4 (by decide) ?_
  refine wp_icmp_eq (tgt := 12) dX1_stands_5 (by decide) (fun c2 => ?_) (fun c2 => ?_)
  · have hb := hb.1 c2
    refine wp_iconst (v := 0) dX1_stands_12 (by decide) ?_
    exact wp_zret rfl dX1_stands_13 (Or.inl rfl) ⟨_, rfl, hb⟩
  · have hb := hb.2 c2
    refine wp_iconst (v := 1) dX1_stands_8 (by decide) ?_
    refine wp_goto (tgt := 13) dX1_stands_9 (by decide) ?_
    exact wp_zret rfl dX1_stands_13 (Or.inr rfl) ⟨_, rfl, hb⟩
theorem c_X1_stands {l : Launch} {g : AG} {h : AH} {x0 : Nat}  {Q : Int32 → AH → Prop} (hb : L_X1_stands_0 l g h x0  Q) : C_X1_stands l g h x0  Q := ax_met rfl rfl (Nat.le_of_ble_eq_true rfl) hb
def C_X1_many (l : Launch) (g : AG) (h : AH) (x0 : Nat)  (Q : Int32 → AH → Prop) : Prop := Ct l g mX1_many 1 20 194 194 h [.ref x0] (ax_QI Q)
def L_X1_many_0 (l : Launch) (g : AG) (h : AH) (x0 : Nat)  (Q : Int32 → AH → Prop) : Prop := Wp l g mX1_many 1 20 194 194 194 0 [(0, .ref x0)] [] h (FM g 194 194 (ax_QI Q))
set_option maxRecDepth 100000 in
set_option maxHeartbeats 4000000 in
theorem s_X1_many_0 {l : Launch} {g : AG} {h : AH} {x0 : Nat}  {Q : Int32 → AH → Prop} (hb : (Is 194 x0 1) ∧ ( C_X1_stands l g h x0 (fun r4 h3 => ( ((r4 = 0 → (Q 0 h3)) ∧ (¬ (r4 = 0) → ((Is 194 (h3.2.2 x0 2) 5) ∧ ( Q (h3.1 (h3.2.2 x0 2) 0) h3)))))))) : L_X1_many_0 l g h x0  Q := by
  obtain ⟨i1, hb⟩ := hb
  refine wp_aload_n 0 dX1_many_0 rfl rfl ?_
  refine wp_callV (as := []) dX1_many_1 cb_X1_stands lk_X1_46 im_X1_stands se_X1_stands rfl (Nat.le_of_ble_eq_true rfl) ⟨by decide, by decide⟩ ⟨Nat.le_refl _, Nat.le_refl _, Nat.le_refl _⟩ i1 rfl (by decide) hb (fun r0 h3 hb => ?_)
  obtain ⟨r4, rfl, hb⟩ := hb
  refine wp_if_eq (tgt := 17) dX1_many_4 (by decide) (fun c5 => ?_) (fun c5 => ?_)
  · have hb := hb.1 c5
    refine wp_iconst (v := 0) dX1_many_17 (by decide) ?_
    exact wp_iret rfl dX1_many_18 ⟨_, rfl, hb⟩
  · have hb := hb.2 c5
    refine wp_aload_n 0 dX1_many_7 rfl rfl ?_
    obtain ⟨i6, hb⟩ := hb
    refine wp_getR dX1_many_8 fl_X1_18 i1 (i6.ne (by decide)) ?_
    refine wp_getI dX1_many_11 fl_X1_50 i6 ?_
    refine wp_goto (tgt := 18) dX1_many_14 (by decide) ?_
    exact wp_iret rfl dX1_many_18 ⟨_, rfl, hb⟩
theorem c_X1_many {l : Launch} {g : AG} {h : AH} {x0 : Nat}  {Q : Int32 → AH → Prop} (hb : L_X1_many_0 l g h x0  Q) : C_X1_many l g h x0  Q := ax_met rfl rfl (Nat.le_of_ble_eq_true rfl) hb
def C_X9_map (l : Launch) (g : AG) (h : AH) (x0 : Nat) (x1 : Int32)  (Q : Int32 → AH → Prop) : Prop := Ct l g mX9_map 6 150 194 194 h [.ref x0, .int x1] (ax_QI Q)
def L_X9_map_0 (l : Launch) (g : AG) (h : AH) (x0 : Nat) (x1 : Int32)  (Q : Int32 → AH → Prop) : Prop := Wp l g mX9_map 6 150 194 194 194 0 [(0, .ref x0), (1, .int x1)] [] h (FM g 194 194 (ax_QI Q))
set_option maxRecDepth 100000 in
set_option maxHeartbeats 4000000 in
theorem s_X9_map_0 {l : Launch} {g : AG} {h : AH} {x0 : Nat} {x1 : Int32}  {Q : Int32 → AH → Prop} (hb : (Is 194 x0 8) ∧ ( C_X9_has l g h x0 x1 (fun r4 h3 => ( ((¬ r4 = 0 → ((Is 194 (h3.2.2 x0 6) 1) ∧ ( (Is 194 (h3.2.2 x0 2) 24) ∧ ( (vp_in x1 (ax_s (h3.2.2 x0 2)).2) ∧ ( (Is 194 (h3.2.2 (h3.2.2 x0 2) x1.toNatClampNeg) 0) ∧ ( C_X1_made l g h3 (h3.2.2 x0 6) (h3.2.2 (h3.2.2 x0 2) x1.toNatClampNeg) x1 (fun r12 h11 => ( ((¬ r12 = 0 → ((Is 194 (h11.2.2 x0 6) 1) ∧ ( C_X1_many l g h11 (h11.2.2 x0 6) (fun r17 h16 => ( C_X9_granted l g h16 x0 r17 (fun r20 h19 => ( Q r20 h19))))))) ∧ (r12 = 0 → (C_X9_refused l g h11 x0 5 (fun r23 h22 => ( Q r23 h22))))))))))))) ∧ (r4 = 0 → (C_X9_refused l g h3 x0 1 (fun r26 h25 => ( Q r26 h25))))))))) : L_X9_map_0 l g h x0 x1  Q := by
  obtain ⟨i1, hb⟩ := hb
  refine wp_aload_n 0 dX9_map_0 rfl rfl ?_
  refine wp_iload_n 1 dX9_map_1 rfl rfl ?_
  refine wp_callV (as := [.int x1]) dX9_map_2 cb_X9_has lk_X9_106 im_X9_has se_X9_has rfl (Nat.le_of_ble_eq_true rfl) ⟨by decide, by decide⟩ ⟨Nat.le_refl _, Nat.le_refl _, Nat.le_refl _⟩ i1 rfl (by decide) hb (fun r0 h3 hb => ?_)
  obtain ⟨r4, rfl, hb⟩ := hb
  refine wp_if_ne (tgt := 14) dX9_map_5 (by decide) (fun c5 => ?_) (fun c5 => ?_)
  · have hb := hb.1 c5
    refine wp_aload_n 0 dX9_map_14 rfl rfl ?_
    obtain ⟨i6, hb⟩ := hb
    refine wp_getR dX9_map_15 fl_X9_44 i1 (i6.ne (by decide)) ?_
    refine wp_aload_n 0 dX9_map_18 rfl rfl ?_
    obtain ⟨i7, hb⟩ := hb
    refine wp_getR dX9_map_19 fl_X9_20 i1 (i7.ne (by decide)) ?_
    refine wp_iload_n 1 dX9_map_22 rfl rfl ?_
    obtain ⟨b8, hb⟩ := hb
    obtain ⟨i9, hb⟩ := hb
    refine wp_aaload24 dX9_map_23 i7 b8 (i9.ne (by decide)) ?_
    refine wp_iload_n 1 dX9_map_24 rfl rfl ?_
    refine wp_callVN (as := [.ref (h3.2.2 (h3.2.2 x0 2) x1.toNatClampNeg), .int x1]) dX9_map_25 cb_X1_made lk_X9_174 im_X1_made se_X1_made rfl (Nat.le_of_ble_eq_true rfl) ⟨by decide, by decide⟩ ⟨Nat.le_refl _, Nat.le_refl _, Nat.le_refl _⟩ i6 rfl (by decide) hb (fun r0 h11 hb => ?_)
    obtain ⟨r12, rfl, hb⟩ := hb
    refine wp_if_ne (tgt := 37) dX9_map_28 (by decide) (fun c13 => ?_) (fun c13 => ?_)
    · have hb := hb.1 c13
      refine wp_aload_n 0 dX9_map_37 rfl rfl ?_
      refine wp_aload_n 0 dX9_map_38 rfl rfl ?_
      obtain ⟨i14, hb⟩ := hb
      refine wp_getR dX9_map_39 fl_X9_44 i1 (i14.ne (by decide)) ?_
      refine wp_callVN (as := []) dX9_map_42 cb_X1_many lk_X9_178 im_X1_many se_X1_many rfl (Nat.le_of_ble_eq_true rfl) ⟨by decide, by decide⟩ ⟨Nat.le_refl _, Nat.le_refl _, Nat.le_refl _⟩ i14 rfl (by decide) hb (fun r0 h16 hb => ?_)
      obtain ⟨r17, rfl, hb⟩ := hb
      refine wp_callV (as := [.int r17]) dX9_map_45 cb_X9_granted lk_X9_97 im_X9_granted se_X9_granted rfl (Nat.le_of_ble_eq_true rfl) ⟨by decide, by decide⟩ ⟨Nat.le_refl _, Nat.le_refl _, Nat.le_refl _⟩ i1 rfl (by decide) hb (fun r0 h19 hb => ?_)
      obtain ⟨r20, rfl, hb⟩ := hb
      exact wp_iret rfl dX9_map_48 ⟨_, rfl, hb⟩
    · have hb := hb.2 c13
      refine wp_aload_n 0 dX9_map_31 rfl rfl ?_
      refine wp_iconst (v := 5) dX9_map_32 (by decide) ?_
      refine wp_callV (as := [.int 5]) dX9_map_33 cb_X9_refused lk_X9_76 im_X9_refused se_X9_refused rfl (Nat.le_of_ble_eq_true rfl) ⟨by decide, by decide⟩ ⟨Nat.le_refl _, Nat.le_refl _, Nat.le_refl _⟩ i1 rfl (by decide) hb (fun r0 h22 hb => ?_)
      obtain ⟨r23, rfl, hb⟩ := hb
      exact wp_iret rfl dX9_map_36 ⟨_, rfl, hb⟩
  · have hb := hb.2 c5
    refine wp_aload_n 0 dX9_map_8 rfl rfl ?_
    refine wp_iconst (v := 1) dX9_map_9 (by decide) ?_
    refine wp_callV (as := [.int 1]) dX9_map_10 cb_X9_refused lk_X9_76 im_X9_refused se_X9_refused rfl (Nat.le_of_ble_eq_true rfl) ⟨by decide, by decide⟩ ⟨Nat.le_refl _, Nat.le_refl _, Nat.le_refl _⟩ i1 rfl (by decide) hb (fun r0 h25 hb => ?_)
    obtain ⟨r26, rfl, hb⟩ := hb
    exact wp_iret rfl dX9_map_13 ⟨_, rfl, hb⟩
theorem c_X9_map {l : Launch} {g : AG} {h : AH} {x0 : Nat} {x1 : Int32}  {Q : Int32 → AH → Prop} (hb : L_X9_map_0 l g h x0 x1  Q) : C_X9_map l g h x0 x1  Q := ax_met rfl rfl (Nat.le_of_ble_eq_true rfl) hb
def C_X1_waysFrom (l : Launch) (g : AG) (h : AH) (x0 : Nat) (x1 : Int32)  (Q : Int32 → AH → Prop) : Prop := Ct l g mX1_waysFrom 0 0 194 194 h [.ref x0, .int x1] (ax_QI Q)
def L_X1_waysFrom_0 (l : Launch) (g : AG) (h : AH) (x0 : Nat) (x1 : Int32)  (Q : Int32 → AH → Prop) : Prop := Wp l g mX1_waysFrom 0 0 194 194 194 0 [(0, .ref x0), (1, .int x1)] [] h (FM g 194 194 (ax_QI Q))
def L_X1_waysFrom_4 (l : Launch) (g : AG) (h : AH) (x0 : Nat) (x1 : Int32) (x2 : Int32) (x3 : Int32)  (Q : Int32 → AH → Prop) : Prop := Wp l g mX1_waysFrom 0 0 194 194 194 4 [(0, .ref x0), (1, .int x1), (2, .int x2), (3, .int x3)] [] h (FM g 194 194 (ax_QI Q))
set_option maxRecDepth 100000 in
set_option maxHeartbeats 4000000 in
theorem s_X1_waysFrom_0 {l : Launch} {g : AG} {h : AH} {x0 : Nat} {x1 : Int32}  {Q : Int32 → AH → Prop} (hb : L_X1_waysFrom_4 l g h x0 x1 0 0  Q) : L_X1_waysFrom_0 l g h x0 x1  Q := by
  refine wp_iconst (v := 0) dX1_waysFrom_0 (by decide) ?_
  refine wp_istore_n (lv2 := [(2, .int 0), (0, .ref x0), (1, .int x1)]) dX1_waysFrom_1 rfl (by decide) rfl ?_
  refine wp_iconst (v := 0) dX1_waysFrom_2 (by decide) ?_
  refine wp_istore_n (lv2 := [(3, .int 0), (2, .int 0), (0, .ref x0), (1, .int x1)]) dX1_waysFrom_3 rfl (by decide) rfl ?_
  exact wp_sub [2, 3, 1, 0] rfl hb
set_option maxRecDepth 100000 in
set_option maxHeartbeats 4000000 in
theorem s_X1_waysFrom_4 {l : Launch} {g : AG} {h : AH} {x0 : Nat} {x1 : Int32} {x2 : Int32} {x3 : Int32}  {Q : Int32 → AH → Prop} (hb : ((27 ≤ x3 → (Q x2 h)) ∧ (¬ (27 ≤ x3) → ((Is 194 x0 1) ∧ ( (Is 194 (h.2.2 x0 3) 20) ∧ ( (vp_in ((x1 * 27) + x3) (ax_s (h.2.2 x0 3)).2) ∧ ( ((h.1 (h.2.2 x0 3) ((x1 * 27) + x3).toNatClampNeg < 0 → (∀ v6 : Int32, v6 = x3 + (1) → ( L_X1_waysFrom_4 l g h x0 x1 x2 v6  Q))) ∧ (¬ (h.1 (h.2.2 x0 3) ((x1 * 27) + x3).toNatClampNeg < 0) → (∀ v8 : Int32, v8 = x2 + (1) → ( ∀ v10 : Int32, v10 = x3 + (1) → ( L_X1_waysFrom_4 l g h x0 x1 v8 v10  Q)))))))))))) : L_X1_waysFrom_4 l g h x0 x1 x2 x3  Q := by
  refine wp_iload_n 3 dX1_waysFrom_4 rfl rfl ?_
  refine wp_bipush (v := 27) dX1_waysFrom_5 (by decide) ?_
  refine wp_icmp_ge (tgt := 33) dX1_waysFrom_7 (by decide) (fun c1 => ?_) (fun c1 => ?_)
  · have hb := hb.1 c1
    refine wp_iload_n 2 dX1_waysFrom_33 rfl rfl ?_
    exact wp_iret rfl dX1_waysFrom_34 ⟨_, rfl, hb⟩
  · have hb := hb.2 c1
    obtain ⟨i2, hb⟩ := hb
    refine wp_aload_n 0 dX1_waysFrom_10 rfl rfl ?_
    obtain ⟨i3, hb⟩ := hb
    refine wp_getR dX1_waysFrom_11 fl_X1_22 i2 (i3.ne (by decide)) ?_
    refine wp_iload_n 1 dX1_waysFrom_14 rfl rfl ?_
    refine wp_bipush (v := 27) dX1_waysFrom_15 (by decide) ?_
    refine wp_imul dX1_waysFrom_17 ?_
    refine wp_iload_n 3 dX1_waysFrom_18 rfl rfl ?_
    refine wp_iadd dX1_waysFrom_19 ?_
    obtain ⟨b4, hb⟩ := hb
    refine wp_iaload dX1_waysFrom_20 i3 b4 ?_
    refine wp_if_lt (tgt := 27) dX1_waysFrom_21 (by decide) (fun c5 => ?_) (fun c5 => ?_)
    · have hb := hb.1 c5
      obtain ⟨v6, e7⟩ : ∃ y : Int32, y = x3 + (1) := ⟨_, rfl⟩
      have hb := hb v6 e7
      refine wp_iinc (v := v6) (lv2 := [(3, .int v6), (0, .ref x0), (1, .int x1), (2, .int x2)]) 3 dX1_waysFrom_27 rfl (by rw [e7]; rfl) (by decide) rfl ?_
      refine wp_goto (tgt := 4) dX1_waysFrom_30 (by decide) ?_
      exact wp_sub [1, 2, 3, 0] rfl hb
    · have hb := hb.2 c5
      obtain ⟨v8, e9⟩ : ∃ y : Int32, y = x2 + (1) := ⟨_, rfl⟩
      have hb := hb v8 e9
      refine wp_iinc (v := v8) (lv2 := [(2, .int v8), (0, .ref x0), (1, .int x1), (3, .int x3)]) 2 dX1_waysFrom_24 rfl (by rw [e9]; rfl) (by decide) rfl ?_
      obtain ⟨v10, e11⟩ : ∃ y : Int32, y = x3 + (1) := ⟨_, rfl⟩
      have hb := hb v10 e11
      refine wp_iinc (v := v10) (lv2 := [(3, .int v10), (2, .int v8), (0, .ref x0), (1, .int x1)]) 3 dX1_waysFrom_27 rfl (by rw [e11]; rfl) (by decide) rfl ?_
      refine wp_goto (tgt := 4) dX1_waysFrom_30 (by decide) ?_
      exact wp_sub [2, 3, 1, 0] rfl hb
theorem c_X1_waysFrom {l : Launch} {g : AG} {h : AH} {x0 : Nat} {x1 : Int32}  {Q : Int32 → AH → Prop} (hb : L_X1_waysFrom_0 l g h x0 x1  Q) : C_X1_waysFrom l g h x0 x1  Q := ax_met rfl rfl (Nat.le_of_ble_eq_true rfl) hb
def C_X0_shownIn (l : Launch) (g : AG) (h : AH) (x0 : Nat) (x1 : Int64) (x3 : Int32) (x4 : Int32)  (Q : Int32 → AH → Prop) : Prop := Ct l g mX0_shownIn 1 22 194 194 h [.ref x0, .long x1, .int x3, .int x4] (ax_QI Q)
def L_X0_shownIn_0 (l : Launch) (g : AG) (h : AH) (x0 : Nat) (x1 : Int64) (x3 : Int32) (x4 : Int32)  (Q : Int32 → AH → Prop) : Prop := Wp l g mX0_shownIn 1 22 194 194 194 0 [(0, .ref x0), (1, .long x1), (3, .int x3), (4, .int x4)] [] h (FM g 194 194 (ax_QI Q))
set_option maxRecDepth 100000 in
set_option maxHeartbeats 4000000 in
theorem s_X0_shownIn_0 {l : Launch} {g : AG} {h : AH} {x0 : Nat} {x1 : Int64} {x3 : Int32} {x4 : Int32}  {Q : Int32 → AH → Prop} (hb : (Is 194 x0 0) ∧ ( (Is 194 (h.2.2 x0 12) 20) ∧ ( (vp_in ((x3 * 6) + x4) (ax_s (h.2.2 x0 12)).2) ∧ ( C_X3_valueOf l g h x1 (h.1 (h.2.2 x0 12) ((x3 * 6) + x4).toNatClampNeg) (fun r6 h5 => ( Q r6 h5)))))) : L_X0_shownIn_0 l g h x0 x1 x3 x4  Q := by
  refine wp_lload_n 1 dX0_shownIn_0 rfl rfl ?_
  obtain ⟨i1, hb⟩ := hb
  refine wp_aload_n 0 dX0_shownIn_1 rfl rfl ?_
  obtain ⟨i2, hb⟩ := hb
  refine wp_getR dX0_shownIn_2 fl_X0_51 i1 (i2.ne (by decide)) ?_
  refine wp_iload_n 2 dX0_shownIn_5 rfl rfl ?_
  refine wp_bipush (v := 6) dX0_shownIn_6 (by decide) ?_
  refine wp_imul dX0_shownIn_8 ?_
  refine wp_iload 3 dX0_shownIn_9 rfl ?_
  refine wp_iadd dX0_shownIn_11 ?_
  obtain ⟨b3, hb⟩ := hb
  refine wp_iaload dX0_shownIn_12 i2 b3 ?_
  refine wp_callSN (as := [.long x1, .int (h.1 (h.2.2 x0 12) ((x3 * 6) + x4).toNatClampNeg)]) dX0_shownIn_13 cb_X3_valueOf lk_X0_149 st_X3_valueOf rfl (Nat.le_of_ble_eq_true rfl) ⟨by decide, by decide⟩ ⟨Nat.le_refl _, Nat.le_refl _, Nat.le_refl _⟩ hb (fun r0 h5 hb => ?_)
  obtain ⟨r6, rfl, hb⟩ := hb
  exact wp_iret rfl dX0_shownIn_16 ⟨_, rfl, hb⟩
theorem c_X0_shownIn {l : Launch} {g : AG} {h : AH} {x0 : Nat} {x1 : Int64} {x3 : Int32} {x4 : Int32}  {Q : Int32 → AH → Prop} (hb : L_X0_shownIn_0 l g h x0 x1 x3 x4  Q) : C_X0_shownIn l g h x0 x1 x3 x4  Q := ax_met rfl rfl (Nat.le_of_ble_eq_true rfl) hb
def C_X0_viewOf (l : Launch) (g : AG) (h : AH) (x0 : Nat) (x1 : Int64)  (Q : Int64 → AH → Prop) : Prop := Ct l g mX0_viewOf 2 48 194 194 h [.ref x0, .long x1] (ax_QL Q)
def L_X0_viewOf_0 (l : Launch) (g : AG) (h : AH) (x0 : Nat) (x1 : Int64)  (Q : Int64 → AH → Prop) : Prop := Wp l g mX0_viewOf 2 48 194 194 194 0 [(0, .ref x0), (1, .long x1)] [] h (FM g 194 194 (ax_QL Q))
def L_X0_viewOf_23 (l : Launch) (g : AG) (h : AH) (x0 : Nat) (x1 : Int64) (x3 : Int32) (x4 : Int64) (x6 : Int32)  (Q : Int64 → AH → Prop) : Prop := Wp l g mX0_viewOf 2 48 194 194 194 23 [(0, .ref x0), (1, .long x1), (3, .int x3), (4, .long x4), (6, .int x6)] [] h (FM g 194 194 (ax_QL Q))
def L_X0_viewOf_64 (l : Launch) (g : AG) (h : AH) (x0 : Nat) (x1 : Int64) (x3 : Int32) (x4 : Int64) (x6 : Int32)  (Q : Int64 → AH → Prop) : Prop := Wp l g mX0_viewOf 2 48 194 194 194 64 [(0, .ref x0), (1, .long x1), (3, .int x3), (4, .long x4), (6, .int x6)] [] h (FM g 194 194 (ax_QL Q))
set_option maxRecDepth 100000 in
set_option maxHeartbeats 4000000 in
theorem s_X0_viewOf_0 {l : Launch} {g : AG} {h : AH} {x0 : Nat} {x1 : Int64}  {Q : Int64 → AH → Prop} (hb : C_X3_topOf l g h x1 (fun r3 h2 => ( ((¬ r3 = (-1) → (L_X0_viewOf_23 l g h2 x0 x1 r3 0 0  Q)) ∧ (r3 = (-1) → (C_X3_faultOf l g h2 x1 (fun r7 h6 => ( Q ((-r7).toInt64) h6)))))))) : L_X0_viewOf_0 l g h x0 x1  Q := by
  refine wp_lload_n 1 dX0_viewOf_0 rfl rfl ?_
  refine wp_callSN (as := [.long x1]) dX0_viewOf_1 cb_X3_topOf lk_X0_102 st_X3_topOf rfl (Nat.le_of_ble_eq_true rfl) ⟨by decide, by decide⟩ ⟨Nat.le_refl _, Nat.le_refl _, Nat.le_refl _⟩ hb (fun r0 h2 hb => ?_)
  obtain ⟨r3, rfl, hb⟩ := hb
  refine wp_istore_n (lv2 := [(3, .int r3), (0, .ref x0), (1, .long x1)]) dX0_viewOf_4 rfl (by decide) rfl ?_
  refine wp_iload_n 0 dX0_viewOf_5 rfl rfl ?_
  refine wp_iconst (v := (-1)) dX0_viewOf_6 (by decide) ?_
  refine wp_icmp_ne (tgt := 17) dX0_viewOf_7 (by decide) (fun c4 => ?_) (fun c4 => ?_)
  · have hb := hb.1 c4
    refine wp_lconst (v := 0) dX0_viewOf_17 (by decide) ?_
    refine wp_lstore (lv2 := [(4, .long 0), (3, .int r3), (0, .ref x0), (1, .long x1)]) dX0_viewOf_18 (by decide) rfl ?_
    refine wp_iconst (v := 0) dX0_viewOf_20 (by decide) ?_
    refine wp_istore (lv2 := [(6, .int 0), (4, .long 0), (3, .int r3), (0, .ref x0), (1, .long x1)]) dX0_viewOf_21 (by decide) rfl ?_
    exact wp_sub [3, 4, 2, 1, 0] rfl hb
  · have hb := hb.2 c4
    refine wp_lload_n 2 dX0_viewOf_10 rfl rfl ?_
    refine wp_callSN (as := [.long x1]) dX0_viewOf_11 cb_X3_faultOf lk_X0_131 st_X3_faultOf rfl (Nat.le_of_ble_eq_true rfl) ⟨by decide, by decide⟩ ⟨Nat.le_refl _, Nat.le_refl _, Nat.le_refl _⟩ hb (fun r0 h6 hb => ?_)
    obtain ⟨r7, rfl, hb⟩ := hb
    refine wp_ineg dX0_viewOf_14 ?_
    refine wp_i2l dX0_viewOf_15 ?_
    exact wp_lret rfl dX0_viewOf_16 ⟨_, rfl, hb⟩
set_option maxRecDepth 100000 in
set_option maxHeartbeats 4000000 in
theorem s_X0_viewOf_23 {l : Launch} {g : AG} {h : AH} {x0 : Nat} {x1 : Int64} {x3 : Int32} {x4 : Int64} {x6 : Int32}  {Q : Int64 → AH → Prop} (hb : (Is 194 x0 0) ∧ ( (Is 194 (h.2.2 x0 11) 20) ∧ ( (vp_in x3 (ax_s (h.2.2 x0 11)).2) ∧ ( ((h.1 (h.2.2 x0 11) x3.toNatClampNeg ≤ x6 → ((Is 194 (h.2.2 x0 14) 20) ∧ ( (vp_in x3 (ax_s (h.2.2 x0 14)).2) ∧ ( ∀ v14 : Int32, v14 = (h.1 (h.2.2 x0 14) x3.toNatClampNeg) → ( L_X0_viewOf_64 l g h x0 x1 x3 x4 v14  Q))))) ∧ (¬ (h.1 (h.2.2 x0 11) x3.toNatClampNeg ≤ x6) → (C_X0_shownIn l g h x0 x1 x3 x6 (fun r18 h17 => ( ∀ v19 : Int64, v19 = ((jlshl x4 4) ||| r18.toInt64) → ( ∀ v21 : Int32, v21 = x6 + (1) → ( L_X0_viewOf_23 l g h17 x0 x1 x3 v19 v21  Q))))))))))) : L_X0_viewOf_23 l g h x0 x1 x3 x4 x6  Q := by
  refine wp_iload 4 dX0_viewOf_23 rfl ?_
  obtain ⟨i8, hb⟩ := hb
  refine wp_aload_n 0 dX0_viewOf_25 rfl rfl ?_
  obtain ⟨i9, hb⟩ := hb
  refine wp_getR dX0_viewOf_26 fl_X0_48 i8 (i9.ne (by decide)) ?_
  refine wp_iload_n 2 dX0_viewOf_29 rfl rfl ?_
  obtain ⟨b10, hb⟩ := hb
  refine wp_iaload dX0_viewOf_30 i9 b10 ?_
  refine wp_icmp_ge (tgt := 56) dX0_viewOf_31 (by decide) (fun c11 => ?_) (fun c11 => ?_)
  · have hb := hb.1 c11
    refine wp_aload_n 0 dX0_viewOf_56 rfl rfl ?_
    obtain ⟨i12, hb⟩ := hb
    refine wp_getR dX0_viewOf_57 fl_X0_57 i8 (i12.ne (by decide)) ?_
    refine wp_iload_n 2 dX0_viewOf_60 rfl rfl ?_
    obtain ⟨b13, hb⟩ := hb
    refine wp_iaload dX0_viewOf_61 i12 b13 ?_
    refine wp_topi (fun v14 e15 => ?_)
    have hb := hb v14 e15
    refine wp_istore (lv2 := [(6, .int v14), (0, .ref x0), (1, .long x1), (3, .int x3), (4, .long x4)]) dX0_viewOf_62 (by decide) rfl ?_
    exact wp_sub [1, 2, 3, 4, 0] rfl hb
  · have hb := hb.2 c11
    refine wp_lload 3 dX0_viewOf_34 rfl ?_
    refine wp_iconst (v := 4) dX0_viewOf_36 (by decide) ?_
    refine wp_lshl dX0_viewOf_37 ?_
    refine wp_aload_n 0 dX0_viewOf_38 rfl rfl ?_
    refine wp_lload_n 1 dX0_viewOf_39 rfl rfl ?_
    refine wp_iload_n 2 dX0_viewOf_40 rfl rfl ?_
    refine wp_iload 4 dX0_viewOf_41 rfl ?_
    refine wp_callV (as := [.long x1, .int x3, .int x6]) dX0_viewOf_43 cb_X0_shownIn lk_X0_160 im_X0_shownIn se_X0_shownIn rfl (Nat.le_of_ble_eq_true rfl) ⟨by decide, by decide⟩ ⟨Nat.le_refl _, Nat.le_refl _, Nat.le_refl _⟩ i8 rfl (by decide) hb (fun r0 h17 hb => ?_)
    obtain ⟨r18, rfl, hb⟩ := hb
    refine wp_i2l dX0_viewOf_46 ?_
    refine wp_lor dX0_viewOf_47 ?_
    refine wp_topl (fun v19 e20 => ?_)
    have hb := hb v19 e20
    refine wp_lstore (lv2 := [(4, .long v19), (0, .ref x0), (1, .long x1), (3, .int x3), (6, .int x6)]) dX0_viewOf_48 (by decide) rfl ?_
    obtain ⟨v21, e22⟩ : ∃ y : Int32, y = x6 + (1) := ⟨_, rfl⟩
    have hb := hb v21 e22
    refine wp_iinc (v := v21) (lv2 := [(6, .int v21), (4, .long v19), (0, .ref x0), (1, .long x1), (3, .int x3)]) 4 dX0_viewOf_50 rfl (by rw [e22]; rfl) (by decide) rfl ?_
    refine wp_goto (tgt := 23) dX0_viewOf_53 (by decide) ?_
    exact wp_sub [2, 3, 4, 1, 0] rfl hb
set_option maxRecDepth 100000 in
set_option maxHeartbeats 4000000 in
theorem s_X0_viewOf_64 {l : Launch} {g : AG} {h : AH} {x0 : Nat} {x1 : Int64} {x3 : Int32} {x4 : Int64} {x6 : Int32}  {Q : Int64 → AH → Prop} (hb : (Is 194 x0 0) ∧ ( (Is 194 (h.2.2 x0 15) 20) ∧ ( (vp_in x3 (ax_s (h.2.2 x0 15)).2) ∧ ( ((h.1 (h.2.2 x0 15) x3.toNatClampNeg ≤ x6 → (Q ((jlshl x4 3) ||| x3.toInt64) h)) ∧ (¬ (h.1 (h.2.2 x0 15) x3.toNatClampNeg ≤ x6) → ((Is 194 (h.2.2 x0 17) 3) ∧ ( C_X4_hold l g h (h.2.2 x0 17) x6 x1 (fun r30 h29 => ( ((r30 = 0 → (∀ v32 : Int64, v32 = ((jlshl x4 1) ||| ((0 : Int32).toInt64)) → ( ∀ v34 : Int32, v34 = x6 + (1) → ( L_X0_viewOf_64 l g h29 x0 x1 x3 v32 v34  Q)))) ∧ (¬ (r30 = 0) → (∀ v36 : Int64, v36 = ((jlshl x4 1) ||| ((1 : Int32).toInt64)) → ( ∀ v38 : Int32, v38 = x6 + (1) → ( L_X0_viewOf_64 l g h29 x0 x1 x3 v36 v38  Q))))))))))))))) : L_X0_viewOf_64 l g h x0 x1 x3 x4 x6  Q := by
  refine wp_iload 4 dX0_viewOf_64 rfl ?_
  obtain ⟨i23, hb⟩ := hb
  refine wp_aload_n 0 dX0_viewOf_66 rfl rfl ?_
  obtain ⟨i24, hb⟩ := hb
  refine wp_getR dX0_viewOf_67 fl_X0_60 i23 (i24.ne (by decide)) ?_
  refine wp_iload_n 2 dX0_viewOf_70 rfl rfl ?_
  obtain ⟨b25, hb⟩ := hb
  refine wp_iaload dX0_viewOf_71 i24 b25 ?_
  refine wp_icmp_ge (tgt := 107) dX0_viewOf_72 (by decide) (fun c26 => ?_) (fun c26 => ?_)
  · have hb := hb.1 c26
    refine wp_lload 3 dX0_viewOf_107 rfl ?_
    refine wp_iconst (v := 3) dX0_viewOf_109 (by decide) ?_
    refine wp_lshl dX0_viewOf_110 ?_
    refine wp_iload_n 2 dX0_viewOf_111 rfl rfl ?_
    refine wp_i2l dX0_viewOf_112 ?_
    refine wp_lor dX0_viewOf_113 ?_
    exact wp_lret rfl dX0_viewOf_114 ⟨_, rfl, hb⟩
  · have hb := hb.2 c26
    refine wp_lload 3 dX0_viewOf_75 rfl ?_
    refine wp_iconst (v := 1) dX0_viewOf_77 (by decide) ?_
    refine wp_lshl dX0_viewOf_78 ?_
    refine wp_aload_n 0 dX0_viewOf_79 rfl rfl ?_
    obtain ⟨i27, hb⟩ := hb
    refine wp_getR dX0_viewOf_80 fl_X0_69 i23 (i27.ne (by decide)) ?_
    refine wp_iload 4 dX0_viewOf_83 rfl ?_
    refine wp_lload_n 1 dX0_viewOf_85 rfl rfl ?_
    refine wp_callVN (as := [.int x6, .long x1]) dX0_viewOf_86 cb_X4_hold lk_X0_109 im_X4_hold se_X4_hold rfl (Nat.le_of_ble_eq_true rfl) ⟨by decide, by decide⟩ ⟨Nat.le_refl _, Nat.le_refl _, Nat.le_refl _⟩ i27 rfl (by decide) hb (fun r0 h29 hb => ?_)
    obtain ⟨r30, rfl, hb⟩ := hb
    refine wp_if_eq (tgt := 96) dX0_viewOf_89 (by decide) (fun c31 => ?_) (fun c31 => ?_)
    · have hb := hb.1 c31
      refine wp_iconst (v := 0) dX0_viewOf_96 (by decide) ?_
      refine wp_i2l dX0_viewOf_97 ?_
      refine wp_lor dX0_viewOf_98 ?_
      refine wp_topl (fun v32 e33 => ?_)
      have hb := hb v32 e33
      refine wp_lstore (lv2 := [(4, .long v32), (0, .ref x0), (1, .long x1), (3, .int x3), (6, .int x6)]) dX0_viewOf_99 (by decide) rfl ?_
      obtain ⟨v34, e35⟩ : ∃ y : Int32, y = x6 + (1) := ⟨_, rfl⟩
      have hb := hb v34 e35
      refine wp_iinc (v := v34) (lv2 := [(6, .int v34), (4, .long v32), (0, .ref x0), (1, .long x1), (3, .int x3)]) 4 dX0_viewOf_101 rfl (by rw [e35]; rfl) (by decide) rfl ?_
      refine wp_goto (tgt := 64) dX0_viewOf_104 (by decide) ?_
      exact wp_sub [2, 3, 4, 1, 0] rfl hb
    · have hb := hb.2 c31
      refine wp_iconst (v := 1) dX0_viewOf_92 (by decide) ?_
      refine wp_goto (tgt := 97) dX0_viewOf_93 (by decide) ?_
      refine wp_i2l dX0_viewOf_97 ?_
      refine wp_lor dX0_viewOf_98 ?_
      refine wp_topl (fun v36 e37 => ?_)
      have hb := hb v36 e37
      refine wp_lstore (lv2 := [(4, .long v36), (0, .ref x0), (1, .long x1), (3, .int x3), (6, .int x6)]) dX0_viewOf_99 (by decide) rfl ?_
      obtain ⟨v38, e39⟩ : ∃ y : Int32, y = x6 + (1) := ⟨_, rfl⟩
      have hb := hb v38 e39
      refine wp_iinc (v := v38) (lv2 := [(6, .int v38), (4, .long v36), (0, .ref x0), (1, .long x1), (3, .int x3)]) 4 dX0_viewOf_101 rfl (by rw [e39]; rfl) (by decide) rfl ?_
      refine wp_goto (tgt := 64) dX0_viewOf_104 (by decide) ?_
      exact wp_sub [2, 3, 4, 1, 0] rfl hb
theorem c_X0_viewOf {l : Launch} {g : AG} {h : AH} {x0 : Nat} {x1 : Int64}  {Q : Int64 → AH → Prop} (hb : L_X0_viewOf_0 l g h x0 x1  Q) : C_X0_viewOf l g h x0 x1  Q := ax_met rfl rfl (Nat.le_of_ble_eq_true rfl) hb
def C_X1_partByViews (l : Launch) (g : AG) (h : AH) (x0 : Nat)  (Q : AH → Prop) : Prop := Ct l g mX1_partByViews 3 74 194 194 h [.ref x0] (ax_QV Q)
def L_X1_partByViews_0 (l : Launch) (g : AG) (h : AH) (x0 : Nat)  (Q : AH → Prop) : Prop := Wp l g mX1_partByViews 3 74 194 194 194 0 [(0, .ref x0)] [] h (FM g 194 194 (ax_QV Q))
def L_X1_partByViews_9 (l : Launch) (g : AG) (h : AH) (x0 : Nat) (x1 : Int32)  (Q : AH → Prop) : Prop := Wp l g mX1_partByViews 3 74 194 194 194 9 [(0, .ref x0), (1, .int x1)] [] h (FM g 194 194 (ax_QV Q))
def L_X1_partByViews_48 (l : Launch) (g : AG) (h : AH) (x0 : Nat) (x1 : Int32) (x2 : Int64) (s0 : Int32) (Q : AH → Prop) : Prop := Wp l g mX1_partByViews 3 74 194 194 194 48 [(0, .ref x0), (1, .int x1), (2, .long x2)] [.int s0] h (FM g 194 194 (ax_QV Q))
set_option maxRecDepth 100000 in
set_option maxHeartbeats 4000000 in
theorem s_X1_partByViews_0 {l : Launch} {g : AG} {h : AH} {x0 : Nat}  {Q : AH → Prop} (hb : (Is 194 x0 1) ∧ ( (Is 194 (h.2.2 x0 4) 5) ∧ ( C_X6_clear l g h (h.2.2 x0 4) (fun h4 => ( L_X1_partByViews_9 l g h4 x0 0  Q))))) : L_X1_partByViews_0 l g h x0  Q := by
  obtain ⟨i1, hb⟩ := hb
  refine wp_aload_n 0 dX1_partByViews_0 rfl rfl ?_
  obtain ⟨i2, hb⟩ := hb
  refine wp_getR dX1_partByViews_1 fl_X1_26 i1 (i2.ne (by decide)) ?_
  refine wp_callVN (as := []) dX1_partByViews_4 cb_X6_clear lk_X1_56 im_X6_clear se_X6_clear rfl (Nat.le_of_ble_eq_true rfl) ⟨by decide, by decide⟩ ⟨Nat.le_refl _, Nat.le_refl _, Nat.le_refl _⟩ i2 rfl (by decide) hb (fun r0 h4 hb => ?_)
  obtain ⟨rfl, hb⟩ := hb
  refine wp_iconst (v := 0) dX1_partByViews_7 (by decide) ?_
  refine wp_istore_n (lv2 := [(1, .int 0), (0, .ref x0)]) dX1_partByViews_8 rfl (by decide) rfl ?_
  exact wp_sub [1, 0] rfl hb
set_option maxRecDepth 100000 in
set_option maxHeartbeats 4000000 in
theorem s_X1_partByViews_9 {l : Launch} {g : AG} {h : AH} {x0 : Nat} {x1 : Int32}  {Q : AH → Prop} (hb : (Is 194 x0 1) ∧ ( (Is 194 (h.2.2 x0 2) 5) ∧ ( ((h.1 (h.2.2 x0 2) 0 ≤ x1 → ((Is 194 (h.2.2 x0 4) 5) ∧ ( ∀ h9 : AH, h9 = ax_setI h x0 5 (h.1 (h.2.2 x0 4) 0) → ( Q h9)))) ∧ (¬ (h.1 (h.2.2 x0 2) 0 ≤ x1) → ((Is 194 (h.2.2 x0 2) 5) ∧ ( (Is 194 (h.2.2 (h.2.2 x0 2) 1) 21) ∧ ( (vp_in x1 (ax_s (h.2.2 (h.2.2 x0 2) 1)).2) ∧ ( ∀ v14 : Int64, v14 = (h.2.1 (h.2.2 (h.2.2 x0 2) 1) x1.toNatClampNeg) → ( (Is 194 (h.2.2 x0 1) 0) ∧ ( C_X0_possible l g h (h.2.2 x0 1) v14 25 (fun r19 h18 => ( ((r19 = 0 → (L_X1_partByViews_48 l g h18 x0 x1 v14 0 Q)) ∧ (¬ (r19 = 0) → (L_X1_partByViews_48 l g h18 x0 x1 v14 1 Q)))))))))))))))) : L_X1_partByViews_9 l g h x0 x1  Q := by
  refine wp_iload_n 1 dX1_partByViews_9 rfl rfl ?_
  obtain ⟨i5, hb⟩ := hb
  refine wp_aload_n 0 dX1_partByViews_10 rfl rfl ?_
  obtain ⟨i6, hb⟩ := hb
  refine wp_getR dX1_partByViews_11 fl_X1_18 i5 (i6.ne (by decide)) ?_
  refine wp_getI dX1_partByViews_14 fl_X1_50 i6 ?_
  refine wp_icmp_ge (tgt := 82) dX1_partByViews_17 (by decide) (fun c7 => ?_) (fun c7 => ?_)
  · have hb := hb.1 c7
    refine wp_aload_n 0 dX1_partByViews_82 rfl rfl ?_
    refine wp_aload_n 0 dX1_partByViews_83 rfl rfl ?_
    obtain ⟨i8, hb⟩ := hb
    refine wp_getR dX1_partByViews_84 fl_X1_26 i5 (i8.ne (by decide)) ?_
    refine wp_getI dX1_partByViews_87 fl_X1_50 i8 ?_
    refine wp_putI dX1_partByViews_90 fl_X1_29 (Or.inl rfl) i5 ?_
    refine wp_topH (fun h9 e10 => ?_)
    have hb := hb h9 e10
    exact wp_vret rfl dX1_partByViews_93 ⟨rfl, hb⟩
  · have hb := hb.2 c7
    refine wp_aload_n 0 dX1_partByViews_20 rfl rfl ?_
    obtain ⟨i11, hb⟩ := hb
    refine wp_getR dX1_partByViews_21 fl_X1_18 i5 (i11.ne (by decide)) ?_
    obtain ⟨i12, hb⟩ := hb
    refine wp_getR dX1_partByViews_24 fl_X1_73 i11 (i12.ne (by decide)) ?_
    refine wp_iload_n 1 dX1_partByViews_27 rfl rfl ?_
    obtain ⟨b13, hb⟩ := hb
    refine wp_laload dX1_partByViews_28 i12 b13 ?_
    refine wp_topl (fun v14 e15 => ?_)
    have hb := hb v14 e15
    refine wp_lstore_n (lv2 := [(2, .long v14), (0, .ref x0), (1, .int x1)]) dX1_partByViews_29 rfl (by decide) rfl ?_
    refine wp_aload_n 1 dX1_partByViews_30 rfl rfl ?_
    obtain ⟨i16, hb⟩ := hb
    refine wp_getR dX1_partByViews_31 fl_X1_42 i5 (i16.ne (by decide)) ?_
    refine wp_lload_n 0 dX1_partByViews_34 rfl rfl ?_
    refine wp_bipush (v := 25) dX1_partByViews_35 (by decide) ?_
    refine wp_callVN (as := [.long v14, .int 25]) dX1_partByViews_37 cb_X0_possible lk_X1_77 im_X0_possible se_X0_possible rfl (Nat.le_of_ble_eq_true rfl) ⟨by decide, by decide⟩ ⟨Nat.le_refl _, Nat.le_refl _, Nat.le_refl _⟩ i16 rfl (by decide) hb (fun r0 h18 hb => ?_)
    obtain ⟨r19, rfl, hb⟩ := hb
    refine wp_if_eq (tgt := 47) dX1_partByViews_40 (by decide) (fun c20 => ?_) (fun c20 => ?_)
    · have hb := hb.1 c20
      refine wp_iconst (v := 0) dX1_partByViews_47 (by decide) ?_
      exact wp_sub [1, 2, 0] rfl hb
    · have hb := hb.2 c20
      refine wp_iconst (v := 1) dX1_partByViews_43 (by decide) ?_
      refine wp_goto (tgt := 48) dX1_partByViews_44 (by decide) ?_
      exact wp_sub [1, 2, 0] rfl hb
set_option maxRecDepth 100000 in
set_option maxHeartbeats 4000000 in
theorem s_X1_partByViews_48 {l : Launch} {g : AG} {h : AH} {x0 : Nat} {x1 : Int32} {x2 : Int64} {s0 : Int32} {Q : AH → Prop} (hb : (Is 194 x0 1) ∧ ( (Is 194 (h.2.2 x0 6) 20) ∧ ( (Is 194 (h.2.2 x0 4) 5) ∧ ( (Is 194 (h.2.2 x0 1) 0) ∧ ( C_X0_viewOf l g h (h.2.2 x0 1) x2 (fun r27 h26 => ( C_X6_meet l g h26 (h.2.2 x0 4) r27 s0.toInt64 (-1) (-1) (fun r30 h29 => ( (vp_in x1 (ax_s (h.2.2 x0 6)).2) ∧ ( ∀ h32 : AH, h32 = ax_setI h29 (h.2.2 x0 6) x1.toNatClampNeg r30 → ( ∀ v34 : Int32, v34 = x1 + (1) → ( L_X1_partByViews_9 l g h32 x0 v34  Q)))))))))))) : L_X1_partByViews_48 l g h x0 x1 x2 s0 Q := by
  refine wp_istore (lv2 := [(4, .int s0), (0, .ref x0), (1, .int x1), (2, .long x2)]) dX1_partByViews_48 (by decide) rfl ?_
  obtain ⟨i21, hb⟩ := hb
  refine wp_aload_n 1 dX1_partByViews_50 rfl rfl ?_
  obtain ⟨i22, hb⟩ := hb
  refine wp_getR dX1_partByViews_51 fl_X1_32 i21 (i22.ne (by decide)) ?_
  refine wp_iload_n 2 dX1_partByViews_54 rfl rfl ?_
  refine wp_aload_n 1 dX1_partByViews_55 rfl rfl ?_
  obtain ⟨i23, hb⟩ := hb
  refine wp_getR dX1_partByViews_56 fl_X1_26 i21 (i23.ne (by decide)) ?_
  refine wp_aload_n 1 dX1_partByViews_59 rfl rfl ?_
  obtain ⟨i24, hb⟩ := hb
  refine wp_getR dX1_partByViews_60 fl_X1_42 i21 (i24.ne (by decide)) ?_
  refine wp_lload_n 3 dX1_partByViews_63 rfl rfl ?_
  refine wp_callVN (as := [.long x2]) dX1_partByViews_64 cb_X0_viewOf lk_X1_124 im_X0_viewOf se_X0_viewOf rfl (Nat.le_of_ble_eq_true rfl) ⟨by decide, by decide⟩ ⟨Nat.le_refl _, Nat.le_refl _, Nat.le_refl _⟩ i24 rfl (by decide) hb (fun r0 h26 hb => ?_)
  obtain ⟨r27, rfl, hb⟩ := hb
  refine wp_iload 0 dX1_partByViews_67 rfl ?_
  refine wp_i2l dX1_partByViews_69 ?_
  refine wp_iconst (v := (-1)) dX1_partByViews_70 (by decide) ?_
  refine wp_iconst (v := (-1)) dX1_partByViews_71 (by decide) ?_
  refine wp_callVN (as := [.long r27, .long s0.toInt64, .int (-1), .int (-1)]) dX1_partByViews_72 cb_X6_meet lk_X1_65 im_X6_meet se_X6_meet rfl (Nat.le_of_ble_eq_true rfl) ⟨by decide, by decide⟩ ⟨Nat.le_refl _, Nat.le_refl _, Nat.le_refl _⟩ i23 rfl (by decide) hb (fun r0 h29 hb => ?_)
  obtain ⟨r30, rfl, hb⟩ := hb
  obtain ⟨b31, hb⟩ := hb
  refine wp_iastore dX1_partByViews_75 i22 b31 ?_
  refine wp_topH (fun h32 e33 => ?_)
  have hb := hb h32 e33
  obtain ⟨v34, e35⟩ : ∃ y : Int32, y = x1 + (1) := ⟨_, rfl⟩
  have hb := hb v34 e35
  refine wp_iinc (v := v34) (lv2 := [(1, .int v34), (4, .int s0), (0, .ref x0), (2, .long x2)]) 2 dX1_partByViews_76 rfl (by rw [e35]; rfl) (by decide) rfl ?_
  refine wp_goto (tgt := 9) dX1_partByViews_79 (by decide) ?_
  exact wp_sub [2, 0] rfl hb
theorem c_X1_partByViews {l : Launch} {g : AG} {h : AH} {x0 : Nat}  {Q : AH → Prop} (hb : L_X1_partByViews_0 l g h x0  Q) : C_X1_partByViews l g h x0  Q := ax_met rfl rfl (Nat.le_of_ble_eq_true rfl) hb
def C_X1_partedBy (l : Launch) (g : AG) (h : AH) (x0 : Nat) (x1 : Int32)  (Q : Int32 → AH → Prop) : Prop := Ct l g mX1_partedBy 2 60 194 194 h [.ref x0, .int x1] (ax_QI Q)
def L_X1_partedBy_0 (l : Launch) (g : AG) (h : AH) (x0 : Nat) (x1 : Int32)  (Q : Int32 → AH → Prop) : Prop := Wp l g mX1_partedBy 2 60 194 194 194 0 [(0, .ref x0), (1, .int x1)] [] h (FM g 194 194 (ax_QI Q))
def L_X1_partedBy_28 (l : Launch) (g : AG) (h : AH) (x0 : Nat) (x1 : Int32) (x2 : Int32)  (Q : Int32 → AH → Prop) : Prop := Wp l g mX1_partedBy 2 60 194 194 194 28 [(0, .ref x0), (1, .int x1), (2, .int x2)] [] h (FM g 194 194 (ax_QI Q))
set_option maxRecDepth 100000 in
set_option maxHeartbeats 4000000 in
theorem s_X1_partedBy_0 {l : Launch} {g : AG} {h : AH} {x0 : Nat} {x1 : Int32}  {Q : Int32 → AH → Prop} (hb : (Is 194 x0 1) ∧ ( (Is 194 (h.2.2 x0 1) 0) ∧ ( ((x1 < h.1 (h.2.2 x0 1) 1 → ((Is 194 (h.2.2 x0 4) 5) ∧ ( C_X6_clear l g h (h.2.2 x0 4) (fun h6 => ( L_X1_partedBy_28 l g h6 x0 x1 0  Q))))) ∧ (¬ (x1 < h.1 (h.2.2 x0 1) 1) → (((24 ≤ x1 → ((Is 194 (h.2.2 x0 4) 5) ∧ ( C_X6_clear l g h (h.2.2 x0 4) (fun h10 => ( L_X1_partedBy_28 l g h10 x0 x1 0  Q))))) ∧ (¬ (24 ≤ x1) → (Q 0 h))))))))) : L_X1_partedBy_0 l g h x0 x1  Q := by
  refine wp_iload_n 1 dX1_partedBy_0 rfl rfl ?_
  obtain ⟨i1, hb⟩ := hb
  refine wp_aload_n 0 dX1_partedBy_1 rfl rfl ?_
  obtain ⟨i2, hb⟩ := hb
  refine wp_getR dX1_partedBy_2 fl_X1_42 i1 (i2.ne (by decide)) ?_
  refine wp_getI dX1_partedBy_5 fl_X1_104 i2 ?_
  refine wp_icmp_lt (tgt := 19) dX1_partedBy_8 (by decide) (fun c3 => ?_) (fun c3 => ?_)
  · have hb := hb.1 c3
    refine wp_aload_n 0 dX1_partedBy_19 rfl rfl ?_
    obtain ⟨i4, hb⟩ := hb
    refine wp_getR dX1_partedBy_20 fl_X1_26 i1 (i4.ne (by decide)) ?_
    refine wp_callVN (as := []) dX1_partedBy_23 cb_X6_clear lk_X1_56 im_X6_clear se_X6_clear rfl (Nat.le_of_ble_eq_true rfl) ⟨by decide, by decide⟩ ⟨Nat.le_refl _, Nat.le_refl _, Nat.le_refl _⟩ i4 rfl (by decide) hb (fun r0 h6 hb => ?_)
    obtain ⟨rfl, hb⟩ := hb
    refine wp_iconst (v := 0) dX1_partedBy_26 (by decide) ?_
    refine wp_istore_n (lv2 := [(2, .int 0), (0, .ref x0), (1, .int x1)]) dX1_partedBy_27 rfl (by decide) rfl ?_
    exact wp_sub [1, 2, 0] rfl hb
  · have hb := hb.2 c3
    refine wp_iload_n 1 dX1_partedBy_11 rfl rfl ?_
    refine wp_bipush (v := 24) dX1_partedBy_12 (by decide) ?_
    refine wp_icmp_ge (tgt := 19) dX1_partedBy_14 (by decide) (fun c7 => ?_) (fun c7 => ?_)
    · have hb := hb.1 c7
      refine wp_aload_n 0 dX1_partedBy_19 rfl rfl ?_
      obtain ⟨i8, hb⟩ := hb
      refine wp_getR dX1_partedBy_20 fl_X1_26 i1 (i8.ne (by decide)) ?_
      refine wp_callVN (as := []) dX1_partedBy_23 cb_X6_clear lk_X1_56 im_X6_clear se_X6_clear rfl (Nat.le_of_ble_eq_true rfl) ⟨by decide, by decide⟩ ⟨Nat.le_refl _, Nat.le_refl _, Nat.le_refl _⟩ i8 rfl (by decide) hb (fun r0 h10 hb => ?_)
      obtain ⟨rfl, hb⟩ := hb
      refine wp_iconst (v := 0) dX1_partedBy_26 (by decide) ?_
      refine wp_istore_n (lv2 := [(2, .int 0), (0, .ref x0), (1, .int x1)]) dX1_partedBy_27 rfl (by decide) rfl ?_
      exact wp_sub [1, 2, 0] rfl hb
    · have hb := hb.2 c7
      refine wp_iconst (v := 0) dX1_partedBy_17 (by decide) ?_
      exact wp_zret rfl dX1_partedBy_18 (Or.inl rfl) ⟨_, rfl, hb⟩
set_option maxRecDepth 100000 in
set_option maxHeartbeats 4000000 in
theorem s_X1_partedBy_28 {l : Launch} {g : AG} {h : AH} {x0 : Nat} {x1 : Int32} {x2 : Int32}  {Q : Int32 → AH → Prop} (hb : (Is 194 x0 1) ∧ ( (Is 194 (h.2.2 x0 2) 5) ∧ ( ((h.1 (h.2.2 x0 2) 0 ≤ x2 → ((Is 194 (h.2.2 x0 7) 20) ∧ ( (Is 194 (h.2.2 x0 6) 20) ∧ ( (Is 194 (h.2.2 x0 2) 5) ∧ ( (¬ h.1 (h.2.2 x0 2) 0 < 0 ∧ (h.1 (h.2.2 x0 2) 0).toNatClampNeg ≤ (ax_s (h.2.2 x0 7)).2 ∧ (h.1 (h.2.2 x0 2) 0).toNatClampNeg ≤ (ax_s (h.2.2 x0 6)).2) ∧ ( ∀ h18 : AH, h18 = ax_copy h (h.2.2 x0 7) (h.2.2 x0 6) (h.1 (h.2.2 x0 2) 0) → ( (Is 194 (h18.2.2 x0 4) 5) ∧ ( ((h18.1 (h18.2.2 x0 4) 0 ≤ h18.1 x0 5 → ((Is 194 (h18.2.2 x0 4) 5) ∧ ( ∀ h23 : AH, h23 = ax_setI h18 x0 5 (h18.1 (h18.2.2 x0 4) 0) → ( Q 0 h23)))) ∧ (¬ (h18.1 (h18.2.2 x0 4) 0 ≤ h18.1 x0 5) → ((Is 194 (h18.2.2 x0 4) 5) ∧ ( ∀ h26 : AH, h26 = ax_setI h18 x0 5 (h18.1 (h18.2.2 x0 4) 0) → ( Q 1 h26))))))))))))) ∧ (¬ (h.1 (h.2.2 x0 2) 0 ≤ x2) → ((Is 194 (h.2.2 x0 3) 20) ∧ ( (vp_in ((x2 * 27) + x1) (ax_s (h.2.2 x0 3)).2) ∧ ( ∀ v30 : Int32, v30 = (h.1 (h.2.2 x0 3) ((x2 * 27) + x1).toNatClampNeg) → ( (Is 194 (h.2.2 x0 7) 20) ∧ ( (Is 194 (h.2.2 x0 4) 5) ∧ ( (Is 194 (h.2.2 x0 6) 20) ∧ ( (vp_in x2 (ax_s (h.2.2 x0 6)).2) ∧ ( ((v30 < 0 → (C_X6_meet l g h (h.2.2 x0 4) ((h.1 (h.2.2 x0 6) x2.toNatClampNeg).toInt64) (-1) (-1) (-1) (fun r39 h38 => ( (vp_in x2 (ax_s (h.2.2 x0 7)).2) ∧ ( ∀ h41 : AH, h41 = ax_setI h38 (h.2.2 x0 7) x2.toNatClampNeg r39 → ( ∀ v43 : Int32, v43 = x2 + (1) → ( L_X1_partedBy_28 l g h41 x0 x1 v43  Q))))))) ∧ (¬ (v30 < 0) → ((Is 194 (h.2.2 x0 6) 20) ∧ ( (vp_in v30 (ax_s (h.2.2 x0 6)).2) ∧ ( C_X6_meet l g h (h.2.2 x0 4) ((h.1 (h.2.2 x0 6) x2.toNatClampNeg).toInt64) ((h.1 (h.2.2 x0 6) v30.toNatClampNeg).toInt64) (-1) (-1) (fun r49 h48 => ( (vp_in x2 (ax_s (h.2.2 x0 7)).2) ∧ ( ∀ h51 : AH, h51 = ax_setI h48 (h.2.2 x0 7) x2.toNatClampNeg r49 → ( ∀ v53 : Int32, v53 = x2 + (1) → ( L_X1_partedBy_28 l g h51 x0 x1 v53  Q))))))))))))))))))))))) : L_X1_partedBy_28 l g h x0 x1 x2  Q := by
  refine wp_iload_n 2 dX1_partedBy_28 rfl rfl ?_
  obtain ⟨i11, hb⟩ := hb
  refine wp_aload_n 0 dX1_partedBy_29 rfl rfl ?_
  obtain ⟨i12, hb⟩ := hb
  refine wp_getR dX1_partedBy_30 fl_X1_18 i11 (i12.ne (by decide)) ?_
  refine wp_getI dX1_partedBy_33 fl_X1_50 i12 ?_
  refine wp_icmp_ge (tgt := 96) dX1_partedBy_36 (by decide) (fun c13 => ?_) (fun c13 => ?_)
  · have hb := hb.1 c13
    refine wp_aload_n 0 dX1_partedBy_96 rfl rfl ?_
    obtain ⟨i14, hb⟩ := hb
    refine wp_getR dX1_partedBy_97 fl_X1_35 i11 (i14.ne (by decide)) ?_
    refine wp_iconst (v := 0) dX1_partedBy_100 (by decide) ?_
    refine wp_aload_n 0 dX1_partedBy_101 rfl rfl ?_
    obtain ⟨i15, hb⟩ := hb
    refine wp_getR dX1_partedBy_102 fl_X1_32 i11 (i15.ne (by decide)) ?_
    refine wp_iconst (v := 0) dX1_partedBy_105 (by decide) ?_
    refine wp_aload_n 0 dX1_partedBy_106 rfl rfl ?_
    obtain ⟨i16, hb⟩ := hb
    refine wp_getR dX1_partedBy_107 fl_X1_18 i11 (i16.ne (by decide)) ?_
    refine wp_getI dX1_partedBy_110 fl_X1_50 i16 ?_
    obtain ⟨b17, hb⟩ := hb
    refine wp_copy dX1_partedBy_113 lk_X1_143 i14 i15 b17 (Nat.le_of_ble_eq_true rfl) (by decide) (by decide) ?_
    refine wp_topH (fun h18 e19 => ?_)
    have hb := hb h18 e19
    refine wp_aload_n 0 dX1_partedBy_116 rfl rfl ?_
    obtain ⟨i20, hb⟩ := hb
    refine wp_getR dX1_partedBy_117 fl_X1_26 i11 (i20.ne (by decide)) ?_
    refine wp_getI dX1_partedBy_120 fl_X1_50 i20 ?_
    refine wp_aload_n 0 dX1_partedBy_123 rfl rfl ?_
    refine wp_getI dX1_partedBy_124 fl_X1_29 i11 ?_
    refine wp_icmp_le (tgt := 134) dX1_partedBy_127 (by decide) (fun c21 => ?_) (fun c21 => ?_)
    · have hb := hb.1 c21
      refine wp_iconst (v := 0) dX1_partedBy_134 (by decide) ?_
      refine wp_istore_n (lv2 := [(2, .int 0), (0, .ref x0), (1, .int x1)]) dX1_partedBy_135 rfl (by decide) rfl ?_
      refine wp_aload_n 1 dX1_partedBy_136 rfl rfl ?_
      refine wp_aload_n 1 dX1_partedBy_137 rfl rfl ?_
      obtain ⟨i22, hb⟩ := hb
      refine wp_getR dX1_partedBy_138 fl_X1_26 i11 (i22.ne (by decide)) ?_
      refine wp_getI dX1_partedBy_141 fl_X1_50 i22 ?_
      refine wp_putI dX1_partedBy_144 fl_X1_29 (Or.inl rfl) i11 ?_
      refine wp_topH (fun h23 e24 => ?_)
      have hb := hb h23 e24
      refine wp_iload_n 0 dX1_partedBy_147 rfl rfl ?_
      exact wp_zret rfl dX1_partedBy_148 (Or.inl rfl) ⟨_, rfl, hb⟩
    · have hb := hb.2 c21
      refine wp_iconst (v := 1) dX1_partedBy_130 (by decide) ?_
      refine wp_goto (tgt := 135) dX1_partedBy_131 (by decide) ?_
      refine wp_istore_n (lv2 := [(2, .int 1), (0, .ref x0), (1, .int x1)]) dX1_partedBy_135 rfl (by decide) rfl ?_
      refine wp_aload_n 1 dX1_partedBy_136 rfl rfl ?_
      refine wp_aload_n 1 dX1_partedBy_137 rfl rfl ?_
      obtain ⟨i25, hb⟩ := hb
      refine wp_getR dX1_partedBy_138 fl_X1_26 i11 (i25.ne (by decide)) ?_
      refine wp_getI dX1_partedBy_141 fl_X1_50 i25 ?_
      refine wp_putI dX1_partedBy_144 fl_X1_29 (Or.inl rfl) i11 ?_
      refine wp_topH (fun h26 e27 => ?_)
      have hb := hb h26 e27
      refine wp_iload_n 0 dX1_partedBy_147 rfl rfl ?_
      exact wp_zret rfl dX1_partedBy_148 (Or.inr rfl) ⟨_, rfl, hb⟩
  · have hb := hb.2 c13
    refine wp_aload_n 0 dX1_partedBy_39 rfl rfl ?_
    obtain ⟨i28, hb⟩ := hb
    refine wp_getR dX1_partedBy_40 fl_X1_22 i11 (i28.ne (by decide)) ?_
    refine wp_iload_n 2 dX1_partedBy_43 rfl rfl ?_
    refine wp_bipush (v := 27) dX1_partedBy_44 (by decide) ?_
    refine wp_imul dX1_partedBy_46 ?_
    refine wp_iload_n 1 dX1_partedBy_47 rfl rfl ?_
    refine wp_iadd dX1_partedBy_48 ?_
    obtain ⟨b29, hb⟩ := hb
    refine wp_iaload dX1_partedBy_49 i28 b29 ?_
    refine wp_topi (fun v30 e31 => ?_)
    have hb := hb v30 e31
    refine wp_istore_n (lv2 := [(3, .int v30), (0, .ref x0), (1, .int x1), (2, .int x2)]) dX1_partedBy_50 rfl (by decide) rfl ?_
    refine wp_aload_n 1 dX1_partedBy_51 rfl rfl ?_
    obtain ⟨i32, hb⟩ := hb
    refine wp_getR dX1_partedBy_52 fl_X1_35 i11 (i32.ne (by decide)) ?_
    refine wp_iload_n 3 dX1_partedBy_55 rfl rfl ?_
    refine wp_aload_n 1 dX1_partedBy_56 rfl rfl ?_
    obtain ⟨i33, hb⟩ := hb
    refine wp_getR dX1_partedBy_57 fl_X1_26 i11 (i33.ne (by decide)) ?_
    refine wp_aload_n 1 dX1_partedBy_60 rfl rfl ?_
    obtain ⟨i34, hb⟩ := hb
    refine wp_getR dX1_partedBy_61 fl_X1_32 i11 (i34.ne (by decide)) ?_
    refine wp_iload_n 3 dX1_partedBy_64 rfl rfl ?_
    obtain ⟨b35, hb⟩ := hb
    refine wp_iaload dX1_partedBy_65 i34 b35 ?_
    refine wp_i2l dX1_partedBy_66 ?_
    refine wp_iload_n 0 dX1_partedBy_67 rfl rfl ?_
    refine wp_if_lt (tgt := 81) dX1_partedBy_68 (by decide) (fun c36 => ?_) (fun c36 => ?_)
    · have hb := hb.1 c36
      refine wp_ldc2 (v := (-1)) dX1_partedBy_81 lk_X1_141 ?_
      refine wp_iconst (v := (-1)) dX1_partedBy_84 (by decide) ?_
      refine wp_iconst (v := (-1)) dX1_partedBy_85 (by decide) ?_
      refine wp_callVN (as := [.long ((h.1 (h.2.2 x0 6) x2.toNatClampNeg).toInt64), .long (-1), .int (-1), .int (-1)]) dX1_partedBy_86 cb_X6_meet lk_X1_65 im_X6_meet se_X6_meet rfl (Nat.le_of_ble_eq_true rfl) ⟨by decide, by decide⟩ ⟨Nat.le_refl _, Nat.le_refl _, Nat.le_refl _⟩ i33 rfl (by decide) hb (fun r0 h38 hb => ?_)
      obtain ⟨r39, rfl, hb⟩ := hb
      obtain ⟨b40, hb⟩ := hb
      refine wp_iastore dX1_partedBy_89 i32 b40 ?_
      refine wp_topH (fun h41 e42 => ?_)
      have hb := hb h41 e42
      obtain ⟨v43, e44⟩ : ∃ y : Int32, y = x2 + (1) := ⟨_, rfl⟩
      have hb := hb v43 e44
      refine wp_iinc (v := v43) (lv2 := [(2, .int v43), (3, .int v30), (0, .ref x0), (1, .int x1)]) 3 dX1_partedBy_90 rfl (by rw [e44]; rfl) (by decide) rfl ?_
      refine wp_goto (tgt := 28) dX1_partedBy_93 (by decide) ?_
      exact wp_sub [2, 3, 0] rfl hb
    · have hb := hb.2 c36
      refine wp_aload_n 1 dX1_partedBy_71 rfl rfl ?_
      obtain ⟨i45, hb⟩ := hb
      refine wp_getR dX1_partedBy_72 fl_X1_32 i11 (i45.ne (by decide)) ?_
      refine wp_iload_n 0 dX1_partedBy_75 rfl rfl ?_
      obtain ⟨b46, hb⟩ := hb
      refine wp_iaload dX1_partedBy_76 i45 b46 ?_
      refine wp_i2l dX1_partedBy_77 ?_
      refine wp_goto (tgt := 84) dX1_partedBy_78 (by decide) ?_
      refine wp_iconst (v := (-1)) dX1_partedBy_84 (by decide) ?_
      refine wp_iconst (v := (-1)) dX1_partedBy_85 (by decide) ?_
      refine wp_callVN (as := [.long ((h.1 (h.2.2 x0 6) x2.toNatClampNeg).toInt64), .long ((h.1 (h.2.2 x0 6) v30.toNatClampNeg).toInt64), .int (-1), .int (-1)]) dX1_partedBy_86 cb_X6_meet lk_X1_65 im_X6_meet se_X6_meet rfl (Nat.le_of_ble_eq_true rfl) ⟨by decide, by decide⟩ ⟨Nat.le_refl _, Nat.le_refl _, Nat.le_refl _⟩ i33 rfl (by decide) hb (fun r0 h48 hb => ?_)
      obtain ⟨r49, rfl, hb⟩ := hb
      obtain ⟨b50, hb⟩ := hb
      refine wp_iastore dX1_partedBy_89 i32 b50 ?_
      refine wp_topH (fun h51 e52 => ?_)
      have hb := hb h51 e52
      obtain ⟨v53, e54⟩ : ∃ y : Int32, y = x2 + (1) := ⟨_, rfl⟩
      have hb := hb v53 e54
      refine wp_iinc (v := v53) (lv2 := [(2, .int v53), (3, .int v30), (0, .ref x0), (1, .int x1)]) 3 dX1_partedBy_90 rfl (by rw [e54]; rfl) (by decide) rfl ?_
      refine wp_goto (tgt := 28) dX1_partedBy_93 (by decide) ?_
      exact wp_sub [2, 3, 0] rfl hb
theorem c_X1_partedBy {l : Launch} {g : AG} {h : AH} {x0 : Nat} {x1 : Int32}  {Q : Int32 → AH → Prop} (hb : L_X1_partedBy_0 l g h x0 x1  Q) : C_X1_partedBy l g h x0 x1  Q := ax_met rfl rfl (Nat.le_of_ble_eq_true rfl) hb
def C_X1_partByWays (l : Launch) (g : AG) (h : AH) (x0 : Nat)  (Q : AH → Prop) : Prop := Ct l g mX1_partByWays 3 83 194 194 h [.ref x0] (ax_QV Q)
def L_X1_partByWays_0 (l : Launch) (g : AG) (h : AH) (x0 : Nat)  (Q : AH → Prop) : Prop := Wp l g mX1_partByWays 3 83 194 194 194 0 [(0, .ref x0)] [] h (FM g 194 194 (ax_QV Q))
def L_X1_partByWays_4 (l : Launch) (g : AG) (h : AH) (x0 : Nat) (x1 : Int32) (x2 : Int32)  (Q : AH → Prop) : Prop := Wp l g mX1_partByWays 3 83 194 194 194 4 [(0, .ref x0), (1, .int x1), (2, .int x2)] [] h (FM g 194 194 (ax_QV Q))
set_option maxRecDepth 100000 in
set_option maxHeartbeats 4000000 in
theorem s_X1_partByWays_0 {l : Launch} {g : AG} {h : AH} {x0 : Nat}  {Q : AH → Prop} (hb : L_X1_partByWays_4 l g h x0 0 0  Q) : L_X1_partByWays_0 l g h x0  Q := by
  refine wp_iconst (v := 0) dX1_partByWays_0 (by decide) ?_
  refine wp_istore_n (lv2 := [(1, .int 0), (0, .ref x0)]) dX1_partByWays_1 rfl (by decide) rfl ?_
  refine wp_iconst (v := 0) dX1_partByWays_2 (by decide) ?_
  refine wp_istore_n (lv2 := [(2, .int 0), (1, .int 0), (0, .ref x0)]) dX1_partByWays_3 rfl (by decide) rfl ?_
  exact wp_sub [2, 1, 0] rfl hb
set_option maxRecDepth 100000 in
set_option maxHeartbeats 4000000 in
theorem s_X1_partByWays_4 {l : Launch} {g : AG} {h : AH} {x0 : Nat} {x1 : Int32} {x2 : Int32}  {Q : AH → Prop} (hb : ((27 ≤ x1 → (Q h)) ∧ (¬ (27 ≤ x1) → (((10827 ≤ x2 → (Q h)) ∧ (¬ (10827 ≤ x2) → ((Is 194 x0 1) ∧ ( C_X1_partedBy l g h x0 (jirem x2 27) (fun r6 h5 => ( ((r6 = 0 → (∀ v8 : Int32, v8 = (x1 + 1) → ( ∀ v10 : Int32, v10 = x2 + (1) → ( L_X1_partByWays_4 l g h5 x0 v8 v10  Q)))) ∧ (¬ (r6 = 0) → (∀ v12 : Int32, v12 = x2 + (1) → ( L_X1_partByWays_4 l g h5 x0 0 v12  Q)))))))))))))) : L_X1_partByWays_4 l g h x0 x1 x2  Q := by
  refine wp_iload_n 1 dX1_partByWays_4 rfl rfl ?_
  refine wp_bipush (v := 27) dX1_partByWays_5 (by decide) ?_
  refine wp_icmp_ge (tgt := 42) dX1_partByWays_7 (by decide) (fun c1 => ?_) (fun c1 => ?_)
  · have hb := hb.1 c1
    exact wp_vret rfl dX1_partByWays_42 ⟨rfl, hb⟩
  · have hb := hb.2 c1
    refine wp_iload_n 2 dX1_partByWays_10 rfl rfl ?_
    refine wp_sipush (v := 10827) dX1_partByWays_11 (by decide) ?_
    refine wp_icmp_ge (tgt := 42) dX1_partByWays_14 (by decide) (fun c2 => ?_) (fun c2 => ?_)
    · have hb := hb.1 c2
      exact wp_vret rfl dX1_partByWays_42 ⟨rfl, hb⟩
    · have hb := hb.2 c2
      obtain ⟨i3, hb⟩ := hb
      refine wp_aload_n 0 dX1_partByWays_17 rfl rfl ?_
      refine wp_iload_n 2 dX1_partByWays_18 rfl rfl ?_
      refine wp_bipush (v := 27) dX1_partByWays_19 (by decide) ?_
      refine wp_irem dX1_partByWays_21 (by decide) ?_
      refine wp_callV (as := [.int (jirem x2 27)]) dX1_partByWays_22 cb_X1_partedBy lk_X1_138 im_X1_partedBy se_X1_partedBy rfl (Nat.le_of_ble_eq_true rfl) ⟨by decide, by decide⟩ ⟨Nat.le_refl _, Nat.le_refl _, Nat.le_refl _⟩ i3 rfl (by decide) hb (fun r0 h5 hb => ?_)
      obtain ⟨r6, rfl, hb⟩ := hb
      refine wp_if_eq (tgt := 32) dX1_partByWays_25 (by decide) (fun c7 => ?_) (fun c7 => ?_)
      · have hb := hb.1 c7
        refine wp_iload_n 1 dX1_partByWays_32 rfl rfl ?_
        refine wp_iconst (v := 1) dX1_partByWays_33 (by decide) ?_
        refine wp_iadd dX1_partByWays_34 ?_
        refine wp_topi (fun v8 e9 => ?_)
        have hb := hb v8 e9
        refine wp_istore_n (lv2 := [(1, .int v8), (0, .ref x0), (2, .int x2)]) dX1_partByWays_35 rfl (by decide) rfl ?_
        obtain ⟨v10, e11⟩ : ∃ y : Int32, y = x2 + (1) := ⟨_, rfl⟩
        have hb := hb v10 e11
        refine wp_iinc (v := v10) (lv2 := [(2, .int v10), (1, .int v8), (0, .ref x0)]) 2 dX1_partByWays_36 rfl (by rw [e11]; rfl) (by decide) rfl ?_
        refine wp_goto (tgt := 4) dX1_partByWays_39 (by decide) ?_
        exact wp_sub [2, 1, 0] rfl hb
      · have hb := hb.2 c7
        refine wp_iconst (v := 0) dX1_partByWays_28 (by decide) ?_
        refine wp_goto (tgt := 35) dX1_partByWays_29 (by decide) ?_
        refine wp_istore_n (lv2 := [(1, .int 0), (0, .ref x0), (2, .int x2)]) dX1_partByWays_35 rfl (by decide) rfl ?_
        obtain ⟨v12, e13⟩ : ∃ y : Int32, y = x2 + (1) := ⟨_, rfl⟩
        have hb := hb v12 e13
        refine wp_iinc (v := v12) (lv2 := [(2, .int v12), (1, .int 0), (0, .ref x0)]) 2 dX1_partByWays_36 rfl (by rw [e13]; rfl) (by decide) rfl ?_
        refine wp_goto (tgt := 4) dX1_partByWays_39 (by decide) ?_
        exact wp_sub [2, 1, 0] rfl hb
theorem c_X1_partByWays {l : Launch} {g : AG} {h : AH} {x0 : Nat}  {Q : AH → Prop} (hb : L_X1_partByWays_0 l g h x0  Q) : C_X1_partByWays l g h x0  Q := ax_met rfl rfl (Nat.le_of_ble_eq_true rfl) hb
